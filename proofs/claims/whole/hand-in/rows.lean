section
-- ===== PART A: goes FIRST, ahead of the names: the tables' words, and 'selects' of the private methods out of them =====
/-- a private method of a class that the tables say can be made, by its rows of tables_1 -/
def lw_okq (q : MethodName × Nat) : Prop := (q.1.cls ≠ "java/lang/invoke/MethodHandle" ∧ q.1.cls ≠ "java/lang/invoke/VarHandle") ∧ Cond.instantiable q.1.cls q.2 ∈ tables_1 ∧ Cond.privateMethod q.1 ∈ tables_1 ∧ Cond.instanceMethod q.1 ∈ tables_1
theorem lw_p0 : lw_okq (⟨"UndoShelf", "countNone", "(I)I"⟩, 9) := ⟨⟨by decide +kernel, by decide +kernel⟩, List.mem_of_getElem? (i := 11) (by decide +kernel), List.mem_of_getElem? (i := 52) (by decide +kernel), List.mem_of_getElem? (i := 53) (by decide +kernel)⟩
theorem lw_p1 : lw_okq (⟨"UndoShelf", "isNone", "(II)Z"⟩, 9) := ⟨⟨by decide +kernel, by decide +kernel⟩, List.mem_of_getElem? (i := 11) (by decide +kernel), List.mem_of_getElem? (i := 56) (by decide +kernel), List.mem_of_getElem? (i := 57) (by decide +kernel)⟩
theorem lw_p2 : lw_okq (⟨"java/lang/Throwable", "fillInStackTrace", "(I)Ljava/lang/Throwable;"⟩, 6) := ⟨⟨by decide +kernel, by decide +kernel⟩, List.mem_of_getElem? (i := 107) (by decide +kernel), List.mem_of_getElem? (i := 105) (by decide +kernel), List.mem_of_getElem? (i := 106) (by decide +kernel)⟩
theorem lw_p3 : lw_okq (⟨"UndoShelf", "hasRoomFor", "(I)Z"⟩, 9) := ⟨⟨by decide +kernel, by decide +kernel⟩, List.mem_of_getElem? (i := 11) (by decide +kernel), List.mem_of_getElem? (i := 132) (by decide +kernel), List.mem_of_getElem? (i := 133) (by decide +kernel)⟩
theorem lw_p4 : lw_okq (⟨"UndoShelf", "mayBeInserted", "(III)Z"⟩, 9) := ⟨⟨by decide +kernel, by decide +kernel⟩, List.mem_of_getElem? (i := 11) (by decide +kernel), List.mem_of_getElem? (i := 136) (by decide +kernel), List.mem_of_getElem? (i := 137) (by decide +kernel)⟩
theorem lw_p5 : lw_okq (⟨"UndoShelf", "rowWithKey", "(II)I"⟩, 9) := ⟨⟨by decide +kernel, by decide +kernel⟩, List.mem_of_getElem? (i := 11) (by decide +kernel), List.mem_of_getElem? (i := 140) (by decide +kernel), List.mem_of_getElem? (i := 141) (by decide +kernel)⟩
theorem lw_p6 : lw_okq (⟨"UndoShelf", "holds", "(III)Z"⟩, 9) := ⟨⟨by decide +kernel, by decide +kernel⟩, List.mem_of_getElem? (i := 11) (by decide +kernel), List.mem_of_getElem? (i := 144) (by decide +kernel), List.mem_of_getElem? (i := 145) (by decide +kernel)⟩
theorem lw_p7 : lw_okq (⟨"UndoShelf", "keepChange", "(II)V"⟩, 9) := ⟨⟨by decide +kernel, by decide +kernel⟩, List.mem_of_getElem? (i := 11) (by decide +kernel), List.mem_of_getElem? (i := 163) (by decide +kernel), List.mem_of_getElem? (i := 164) (by decide +kernel)⟩
theorem lw_p8 : lw_okq (⟨"UndoShelf", "isRow", "(I)Z"⟩, 9) := ⟨⟨by decide +kernel, by decide +kernel⟩, List.mem_of_getElem? (i := 11) (by decide +kernel), List.mem_of_getElem? (i := 181) (by decide +kernel), List.mem_of_getElem? (i := 182) (by decide +kernel)⟩
theorem lw_p9 : lw_okq (⟨"UndoShelf", "maySet", "(IIIZ)Z"⟩, 9) := ⟨⟨by decide +kernel, by decide +kernel⟩, List.mem_of_getElem? (i := 11) (by decide +kernel), List.mem_of_getElem? (i := 200) (by decide +kernel), List.mem_of_getElem? (i := 201) (by decide +kernel)⟩
theorem lw_p10 : lw_okq (⟨"UndoShelf", "takeOut", "(I)V"⟩, 9) := ⟨⟨by decide +kernel, by decide +kernel⟩, List.mem_of_getElem? (i := 11) (by decide +kernel), List.mem_of_getElem? (i := 211) (by decide +kernel), List.mem_of_getElem? (i := 212) (by decide +kernel)⟩
theorem lw_p11 : lw_okq (⟨"UndoShelf", "closeRow", "(I)V"⟩, 9) := ⟨⟨by decide +kernel, by decide +kernel⟩, List.mem_of_getElem? (i := 11) (by decide +kernel), List.mem_of_getElem? (i := 215) (by decide +kernel), List.mem_of_getElem? (i := 216) (by decide +kernel)⟩
theorem lw_p12 : lw_okq (⟨"UndoShelf", "countRowsWith", "(II)I"⟩, 9) := ⟨⟨by decide +kernel, by decide +kernel⟩, List.mem_of_getElem? (i := 11) (by decide +kernel), List.mem_of_getElem? (i := 226) (by decide +kernel), List.mem_of_getElem? (i := 227) (by decide +kernel)⟩
theorem lw_p13 : lw_okq (⟨"UndoShelf", "latestPoint", "(I)I"⟩, 9) := ⟨⟨by decide +kernel, by decide +kernel⟩, List.mem_of_getElem? (i := 11) (by decide +kernel), List.mem_of_getElem? (i := 258) (by decide +kernel), List.mem_of_getElem? (i := 259) (by decide +kernel)⟩
theorem lw_p14 : lw_okq (⟨"UndoShelf", "undo", "(I)V"⟩, 9) := ⟨⟨by decide +kernel, by decide +kernel⟩, List.mem_of_getElem? (i := 11) (by decide +kernel), List.mem_of_getElem? (i := 262) (by decide +kernel), List.mem_of_getElem? (i := 263) (by decide +kernel)⟩
theorem lw_p15 : lw_okq (⟨"UndoShelf", "openRow", "(I)V"⟩, 9) := ⟨⟨by decide +kernel, by decide +kernel⟩, List.mem_of_getElem? (i := 11) (by decide +kernel), List.mem_of_getElem? (i := 266) (by decide +kernel), List.mem_of_getElem? (i := 267) (by decide +kernel)⟩
def lw_privs_1 : List (MethodName × Nat) := [(⟨"UndoShelf", "countNone", "(I)I"⟩, 9), (⟨"UndoShelf", "isNone", "(II)Z"⟩, 9), (⟨"java/lang/Throwable", "fillInStackTrace", "(I)Ljava/lang/Throwable;"⟩, 6), (⟨"UndoShelf", "hasRoomFor", "(I)Z"⟩, 9), (⟨"UndoShelf", "mayBeInserted", "(III)Z"⟩, 9), (⟨"UndoShelf", "rowWithKey", "(II)I"⟩, 9), (⟨"UndoShelf", "holds", "(III)Z"⟩, 9), (⟨"UndoShelf", "keepChange", "(II)V"⟩, 9), (⟨"UndoShelf", "isRow", "(I)Z"⟩, 9), (⟨"UndoShelf", "maySet", "(IIIZ)Z"⟩, 9), (⟨"UndoShelf", "takeOut", "(I)V"⟩, 9), (⟨"UndoShelf", "closeRow", "(I)V"⟩, 9), (⟨"UndoShelf", "countRowsWith", "(II)I"⟩, 9), (⟨"UndoShelf", "latestPoint", "(I)I"⟩, 9), (⟨"UndoShelf", "undo", "(I)V"⟩, 9), (⟨"UndoShelf", "openRow", "(I)V"⟩, 9)]
theorem lw_r1 : ∀ q ∈ lw_privs_1, lw_okq q := List.forall_mem_cons.mpr ⟨lw_p0, List.forall_mem_cons.mpr ⟨lw_p1, List.forall_mem_cons.mpr ⟨lw_p2, List.forall_mem_cons.mpr ⟨lw_p3, List.forall_mem_cons.mpr ⟨lw_p4, List.forall_mem_cons.mpr ⟨lw_p5, List.forall_mem_cons.mpr ⟨lw_p6, List.forall_mem_cons.mpr ⟨lw_p7, List.forall_mem_cons.mpr ⟨lw_p8, List.forall_mem_cons.mpr ⟨lw_p9, List.forall_mem_cons.mpr ⟨lw_p10, List.forall_mem_cons.mpr ⟨lw_p11, List.forall_mem_cons.mpr ⟨lw_p12, List.forall_mem_cons.mpr ⟨lw_p13, List.forall_mem_cons.mpr ⟨lw_p14, List.forall_mem_cons.mpr ⟨lw_p15, fun _ h => absurd h List.not_mem_nil⟩⟩⟩⟩⟩⟩⟩⟩⟩⟩⟩⟩⟩⟩⟩⟩
theorem lw_p16 : lw_okq (⟨"UndoShelfModel", "no", "(I)I"⟩, 11) := ⟨⟨by decide +kernel, by decide +kernel⟩, List.mem_of_getElem? (i := 277) (by decide +kernel), List.mem_of_getElem? (i := 326) (by decide +kernel), List.mem_of_getElem? (i := 327) (by decide +kernel)⟩
theorem lw_p17 : lw_okq (⟨"UndoShelfModel", "isFull", "(I)Z"⟩, 11) := ⟨⟨by decide +kernel, by decide +kernel⟩, List.mem_of_getElem? (i := 277) (by decide +kernel), List.mem_of_getElem? (i := 330) (by decide +kernel), List.mem_of_getElem? (i := 331) (by decide +kernel)⟩
theorem lw_p18 : lw_okq (⟨"UndoShelfModel", "row", "(II)I"⟩, 11) := ⟨⟨by decide +kernel, by decide +kernel⟩, List.mem_of_getElem? (i := 277) (by decide +kernel), List.mem_of_getElem? (i := 334) (by decide +kernel), List.mem_of_getElem? (i := 335) (by decide +kernel)⟩
theorem lw_p19 : lw_okq (⟨"UndoShelfModel", "changed", "()V"⟩, 11) := ⟨⟨by decide +kernel, by decide +kernel⟩, List.mem_of_getElem? (i := 277) (by decide +kernel), List.mem_of_getElem? (i := 338) (by decide +kernel), List.mem_of_getElem? (i := 339) (by decide +kernel)⟩
theorem lw_p20 : lw_okq (⟨"UndoShelfModel", "isRow", "(I)Z"⟩, 11) := ⟨⟨by decide +kernel, by decide +kernel⟩, List.mem_of_getElem? (i := 277) (by decide +kernel), List.mem_of_getElem? (i := 346) (by decide +kernel), List.mem_of_getElem? (i := 347) (by decide +kernel)⟩
theorem lw_p21 : lw_okq (⟨"UndoShelfModel", "take", "(I)V"⟩, 11) := ⟨⟨by decide +kernel, by decide +kernel⟩, List.mem_of_getElem? (i := 277) (by decide +kernel), List.mem_of_getElem? (i := 354) (by decide +kernel), List.mem_of_getElem? (i := 355) (by decide +kernel)⟩
theorem lw_p22 : lw_okq (⟨"UndoShelfModel", "point", "(I)I"⟩, 11) := ⟨⟨by decide +kernel, by decide +kernel⟩, List.mem_of_getElem? (i := 277) (by decide +kernel), List.mem_of_getElem? (i := 378) (by decide +kernel), List.mem_of_getElem? (i := 379) (by decide +kernel)⟩
theorem lw_p23 : lw_okq (⟨"UndoShelfModel", "nones", "(I)I"⟩, 11) := ⟨⟨by decide +kernel, by decide +kernel⟩, List.mem_of_getElem? (i := 277) (by decide +kernel), List.mem_of_getElem? (i := 390) (by decide +kernel), List.mem_of_getElem? (i := 391) (by decide +kernel)⟩
def lw_privs_2 : List (MethodName × Nat) := [(⟨"UndoShelfModel", "no", "(I)I"⟩, 11), (⟨"UndoShelfModel", "isFull", "(I)Z"⟩, 11), (⟨"UndoShelfModel", "row", "(II)I"⟩, 11), (⟨"UndoShelfModel", "changed", "()V"⟩, 11), (⟨"UndoShelfModel", "isRow", "(I)Z"⟩, 11), (⟨"UndoShelfModel", "take", "(I)V"⟩, 11), (⟨"UndoShelfModel", "point", "(I)I"⟩, 11), (⟨"UndoShelfModel", "nones", "(I)I"⟩, 11)]
theorem lw_r2 : ∀ q ∈ lw_privs_2, lw_okq q := List.forall_mem_cons.mpr ⟨lw_p16, List.forall_mem_cons.mpr ⟨lw_p17, List.forall_mem_cons.mpr ⟨lw_p18, List.forall_mem_cons.mpr ⟨lw_p19, List.forall_mem_cons.mpr ⟨lw_p20, List.forall_mem_cons.mpr ⟨lw_p21, List.forall_mem_cons.mpr ⟨lw_p22, List.forall_mem_cons.mpr ⟨lw_p23, fun _ h => absurd h List.not_mem_nil⟩⟩⟩⟩⟩⟩⟩⟩
def lw_privs : List (MethodName × Nat) := lw_privs_1 ++ (lw_privs_2)
def lw_tbl : List Cond := k2_sels lw_privs ++ tables_1
theorem lw_privs_ok : ∀ q ∈ lw_privs, lw_okq q := by
  show ∀ q ∈ lw_privs_1 ++ (lw_privs_2), lw_okq q
  exact List.forall_mem_append.mpr ⟨lw_r1, lw_r2⟩
end
section
/-! ===== BEGIN words of one list among another's, by their places ===== -/
theorem goodIn_r {big : List Cond} (ws : List Cond) (ps : List Nat) (hp : ws = ps.filterMap (fun i => big[i]?)) (h : ws.all goodWord = true) : GoodIn big ws := by
  intro w hw
  have h1 := List.all_eq_true.mp h w hw
  rw [hp] at hw
  obtain ⟨i, -, hi⟩ := List.mem_filterMap.mp hw
  have hm : w ∈ big := by first | exact List.mem_of_getElem? hi | exact List.getElem?_mem hi
  exact ⟨hm, good_of_word h1⟩
theorem goodIn_app {big a b : List Cond} (ha : GoodIn big a) (hb : GoodIn big b) : GoodIn big (a ++ b) := fun w h => (List.mem_append.mp h).elim (ha w) (hb w)
theorem goodIn_ca {big a b : List Cond} {c : Cond} (ha : GoodIn big (c :: a)) (hb : GoodIn big b) : GoodIn big (c :: (a ++ b)) := fun w h => (List.mem_cons.mp h).elim (fun e => ha w (List.mem_cons.mpr (Or.inl e))) (fun h => (List.mem_append.mp h).elim (fun h => ha w (List.mem_cons.mpr (Or.inr h))) (hb w))
theorem goodIn_sub {big ws : List Cond} (hm : ∀ w ∈ ws, w ∈ big) (h : ws.all goodWord = true) : GoodIn big ws := fun w hw => ⟨hm w hw, good_of_word (List.all_eq_true.mp h w hw)⟩
/-! ===== END ===== -/

/-! ===== BEGIN exceptions that leave a method, and their catching by the caller (launches without stack traces) ===== -/
section VXA
/-! The laws vx_back, vx_callV, vx_callS, vx_callSW, vx_throw0, vx_throwS follow proofs of the library, with one case more: JvmDerived/Free/Laws.lean (Back.of_free), Shelf42/LK1.lean (callV, callS), Shelf/KitTraced.lean (throwNew0V, throwNewS). -/
/-- where a method has thrown q: the class by its name, the cell, what was written, the world -/
def vx_T (XC : String → State → State → Prop) (st : State) (q : Addr) (t : State) (mc ms : Nat) (free : Addr → Prop) : Prop :=
  ∃ (E : String) (ce : Cell) (L : List Loc), XC E st t ∧ t.heap[q]? = some ce ∧ ce.vm = .none ∧ st.vm.findClass E = some ce.cls ∧ st.WarmedH t.vm ∧ st.sameButNew ({ t with vm := st.vm } : State) L mc ms ∧ ∀ z ∈ L, free z.base
def vx_Q (Qc : Array Value → State → Outcome → State → Prop) (XC : String → State → State → Prop) (mc ms : Nat) (free : Addr → Prop) : Array Value → State → Outcome → State → Prop := fun a st o t =>
  (Qc a st o t ∧ ∃ L, FrameEnd st o t L mc ms ∧ ∀ q ∈ L, free q.base) ∨ ∃ q, o = .threw q ∧ vx_T XC st q t mc ms free
/-- a callee that returns or throws -/
def vx_Met (l : Launch) (y : MethodName) (ws : List Cond) (rm : Room) (Pc : Array Value → State → Prop) (Qc : Array Value → State → Outcome → State → Prop) (XC : String → State → State → Prop) (mc ms : Nat) (free : Addr → Prop) : Prop :=
  MetFree l y (headSpec ws rm) Pc (fun _ _ _ _ _ => True) (vx_Q Qc XC mc ms free)
def vx_Post (XC : String → State → State → Prop) (mc ms : Nat) (free : Addr → Prop) : Pt → Array Value → Addr → Pt → Prop := fun A a q B =>
  ∃ (g : JFrame) (mk : MethodId) (t : State) (L : List Loc) (E : String) (ce : Cell), B.U.heap = t.heap ∧ B.U.vm = t.vm ∧ XC E (A.U.calling g mk a) t ∧ t.heap[q]? = some ce ∧ ce.vm = .none ∧ A.U.vm.findClass E = some ce.cls ∧ B.locs = A.locs ++ L ∧ (∀ z ∈ L, free z.base) ∧ B.cells = A.cells + mc ∧ B.slots = A.slots + ms
def vx_Back (l : Launch) (R : Room) (p : Program) (e : Env) (below : List Frame) (s : State) (sargs : Array Value) (y : MethodName) (len W9 : Nat)
    (Pre : Pt → Array Value → Prop) (Post : Pt → Array Value → Option Value → Pt → Prop) (PostX : Pt → Array Value → Addr → Pt → Prop) : Prop :=
  ∀ (m : MethodId) (meth : Method) (c : Code) (A : Pt) (g : JFrame) (ig : Instr) (mk : MethodId) (a : Array Value),
    Stand p l e R s m sargs below meth c A.U A.locs A.cells A.slots → g.method = m → g.locals.size = c.maxLocals → decode c.code g.pc = .ok (ig, len) →
    2 * g.monitorRoom + (g.stack.map fun v => v.category).sum ≤ W9 → A.U.methodNamed? y = some mk → Pre A a →
    (∃ (v : Option Value) (B : Pt), Stand p l e R s m sargs below meth c B.U B.locs B.cells B.slots ∧ Post A a v B ∧
      Steps p.tables e below (doInvoke e (A.U.setTop g) [] mk a).1 (B.U.setTop { g with pc := g.pc + len, stack := v.toList ++ g.stack })) ∨
    (∃ (q : Addr) (B : Pt), Stand p l e R s m sargs below meth c B.U B.locs B.cells B.slots ∧ PostX A a q B ∧
      Steps p.tables e below (doInvoke e (A.U.setTop g) [] mk a).1 ((B.U.setTop g).pushFrame (.throwing q)))
section Payer
variable {l : Launch} {R : Room} {p : Program} {e : Env} {below : List Frame} {s : State} {sargs : Array Value} {y : MethodName} {len W9 : Nat}
theorem vx_back {ws : List Cond} {rm : Room} {Pc : Array Value → State → Prop} {Qc : Array Value → State → Outcome → State → Prop} {XC : String → State → State → Prop} {mc ms : Nat} {free : Addr → Prop} {bytes : ByteArray} {maxL : Nat} {ret : Option FieldType}
    (hM : vx_Met l y ws rm Pc Qc XC mc ms free) (hblind : FrameBlind Pc) (hrc : rm.cells = mc) (hrs : rm.slots = ms)
    (hframes : rm.frames + 1 ≤ R.frames) (hlocals : W9 + (maxL + 11) + rm.locals ≤ R.locals)
    (hws : ∀ w ∈ ws, ∀ a' U, s.WarmedH U.vm → w.before a' U = true) (hcode : Cond.code y bytes maxL ret ∈ ws) (hinit : ∀ a' U, s.WarmedH U.vm → (Cond.initialized y.cls).before a' U = true) :
    vx_Back l R p e below s sargs y len W9 (PreOf R mc ms Pc) (PostOf Qc mc ms free) (vx_Post XC mc ms free) := by
  intro m meth c A g ig mk a X hg hsize hdg hW hn hp
  have h1 : (headSpec ws rm).pre.before a A.U = true := atoms_intro fun w hw => hws w hw _ _ X.warmed
  have h2 : (Cond.code y bytes maxL ret).before a A.U = true := hws _ hcode _ _ X.warmed
  have h3 : (Cond.initialized y.cls).before a A.U = true := hinit _ _ X.warmed
  have h4 : A.cells + (headSpec ws rm).room.cells ≤ R.cells := by rw [show (headSpec ws rm).room.cells = mc from hrc]; exact hp.1
  have h5 : A.slots + (headSpec ws rm).room.slots ≤ R.slots := by rw [show (headSpec ws rm).room.slots = ms from hrs]; exact hp.2.1
  have hPc : Pc a (A.U.calling g mk a) := hblind _ _ _ _ hp.2.2
  obtain ⟨U, Ls, c0, s0⟩ := A
  dsimp only [Pt.U, Pt.locs, Pt.cells, Pt.slots] at h1 h2 h3 h4 h5 X hn hPc ⊢
  obtain ⟨methY, cY, hmY, hcY, -, hlY, -, -, -, -⟩ := Cond.code_spec hn h2
  obtain ⟨kY, hkY, -⟩ := className_of_methodNamed hn
  have hinitY : kY.init = .initialized := Cond.initialized_spec (findClass_of_methodNamed hn) hkY h3
  have h : At U g.method c below := by rw [hg]; exact X.here
  have hlocals9 : W9 + (maxL + 11) + (headSpec ws rm).room.locals ≤ R.locals := hlocals
  have happ : (headSpec ws rm).appliesLoose y e.platform (U.calling g mk a) = true :=
    Spec.appliesLoose_calling (g := g) h hdg hn hkY hinitY
      (X.room_calling (g := g) (R' := (headSpec ws rm).room) hsize hmY hcY hframes (by rw [hlY]; omega) h4 h5) h1
  obtain ⟨mid, hmid⟩ := h.above
  have hfr : (U.setTop g).frames = (.java g :: mid) ++ below := by rw [State.frames_setTop' g h.top, hmid]; rfl
  obtain ⟨o, s₂, hsteps, -, hend, hq⟩ := Steps.callFree hM p X.admits X.cas X.clock (acts := []) hfr happ hPc trivial
  have hq' : vx_Q Qc XC mc ms free a (U.calling g mk a) o s₂ := hq
  rw [State.frames_setTop' g h.top] at hend
  obtain ⟨g₀, hg0⟩ := Option.isSome_iff_exists.mp h.top
  obtain ⟨r, hr⟩ := State.topJava?_eq_some.mp hg0
  have hr' : (({ U with heap := s₂.heap, slotsUsed := s₂.slotsUsed } : State).setVm s₂.vm).frames = .java g₀ :: r := hr
  rcases hq' with ⟨hqc, L, hfe, hL⟩ | ⟨q, rfl, E, ce, L, hx, hce, hcv, hcl, hW₂, hsm, hL⟩
  · obtain ⟨⟨v, rfl⟩, hW₂, e2, q2, q3, q4, q5, q6⟩ := id hfe
    have e3 : s₂ = ({ (U.calling g mk a).setFrames s₂.frames with heap := s₂.heap, slotsUsed := s₂.slotsUsed } : State).setVm s₂.vm := by
      have : s₂ = ({ s₂ with vm := (U.calling g mk a).vm } : State).setVm s₂.vm := rfl
      rw [e2] at this
      exact this
    obtain ⟨c₂, i₂, len₂, hc₂, hd₂, hf₂⟩ := hend
    have hW' : U.WarmedH s₂.vm := hW₂
    have hcc : c₂ = c := by
      have h1 : s₂.code? g.method = U.code? g.method := by
        rw [State.code?_eq, State.code?_eq, hW'.alike.method?]
      exact Option.some.inj (hc₂.symm.trans (h1.trans h.code))
    subst hcc
    have hlen : len₂ = len := by rw [hdg] at hd₂; cases hd₂; rfl
    subst hlen
    have hs₂ : s₂ = (({ U with heap := s₂.heap, slotsUsed := s₂.slotsUsed } : State).setVm s₂.vm).setTop { g with pc := g.pc + len₂, stack := v.toList ++ g.stack } := by
      refine e3.trans ?_
      rw [hf₂, State.calling_eq h.top, State.setFrames_setFrames, State.setTop_of_frames _ hr', hr]
      rfl
    have hsame : U.sameButNew ({ U with heap := s₂.heap, slotsUsed := s₂.slotsUsed } : State) L mc ms := by
      refine ⟨?_, q2, q3, q4, q5, q6⟩
      obtain ⟨t, ht, -⟩ := State.frames_cons hr
      show ({ U with heap := s₂.heap, slotsUsed := s₂.slotsUsed } : State) = { U.setFrames U.frames with heap := s₂.heap, slotsUsed := s₂.slotsUsed }
      rw [State.setFrames_self ht]
    subst hg
    refine Or.inl ⟨v, ⟨(({ U with heap := s₂.heap, slotsUsed := s₂.slotsUsed } : State).setVm s₂.vm), Ls ++ L, c0 + mc, s0 + ms⟩,
      ⟨X.admits, X.cas, X.clock, X.frames, X.room, X.hears, X.method, X.code, (X.here.setHeapUsed s₂.heap s₂.slotsUsed).setVm hW'.alike, X.tail, State.WarmedH.trans X.warmed hW', X.limits, X.bytes, X.same.trans (hsame.setVm s.vm)⟩,
      ⟨g, mk, s₂, L, rfl, rfl, hqc, rfl, hL, rfl, rfl⟩, ?_⟩
    show Steps p.tables e below _ ((({ U with heap := s₂.heap, slotsUsed := s₂.slotsUsed } : State).setVm s₂.vm).setTop { g with pc := g.pc + len₂, stack := v.toList ++ g.stack })
    rw [← hs₂]
    exact hsteps
  · obtain ⟨e2, q2, q3, q4, q5, q6⟩ := id hsm
    have e3 : s₂ = ({ (U.calling g mk a).setFrames s₂.frames with heap := s₂.heap, slotsUsed := s₂.slotsUsed } : State).setVm s₂.vm := by
      have : s₂ = ({ s₂ with vm := (U.calling g mk a).vm } : State).setVm s₂.vm := rfl
      rw [e2] at this
      exact this
    have hf₂ : s₂.frames = .throwing q :: .java g :: U.frames.tail := hend
    have hW' : U.WarmedH s₂.vm := hW₂
    have hs₂ : s₂ = ((({ U with heap := s₂.heap, slotsUsed := s₂.slotsUsed } : State).setVm s₂.vm).setTop g).pushFrame (.throwing q) := by
      refine e3.trans ?_
      rw [hf₂, State.calling_eq h.top, State.setFrames_setFrames, State.pushFrame, State.frames_setTop _ hr', State.setTop_of_frames _ hr', State.setFrames_setFrames, hr]
      rfl
    have hsame : U.sameButNew ({ U with heap := s₂.heap, slotsUsed := s₂.slotsUsed } : State) L mc ms := by
      refine ⟨?_, q2, q3, q4, q5, q6⟩
      obtain ⟨t, ht, -⟩ := State.frames_cons hr
      show ({ U with heap := s₂.heap, slotsUsed := s₂.slotsUsed } : State) = { U.setFrames U.frames with heap := s₂.heap, slotsUsed := s₂.slotsUsed }
      rw [State.setFrames_self ht]
    subst hg
    refine Or.inr ⟨q, ⟨(({ U with heap := s₂.heap, slotsUsed := s₂.slotsUsed } : State).setVm s₂.vm), Ls ++ L, c0 + mc, s0 + ms⟩,
      ⟨X.admits, X.cas, X.clock, X.frames, X.room, X.hears, X.method, X.code, (X.here.setHeapUsed s₂.heap s₂.slotsUsed).setVm hW'.alike, X.tail, State.WarmedH.trans X.warmed hW', X.limits, X.bytes, X.same.trans (hsame.setVm s.vm)⟩,
      ⟨g, mk, s₂, L, E, ce, rfl, rfl, hx, hce, hcv, hcl, rfl, hL, rfl, rfl⟩, ?_⟩
    show Steps p.tables e below _ (((({ U with heap := s₂.heap, slotsUsed := s₂.slotsUsed } : State).setVm s₂.vm).setTop g).pushFrame (.throwing q))
    rw [← hs₂]
    exact hsteps
end Payer
section Calls
variable {p : Program} {l : Launch} {e : Env} {R : Room} {s : State} {m : MethodId} {args : Array Value} {below : List Frame} {meth : Method} {c : Code} {T : State} {locs : List Loc} {cells slots : Nat}
theorem vx_callV (X : Stand p l e R s m args below meth c T locs cells slots) (hexec : p.tables.exec = Jvm.exec) {own C : String} {index : Nat} {y : MethodName} {bytes : ByteArray} {maxL : Nat} {ret : Option FieldType}
    (hown : s.vm.findClass own = some m.cls) (hlink : (Cond.methodLink own index y).before args s = true) (hinst : (Cond.instanceMethod y).before args s = true) (hsel : (Cond.selects C y y).before args s = true)
    (hcode : (Cond.code y bytes maxL ret).before args s = true) (hy : y.cls ≠ "java/lang/invoke/MethodHandle" ∧ y.cls ≠ "java/lang/invoke/VarHandle")
    {W9 : Nat} {Pre : Pt → Array Value → Prop} {Post : Pt → Array Value → Option Value → Pt → Prop} {PostX : Pt → Array Value → Addr → Pt → Prop} (hK : vx_Back l R p e below s args y 3 W9 Pre Post PostX)
    {b : Addr} {cellB : Cell} (hcell : T.heap[b]? = some cellB) (hobj : cellB.vm.isStatics = false) (hcls : s.vm.findClass C = some cellB.cls)
    {g : JFrame} (hg : g.method = m) (hsize : g.locals.size = c.maxLocals) {argsL rest : List Value} (hlen : ∀ sig, parseMethodDescriptor y.desc = some sig → argsL.length = sig.parameters.length)
    (hstack : g.stack = argsL.reverse ++ .ref b :: rest) (hW : 2 * g.monitorRoom + (rest.map fun v => v.category).sum ≤ W9) (hdg : decode c.code g.pc = .ok (.invokevirtual index, 3))
    (hpre : ∀ vm₁, s.WarmedH vm₁ → Pre ⟨T.setVm vm₁, locs, cells, slots⟩ (Value.ref b :: argsL).toArray) :
    (∃ (v : Option Value) (vm₁ : Vm) (B : Pt), s.WarmedH vm₁ ∧ Stand p l e R s m args below meth c B.U B.locs B.cells B.slots ∧ Post ⟨T.setVm vm₁, locs, cells, slots⟩ (Value.ref b :: argsL).toArray v B ∧
      ∀ target, Steps p.tables e below (B.U.setTop { g with pc := g.pc + 3, stack := v.toList ++ rest }) target → Steps p.tables e below (T.setTop g) target) ∨
    (∃ (q : Addr) (vm₁ : Vm) (B : Pt), s.WarmedH vm₁ ∧ Stand p l e R s m args below meth c B.U B.locs B.cells B.slots ∧ PostX ⟨T.setVm vm₁, locs, cells, slots⟩ (Value.ref b :: argsL).toArray q B ∧
      Steps p.tables e below (T.setTop g) ((B.U.setTop { g with stack := rest }).pushFrame (.throwing q))) := by
  obtain ⟨mk, methM, hnamed, hmethM, hstM, habM⟩ := Cond.instanceMethod_spec hinst
  obtain ⟨methM', cM, hmethM', -, -, -, -, -, -, hsigM⟩ := Cond.code_spec hnamed hcode
  cases hmethM.symm.trans hmethM'
  obtain ⟨c2, r2, m2, q1, q2, q3, q4, kP, hkP, hkPi⟩ := Cond.selects_spec hsel
  cases hcls.symm.trans q1
  cases (State.methodFound?_of_named hnamed hy).symm.trans q2
  cases hnamed.symm.trans q3
  have hselP : selectMethod e.platform s.vm cellB.cls mk = .method mk := by rw [Launch.admits_selectMethod X.admits]; exact q4
  obtain ⟨vm₁, X₁, hstep₁⟩ := X.invokevirtual hexec hown hlink hnamed hmethM hstM hkP hkPi hy (a := b) (cell := cellB) hcell
    (fun z h => by rw [h] at hobj; cases hobj) hselP hmethM habM hkP hkPi (g := g) hg (argsL := argsL) (rest := rest) (hlen _ hsigM) hstack hdg
  rcases hK m meth c ⟨T.setVm vm₁, locs, cells, slots⟩ { g with stack := rest } (.invokevirtual index) mk (Value.ref b :: argsL).toArray X₁ hg hsize hdg hW (X₁.named hnamed) (hpre vm₁ X₁.warmed) with ⟨v, B, X', hpost, hsteps⟩ | ⟨q, B, X', hpost, hsteps⟩
  · exact Or.inl ⟨v, vm₁, B, X₁.warmed, X', hpost, fun target h => hstep₁ _ fun acts => by rw [doInvoke_state]; exact hsteps.trans h⟩
  · exact Or.inr ⟨q, vm₁, B, X₁.warmed, X', hpost, hstep₁ _ fun acts => by rw [doInvoke_state]; exact hsteps⟩
theorem vx_callS (X : Stand p l e R s m args below meth c T locs cells slots) (hexec : p.tables.exec = Jvm.exec) {own : String} {index : Nat} {y : MethodName} {bytes : ByteArray} {maxL : Nat} {ret : Option FieldType}
    (hown : s.vm.findClass own = some m.cls) (hlink : (Cond.methodLink own index y).before args s = true) (hstat : (Cond.static y).before args s = true) (hinit : (Cond.initialized y.cls).before args s = true)
    (hcode : (Cond.code y bytes maxL ret).before args s = true) (hy : y.cls ≠ "java/lang/invoke/MethodHandle" ∧ y.cls ≠ "java/lang/invoke/VarHandle")
    {W9 : Nat} {Pre : Pt → Array Value → Prop} {Post : Pt → Array Value → Option Value → Pt → Prop} {PostX : Pt → Array Value → Addr → Pt → Prop} (hK : vx_Back l R p e below s args y 3 W9 Pre Post PostX)
    {g : JFrame} (hg : g.method = m) (hsize : g.locals.size = c.maxLocals) {argsL rest : List Value} (hlen : ∀ sig, parseMethodDescriptor y.desc = some sig → argsL.length = sig.parameters.length)
    (hstack : g.stack = argsL.reverse ++ rest) (hW : 2 * g.monitorRoom + (rest.map fun v => v.category).sum ≤ W9) (hdg : decode c.code g.pc = .ok (.invokestatic index, 3))
    (hpre : ∀ vm₁, s.WarmedH vm₁ → Pre ⟨T.setVm vm₁, locs, cells, slots⟩ argsL.toArray) :
    (∃ (v : Option Value) (vm₁ : Vm) (B : Pt), s.WarmedH vm₁ ∧ Stand p l e R s m args below meth c B.U B.locs B.cells B.slots ∧ Post ⟨T.setVm vm₁, locs, cells, slots⟩ argsL.toArray v B ∧
      ∀ target, Steps p.tables e below (B.U.setTop { g with pc := g.pc + 3, stack := v.toList ++ rest }) target → Steps p.tables e below (T.setTop g) target) ∨
    (∃ (q : Addr) (vm₁ : Vm) (B : Pt), s.WarmedH vm₁ ∧ Stand p l e R s m args below meth c B.U B.locs B.cells B.slots ∧ PostX ⟨T.setVm vm₁, locs, cells, slots⟩ argsL.toArray q B ∧
      Steps p.tables e below (T.setTop g) ((B.U.setTop { g with stack := rest }).pushFrame (.throwing q))) := by
  obtain ⟨mk, hnamed⟩ := Cond.code_named hcode
  obtain ⟨methM, cM, hmethM, -, -, -, -, -, -, hsigM⟩ := Cond.code_spec hnamed hcode
  have hstatic : methM.isStatic = true := Cond.static_spec hnamed hmethM hstat
  obtain ⟨kP, hkP, -⟩ := className_of_methodNamed hnamed
  have hinitP : kP.init = .initialized := Cond.initialized_spec (findClass_of_methodNamed hnamed) hkP hinit
  obtain ⟨vm₁, X₁, hstep₁⟩ := X.invokestatic hexec hown hlink hnamed hmethM hstatic hkP hinitP hy (g := g) hg (argsL := argsL) (rest := rest) (hlen _ hsigM) hstack hdg
  rcases hK m meth c ⟨T.setVm vm₁, locs, cells, slots⟩ { g with stack := rest } (.invokestatic index) mk argsL.toArray X₁ hg hsize hdg hW (X₁.named hnamed) (hpre vm₁ X₁.warmed) with ⟨v, B, X', hpost, hsteps⟩ | ⟨q, B, X', hpost, hsteps⟩
  · exact Or.inl ⟨v, vm₁, B, X₁.warmed, X', hpost, fun target h => hstep₁ _ fun acts => by rw [doInvoke_state]; exact hsteps.trans h⟩
  · exact Or.inr ⟨q, vm₁, B, X₁.warmed, X', hpost, hstep₁ _ fun acts => by rw [doInvoke_state]; exact hsteps⟩
end Calls
theorem vx_cls {s : State} {T : State} {vm₁ : Vm} {E : String} {k : ClassId} (hW : s.WarmedH vm₁) (h : (T.setVm vm₁).vm.findClass E = some k) : s.vm.findClass E = some k := by
  have h1 : vm₁.findClass E = some k := h
  rw [hW.alike.findClass] at h1
  exact h1
/-- the method's frame g, with q thrown over it -/
def vx_W (p : Program) (l : Launch) (e : Env) (R : Room) (s : State) (m : MethodId) (args : Array Value) (below : List Frame) (meth : Method) (c : Code) (H : Heap) (locs : List Loc) (cells slots : Nat) (Q : State → Prop) (g : JFrame) (q : Addr) : Prop :=
  ∀ T : State, T.heap = H → Stand p l e R s m args below meth c T locs cells slots → ∃ t, Steps p.tables e below ((T.setTop g).pushFrame (.throwing q)) t ∧ Q t
def vx_Run (p : Program) (l : Launch) (e : Env) (R : Room) (s : State) (m : MethodId) (args : Array Value) (below : List Frame) (meth : Method) (c : Code) (H : Heap) (locs : List Loc) (cells slots mc ms : Nat) (g : JFrame) (rest : List Value) (Qa : State → Outcome → State → Prop) (XC : String → State → State → Prop) (free : Addr → Prop) : Prop :=
  ∀ T : State, T.heap = H → Stand p l e R s m args below meth c T locs cells slots →
    (∃ (v : Option Value) (st₀ t T' : State) (L : List Loc), st₀.heap = H ∧ Stand p l e R s m args below meth c T' (locs ++ L) (cells + mc) (slots + ms) ∧ (∀ q ∈ L, free q.base) ∧ T'.heap = t.heap ∧ T'.vm = t.vm ∧ Qa st₀ (.returned v) t ∧
      Goes p e below T g T' { g with pc := g.pc + 3, stack := v.toList ++ rest }) ∨
    (∃ (q : Addr) (st₀ t T' : State) (L : List Loc) (E : String) (ce : Cell), st₀.heap = H ∧ Stand p l e R s m args below meth c T' (locs ++ L) (cells + mc) (slots + ms) ∧ (∀ z ∈ L, free z.base) ∧ T'.heap = t.heap ∧ T'.vm = t.vm ∧ XC E st₀ t ∧ t.heap[q]? = some ce ∧ ce.vm = .none ∧ s.vm.findClass E = some ce.cls ∧
      Steps p.tables e below (T.setTop g) ((T'.setTop { g with stack := rest }).pushFrame (.throwing q)))
def vx_X {S : Type} (px : S → Prop) (B : String → S → State → Prop) (A : Nat → Prop) : String → State → State → Prop := fun E st t => ∃ u : S, px u ∧ B E u t ∧ va_F A st t
section Runs
variable {p : Program} {l : Launch} {e : Env} {R : Room} {s : State} {m : MethodId} {args : Array Value} {below : List Frame} {meth : Method} {c : Code} {H : Heap} {locs : List Loc} {cells slots : Nat}
variable {y : MethodName} {bytes cc : ByteArray} {maxL nL mc ms n index : Nat} {ret : Option FieldType} {ws : List Cond} {rm : Room} {Pc : Array Value → State → Prop} {Qc : Array Value → State → Outcome → State → Prop} {XC : String → State → State → Prop} {free : Addr → Prop} {Ts : List Cond} {own C : String} {b : Addr} {As rest : List Value} {g : JFrame}
theorem vx_callBack (cb : CallB R s args own index y bytes maxL ret ws rm mc ms n) (hM : vx_Met l y ws rm Pc Qc XC mc ms free) (hbl : FrameBlind Pc) : vx_Back l R p e below s args y 3 8 (PreOf R mc ms Pc) (PostOf Qc mc ms free) (vx_Post XC mc ms free) := by
  obtain ⟨hrc, hrs, hfr, hlo, hws, hcw, -, hini, -⟩ := cb
  exact vx_back (bytes := bytes) (maxL := maxL) (ret := ret) hM hbl hrc hrs hfr hlo hws hcw (fun a' U hW => word_at hW (Or.inl (by first | rfl | simp [Cond.onTables, Cond.keeps, Cond.steady])) hini)
theorem vx_runV (S : CallFix p m c cc nL s args Ts own) (hM : vx_Met l y ws rm Pc Qc XC mc ms free) (cw : CallW R s args own C index y bytes maxL ret ws rm mc ms n) (hp : PreV s H C b Pc As)
    (hg : g.method = m) (hn : As.length = n) (hsize : g.locals.size = nL) (hstack : g.stack = As.reverse ++ .ref b :: rest) (hW : 2 * g.monitorRoom + (rest.map fun v => v.category).sum ≤ 8) (hdg : decode cc g.pc = .ok (.invokevirtual index, 3)) (hf : cells + mc ≤ R.cells ∧ slots + ms ≤ R.slots) :
    vx_Run p l e R s m args below meth c H locs cells slots mc ms g rest (Qc (Value.ref b :: As).toArray) XC free := by
  have hK : vx_Back l R p e below s args y 3 8 (PreOf R mc ms Pc) (PostOf Qc mc ms free) (vx_Post XC mc ms free) := vx_callBack cw.1 hM hp.1
  obtain ⟨⟨-, -, -, -, -, -, hcode, -, hy, hlen, hl⟩, hin, hse⟩ := cw
  obtain ⟨hx, hb, hml, ho, -⟩ := S
  obtain ⟨-, ⟨cellB, hcB, hoB, hclB⟩, hPc⟩ := hp
  intro T hT X
  rcases vx_callV X hx (C := C) (bytes := bytes) (maxL := maxL) (ret := ret) ho hl hin hse hcode hy hK (by rw [hT]; exact hcB) hoB hclB hg (hsize.trans hml.symm) (argsL := As) (rest := rest) (fun sig h => hn.trans (hlen sig h)) hstack hW (by rw [hb]; exact hdg)
    (fun vm₁ hW₁ => ⟨hf.1, hf.2, hPc (T.setVm vm₁) hT hW₁⟩) with ⟨v, vm₁, ⟨U', l2, c2, s2⟩, hW₁, X', ⟨g', mk, t, L, e1, e2, hq, h1, hL, h2, h3⟩, st⟩ | ⟨q, vm₁, ⟨U', l2, c2, s2⟩, hW₁, X', ⟨g', mk, t, L, E, ce, e1, e2, hq, hce, hcv, hcl, h1, hL, h2, h3⟩, st⟩
  · dsimp only [Pt.U, Pt.locs, Pt.cells, Pt.slots] at X' e1 e2 h1 h2 h3 st
    subst h1; subst h2; subst h3
    exact Or.inl ⟨v, (T.setVm vm₁).calling g' mk (Value.ref b :: As).toArray, t, U', L, hT, X', hL, e1, e2, hq, st⟩
  · dsimp only [Pt.U, Pt.locs, Pt.cells, Pt.slots] at X' e1 e2 h1 h2 h3 st hcl
    subst h1; subst h2; subst h3
    exact Or.inr ⟨q, (T.setVm vm₁).calling g' mk (Value.ref b :: As).toArray, t, U', L, E, ce, hT, X', hL, e1, e2, hq, hce, hcv, vx_cls hW₁ hcl, st⟩
theorem vx_runS (S : CallFix p m c cc nL s args Ts own) (hM : vx_Met l y ws rm Pc Qc XC mc ms free) (cw : CallB R s args own index y bytes maxL ret ws rm mc ms n ∧ (Cond.static y).before args s = true) (hp : PreS s H Pc As)
    (hg : g.method = m) (hn : As.length = n) (hsize : g.locals.size = nL) (hstack : g.stack = As.reverse ++ rest) (hW : 2 * g.monitorRoom + (rest.map fun v => v.category).sum ≤ 8) (hdg : decode cc g.pc = .ok (.invokestatic index, 3)) (hf : cells + mc ≤ R.cells ∧ slots + ms ≤ R.slots) :
    vx_Run p l e R s m args below meth c H locs cells slots mc ms g rest (Qc As.toArray) XC free := by
  have hK : vx_Back l R p e below s args y 3 8 (PreOf R mc ms Pc) (PostOf Qc mc ms free) (vx_Post XC mc ms free) := vx_callBack cw.1 hM hp.1
  obtain ⟨⟨-, -, -, -, -, -, hcode, hini, hy, hlen, hl⟩, hstt⟩ := cw
  obtain ⟨hx, hb, hml, ho, -⟩ := S
  intro T hT X
  rcases vx_callS X hx (bytes := bytes) (maxL := maxL) (ret := ret) ho hl hstt hini hcode hy hK hg (hsize.trans hml.symm) (argsL := As) (rest := rest) (fun sig h => hn.trans (hlen sig h)) hstack hW (by rw [hb]; exact hdg)
    (fun vm₁ hW₁ => ⟨hf.1, hf.2, hp.2 (T.setVm vm₁) hT hW₁⟩) with ⟨v, vm₁, ⟨U', l2, c2, s2⟩, hW₁, X', ⟨g', mk, t, L, e1, e2, hq, h1, hL, h2, h3⟩, st⟩ | ⟨q, vm₁, ⟨U', l2, c2, s2⟩, hW₁, X', ⟨g', mk, t, L, E, ce, e1, e2, hq, hce, hcv, hcl, h1, hL, h2, h3⟩, st⟩
  · dsimp only [Pt.U, Pt.locs, Pt.cells, Pt.slots] at X' e1 e2 h1 h2 h3 st
    subst h1; subst h2; subst h3
    exact Or.inl ⟨v, (T.setVm vm₁).calling g' mk As.toArray, t, U', L, hT, X', hL, e1, e2, hq, st⟩
  · dsimp only [Pt.U, Pt.locs, Pt.cells, Pt.slots] at X' e1 e2 h1 h2 h3 st hcl
    subst h1; subst h2; subst h3
    exact Or.inr ⟨q, (T.setVm vm₁).calling g' mk As.toArray, t, U', L, E, ce, hT, X', hL, e1, e2, hq, hce, hcv, vx_cls hW₁ hcl, st⟩
end Runs
section Rows
variable {p : Program} {l : Launch} {e : Env} {R : Room} {s : State} {m : MethodId} {args : Array Value} {below : List Frame} {meth : Method} {c : Code} {H : Heap} {locs : List Loc} {cells slots : Nat} {Q : State → Prop}
variable {mc ms : Nat} {free : Addr → Prop} {A0 A1 : Nat → Prop} {H0 : Heap} {a : Array Value} {pc : Nat} {ls : Array Slot} {st0 rest : List Value}
theorem vx_keep {st₀ t T' : State} {L : List Loc} (h0 : st₀.heap = H) (e1 : T'.heap = t.heap) (hS : va_S A0 H0 H locs) (hA : ∀ q, q < H.size → A1 q → A0 q) (hf : ∀ q, free q → A0 q) (hL : ∀ q ∈ L, free q.base) (hF : va_F A1 st₀ t) :
    H.size ≤ T'.heap.size ∧ (∀ q : Nat, q < H.size → ¬ A1 q → T'.heap[q]? = H[q]?) ∧ va_S A0 H0 T'.heap (locs ++ L) := by
  obtain ⟨hz, hk⟩ := hF
  rw [h0] at hz hk
  exact ⟨by rw [e1]; exact hz, fun q h1 h2 => by rw [e1]; exact hk q h1 h2,
    ⟨Nat.le_trans hS.1 (by rw [e1]; exact hz), fun q h1 h2 => by rw [e1, hk q (Nat.lt_of_lt_of_le h1 hS.1) (fun z => h2 (hA q (Nat.lt_of_lt_of_le h1 hS.1) z))]; exact hS.2.1 q h1 h2, fun q hq => by
      rcases List.mem_append.mp hq with h | h
      · exact hS.2.2 q h
      · exact hf _ (hL q h)⟩⟩
theorem vx_calli {S SX : Type} {post : Int32 → S → Prop} {px : SX → Prop} {B : S → State → Prop} {BX : String → SX → State → Prop} {AX : Nat → Prop} (hr : vx_Run p l e R s m args below meth c H locs cells slots mc ms (F0 m pc ls st0) rest (va_Qi post B A1 a) (vx_X px BX AX) free) (hS : va_S A0 H0 H locs) (hA : ∀ q, q < H.size → A1 q → A0 q) (hf : ∀ q, free q → A0 q) (hAX : ∀ q, q < H.size → AX q → A0 q)
    (kx : ∀ (E : String) (ce : Cell) (q9 : Addr) (u : SX) (t : State) (H1 : Heap) (locs1 : List Loc), t.heap = H1 → s.vm.Alike t.vm → px u → BX E u t → H.size ≤ H1.size → (∀ q : Nat, q < H.size → ¬ AX q → H1[q]? = H[q]?) → va_S A0 H0 H1 locs1 → H1[q9]? = some ce → ce.vm = .none → s.vm.findClass E = some ce.cls → vx_W p l e R s m args below meth c H1 locs1 (cells + mc) (slots + ms) Q (F0 m pc ls rest) q9)
    (kk : ∀ (r : Int32) (u : S) (t : State) (H1 : Heap) (locs1 : List Loc), t.heap = H1 → s.vm.Alike t.vm → post r u → B u t → H.size ≤ H1.size → (∀ q : Nat, q < H.size → ¬ A1 q → H1[q]? = H[q]?) → va_S A0 H0 H1 locs1 → W p l e R s m args below meth c H1 locs1 (cells + mc) (slots + ms) Q (F0 m (pc + 3) ls (.int r :: rest))) : W p l e R s m args below meth c H locs cells slots Q (F0 m pc ls st0) := by
  intro T hT X
  rcases hr T hT X with ⟨v, st₀, t, T', L, h0, X', hL, e1, e2, ⟨⟨r, u, hv, hp, hb⟩, hF⟩, st⟩ | ⟨q, st₀, t, T', L, E, ce, h0, X', hL, e1, e2, ⟨u, hp, hb, hF⟩, hce, hcv, hcl, st⟩
  · cases hv
    obtain ⟨k1, k2, k3⟩ := vx_keep h0 e1 hS hA hf hL hF
    obtain ⟨t2, a1, b1⟩ := kk r u t T'.heap (locs ++ L) e1.symm (by rw [← e2]; exact X'.warmed.alike) hp hb k1 k2 k3 T' rfl X'
    exact ⟨t2, st t2 a1, b1⟩
  · obtain ⟨k1, k2, k3⟩ := vx_keep h0 e1 hS hAX hf hL hF
    obtain ⟨t2, a1, b1⟩ := kx E ce q u t T'.heap (locs ++ L) e1.symm (by rw [← e2]; exact X'.warmed.alike) hp hb k1 k2 k3 (by rw [e1]; exact hce) hcv hcl T' rfl X'
    exact ⟨t2, st.trans a1, b1⟩
theorem vx_calll {S SX : Type} {post : Int64 → S → Prop} {px : SX → Prop} {B : S → State → Prop} {BX : String → SX → State → Prop} {AX : Nat → Prop} (hr : vx_Run p l e R s m args below meth c H locs cells slots mc ms (F0 m pc ls st0) rest (va_Ql post B A1 a) (vx_X px BX AX) free) (hS : va_S A0 H0 H locs) (hA : ∀ q, q < H.size → A1 q → A0 q) (hf : ∀ q, free q → A0 q) (hAX : ∀ q, q < H.size → AX q → A0 q)
    (kx : ∀ (E : String) (ce : Cell) (q9 : Addr) (u : SX) (t : State) (H1 : Heap) (locs1 : List Loc), t.heap = H1 → s.vm.Alike t.vm → px u → BX E u t → H.size ≤ H1.size → (∀ q : Nat, q < H.size → ¬ AX q → H1[q]? = H[q]?) → va_S A0 H0 H1 locs1 → H1[q9]? = some ce → ce.vm = .none → s.vm.findClass E = some ce.cls → vx_W p l e R s m args below meth c H1 locs1 (cells + mc) (slots + ms) Q (F0 m pc ls rest) q9)
    (kk : ∀ (r : Int64) (u : S) (t : State) (H1 : Heap) (locs1 : List Loc), t.heap = H1 → s.vm.Alike t.vm → post r u → B u t → H.size ≤ H1.size → (∀ q : Nat, q < H.size → ¬ A1 q → H1[q]? = H[q]?) → va_S A0 H0 H1 locs1 → W p l e R s m args below meth c H1 locs1 (cells + mc) (slots + ms) Q (F0 m (pc + 3) ls (.long r :: rest))) : W p l e R s m args below meth c H locs cells slots Q (F0 m pc ls st0) := by
  intro T hT X
  rcases hr T hT X with ⟨v, st₀, t, T', L, h0, X', hL, e1, e2, ⟨⟨r, u, hv, hp, hb⟩, hF⟩, st⟩ | ⟨q, st₀, t, T', L, E, ce, h0, X', hL, e1, e2, ⟨u, hp, hb, hF⟩, hce, hcv, hcl, st⟩
  · cases hv
    obtain ⟨k1, k2, k3⟩ := vx_keep h0 e1 hS hA hf hL hF
    obtain ⟨t2, a1, b1⟩ := kk r u t T'.heap (locs ++ L) e1.symm (by rw [← e2]; exact X'.warmed.alike) hp hb k1 k2 k3 T' rfl X'
    exact ⟨t2, st t2 a1, b1⟩
  · obtain ⟨k1, k2, k3⟩ := vx_keep h0 e1 hS hAX hf hL hF
    obtain ⟨t2, a1, b1⟩ := kx E ce q u t T'.heap (locs ++ L) e1.symm (by rw [← e2]; exact X'.warmed.alike) hp hb k1 k2 k3 (by rw [e1]; exact hce) hcv hcl T' rfl X'
    exact ⟨t2, st.trans a1, b1⟩
theorem vx_callf {S SX : Type} {post : UInt32 → S → Prop} {px : SX → Prop} {B : S → State → Prop} {BX : String → SX → State → Prop} {AX : Nat → Prop} (hr : vx_Run p l e R s m args below meth c H locs cells slots mc ms (F0 m pc ls st0) rest (va_Qf post B A1 a) (vx_X px BX AX) free) (hS : va_S A0 H0 H locs) (hA : ∀ q, q < H.size → A1 q → A0 q) (hf : ∀ q, free q → A0 q) (hAX : ∀ q, q < H.size → AX q → A0 q)
    (kx : ∀ (E : String) (ce : Cell) (q9 : Addr) (u : SX) (t : State) (H1 : Heap) (locs1 : List Loc), t.heap = H1 → s.vm.Alike t.vm → px u → BX E u t → H.size ≤ H1.size → (∀ q : Nat, q < H.size → ¬ AX q → H1[q]? = H[q]?) → va_S A0 H0 H1 locs1 → H1[q9]? = some ce → ce.vm = .none → s.vm.findClass E = some ce.cls → vx_W p l e R s m args below meth c H1 locs1 (cells + mc) (slots + ms) Q (F0 m pc ls rest) q9)
    (kk : ∀ (r : UInt32) (u : S) (t : State) (H1 : Heap) (locs1 : List Loc), t.heap = H1 → s.vm.Alike t.vm → post r u → B u t → H.size ≤ H1.size → (∀ q : Nat, q < H.size → ¬ A1 q → H1[q]? = H[q]?) → va_S A0 H0 H1 locs1 → W p l e R s m args below meth c H1 locs1 (cells + mc) (slots + ms) Q (F0 m (pc + 3) ls (.float r :: rest))) : W p l e R s m args below meth c H locs cells slots Q (F0 m pc ls st0) := by
  intro T hT X
  rcases hr T hT X with ⟨v, st₀, t, T', L, h0, X', hL, e1, e2, ⟨⟨r, u, hv, hp, hb⟩, hF⟩, st⟩ | ⟨q, st₀, t, T', L, E, ce, h0, X', hL, e1, e2, ⟨u, hp, hb, hF⟩, hce, hcv, hcl, st⟩
  · cases hv
    obtain ⟨k1, k2, k3⟩ := vx_keep h0 e1 hS hA hf hL hF
    obtain ⟨t2, a1, b1⟩ := kk r u t T'.heap (locs ++ L) e1.symm (by rw [← e2]; exact X'.warmed.alike) hp hb k1 k2 k3 T' rfl X'
    exact ⟨t2, st t2 a1, b1⟩
  · obtain ⟨k1, k2, k3⟩ := vx_keep h0 e1 hS hAX hf hL hF
    obtain ⟨t2, a1, b1⟩ := kx E ce q u t T'.heap (locs ++ L) e1.symm (by rw [← e2]; exact X'.warmed.alike) hp hb k1 k2 k3 (by rw [e1]; exact hce) hcv hcl T' rfl X'
    exact ⟨t2, st.trans a1, b1⟩
theorem vx_calld {S SX : Type} {post : UInt64 → S → Prop} {px : SX → Prop} {B : S → State → Prop} {BX : String → SX → State → Prop} {AX : Nat → Prop} (hr : vx_Run p l e R s m args below meth c H locs cells slots mc ms (F0 m pc ls st0) rest (va_Qd post B A1 a) (vx_X px BX AX) free) (hS : va_S A0 H0 H locs) (hA : ∀ q, q < H.size → A1 q → A0 q) (hf : ∀ q, free q → A0 q) (hAX : ∀ q, q < H.size → AX q → A0 q)
    (kx : ∀ (E : String) (ce : Cell) (q9 : Addr) (u : SX) (t : State) (H1 : Heap) (locs1 : List Loc), t.heap = H1 → s.vm.Alike t.vm → px u → BX E u t → H.size ≤ H1.size → (∀ q : Nat, q < H.size → ¬ AX q → H1[q]? = H[q]?) → va_S A0 H0 H1 locs1 → H1[q9]? = some ce → ce.vm = .none → s.vm.findClass E = some ce.cls → vx_W p l e R s m args below meth c H1 locs1 (cells + mc) (slots + ms) Q (F0 m pc ls rest) q9)
    (kk : ∀ (r : UInt64) (u : S) (t : State) (H1 : Heap) (locs1 : List Loc), t.heap = H1 → s.vm.Alike t.vm → post r u → B u t → H.size ≤ H1.size → (∀ q : Nat, q < H.size → ¬ A1 q → H1[q]? = H[q]?) → va_S A0 H0 H1 locs1 → W p l e R s m args below meth c H1 locs1 (cells + mc) (slots + ms) Q (F0 m (pc + 3) ls (.double r :: rest))) : W p l e R s m args below meth c H locs cells slots Q (F0 m pc ls st0) := by
  intro T hT X
  rcases hr T hT X with ⟨v, st₀, t, T', L, h0, X', hL, e1, e2, ⟨⟨r, u, hv, hp, hb⟩, hF⟩, st⟩ | ⟨q, st₀, t, T', L, E, ce, h0, X', hL, e1, e2, ⟨u, hp, hb, hF⟩, hce, hcv, hcl, st⟩
  · cases hv
    obtain ⟨k1, k2, k3⟩ := vx_keep h0 e1 hS hA hf hL hF
    obtain ⟨t2, a1, b1⟩ := kk r u t T'.heap (locs ++ L) e1.symm (by rw [← e2]; exact X'.warmed.alike) hp hb k1 k2 k3 T' rfl X'
    exact ⟨t2, st t2 a1, b1⟩
  · obtain ⟨k1, k2, k3⟩ := vx_keep h0 e1 hS hAX hf hL hF
    obtain ⟨t2, a1, b1⟩ := kx E ce q u t T'.heap (locs ++ L) e1.symm (by rw [← e2]; exact X'.warmed.alike) hp hb k1 k2 k3 (by rw [e1]; exact hce) hcv hcl T' rfl X'
    exact ⟨t2, st.trans a1, b1⟩
theorem vx_callv {S SX : Type} {post : S → Prop} {px : SX → Prop} {B : S → State → Prop} {BX : String → SX → State → Prop} {AX : Nat → Prop} (hr : vx_Run p l e R s m args below meth c H locs cells slots mc ms (F0 m pc ls st0) rest (va_Qv post B A1 a) (vx_X px BX AX) free) (hS : va_S A0 H0 H locs) (hA : ∀ q, q < H.size → A1 q → A0 q) (hf : ∀ q, free q → A0 q) (hAX : ∀ q, q < H.size → AX q → A0 q)
    (kx : ∀ (E : String) (ce : Cell) (q9 : Addr) (u : SX) (t : State) (H1 : Heap) (locs1 : List Loc), t.heap = H1 → s.vm.Alike t.vm → px u → BX E u t → H.size ≤ H1.size → (∀ q : Nat, q < H.size → ¬ AX q → H1[q]? = H[q]?) → va_S A0 H0 H1 locs1 → H1[q9]? = some ce → ce.vm = .none → s.vm.findClass E = some ce.cls → vx_W p l e R s m args below meth c H1 locs1 (cells + mc) (slots + ms) Q (F0 m pc ls rest) q9)
    (kk : ∀ (u : S) (t : State) (H1 : Heap) (locs1 : List Loc), t.heap = H1 → s.vm.Alike t.vm → post u → B u t → H.size ≤ H1.size → (∀ q : Nat, q < H.size → ¬ A1 q → H1[q]? = H[q]?) → va_S A0 H0 H1 locs1 → W p l e R s m args below meth c H1 locs1 (cells + mc) (slots + ms) Q (F0 m (pc + 3) ls (rest))) : W p l e R s m args below meth c H locs cells slots Q (F0 m pc ls st0) := by
  intro T hT X
  rcases hr T hT X with ⟨v, st₀, t, T', L, h0, X', hL, e1, e2, ⟨⟨u, hv, hp, hb⟩, hF⟩, st⟩ | ⟨q, st₀, t, T', L, E, ce, h0, X', hL, e1, e2, ⟨u, hp, hb, hF⟩, hce, hcv, hcl, st⟩
  · cases hv
    obtain ⟨k1, k2, k3⟩ := vx_keep h0 e1 hS hA hf hL hF
    obtain ⟨t2, a1, b1⟩ := kk u t T'.heap (locs ++ L) e1.symm (by rw [← e2]; exact X'.warmed.alike) hp hb k1 k2 k3 T' rfl X'
    exact ⟨t2, st t2 a1, b1⟩
  · obtain ⟨k1, k2, k3⟩ := vx_keep h0 e1 hS hAX hf hL hF
    obtain ⟨t2, a1, b1⟩ := kx E ce q u t T'.heap (locs ++ L) e1.symm (by rw [← e2]; exact X'.warmed.alike) hp hb k1 k2 k3 (by rw [e1]; exact hce) hcv hcl T' rfl X'
    exact ⟨t2, st.trans a1, b1⟩
/-- caught by the row x of this method's table; the rows ahead don't take it -/
theorem vx_catch {own name : String} {E : String} {ce : Cell} {q : Addr} (hown : s.vm.findClass own = some m.cls) (pre : List ExceptionTableEntry) (x : ExceptionTableEntry) (suf : List ExceptionTableEntry) (hsplit : c.exceptionTable.toList = pre ++ x :: suf)
    (hpass : ∀ z ∈ pre, covers z pc = false ∨ (z.catchType ≠ 0 ∧ ∃ nm : String, (Cond.classLink own z.catchType nm).before args s = true ∧ va_Nc E nm s)) (hx : covers x pc = true) (h0 : x.catchType ≠ 0)
    (hlink : (Cond.classLink own x.catchType name).before args s = true) (hcast : (Cond.castable E name).before args s = true) (hcell : H[q]? = some ce) (hv : ce.vm = .none) (hcl : s.vm.findClass E = some ce.cls)
    (kk : W p l e R s m args below meth c H locs cells slots Q (F0 m x.handlerPc ls [.ref q])) : vx_W p l e R s m args below meth c H locs cells slots Q (F0 m pc ls rest) q := by
  intro T hT X
  have hpl : e.platform.magicAccessors = ({} : Platform).magicAccessors := by rw [X.admits.platform]
  obtain ⟨c3, c4, hc3, hc4, hasg⟩ := Cond.castable_spec hcast
  cases Option.some.inj (hc3.symm.trans hcl)
  obtain ⟨c5, hc5, hcl5⟩ := Cond.classLink_spec hown hlink e.platform hpl
  cases Option.some.inj (hc4.symm.trans hc5)
  obtain ⟨vm', X', st⟩ := X.thenCaughtThrough q (g := F0 m pc ls rest) rfl (Steps.refl _) (by rw [hT]; exact hcell) (by rw [hv]; rfl) (by obtain ⟨k9, h9, -⟩ := Vm.findClass_spec hcl; exact ⟨k9, h9⟩) pre x suf hsplit
    (fun z hz => by
      rcases hpass z hz with h | ⟨hz0, nm, hl1, hn1⟩
      · exact Or.inl h
      · obtain ⟨c6, hc6, hcl6⟩ := Cond.classLink_spec hown hl1 e.platform hpl
        obtain ⟨a8, b8, h1, h2, h3⟩ := hn1
        cases Option.some.inj (h1.symm.trans hcl)
        cases Option.some.inj (h2.symm.trans hc6)
        exact Or.inr ⟨hz0, _, hcl6, h3⟩) hx (Or.inr ⟨h0, c4, hcl5, hasg⟩)
  obtain ⟨t, a1, b1⟩ := kk (T.setVm vm') hT X'
  exact ⟨t, st.trans a1, b1⟩
end Rows
section Ends
variable {p : Program} {l : Launch} {e : Env} {R : Room} {s : State} {m : MethodId} {args : Array Value} {below : List Frame} {meth : Method} {c : Code} {H : Heap} {locs : List Loc} {cells slots : Nat} {Q : State → Prop}
variable {mc ms : Nat} {free : Addr → Prop} {A0 A1 : Nat → Prop} {H0 : Heap} {a : Array Value} {ls : Array Slot} {st0 rest : List Value}
variable {Qc : Array Value → State → Outcome → State → Prop} {XC : String → State → State → Prop}
/-- what a body that may throw owes at its end -/
def vx_MQ (below : List Frame) (Qc : Array Value → State → Outcome → State → Prop) (XC : String → State → State → Prop) (a : Array Value) (s : State) (mc ms : Nat) (free : Addr → Prop) : State → Prop := fun t =>
  ∃ o, t.status = .running ∧ Ended t below o ∧ vx_Q Qc XC mc ms free a s o t
theorem vx_ret {g : JFrame} {mc ms : Nat} (k : W p l e R s m args below meth c H locs cells slots (MQ below Qc args s mc ms free) g) : W p l e R s m args below meth c H locs cells slots (vx_MQ below Qc XC args s mc ms free) g := by
  intro T hT X
  obtain ⟨t, a1, o, b1, b2, b3, b4⟩ := k T hT X
  exact ⟨t, a1, o, b1, b2, Or.inl ⟨b3, b4⟩⟩
/-- not caught here: it goes on to the caller -/
theorem vx_widen {g : JFrame} {q : Addr} {k n : Nat} (h1 : cells ≤ k) (h2 : slots ≤ n) (kk : vx_W p l e R s m args below meth c H locs k n Q g q) : vx_W p l e R s m args below meth c H locs cells slots Q g q := fun T hT X => kk T hT (stand_widen X h1 h2)
theorem vx_out {pc : Nat} {E : String} {ce : Cell} {q : Addr} {mc ms : Nat} (hout : ∀ x ∈ c.exceptionTable.toList, covers x pc = false) (hlocks : meth.locks = false) (hcell : H[q]? = some ce) (hv : ce.vm = .none) (hcl : s.vm.findClass E = some ce.cls)
    (hx : ∀ t : State, t.heap = H → s.vm.Alike t.vm → XC E s t) (hf : ∀ z ∈ locs, free z.base) (hc : cells ≤ mc) (hs : slots ≤ ms) :
    vx_W p l e R s m args below meth c H locs cells slots (vx_MQ below Qc XC args s mc ms free) (F0 m pc ls rest) q := by
  intro T hT X
  obtain ⟨st1, hrun, hend, hW, hsm⟩ := X.leaveThrown q (g := F0 m pc ls rest) rfl rfl rfl hout hlocks
  have hcell9 : (T.setFrames (.throwing q :: below)).heap[q]? = some ce := by
    show T.heap[q]? = some ce
    rw [hT]; exact hcell
  exact ⟨_, st1, .threw q, hrun, hend, Or.inr ⟨q, rfl, E, ce, locs, hx _ hT hW.alike, hcell9, hv, hcl, hW, hsm.mono hc hs, hf⟩⟩
theorem vx_frame {U : State} {k n : Nat} (h : s.sameButNew ({ U with vm := s.vm } : State) locs k n) : s.heap.size ≤ U.heap.size ∧ ∀ q : Nat, q < s.heap.size → (∀ z ∈ locs, z.base ≠ q) → U.heap[q]? = s.heap[q]? := by
  obtain ⟨-, h2, -, -, -, h6⟩ := h
  refine ⟨h2, fun q hq hz => ?_⟩
  obtain ⟨c9, e1, e2, e3, e4⟩ := h6 q _ (Array.getElem?_eq_getElem hq)
  have hs : c9.slots = (s.heap[q]).slots := Array.ext_getElem? fun i => e4 i fun hm => hz _ hm rfl
  have h9 : c9 = s.heap[q] := by
    rw [hs] at e2
    exact e2
  have e5 : U.heap[q]? = some c9 := e1
  rw [e5, h9, Array.getElem?_eq_getElem hq]
/-- the words of a throw but the four that speak of the heap -/
def vx_no (w : Cond) : Bool := decide (w ≠ .isRef (.static Bundle.tN "UNASSIGNED_STACK" Bundle.steD)) && decide (w ≠ .isRef (.static Bundle.tN "SUPPRESSED_SENTINEL" Bundle.listD)) && decide (w ≠ .laysStatic Bundle.tN "UNASSIGNED_STACK" Bundle.steD) && decide (w ≠ .laysStatic Bundle.tN "SUPPRESSED_SENTINEL" Bundle.listD)
def vx_at0 (own : String) (ic : Nat) (X : String) (names : List String) : List Cond := (Bundle.ownAtoms0 own ic X names).filter vx_no
def vx_atS (own : String) (ic : Nat) (X : String) (names : List String) : List Cond := (Bundle.ownAtoms own ic X names).filter vx_no
/-- a word that the tables alone decide, or a good one -/
def vx_ot (w : Cond) : Bool := w.onTables || goodWord w
theorem vx_ot_at {args a' : Array Value} {s U : State} {w : Cond} (hW : s.WarmedH U.vm) (hvm : s.vm = U.vm) (hg : vx_ot w = true) (h : w.before args s = true) : w.before a' U = true := by
  simp only [vx_ot, Bool.or_eq_true] at hg
  rcases hg with hg | hg
  · exact va_tabs hg hvm h
  · exact word_at hW (good_of_word hg) h
/-- a list's words: the good ones out of the method's own list, the others by premises of their own -/
theorem vx_hat {args : Array Value} {s : State} {L B : List Cond} (h1 : ∀ w ∈ L.filter goodWord, w.before args s = true) (h2 : ∀ w ∈ L.filter (fun w => !goodWord w), w ∈ B) (h3 : ∀ w ∈ B, w.before args s = true) : ∀ w ∈ L, w.before args s = true := by
  intro w hw
  by_cases g : goodWord w = true
  · exact h1 w (List.mem_filter.mpr ⟨hw, g⟩)
  · refine h3 w (h2 w (List.mem_filter.mpr ⟨hw, ?_⟩))
    show (!goodWord w) = true
    cases hgw : goodWord w
    · rfl
    · exact absurd hgw g
theorem vx_c {args : Array Value} {s : State} {w : Cond} {B : List Cond} (h : w.before args s = true) (t : ∀ w ∈ B, w.before args s = true) : ∀ w' ∈ w :: B, w'.before args s = true := fun w' h' => (List.mem_cons.mp h').elim (fun e => by rw [e]; exact h) (t w')
theorem vx_n {args : Array Value} {s : State} : ∀ w ∈ ([] : List Cond), w.before args s = true := fun _ h => nomatch h
theorem vx_own {args : Array Value} {s : State} {L : List Cond} (h1 : ∀ w ∈ L.filter vx_no, w.before args s = true)
    (hU : (Cond.isRef (.static Bundle.tN "UNASSIGNED_STACK" Bundle.steD)).before args s = true) (hN : (Cond.isRef (.static Bundle.tN "SUPPRESSED_SENTINEL" Bundle.listD)).before args s = true)
    (lU : (Cond.laysStatic Bundle.tN "UNASSIGNED_STACK" Bundle.steD).before args s = true) (lN : (Cond.laysStatic Bundle.tN "SUPPRESSED_SENTINEL" Bundle.listD).before args s = true) : ∀ w ∈ L, w.before args s = true := by
  intro w hw
  by_cases e1 : w = .isRef (.static Bundle.tN "UNASSIGNED_STACK" Bundle.steD)
  · rw [e1]; exact hU
  · by_cases e2 : w = .isRef (.static Bundle.tN "SUPPRESSED_SENTINEL" Bundle.listD)
    · rw [e2]; exact hN
    · by_cases e3 : w = .laysStatic Bundle.tN "UNASSIGNED_STACK" Bundle.steD
      · rw [e3]; exact lU
      · by_cases e4 : w = .laysStatic Bundle.tN "SUPPRESSED_SENTINEL" Bundle.listD
        · rw [e4]; exact lN
        · exact h1 w (List.mem_filter.mpr ⟨hw, by unfold vx_no; rw [decide_eq_true e1, decide_eq_true e2, decide_eq_true e3, decide_eq_true e4]; rfl⟩)
/-- where a static field lies, its class's statics cell in H -/
def vx_L (C n d : String) (A : Nat → Prop) (U : State) (H : Heap) : Prop := ∃ (c : ClassId) (k : Class) (i : Nat) (f : Field) (a : Nat) (cell : Cell), U.vm.findClass C = some c ∧ U.fieldFound? C n d = some (c, k, i, f) ∧ f.isStatic = true ∧ k.statics = some a ∧ H[a]? = some cell ∧ cell.vm.isStatics = true ∧ cell.cls = c ∧ f.slot < cell.slots.size ∧ k.staticTypes[f.slot]? = some f.type ∧ ¬ A a
theorem vx_L.moved {C n d : String} {A : Nat → Prop} {u U : State} {H : Heap} (hvm : u.vm.Alike U.vm) (h : vx_L C n d A u H) : vx_L C n d A U H := by
  obtain ⟨c, k, i, f, a, cell, h1, h2, h3, h4, h5, h6, h7, h8, h9, h10⟩ := h
  obtain ⟨k', hi', he⟩ := State.fieldFound?_setVm hvm h2
  exact ⟨c, k', i, f, a, cell, by rw [hvm.findClass]; exact h1, hi', h3, by rw [he]; exact h4, h5, h6, h7, h8, by rw [he]; exact h9, h10⟩
theorem vx_L.kept {C n d : String} {A : Nat → Prop} {U : State} {H H1 : Heap} (h : vx_L C n d A U H) (hq : ∀ a : Nat, a < H.size → ¬ A a → H1[a]? = H[a]?) : vx_L C n d A U H1 := by
  obtain ⟨c, k, i, f, a, cell, h1, h2, h3, h4, h5, h6, h7, h8, h9, h10⟩ := h
  exact ⟨c, k, i, f, a, cell, h1, h2, h3, h4, by rw [hq a (Array.getElem?_eq_some_iff.mp h5).1 h10]; exact h5, h6, h7, h8, h9, h10⟩
theorem vx_L.narrow {C n d : String} {A B : Nat → Prop} {U : State} {H : Heap} (h : vx_L C n d A U H) (hAB : ∀ q, B q → A q) : vx_L C n d B U H := by
  obtain ⟨c, k, i, f, a, cell, h1, h2, h3, h4, h5, h6, h7, h8, h9, h10⟩ := h
  exact ⟨c, k, i, f, a, cell, h1, h2, h3, h4, h5, h6, h7, h8, h9, fun z => h10 (hAB _ z)⟩
theorem vx_L.word {C n d : String} {A : Nat → Prop} {s : State} {args : Array Value} (h : vx_L C n d A s s.heap) : (Cond.laysStatic C n d).before args s = true := by
  obtain ⟨c, k, i, f, a, cell, h1, h2, h3, h4, h5, h6, h7, h8, h9, -⟩ := h
  show (Cond.laysStatic C n d).holds args s none s [] = true
  exact Cond.laysStatic_of h1 h2 h3 h4 h5 h6 h7 h8 h9
/-- .. and what it holds: null or some reference -/
def vx_Zq (C n d : String) (A : Nat → Prop) (U : State) (H : Heap) : Prop := va_Zq C n d A U H ∧ vx_L C n d A U H
theorem vx_Zq.moved {C n d : String} {A : Nat → Prop} {u U : State} {H : Heap} (hvm : u.vm.Alike U.vm) (h : vx_Zq C n d A u H) : vx_Zq C n d A U H := ⟨va_Zq.moved hvm h.1, vx_L.moved hvm h.2⟩
theorem vx_Zq.kept {C n d : String} {A : Nat → Prop} {U : State} {H H1 : Heap} (h : vx_Zq C n d A U H) (hq : ∀ a : Nat, a < H.size → ¬ A a → H1[a]? = H[a]?) : vx_Zq C n d A U H1 := ⟨va_Zq.kept h.1 hq, vx_L.kept h.2 hq⟩
theorem vx_Zq.narrow {C n d : String} {A B : Nat → Prop} {U : State} {H : Heap} (h : vx_Zq C n d A U H) (hAB : ∀ q, B q → A q) : vx_Zq C n d B U H := ⟨va_Zq.narrow h.1 hAB, vx_L.narrow h.2 hAB⟩
theorem vx_Zqof {args : Array Value} {s : State} {C n d : String} {A : Nat → Prop} (hl : (Cond.laysStatic C n d).before args s = true) (hini : (Cond.initialized C).before args s = true) (h : (Cond.isRef (.static C n d)).before args s = true) (hA : ∀ a : Nat, a < s.heap.size → ¬ A a) : vx_Zq C n d A s s.heap := by
  refine ⟨va_Zqof hl hini h hA, ?_⟩
  obtain ⟨c, k, i, f, a, cell, h1, h2, h3, h4, h5, h6, h7, h8, h9⟩ := Cond.laysStatic_spec hl
  exact ⟨c, k, i, f, a, cell, h1, h2, h3, h4, h5, h6, h7, h8, h9, hA a (Array.getElem?_eq_some_iff.mp h5).1⟩
theorem vx_isRef {C n d : String} {v : Value} {A : Nat → Prop} {s : State} {args : Array Value} (h : va_Z C n d v A s s.heap) (hv : v.isRef = true) : (Cond.isRef (.static C n d)).before args s = true := by
  obtain ⟨cf, kf, fi, f, a, cell, h1, h2, h3, h4, h5, h6, h7, -⟩ := h
  have he : (Term.static C n d).eval args s none [] s = some v := by
    simp [Term.eval, State.fieldNamed?, h1, h2, h4, h5, h6, h7]
  simp only [Cond.before, Cond.holds, Cond.value, he]
  cases v <;> simp_all [Value.isRef]
theorem vx_isRefq {C n d : String} {A : Nat → Prop} {s : State} {args : Array Value} (h : va_Zq C n d A s s.heap) : (Cond.isRef (.static C n d)).before args s = true := by
  rcases h with h | ⟨t, h⟩
  · exact vx_isRef h rfl
  · exact vx_isRef h rfl
/-- the same frame, seen from here: as if the method were called anew in this heap -/
theorem vx_rebase {T : State} (X : Stand p l e R s m args below meth c T locs cells slots) {R' : Room} (hf : R'.frames ≤ R.frames) (hl : R'.locals ≤ R.locals) (hc : cells + R'.cells ≤ R.cells) (hs : slots + R'.slots ≤ R.slots) :
    Stand p l e R' ((T.setVm s.vm).setFrames (.invoking m args :: below)) m args below meth c T [] 0 0 := by
  have htop : (T.setVm s.vm).topJava?.isSome := X.here.top
  have hF : ((T.setVm s.vm).setFrames (.invoking m args :: below)).frames = .invoking m args :: below := State.frames_setFrames _ (State.cur_lt_of_top htop)
  obtain ⟨g₀, hg0⟩ := Option.isSome_iff_exists.mp htop
  obtain ⟨r, hr⟩ := State.topJava?_eq_some.mp hg0
  have hl9 : e.platform.stackLimits (T.setVm s.vm).me = e.platform.stackLimits s.me := X.limits
  have hb9 : (T.setVm s.vm).me.stackBytes = s.me.stackBytes := X.bytes
  refine ⟨X.admits, X.cas, X.clock, hF, ?_, X.hears, X.method, X.code, X.here, X.tail, X.warmed, ?_, ?_, ?_⟩
  · have h := X.room
    have hU : ((T.setVm s.vm).setFrames (.invoking m args :: below)).localsInUse = s.localsInUse := by
      rw [State.localsInUse_invoking hF (meth := meth) (c := c) X.method X.code, State.localsInUse_invoking X.frames X.method X.code]
    simp only [State.hasRoom, Bool.and_eq_true, decide_eq_true_eq] at h ⊢
    obtain ⟨⟨⟨⟨h1, h2, h3, h4, h5, h6⟩, h7⟩, h8⟩, h9⟩ := h
    rw [X.frames, List.length_cons] at h2 h3
    have q1 := X.heapSize
    have q2 := X.used
    simp only [hF, hU, List.length_cons, State.stackLimits_setFrames, State.stackBytes_setFrames, hl9, hb9]
    refine ⟨⟨⟨⟨by omega, by omega, by omega, by omega, by omega, h6⟩, ?_⟩, ?_⟩, X.book⟩
    · show T.heap.size + R'.cells ≤ e.platform.maxCells
      omega
    · show T.slotsUsed + R'.slots ≤ e.platform.maxSlots
      omega
  · rw [State.stackLimits_setFrames]; rfl
  · rw [State.stackBytes_setFrames]; rfl
  · refine ⟨?_, Nat.le_refl _, Nat.le_refl _, ?_, ?_, fun a c9 h9 => ⟨c9, h9, rfl, rfl, fun _ _ => rfl⟩⟩
    · obtain ⟨t, ht, -⟩ := State.frames_cons hr
      show T.setVm s.vm = { ((T.setVm s.vm).setFrames (.invoking m args :: below)).setFrames (T.setVm s.vm).frames with heap := T.heap, slotsUsed := T.slotsUsed }
      rw [State.setFrames_setFrames, State.setFrames_self ht]
      rfl
    · show T.slotsUsed = T.slotsUsed + ((T.heap.toList.drop T.heap.size).map (·.slots.size)).sum
      rw [List.drop_eq_nil_of_le (Nat.le_of_eq Array.length_toList)]
      rfl
    · show ((T.heap.toList.drop T.heap.size).map (·.slots.size)).sum ≤ 0
      rw [List.drop_eq_nil_of_le (Nat.le_of_eq Array.length_toList)]
      exact Nat.le_refl _
/-- 'throw new E()': new; dup; invokespecial; athrow -/
theorem vx_throw0 {cc : ByteArray} {pc : Nat} (hexec : p.tables.exec = Jvm.exec) (hb : c.code = cc) (hl : l.stackTraces = false) {own cls : String} {names : List String} {ik ic mc ms : Nat} {A : Nat → Prop}
    (hown : s.vm.findClass own = some m.cls) (hcls : Bundle.fit cls = true) (hnames : ∀ n ∈ names, Bundle.fit n = true)
    (hk : (Cond.classLink own ik cls).before args s = true) (hini : (Cond.initialized cls).before args s = true) (hat : ∀ w ∈ vx_at0 own ic cls names, w.before args s = true)
    (hgood : ∀ w ∈ Cond.classLink own ik cls :: Cond.initialized cls :: vx_at0 own ic cls names, vx_ot w = true)
    (hU : vx_Zq Bundle.tN "UNASSIGNED_STACK" Bundle.steD A s s.heap) (hN : vx_Zq Bundle.tN "SUPPRESSED_SENTINEL" Bundle.listD A s s.heap) (hS : va_S A s.heap H locs) (hsize : ls.size = c.maxLocals)
    (d0 : decode cc pc = .ok (.new ik, 3)) (d3 : decode cc (pc + 3) = .ok (.dup, 1)) (d4 : decode cc (pc + 4) = .ok (.invokespecial ic, 3)) (d7 : decode cc (pc + 7) = .ok (.athrow, 1))
    (hout : ∀ x ∈ c.exceptionTable.toList, covers x (pc + 7) = false)
    (hRframes : names.length + 3 < R.frames) (hRlocals : (rest.map fun v => v.category).sum + (13 * (names.length + 1) + 42) ≤ R.locals) (hRcells : cells + 1 ≤ R.cells) (hRslots : slots + 6 ≤ R.slots) (hlocks : meth.locks = false)
    (hx : ∀ t : State, s.vm.Alike t.vm → H.size ≤ t.heap.size → (∀ q : Nat, q < H.size → t.heap[q]? = H[q]?) → XC cls s t)
    (hf : ∀ z ∈ locs, free z.base) (hc : cells + 1 ≤ mc) (hs : slots + 6 ≤ ms) :
    W p l e R s m args below meth c H locs cells slots (vx_MQ below Qc XC args s mc ms free) (F0 m pc ls rest) := by
  intro T hT X
  have htr : e.platform.stackTraces = false := (show e.platform.stackTraces = l.stackTraces by rw [X.admits.platform]).trans hl
  have Y := vx_rebase X (R' := { frames := R.frames, locals := R.locals, cells := 1, slots := 6 }) (Nat.le_refl _) (Nat.le_refl _) hRcells hRslots
  obtain ⟨s', hA⟩ : ∃ z, z = (T.setVm s.vm).setFrames (.invoking m args :: below) := ⟨_, rfl⟩
  rw [← hA] at Y
  have hvm : s'.vm = s.vm := by rw [hA]; rfl
  have hhp : s'.heap = H := by rw [hA]; exact hT
  have hW0 : s.WarmedH s'.vm := by rw [hvm]; exact State.WarmedH.refl s
  have hat' : ∀ w ∈ vx_at0 own ic cls names, w.before args s' = true := fun w hw => vx_ot_at hW0 hvm.symm (hgood w (List.mem_cons_of_mem _ (List.mem_cons_of_mem _ hw))) (hat w hw)
  have hk' : (Cond.classLink own ik cls).before args s' = true := vx_ot_at hW0 hvm.symm (hgood _ List.mem_cons_self) hk
  have hini' : (Cond.initialized cls).before args s' = true := vx_ot_at hW0 hvm.symm (hgood _ (List.mem_cons_of_mem _ List.mem_cons_self)) hini
  have hU' : vx_Zq Bundle.tN "UNASSIGNED_STACK" Bundle.steD A s' s'.heap := by rw [hhp]; exact vx_Zq.moved hW0.alike (hU.kept hS.2.1)
  have hN' : vx_Zq Bundle.tN "SUPPRESSED_SENTINEL" Bundle.listD A s' s'.heap := by rw [hhp]; exact vx_Zq.moved hW0.alike (hN.kept hS.2.1)
  have h : ∀ w ∈ Bundle.ownAtoms0 own ic cls names, w.before args s' = true := vx_own hat' (vx_isRefq hU'.1) (vx_isRefq hN'.1) hU'.2.word hN'.2.word
  have hown' : s'.vm.findClass own = some m.cls := by rw [hvm]; exact hown
  have hins : (Cond.instantiable cls 6).before args s' = true := h _ (by simp [Bundle.ownAtoms0])
  obtain ⟨vm₁, cX, kX, hfX, hkX, -, -, X₁, st1⟩ := Y.newCold hexec (own := own) (C := cls) (index := ik) (n := 6) hown' hk' hins hini'
    (g := F0 m pc ls rest) rfl (by rw [hb]; exact d0) (Nat.le_refl _) (Nat.le_refl _)
  generalize hT1 : (T.setVm vm₁).pushCell { cls := cX, slots := kX.instanceTypes.map defaultValue, vm := .none } = T1 at X₁ st1
  have hcat : (Value.ref T.heap.size).category = 1 := rfl
  have hcellA : T1.heap[T.heap.size]? = some (freshCell cX kX) := by rw [← hT1]; exact State.heap_pushCell_size _ _
  have d3' : decode c.code (pc + 3) = .ok (.dup, 1) := by rw [hb]; exact d3
  obtain ⟨U, hsteps, hrun, hend, hW, hsame, ce, hce, hO⟩ := X₁.ctorThrow0 hexec htr (own := own) (cls := cls) (names := names) (ic := ic) hown' hcls hnames h (fun x hx => nomatch hx) hfX hkX hcellA (by rw [hhp, hT]; exact Nat.le_refl _)
    (g := { method := m, pc := pc + 4, locals := ls, stack := .ref T.heap.size :: .ref T.heap.size :: rest, locked := none }) rfl hsize rfl rfl (rest := rest) rfl
    (by rw [hb]; exact d4) (by rw [hb]; exact d7) hout hRframes (by simp only [List.map_cons, List.sum_cons, hcat]; omega) hlocks
  obtain ⟨f1, f2⟩ := vx_frame hsame
  rw [hhp] at f1 f2
  have hWs : s.WarmedH U.vm := State.WarmedH.trans hW0 hW
  have hcl : s.vm.findClass cls = some ce.cls := by
    have h9 := hO.cls
    rw [hvm] at h9
    exact h9
  have hall : s.sameButNew ({ U with vm := s.vm } : State) locs mc ms := by
    subst hA
    obtain ⟨e1, e2⟩ := hsame
    rw [State.setFrames_setFrames] at e1
    have h2 : (T.setVm s.vm).sameButNew ({ U with vm := s.vm } : State) [] (0 + 1) (0 + 6) := ⟨e1, e2⟩
    have h3 := X.same.trans h2
    rw [List.append_nil] at h3
    exact h3.mono hc hs
  refine ⟨U, ?_, .threw T.heap.size, hrun, hend, Or.inr ⟨T.heap.size, rfl, cls, ce, locs, hx U hWs.alike f1 (fun q hq => f2 q hq (fun z hz => nomatch hz)), hce, hO.vm, hcl, hWs, hall, hf⟩⟩
  refine st1 _ ?_
  show Steps p.tables e below (T1.setTop { method := m, pc := pc + 3, locals := ls, stack := .ref T.heap.size :: rest, locked := none }) _
  jvm_step X₁.here [X₁.here.top, hexec, d3', Value.category]
  exact hsteps
/-- 'throw new E("text")': new; dup; ldc; invokespecial; athrow -/
theorem vx_throwS {cc : ByteArray} {pc : Nat} (hexec : p.tables.exec = Jvm.exec) (hb : c.code = cc) (hl : l.stackTraces = false) {own cls text : String} {names : List String} {ik is ic mc ms sa : Nat} {A : Nat → Prop}
    (hown : s.vm.findClass own = some m.cls) (hcls : Bundle.fit cls = true) (hnames : ∀ n ∈ names, Bundle.fit n = true)
    (hk : (Cond.classLink own ik cls).before args s = true) (hini : (Cond.initialized cls).before args s = true) (hstr : vk_R own is text sa s) (hat : ∀ w ∈ vx_atS own ic cls names, w.before args s = true)
    (hgood : ∀ w ∈ Cond.classLink own ik cls :: Cond.initialized cls :: vx_atS own ic cls names, vx_ot w = true)
    (hU : vx_Zq Bundle.tN "UNASSIGNED_STACK" Bundle.steD A s s.heap) (hN : vx_Zq Bundle.tN "SUPPRESSED_SENTINEL" Bundle.listD A s s.heap) (hS : va_S A s.heap H locs) (hsize : ls.size = c.maxLocals)
    (d0 : decode cc pc = .ok (.new ik, 3)) (d3 : decode cc (pc + 3) = .ok (.dup, 1)) (d4 : decode cc (pc + 4) = .ok (.ldc is, 2)) (d6 : decode cc (pc + 6) = .ok (.invokespecial ic, 3)) (d9 : decode cc (pc + 9) = .ok (.athrow, 1))
    (hout : ∀ x ∈ c.exceptionTable.toList, covers x (pc + 9) = false)
    (hRframes : names.length + 3 < R.frames) (hRlocals : (rest.map fun v => v.category).sum + (13 * (names.length + 1) + 43) ≤ R.locals) (hRcells : cells + 1 ≤ R.cells) (hRslots : slots + 6 ≤ R.slots) (hlocks : meth.locks = false)
    (hx : ∀ t : State, s.vm.Alike t.vm → H.size ≤ t.heap.size → (∀ q : Nat, q < H.size → t.heap[q]? = H[q]?) → XC cls s t)
    (hf : ∀ z ∈ locs, free z.base) (hc : cells + 1 ≤ mc) (hs : slots + 6 ≤ ms) :
    W p l e R s m args below meth c H locs cells slots (vx_MQ below Qc XC args s mc ms free) (F0 m pc ls rest) := by
  intro T hT X
  have htr : e.platform.stackTraces = false := (show e.platform.stackTraces = l.stackTraces by rw [X.admits.platform]).trans hl
  have Y := vx_rebase X (R' := { frames := R.frames, locals := R.locals, cells := 1, slots := 6 }) (Nat.le_refl _) (Nat.le_refl _) hRcells hRslots
  obtain ⟨s', hA⟩ : ∃ z, z = (T.setVm s.vm).setFrames (.invoking m args :: below) := ⟨_, rfl⟩
  rw [← hA] at Y
  have hvm : s'.vm = s.vm := by rw [hA]; rfl
  have hhp : s'.heap = H := by rw [hA]; exact hT
  have hW0 : s.WarmedH s'.vm := by rw [hvm]; exact State.WarmedH.refl s
  have hat' : ∀ w ∈ vx_atS own ic cls names, w.before args s' = true := fun w hw => vx_ot_at hW0 hvm.symm (hgood w (List.mem_cons_of_mem _ (List.mem_cons_of_mem _ hw))) (hat w hw)
  have hk' : (Cond.classLink own ik cls).before args s' = true := vx_ot_at hW0 hvm.symm (hgood _ List.mem_cons_self) hk
  have hini' : (Cond.initialized cls).before args s' = true := vx_ot_at hW0 hvm.symm (hgood _ (List.mem_cons_of_mem _ List.mem_cons_self)) hini
  have hU' : vx_Zq Bundle.tN "UNASSIGNED_STACK" Bundle.steD A s' s'.heap := by rw [hhp]; exact vx_Zq.moved hW0.alike (hU.kept hS.2.1)
  have hN' : vx_Zq Bundle.tN "SUPPRESSED_SENTINEL" Bundle.listD A s' s'.heap := by rw [hhp]; exact vx_Zq.moved hW0.alike (hN.kept hS.2.1)
  have h : ∀ w ∈ Bundle.ownAtoms own ic cls names, w.before args s' = true := vx_own hat' (vx_isRefq hU'.1) (vx_isRefq hN'.1) hU'.2.word hN'.2.word
  have hown' : s'.vm.findClass own = some m.cls := by rw [hvm]; exact hown
  have hins : (Cond.instantiable cls 6).before args s' = true := h _ (by simp [Bundle.ownAtoms])
  obtain ⟨vm₁, cX, kX, hfX, hkX, -, -, X₁, st1⟩ := Y.newCold hexec (own := own) (C := cls) (index := ik) (n := 6) hown' hk' hins hini'
    (g := F0 m pc ls rest) rfl (by rw [hb]; exact d0) (Nat.le_refl _) (Nat.le_refl _)
  generalize hT1 : (T.setVm vm₁).pushCell { cls := cX, slots := kX.instanceTypes.map defaultValue, vm := .none } = T1 at X₁ st1
  have hcat : (Value.ref T.heap.size).category = 1 := rfl
  have hcellA : T1.heap[T.heap.size]? = some (freshCell cX kX) := by rw [← hT1]; exact State.heap_pushCell_size _ _
  have d3' : decode c.code (pc + 3) = .ok (.dup, 1) := by rw [hb]; exact d3
  have d4' : decode c.code (pc + 4) = .ok (.ldc is, 2) := by rw [hb]; exact d4
  have hstr' : vk_R own is text sa s' := vk_R.warm hW0 hstr
  obtain ⟨U, hsteps, hrun, hend, hW, hsame, ce, hce, hO⟩ := X₁.ctorThrowS hexec htr (own := own) (cls := cls) (names := names) (ic := ic) hown' hcls hnames h (fun x hx => nomatch hx) hfX hkX hcellA (by rw [hhp, hT]; exact Nat.le_refl _) (msg := .ref sa) rfl
    (g := { method := m, pc := pc + 6, locals := ls, stack := .ref sa :: .ref T.heap.size :: .ref T.heap.size :: rest, locked := none }) rfl hsize rfl rfl (rest := rest) rfl
    (by rw [hb]; exact d6) (by rw [hb]; exact d9) hout hRframes (by simp only [List.map_cons, List.sum_cons, hcat]; omega) hlocks
  obtain ⟨f1, f2⟩ := vx_frame hsame
  rw [hhp] at f1 f2
  have hWs : s.WarmedH U.vm := State.WarmedH.trans hW0 hW
  have hcl : s.vm.findClass cls = some ce.cls := by
    have h9 := hO.cls
    rw [hvm] at h9
    exact h9
  have hall : s.sameButNew ({ U with vm := s.vm } : State) locs mc ms := by
    subst hA
    obtain ⟨e1, e2⟩ := hsame
    rw [State.setFrames_setFrames] at e1
    have h2 : (T.setVm s.vm).sameButNew ({ U with vm := s.vm } : State) [] (0 + 1) (0 + 6) := ⟨e1, e2⟩
    have h3 := X.same.trans h2
    rw [List.append_nil] at h3
    exact h3.mono hc hs
  refine ⟨U, ?_, .threw T.heap.size, hrun, hend, Or.inr ⟨T.heap.size, rfl, cls, ce, locs, hx U hWs.alike f1 (fun q hq => f2 q hq (fun z hz => nomatch hz)), hce, hO.vm, hcl, hWs, hall, hf⟩⟩
  refine st1 _ ?_
  show Steps p.tables e below (T1.setTop { method := m, pc := pc + 3, locals := ls, stack := .ref T.heap.size :: rest, locked := none }) _
  jvm_step X₁.here [X₁.here.top, hexec, d3', Value.category]
  exact X₁.ldcString hexec (own := own) (text := text) (index := is) (a := sa) hown' hstr'.1 hstr'.2
    (g := { method := m, pc := pc + 4, locals := ls, stack := .ref T.heap.size :: .ref T.heap.size :: rest, locked := none }) rfl d4' _ hsteps
/-- 'throw new E("text")', the text by a wide index -/
theorem vx_throwSW {cc : ByteArray} {pc : Nat} (hexec : p.tables.exec = Jvm.exec) (hb : c.code = cc) (hl : l.stackTraces = false) {own cls text : String} {names : List String} {ik is ic mc ms sa : Nat} {A : Nat → Prop}
    (hown : s.vm.findClass own = some m.cls) (hcls : Bundle.fit cls = true) (hnames : ∀ n ∈ names, Bundle.fit n = true)
    (hk : (Cond.classLink own ik cls).before args s = true) (hini : (Cond.initialized cls).before args s = true) (hstr : vk_R own is text sa s) (hat : ∀ w ∈ vx_atS own ic cls names, w.before args s = true)
    (hgood : ∀ w ∈ Cond.classLink own ik cls :: Cond.initialized cls :: vx_atS own ic cls names, vx_ot w = true)
    (hU : vx_Zq Bundle.tN "UNASSIGNED_STACK" Bundle.steD A s s.heap) (hN : vx_Zq Bundle.tN "SUPPRESSED_SENTINEL" Bundle.listD A s s.heap) (hS : va_S A s.heap H locs) (hsize : ls.size = c.maxLocals)
    (d0 : decode cc pc = .ok (.new ik, 3)) (d3 : decode cc (pc + 3) = .ok (.dup, 1)) (d4 : decode cc (pc + 4) = .ok (.ldc_w is, 3)) (d7 : decode cc (pc + 7) = .ok (.invokespecial ic, 3)) (d10 : decode cc (pc + 10) = .ok (.athrow, 1))
    (hout : ∀ x ∈ c.exceptionTable.toList, covers x (pc + 10) = false)
    (hRframes : names.length + 3 < R.frames) (hRlocals : (rest.map fun v => v.category).sum + (13 * (names.length + 1) + 43) ≤ R.locals) (hRcells : cells + 1 ≤ R.cells) (hRslots : slots + 6 ≤ R.slots) (hlocks : meth.locks = false)
    (hx : ∀ t : State, s.vm.Alike t.vm → H.size ≤ t.heap.size → (∀ q : Nat, q < H.size → t.heap[q]? = H[q]?) → XC cls s t)
    (hf : ∀ z ∈ locs, free z.base) (hc : cells + 1 ≤ mc) (hs : slots + 6 ≤ ms) :
    W p l e R s m args below meth c H locs cells slots (vx_MQ below Qc XC args s mc ms free) (F0 m pc ls rest) := by
  intro T hT X
  have htr : e.platform.stackTraces = false := (show e.platform.stackTraces = l.stackTraces by rw [X.admits.platform]).trans hl
  have Y := vx_rebase X (R' := { frames := R.frames, locals := R.locals, cells := 1, slots := 6 }) (Nat.le_refl _) (Nat.le_refl _) hRcells hRslots
  obtain ⟨s', hA⟩ : ∃ z, z = (T.setVm s.vm).setFrames (.invoking m args :: below) := ⟨_, rfl⟩
  rw [← hA] at Y
  have hvm : s'.vm = s.vm := by rw [hA]; rfl
  have hhp : s'.heap = H := by rw [hA]; exact hT
  have hW0 : s.WarmedH s'.vm := by rw [hvm]; exact State.WarmedH.refl s
  have hat' : ∀ w ∈ vx_atS own ic cls names, w.before args s' = true := fun w hw => vx_ot_at hW0 hvm.symm (hgood w (List.mem_cons_of_mem _ (List.mem_cons_of_mem _ hw))) (hat w hw)
  have hk' : (Cond.classLink own ik cls).before args s' = true := vx_ot_at hW0 hvm.symm (hgood _ List.mem_cons_self) hk
  have hini' : (Cond.initialized cls).before args s' = true := vx_ot_at hW0 hvm.symm (hgood _ (List.mem_cons_of_mem _ List.mem_cons_self)) hini
  have hU' : vx_Zq Bundle.tN "UNASSIGNED_STACK" Bundle.steD A s' s'.heap := by rw [hhp]; exact vx_Zq.moved hW0.alike (hU.kept hS.2.1)
  have hN' : vx_Zq Bundle.tN "SUPPRESSED_SENTINEL" Bundle.listD A s' s'.heap := by rw [hhp]; exact vx_Zq.moved hW0.alike (hN.kept hS.2.1)
  have h : ∀ w ∈ Bundle.ownAtoms own ic cls names, w.before args s' = true := vx_own hat' (vx_isRefq hU'.1) (vx_isRefq hN'.1) hU'.2.word hN'.2.word
  have hown' : s'.vm.findClass own = some m.cls := by rw [hvm]; exact hown
  have hins : (Cond.instantiable cls 6).before args s' = true := h _ (by simp [Bundle.ownAtoms])
  obtain ⟨vm₁, cX, kX, hfX, hkX, -, -, X₁, st1⟩ := Y.newCold hexec (own := own) (C := cls) (index := ik) (n := 6) hown' hk' hins hini'
    (g := F0 m pc ls rest) rfl (by rw [hb]; exact d0) (Nat.le_refl _) (Nat.le_refl _)
  generalize hT1 : (T.setVm vm₁).pushCell { cls := cX, slots := kX.instanceTypes.map defaultValue, vm := .none } = T1 at X₁ st1
  have hcat : (Value.ref T.heap.size).category = 1 := rfl
  have hcellA : T1.heap[T.heap.size]? = some (freshCell cX kX) := by rw [← hT1]; exact State.heap_pushCell_size _ _
  have d3' : decode c.code (pc + 3) = .ok (.dup, 1) := by rw [hb]; exact d3
  have d4' : decode c.code (pc + 4) = .ok (.ldc_w is, 3) := by rw [hb]; exact d4
  have hstr' : vk_R own is text sa s' := vk_R.warm hW0 hstr
  obtain ⟨U, hsteps, hrun, hend, hW, hsame, ce, hce, hO⟩ := X₁.ctorThrowS hexec htr (own := own) (cls := cls) (names := names) (ic := ic) hown' hcls hnames h (fun x hx => nomatch hx) hfX hkX hcellA (by rw [hhp, hT]; exact Nat.le_refl _) (msg := .ref sa) rfl
    (g := { method := m, pc := pc + 7, locals := ls, stack := .ref sa :: .ref T.heap.size :: .ref T.heap.size :: rest, locked := none }) rfl hsize rfl rfl (rest := rest) rfl
    (by rw [hb]; exact d7) (by rw [hb]; exact d10) hout hRframes (by simp only [List.map_cons, List.sum_cons, hcat]; omega) hlocks
  obtain ⟨f1, f2⟩ := vx_frame hsame
  rw [hhp] at f1 f2
  have hWs : s.WarmedH U.vm := State.WarmedH.trans hW0 hW
  have hcl : s.vm.findClass cls = some ce.cls := by
    have h9 := hO.cls
    rw [hvm] at h9
    exact h9
  have hall : s.sameButNew ({ U with vm := s.vm } : State) locs mc ms := by
    subst hA
    obtain ⟨e1, e2⟩ := hsame
    rw [State.setFrames_setFrames] at e1
    have h2 : (T.setVm s.vm).sameButNew ({ U with vm := s.vm } : State) [] (0 + 1) (0 + 6) := ⟨e1, e2⟩
    have h3 := X.same.trans h2
    rw [List.append_nil] at h3
    exact h3.mono hc hs
  refine ⟨U, ?_, .threw T.heap.size, hrun, hend, Or.inr ⟨T.heap.size, rfl, cls, ce, locs, hx U hWs.alike f1 (fun q hq => f2 q hq (fun z hz => nomatch hz)), hce, hO.vm, hcl, hWs, hall, hf⟩⟩
  refine st1 _ ?_
  show Steps p.tables e below (T1.setTop { method := m, pc := pc + 3, locals := ls, stack := .ref T.heap.size :: rest, locked := none }) _
  jvm_step X₁.here [X₁.here.top, hexec, d3', Value.category]
  exact X₁.ldcStringW hexec (own := own) (text := text) (index := is) (a := sa) hown' hstr'.1 hstr'.2
    (g := { method := m, pc := pc + 4, locals := ls, stack := .ref T.heap.size :: .ref T.heap.size :: rest, locked := none }) rfl d4' _ hsteps
end Ends
section Bodies
variable {l : Launch}
theorem vx_ofW {y : MethodName} {ws ws' : List Cond} {rm : Room} {Pc : Array Value → State → Prop} {Qc : Array Value → State → Outcome → State → Prop} {XC : String → State → State → Prop} {mc ms : Nat} {free : Addr → Prop} {cc : ByteArray} {maxL : Nat} {ret : Option FieldType}
    (hy : plainName y.cls = true) (hw : ws = Cond.code y cc maxL ret :: ws')
    (body : ∀ p e s m args below meth c s₁, BodyLoose p l y (headSpec ws rm) cc maxL ret e s m args below meth c s₁ → c.maxLocals = maxL → (∀ x ∈ c.exceptionTable.toList, False) → Pc args s →
      W p l e (headSpec ws rm).room s m args below meth c s.heap [] 0 0 (vx_MQ below Qc XC args s mc ms free) (entryFrame m args maxL)) : vx_Met l y ws rm Pc Qc XC mc ms free := by
  refine MetFree.of_bodyS (code := cc) (maxLocals := maxL) (ret := ret) hy ?_ ?_
  · intro args s m h hn
    obtain ⟨meth, c, h1, h2, h3, h4, h5, h6, -, -⟩ := Cond.code_spec hn (atoms_spec (ws := ws) h _ (by rw [hw]; exact List.mem_cons_self))
    exact ⟨meth, c, h1, h2, h3, h4, h5, h6⟩
  · intro p e s m args below meth c s₁ B hml hP _
    have hh0 : s₁.heap = s.heap := by rw [B.state]; rfl
    have ht : ∀ x ∈ c.exceptionTable.toList, False := by
      obtain ⟨meth9, c9, h1, h2, -, -, -, -, h7, -⟩ := Cond.code_spec B.named (atoms_spec (ws := ws) B.pre _ (by rw [hw]; exact List.mem_cons_self))
      cases Option.some.inj (h1.symm.trans B.method)
      cases Option.some.inj (h2.symm.trans (Stand.of_body B).code)
      intro x hx
      rw [Array.isEmpty_iff.mp h7] at hx
      cases hx
    obtain ⟨t, a1, o, b1, b2, b3⟩ := body p e s m args below meth c s₁ B hml ht hP s₁ hh0 (Stand.of_body B)
    exact ⟨t, o, a1, b1, b2, b3⟩
/-- the table of a body with handlers -/
theorem vx_table {p : Program} {x y : MethodName} {S : Spec} {cc bytes : ByteArray} {maxL maxL' : Nat} {ret ret' : Option FieldType} {e : Env} {s s₁ : State} {m : MethodId} {args : Array Value} {below : List Frame} {meth : Method} {c : Code} {hh : List (Nat × Nat × Nat × Nat)}
    (B : BodyLoose p l y S cc maxL ret e s m args below meth c s₁) (h : (Cond.codeWith y bytes maxL' ret' hh).before args s = true) : c.exceptionTable.toList = tableOf hh := by
  obtain ⟨m9, meth9, c9, hn9, h1, h2, -, -, h6, -⟩ := Cond.codeWith_spec h
  cases Option.some.inj (hn9.symm.trans B.named)
  cases Option.some.inj (h1.symm.trans B.method)
  cases Option.some.inj (h2.symm.trans (Stand.of_body B).code)
  rw [← h6, table_eq]
end Bodies
end VXA
/-! ===== END ===== -/
/-! ===== BEGIN a static call of a method with an exception table ===== -/
section VXS
variable {p : Program} {l : Launch} {e : Env} {R : Room} {s : State} {m : MethodId} {args : Array Value} {below : List Frame} {meth : Method} {c : Code} {T : State} {H : Heap} {locs : List Loc} {cells slots : Nat}
abbrev vx_CSW (R : Room) (s : State) (args : Array Value) (own : String) (index : Nat) (y : MethodName) (bytes : ByteArray) (maxL : Nat) (ret : Option FieldType) (hh : List (Nat × Nat × Nat × Nat)) (ws : List Cond) (rm : Room) (mc ms n : Nat) : Prop :=
  (rm.cells = mc ∧ rm.slots = ms ∧ rm.frames + 1 ≤ R.frames ∧ 8 + (maxL + 11) + rm.locals ≤ R.locals ∧ (∀ w ∈ ws, ∀ (a' : Array Value) (U : State), s.WarmedH U.vm → w.before a' U = true) ∧ Cond.codeWith y bytes maxL ret hh ∈ ws) ∧
  (Cond.codeWith y bytes maxL ret hh).before args s = true ∧ (Cond.initialized y.cls).before args s = true ∧ (y.cls ≠ "java/lang/invoke/MethodHandle" ∧ y.cls ≠ "java/lang/invoke/VarHandle") ∧
  (∀ sig, parseMethodDescriptor y.desc = some sig → n = sig.parameters.length) ∧ (Cond.methodLink own index y).before args s = true ∧ (Cond.static y).before args s = true
theorem vx_cwSW {own : String} {index maxL mc ms : Nat} {y : MethodName} {bytes : ByteArray} {ret : Option FieldType} {hh : List (Nat × Nat × Nat × Nat)} {Ts ws ws' : List Cond} {rm : Room} (n : Nat) (ht : ∀ w ∈ Ts, w.before args s = true) (hT : GoodIn Ts (va_wsS own index y ws)) (hw : ws = Cond.codeWith y bytes maxL ret hh :: ws') (hrc : rm.cells = mc) (hrs : rm.slots = ms)
    (hd : y.cls ≠ "java/lang/invoke/MethodHandle" ∧ y.cls ≠ "java/lang/invoke/VarHandle" ∧ (parseMethodDescriptor y.desc).map (fun d => d.parameters.length) = some n) (hR : rm.frames + 1 ≤ R.frames ∧ 8 + (maxL + 11) + rm.locals ≤ R.locals) :
    vx_CSW R s args own index y bytes maxL ret hh ws rm mc ms n := by
  have ok : ∀ w ∈ va_wsS own index y ws, w.before args s = true := fun w h => ht w (hT w h).1
  have hG : GoodIn Ts ws := fun w h => hT w (by unfold va_wsS; exact List.mem_append_right _ h)
  have hc : Cond.codeWith y bytes maxL ret hh ∈ ws := by rw [hw]; exact List.mem_cons_self
  refine ⟨⟨hrc, hrs, hR.1, hR.2, pay_in ht hG, hc⟩, ht _ (hG _ hc).1, ok _ (by simp [va_wsS]), ⟨hd.1, hd.2.1⟩, fun sig h => ?_, ok _ (by simp [va_wsS]), ok _ (by simp [va_wsS])⟩
  have h2 := hd.2.2
  rw [h] at h2
  exact (Option.some.inj h2).symm
theorem vx_callSW (X : Stand p l e R s m args below meth c T locs cells slots) (hexec : p.tables.exec = Jvm.exec) {own : String} {index : Nat} {y : MethodName} {bytes : ByteArray} {maxL : Nat} {ret : Option FieldType} {hh : List (Nat × Nat × Nat × Nat)}
    (hown : s.vm.findClass own = some m.cls) (hlink : (Cond.methodLink own index y).before args s = true) (hstat : (Cond.static y).before args s = true) (hinit : (Cond.initialized y.cls).before args s = true)
    (hcode : (Cond.codeWith y bytes maxL ret hh).before args s = true) (hy : y.cls ≠ "java/lang/invoke/MethodHandle" ∧ y.cls ≠ "java/lang/invoke/VarHandle")
    {W9 : Nat} {Pre : Pt → Array Value → Prop} {Post : Pt → Array Value → Option Value → Pt → Prop} (hK : Back l R p e below s args y 3 W9 Pre Post)
    {g : JFrame} (hg : g.method = m) (hsize : g.locals.size = c.maxLocals) {argsL rest : List Value} (hlen : ∀ sig, parseMethodDescriptor y.desc = some sig → argsL.length = sig.parameters.length)
    (hstack : g.stack = argsL.reverse ++ rest) (hW : 2 * g.monitorRoom + (rest.map fun v => v.category).sum ≤ W9) (hdg : decode c.code g.pc = .ok (.invokestatic index, 3))
    (hpre : ∀ vm₁, s.WarmedH vm₁ → Pre ⟨T.setVm vm₁, locs, cells, slots⟩ argsL.toArray) :
    ∃ (v : Option Value) (vm₁ : Vm) (B : Pt), s.WarmedH vm₁ ∧ Stand p l e R s m args below meth c B.U B.locs B.cells B.slots ∧ Post ⟨T.setVm vm₁, locs, cells, slots⟩ argsL.toArray v B ∧
      ∀ target, Steps p.tables e below (B.U.setTop { g with pc := g.pc + 3, stack := v.toList ++ rest }) target → Steps p.tables e below (T.setTop g) target := by
  obtain ⟨mk, methM, cM, hnamed, hmethM, -, -, -, -, -, -, hsigM⟩ := Cond.codeWith_spec hcode
  have hstatic : methM.isStatic = true := Cond.static_spec hnamed hmethM hstat
  obtain ⟨kP, hkP, -⟩ := className_of_methodNamed hnamed
  have hinitP : kP.init = .initialized := Cond.initialized_spec (findClass_of_methodNamed hnamed) hkP hinit
  obtain ⟨vm₁, X₁, hstep₁⟩ := X.invokestatic hexec hown hlink hnamed hmethM hstatic hkP hinitP hy (g := g) hg (argsL := argsL) (rest := rest) (hlen _ hsigM) hstack hdg
  obtain ⟨v, B, X', hpost, hsteps⟩ := hK m meth c ⟨T.setVm vm₁, locs, cells, slots⟩ { g with stack := rest } (.invokestatic index) mk argsL.toArray X₁ hg hsize hdg hW (X₁.named hnamed) (hpre vm₁ X₁.warmed)
  exact ⟨v, vm₁, B, X₁.warmed, X', hpost, fun target h => hstep₁ _ fun acts => by rw [doInvoke_state]; exact hsteps.trans h⟩
theorem vx_runSW {y : MethodName} {bytes cc : ByteArray} {maxL nL mc ms n index : Nat} {ret : Option FieldType} {hh : List (Nat × Nat × Nat × Nat)} {ws : List Cond} {rm : Room} {Pc : Array Value → State → Prop} {Qc : Array Value → State → Outcome → State → Prop} {free : Addr → Prop} {Ts : List Cond} {own : String} {As rest : List Value} {g : JFrame}
    (S : CallFix p m c cc nL s args Ts own) (hM : Met l y ws rm Pc Qc mc ms free) (cw : vx_CSW R s args own index y bytes maxL ret hh ws rm mc ms n) (hp : PreS s H Pc As)
    (hg : g.method = m) (hn : As.length = n) (hsize : g.locals.size = nL) (hstack : g.stack = As.reverse ++ rest) (hW : 2 * g.monitorRoom + (rest.map fun v => v.category).sum ≤ 8) (hdg : decode cc g.pc = .ok (.invokestatic index, 3)) (hf : cells + mc ≤ R.cells ∧ slots + ms ≤ R.slots) :
    va_Run p l e R s m args below meth c H locs cells slots mc ms g rest (Qc As.toArray) (free) := by
  obtain ⟨⟨hrc, hrs, hfr, hlo, hws, hcw⟩, hcode, hini, hy, hlen, hl, hstt⟩ := cw
  have hK : Back l R p e below s args y 3 8 (PreOf R mc ms Pc) (PostOf Qc mc ms free) := va_backW (hh := hh) (bytes := bytes) (maxL := maxL) (ret := ret) hM hp.1 hrc hrs hfr hlo hws hcw (fun a' U hW => word_at hW (Or.inl (by first | rfl | simp [Cond.onTables, Cond.keeps, Cond.steady])) hini)
  obtain ⟨hx, hb, hml, ho, -⟩ := S
  intro T hT X
  obtain ⟨v, vm₁, ⟨U', l2, c2, s2⟩, hW₁, X', ⟨g', mk, t, L, e1, e2, hq, h1, hL, h2, h3⟩, st⟩ := vx_callSW X hx (hh := hh) (bytes := bytes) (maxL := maxL) (ret := ret) ho hl hstt hini hcode hy hK hg (hsize.trans hml.symm) (argsL := As) (rest := rest) (fun sig h => hn.trans (hlen sig h)) hstack hW (by rw [hb]; exact hdg)
    (fun vm₁ hW₁ => ⟨hf.1, hf.2, hp.2 (T.setVm vm₁) hT hW₁⟩)
  dsimp only [Pt.U, Pt.locs, Pt.cells, Pt.slots] at X' e1 e2 h1 h2 h3 st
  subst h1; subst h2; subst h3
  exact ⟨v, (T.setVm vm₁).calling g' mk As.toArray, t, U', L, hT, X', hL, e1, e2, hq, st⟩
/-- not caught here, past rows that name other classes: it goes on to the caller -/
theorem vx_outP {p : Program} {l : Launch} {e : Env} {R : Room} {s : State} {m : MethodId} {args : Array Value} {below : List Frame} {meth : Method} {c : Code} {H : Heap} {locs : List Loc} {cells slots : Nat} {free : Addr → Prop} {ls : Array Slot} {rest : List Value} {Qc : Array Value → State → Outcome → State → Prop} {XC : String → State → State → Prop}
    {pc : Nat} {own E : String} {ce : Cell} {q : Addr} {mc ms : Nat} (hown : s.vm.findClass own = some m.cls) (hlocks : meth.locks = false)
    (hpass : ∀ z ∈ c.exceptionTable.toList, covers z pc = false ∨ (z.catchType ≠ 0 ∧ ∃ nm : String, (Cond.classLink own z.catchType nm).before args s = true ∧ va_Nc E nm s)) (hcell : H[q]? = some ce) (hv : ce.vm = .none) (hcl : s.vm.findClass E = some ce.cls)
    (hx : ∀ t : State, t.heap = H → s.vm.Alike t.vm → XC E s t) (hf : ∀ z ∈ locs, free z.base) (hc : cells ≤ mc) (hs : slots ≤ ms) :
    vx_W p l e R s m args below meth c H locs cells slots (vx_MQ below Qc XC args s mc ms free) (F0 m pc ls rest) q := by
  intro T hT X
  have hpl : e.platform.magicAccessors = ({} : Platform).magicAccessors := by rw [X.admits.platform]
  obtain ⟨vm', hW', X', st⟩ := X.outThrough hlocks q (g := F0 m pc ls rest) rfl rfl rfl (cell := ce) (by rw [hT]; exact hcell) (by rw [hv]; rfl)
    (by obtain ⟨k9, h9, -⟩ := Vm.findClass_spec hcl; exact ⟨k9, h9⟩) (fun z hz => by
      rcases hpass z hz with h | ⟨hz0, nm, hl1, hn1⟩
      · exact Or.inl h
      · obtain ⟨c6, hc6, hcl6⟩ := Cond.classLink_spec hown hl1 e.platform hpl
        obtain ⟨a8, b8, h1, h2, h3⟩ := hn1
        cases Option.some.inj (h1.symm.trans hcl)
        cases Option.some.inj (h2.symm.trans hc6)
        exact Or.inr ⟨hz0, _, hcl6, h3⟩)
  obtain ⟨g₀, hfr⟩ := X'.frames_eq
  have hcell9 : ((T.setVm vm').setFrames (.throwing q :: below)).heap[q]? = some ce := by
    show T.heap[q]? = some ce
    rw [hT]; exact hcell
  have hend : Ended ((T.setVm vm').setFrames (.throwing q :: below)) below (.threw q) := State.frames_setFrames _ (State.cur_lt_of_frames hfr)
  refine ⟨(T.setVm vm').setFrames (.throwing q :: below), ?_, .threw q, X'.here.running, hend, Or.inr ⟨q, rfl, E, ce, locs, hx _ hT (X'.ends _).1.alike, hcell9, hv, hcl, (X'.ends _).1, (X'.ends _).2.mono hc hs, hf⟩⟩
  rw [X.pushThrowing_eq]
  exact st
/-- a thing of a world lies in the heap -/
theorem vx_lt {D : va_G} {cl : List vw_C} {ws : va_W} {H1 : Heap} (h : va_P D cl ws H1) {k : Nat} {q : Nat × va_E} (hk : ws[k]? = some q) : q.1 < H1.size := (h k q hk).lt
end VXS
/-! ===== END ===== -/
/-! ===== BEGIN methods with a table of their own: called by a name, returning or throwing ===== -/
section VXH
/-! vx_backW, vx_callVX, vx_callSX, vx_callVW, vx_runVW, vx_runVX, vx_runSX, vx_ofWH follow the same proofs as their sisters above (Free/Laws.lean, Shelf42/LK1.lean); vx_outP calls Shelf42/NT130.lean (outThrough). -/
section
variable {l : Launch} {R : Room} {p : Program} {e : Env} {below : List Frame} {s : State} {sargs : Array Value} {y : MethodName} {len W9 : Nat}
theorem vx_backW {ws : List Cond} {rm : Room} {Pc : Array Value → State → Prop} {Qc : Array Value → State → Outcome → State → Prop} {XC : String → State → State → Prop} {mc ms : Nat} {free : Addr → Prop} {bytes : ByteArray} {maxL : Nat} {ret : Option FieldType} {hh : List (Nat × Nat × Nat × Nat)}
    (hM : vx_Met l y ws rm Pc Qc XC mc ms free) (hblind : FrameBlind Pc) (hrc : rm.cells = mc) (hrs : rm.slots = ms)
    (hframes : rm.frames + 1 ≤ R.frames) (hlocals : W9 + (maxL + 11) + rm.locals ≤ R.locals)
    (hws : ∀ w ∈ ws, ∀ a' U, s.WarmedH U.vm → w.before a' U = true) (hcode : Cond.codeWith y bytes maxL ret hh ∈ ws) (hinit : ∀ a' U, s.WarmedH U.vm → (Cond.initialized y.cls).before a' U = true) :
    vx_Back l R p e below s sargs y len W9 (PreOf R mc ms Pc) (PostOf Qc mc ms free) (vx_Post XC mc ms free) := by
  intro m meth c A g ig mk a X hg hsize hdg hW hn hp
  have h1 : (headSpec ws rm).pre.before a A.U = true := atoms_intro fun w hw => hws w hw _ _ X.warmed
  have h2 : (Cond.codeWith y bytes maxL ret hh).before a A.U = true := hws _ hcode _ _ X.warmed
  have h3 : (Cond.initialized y.cls).before a A.U = true := hinit _ _ X.warmed
  have h4 : A.cells + (headSpec ws rm).room.cells ≤ R.cells := by rw [show (headSpec ws rm).room.cells = mc from hrc]; exact hp.1
  have h5 : A.slots + (headSpec ws rm).room.slots ≤ R.slots := by rw [show (headSpec ws rm).room.slots = ms from hrs]; exact hp.2.1
  have hPc : Pc a (A.U.calling g mk a) := hblind _ _ _ _ hp.2.2
  obtain ⟨U, Ls, c0, s0⟩ := A
  dsimp only [Pt.U, Pt.locs, Pt.cells, Pt.slots] at h1 h2 h3 h4 h5 X hn hPc ⊢
  obtain ⟨m9, methY, cY, hn9, hmY, hcY, -, hlY, -⟩ := Cond.codeWith_spec h2
  cases Option.some.inj (hn9.symm.trans hn)
  obtain ⟨kY, hkY, -⟩ := className_of_methodNamed hn
  have hinitY : kY.init = .initialized := Cond.initialized_spec (findClass_of_methodNamed hn) hkY h3
  have h : At U g.method c below := by rw [hg]; exact X.here
  have hlocals9 : W9 + (maxL + 11) + (headSpec ws rm).room.locals ≤ R.locals := hlocals
  have happ : (headSpec ws rm).appliesLoose y e.platform (U.calling g mk a) = true :=
    Spec.appliesLoose_calling (g := g) h hdg hn hkY hinitY
      (X.room_calling (g := g) (R' := (headSpec ws rm).room) hsize hmY hcY hframes (by rw [hlY]; omega) h4 h5) h1
  obtain ⟨mid, hmid⟩ := h.above
  have hfr : (U.setTop g).frames = (.java g :: mid) ++ below := by rw [State.frames_setTop' g h.top, hmid]; rfl
  obtain ⟨o, s₂, hsteps, -, hend, hq⟩ := Steps.callFree hM p X.admits X.cas X.clock (acts := []) hfr happ hPc trivial
  have hq' : vx_Q Qc XC mc ms free a (U.calling g mk a) o s₂ := hq
  rw [State.frames_setTop' g h.top] at hend
  obtain ⟨g₀, hg0⟩ := Option.isSome_iff_exists.mp h.top
  obtain ⟨r, hr⟩ := State.topJava?_eq_some.mp hg0
  have hr' : (({ U with heap := s₂.heap, slotsUsed := s₂.slotsUsed } : State).setVm s₂.vm).frames = .java g₀ :: r := hr
  rcases hq' with ⟨hqc, L, hfe, hL⟩ | ⟨q, rfl, E, ce, L, hx, hce, hcv, hcl, hW₂, hsm, hL⟩
  · obtain ⟨⟨v, rfl⟩, hW₂, e2, q2, q3, q4, q5, q6⟩ := id hfe
    have e3 : s₂ = ({ (U.calling g mk a).setFrames s₂.frames with heap := s₂.heap, slotsUsed := s₂.slotsUsed } : State).setVm s₂.vm := by
      have : s₂ = ({ s₂ with vm := (U.calling g mk a).vm } : State).setVm s₂.vm := rfl
      rw [e2] at this
      exact this
    obtain ⟨c₂, i₂, len₂, hc₂, hd₂, hf₂⟩ := hend
    have hW' : U.WarmedH s₂.vm := hW₂
    have hcc : c₂ = c := by
      have h1 : s₂.code? g.method = U.code? g.method := by
        rw [State.code?_eq, State.code?_eq, hW'.alike.method?]
      exact Option.some.inj (hc₂.symm.trans (h1.trans h.code))
    subst hcc
    have hlen : len₂ = len := by rw [hdg] at hd₂; cases hd₂; rfl
    subst hlen
    have hs₂ : s₂ = (({ U with heap := s₂.heap, slotsUsed := s₂.slotsUsed } : State).setVm s₂.vm).setTop { g with pc := g.pc + len₂, stack := v.toList ++ g.stack } := by
      refine e3.trans ?_
      rw [hf₂, State.calling_eq h.top, State.setFrames_setFrames, State.setTop_of_frames _ hr', hr]
      rfl
    have hsame : U.sameButNew ({ U with heap := s₂.heap, slotsUsed := s₂.slotsUsed } : State) L mc ms := by
      refine ⟨?_, q2, q3, q4, q5, q6⟩
      obtain ⟨t, ht, -⟩ := State.frames_cons hr
      show ({ U with heap := s₂.heap, slotsUsed := s₂.slotsUsed } : State) = { U.setFrames U.frames with heap := s₂.heap, slotsUsed := s₂.slotsUsed }
      rw [State.setFrames_self ht]
    subst hg
    refine Or.inl ⟨v, ⟨(({ U with heap := s₂.heap, slotsUsed := s₂.slotsUsed } : State).setVm s₂.vm), Ls ++ L, c0 + mc, s0 + ms⟩,
      ⟨X.admits, X.cas, X.clock, X.frames, X.room, X.hears, X.method, X.code, (X.here.setHeapUsed s₂.heap s₂.slotsUsed).setVm hW'.alike, X.tail, State.WarmedH.trans X.warmed hW', X.limits, X.bytes, X.same.trans (hsame.setVm s.vm)⟩,
      ⟨g, mk, s₂, L, rfl, rfl, hqc, rfl, hL, rfl, rfl⟩, ?_⟩
    show Steps p.tables e below _ ((({ U with heap := s₂.heap, slotsUsed := s₂.slotsUsed } : State).setVm s₂.vm).setTop { g with pc := g.pc + len₂, stack := v.toList ++ g.stack })
    rw [← hs₂]
    exact hsteps
  · obtain ⟨e2, q2, q3, q4, q5, q6⟩ := id hsm
    have e3 : s₂ = ({ (U.calling g mk a).setFrames s₂.frames with heap := s₂.heap, slotsUsed := s₂.slotsUsed } : State).setVm s₂.vm := by
      have : s₂ = ({ s₂ with vm := (U.calling g mk a).vm } : State).setVm s₂.vm := rfl
      rw [e2] at this
      exact this
    have hf₂ : s₂.frames = .throwing q :: .java g :: U.frames.tail := hend
    have hW' : U.WarmedH s₂.vm := hW₂
    have hs₂ : s₂ = ((({ U with heap := s₂.heap, slotsUsed := s₂.slotsUsed } : State).setVm s₂.vm).setTop g).pushFrame (.throwing q) := by
      refine e3.trans ?_
      rw [hf₂, State.calling_eq h.top, State.setFrames_setFrames, State.pushFrame, State.frames_setTop _ hr', State.setTop_of_frames _ hr', State.setFrames_setFrames, hr]
      rfl
    have hsame : U.sameButNew ({ U with heap := s₂.heap, slotsUsed := s₂.slotsUsed } : State) L mc ms := by
      refine ⟨?_, q2, q3, q4, q5, q6⟩
      obtain ⟨t, ht, -⟩ := State.frames_cons hr
      show ({ U with heap := s₂.heap, slotsUsed := s₂.slotsUsed } : State) = { U.setFrames U.frames with heap := s₂.heap, slotsUsed := s₂.slotsUsed }
      rw [State.setFrames_self ht]
    subst hg
    refine Or.inr ⟨q, ⟨(({ U with heap := s₂.heap, slotsUsed := s₂.slotsUsed } : State).setVm s₂.vm), Ls ++ L, c0 + mc, s0 + ms⟩,
      ⟨X.admits, X.cas, X.clock, X.frames, X.room, X.hears, X.method, X.code, (X.here.setHeapUsed s₂.heap s₂.slotsUsed).setVm hW'.alike, X.tail, State.WarmedH.trans X.warmed hW', X.limits, X.bytes, X.same.trans (hsame.setVm s.vm)⟩,
      ⟨g, mk, s₂, L, E, ce, rfl, rfl, hx, hce, hcv, hcl, rfl, hL, rfl, rfl⟩, ?_⟩
    show Steps p.tables e below _ (((({ U with heap := s₂.heap, slotsUsed := s₂.slotsUsed } : State).setVm s₂.vm).setTop g).pushFrame (.throwing q))
    rw [← hs₂]
    exact hsteps
end
variable {p : Program} {l : Launch} {e : Env} {R : Room} {s : State} {m : MethodId} {args : Array Value} {below : List Frame} {meth : Method} {c : Code} {T : State} {H : Heap} {locs : List Loc} {cells slots : Nat}
theorem vx_callVX (X : Stand p l e R s m args below meth c T locs cells slots) (hexec : p.tables.exec = Jvm.exec) {own C : String} {index : Nat} {y : MethodName} {bytes : ByteArray} {maxL : Nat} {ret : Option FieldType} {hh : List (Nat × Nat × Nat × Nat)}
    (hown : s.vm.findClass own = some m.cls) (hlink : (Cond.methodLink own index y).before args s = true) (hinst : (Cond.instanceMethod y).before args s = true) (hsel : (Cond.selects C y y).before args s = true)
    (hcode : (Cond.codeWith y bytes maxL ret hh).before args s = true) (hy : y.cls ≠ "java/lang/invoke/MethodHandle" ∧ y.cls ≠ "java/lang/invoke/VarHandle")
    {W9 : Nat} {Pre : Pt → Array Value → Prop} {Post : Pt → Array Value → Option Value → Pt → Prop} {PostX : Pt → Array Value → Addr → Pt → Prop} (hK : vx_Back l R p e below s args y 3 W9 Pre Post PostX)
    {b : Addr} {cellB : Cell} (hcell : T.heap[b]? = some cellB) (hobj : cellB.vm.isStatics = false) (hcls : s.vm.findClass C = some cellB.cls)
    {g : JFrame} (hg : g.method = m) (hsize : g.locals.size = c.maxLocals) {argsL rest : List Value} (hlen : ∀ sig, parseMethodDescriptor y.desc = some sig → argsL.length = sig.parameters.length)
    (hstack : g.stack = argsL.reverse ++ .ref b :: rest) (hW : 2 * g.monitorRoom + (rest.map fun v => v.category).sum ≤ W9) (hdg : decode c.code g.pc = .ok (.invokevirtual index, 3))
    (hpre : ∀ vm₁, s.WarmedH vm₁ → Pre ⟨T.setVm vm₁, locs, cells, slots⟩ (Value.ref b :: argsL).toArray) :
    (∃ (v : Option Value) (vm₁ : Vm) (B : Pt), s.WarmedH vm₁ ∧ Stand p l e R s m args below meth c B.U B.locs B.cells B.slots ∧ Post ⟨T.setVm vm₁, locs, cells, slots⟩ (Value.ref b :: argsL).toArray v B ∧
      ∀ target, Steps p.tables e below (B.U.setTop { g with pc := g.pc + 3, stack := v.toList ++ rest }) target → Steps p.tables e below (T.setTop g) target) ∨
    (∃ (q : Addr) (vm₁ : Vm) (B : Pt), s.WarmedH vm₁ ∧ Stand p l e R s m args below meth c B.U B.locs B.cells B.slots ∧ PostX ⟨T.setVm vm₁, locs, cells, slots⟩ (Value.ref b :: argsL).toArray q B ∧
      Steps p.tables e below (T.setTop g) ((B.U.setTop { g with stack := rest }).pushFrame (.throwing q))) := by
  obtain ⟨mk, methM, hnamed, hmethM, hstM, habM⟩ := Cond.instanceMethod_spec hinst
  obtain ⟨m8, methM', cM, hn8, hmethM', -, -, -, -, -, -, hsigM⟩ := Cond.codeWith_spec hcode
  cases Option.some.inj (hn8.symm.trans hnamed)
  cases hmethM.symm.trans hmethM'
  obtain ⟨c2, r2, m2, q1, q2, q3, q4, kP, hkP, hkPi⟩ := Cond.selects_spec hsel
  cases hcls.symm.trans q1
  cases (State.methodFound?_of_named hnamed hy).symm.trans q2
  cases hnamed.symm.trans q3
  have hselP : selectMethod e.platform s.vm cellB.cls mk = .method mk := by rw [Launch.admits_selectMethod X.admits]; exact q4
  obtain ⟨vm₁, X₁, hstep₁⟩ := X.invokevirtual hexec hown hlink hnamed hmethM hstM hkP hkPi hy (a := b) (cell := cellB) hcell
    (fun z h => by rw [h] at hobj; cases hobj) hselP hmethM habM hkP hkPi (g := g) hg (argsL := argsL) (rest := rest) (hlen _ hsigM) hstack hdg
  rcases hK m meth c ⟨T.setVm vm₁, locs, cells, slots⟩ { g with stack := rest } (.invokevirtual index) mk (Value.ref b :: argsL).toArray X₁ hg hsize hdg hW (X₁.named hnamed) (hpre vm₁ X₁.warmed) with ⟨v, B, X', hpost, hsteps⟩ | ⟨q, B, X', hpost, hsteps⟩
  · exact Or.inl ⟨v, vm₁, B, X₁.warmed, X', hpost, fun target h => hstep₁ _ fun acts => by rw [doInvoke_state]; exact hsteps.trans h⟩
  · exact Or.inr ⟨q, vm₁, B, X₁.warmed, X', hpost, hstep₁ _ fun acts => by rw [doInvoke_state]; exact hsteps⟩
theorem vx_callSX (X : Stand p l e R s m args below meth c T locs cells slots) (hexec : p.tables.exec = Jvm.exec) {own : String} {index : Nat} {y : MethodName} {bytes : ByteArray} {maxL : Nat} {ret : Option FieldType} {hh : List (Nat × Nat × Nat × Nat)}
    (hown : s.vm.findClass own = some m.cls) (hlink : (Cond.methodLink own index y).before args s = true) (hstat : (Cond.static y).before args s = true) (hinit : (Cond.initialized y.cls).before args s = true)
    (hcode : (Cond.codeWith y bytes maxL ret hh).before args s = true) (hy : y.cls ≠ "java/lang/invoke/MethodHandle" ∧ y.cls ≠ "java/lang/invoke/VarHandle")
    {W9 : Nat} {Pre : Pt → Array Value → Prop} {Post : Pt → Array Value → Option Value → Pt → Prop} {PostX : Pt → Array Value → Addr → Pt → Prop} (hK : vx_Back l R p e below s args y 3 W9 Pre Post PostX)
    {g : JFrame} (hg : g.method = m) (hsize : g.locals.size = c.maxLocals) {argsL rest : List Value} (hlen : ∀ sig, parseMethodDescriptor y.desc = some sig → argsL.length = sig.parameters.length)
    (hstack : g.stack = argsL.reverse ++ rest) (hW : 2 * g.monitorRoom + (rest.map fun v => v.category).sum ≤ W9) (hdg : decode c.code g.pc = .ok (.invokestatic index, 3))
    (hpre : ∀ vm₁, s.WarmedH vm₁ → Pre ⟨T.setVm vm₁, locs, cells, slots⟩ argsL.toArray) :
    (∃ (v : Option Value) (vm₁ : Vm) (B : Pt), s.WarmedH vm₁ ∧ Stand p l e R s m args below meth c B.U B.locs B.cells B.slots ∧ Post ⟨T.setVm vm₁, locs, cells, slots⟩ argsL.toArray v B ∧
      ∀ target, Steps p.tables e below (B.U.setTop { g with pc := g.pc + 3, stack := v.toList ++ rest }) target → Steps p.tables e below (T.setTop g) target) ∨
    (∃ (q : Addr) (vm₁ : Vm) (B : Pt), s.WarmedH vm₁ ∧ Stand p l e R s m args below meth c B.U B.locs B.cells B.slots ∧ PostX ⟨T.setVm vm₁, locs, cells, slots⟩ argsL.toArray q B ∧
      Steps p.tables e below (T.setTop g) ((B.U.setTop { g with stack := rest }).pushFrame (.throwing q))) := by
  obtain ⟨mk, methM, cM, hnamed, hmethM, -, -, -, -, -, -, hsigM⟩ := Cond.codeWith_spec hcode
  have hstatic : methM.isStatic = true := Cond.static_spec hnamed hmethM hstat
  obtain ⟨kP, hkP, -⟩ := className_of_methodNamed hnamed
  have hinitP : kP.init = .initialized := Cond.initialized_spec (findClass_of_methodNamed hnamed) hkP hinit
  obtain ⟨vm₁, X₁, hstep₁⟩ := X.invokestatic hexec hown hlink hnamed hmethM hstatic hkP hinitP hy (g := g) hg (argsL := argsL) (rest := rest) (hlen _ hsigM) hstack hdg
  rcases hK m meth c ⟨T.setVm vm₁, locs, cells, slots⟩ { g with stack := rest } (.invokestatic index) mk argsL.toArray X₁ hg hsize hdg hW (X₁.named hnamed) (hpre vm₁ X₁.warmed) with ⟨v, B, X', hpost, hsteps⟩ | ⟨q, B, X', hpost, hsteps⟩
  · exact Or.inl ⟨v, vm₁, B, X₁.warmed, X', hpost, fun target h => hstep₁ _ fun acts => by rw [doInvoke_state]; exact hsteps.trans h⟩
  · exact Or.inr ⟨q, vm₁, B, X₁.warmed, X', hpost, hstep₁ _ fun acts => by rw [doInvoke_state]; exact hsteps⟩
theorem vx_callVW (X : Stand p l e R s m args below meth c T locs cells slots) (hexec : p.tables.exec = Jvm.exec) {own C : String} {index : Nat} {y : MethodName} {bytes : ByteArray} {maxL : Nat} {ret : Option FieldType} {hh : List (Nat × Nat × Nat × Nat)}
    (hown : s.vm.findClass own = some m.cls) (hlink : (Cond.methodLink own index y).before args s = true) (hinst : (Cond.instanceMethod y).before args s = true) (hsel : (Cond.selects C y y).before args s = true)
    (hcode : (Cond.codeWith y bytes maxL ret hh).before args s = true) (hy : y.cls ≠ "java/lang/invoke/MethodHandle" ∧ y.cls ≠ "java/lang/invoke/VarHandle")
    {W9 : Nat} {Pre : Pt → Array Value → Prop} {Post : Pt → Array Value → Option Value → Pt → Prop} (hK : Back l R p e below s args y 3 W9 Pre Post)
    {b : Addr} {cellB : Cell} (hcell : T.heap[b]? = some cellB) (hobj : cellB.vm.isStatics = false) (hcls : s.vm.findClass C = some cellB.cls)
    {g : JFrame} (hg : g.method = m) (hsize : g.locals.size = c.maxLocals) {argsL rest : List Value} (hlen : ∀ sig, parseMethodDescriptor y.desc = some sig → argsL.length = sig.parameters.length)
    (hstack : g.stack = argsL.reverse ++ .ref b :: rest) (hW : 2 * g.monitorRoom + (rest.map fun v => v.category).sum ≤ W9) (hdg : decode c.code g.pc = .ok (.invokevirtual index, 3))
    (hpre : ∀ vm₁, s.WarmedH vm₁ → Pre ⟨T.setVm vm₁, locs, cells, slots⟩ (Value.ref b :: argsL).toArray) :
    ∃ (v : Option Value) (vm₁ : Vm) (B : Pt), s.WarmedH vm₁ ∧ Stand p l e R s m args below meth c B.U B.locs B.cells B.slots ∧ Post ⟨T.setVm vm₁, locs, cells, slots⟩ (Value.ref b :: argsL).toArray v B ∧
      ∀ target, Steps p.tables e below (B.U.setTop { g with pc := g.pc + 3, stack := v.toList ++ rest }) target → Steps p.tables e below (T.setTop g) target := by
  obtain ⟨mk, methM, hnamed, hmethM, hstM, habM⟩ := Cond.instanceMethod_spec hinst
  obtain ⟨m8, methM', cM, hn8, hmethM', -, -, -, -, -, -, hsigM⟩ := Cond.codeWith_spec hcode
  cases Option.some.inj (hn8.symm.trans hnamed)
  cases hmethM.symm.trans hmethM'
  obtain ⟨c2, r2, m2, q1, q2, q3, q4, kP, hkP, hkPi⟩ := Cond.selects_spec hsel
  cases hcls.symm.trans q1
  cases (State.methodFound?_of_named hnamed hy).symm.trans q2
  cases hnamed.symm.trans q3
  have hselP : selectMethod e.platform s.vm cellB.cls mk = .method mk := by rw [Launch.admits_selectMethod X.admits]; exact q4
  obtain ⟨vm₁, X₁, hstep₁⟩ := X.invokevirtual hexec hown hlink hnamed hmethM hstM hkP hkPi hy (a := b) (cell := cellB) hcell
    (fun z h => by rw [h] at hobj; cases hobj) hselP hmethM habM hkP hkPi (g := g) hg (argsL := argsL) (rest := rest) (hlen _ hsigM) hstack hdg
  obtain ⟨v, B, X', hpost, hsteps⟩ := hK m meth c ⟨T.setVm vm₁, locs, cells, slots⟩ { g with stack := rest } (.invokevirtual index) mk (Value.ref b :: argsL).toArray X₁ hg hsize hdg hW (X₁.named hnamed) (hpre vm₁ X₁.warmed)
  exact ⟨v, vm₁, B, X₁.warmed, X', hpost, fun target h => hstep₁ _ fun acts => by rw [doInvoke_state]; exact hsteps.trans h⟩
abbrev vx_CVW (R : Room) (s : State) (args : Array Value) (own C : String) (index : Nat) (y : MethodName) (bytes : ByteArray) (maxL : Nat) (ret : Option FieldType) (hh : List (Nat × Nat × Nat × Nat)) (ws : List Cond) (rm : Room) (mc ms n : Nat) : Prop :=
  (rm.cells = mc ∧ rm.slots = ms ∧ rm.frames + 1 ≤ R.frames ∧ 8 + (maxL + 11) + rm.locals ≤ R.locals ∧ (∀ w ∈ ws, ∀ (a' : Array Value) (U : State), s.WarmedH U.vm → w.before a' U = true) ∧ Cond.codeWith y bytes maxL ret hh ∈ ws) ∧
  (Cond.codeWith y bytes maxL ret hh).before args s = true ∧ (Cond.initialized y.cls).before args s = true ∧ (y.cls ≠ "java/lang/invoke/MethodHandle" ∧ y.cls ≠ "java/lang/invoke/VarHandle") ∧
  (∀ sig, parseMethodDescriptor y.desc = some sig → n = sig.parameters.length) ∧ (Cond.methodLink own index y).before args s = true ∧ (Cond.instanceMethod y).before args s = true ∧ (Cond.selects C y y).before args s = true
theorem vx_cwVW {own C : String} {index maxL mc ms : Nat} {y : MethodName} {bytes : ByteArray} {ret : Option FieldType} {hh : List (Nat × Nat × Nat × Nat)} {Ts ws ws' : List Cond} {rm : Room} (n : Nat) (ht : ∀ w ∈ Ts, w.before args s = true) (hT : GoodIn Ts (wsV own index C y ws)) (hw : ws = Cond.codeWith y bytes maxL ret hh :: ws') (hrc : rm.cells = mc) (hrs : rm.slots = ms)
    (hd : y.cls = C ∧ y.cls ≠ "java/lang/invoke/MethodHandle" ∧ y.cls ≠ "java/lang/invoke/VarHandle" ∧ (parseMethodDescriptor y.desc).map (fun d => d.parameters.length) = some n) (hR : rm.frames + 1 ≤ R.frames ∧ 8 + (maxL + 11) + rm.locals ≤ R.locals) :
    vx_CVW R s args own C index y bytes maxL ret hh ws rm mc ms n := by
  obtain ⟨hC, hd⟩ := hd
  subst hC
  have ok : ∀ w ∈ wsV own index y.cls y ws, w.before args s = true := fun w h => ht w (hT w h).1
  have hG : GoodIn Ts ws := fun w h => hT w (by unfold wsV; exact List.mem_append_right _ h)
  have hc : Cond.codeWith y bytes maxL ret hh ∈ ws := by rw [hw]; exact List.mem_cons_self
  refine ⟨⟨hrc, hrs, hR.1, hR.2, pay_in ht hG, hc⟩, ht _ (hG _ hc).1, ok _ (by simp [wsV]), ⟨hd.1, hd.2.1⟩, fun sig h => ?_, ok _ (by simp [wsV]), ok _ (by simp [wsV]), ok _ (by simp [wsV])⟩
  have h2 := hd.2.2
  rw [h] at h2
  exact (Option.some.inj h2).symm
theorem vx_runVW {y : MethodName} {bytes cc : ByteArray} {maxL nL mc ms n index : Nat} {ret : Option FieldType} {hh : List (Nat × Nat × Nat × Nat)} {ws : List Cond} {rm : Room} {Pc : Array Value → State → Prop} {Qc : Array Value → State → Outcome → State → Prop} {free : Addr → Prop} {Ts : List Cond} {own C : String} {b : Addr} {As rest : List Value} {g : JFrame}
    (S : CallFix p m c cc nL s args Ts own) (hM : Met l y ws rm Pc Qc mc ms free) (cw : vx_CVW R s args own C index y bytes maxL ret hh ws rm mc ms n) (hp : PreV s H C b Pc As)
    (hg : g.method = m) (hn : As.length = n) (hsize : g.locals.size = nL) (hstack : g.stack = As.reverse ++ .ref b :: rest) (hW : 2 * g.monitorRoom + (rest.map fun v => v.category).sum ≤ 8) (hdg : decode cc g.pc = .ok (.invokevirtual index, 3)) (hf : cells + mc ≤ R.cells ∧ slots + ms ≤ R.slots) :
    va_Run p l e R s m args below meth c H locs cells slots mc ms g rest (Qc (Value.ref b :: As).toArray) free := by
  obtain ⟨⟨hrc, hrs, hfr, hlo, hws, hcw⟩, hcode, hini, hy, hlen, hl, hin, hse⟩ := cw
  have hK : Back l R p e below s args y 3 8 (PreOf R mc ms Pc) (PostOf Qc mc ms free) := va_backW (hh := hh) (bytes := bytes) (maxL := maxL) (ret := ret) hM hp.1 hrc hrs hfr hlo hws hcw (fun a' U hW => word_at hW (Or.inl (by first | rfl | simp [Cond.onTables, Cond.keeps, Cond.steady])) hini)
  obtain ⟨hx, hb, hml, ho, -⟩ := S
  obtain ⟨-, ⟨cellB, hcB, hoB, hclB⟩, hPc⟩ := hp
  intro T hT X
  obtain ⟨v, vm₁, ⟨U', l2, c2, s2⟩, hW₁, X', ⟨g', mk, t, L, e1, e2, hq, h1, hL, h2, h3⟩, st⟩ := vx_callVW X hx (C := C) (hh := hh) (bytes := bytes) (maxL := maxL) (ret := ret) ho hl hin hse hcode hy hK (by rw [hT]; exact hcB) hoB hclB hg (hsize.trans hml.symm) (argsL := As) (rest := rest) (fun sig h => hn.trans (hlen sig h)) hstack hW (by rw [hb]; exact hdg)
    (fun vm₁ hW₁ => ⟨hf.1, hf.2, hPc (T.setVm vm₁) hT hW₁⟩)
  dsimp only [Pt.U, Pt.locs, Pt.cells, Pt.slots] at X' e1 e2 h1 h2 h3 st
  subst h1; subst h2; subst h3
  exact ⟨v, (T.setVm vm₁).calling g' mk (Value.ref b :: As).toArray, t, U', L, hT, X', hL, e1, e2, hq, st⟩
section
variable {y : MethodName} {bytes cc : ByteArray} {maxL nL mc ms n index : Nat} {ret : Option FieldType} {ws : List Cond} {rm : Room} {Pc : Array Value → State → Prop} {Qc : Array Value → State → Outcome → State → Prop} {XC : String → State → State → Prop} {free : Addr → Prop} {Ts : List Cond} {own C : String} {b : Addr} {As rest : List Value} {g : JFrame}
theorem vx_runVX {hh : List (Nat × Nat × Nat × Nat)} (S : CallFix p m c cc nL s args Ts own) (hM : vx_Met l y ws rm Pc Qc XC mc ms free) (cw : vx_CVW R s args own C index y bytes maxL ret hh ws rm mc ms n) (hp : PreV s H C b Pc As)
    (hg : g.method = m) (hn : As.length = n) (hsize : g.locals.size = nL) (hstack : g.stack = As.reverse ++ .ref b :: rest) (hW : 2 * g.monitorRoom + (rest.map fun v => v.category).sum ≤ 8) (hdg : decode cc g.pc = .ok (.invokevirtual index, 3)) (hf : cells + mc ≤ R.cells ∧ slots + ms ≤ R.slots) :
    vx_Run p l e R s m args below meth c H locs cells slots mc ms g rest (Qc (Value.ref b :: As).toArray) XC free := by
  obtain ⟨⟨hrc, hrs, hfr, hlo, hws, hcw⟩, hcode, hini, hy, hlen, hl, hin, hse⟩ := cw
  have hK : vx_Back l R p e below s args y 3 8 (PreOf R mc ms Pc) (PostOf Qc mc ms free) (vx_Post XC mc ms free) := vx_backW (hh := hh) (bytes := bytes) (maxL := maxL) (ret := ret) hM hp.1 hrc hrs hfr hlo hws hcw (fun a' U hW => word_at hW (Or.inl (by first | rfl | simp [Cond.onTables, Cond.keeps, Cond.steady])) hini)
  obtain ⟨hx, hb, hml, ho, -⟩ := S
  obtain ⟨-, ⟨cellB, hcB, hoB, hclB⟩, hPc⟩ := hp
  intro T hT X
  rcases vx_callVX X hx (C := C) (hh := hh) (bytes := bytes) (maxL := maxL) (ret := ret) ho hl hin hse hcode hy hK (by rw [hT]; exact hcB) hoB hclB hg (hsize.trans hml.symm) (argsL := As) (rest := rest) (fun sig h => hn.trans (hlen sig h)) hstack hW (by rw [hb]; exact hdg)
    (fun vm₁ hW₁ => ⟨hf.1, hf.2, hPc (T.setVm vm₁) hT hW₁⟩) with ⟨v, vm₁, ⟨U', l2, c2, s2⟩, hW₁, X', ⟨g', mk, t, L, e1, e2, hq, h1, hL, h2, h3⟩, st⟩ | ⟨q, vm₁, ⟨U', l2, c2, s2⟩, hW₁, X', ⟨g', mk, t, L, E, ce, e1, e2, hq, hce, hcv, hcl, h1, hL, h2, h3⟩, st⟩
  · dsimp only [Pt.U, Pt.locs, Pt.cells, Pt.slots] at X' e1 e2 h1 h2 h3 st
    subst h1; subst h2; subst h3
    exact Or.inl ⟨v, (T.setVm vm₁).calling g' mk (Value.ref b :: As).toArray, t, U', L, hT, X', hL, e1, e2, hq, st⟩
  · dsimp only [Pt.U, Pt.locs, Pt.cells, Pt.slots] at X' e1 e2 h1 h2 h3 st hcl
    subst h1; subst h2; subst h3
    exact Or.inr ⟨q, (T.setVm vm₁).calling g' mk (Value.ref b :: As).toArray, t, U', L, E, ce, hT, X', hL, e1, e2, hq, hce, hcv, vx_cls hW₁ hcl, st⟩
theorem vx_runSX {hh : List (Nat × Nat × Nat × Nat)} (S : CallFix p m c cc nL s args Ts own) (hM : vx_Met l y ws rm Pc Qc XC mc ms free) (cw : vx_CSW R s args own index y bytes maxL ret hh ws rm mc ms n) (hp : PreS s H Pc As)
    (hg : g.method = m) (hn : As.length = n) (hsize : g.locals.size = nL) (hstack : g.stack = As.reverse ++ rest) (hW : 2 * g.monitorRoom + (rest.map fun v => v.category).sum ≤ 8) (hdg : decode cc g.pc = .ok (.invokestatic index, 3)) (hf : cells + mc ≤ R.cells ∧ slots + ms ≤ R.slots) :
    vx_Run p l e R s m args below meth c H locs cells slots mc ms g rest (Qc As.toArray) XC free := by
  obtain ⟨⟨hrc, hrs, hfr, hlo, hws, hcw⟩, hcode, hini, hy, hlen, hl, hstt⟩ := cw
  have hK : vx_Back l R p e below s args y 3 8 (PreOf R mc ms Pc) (PostOf Qc mc ms free) (vx_Post XC mc ms free) := vx_backW (hh := hh) (bytes := bytes) (maxL := maxL) (ret := ret) hM hp.1 hrc hrs hfr hlo hws hcw (fun a' U hW => word_at hW (Or.inl (by first | rfl | simp [Cond.onTables, Cond.keeps, Cond.steady])) hini)
  obtain ⟨hx, hb, hml, ho, -⟩ := S
  intro T hT X
  rcases vx_callSX X hx (hh := hh) (bytes := bytes) (maxL := maxL) (ret := ret) ho hl hstt hini hcode hy hK hg (hsize.trans hml.symm) (argsL := As) (rest := rest) (fun sig h => hn.trans (hlen sig h)) hstack hW (by rw [hb]; exact hdg)
    (fun vm₁ hW₁ => ⟨hf.1, hf.2, hp.2 (T.setVm vm₁) hT hW₁⟩) with ⟨v, vm₁, ⟨U', l2, c2, s2⟩, hW₁, X', ⟨g', mk, t, L, e1, e2, hq, h1, hL, h2, h3⟩, st⟩ | ⟨q, vm₁, ⟨U', l2, c2, s2⟩, hW₁, X', ⟨g', mk, t, L, E, ce, e1, e2, hq, hce, hcv, hcl, h1, hL, h2, h3⟩, st⟩
  · dsimp only [Pt.U, Pt.locs, Pt.cells, Pt.slots] at X' e1 e2 h1 h2 h3 st
    subst h1; subst h2; subst h3
    exact Or.inl ⟨v, (T.setVm vm₁).calling g' mk As.toArray, t, U', L, hT, X', hL, e1, e2, hq, st⟩
  · dsimp only [Pt.U, Pt.locs, Pt.cells, Pt.slots] at X' e1 e2 h1 h2 h3 st hcl
    subst h1; subst h2; subst h3
    exact Or.inr ⟨q, (T.setVm vm₁).calling g' mk As.toArray, t, U', L, E, ce, hT, X', hL, e1, e2, hq, hce, hcv, vx_cls hW₁ hcl, st⟩
end
end VXH
theorem vx_ofWH {l : Launch} {y : MethodName} {ws ws' : List Cond} {rm : Room} {Pc : Array Value → State → Prop} {Qc : Array Value → State → Outcome → State → Prop} {XC : String → State → State → Prop} {mc ms : Nat} {free : Addr → Prop} {cc : ByteArray} {maxL : Nat} {ret : Option FieldType} {hh : List (Nat × Nat × Nat × Nat)}
    (hy : plainName y.cls = true) (hw : ws = Cond.codeWith y cc maxL ret hh :: ws')
    (body : ∀ p e s m args below meth c s₁, BodyLoose p l y (headSpec ws rm) cc maxL ret e s m args below meth c s₁ → c.maxLocals = maxL → Pc args s →
      W p l e (headSpec ws rm).room s m args below meth c s.heap [] 0 0 (vx_MQ below Qc XC args s mc ms free) (entryFrame m args maxL)) : vx_Met l y ws rm Pc Qc XC mc ms free := by
  refine MetFree.of_bodyS (code := cc) (maxLocals := maxL) (ret := ret) hy ?_ ?_
  · intro args s m h hn
    obtain ⟨m9, meth, c, hn9, h1, h2, h3, h4, -, h5, h6, -⟩ := Cond.codeWith_spec (atoms_spec (ws := ws) h _ (by rw [hw]; exact List.mem_cons_self))
    cases hn.symm.trans hn9
    exact ⟨meth, c, h1, h2, h3, h4, h5, h6⟩
  · intro p e s m args below meth c s₁ B hml hP _
    have hh0 : s₁.heap = s.heap := by rw [B.state]; rfl
    obtain ⟨t, a1, o, b1, b2, b3⟩ := body p e s m args below meth c s₁ B hml hP s₁ hh0 (Stand.of_body B)
    exact ⟨t, o, a1, b1, b2, b3⟩
/-! ===== END ===== -/
end
section
/-! 02.names: written by wip/whole/gen/gen_names.py out of javap's listing and the Statement's tables. U: the class, M: the reference, L: the law. -/
def RU : String := "UndoShelf"
def FU : u_T := fun k => match k with
  | 0 => ("UndoShelf", "cells", "[I", true)
  | 1 => ("UndoShelf", "rows", "I", false)
  | 2 => ("UndoShelf", "pointNames", "[I", true)
  | 3 => ("UndoShelf", "changesAtPoint", "[I", true)
  | 4 => ("UndoShelf", "points", "I", false)
  | 5 => ("UndoShelf", "changeKinds", "[I", true)
  | 6 => ("UndoShelf", "changeRows", "[I", true)
  | 7 => ("UndoShelf", "cellsBefore", "[I", true)
  | _ => ("UndoShelf", "changes", "I", false)
def tU : Nat → FieldType := fun k => match k with
  | 0 => .array .int
  | 1 => .int
  | 2 => .array .int
  | 3 => .array .int
  | 4 => .int
  | 5 => .array .int
  | 6 => .array .int
  | 7 => .array .int
  | _ => .int
theorem nmU : ∀ a, a < 9 → ∀ b, b < 9 → a ≠ b → (FU a).2.1 ≠ (FU b).2.1 := by decide +kernel
theorem tU_ok : ∀ k, k < 9 → parseFieldDescriptor (FU k).2.2.1 = some (tU k) := by decide +kernel
def RM : String := "UndoShelfModel"
def FM : u_T := fun k => match k with
  | 0 => ("UndoShelfModel", "thrown", "I", false)
  | 1 => ("UndoShelfModel", "rows", "I", false)
  | 2 => ("UndoShelfModel", "points", "I", false)
  | 3 => ("UndoShelfModel", "changes", "I", false)
  | 4 => ("UndoShelfModel", "value", "[I", true)
  | 5 => ("UndoShelfModel", "keptValue", "[I", true)
  | 6 => ("UndoShelfModel", "is", "[Z", true)
  | 7 => ("UndoShelfModel", "keptIs", "[Z", true)
  | 8 => ("UndoShelfModel", "pointName", "[I", true)
  | 9 => ("UndoShelfModel", "keptRows", "[I", true)
  | _ => ("UndoShelfModel", "keptChanges", "[I", true)
def tM : Nat → FieldType := fun k => match k with
  | 0 => .int
  | 1 => .int
  | 2 => .int
  | 3 => .int
  | 4 => .array .int
  | 5 => .array .int
  | 6 => .array .boolean
  | 7 => .array .boolean
  | 8 => .array .int
  | 9 => .array .int
  | _ => .array .int
theorem nmM : ∀ a, a < 11 → ∀ b, b < 11 → a ≠ b → (FM a).2.1 ≠ (FM b).2.1 := by decide +kernel
theorem tM_ok : ∀ k, k < 11 → parseFieldDescriptor (FM k).2.2.1 = some (tM k) := by decide +kernel
def RL : String := "UndoShelfLaw"
abbrev cU_init : ByteArray := prog_1_method_1_code
def yU_init : MethodName := ⟨RU, "<init>", "()V"⟩
abbrev cU_insert : ByteArray := prog_1_method_2_code
def yU_insert : MethodName := ⟨RU, "insert", "(IIII)I"⟩
abbrev cU_set : ByteArray := prog_1_method_3_code
def yU_set : MethodName := ⟨RU, "set", "(IIIZ)V"⟩
abbrev cU_remove : ByteArray := prog_1_method_4_code
def yU_remove : MethodName := ⟨RU, "remove", "(I)V"⟩
abbrev cU_removeAll : ByteArray := prog_1_method_5_code
def yU_removeAll : MethodName := ⟨RU, "removeAll", "(II)I"⟩
abbrev cU_find : ByteArray := prog_1_method_6_code
def yU_find : MethodName := ⟨RU, "find", "(II)I"⟩
abbrev cU_value : ByteArray := prog_1_method_7_code
def yU_value : MethodName := ⟨RU, "value", "(II)I"⟩
abbrev cU_mark : ByteArray := prog_1_method_8_code
def yU_mark : MethodName := ⟨RU, "mark", "(I)V"⟩
abbrev cU_back : ByteArray := prog_1_method_9_code
def yU_back : MethodName := ⟨RU, "back", "(I)V"⟩
abbrev cU_release : ByteArray := prog_1_method_10_code
def yU_release : MethodName := ⟨RU, "release", "(I)V"⟩
abbrev cU_count : ByteArray := prog_1_method_11_code
def yU_count : MethodName := ⟨RU, "count", "(I)I"⟩
abbrev cU_isColumn : ByteArray := prog_1_method_12_code
def yU_isColumn : MethodName := ⟨RU, "isColumn", "(I)Z"⟩
abbrev cU_isRow : ByteArray := prog_1_method_13_code
def yU_isRow : MethodName := ⟨RU, "isRow", "(I)Z"⟩
abbrev cU_isNone : ByteArray := prog_1_method_14_code
def yU_isNone : MethodName := ⟨RU, "isNone", "(II)Z"⟩
abbrev cU_holds : ByteArray := prog_1_method_15_code
def yU_holds : MethodName := ⟨RU, "holds", "(III)Z"⟩
abbrev cU_rowWithKey : ByteArray := prog_1_method_16_code
def yU_rowWithKey : MethodName := ⟨RU, "rowWithKey", "(II)I"⟩
abbrev cU_countRowsWith : ByteArray := prog_1_method_17_code
def yU_countRowsWith : MethodName := ⟨RU, "countRowsWith", "(II)I"⟩
abbrev cU_countNone : ByteArray := prog_1_method_18_code
def yU_countNone : MethodName := ⟨RU, "countNone", "(I)I"⟩
abbrev cU_mayBeInserted : ByteArray := prog_1_method_19_code
def yU_mayBeInserted : MethodName := ⟨RU, "mayBeInserted", "(III)Z"⟩
abbrev cU_maySet : ByteArray := prog_1_method_20_code
def yU_maySet : MethodName := ⟨RU, "maySet", "(IIIZ)Z"⟩
abbrev cU_hasRoomFor : ByteArray := prog_1_method_21_code
def yU_hasRoomFor : MethodName := ⟨RU, "hasRoomFor", "(I)Z"⟩
abbrev cU_takeOut : ByteArray := prog_1_method_22_code
def yU_takeOut : MethodName := ⟨RU, "takeOut", "(I)V"⟩
abbrev cU_keepChange : ByteArray := prog_1_method_23_code
def yU_keepChange : MethodName := ⟨RU, "keepChange", "(II)V"⟩
abbrev cU_undo : ByteArray := prog_1_method_24_code
def yU_undo : MethodName := ⟨RU, "undo", "(I)V"⟩
abbrev cU_closeRow : ByteArray := prog_1_method_25_code
def yU_closeRow : MethodName := ⟨RU, "closeRow", "(I)V"⟩
abbrev cU_openRow : ByteArray := prog_1_method_26_code
def yU_openRow : MethodName := ⟨RU, "openRow", "(I)V"⟩
abbrev cU_latestPoint : ByteArray := prog_1_method_27_code
def yU_latestPoint : MethodName := ⟨RU, "latestPoint", "(I)I"⟩
abbrev cM_init : ByteArray := prog_3_method_1_code
def yM_init : MethodName := ⟨RM, "<init>", "()V"⟩
abbrev cM_thrown : ByteArray := prog_3_method_2_code
def yM_thrown : MethodName := ⟨RM, "thrown", "()I"⟩
abbrev cM_no : ByteArray := prog_3_method_3_code
def yM_no : MethodName := ⟨RM, "no", "(I)I"⟩
abbrev cM_row : ByteArray := prog_3_method_4_code
def yM_row : MethodName := ⟨RM, "row", "(II)I"⟩
abbrev cM_isFull : ByteArray := prog_3_method_5_code
def yM_isFull : MethodName := ⟨RM, "isFull", "(I)Z"⟩
abbrev cM_changed : ByteArray := prog_3_method_6_code
def yM_changed : MethodName := ⟨RM, "changed", "()V"⟩
abbrev cM_insert : ByteArray := prog_3_method_7_code
def yM_insert : MethodName := ⟨RM, "insert", "(IIII)I"⟩
abbrev cM_isRow : ByteArray := prog_3_method_8_code
def yM_isRow : MethodName := ⟨RM, "isRow", "(I)Z"⟩
abbrev cM_set : ByteArray := prog_3_method_9_code
def yM_set : MethodName := ⟨RM, "set", "(IIIZ)V"⟩
abbrev cM_take : ByteArray := prog_3_method_10_code
def yM_take : MethodName := ⟨RM, "take", "(I)V"⟩
abbrev cM_remove : ByteArray := prog_3_method_11_code
def yM_remove : MethodName := ⟨RM, "remove", "(I)V"⟩
abbrev cM_removeAll : ByteArray := prog_3_method_12_code
def yM_removeAll : MethodName := ⟨RM, "removeAll", "(II)I"⟩
abbrev cM_find : ByteArray := prog_3_method_13_code
def yM_find : MethodName := ⟨RM, "find", "(II)I"⟩
abbrev cM_value : ByteArray := prog_3_method_14_code
def yM_value : MethodName := ⟨RM, "value", "(II)I"⟩
abbrev cM_mark : ByteArray := prog_3_method_15_code
def yM_mark : MethodName := ⟨RM, "mark", "(I)V"⟩
abbrev cM_point : ByteArray := prog_3_method_16_code
def yM_point : MethodName := ⟨RM, "point", "(I)I"⟩
abbrev cM_back : ByteArray := prog_3_method_17_code
def yM_back : MethodName := ⟨RM, "back", "(I)V"⟩
abbrev cM_release : ByteArray := prog_3_method_18_code
def yM_release : MethodName := ⟨RM, "release", "(I)V"⟩
abbrev cM_nones : ByteArray := prog_3_method_19_code
def yM_nones : MethodName := ⟨RM, "nones", "(I)I"⟩
abbrev cM_count : ByteArray := prog_3_method_20_code
def yM_count : MethodName := ⟨RM, "count", "(I)I"⟩
abbrev cL_insert : ByteArray := method_3_code
def yL_insert : MethodName := ⟨RL, "insert", "(LUndoShelf;IIII[J)I"⟩
abbrev cL_set : ByteArray := method_4_code
def yL_set : MethodName := ⟨RL, "set", "(LUndoShelf;IIIZ)I"⟩
abbrev cL_remove : ByteArray := method_5_code
def yL_remove : MethodName := ⟨RL, "remove", "(LUndoShelf;I)I"⟩
abbrev cL_removeAll : ByteArray := method_6_code
def yL_removeAll : MethodName := ⟨RL, "removeAll", "(LUndoShelf;II[J)I"⟩
abbrev cL_find : ByteArray := method_7_code
def yL_find : MethodName := ⟨RL, "find", "(LUndoShelf;II[J)I"⟩
abbrev cL_value : ByteArray := method_8_code
def yL_value : MethodName := ⟨RL, "value", "(LUndoShelf;II[J)I"⟩
abbrev cL_mark : ByteArray := method_9_code
def yL_mark : MethodName := ⟨RL, "mark", "(LUndoShelf;I)I"⟩
abbrev cL_back : ByteArray := method_10_code
def yL_back : MethodName := ⟨RL, "back", "(LUndoShelf;I)I"⟩
abbrev cL_release : ByteArray := method_11_code
def yL_release : MethodName := ⟨RL, "release", "(LUndoShelf;I)I"⟩
abbrev cL_law : ByteArray := code
def yL_law : MethodName := ⟨RL, "law", "([I)Z"⟩
end
section
theorem dU_init_0 : decode cU_init 0 = .ok (.aload_n 0, 1) := by decide +kernel
theorem dU_init_1 : decode cU_init 1 = .ok (.invokespecial 1, 3) := by decide +kernel
theorem dU_init_4 : decode cU_init 4 = .ok (.aload_n 0, 1) := by decide +kernel
theorem dU_init_5 : decode cU_init 5 = .ok (.sipush 480, 3) := by decide +kernel
theorem dU_init_8 : decode cU_init 8 = .ok (.newarray .int, 2) := by decide +kernel
theorem dU_init_10 : decode cU_init 10 = .ok (.putfield 9, 3) := by decide +kernel
theorem dU_init_13 : decode cU_init 13 = .ok (.aload_n 0, 1) := by decide +kernel
theorem dU_init_14 : decode cU_init 14 = .ok (.iconst 0, 1) := by decide +kernel
theorem dU_init_15 : decode cU_init 15 = .ok (.putfield 13, 3) := by decide +kernel
theorem dU_init_18 : decode cU_init 18 = .ok (.aload_n 0, 1) := by decide +kernel
theorem dU_init_19 : decode cU_init 19 = .ok (.bipush 20, 2) := by decide +kernel
theorem dU_init_21 : decode cU_init 21 = .ok (.newarray .int, 2) := by decide +kernel
theorem dU_init_23 : decode cU_init 23 = .ok (.putfield 17, 3) := by decide +kernel
theorem dU_init_26 : decode cU_init 26 = .ok (.aload_n 0, 1) := by decide +kernel
theorem dU_init_27 : decode cU_init 27 = .ok (.bipush 20, 2) := by decide +kernel
theorem dU_init_29 : decode cU_init 29 = .ok (.newarray .int, 2) := by decide +kernel
theorem dU_init_31 : decode cU_init 31 = .ok (.putfield 20, 3) := by decide +kernel
theorem dU_init_34 : decode cU_init 34 = .ok (.aload_n 0, 1) := by decide +kernel
theorem dU_init_35 : decode cU_init 35 = .ok (.iconst 0, 1) := by decide +kernel
theorem dU_init_36 : decode cU_init 36 = .ok (.putfield 23, 3) := by decide +kernel
theorem dU_init_39 : decode cU_init 39 = .ok (.aload_n 0, 1) := by decide +kernel
theorem dU_init_40 : decode cU_init 40 = .ok (.sipush 200, 3) := by decide +kernel
theorem dU_init_43 : decode cU_init 43 = .ok (.newarray .int, 2) := by decide +kernel
theorem dU_init_45 : decode cU_init 45 = .ok (.putfield 26, 3) := by decide +kernel
theorem dU_init_48 : decode cU_init 48 = .ok (.aload_n 0, 1) := by decide +kernel
theorem dU_init_49 : decode cU_init 49 = .ok (.sipush 200, 3) := by decide +kernel
theorem dU_init_52 : decode cU_init 52 = .ok (.newarray .int, 2) := by decide +kernel
theorem dU_init_54 : decode cU_init 54 = .ok (.putfield 29, 3) := by decide +kernel
theorem dU_init_57 : decode cU_init 57 = .ok (.aload_n 0, 1) := by decide +kernel
theorem dU_init_58 : decode cU_init 58 = .ok (.sipush 800, 3) := by decide +kernel
theorem dU_init_61 : decode cU_init 61 = .ok (.newarray .int, 2) := by decide +kernel
theorem dU_init_63 : decode cU_init 63 = .ok (.putfield 32, 3) := by decide +kernel
theorem dU_init_66 : decode cU_init 66 = .ok (.aload_n 0, 1) := by decide +kernel
theorem dU_init_67 : decode cU_init 67 = .ok (.iconst 0, 1) := by decide +kernel
theorem dU_init_68 : decode cU_init 68 = .ok (.putfield 35, 3) := by decide +kernel
theorem dU_init_71 : decode cU_init 71 = .ok (.return_, 1) := by decide +kernel
theorem dU_insert_0 : decode cU_insert 0 = .ok (.iload 4, 2) := by decide +kernel
theorem dU_insert_2 : decode cU_insert 2 = .ok (.bipush (-8), 2) := by decide +kernel
theorem dU_insert_4 : decode cU_insert 4 = .ok (.iand, 1) := by decide +kernel
theorem dU_insert_5 : decode cU_insert 5 = .ok (.ifCond .eq 11, 3) := by decide +kernel
theorem dU_insert_8 : decode cU_insert 8 = .ok (.new 38, 3) := by decide +kernel
theorem dU_insert_11 : decode cU_insert 11 = .ok (.dup, 1) := by decide +kernel
theorem dU_insert_12 : decode cU_insert 12 = .ok (.invokespecial 40, 3) := by decide +kernel
theorem dU_insert_15 : decode cU_insert 15 = .ok (.athrow, 1) := by decide +kernel
theorem dU_insert_16 : decode cU_insert 16 = .ok (.aload_n 0, 1) := by decide +kernel
theorem dU_insert_17 : decode cU_insert 17 = .ok (.getfield 13, 3) := by decide +kernel
theorem dU_insert_20 : decode cU_insert 20 = .ok (.bipush 120, 2) := by decide +kernel
theorem dU_insert_22 : decode cU_insert 22 = .ok (.if_icmp .ge 22, 3) := by decide +kernel
theorem dU_insert_25 : decode cU_insert 25 = .ok (.aload_n 0, 1) := by decide +kernel
theorem dU_insert_26 : decode cU_insert 26 = .ok (.iconst 1, 1) := by decide +kernel
theorem dU_insert_27 : decode cU_insert 27 = .ok (.invokevirtual 41, 3) := by decide +kernel
theorem dU_insert_30 : decode cU_insert 30 = .ok (.ifCond .eq 14, 3) := by decide +kernel
theorem dU_insert_33 : decode cU_insert 33 = .ok (.aload_n 0, 1) := by decide +kernel
theorem dU_insert_34 : decode cU_insert 34 = .ok (.iload_n 1, 1) := by decide +kernel
theorem dU_insert_35 : decode cU_insert 35 = .ok (.iload_n 2, 1) := by decide +kernel
theorem dU_insert_36 : decode cU_insert 36 = .ok (.iload 4, 2) := by decide +kernel
theorem dU_insert_38 : decode cU_insert 38 = .ok (.invokevirtual 45, 3) := by decide +kernel
theorem dU_insert_41 : decode cU_insert 41 = .ok (.ifCond .ne 11, 3) := by decide +kernel
theorem dU_insert_44 : decode cU_insert 44 = .ok (.new 49, 3) := by decide +kernel
theorem dU_insert_47 : decode cU_insert 47 = .ok (.dup, 1) := by decide +kernel
theorem dU_insert_48 : decode cU_insert 48 = .ok (.invokespecial 51, 3) := by decide +kernel
theorem dU_insert_51 : decode cU_insert 51 = .ok (.athrow, 1) := by decide +kernel
theorem dU_insert_52 : decode cU_insert 52 = .ok (.aload_n 0, 1) := by decide +kernel
theorem dU_insert_53 : decode cU_insert 53 = .ok (.getfield 13, 3) := by decide +kernel
theorem dU_insert_56 : decode cU_insert 56 = .ok (.istore 5, 2) := by decide +kernel
theorem dU_insert_58 : decode cU_insert 58 = .ok (.aload_n 0, 1) := by decide +kernel
theorem dU_insert_59 : decode cU_insert 59 = .ok (.iconst 0, 1) := by decide +kernel
theorem dU_insert_60 : decode cU_insert 60 = .ok (.iload 5, 2) := by decide +kernel
theorem dU_insert_62 : decode cU_insert 62 = .ok (.invokevirtual 52, 3) := by decide +kernel
theorem dU_insert_65 : decode cU_insert 65 = .ok (.iload 5, 2) := by decide +kernel
theorem dU_insert_67 : decode cU_insert 67 = .ok (.iconst 4, 1) := by decide +kernel
theorem dU_insert_68 : decode cU_insert 68 = .ok (.imul, 1) := by decide +kernel
theorem dU_insert_69 : decode cU_insert 69 = .ok (.istore 6, 2) := by decide +kernel
theorem dU_insert_71 : decode cU_insert 71 = .ok (.aload_n 0, 1) := by decide +kernel
theorem dU_insert_72 : decode cU_insert 72 = .ok (.getfield 9, 3) := by decide +kernel
theorem dU_insert_75 : decode cU_insert 75 = .ok (.iload 6, 2) := by decide +kernel
theorem dU_insert_77 : decode cU_insert 77 = .ok (.iload_n 1, 1) := by decide +kernel
theorem dU_insert_78 : decode cU_insert 78 = .ok (.iastore, 1) := by decide +kernel
theorem dU_insert_79 : decode cU_insert 79 = .ok (.aload_n 0, 1) := by decide +kernel
theorem dU_insert_80 : decode cU_insert 80 = .ok (.getfield 9, 3) := by decide +kernel
theorem dU_insert_83 : decode cU_insert 83 = .ok (.iload 6, 2) := by decide +kernel
theorem dU_insert_85 : decode cU_insert 85 = .ok (.iconst 1, 1) := by decide +kernel
theorem dU_insert_86 : decode cU_insert 86 = .ok (.iadd, 1) := by decide +kernel
theorem dU_insert_87 : decode cU_insert 87 = .ok (.iload_n 2, 1) := by decide +kernel
theorem dU_insert_88 : decode cU_insert 88 = .ok (.iastore, 1) := by decide +kernel
theorem dU_insert_89 : decode cU_insert 89 = .ok (.aload_n 0, 1) := by decide +kernel
theorem dU_insert_90 : decode cU_insert 90 = .ok (.getfield 9, 3) := by decide +kernel
theorem dU_insert_93 : decode cU_insert 93 = .ok (.iload 6, 2) := by decide +kernel
theorem dU_insert_95 : decode cU_insert 95 = .ok (.iconst 2, 1) := by decide +kernel
theorem dU_insert_96 : decode cU_insert 96 = .ok (.iadd, 1) := by decide +kernel
theorem dU_insert_97 : decode cU_insert 97 = .ok (.iload_n 3, 1) := by decide +kernel
theorem dU_insert_98 : decode cU_insert 98 = .ok (.iastore, 1) := by decide +kernel
theorem dU_insert_99 : decode cU_insert 99 = .ok (.aload_n 0, 1) := by decide +kernel
theorem dU_insert_100 : decode cU_insert 100 = .ok (.getfield 9, 3) := by decide +kernel
theorem dU_insert_103 : decode cU_insert 103 = .ok (.iload 6, 2) := by decide +kernel
theorem dU_insert_105 : decode cU_insert 105 = .ok (.iconst 3, 1) := by decide +kernel
theorem dU_insert_106 : decode cU_insert 106 = .ok (.iadd, 1) := by decide +kernel
theorem dU_insert_107 : decode cU_insert 107 = .ok (.iload 4, 2) := by decide +kernel
theorem dU_insert_109 : decode cU_insert 109 = .ok (.iastore, 1) := by decide +kernel
theorem dU_insert_110 : decode cU_insert 110 = .ok (.aload_n 0, 1) := by decide +kernel
theorem dU_insert_111 : decode cU_insert 111 = .ok (.iload 5, 2) := by decide +kernel
theorem dU_insert_113 : decode cU_insert 113 = .ok (.iconst 1, 1) := by decide +kernel
theorem dU_insert_114 : decode cU_insert 114 = .ok (.iadd, 1) := by decide +kernel
theorem dU_insert_115 : decode cU_insert 115 = .ok (.putfield 13, 3) := by decide +kernel
theorem dU_insert_118 : decode cU_insert 118 = .ok (.iload 5, 2) := by decide +kernel
theorem dU_insert_120 : decode cU_insert 120 = .ok (.ireturn, 1) := by decide +kernel
theorem dU_set_0 : decode cU_set 0 = .ok (.iload_n 2, 1) := by decide +kernel
theorem dU_set_1 : decode cU_set 1 = .ok (.invokestatic 56, 3) := by decide +kernel
theorem dU_set_4 : decode cU_set 4 = .ok (.ifCond .ne 11, 3) := by decide +kernel
theorem dU_set_7 : decode cU_set 7 = .ok (.new 38, 3) := by decide +kernel
theorem dU_set_10 : decode cU_set 10 = .ok (.dup, 1) := by decide +kernel
theorem dU_set_11 : decode cU_set 11 = .ok (.invokespecial 40, 3) := by decide +kernel
theorem dU_set_14 : decode cU_set 14 = .ok (.athrow, 1) := by decide +kernel
theorem dU_set_15 : decode cU_set 15 = .ok (.aload_n 0, 1) := by decide +kernel
theorem dU_set_16 : decode cU_set 16 = .ok (.iload_n 1, 1) := by decide +kernel
theorem dU_set_17 : decode cU_set 17 = .ok (.invokevirtual 59, 3) := by decide +kernel
theorem dU_set_20 : decode cU_set 20 = .ok (.ifCond .ne 11, 3) := by decide +kernel
theorem dU_set_23 : decode cU_set 23 = .ok (.new 62, 3) := by decide +kernel
theorem dU_set_26 : decode cU_set 26 = .ok (.dup, 1) := by decide +kernel
theorem dU_set_27 : decode cU_set 27 = .ok (.invokespecial 64, 3) := by decide +kernel
theorem dU_set_30 : decode cU_set 30 = .ok (.athrow, 1) := by decide +kernel
theorem dU_set_31 : decode cU_set 31 = .ok (.aload_n 0, 1) := by decide +kernel
theorem dU_set_32 : decode cU_set 32 = .ok (.iconst 1, 1) := by decide +kernel
theorem dU_set_33 : decode cU_set 33 = .ok (.invokevirtual 41, 3) := by decide +kernel
theorem dU_set_36 : decode cU_set 36 = .ok (.ifCond .eq 15, 3) := by decide +kernel
theorem dU_set_39 : decode cU_set 39 = .ok (.aload_n 0, 1) := by decide +kernel
theorem dU_set_40 : decode cU_set 40 = .ok (.iload_n 1, 1) := by decide +kernel
theorem dU_set_41 : decode cU_set 41 = .ok (.iload_n 2, 1) := by decide +kernel
theorem dU_set_42 : decode cU_set 42 = .ok (.iload_n 3, 1) := by decide +kernel
theorem dU_set_43 : decode cU_set 43 = .ok (.iload 4, 2) := by decide +kernel
theorem dU_set_45 : decode cU_set 45 = .ok (.invokevirtual 65, 3) := by decide +kernel
theorem dU_set_48 : decode cU_set 48 = .ok (.ifCond .ne 11, 3) := by decide +kernel
theorem dU_set_51 : decode cU_set 51 = .ok (.new 49, 3) := by decide +kernel
theorem dU_set_54 : decode cU_set 54 = .ok (.dup, 1) := by decide +kernel
theorem dU_set_55 : decode cU_set 55 = .ok (.invokespecial 51, 3) := by decide +kernel
theorem dU_set_58 : decode cU_set 58 = .ok (.athrow, 1) := by decide +kernel
theorem dU_set_59 : decode cU_set 59 = .ok (.aload_n 0, 1) := by decide +kernel
theorem dU_set_60 : decode cU_set 60 = .ok (.iconst 1, 1) := by decide +kernel
theorem dU_set_61 : decode cU_set 61 = .ok (.iload_n 1, 1) := by decide +kernel
theorem dU_set_62 : decode cU_set 62 = .ok (.invokevirtual 52, 3) := by decide +kernel
theorem dU_set_65 : decode cU_set 65 = .ok (.iload_n 1, 1) := by decide +kernel
theorem dU_set_66 : decode cU_set 66 = .ok (.iconst 4, 1) := by decide +kernel
theorem dU_set_67 : decode cU_set 67 = .ok (.imul, 1) := by decide +kernel
theorem dU_set_68 : decode cU_set 68 = .ok (.istore 5, 2) := by decide +kernel
theorem dU_set_70 : decode cU_set 70 = .ok (.iload 4, 2) := by decide +kernel
theorem dU_set_72 : decode cU_set 72 = .ok (.ifCond .eq 23, 3) := by decide +kernel
theorem dU_set_75 : decode cU_set 75 = .ok (.aload_n 0, 1) := by decide +kernel
theorem dU_set_76 : decode cU_set 76 = .ok (.getfield 9, 3) := by decide +kernel
theorem dU_set_79 : decode cU_set 79 = .ok (.iload 5, 2) := by decide +kernel
theorem dU_set_81 : decode cU_set 81 = .ok (.iconst 3, 1) := by decide +kernel
end
section
theorem dU_set_82 : decode cU_set 82 = .ok (.iadd, 1) := by decide +kernel
theorem dU_set_83 : decode cU_set 83 = .ok (.dup2, 1) := by decide +kernel
theorem dU_set_84 : decode cU_set 84 = .ok (.iaload, 1) := by decide +kernel
theorem dU_set_85 : decode cU_set 85 = .ok (.iconst 1, 1) := by decide +kernel
theorem dU_set_86 : decode cU_set 86 = .ok (.iload_n 2, 1) := by decide +kernel
theorem dU_set_87 : decode cU_set 87 = .ok (.ishl, 1) := by decide +kernel
theorem dU_set_88 : decode cU_set 88 = .ok (.iconst (-1), 1) := by decide +kernel
theorem dU_set_89 : decode cU_set 89 = .ok (.ixor, 1) := by decide +kernel
theorem dU_set_90 : decode cU_set 90 = .ok (.iand, 1) := by decide +kernel
theorem dU_set_91 : decode cU_set 91 = .ok (.iastore, 1) := by decide +kernel
theorem dU_set_92 : decode cU_set 92 = .ok (.goto 28, 3) := by decide +kernel
theorem dU_set_95 : decode cU_set 95 = .ok (.aload_n 0, 1) := by decide +kernel
theorem dU_set_96 : decode cU_set 96 = .ok (.getfield 9, 3) := by decide +kernel
theorem dU_set_99 : decode cU_set 99 = .ok (.iload 5, 2) := by decide +kernel
theorem dU_set_101 : decode cU_set 101 = .ok (.iload_n 2, 1) := by decide +kernel
theorem dU_set_102 : decode cU_set 102 = .ok (.iadd, 1) := by decide +kernel
theorem dU_set_103 : decode cU_set 103 = .ok (.iload_n 3, 1) := by decide +kernel
theorem dU_set_104 : decode cU_set 104 = .ok (.iastore, 1) := by decide +kernel
theorem dU_set_105 : decode cU_set 105 = .ok (.aload_n 0, 1) := by decide +kernel
theorem dU_set_106 : decode cU_set 106 = .ok (.getfield 9, 3) := by decide +kernel
theorem dU_set_109 : decode cU_set 109 = .ok (.iload 5, 2) := by decide +kernel
theorem dU_set_111 : decode cU_set 111 = .ok (.iconst 3, 1) := by decide +kernel
theorem dU_set_112 : decode cU_set 112 = .ok (.iadd, 1) := by decide +kernel
theorem dU_set_113 : decode cU_set 113 = .ok (.dup2, 1) := by decide +kernel
theorem dU_set_114 : decode cU_set 114 = .ok (.iaload, 1) := by decide +kernel
theorem dU_set_115 : decode cU_set 115 = .ok (.iconst 1, 1) := by decide +kernel
theorem dU_set_116 : decode cU_set 116 = .ok (.iload_n 2, 1) := by decide +kernel
theorem dU_set_117 : decode cU_set 117 = .ok (.ishl, 1) := by decide +kernel
theorem dU_set_118 : decode cU_set 118 = .ok (.ior, 1) := by decide +kernel
theorem dU_set_119 : decode cU_set 119 = .ok (.iastore, 1) := by decide +kernel
theorem dU_set_120 : decode cU_set 120 = .ok (.return_, 1) := by decide +kernel
theorem dU_remove_0 : decode cU_remove 0 = .ok (.aload_n 0, 1) := by decide +kernel
theorem dU_remove_1 : decode cU_remove 1 = .ok (.iload_n 1, 1) := by decide +kernel
theorem dU_remove_2 : decode cU_remove 2 = .ok (.invokevirtual 59, 3) := by decide +kernel
theorem dU_remove_5 : decode cU_remove 5 = .ok (.ifCond .ne 11, 3) := by decide +kernel
theorem dU_remove_8 : decode cU_remove 8 = .ok (.new 62, 3) := by decide +kernel
theorem dU_remove_11 : decode cU_remove 11 = .ok (.dup, 1) := by decide +kernel
theorem dU_remove_12 : decode cU_remove 12 = .ok (.invokespecial 64, 3) := by decide +kernel
theorem dU_remove_15 : decode cU_remove 15 = .ok (.athrow, 1) := by decide +kernel
theorem dU_remove_16 : decode cU_remove 16 = .ok (.aload_n 0, 1) := by decide +kernel
theorem dU_remove_17 : decode cU_remove 17 = .ok (.iconst 1, 1) := by decide +kernel
theorem dU_remove_18 : decode cU_remove 18 = .ok (.invokevirtual 41, 3) := by decide +kernel
theorem dU_remove_21 : decode cU_remove 21 = .ok (.ifCond .ne 11, 3) := by decide +kernel
theorem dU_remove_24 : decode cU_remove 24 = .ok (.new 49, 3) := by decide +kernel
theorem dU_remove_27 : decode cU_remove 27 = .ok (.dup, 1) := by decide +kernel
theorem dU_remove_28 : decode cU_remove 28 = .ok (.invokespecial 51, 3) := by decide +kernel
theorem dU_remove_31 : decode cU_remove 31 = .ok (.athrow, 1) := by decide +kernel
theorem dU_remove_32 : decode cU_remove 32 = .ok (.aload_n 0, 1) := by decide +kernel
theorem dU_remove_33 : decode cU_remove 33 = .ok (.iload_n 1, 1) := by decide +kernel
theorem dU_remove_34 : decode cU_remove 34 = .ok (.invokevirtual 69, 3) := by decide +kernel
theorem dU_remove_37 : decode cU_remove 37 = .ok (.return_, 1) := by decide +kernel
theorem dU_removeAll_0 : decode cU_removeAll 0 = .ok (.iload_n 1, 1) := by decide +kernel
theorem dU_removeAll_1 : decode cU_removeAll 1 = .ok (.invokestatic 56, 3) := by decide +kernel
theorem dU_removeAll_4 : decode cU_removeAll 4 = .ok (.ifCond .ne 11, 3) := by decide +kernel
theorem dU_removeAll_7 : decode cU_removeAll 7 = .ok (.new 38, 3) := by decide +kernel
theorem dU_removeAll_10 : decode cU_removeAll 10 = .ok (.dup, 1) := by decide +kernel
theorem dU_removeAll_11 : decode cU_removeAll 11 = .ok (.invokespecial 40, 3) := by decide +kernel
theorem dU_removeAll_14 : decode cU_removeAll 14 = .ok (.athrow, 1) := by decide +kernel
theorem dU_removeAll_15 : decode cU_removeAll 15 = .ok (.aload_n 0, 1) := by decide +kernel
theorem dU_removeAll_16 : decode cU_removeAll 16 = .ok (.iload_n 1, 1) := by decide +kernel
theorem dU_removeAll_17 : decode cU_removeAll 17 = .ok (.iload_n 2, 1) := by decide +kernel
theorem dU_removeAll_18 : decode cU_removeAll 18 = .ok (.invokevirtual 73, 3) := by decide +kernel
theorem dU_removeAll_21 : decode cU_removeAll 21 = .ok (.istore_n 3, 1) := by decide +kernel
theorem dU_removeAll_22 : decode cU_removeAll 22 = .ok (.aload_n 0, 1) := by decide +kernel
theorem dU_removeAll_23 : decode cU_removeAll 23 = .ok (.iload_n 3, 1) := by decide +kernel
theorem dU_removeAll_24 : decode cU_removeAll 24 = .ok (.invokevirtual 41, 3) := by decide +kernel
theorem dU_removeAll_27 : decode cU_removeAll 27 = .ok (.ifCond .ne 11, 3) := by decide +kernel
theorem dU_removeAll_30 : decode cU_removeAll 30 = .ok (.new 49, 3) := by decide +kernel
theorem dU_removeAll_33 : decode cU_removeAll 33 = .ok (.dup, 1) := by decide +kernel
theorem dU_removeAll_34 : decode cU_removeAll 34 = .ok (.invokespecial 51, 3) := by decide +kernel
theorem dU_removeAll_37 : decode cU_removeAll 37 = .ok (.athrow, 1) := by decide +kernel
theorem dU_removeAll_38 : decode cU_removeAll 38 = .ok (.aload_n 0, 1) := by decide +kernel
theorem dU_removeAll_39 : decode cU_removeAll 39 = .ok (.getfield 13, 3) := by decide +kernel
theorem dU_removeAll_42 : decode cU_removeAll 42 = .ok (.iconst 1, 1) := by decide +kernel
theorem dU_removeAll_43 : decode cU_removeAll 43 = .ok (.isub, 1) := by decide +kernel
theorem dU_removeAll_44 : decode cU_removeAll 44 = .ok (.istore 4, 2) := by decide +kernel
theorem dU_removeAll_46 : decode cU_removeAll 46 = .ok (.iload 4, 2) := by decide +kernel
theorem dU_removeAll_48 : decode cU_removeAll 48 = .ok (.ifCond .lt 26, 3) := by decide +kernel
theorem dU_removeAll_51 : decode cU_removeAll 51 = .ok (.aload_n 0, 1) := by decide +kernel
theorem dU_removeAll_52 : decode cU_removeAll 52 = .ok (.iload 4, 2) := by decide +kernel
theorem dU_removeAll_54 : decode cU_removeAll 54 = .ok (.iload_n 1, 1) := by decide +kernel
theorem dU_removeAll_55 : decode cU_removeAll 55 = .ok (.iload_n 2, 1) := by decide +kernel
theorem dU_removeAll_56 : decode cU_removeAll 56 = .ok (.invokevirtual 77, 3) := by decide +kernel
theorem dU_removeAll_59 : decode cU_removeAll 59 = .ok (.ifCond .eq 9, 3) := by decide +kernel
theorem dU_removeAll_62 : decode cU_removeAll 62 = .ok (.aload_n 0, 1) := by decide +kernel
theorem dU_removeAll_63 : decode cU_removeAll 63 = .ok (.iload 4, 2) := by decide +kernel
theorem dU_removeAll_65 : decode cU_removeAll 65 = .ok (.invokevirtual 69, 3) := by decide +kernel
theorem dU_removeAll_68 : decode cU_removeAll 68 = .ok (.iinc 4 (-1), 3) := by decide +kernel
theorem dU_removeAll_71 : decode cU_removeAll 71 = .ok (.goto (-25), 3) := by decide +kernel
theorem dU_removeAll_74 : decode cU_removeAll 74 = .ok (.iload_n 3, 1) := by decide +kernel
theorem dU_removeAll_75 : decode cU_removeAll 75 = .ok (.ireturn, 1) := by decide +kernel
theorem dU_find_0 : decode cU_find 0 = .ok (.iload_n 1, 1) := by decide +kernel
theorem dU_find_1 : decode cU_find 1 = .ok (.ifCond .lt 8, 3) := by decide +kernel
theorem dU_find_4 : decode cU_find 4 = .ok (.iload_n 1, 1) := by decide +kernel
theorem dU_find_5 : decode cU_find 5 = .ok (.iconst 2, 1) := by decide +kernel
theorem dU_find_6 : decode cU_find 6 = .ok (.if_icmp .lt 11, 3) := by decide +kernel
theorem dU_find_9 : decode cU_find 9 = .ok (.new 38, 3) := by decide +kernel
theorem dU_find_12 : decode cU_find 12 = .ok (.dup, 1) := by decide +kernel
theorem dU_find_13 : decode cU_find 13 = .ok (.invokespecial 40, 3) := by decide +kernel
theorem dU_find_16 : decode cU_find 16 = .ok (.athrow, 1) := by decide +kernel
theorem dU_find_17 : decode cU_find 17 = .ok (.aload_n 0, 1) := by decide +kernel
theorem dU_find_18 : decode cU_find 18 = .ok (.iload_n 1, 1) := by decide +kernel
theorem dU_find_19 : decode cU_find 19 = .ok (.iload_n 2, 1) := by decide +kernel
theorem dU_find_20 : decode cU_find 20 = .ok (.invokevirtual 80, 3) := by decide +kernel
theorem dU_find_23 : decode cU_find 23 = .ok (.ireturn, 1) := by decide +kernel
theorem dU_value_0 : decode cU_value 0 = .ok (.iload_n 2, 1) := by decide +kernel
theorem dU_value_1 : decode cU_value 1 = .ok (.invokestatic 56, 3) := by decide +kernel
theorem dU_value_4 : decode cU_value 4 = .ok (.ifCond .ne 11, 3) := by decide +kernel
theorem dU_value_7 : decode cU_value 7 = .ok (.new 38, 3) := by decide +kernel
theorem dU_value_10 : decode cU_value 10 = .ok (.dup, 1) := by decide +kernel
theorem dU_value_11 : decode cU_value 11 = .ok (.invokespecial 40, 3) := by decide +kernel
theorem dU_value_14 : decode cU_value 14 = .ok (.athrow, 1) := by decide +kernel
theorem dU_value_15 : decode cU_value 15 = .ok (.aload_n 0, 1) := by decide +kernel
theorem dU_value_16 : decode cU_value 16 = .ok (.iload_n 1, 1) := by decide +kernel
theorem dU_value_17 : decode cU_value 17 = .ok (.invokevirtual 59, 3) := by decide +kernel
theorem dU_value_20 : decode cU_value 20 = .ok (.ifCond .eq 12, 3) := by decide +kernel
theorem dU_value_23 : decode cU_value 23 = .ok (.aload_n 0, 1) := by decide +kernel
theorem dU_value_24 : decode cU_value 24 = .ok (.iload_n 1, 1) := by decide +kernel
theorem dU_value_25 : decode cU_value 25 = .ok (.iload_n 2, 1) := by decide +kernel
theorem dU_value_26 : decode cU_value 26 = .ok (.invokevirtual 83, 3) := by decide +kernel
theorem dU_value_29 : decode cU_value 29 = .ok (.ifCond .eq 11, 3) := by decide +kernel
theorem dU_value_32 : decode cU_value 32 = .ok (.new 62, 3) := by decide +kernel
theorem dU_value_35 : decode cU_value 35 = .ok (.dup, 1) := by decide +kernel
theorem dU_value_36 : decode cU_value 36 = .ok (.invokespecial 64, 3) := by decide +kernel
theorem dU_value_39 : decode cU_value 39 = .ok (.athrow, 1) := by decide +kernel
theorem dU_value_40 : decode cU_value 40 = .ok (.aload_n 0, 1) := by decide +kernel
theorem dU_value_41 : decode cU_value 41 = .ok (.getfield 9, 3) := by decide +kernel
theorem dU_value_44 : decode cU_value 44 = .ok (.iload_n 1, 1) := by decide +kernel
theorem dU_value_45 : decode cU_value 45 = .ok (.iconst 4, 1) := by decide +kernel
theorem dU_value_46 : decode cU_value 46 = .ok (.imul, 1) := by decide +kernel
theorem dU_value_47 : decode cU_value 47 = .ok (.iload_n 2, 1) := by decide +kernel
theorem dU_value_48 : decode cU_value 48 = .ok (.iadd, 1) := by decide +kernel
theorem dU_value_49 : decode cU_value 49 = .ok (.iaload, 1) := by decide +kernel
theorem dU_value_50 : decode cU_value 50 = .ok (.ireturn, 1) := by decide +kernel
theorem dU_mark_0 : decode cU_mark 0 = .ok (.aload_n 0, 1) := by decide +kernel
theorem dU_mark_1 : decode cU_mark 1 = .ok (.getfield 23, 3) := by decide +kernel
theorem dU_mark_4 : decode cU_mark 4 = .ok (.bipush 20, 2) := by decide +kernel
theorem dU_mark_6 : decode cU_mark 6 = .ok (.if_icmp .lt 11, 3) := by decide +kernel
theorem dU_mark_9 : decode cU_mark 9 = .ok (.new 49, 3) := by decide +kernel
theorem dU_mark_12 : decode cU_mark 12 = .ok (.dup, 1) := by decide +kernel
theorem dU_mark_13 : decode cU_mark 13 = .ok (.invokespecial 51, 3) := by decide +kernel
theorem dU_mark_16 : decode cU_mark 16 = .ok (.athrow, 1) := by decide +kernel
theorem dU_mark_17 : decode cU_mark 17 = .ok (.aload_n 0, 1) := by decide +kernel
theorem dU_mark_18 : decode cU_mark 18 = .ok (.getfield 17, 3) := by decide +kernel
theorem dU_mark_21 : decode cU_mark 21 = .ok (.aload_n 0, 1) := by decide +kernel
theorem dU_mark_22 : decode cU_mark 22 = .ok (.getfield 23, 3) := by decide +kernel
theorem dU_mark_25 : decode cU_mark 25 = .ok (.iload_n 1, 1) := by decide +kernel
theorem dU_mark_26 : decode cU_mark 26 = .ok (.iastore, 1) := by decide +kernel
theorem dU_mark_27 : decode cU_mark 27 = .ok (.aload_n 0, 1) := by decide +kernel
theorem dU_mark_28 : decode cU_mark 28 = .ok (.getfield 20, 3) := by decide +kernel
end
section
theorem dU_mark_31 : decode cU_mark 31 = .ok (.aload_n 0, 1) := by decide +kernel
theorem dU_mark_32 : decode cU_mark 32 = .ok (.getfield 23, 3) := by decide +kernel
theorem dU_mark_35 : decode cU_mark 35 = .ok (.aload_n 0, 1) := by decide +kernel
theorem dU_mark_36 : decode cU_mark 36 = .ok (.getfield 35, 3) := by decide +kernel
theorem dU_mark_39 : decode cU_mark 39 = .ok (.iastore, 1) := by decide +kernel
theorem dU_mark_40 : decode cU_mark 40 = .ok (.aload_n 0, 1) := by decide +kernel
theorem dU_mark_41 : decode cU_mark 41 = .ok (.dup, 1) := by decide +kernel
theorem dU_mark_42 : decode cU_mark 42 = .ok (.getfield 23, 3) := by decide +kernel
theorem dU_mark_45 : decode cU_mark 45 = .ok (.iconst 1, 1) := by decide +kernel
theorem dU_mark_46 : decode cU_mark 46 = .ok (.iadd, 1) := by decide +kernel
theorem dU_mark_47 : decode cU_mark 47 = .ok (.putfield 23, 3) := by decide +kernel
theorem dU_mark_50 : decode cU_mark 50 = .ok (.return_, 1) := by decide +kernel
theorem dU_back_0 : decode cU_back 0 = .ok (.aload_n 0, 1) := by decide +kernel
theorem dU_back_1 : decode cU_back 1 = .ok (.iload_n 1, 1) := by decide +kernel
theorem dU_back_2 : decode cU_back 2 = .ok (.invokevirtual 87, 3) := by decide +kernel
theorem dU_back_5 : decode cU_back 5 = .ok (.istore_n 2, 1) := by decide +kernel
theorem dU_back_6 : decode cU_back 6 = .ok (.iload_n 2, 1) := by decide +kernel
theorem dU_back_7 : decode cU_back 7 = .ok (.ifCond .ge 11, 3) := by decide +kernel
theorem dU_back_10 : decode cU_back 10 = .ok (.new 62, 3) := by decide +kernel
theorem dU_back_13 : decode cU_back 13 = .ok (.dup, 1) := by decide +kernel
theorem dU_back_14 : decode cU_back 14 = .ok (.invokespecial 64, 3) := by decide +kernel
theorem dU_back_17 : decode cU_back 17 = .ok (.athrow, 1) := by decide +kernel
theorem dU_back_18 : decode cU_back 18 = .ok (.aload_n 0, 1) := by decide +kernel
theorem dU_back_19 : decode cU_back 19 = .ok (.getfield 20, 3) := by decide +kernel
theorem dU_back_22 : decode cU_back 22 = .ok (.iload_n 2, 1) := by decide +kernel
theorem dU_back_23 : decode cU_back 23 = .ok (.iaload, 1) := by decide +kernel
theorem dU_back_24 : decode cU_back 24 = .ok (.istore_n 3, 1) := by decide +kernel
theorem dU_back_25 : decode cU_back 25 = .ok (.aload_n 0, 1) := by decide +kernel
theorem dU_back_26 : decode cU_back 26 = .ok (.getfield 35, 3) := by decide +kernel
theorem dU_back_29 : decode cU_back 29 = .ok (.iconst 1, 1) := by decide +kernel
theorem dU_back_30 : decode cU_back 30 = .ok (.isub, 1) := by decide +kernel
theorem dU_back_31 : decode cU_back 31 = .ok (.istore 4, 2) := by decide +kernel
theorem dU_back_33 : decode cU_back 33 = .ok (.iload 4, 2) := by decide +kernel
theorem dU_back_35 : decode cU_back 35 = .ok (.iload_n 3, 1) := by decide +kernel
theorem dU_back_36 : decode cU_back 36 = .ok (.if_icmp .lt 15, 3) := by decide +kernel
theorem dU_back_39 : decode cU_back 39 = .ok (.aload_n 0, 1) := by decide +kernel
theorem dU_back_40 : decode cU_back 40 = .ok (.iload 4, 2) := by decide +kernel
theorem dU_back_42 : decode cU_back 42 = .ok (.invokevirtual 91, 3) := by decide +kernel
theorem dU_back_45 : decode cU_back 45 = .ok (.iinc 4 (-1), 3) := by decide +kernel
theorem dU_back_48 : decode cU_back 48 = .ok (.goto (-15), 3) := by decide +kernel
theorem dU_back_51 : decode cU_back 51 = .ok (.aload_n 0, 1) := by decide +kernel
theorem dU_back_52 : decode cU_back 52 = .ok (.iload_n 3, 1) := by decide +kernel
theorem dU_back_53 : decode cU_back 53 = .ok (.putfield 35, 3) := by decide +kernel
theorem dU_back_56 : decode cU_back 56 = .ok (.aload_n 0, 1) := by decide +kernel
theorem dU_back_57 : decode cU_back 57 = .ok (.iload_n 2, 1) := by decide +kernel
theorem dU_back_58 : decode cU_back 58 = .ok (.iconst 1, 1) := by decide +kernel
theorem dU_back_59 : decode cU_back 59 = .ok (.iadd, 1) := by decide +kernel
theorem dU_back_60 : decode cU_back 60 = .ok (.putfield 23, 3) := by decide +kernel
theorem dU_back_63 : decode cU_back 63 = .ok (.return_, 1) := by decide +kernel
theorem dU_release_0 : decode cU_release 0 = .ok (.aload_n 0, 1) := by decide +kernel
theorem dU_release_1 : decode cU_release 1 = .ok (.iload_n 1, 1) := by decide +kernel
theorem dU_release_2 : decode cU_release 2 = .ok (.invokevirtual 87, 3) := by decide +kernel
theorem dU_release_5 : decode cU_release 5 = .ok (.istore_n 2, 1) := by decide +kernel
theorem dU_release_6 : decode cU_release 6 = .ok (.iload_n 2, 1) := by decide +kernel
theorem dU_release_7 : decode cU_release 7 = .ok (.ifCond .ge 11, 3) := by decide +kernel
theorem dU_release_10 : decode cU_release 10 = .ok (.new 62, 3) := by decide +kernel
theorem dU_release_13 : decode cU_release 13 = .ok (.dup, 1) := by decide +kernel
theorem dU_release_14 : decode cU_release 14 = .ok (.invokespecial 64, 3) := by decide +kernel
theorem dU_release_17 : decode cU_release 17 = .ok (.athrow, 1) := by decide +kernel
theorem dU_release_18 : decode cU_release 18 = .ok (.aload_n 0, 1) := by decide +kernel
theorem dU_release_19 : decode cU_release 19 = .ok (.iload_n 2, 1) := by decide +kernel
theorem dU_release_20 : decode cU_release 20 = .ok (.putfield 23, 3) := by decide +kernel
theorem dU_release_23 : decode cU_release 23 = .ok (.aload_n 0, 1) := by decide +kernel
theorem dU_release_24 : decode cU_release 24 = .ok (.getfield 23, 3) := by decide +kernel
theorem dU_release_27 : decode cU_release 27 = .ok (.ifCond .ne 8, 3) := by decide +kernel
theorem dU_release_30 : decode cU_release 30 = .ok (.aload_n 0, 1) := by decide +kernel
theorem dU_release_31 : decode cU_release 31 = .ok (.iconst 0, 1) := by decide +kernel
theorem dU_release_32 : decode cU_release 32 = .ok (.putfield 35, 3) := by decide +kernel
theorem dU_release_35 : decode cU_release 35 = .ok (.return_, 1) := by decide +kernel
theorem dU_count_0 : decode cU_count 0 = .ok (.iload_n 1, 1) := by decide +kernel
theorem dU_count_1 : decode cU_count 1 = .ok (.tableswitch 62 0 4 #[35, 40, 45, 50, 56], 35) := by decide +kernel
theorem dU_count_36 : decode cU_count 36 = .ok (.aload_n 0, 1) := by decide +kernel
theorem dU_count_37 : decode cU_count 37 = .ok (.getfield 13, 3) := by decide +kernel
theorem dU_count_40 : decode cU_count 40 = .ok (.ireturn, 1) := by decide +kernel
theorem dU_count_41 : decode cU_count 41 = .ok (.aload_n 0, 1) := by decide +kernel
theorem dU_count_42 : decode cU_count 42 = .ok (.getfield 23, 3) := by decide +kernel
theorem dU_count_45 : decode cU_count 45 = .ok (.ireturn, 1) := by decide +kernel
theorem dU_count_46 : decode cU_count 46 = .ok (.aload_n 0, 1) := by decide +kernel
theorem dU_count_47 : decode cU_count 47 = .ok (.getfield 35, 3) := by decide +kernel
theorem dU_count_50 : decode cU_count 50 = .ok (.ireturn, 1) := by decide +kernel
theorem dU_count_51 : decode cU_count 51 = .ok (.aload_n 0, 1) := by decide +kernel
theorem dU_count_52 : decode cU_count 52 = .ok (.iconst 1, 1) := by decide +kernel
theorem dU_count_53 : decode cU_count 53 = .ok (.invokevirtual 94, 3) := by decide +kernel
theorem dU_count_56 : decode cU_count 56 = .ok (.ireturn, 1) := by decide +kernel
theorem dU_count_57 : decode cU_count 57 = .ok (.aload_n 0, 1) := by decide +kernel
theorem dU_count_58 : decode cU_count 58 = .ok (.iconst 2, 1) := by decide +kernel
theorem dU_count_59 : decode cU_count 59 = .ok (.invokevirtual 94, 3) := by decide +kernel
theorem dU_count_62 : decode cU_count 62 = .ok (.ireturn, 1) := by decide +kernel
theorem dU_count_63 : decode cU_count 63 = .ok (.iconst (-1), 1) := by decide +kernel
theorem dU_count_64 : decode cU_count 64 = .ok (.ireturn, 1) := by decide +kernel
theorem dU_isColumn_0 : decode cU_isColumn 0 = .ok (.iload_n 0, 1) := by decide +kernel
theorem dU_isColumn_1 : decode cU_isColumn 1 = .ok (.ifCond .lt 12, 3) := by decide +kernel
theorem dU_isColumn_4 : decode cU_isColumn 4 = .ok (.iload_n 0, 1) := by decide +kernel
theorem dU_isColumn_5 : decode cU_isColumn 5 = .ok (.iconst 3, 1) := by decide +kernel
theorem dU_isColumn_6 : decode cU_isColumn 6 = .ok (.if_icmp .ge 7, 3) := by decide +kernel
theorem dU_isColumn_9 : decode cU_isColumn 9 = .ok (.iconst 1, 1) := by decide +kernel
theorem dU_isColumn_10 : decode cU_isColumn 10 = .ok (.goto 4, 3) := by decide +kernel
theorem dU_isColumn_13 : decode cU_isColumn 13 = .ok (.iconst 0, 1) := by decide +kernel
theorem dU_isColumn_14 : decode cU_isColumn 14 = .ok (.ireturn, 1) := by decide +kernel
theorem dU_isRow_0 : decode cU_isRow 0 = .ok (.iload_n 1, 1) := by decide +kernel
theorem dU_isRow_1 : decode cU_isRow 1 = .ok (.ifCond .lt 15, 3) := by decide +kernel
theorem dU_isRow_4 : decode cU_isRow 4 = .ok (.iload_n 1, 1) := by decide +kernel
theorem dU_isRow_5 : decode cU_isRow 5 = .ok (.aload_n 0, 1) := by decide +kernel
theorem dU_isRow_6 : decode cU_isRow 6 = .ok (.getfield 13, 3) := by decide +kernel
theorem dU_isRow_9 : decode cU_isRow 9 = .ok (.if_icmp .ge 7, 3) := by decide +kernel
theorem dU_isRow_12 : decode cU_isRow 12 = .ok (.iconst 1, 1) := by decide +kernel
theorem dU_isRow_13 : decode cU_isRow 13 = .ok (.goto 4, 3) := by decide +kernel
theorem dU_isRow_16 : decode cU_isRow 16 = .ok (.iconst 0, 1) := by decide +kernel
theorem dU_isRow_17 : decode cU_isRow 17 = .ok (.ireturn, 1) := by decide +kernel
theorem dU_isNone_0 : decode cU_isNone 0 = .ok (.aload_n 0, 1) := by decide +kernel
theorem dU_isNone_1 : decode cU_isNone 1 = .ok (.getfield 9, 3) := by decide +kernel
theorem dU_isNone_4 : decode cU_isNone 4 = .ok (.iload_n 1, 1) := by decide +kernel
theorem dU_isNone_5 : decode cU_isNone 5 = .ok (.iconst 4, 1) := by decide +kernel
theorem dU_isNone_6 : decode cU_isNone 6 = .ok (.imul, 1) := by decide +kernel
theorem dU_isNone_7 : decode cU_isNone 7 = .ok (.iconst 3, 1) := by decide +kernel
theorem dU_isNone_8 : decode cU_isNone 8 = .ok (.iadd, 1) := by decide +kernel
theorem dU_isNone_9 : decode cU_isNone 9 = .ok (.iaload, 1) := by decide +kernel
theorem dU_isNone_10 : decode cU_isNone 10 = .ok (.iconst 1, 1) := by decide +kernel
theorem dU_isNone_11 : decode cU_isNone 11 = .ok (.iload_n 2, 1) := by decide +kernel
theorem dU_isNone_12 : decode cU_isNone 12 = .ok (.ishl, 1) := by decide +kernel
theorem dU_isNone_13 : decode cU_isNone 13 = .ok (.iand, 1) := by decide +kernel
theorem dU_isNone_14 : decode cU_isNone 14 = .ok (.ifCond .ne 7, 3) := by decide +kernel
theorem dU_isNone_17 : decode cU_isNone 17 = .ok (.iconst 1, 1) := by decide +kernel
theorem dU_isNone_18 : decode cU_isNone 18 = .ok (.goto 4, 3) := by decide +kernel
theorem dU_isNone_21 : decode cU_isNone 21 = .ok (.iconst 0, 1) := by decide +kernel
theorem dU_isNone_22 : decode cU_isNone 22 = .ok (.ireturn, 1) := by decide +kernel
theorem dU_holds_0 : decode cU_holds 0 = .ok (.aload_n 0, 1) := by decide +kernel
theorem dU_holds_1 : decode cU_holds 1 = .ok (.iload_n 1, 1) := by decide +kernel
theorem dU_holds_2 : decode cU_holds 2 = .ok (.iload_n 2, 1) := by decide +kernel
theorem dU_holds_3 : decode cU_holds 3 = .ok (.invokevirtual 83, 3) := by decide +kernel
theorem dU_holds_6 : decode cU_holds 6 = .ok (.ifCond .ne 21, 3) := by decide +kernel
theorem dU_holds_9 : decode cU_holds 9 = .ok (.aload_n 0, 1) := by decide +kernel
theorem dU_holds_10 : decode cU_holds 10 = .ok (.getfield 9, 3) := by decide +kernel
theorem dU_holds_13 : decode cU_holds 13 = .ok (.iload_n 1, 1) := by decide +kernel
theorem dU_holds_14 : decode cU_holds 14 = .ok (.iconst 4, 1) := by decide +kernel
theorem dU_holds_15 : decode cU_holds 15 = .ok (.imul, 1) := by decide +kernel
theorem dU_holds_16 : decode cU_holds 16 = .ok (.iload_n 2, 1) := by decide +kernel
theorem dU_holds_17 : decode cU_holds 17 = .ok (.iadd, 1) := by decide +kernel
theorem dU_holds_18 : decode cU_holds 18 = .ok (.iaload, 1) := by decide +kernel
theorem dU_holds_19 : decode cU_holds 19 = .ok (.iload_n 3, 1) := by decide +kernel
theorem dU_holds_20 : decode cU_holds 20 = .ok (.if_icmp .ne 7, 3) := by decide +kernel
theorem dU_holds_23 : decode cU_holds 23 = .ok (.iconst 1, 1) := by decide +kernel
theorem dU_holds_24 : decode cU_holds 24 = .ok (.goto 4, 3) := by decide +kernel
theorem dU_holds_27 : decode cU_holds 27 = .ok (.iconst 0, 1) := by decide +kernel
theorem dU_holds_28 : decode cU_holds 28 = .ok (.ireturn, 1) := by decide +kernel
theorem dU_rowWithKey_0 : decode cU_rowWithKey 0 = .ok (.iconst 0, 1) := by decide +kernel
theorem dU_rowWithKey_1 : decode cU_rowWithKey 1 = .ok (.istore_n 3, 1) := by decide +kernel
theorem dU_rowWithKey_2 : decode cU_rowWithKey 2 = .ok (.iload_n 3, 1) := by decide +kernel
theorem dU_rowWithKey_3 : decode cU_rowWithKey 3 = .ok (.aload_n 0, 1) := by decide +kernel
theorem dU_rowWithKey_4 : decode cU_rowWithKey 4 = .ok (.getfield 13, 3) := by decide +kernel
end
section
theorem dU_rowWithKey_7 : decode cU_rowWithKey 7 = .ok (.if_icmp .ge 21, 3) := by decide +kernel
theorem dU_rowWithKey_10 : decode cU_rowWithKey 10 = .ok (.aload_n 0, 1) := by decide +kernel
theorem dU_rowWithKey_11 : decode cU_rowWithKey 11 = .ok (.iload_n 3, 1) := by decide +kernel
theorem dU_rowWithKey_12 : decode cU_rowWithKey 12 = .ok (.iload_n 1, 1) := by decide +kernel
theorem dU_rowWithKey_13 : decode cU_rowWithKey 13 = .ok (.iload_n 2, 1) := by decide +kernel
theorem dU_rowWithKey_14 : decode cU_rowWithKey 14 = .ok (.invokevirtual 77, 3) := by decide +kernel
theorem dU_rowWithKey_17 : decode cU_rowWithKey 17 = .ok (.ifCond .eq 5, 3) := by decide +kernel
theorem dU_rowWithKey_20 : decode cU_rowWithKey 20 = .ok (.iload_n 3, 1) := by decide +kernel
theorem dU_rowWithKey_21 : decode cU_rowWithKey 21 = .ok (.ireturn, 1) := by decide +kernel
theorem dU_rowWithKey_22 : decode cU_rowWithKey 22 = .ok (.iinc 3 1, 3) := by decide +kernel
theorem dU_rowWithKey_25 : decode cU_rowWithKey 25 = .ok (.goto (-23), 3) := by decide +kernel
theorem dU_rowWithKey_28 : decode cU_rowWithKey 28 = .ok (.iconst (-1), 1) := by decide +kernel
theorem dU_rowWithKey_29 : decode cU_rowWithKey 29 = .ok (.ireturn, 1) := by decide +kernel
theorem dU_countRowsWith_0 : decode cU_countRowsWith 0 = .ok (.iconst 0, 1) := by decide +kernel
theorem dU_countRowsWith_1 : decode cU_countRowsWith 1 = .ok (.istore_n 3, 1) := by decide +kernel
theorem dU_countRowsWith_2 : decode cU_countRowsWith 2 = .ok (.iconst 0, 1) := by decide +kernel
theorem dU_countRowsWith_3 : decode cU_countRowsWith 3 = .ok (.istore 4, 2) := by decide +kernel
theorem dU_countRowsWith_5 : decode cU_countRowsWith 5 = .ok (.iload 4, 2) := by decide +kernel
theorem dU_countRowsWith_7 : decode cU_countRowsWith 7 = .ok (.aload_n 0, 1) := by decide +kernel
theorem dU_countRowsWith_8 : decode cU_countRowsWith 8 = .ok (.getfield 13, 3) := by decide +kernel
theorem dU_countRowsWith_11 : decode cU_countRowsWith 11 = .ok (.if_icmp .ge 23, 3) := by decide +kernel
theorem dU_countRowsWith_14 : decode cU_countRowsWith 14 = .ok (.aload_n 0, 1) := by decide +kernel
theorem dU_countRowsWith_15 : decode cU_countRowsWith 15 = .ok (.iload 4, 2) := by decide +kernel
theorem dU_countRowsWith_17 : decode cU_countRowsWith 17 = .ok (.iload_n 1, 1) := by decide +kernel
theorem dU_countRowsWith_18 : decode cU_countRowsWith 18 = .ok (.iload_n 2, 1) := by decide +kernel
theorem dU_countRowsWith_19 : decode cU_countRowsWith 19 = .ok (.invokevirtual 77, 3) := by decide +kernel
theorem dU_countRowsWith_22 : decode cU_countRowsWith 22 = .ok (.ifCond .eq 6, 3) := by decide +kernel
theorem dU_countRowsWith_25 : decode cU_countRowsWith 25 = .ok (.iinc 3 1, 3) := by decide +kernel
theorem dU_countRowsWith_28 : decode cU_countRowsWith 28 = .ok (.iinc 4 1, 3) := by decide +kernel
theorem dU_countRowsWith_31 : decode cU_countRowsWith 31 = .ok (.goto (-26), 3) := by decide +kernel
theorem dU_countRowsWith_34 : decode cU_countRowsWith 34 = .ok (.iload_n 3, 1) := by decide +kernel
theorem dU_countRowsWith_35 : decode cU_countRowsWith 35 = .ok (.ireturn, 1) := by decide +kernel
theorem dU_countNone_0 : decode cU_countNone 0 = .ok (.iconst 0, 1) := by decide +kernel
theorem dU_countNone_1 : decode cU_countNone 1 = .ok (.istore_n 2, 1) := by decide +kernel
theorem dU_countNone_2 : decode cU_countNone 2 = .ok (.iconst 0, 1) := by decide +kernel
theorem dU_countNone_3 : decode cU_countNone 3 = .ok (.istore_n 3, 1) := by decide +kernel
theorem dU_countNone_4 : decode cU_countNone 4 = .ok (.iload_n 3, 1) := by decide +kernel
theorem dU_countNone_5 : decode cU_countNone 5 = .ok (.aload_n 0, 1) := by decide +kernel
theorem dU_countNone_6 : decode cU_countNone 6 = .ok (.getfield 13, 3) := by decide +kernel
theorem dU_countNone_9 : decode cU_countNone 9 = .ok (.if_icmp .ge 21, 3) := by decide +kernel
theorem dU_countNone_12 : decode cU_countNone 12 = .ok (.aload_n 0, 1) := by decide +kernel
theorem dU_countNone_13 : decode cU_countNone 13 = .ok (.iload_n 3, 1) := by decide +kernel
theorem dU_countNone_14 : decode cU_countNone 14 = .ok (.iload_n 1, 1) := by decide +kernel
theorem dU_countNone_15 : decode cU_countNone 15 = .ok (.invokevirtual 83, 3) := by decide +kernel
theorem dU_countNone_18 : decode cU_countNone 18 = .ok (.ifCond .eq 6, 3) := by decide +kernel
theorem dU_countNone_21 : decode cU_countNone 21 = .ok (.iinc 2 1, 3) := by decide +kernel
theorem dU_countNone_24 : decode cU_countNone 24 = .ok (.iinc 3 1, 3) := by decide +kernel
theorem dU_countNone_27 : decode cU_countNone 27 = .ok (.goto (-23), 3) := by decide +kernel
theorem dU_countNone_30 : decode cU_countNone 30 = .ok (.iload_n 2, 1) := by decide +kernel
theorem dU_countNone_31 : decode cU_countNone 31 = .ok (.ireturn, 1) := by decide +kernel
theorem dU_mayBeInserted_0 : decode cU_mayBeInserted 0 = .ok (.iload_n 3, 1) := by decide +kernel
theorem dU_mayBeInserted_1 : decode cU_mayBeInserted 1 = .ok (.iconst 1, 1) := by decide +kernel
theorem dU_mayBeInserted_2 : decode cU_mayBeInserted 2 = .ok (.iand, 1) := by decide +kernel
theorem dU_mayBeInserted_3 : decode cU_mayBeInserted 3 = .ok (.ifCond .eq 12, 3) := by decide +kernel
theorem dU_mayBeInserted_6 : decode cU_mayBeInserted 6 = .ok (.aload_n 0, 1) := by decide +kernel
theorem dU_mayBeInserted_7 : decode cU_mayBeInserted 7 = .ok (.iconst 0, 1) := by decide +kernel
theorem dU_mayBeInserted_8 : decode cU_mayBeInserted 8 = .ok (.iload_n 1, 1) := by decide +kernel
theorem dU_mayBeInserted_9 : decode cU_mayBeInserted 9 = .ok (.invokevirtual 80, 3) := by decide +kernel
theorem dU_mayBeInserted_12 : decode cU_mayBeInserted 12 = .ok (.ifCond .lt 5, 3) := by decide +kernel
theorem dU_mayBeInserted_15 : decode cU_mayBeInserted 15 = .ok (.iconst 0, 1) := by decide +kernel
theorem dU_mayBeInserted_16 : decode cU_mayBeInserted 16 = .ok (.ireturn, 1) := by decide +kernel
theorem dU_mayBeInserted_17 : decode cU_mayBeInserted 17 = .ok (.iload_n 3, 1) := by decide +kernel
theorem dU_mayBeInserted_18 : decode cU_mayBeInserted 18 = .ok (.iconst 2, 1) := by decide +kernel
theorem dU_mayBeInserted_19 : decode cU_mayBeInserted 19 = .ok (.iand, 1) := by decide +kernel
theorem dU_mayBeInserted_20 : decode cU_mayBeInserted 20 = .ok (.ifCond .eq 12, 3) := by decide +kernel
theorem dU_mayBeInserted_23 : decode cU_mayBeInserted 23 = .ok (.aload_n 0, 1) := by decide +kernel
theorem dU_mayBeInserted_24 : decode cU_mayBeInserted 24 = .ok (.iconst 1, 1) := by decide +kernel
theorem dU_mayBeInserted_25 : decode cU_mayBeInserted 25 = .ok (.iload_n 2, 1) := by decide +kernel
theorem dU_mayBeInserted_26 : decode cU_mayBeInserted 26 = .ok (.invokevirtual 80, 3) := by decide +kernel
theorem dU_mayBeInserted_29 : decode cU_mayBeInserted 29 = .ok (.ifCond .ge 7, 3) := by decide +kernel
theorem dU_mayBeInserted_32 : decode cU_mayBeInserted 32 = .ok (.iconst 1, 1) := by decide +kernel
theorem dU_mayBeInserted_33 : decode cU_mayBeInserted 33 = .ok (.goto 4, 3) := by decide +kernel
theorem dU_mayBeInserted_36 : decode cU_mayBeInserted 36 = .ok (.iconst 0, 1) := by decide +kernel
theorem dU_mayBeInserted_37 : decode cU_mayBeInserted 37 = .ok (.ireturn, 1) := by decide +kernel
theorem dU_maySet_0 : decode cU_maySet 0 = .ok (.iload 4, 2) := by decide +kernel
theorem dU_maySet_2 : decode cU_maySet 2 = .ok (.ifCond .eq 13, 3) := by decide +kernel
theorem dU_maySet_5 : decode cU_maySet 5 = .ok (.iload_n 2, 1) := by decide +kernel
theorem dU_maySet_6 : decode cU_maySet 6 = .ok (.ifCond .eq 7, 3) := by decide +kernel
theorem dU_maySet_9 : decode cU_maySet 9 = .ok (.iconst 1, 1) := by decide +kernel
theorem dU_maySet_10 : decode cU_maySet 10 = .ok (.goto 4, 3) := by decide +kernel
theorem dU_maySet_13 : decode cU_maySet 13 = .ok (.iconst 0, 1) := by decide +kernel
theorem dU_maySet_14 : decode cU_maySet 14 = .ok (.ireturn, 1) := by decide +kernel
theorem dU_maySet_15 : decode cU_maySet 15 = .ok (.iload_n 2, 1) := by decide +kernel
theorem dU_maySet_16 : decode cU_maySet 16 = .ok (.iconst 2, 1) := by decide +kernel
theorem dU_maySet_17 : decode cU_maySet 17 = .ok (.if_icmp .lt 5, 3) := by decide +kernel
theorem dU_maySet_20 : decode cU_maySet 20 = .ok (.iconst 1, 1) := by decide +kernel
theorem dU_maySet_21 : decode cU_maySet 21 = .ok (.ireturn, 1) := by decide +kernel
theorem dU_maySet_22 : decode cU_maySet 22 = .ok (.aload_n 0, 1) := by decide +kernel
theorem dU_maySet_23 : decode cU_maySet 23 = .ok (.iload_n 2, 1) := by decide +kernel
theorem dU_maySet_24 : decode cU_maySet 24 = .ok (.iload_n 3, 1) := by decide +kernel
theorem dU_maySet_25 : decode cU_maySet 25 = .ok (.invokevirtual 80, 3) := by decide +kernel
theorem dU_maySet_28 : decode cU_maySet 28 = .ok (.istore 5, 2) := by decide +kernel
theorem dU_maySet_30 : decode cU_maySet 30 = .ok (.iload 5, 2) := by decide +kernel
theorem dU_maySet_32 : decode cU_maySet 32 = .ok (.ifCond .lt 9, 3) := by decide +kernel
theorem dU_maySet_35 : decode cU_maySet 35 = .ok (.iload 5, 2) := by decide +kernel
theorem dU_maySet_37 : decode cU_maySet 37 = .ok (.iload_n 1, 1) := by decide +kernel
theorem dU_maySet_38 : decode cU_maySet 38 = .ok (.if_icmp .ne 7, 3) := by decide +kernel
theorem dU_maySet_41 : decode cU_maySet 41 = .ok (.iconst 1, 1) := by decide +kernel
theorem dU_maySet_42 : decode cU_maySet 42 = .ok (.goto 4, 3) := by decide +kernel
theorem dU_maySet_45 : decode cU_maySet 45 = .ok (.iconst 0, 1) := by decide +kernel
theorem dU_maySet_46 : decode cU_maySet 46 = .ok (.ireturn, 1) := by decide +kernel
theorem dU_hasRoomFor_0 : decode cU_hasRoomFor 0 = .ok (.aload_n 0, 1) := by decide +kernel
theorem dU_hasRoomFor_1 : decode cU_hasRoomFor 1 = .ok (.getfield 23, 3) := by decide +kernel
theorem dU_hasRoomFor_4 : decode cU_hasRoomFor 4 = .ok (.ifCond .eq 15, 3) := by decide +kernel
theorem dU_hasRoomFor_7 : decode cU_hasRoomFor 7 = .ok (.aload_n 0, 1) := by decide +kernel
theorem dU_hasRoomFor_8 : decode cU_hasRoomFor 8 = .ok (.getfield 35, 3) := by decide +kernel
theorem dU_hasRoomFor_11 : decode cU_hasRoomFor 11 = .ok (.iload_n 1, 1) := by decide +kernel
theorem dU_hasRoomFor_12 : decode cU_hasRoomFor 12 = .ok (.iadd, 1) := by decide +kernel
theorem dU_hasRoomFor_13 : decode cU_hasRoomFor 13 = .ok (.sipush 200, 3) := by decide +kernel
theorem dU_hasRoomFor_16 : decode cU_hasRoomFor 16 = .ok (.if_icmp .gt 7, 3) := by decide +kernel
theorem dU_hasRoomFor_19 : decode cU_hasRoomFor 19 = .ok (.iconst 1, 1) := by decide +kernel
theorem dU_hasRoomFor_20 : decode cU_hasRoomFor 20 = .ok (.goto 4, 3) := by decide +kernel
theorem dU_hasRoomFor_23 : decode cU_hasRoomFor 23 = .ok (.iconst 0, 1) := by decide +kernel
theorem dU_hasRoomFor_24 : decode cU_hasRoomFor 24 = .ok (.ireturn, 1) := by decide +kernel
theorem dU_takeOut_0 : decode cU_takeOut 0 = .ok (.aload_n 0, 1) := by decide +kernel
theorem dU_takeOut_1 : decode cU_takeOut 1 = .ok (.iconst 2, 1) := by decide +kernel
theorem dU_takeOut_2 : decode cU_takeOut 2 = .ok (.iload_n 1, 1) := by decide +kernel
theorem dU_takeOut_3 : decode cU_takeOut 3 = .ok (.invokevirtual 52, 3) := by decide +kernel
theorem dU_takeOut_6 : decode cU_takeOut 6 = .ok (.aload_n 0, 1) := by decide +kernel
theorem dU_takeOut_7 : decode cU_takeOut 7 = .ok (.iload_n 1, 1) := by decide +kernel
theorem dU_takeOut_8 : decode cU_takeOut 8 = .ok (.invokevirtual 97, 3) := by decide +kernel
theorem dU_takeOut_11 : decode cU_takeOut 11 = .ok (.return_, 1) := by decide +kernel
theorem dU_keepChange_0 : decode cU_keepChange 0 = .ok (.aload_n 0, 1) := by decide +kernel
theorem dU_keepChange_1 : decode cU_keepChange 1 = .ok (.getfield 23, 3) := by decide +kernel
theorem dU_keepChange_4 : decode cU_keepChange 4 = .ok (.ifCond .ne 4, 3) := by decide +kernel
theorem dU_keepChange_7 : decode cU_keepChange 7 = .ok (.return_, 1) := by decide +kernel
theorem dU_keepChange_8 : decode cU_keepChange 8 = .ok (.aload_n 0, 1) := by decide +kernel
theorem dU_keepChange_9 : decode cU_keepChange 9 = .ok (.getfield 26, 3) := by decide +kernel
theorem dU_keepChange_12 : decode cU_keepChange 12 = .ok (.aload_n 0, 1) := by decide +kernel
theorem dU_keepChange_13 : decode cU_keepChange 13 = .ok (.getfield 35, 3) := by decide +kernel
theorem dU_keepChange_16 : decode cU_keepChange 16 = .ok (.iload_n 1, 1) := by decide +kernel
theorem dU_keepChange_17 : decode cU_keepChange 17 = .ok (.iastore, 1) := by decide +kernel
theorem dU_keepChange_18 : decode cU_keepChange 18 = .ok (.aload_n 0, 1) := by decide +kernel
theorem dU_keepChange_19 : decode cU_keepChange 19 = .ok (.getfield 29, 3) := by decide +kernel
theorem dU_keepChange_22 : decode cU_keepChange 22 = .ok (.aload_n 0, 1) := by decide +kernel
theorem dU_keepChange_23 : decode cU_keepChange 23 = .ok (.getfield 35, 3) := by decide +kernel
theorem dU_keepChange_26 : decode cU_keepChange 26 = .ok (.iload_n 2, 1) := by decide +kernel
theorem dU_keepChange_27 : decode cU_keepChange 27 = .ok (.iastore, 1) := by decide +kernel
theorem dU_keepChange_28 : decode cU_keepChange 28 = .ok (.aload_n 0, 1) := by decide +kernel
theorem dU_keepChange_29 : decode cU_keepChange 29 = .ok (.getfield 9, 3) := by decide +kernel
theorem dU_keepChange_32 : decode cU_keepChange 32 = .ok (.iload_n 2, 1) := by decide +kernel
theorem dU_keepChange_33 : decode cU_keepChange 33 = .ok (.iconst 4, 1) := by decide +kernel
theorem dU_keepChange_34 : decode cU_keepChange 34 = .ok (.imul, 1) := by decide +kernel
theorem dU_keepChange_35 : decode cU_keepChange 35 = .ok (.aload_n 0, 1) := by decide +kernel
theorem dU_keepChange_36 : decode cU_keepChange 36 = .ok (.getfield 32, 3) := by decide +kernel
theorem dU_keepChange_39 : decode cU_keepChange 39 = .ok (.aload_n 0, 1) := by decide +kernel
theorem dU_keepChange_40 : decode cU_keepChange 40 = .ok (.getfield 35, 3) := by decide +kernel
theorem dU_keepChange_43 : decode cU_keepChange 43 = .ok (.iconst 4, 1) := by decide +kernel
theorem dU_keepChange_44 : decode cU_keepChange 44 = .ok (.imul, 1) := by decide +kernel
theorem dU_keepChange_45 : decode cU_keepChange 45 = .ok (.iconst 4, 1) := by decide +kernel
end
section
theorem dU_keepChange_46 : decode cU_keepChange 46 = .ok (.invokestatic 100, 3) := by decide +kernel
theorem dU_keepChange_49 : decode cU_keepChange 49 = .ok (.aload_n 0, 1) := by decide +kernel
theorem dU_keepChange_50 : decode cU_keepChange 50 = .ok (.dup, 1) := by decide +kernel
theorem dU_keepChange_51 : decode cU_keepChange 51 = .ok (.getfield 35, 3) := by decide +kernel
theorem dU_keepChange_54 : decode cU_keepChange 54 = .ok (.iconst 1, 1) := by decide +kernel
theorem dU_keepChange_55 : decode cU_keepChange 55 = .ok (.iadd, 1) := by decide +kernel
theorem dU_keepChange_56 : decode cU_keepChange 56 = .ok (.putfield 35, 3) := by decide +kernel
theorem dU_keepChange_59 : decode cU_keepChange 59 = .ok (.return_, 1) := by decide +kernel
theorem dU_undo_0 : decode cU_undo 0 = .ok (.aload_n 0, 1) := by decide +kernel
theorem dU_undo_1 : decode cU_undo 1 = .ok (.getfield 29, 3) := by decide +kernel
theorem dU_undo_4 : decode cU_undo 4 = .ok (.iload_n 1, 1) := by decide +kernel
theorem dU_undo_5 : decode cU_undo 5 = .ok (.iaload, 1) := by decide +kernel
theorem dU_undo_6 : decode cU_undo 6 = .ok (.istore_n 2, 1) := by decide +kernel
theorem dU_undo_7 : decode cU_undo 7 = .ok (.aload_n 0, 1) := by decide +kernel
theorem dU_undo_8 : decode cU_undo 8 = .ok (.getfield 26, 3) := by decide +kernel
theorem dU_undo_11 : decode cU_undo 11 = .ok (.iload_n 1, 1) := by decide +kernel
theorem dU_undo_12 : decode cU_undo 12 = .ok (.iaload, 1) := by decide +kernel
theorem dU_undo_13 : decode cU_undo 13 = .ok (.ifCond .ne 9, 3) := by decide +kernel
theorem dU_undo_16 : decode cU_undo 16 = .ok (.aload_n 0, 1) := by decide +kernel
theorem dU_undo_17 : decode cU_undo 17 = .ok (.iload_n 2, 1) := by decide +kernel
theorem dU_undo_18 : decode cU_undo 18 = .ok (.invokevirtual 97, 3) := by decide +kernel
theorem dU_undo_21 : decode cU_undo 21 = .ok (.return_, 1) := by decide +kernel
theorem dU_undo_22 : decode cU_undo 22 = .ok (.aload_n 0, 1) := by decide +kernel
theorem dU_undo_23 : decode cU_undo 23 = .ok (.getfield 26, 3) := by decide +kernel
theorem dU_undo_26 : decode cU_undo 26 = .ok (.iload_n 1, 1) := by decide +kernel
theorem dU_undo_27 : decode cU_undo 27 = .ok (.iaload, 1) := by decide +kernel
theorem dU_undo_28 : decode cU_undo 28 = .ok (.iconst 2, 1) := by decide +kernel
theorem dU_undo_29 : decode cU_undo 29 = .ok (.if_icmp .ne 8, 3) := by decide +kernel
theorem dU_undo_32 : decode cU_undo 32 = .ok (.aload_n 0, 1) := by decide +kernel
theorem dU_undo_33 : decode cU_undo 33 = .ok (.iload_n 2, 1) := by decide +kernel
theorem dU_undo_34 : decode cU_undo 34 = .ok (.invokevirtual 106, 3) := by decide +kernel
theorem dU_undo_37 : decode cU_undo 37 = .ok (.aload_n 0, 1) := by decide +kernel
theorem dU_undo_38 : decode cU_undo 38 = .ok (.getfield 32, 3) := by decide +kernel
theorem dU_undo_41 : decode cU_undo 41 = .ok (.iload_n 1, 1) := by decide +kernel
theorem dU_undo_42 : decode cU_undo 42 = .ok (.iconst 4, 1) := by decide +kernel
theorem dU_undo_43 : decode cU_undo 43 = .ok (.imul, 1) := by decide +kernel
theorem dU_undo_44 : decode cU_undo 44 = .ok (.aload_n 0, 1) := by decide +kernel
theorem dU_undo_45 : decode cU_undo 45 = .ok (.getfield 9, 3) := by decide +kernel
theorem dU_undo_48 : decode cU_undo 48 = .ok (.iload_n 2, 1) := by decide +kernel
theorem dU_undo_49 : decode cU_undo 49 = .ok (.iconst 4, 1) := by decide +kernel
theorem dU_undo_50 : decode cU_undo 50 = .ok (.imul, 1) := by decide +kernel
theorem dU_undo_51 : decode cU_undo 51 = .ok (.iconst 4, 1) := by decide +kernel
theorem dU_undo_52 : decode cU_undo 52 = .ok (.invokestatic 100, 3) := by decide +kernel
theorem dU_undo_55 : decode cU_undo 55 = .ok (.return_, 1) := by decide +kernel
theorem dU_closeRow_0 : decode cU_closeRow 0 = .ok (.aload_n 0, 1) := by decide +kernel
theorem dU_closeRow_1 : decode cU_closeRow 1 = .ok (.getfield 13, 3) := by decide +kernel
theorem dU_closeRow_4 : decode cU_closeRow 4 = .ok (.iload_n 1, 1) := by decide +kernel
theorem dU_closeRow_5 : decode cU_closeRow 5 = .ok (.isub, 1) := by decide +kernel
theorem dU_closeRow_6 : decode cU_closeRow 6 = .ok (.iconst 1, 1) := by decide +kernel
theorem dU_closeRow_7 : decode cU_closeRow 7 = .ok (.isub, 1) := by decide +kernel
theorem dU_closeRow_8 : decode cU_closeRow 8 = .ok (.istore_n 2, 1) := by decide +kernel
theorem dU_closeRow_9 : decode cU_closeRow 9 = .ok (.aload_n 0, 1) := by decide +kernel
theorem dU_closeRow_10 : decode cU_closeRow 10 = .ok (.getfield 9, 3) := by decide +kernel
theorem dU_closeRow_13 : decode cU_closeRow 13 = .ok (.iload_n 1, 1) := by decide +kernel
theorem dU_closeRow_14 : decode cU_closeRow 14 = .ok (.iconst 1, 1) := by decide +kernel
theorem dU_closeRow_15 : decode cU_closeRow 15 = .ok (.iadd, 1) := by decide +kernel
theorem dU_closeRow_16 : decode cU_closeRow 16 = .ok (.iconst 4, 1) := by decide +kernel
theorem dU_closeRow_17 : decode cU_closeRow 17 = .ok (.imul, 1) := by decide +kernel
theorem dU_closeRow_18 : decode cU_closeRow 18 = .ok (.aload_n 0, 1) := by decide +kernel
theorem dU_closeRow_19 : decode cU_closeRow 19 = .ok (.getfield 9, 3) := by decide +kernel
theorem dU_closeRow_22 : decode cU_closeRow 22 = .ok (.iload_n 1, 1) := by decide +kernel
theorem dU_closeRow_23 : decode cU_closeRow 23 = .ok (.iconst 4, 1) := by decide +kernel
theorem dU_closeRow_24 : decode cU_closeRow 24 = .ok (.imul, 1) := by decide +kernel
theorem dU_closeRow_25 : decode cU_closeRow 25 = .ok (.iload_n 2, 1) := by decide +kernel
theorem dU_closeRow_26 : decode cU_closeRow 26 = .ok (.iconst 4, 1) := by decide +kernel
theorem dU_closeRow_27 : decode cU_closeRow 27 = .ok (.imul, 1) := by decide +kernel
theorem dU_closeRow_28 : decode cU_closeRow 28 = .ok (.invokestatic 100, 3) := by decide +kernel
theorem dU_closeRow_31 : decode cU_closeRow 31 = .ok (.aload_n 0, 1) := by decide +kernel
theorem dU_closeRow_32 : decode cU_closeRow 32 = .ok (.dup, 1) := by decide +kernel
theorem dU_closeRow_33 : decode cU_closeRow 33 = .ok (.getfield 13, 3) := by decide +kernel
theorem dU_closeRow_36 : decode cU_closeRow 36 = .ok (.iconst 1, 1) := by decide +kernel
theorem dU_closeRow_37 : decode cU_closeRow 37 = .ok (.isub, 1) := by decide +kernel
theorem dU_closeRow_38 : decode cU_closeRow 38 = .ok (.putfield 13, 3) := by decide +kernel
theorem dU_closeRow_41 : decode cU_closeRow 41 = .ok (.return_, 1) := by decide +kernel
theorem dU_openRow_0 : decode cU_openRow 0 = .ok (.aload_n 0, 1) := by decide +kernel
theorem dU_openRow_1 : decode cU_openRow 1 = .ok (.getfield 13, 3) := by decide +kernel
theorem dU_openRow_4 : decode cU_openRow 4 = .ok (.iload_n 1, 1) := by decide +kernel
theorem dU_openRow_5 : decode cU_openRow 5 = .ok (.isub, 1) := by decide +kernel
theorem dU_openRow_6 : decode cU_openRow 6 = .ok (.istore_n 2, 1) := by decide +kernel
theorem dU_openRow_7 : decode cU_openRow 7 = .ok (.aload_n 0, 1) := by decide +kernel
theorem dU_openRow_8 : decode cU_openRow 8 = .ok (.getfield 9, 3) := by decide +kernel
theorem dU_openRow_11 : decode cU_openRow 11 = .ok (.iload_n 1, 1) := by decide +kernel
theorem dU_openRow_12 : decode cU_openRow 12 = .ok (.iconst 4, 1) := by decide +kernel
theorem dU_openRow_13 : decode cU_openRow 13 = .ok (.imul, 1) := by decide +kernel
theorem dU_openRow_14 : decode cU_openRow 14 = .ok (.aload_n 0, 1) := by decide +kernel
theorem dU_openRow_15 : decode cU_openRow 15 = .ok (.getfield 9, 3) := by decide +kernel
theorem dU_openRow_18 : decode cU_openRow 18 = .ok (.iload_n 1, 1) := by decide +kernel
theorem dU_openRow_19 : decode cU_openRow 19 = .ok (.iconst 1, 1) := by decide +kernel
theorem dU_openRow_20 : decode cU_openRow 20 = .ok (.iadd, 1) := by decide +kernel
theorem dU_openRow_21 : decode cU_openRow 21 = .ok (.iconst 4, 1) := by decide +kernel
theorem dU_openRow_22 : decode cU_openRow 22 = .ok (.imul, 1) := by decide +kernel
theorem dU_openRow_23 : decode cU_openRow 23 = .ok (.iload_n 2, 1) := by decide +kernel
theorem dU_openRow_24 : decode cU_openRow 24 = .ok (.iconst 4, 1) := by decide +kernel
theorem dU_openRow_25 : decode cU_openRow 25 = .ok (.imul, 1) := by decide +kernel
theorem dU_openRow_26 : decode cU_openRow 26 = .ok (.invokestatic 100, 3) := by decide +kernel
theorem dU_openRow_29 : decode cU_openRow 29 = .ok (.aload_n 0, 1) := by decide +kernel
theorem dU_openRow_30 : decode cU_openRow 30 = .ok (.dup, 1) := by decide +kernel
theorem dU_openRow_31 : decode cU_openRow 31 = .ok (.getfield 13, 3) := by decide +kernel
theorem dU_openRow_34 : decode cU_openRow 34 = .ok (.iconst 1, 1) := by decide +kernel
theorem dU_openRow_35 : decode cU_openRow 35 = .ok (.iadd, 1) := by decide +kernel
theorem dU_openRow_36 : decode cU_openRow 36 = .ok (.putfield 13, 3) := by decide +kernel
theorem dU_openRow_39 : decode cU_openRow 39 = .ok (.return_, 1) := by decide +kernel
theorem dU_latestPoint_0 : decode cU_latestPoint 0 = .ok (.aload_n 0, 1) := by decide +kernel
theorem dU_latestPoint_1 : decode cU_latestPoint 1 = .ok (.getfield 23, 3) := by decide +kernel
theorem dU_latestPoint_4 : decode cU_latestPoint 4 = .ok (.iconst 1, 1) := by decide +kernel
theorem dU_latestPoint_5 : decode cU_latestPoint 5 = .ok (.isub, 1) := by decide +kernel
theorem dU_latestPoint_6 : decode cU_latestPoint 6 = .ok (.istore_n 2, 1) := by decide +kernel
theorem dU_latestPoint_7 : decode cU_latestPoint 7 = .ok (.iload_n 2, 1) := by decide +kernel
theorem dU_latestPoint_8 : decode cU_latestPoint 8 = .ok (.ifCond .lt 21, 3) := by decide +kernel
theorem dU_latestPoint_11 : decode cU_latestPoint 11 = .ok (.aload_n 0, 1) := by decide +kernel
theorem dU_latestPoint_12 : decode cU_latestPoint 12 = .ok (.getfield 17, 3) := by decide +kernel
theorem dU_latestPoint_15 : decode cU_latestPoint 15 = .ok (.iload_n 2, 1) := by decide +kernel
theorem dU_latestPoint_16 : decode cU_latestPoint 16 = .ok (.iaload, 1) := by decide +kernel
theorem dU_latestPoint_17 : decode cU_latestPoint 17 = .ok (.iload_n 1, 1) := by decide +kernel
theorem dU_latestPoint_18 : decode cU_latestPoint 18 = .ok (.if_icmp .ne 5, 3) := by decide +kernel
theorem dU_latestPoint_21 : decode cU_latestPoint 21 = .ok (.iload_n 2, 1) := by decide +kernel
theorem dU_latestPoint_22 : decode cU_latestPoint 22 = .ok (.ireturn, 1) := by decide +kernel
theorem dU_latestPoint_23 : decode cU_latestPoint 23 = .ok (.iinc 2 (-1), 3) := by decide +kernel
theorem dU_latestPoint_26 : decode cU_latestPoint 26 = .ok (.goto (-19), 3) := by decide +kernel
theorem dU_latestPoint_29 : decode cU_latestPoint 29 = .ok (.iconst (-1), 1) := by decide +kernel
theorem dU_latestPoint_30 : decode cU_latestPoint 30 = .ok (.ireturn, 1) := by decide +kernel
end
section
theorem dM_init_0 : decode cM_init 0 = .ok (.aload_n 0, 1) := by decide +kernel
theorem dM_init_1 : decode cM_init 1 = .ok (.invokespecial 3, 3) := by decide +kernel
theorem dM_init_4 : decode cM_init 4 = .ok (.aload_n 0, 1) := by decide +kernel
theorem dM_init_5 : decode cM_init 5 = .ok (.sipush 363, 3) := by decide +kernel
theorem dM_init_8 : decode cM_init 8 = .ok (.newarray .int, 2) := by decide +kernel
theorem dM_init_10 : decode cM_init 10 = .ok (.putfield 9, 3) := by decide +kernel
theorem dM_init_13 : decode cM_init 13 = .ok (.aload_n 0, 1) := by decide +kernel
theorem dM_init_14 : decode cM_init 14 = .ok (.sipush 7200, 3) := by decide +kernel
theorem dM_init_17 : decode cM_init 17 = .ok (.newarray .int, 2) := by decide +kernel
theorem dM_init_19 : decode cM_init 19 = .ok (.putfield 13, 3) := by decide +kernel
theorem dM_init_22 : decode cM_init 22 = .ok (.aload_n 0, 1) := by decide +kernel
theorem dM_init_23 : decode cM_init 23 = .ok (.sipush 363, 3) := by decide +kernel
theorem dM_init_26 : decode cM_init 26 = .ok (.newarray .boolean, 2) := by decide +kernel
theorem dM_init_28 : decode cM_init 28 = .ok (.putfield 16, 3) := by decide +kernel
theorem dM_init_31 : decode cM_init 31 = .ok (.aload_n 0, 1) := by decide +kernel
theorem dM_init_32 : decode cM_init 32 = .ok (.sipush 7200, 3) := by decide +kernel
theorem dM_init_35 : decode cM_init 35 = .ok (.newarray .boolean, 2) := by decide +kernel
theorem dM_init_37 : decode cM_init 37 = .ok (.putfield 20, 3) := by decide +kernel
theorem dM_init_40 : decode cM_init 40 = .ok (.aload_n 0, 1) := by decide +kernel
theorem dM_init_41 : decode cM_init 41 = .ok (.bipush 20, 2) := by decide +kernel
theorem dM_init_43 : decode cM_init 43 = .ok (.newarray .int, 2) := by decide +kernel
theorem dM_init_45 : decode cM_init 45 = .ok (.putfield 23, 3) := by decide +kernel
theorem dM_init_48 : decode cM_init 48 = .ok (.aload_n 0, 1) := by decide +kernel
theorem dM_init_49 : decode cM_init 49 = .ok (.bipush 20, 2) := by decide +kernel
theorem dM_init_51 : decode cM_init 51 = .ok (.newarray .int, 2) := by decide +kernel
theorem dM_init_53 : decode cM_init 53 = .ok (.putfield 26, 3) := by decide +kernel
theorem dM_init_56 : decode cM_init 56 = .ok (.aload_n 0, 1) := by decide +kernel
theorem dM_init_57 : decode cM_init 57 = .ok (.bipush 20, 2) := by decide +kernel
theorem dM_init_59 : decode cM_init 59 = .ok (.newarray .int, 2) := by decide +kernel
theorem dM_init_61 : decode cM_init 61 = .ok (.putfield 29, 3) := by decide +kernel
theorem dM_init_64 : decode cM_init 64 = .ok (.return_, 1) := by decide +kernel
theorem dM_thrown_0 : decode cM_thrown 0 = .ok (.aload_n 0, 1) := by decide +kernel
theorem dM_thrown_1 : decode cM_thrown 1 = .ok (.getfield 32, 3) := by decide +kernel
theorem dM_thrown_4 : decode cM_thrown 4 = .ok (.ireturn, 1) := by decide +kernel
theorem dM_no_0 : decode cM_no 0 = .ok (.aload_n 0, 1) := by decide +kernel
theorem dM_no_1 : decode cM_no 1 = .ok (.iload_n 1, 1) := by decide +kernel
theorem dM_no_2 : decode cM_no 2 = .ok (.putfield 32, 3) := by decide +kernel
theorem dM_no_5 : decode cM_no 5 = .ok (.iconst 0, 1) := by decide +kernel
theorem dM_no_6 : decode cM_no 6 = .ok (.ireturn, 1) := by decide +kernel
theorem dM_row_0 : decode cM_row 0 = .ok (.iconst 0, 1) := by decide +kernel
theorem dM_row_1 : decode cM_row 1 = .ok (.istore_n 3, 1) := by decide +kernel
theorem dM_row_2 : decode cM_row 2 = .ok (.iload_n 3, 1) := by decide +kernel
theorem dM_row_3 : decode cM_row 3 = .ok (.aload_n 0, 1) := by decide +kernel
theorem dM_row_4 : decode cM_row 4 = .ok (.getfield 36, 3) := by decide +kernel
theorem dM_row_7 : decode cM_row 7 = .ok (.if_icmp .ge 38, 3) := by decide +kernel
theorem dM_row_10 : decode cM_row 10 = .ok (.aload_n 0, 1) := by decide +kernel
theorem dM_row_11 : decode cM_row 11 = .ok (.getfield 16, 3) := by decide +kernel
theorem dM_row_14 : decode cM_row 14 = .ok (.iconst 3, 1) := by decide +kernel
theorem dM_row_15 : decode cM_row 15 = .ok (.iload_n 3, 1) := by decide +kernel
theorem dM_row_16 : decode cM_row 16 = .ok (.imul, 1) := by decide +kernel
theorem dM_row_17 : decode cM_row 17 = .ok (.iload_n 1, 1) := by decide +kernel
theorem dM_row_18 : decode cM_row 18 = .ok (.iadd, 1) := by decide +kernel
theorem dM_row_19 : decode cM_row 19 = .ok (.baload, 1) := by decide +kernel
theorem dM_row_20 : decode cM_row 20 = .ok (.ifCond .eq 19, 3) := by decide +kernel
theorem dM_row_23 : decode cM_row 23 = .ok (.aload_n 0, 1) := by decide +kernel
theorem dM_row_24 : decode cM_row 24 = .ok (.getfield 9, 3) := by decide +kernel
theorem dM_row_27 : decode cM_row 27 = .ok (.iconst 3, 1) := by decide +kernel
theorem dM_row_28 : decode cM_row 28 = .ok (.iload_n 3, 1) := by decide +kernel
theorem dM_row_29 : decode cM_row 29 = .ok (.imul, 1) := by decide +kernel
theorem dM_row_30 : decode cM_row 30 = .ok (.iload_n 1, 1) := by decide +kernel
theorem dM_row_31 : decode cM_row 31 = .ok (.iadd, 1) := by decide +kernel
theorem dM_row_32 : decode cM_row 32 = .ok (.iaload, 1) := by decide +kernel
theorem dM_row_33 : decode cM_row 33 = .ok (.iload_n 2, 1) := by decide +kernel
theorem dM_row_34 : decode cM_row 34 = .ok (.if_icmp .ne 5, 3) := by decide +kernel
theorem dM_row_37 : decode cM_row 37 = .ok (.iload_n 3, 1) := by decide +kernel
theorem dM_row_38 : decode cM_row 38 = .ok (.ireturn, 1) := by decide +kernel
theorem dM_row_39 : decode cM_row 39 = .ok (.iinc 3 1, 3) := by decide +kernel
theorem dM_row_42 : decode cM_row 42 = .ok (.goto (-40), 3) := by decide +kernel
theorem dM_row_45 : decode cM_row 45 = .ok (.iconst (-1), 1) := by decide +kernel
theorem dM_row_46 : decode cM_row 46 = .ok (.ireturn, 1) := by decide +kernel
theorem dM_isFull_0 : decode cM_isFull 0 = .ok (.aload_n 0, 1) := by decide +kernel
theorem dM_isFull_1 : decode cM_isFull 1 = .ok (.getfield 39, 3) := by decide +kernel
theorem dM_isFull_4 : decode cM_isFull 4 = .ok (.ifCond .le 19, 3) := by decide +kernel
theorem dM_isFull_7 : decode cM_isFull 7 = .ok (.aload_n 0, 1) := by decide +kernel
theorem dM_isFull_8 : decode cM_isFull 8 = .ok (.getfield 42, 3) := by decide +kernel
theorem dM_isFull_11 : decode cM_isFull 11 = .ok (.iload_n 1, 1) := by decide +kernel
theorem dM_isFull_12 : decode cM_isFull 12 = .ok (.iadd, 1) := by decide +kernel
theorem dM_isFull_13 : decode cM_isFull 13 = .ok (.sipush 200, 3) := by decide +kernel
theorem dM_isFull_16 : decode cM_isFull 16 = .ok (.if_icmp .le 7, 3) := by decide +kernel
theorem dM_isFull_19 : decode cM_isFull 19 = .ok (.iconst 1, 1) := by decide +kernel
theorem dM_isFull_20 : decode cM_isFull 20 = .ok (.goto 4, 3) := by decide +kernel
theorem dM_isFull_23 : decode cM_isFull 23 = .ok (.iconst 0, 1) := by decide +kernel
theorem dM_isFull_24 : decode cM_isFull 24 = .ok (.ireturn, 1) := by decide +kernel
theorem dM_changed_0 : decode cM_changed 0 = .ok (.aload_n 0, 1) := by decide +kernel
theorem dM_changed_1 : decode cM_changed 1 = .ok (.getfield 39, 3) := by decide +kernel
theorem dM_changed_4 : decode cM_changed 4 = .ok (.ifCond .le 13, 3) := by decide +kernel
theorem dM_changed_7 : decode cM_changed 7 = .ok (.aload_n 0, 1) := by decide +kernel
theorem dM_changed_8 : decode cM_changed 8 = .ok (.dup, 1) := by decide +kernel
theorem dM_changed_9 : decode cM_changed 9 = .ok (.getfield 42, 3) := by decide +kernel
theorem dM_changed_12 : decode cM_changed 12 = .ok (.iconst 1, 1) := by decide +kernel
theorem dM_changed_13 : decode cM_changed 13 = .ok (.iadd, 1) := by decide +kernel
theorem dM_changed_14 : decode cM_changed 14 = .ok (.putfield 42, 3) := by decide +kernel
theorem dM_changed_17 : decode cM_changed 17 = .ok (.return_, 1) := by decide +kernel
theorem dM_insert_0 : decode cM_insert 0 = .ok (.iload 4, 2) := by decide +kernel
theorem dM_insert_2 : decode cM_insert 2 = .ok (.ifCond .lt 10, 3) := by decide +kernel
theorem dM_insert_5 : decode cM_insert 5 = .ok (.iload 4, 2) := by decide +kernel
theorem dM_insert_7 : decode cM_insert 7 = .ok (.bipush 7, 2) := by decide +kernel
theorem dM_insert_9 : decode cM_insert 9 = .ok (.if_icmp .le 9, 3) := by decide +kernel
theorem dM_insert_12 : decode cM_insert 12 = .ok (.aload_n 0, 1) := by decide +kernel
theorem dM_insert_13 : decode cM_insert 13 = .ok (.iconst 1, 1) := by decide +kernel
theorem dM_insert_14 : decode cM_insert 14 = .ok (.invokevirtual 45, 3) := by decide +kernel
theorem dM_insert_17 : decode cM_insert 17 = .ok (.ireturn, 1) := by decide +kernel
theorem dM_insert_18 : decode cM_insert 18 = .ok (.aload_n 0, 1) := by decide +kernel
theorem dM_insert_19 : decode cM_insert 19 = .ok (.getfield 36, 3) := by decide +kernel
theorem dM_insert_22 : decode cM_insert 22 = .ok (.bipush 120, 2) := by decide +kernel
theorem dM_insert_24 : decode cM_insert 24 = .ok (.if_icmp .eq 43, 3) := by decide +kernel
theorem dM_insert_27 : decode cM_insert 27 = .ok (.aload_n 0, 1) := by decide +kernel
theorem dM_insert_28 : decode cM_insert 28 = .ok (.iconst 1, 1) := by decide +kernel
theorem dM_insert_29 : decode cM_insert 29 = .ok (.invokevirtual 49, 3) := by decide +kernel
theorem dM_insert_32 : decode cM_insert 32 = .ok (.ifCond .ne 35, 3) := by decide +kernel
theorem dM_insert_35 : decode cM_insert 35 = .ok (.iload 4, 2) := by decide +kernel
theorem dM_insert_37 : decode cM_insert 37 = .ok (.iconst 1, 1) := by decide +kernel
theorem dM_insert_38 : decode cM_insert 38 = .ok (.iand, 1) := by decide +kernel
theorem dM_insert_39 : decode cM_insert 39 = .ok (.ifCond .eq 28, 3) := by decide +kernel
theorem dM_insert_42 : decode cM_insert 42 = .ok (.aload_n 0, 1) := by decide +kernel
theorem dM_insert_43 : decode cM_insert 43 = .ok (.iconst 0, 1) := by decide +kernel
theorem dM_insert_44 : decode cM_insert 44 = .ok (.iload_n 1, 1) := by decide +kernel
theorem dM_insert_45 : decode cM_insert 45 = .ok (.invokevirtual 53, 3) := by decide +kernel
theorem dM_insert_48 : decode cM_insert 48 = .ok (.ifCond .ge 19, 3) := by decide +kernel
theorem dM_insert_51 : decode cM_insert 51 = .ok (.iload 4, 2) := by decide +kernel
theorem dM_insert_53 : decode cM_insert 53 = .ok (.iconst 2, 1) := by decide +kernel
theorem dM_insert_54 : decode cM_insert 54 = .ok (.iand, 1) := by decide +kernel
theorem dM_insert_55 : decode cM_insert 55 = .ok (.ifCond .eq 16, 3) := by decide +kernel
theorem dM_insert_58 : decode cM_insert 58 = .ok (.aload_n 0, 1) := by decide +kernel
theorem dM_insert_59 : decode cM_insert 59 = .ok (.iconst 1, 1) := by decide +kernel
theorem dM_insert_60 : decode cM_insert 60 = .ok (.iload_n 2, 1) := by decide +kernel
theorem dM_insert_61 : decode cM_insert 61 = .ok (.invokevirtual 53, 3) := by decide +kernel
theorem dM_insert_64 : decode cM_insert 64 = .ok (.ifCond .lt 7, 3) := by decide +kernel
theorem dM_insert_67 : decode cM_insert 67 = .ok (.iconst 1, 1) := by decide +kernel
theorem dM_insert_68 : decode cM_insert 68 = .ok (.goto 4, 3) := by decide +kernel
theorem dM_insert_71 : decode cM_insert 71 = .ok (.iconst 0, 1) := by decide +kernel
theorem dM_insert_72 : decode cM_insert 72 = .ok (.istore 5, 2) := by decide +kernel
theorem dM_insert_74 : decode cM_insert 74 = .ok (.iload 5, 2) := by decide +kernel
theorem dM_insert_76 : decode cM_insert 76 = .ok (.ifCond .eq 9, 3) := by decide +kernel
theorem dM_insert_79 : decode cM_insert 79 = .ok (.aload_n 0, 1) := by decide +kernel
theorem dM_insert_80 : decode cM_insert 80 = .ok (.iconst 2, 1) := by decide +kernel
theorem dM_insert_81 : decode cM_insert 81 = .ok (.invokevirtual 45, 3) := by decide +kernel
theorem dM_insert_84 : decode cM_insert 84 = .ok (.ireturn, 1) := by decide +kernel
theorem dM_insert_85 : decode cM_insert 85 = .ok (.aload_n 0, 1) := by decide +kernel
theorem dM_insert_86 : decode cM_insert 86 = .ok (.iconst 0, 1) := by decide +kernel
theorem dM_insert_87 : decode cM_insert 87 = .ok (.putfield 32, 3) := by decide +kernel
theorem dM_insert_90 : decode cM_insert 90 = .ok (.iconst 0, 1) := by decide +kernel
theorem dM_insert_91 : decode cM_insert 91 = .ok (.istore 6, 2) := by decide +kernel
theorem dM_insert_93 : decode cM_insert 93 = .ok (.iload 6, 2) := by decide +kernel
theorem dM_insert_95 : decode cM_insert 95 = .ok (.iconst 3, 1) := by decide +kernel
theorem dM_insert_96 : decode cM_insert 96 = .ok (.if_icmp .ge 72, 3) := by decide +kernel
theorem dM_insert_99 : decode cM_insert 99 = .ok (.aload_n 0, 1) := by decide +kernel
theorem dM_insert_100 : decode cM_insert 100 = .ok (.getfield 16, 3) := by decide +kernel
theorem dM_insert_103 : decode cM_insert 103 = .ok (.iconst 3, 1) := by decide +kernel
theorem dM_insert_104 : decode cM_insert 104 = .ok (.aload_n 0, 1) := by decide +kernel
end
section
theorem dM_insert_105 : decode cM_insert 105 = .ok (.getfield 36, 3) := by decide +kernel
theorem dM_insert_108 : decode cM_insert 108 = .ok (.imul, 1) := by decide +kernel
theorem dM_insert_109 : decode cM_insert 109 = .ok (.iload 6, 2) := by decide +kernel
theorem dM_insert_111 : decode cM_insert 111 = .ok (.iadd, 1) := by decide +kernel
theorem dM_insert_112 : decode cM_insert 112 = .ok (.iload 4, 2) := by decide +kernel
theorem dM_insert_114 : decode cM_insert 114 = .ok (.iload 6, 2) := by decide +kernel
theorem dM_insert_116 : decode cM_insert 116 = .ok (.ishr, 1) := by decide +kernel
theorem dM_insert_117 : decode cM_insert 117 = .ok (.iconst 1, 1) := by decide +kernel
theorem dM_insert_118 : decode cM_insert 118 = .ok (.iand, 1) := by decide +kernel
theorem dM_insert_119 : decode cM_insert 119 = .ok (.ifCond .eq 7, 3) := by decide +kernel
theorem dM_insert_122 : decode cM_insert 122 = .ok (.iconst 1, 1) := by decide +kernel
theorem dM_insert_123 : decode cM_insert 123 = .ok (.goto 4, 3) := by decide +kernel
theorem dM_insert_126 : decode cM_insert 126 = .ok (.iconst 0, 1) := by decide +kernel
theorem dM_insert_127 : decode cM_insert 127 = .ok (.bastore, 1) := by decide +kernel
theorem dM_insert_128 : decode cM_insert 128 = .ok (.aload_n 0, 1) := by decide +kernel
theorem dM_insert_129 : decode cM_insert 129 = .ok (.getfield 9, 3) := by decide +kernel
theorem dM_insert_132 : decode cM_insert 132 = .ok (.iconst 3, 1) := by decide +kernel
theorem dM_insert_133 : decode cM_insert 133 = .ok (.aload_n 0, 1) := by decide +kernel
theorem dM_insert_134 : decode cM_insert 134 = .ok (.getfield 36, 3) := by decide +kernel
theorem dM_insert_137 : decode cM_insert 137 = .ok (.imul, 1) := by decide +kernel
theorem dM_insert_138 : decode cM_insert 138 = .ok (.iload 6, 2) := by decide +kernel
theorem dM_insert_140 : decode cM_insert 140 = .ok (.iadd, 1) := by decide +kernel
theorem dM_insert_141 : decode cM_insert 141 = .ok (.iload 6, 2) := by decide +kernel
theorem dM_insert_143 : decode cM_insert 143 = .ok (.ifCond .ne 7, 3) := by decide +kernel
theorem dM_insert_146 : decode cM_insert 146 = .ok (.iload_n 1, 1) := by decide +kernel
theorem dM_insert_147 : decode cM_insert 147 = .ok (.goto 14, 3) := by decide +kernel
theorem dM_insert_150 : decode cM_insert 150 = .ok (.iload 6, 2) := by decide +kernel
theorem dM_insert_152 : decode cM_insert 152 = .ok (.iconst 1, 1) := by decide +kernel
theorem dM_insert_153 : decode cM_insert 153 = .ok (.if_icmp .ne 7, 3) := by decide +kernel
theorem dM_insert_156 : decode cM_insert 156 = .ok (.iload_n 2, 1) := by decide +kernel
theorem dM_insert_157 : decode cM_insert 157 = .ok (.goto 4, 3) := by decide +kernel
theorem dM_insert_160 : decode cM_insert 160 = .ok (.iload_n 3, 1) := by decide +kernel
theorem dM_insert_161 : decode cM_insert 161 = .ok (.iastore, 1) := by decide +kernel
theorem dM_insert_162 : decode cM_insert 162 = .ok (.iinc 6 1, 3) := by decide +kernel
theorem dM_insert_165 : decode cM_insert 165 = .ok (.goto (-72), 3) := by decide +kernel
theorem dM_insert_168 : decode cM_insert 168 = .ok (.aload_n 0, 1) := by decide +kernel
theorem dM_insert_169 : decode cM_insert 169 = .ok (.dup, 1) := by decide +kernel
theorem dM_insert_170 : decode cM_insert 170 = .ok (.getfield 36, 3) := by decide +kernel
theorem dM_insert_173 : decode cM_insert 173 = .ok (.iconst 1, 1) := by decide +kernel
theorem dM_insert_174 : decode cM_insert 174 = .ok (.iadd, 1) := by decide +kernel
theorem dM_insert_175 : decode cM_insert 175 = .ok (.putfield 36, 3) := by decide +kernel
theorem dM_insert_178 : decode cM_insert 178 = .ok (.aload_n 0, 1) := by decide +kernel
theorem dM_insert_179 : decode cM_insert 179 = .ok (.invokevirtual 57, 3) := by decide +kernel
theorem dM_insert_182 : decode cM_insert 182 = .ok (.aload_n 0, 1) := by decide +kernel
theorem dM_insert_183 : decode cM_insert 183 = .ok (.getfield 36, 3) := by decide +kernel
theorem dM_insert_186 : decode cM_insert 186 = .ok (.iconst 1, 1) := by decide +kernel
theorem dM_insert_187 : decode cM_insert 187 = .ok (.isub, 1) := by decide +kernel
theorem dM_insert_188 : decode cM_insert 188 = .ok (.ireturn, 1) := by decide +kernel
theorem dM_isRow_0 : decode cM_isRow 0 = .ok (.iload_n 1, 1) := by decide +kernel
theorem dM_isRow_1 : decode cM_isRow 1 = .ok (.ifCond .lt 15, 3) := by decide +kernel
theorem dM_isRow_4 : decode cM_isRow 4 = .ok (.iload_n 1, 1) := by decide +kernel
theorem dM_isRow_5 : decode cM_isRow 5 = .ok (.aload_n 0, 1) := by decide +kernel
theorem dM_isRow_6 : decode cM_isRow 6 = .ok (.getfield 36, 3) := by decide +kernel
theorem dM_isRow_9 : decode cM_isRow 9 = .ok (.if_icmp .ge 7, 3) := by decide +kernel
theorem dM_isRow_12 : decode cM_isRow 12 = .ok (.iconst 1, 1) := by decide +kernel
theorem dM_isRow_13 : decode cM_isRow 13 = .ok (.goto 4, 3) := by decide +kernel
theorem dM_isRow_16 : decode cM_isRow 16 = .ok (.iconst 0, 1) := by decide +kernel
theorem dM_isRow_17 : decode cM_isRow 17 = .ok (.ireturn, 1) := by decide +kernel
theorem dM_set_0 : decode cM_set 0 = .ok (.aload_n 0, 1) := by decide +kernel
theorem dM_set_1 : decode cM_set 1 = .ok (.iload_n 2, 1) := by decide +kernel
theorem dM_set_2 : decode cM_set 2 = .ok (.ifCond .lt 8, 3) := by decide +kernel
theorem dM_set_5 : decode cM_set 5 = .ok (.iload_n 2, 1) := by decide +kernel
theorem dM_set_6 : decode cM_set 6 = .ok (.iconst 2, 1) := by decide +kernel
theorem dM_set_7 : decode cM_set 7 = .ok (.if_icmp .le 7, 3) := by decide +kernel
theorem dM_set_10 : decode cM_set 10 = .ok (.iconst 1, 1) := by decide +kernel
theorem dM_set_11 : decode cM_set 11 = .ok (.goto 16, 3) := by decide +kernel
theorem dM_set_14 : decode cM_set 14 = .ok (.aload_n 0, 1) := by decide +kernel
theorem dM_set_15 : decode cM_set 15 = .ok (.iload_n 1, 1) := by decide +kernel
theorem dM_set_16 : decode cM_set 16 = .ok (.invokevirtual 60, 3) := by decide +kernel
theorem dM_set_19 : decode cM_set 19 = .ok (.ifCond .ne 7, 3) := by decide +kernel
theorem dM_set_22 : decode cM_set 22 = .ok (.iconst 3, 1) := by decide +kernel
theorem dM_set_23 : decode cM_set 23 = .ok (.goto 4, 3) := by decide +kernel
theorem dM_set_26 : decode cM_set 26 = .ok (.iconst 0, 1) := by decide +kernel
theorem dM_set_27 : decode cM_set 27 = .ok (.putfield 32, 3) := by decide +kernel
theorem dM_set_30 : decode cM_set 30 = .ok (.aload_n 0, 1) := by decide +kernel
theorem dM_set_31 : decode cM_set 31 = .ok (.getfield 32, 3) := by decide +kernel
theorem dM_set_34 : decode cM_set 34 = .ok (.ifCond .eq 4, 3) := by decide +kernel
theorem dM_set_37 : decode cM_set 37 = .ok (.return_, 1) := by decide +kernel
theorem dM_set_38 : decode cM_set 38 = .ok (.iload 4, 2) := by decide +kernel
theorem dM_set_40 : decode cM_set 40 = .ok (.ifCond .ne 8, 3) := by decide +kernel
theorem dM_set_43 : decode cM_set 43 = .ok (.iload_n 2, 1) := by decide +kernel
theorem dM_set_44 : decode cM_set 44 = .ok (.iconst 2, 1) := by decide +kernel
theorem dM_set_45 : decode cM_set 45 = .ok (.if_icmp .ne 7, 3) := by decide +kernel
theorem dM_set_48 : decode cM_set 48 = .ok (.iconst (-1), 1) := by decide +kernel
theorem dM_set_49 : decode cM_set 49 = .ok (.goto 9, 3) := by decide +kernel
theorem dM_set_52 : decode cM_set 52 = .ok (.aload_n 0, 1) := by decide +kernel
theorem dM_set_53 : decode cM_set 53 = .ok (.iload_n 2, 1) := by decide +kernel
theorem dM_set_54 : decode cM_set 54 = .ok (.iload_n 3, 1) := by decide +kernel
theorem dM_set_55 : decode cM_set 55 = .ok (.invokevirtual 53, 3) := by decide +kernel
theorem dM_set_58 : decode cM_set 58 = .ok (.istore 5, 2) := by decide +kernel
theorem dM_set_60 : decode cM_set 60 = .ok (.aload_n 0, 1) := by decide +kernel
theorem dM_set_61 : decode cM_set 61 = .ok (.iconst 1, 1) := by decide +kernel
theorem dM_set_62 : decode cM_set 62 = .ok (.invokevirtual 49, 3) := by decide +kernel
theorem dM_set_65 : decode cM_set 65 = .ok (.ifCond .ne 23, 3) := by decide +kernel
theorem dM_set_68 : decode cM_set 68 = .ok (.iload 4, 2) := by decide +kernel
theorem dM_set_70 : decode cM_set 70 = .ok (.ifCond .eq 7, 3) := by decide +kernel
theorem dM_set_73 : decode cM_set 73 = .ok (.iload_n 2, 1) := by decide +kernel
theorem dM_set_74 : decode cM_set 74 = .ok (.ifCond .eq 14, 3) := by decide +kernel
theorem dM_set_77 : decode cM_set 77 = .ok (.iload 5, 2) := by decide +kernel
theorem dM_set_79 : decode cM_set 79 = .ok (.ifCond .lt 14, 3) := by decide +kernel
theorem dM_set_82 : decode cM_set 82 = .ok (.iload 5, 2) := by decide +kernel
theorem dM_set_84 : decode cM_set 84 = .ok (.iload_n 1, 1) := by decide +kernel
theorem dM_set_85 : decode cM_set 85 = .ok (.if_icmp .eq 8, 3) := by decide +kernel
theorem dM_set_88 : decode cM_set 88 = .ok (.aload_n 0, 1) := by decide +kernel
theorem dM_set_89 : decode cM_set 89 = .ok (.iconst 2, 1) := by decide +kernel
theorem dM_set_90 : decode cM_set 90 = .ok (.putfield 32, 3) := by decide +kernel
theorem dM_set_93 : decode cM_set 93 = .ok (.aload_n 0, 1) := by decide +kernel
theorem dM_set_94 : decode cM_set 94 = .ok (.getfield 32, 3) := by decide +kernel
theorem dM_set_97 : decode cM_set 97 = .ok (.ifCond .eq 4, 3) := by decide +kernel
theorem dM_set_100 : decode cM_set 100 = .ok (.return_, 1) := by decide +kernel
theorem dM_set_101 : decode cM_set 101 = .ok (.aload_n 0, 1) := by decide +kernel
theorem dM_set_102 : decode cM_set 102 = .ok (.getfield 16, 3) := by decide +kernel
theorem dM_set_105 : decode cM_set 105 = .ok (.iconst 3, 1) := by decide +kernel
theorem dM_set_106 : decode cM_set 106 = .ok (.iload_n 1, 1) := by decide +kernel
theorem dM_set_107 : decode cM_set 107 = .ok (.imul, 1) := by decide +kernel
theorem dM_set_108 : decode cM_set 108 = .ok (.iload_n 2, 1) := by decide +kernel
theorem dM_set_109 : decode cM_set 109 = .ok (.iadd, 1) := by decide +kernel
theorem dM_set_110 : decode cM_set 110 = .ok (.iload 4, 2) := by decide +kernel
theorem dM_set_112 : decode cM_set 112 = .ok (.ifCond .ne 7, 3) := by decide +kernel
theorem dM_set_115 : decode cM_set 115 = .ok (.iconst 1, 1) := by decide +kernel
theorem dM_set_116 : decode cM_set 116 = .ok (.goto 4, 3) := by decide +kernel
theorem dM_set_119 : decode cM_set 119 = .ok (.iconst 0, 1) := by decide +kernel
theorem dM_set_120 : decode cM_set 120 = .ok (.bastore, 1) := by decide +kernel
theorem dM_set_121 : decode cM_set 121 = .ok (.aload_n 0, 1) := by decide +kernel
theorem dM_set_122 : decode cM_set 122 = .ok (.getfield 9, 3) := by decide +kernel
theorem dM_set_125 : decode cM_set 125 = .ok (.iconst 3, 1) := by decide +kernel
theorem dM_set_126 : decode cM_set 126 = .ok (.iload_n 1, 1) := by decide +kernel
theorem dM_set_127 : decode cM_set 127 = .ok (.imul, 1) := by decide +kernel
theorem dM_set_128 : decode cM_set 128 = .ok (.iload_n 2, 1) := by decide +kernel
theorem dM_set_129 : decode cM_set 129 = .ok (.iadd, 1) := by decide +kernel
theorem dM_set_130 : decode cM_set 130 = .ok (.iload_n 3, 1) := by decide +kernel
theorem dM_set_131 : decode cM_set 131 = .ok (.iastore, 1) := by decide +kernel
theorem dM_set_132 : decode cM_set 132 = .ok (.aload_n 0, 1) := by decide +kernel
theorem dM_set_133 : decode cM_set 133 = .ok (.invokevirtual 57, 3) := by decide +kernel
theorem dM_set_136 : decode cM_set 136 = .ok (.return_, 1) := by decide +kernel
theorem dM_take_0 : decode cM_take 0 = .ok (.aload_n 0, 1) := by decide +kernel
theorem dM_take_1 : decode cM_take 1 = .ok (.dup, 1) := by decide +kernel
theorem dM_take_2 : decode cM_take 2 = .ok (.getfield 36, 3) := by decide +kernel
theorem dM_take_5 : decode cM_take 5 = .ok (.iconst 1, 1) := by decide +kernel
theorem dM_take_6 : decode cM_take 6 = .ok (.isub, 1) := by decide +kernel
theorem dM_take_7 : decode cM_take 7 = .ok (.putfield 36, 3) := by decide +kernel
theorem dM_take_10 : decode cM_take 10 = .ok (.iconst 3, 1) := by decide +kernel
theorem dM_take_11 : decode cM_take 11 = .ok (.iload_n 1, 1) := by decide +kernel
theorem dM_take_12 : decode cM_take 12 = .ok (.imul, 1) := by decide +kernel
theorem dM_take_13 : decode cM_take 13 = .ok (.istore_n 2, 1) := by decide +kernel
theorem dM_take_14 : decode cM_take 14 = .ok (.iload_n 2, 1) := by decide +kernel
theorem dM_take_15 : decode cM_take 15 = .ok (.iconst 3, 1) := by decide +kernel
theorem dM_take_16 : decode cM_take 16 = .ok (.aload_n 0, 1) := by decide +kernel
theorem dM_take_17 : decode cM_take 17 = .ok (.getfield 36, 3) := by decide +kernel
theorem dM_take_20 : decode cM_take 20 = .ok (.imul, 1) := by decide +kernel
end
section
theorem dM_take_21 : decode cM_take 21 = .ok (.if_icmp .ge 37, 3) := by decide +kernel
theorem dM_take_24 : decode cM_take 24 = .ok (.aload_n 0, 1) := by decide +kernel
theorem dM_take_25 : decode cM_take 25 = .ok (.getfield 16, 3) := by decide +kernel
theorem dM_take_28 : decode cM_take 28 = .ok (.iload_n 2, 1) := by decide +kernel
theorem dM_take_29 : decode cM_take 29 = .ok (.aload_n 0, 1) := by decide +kernel
theorem dM_take_30 : decode cM_take 30 = .ok (.getfield 16, 3) := by decide +kernel
theorem dM_take_33 : decode cM_take 33 = .ok (.iload_n 2, 1) := by decide +kernel
theorem dM_take_34 : decode cM_take 34 = .ok (.iconst 3, 1) := by decide +kernel
theorem dM_take_35 : decode cM_take 35 = .ok (.iadd, 1) := by decide +kernel
theorem dM_take_36 : decode cM_take 36 = .ok (.baload, 1) := by decide +kernel
theorem dM_take_37 : decode cM_take 37 = .ok (.bastore, 1) := by decide +kernel
theorem dM_take_38 : decode cM_take 38 = .ok (.aload_n 0, 1) := by decide +kernel
theorem dM_take_39 : decode cM_take 39 = .ok (.getfield 9, 3) := by decide +kernel
theorem dM_take_42 : decode cM_take 42 = .ok (.iload_n 2, 1) := by decide +kernel
theorem dM_take_43 : decode cM_take 43 = .ok (.aload_n 0, 1) := by decide +kernel
theorem dM_take_44 : decode cM_take 44 = .ok (.getfield 9, 3) := by decide +kernel
theorem dM_take_47 : decode cM_take 47 = .ok (.iload_n 2, 1) := by decide +kernel
theorem dM_take_48 : decode cM_take 48 = .ok (.iconst 3, 1) := by decide +kernel
theorem dM_take_49 : decode cM_take 49 = .ok (.iadd, 1) := by decide +kernel
theorem dM_take_50 : decode cM_take 50 = .ok (.iaload, 1) := by decide +kernel
theorem dM_take_51 : decode cM_take 51 = .ok (.iastore, 1) := by decide +kernel
theorem dM_take_52 : decode cM_take 52 = .ok (.iinc 2 1, 3) := by decide +kernel
theorem dM_take_55 : decode cM_take 55 = .ok (.goto (-41), 3) := by decide +kernel
theorem dM_take_58 : decode cM_take 58 = .ok (.aload_n 0, 1) := by decide +kernel
theorem dM_take_59 : decode cM_take 59 = .ok (.invokevirtual 57, 3) := by decide +kernel
theorem dM_take_62 : decode cM_take 62 = .ok (.return_, 1) := by decide +kernel
theorem dM_remove_0 : decode cM_remove 0 = .ok (.aload_n 0, 1) := by decide +kernel
theorem dM_remove_1 : decode cM_remove 1 = .ok (.aload_n 0, 1) := by decide +kernel
theorem dM_remove_2 : decode cM_remove 2 = .ok (.iload_n 1, 1) := by decide +kernel
theorem dM_remove_3 : decode cM_remove 3 = .ok (.invokevirtual 60, 3) := by decide +kernel
theorem dM_remove_6 : decode cM_remove 6 = .ok (.ifCond .ne 7, 3) := by decide +kernel
theorem dM_remove_9 : decode cM_remove 9 = .ok (.iconst 2, 1) := by decide +kernel
theorem dM_remove_10 : decode cM_remove 10 = .ok (.goto 16, 3) := by decide +kernel
theorem dM_remove_13 : decode cM_remove 13 = .ok (.aload_n 0, 1) := by decide +kernel
theorem dM_remove_14 : decode cM_remove 14 = .ok (.iconst 1, 1) := by decide +kernel
theorem dM_remove_15 : decode cM_remove 15 = .ok (.invokevirtual 49, 3) := by decide +kernel
theorem dM_remove_18 : decode cM_remove 18 = .ok (.ifCond .eq 7, 3) := by decide +kernel
theorem dM_remove_21 : decode cM_remove 21 = .ok (.iconst 1, 1) := by decide +kernel
theorem dM_remove_22 : decode cM_remove 22 = .ok (.goto 4, 3) := by decide +kernel
theorem dM_remove_25 : decode cM_remove 25 = .ok (.iconst 0, 1) := by decide +kernel
theorem dM_remove_26 : decode cM_remove 26 = .ok (.putfield 32, 3) := by decide +kernel
theorem dM_remove_29 : decode cM_remove 29 = .ok (.aload_n 0, 1) := by decide +kernel
theorem dM_remove_30 : decode cM_remove 30 = .ok (.getfield 32, 3) := by decide +kernel
theorem dM_remove_33 : decode cM_remove 33 = .ok (.ifCond .ne 8, 3) := by decide +kernel
theorem dM_remove_36 : decode cM_remove 36 = .ok (.aload_n 0, 1) := by decide +kernel
theorem dM_remove_37 : decode cM_remove 37 = .ok (.iload_n 1, 1) := by decide +kernel
theorem dM_remove_38 : decode cM_remove 38 = .ok (.invokevirtual 63, 3) := by decide +kernel
theorem dM_remove_41 : decode cM_remove 41 = .ok (.return_, 1) := by decide +kernel
theorem dM_removeAll_0 : decode cM_removeAll 0 = .ok (.iload_n 1, 1) := by decide +kernel
theorem dM_removeAll_1 : decode cM_removeAll 1 = .ok (.ifCond .lt 8, 3) := by decide +kernel
theorem dM_removeAll_4 : decode cM_removeAll 4 = .ok (.iload_n 1, 1) := by decide +kernel
theorem dM_removeAll_5 : decode cM_removeAll 5 = .ok (.iconst 2, 1) := by decide +kernel
theorem dM_removeAll_6 : decode cM_removeAll 6 = .ok (.if_icmp .le 9, 3) := by decide +kernel
theorem dM_removeAll_9 : decode cM_removeAll 9 = .ok (.aload_n 0, 1) := by decide +kernel
theorem dM_removeAll_10 : decode cM_removeAll 10 = .ok (.iconst 1, 1) := by decide +kernel
theorem dM_removeAll_11 : decode cM_removeAll 11 = .ok (.invokevirtual 45, 3) := by decide +kernel
theorem dM_removeAll_14 : decode cM_removeAll 14 = .ok (.ireturn, 1) := by decide +kernel
theorem dM_removeAll_15 : decode cM_removeAll 15 = .ok (.iconst 0, 1) := by decide +kernel
theorem dM_removeAll_16 : decode cM_removeAll 16 = .ok (.istore_n 3, 1) := by decide +kernel
theorem dM_removeAll_17 : decode cM_removeAll 17 = .ok (.iconst 0, 1) := by decide +kernel
theorem dM_removeAll_18 : decode cM_removeAll 18 = .ok (.istore 4, 2) := by decide +kernel
theorem dM_removeAll_20 : decode cM_removeAll 20 = .ok (.iload 4, 2) := by decide +kernel
theorem dM_removeAll_22 : decode cM_removeAll 22 = .ok (.aload_n 0, 1) := by decide +kernel
theorem dM_removeAll_23 : decode cM_removeAll 23 = .ok (.getfield 36, 3) := by decide +kernel
theorem dM_removeAll_26 : decode cM_removeAll 26 = .ok (.if_icmp .ge 41, 3) := by decide +kernel
theorem dM_removeAll_29 : decode cM_removeAll 29 = .ok (.aload_n 0, 1) := by decide +kernel
theorem dM_removeAll_30 : decode cM_removeAll 30 = .ok (.getfield 16, 3) := by decide +kernel
theorem dM_removeAll_33 : decode cM_removeAll 33 = .ok (.iconst 3, 1) := by decide +kernel
theorem dM_removeAll_34 : decode cM_removeAll 34 = .ok (.iload 4, 2) := by decide +kernel
theorem dM_removeAll_36 : decode cM_removeAll 36 = .ok (.imul, 1) := by decide +kernel
theorem dM_removeAll_37 : decode cM_removeAll 37 = .ok (.iload_n 1, 1) := by decide +kernel
theorem dM_removeAll_38 : decode cM_removeAll 38 = .ok (.iadd, 1) := by decide +kernel
theorem dM_removeAll_39 : decode cM_removeAll 39 = .ok (.baload, 1) := by decide +kernel
theorem dM_removeAll_40 : decode cM_removeAll 40 = .ok (.ifCond .eq 21, 3) := by decide +kernel
theorem dM_removeAll_43 : decode cM_removeAll 43 = .ok (.aload_n 0, 1) := by decide +kernel
theorem dM_removeAll_44 : decode cM_removeAll 44 = .ok (.getfield 9, 3) := by decide +kernel
theorem dM_removeAll_47 : decode cM_removeAll 47 = .ok (.iconst 3, 1) := by decide +kernel
theorem dM_removeAll_48 : decode cM_removeAll 48 = .ok (.iload 4, 2) := by decide +kernel
theorem dM_removeAll_50 : decode cM_removeAll 50 = .ok (.imul, 1) := by decide +kernel
theorem dM_removeAll_51 : decode cM_removeAll 51 = .ok (.iload_n 1, 1) := by decide +kernel
theorem dM_removeAll_52 : decode cM_removeAll 52 = .ok (.iadd, 1) := by decide +kernel
theorem dM_removeAll_53 : decode cM_removeAll 53 = .ok (.iaload, 1) := by decide +kernel
theorem dM_removeAll_54 : decode cM_removeAll 54 = .ok (.iload_n 2, 1) := by decide +kernel
theorem dM_removeAll_55 : decode cM_removeAll 55 = .ok (.if_icmp .ne 6, 3) := by decide +kernel
theorem dM_removeAll_58 : decode cM_removeAll 58 = .ok (.iinc 3 1, 3) := by decide +kernel
theorem dM_removeAll_61 : decode cM_removeAll 61 = .ok (.iinc 4 1, 3) := by decide +kernel
theorem dM_removeAll_64 : decode cM_removeAll 64 = .ok (.goto (-44), 3) := by decide +kernel
theorem dM_removeAll_67 : decode cM_removeAll 67 = .ok (.aload_n 0, 1) := by decide +kernel
theorem dM_removeAll_68 : decode cM_removeAll 68 = .ok (.iload_n 3, 1) := by decide +kernel
theorem dM_removeAll_69 : decode cM_removeAll 69 = .ok (.invokevirtual 49, 3) := by decide +kernel
theorem dM_removeAll_72 : decode cM_removeAll 72 = .ok (.ifCond .eq 9, 3) := by decide +kernel
theorem dM_removeAll_75 : decode cM_removeAll 75 = .ok (.aload_n 0, 1) := by decide +kernel
theorem dM_removeAll_76 : decode cM_removeAll 76 = .ok (.iconst 2, 1) := by decide +kernel
theorem dM_removeAll_77 : decode cM_removeAll 77 = .ok (.invokevirtual 45, 3) := by decide +kernel
theorem dM_removeAll_80 : decode cM_removeAll 80 = .ok (.ireturn, 1) := by decide +kernel
theorem dM_removeAll_81 : decode cM_removeAll 81 = .ok (.aload_n 0, 1) := by decide +kernel
theorem dM_removeAll_82 : decode cM_removeAll 82 = .ok (.iconst 0, 1) := by decide +kernel
theorem dM_removeAll_83 : decode cM_removeAll 83 = .ok (.putfield 32, 3) := by decide +kernel
theorem dM_removeAll_86 : decode cM_removeAll 86 = .ok (.aload_n 0, 1) := by decide +kernel
theorem dM_removeAll_87 : decode cM_removeAll 87 = .ok (.getfield 36, 3) := by decide +kernel
theorem dM_removeAll_90 : decode cM_removeAll 90 = .ok (.iconst 1, 1) := by decide +kernel
theorem dM_removeAll_91 : decode cM_removeAll 91 = .ok (.isub, 1) := by decide +kernel
theorem dM_removeAll_92 : decode cM_removeAll 92 = .ok (.istore 4, 2) := by decide +kernel
theorem dM_removeAll_94 : decode cM_removeAll 94 = .ok (.iload 4, 2) := by decide +kernel
theorem dM_removeAll_96 : decode cM_removeAll 96 = .ok (.ifCond .lt 44, 3) := by decide +kernel
theorem dM_removeAll_99 : decode cM_removeAll 99 = .ok (.aload_n 0, 1) := by decide +kernel
theorem dM_removeAll_100 : decode cM_removeAll 100 = .ok (.getfield 16, 3) := by decide +kernel
theorem dM_removeAll_103 : decode cM_removeAll 103 = .ok (.iconst 3, 1) := by decide +kernel
theorem dM_removeAll_104 : decode cM_removeAll 104 = .ok (.iload 4, 2) := by decide +kernel
theorem dM_removeAll_106 : decode cM_removeAll 106 = .ok (.imul, 1) := by decide +kernel
theorem dM_removeAll_107 : decode cM_removeAll 107 = .ok (.iload_n 1, 1) := by decide +kernel
theorem dM_removeAll_108 : decode cM_removeAll 108 = .ok (.iadd, 1) := by decide +kernel
theorem dM_removeAll_109 : decode cM_removeAll 109 = .ok (.baload, 1) := by decide +kernel
theorem dM_removeAll_110 : decode cM_removeAll 110 = .ok (.ifCond .eq 24, 3) := by decide +kernel
theorem dM_removeAll_113 : decode cM_removeAll 113 = .ok (.aload_n 0, 1) := by decide +kernel
theorem dM_removeAll_114 : decode cM_removeAll 114 = .ok (.getfield 9, 3) := by decide +kernel
theorem dM_removeAll_117 : decode cM_removeAll 117 = .ok (.iconst 3, 1) := by decide +kernel
theorem dM_removeAll_118 : decode cM_removeAll 118 = .ok (.iload 4, 2) := by decide +kernel
theorem dM_removeAll_120 : decode cM_removeAll 120 = .ok (.imul, 1) := by decide +kernel
theorem dM_removeAll_121 : decode cM_removeAll 121 = .ok (.iload_n 1, 1) := by decide +kernel
theorem dM_removeAll_122 : decode cM_removeAll 122 = .ok (.iadd, 1) := by decide +kernel
theorem dM_removeAll_123 : decode cM_removeAll 123 = .ok (.iaload, 1) := by decide +kernel
theorem dM_removeAll_124 : decode cM_removeAll 124 = .ok (.iload_n 2, 1) := by decide +kernel
theorem dM_removeAll_125 : decode cM_removeAll 125 = .ok (.if_icmp .ne 9, 3) := by decide +kernel
theorem dM_removeAll_128 : decode cM_removeAll 128 = .ok (.aload_n 0, 1) := by decide +kernel
theorem dM_removeAll_129 : decode cM_removeAll 129 = .ok (.iload 4, 2) := by decide +kernel
theorem dM_removeAll_131 : decode cM_removeAll 131 = .ok (.invokevirtual 63, 3) := by decide +kernel
theorem dM_removeAll_134 : decode cM_removeAll 134 = .ok (.iinc 4 (-1), 3) := by decide +kernel
theorem dM_removeAll_137 : decode cM_removeAll 137 = .ok (.goto (-43), 3) := by decide +kernel
theorem dM_removeAll_140 : decode cM_removeAll 140 = .ok (.iload_n 3, 1) := by decide +kernel
theorem dM_removeAll_141 : decode cM_removeAll 141 = .ok (.ireturn, 1) := by decide +kernel
theorem dM_find_0 : decode cM_find 0 = .ok (.iload_n 1, 1) := by decide +kernel
theorem dM_find_1 : decode cM_find 1 = .ok (.ifCond .eq 14, 3) := by decide +kernel
theorem dM_find_4 : decode cM_find 4 = .ok (.iload_n 1, 1) := by decide +kernel
theorem dM_find_5 : decode cM_find 5 = .ok (.iconst 1, 1) := by decide +kernel
theorem dM_find_6 : decode cM_find 6 = .ok (.if_icmp .eq 9, 3) := by decide +kernel
theorem dM_find_9 : decode cM_find 9 = .ok (.aload_n 0, 1) := by decide +kernel
theorem dM_find_10 : decode cM_find 10 = .ok (.iconst 1, 1) := by decide +kernel
theorem dM_find_11 : decode cM_find 11 = .ok (.invokevirtual 45, 3) := by decide +kernel
theorem dM_find_14 : decode cM_find 14 = .ok (.ireturn, 1) := by decide +kernel
theorem dM_find_15 : decode cM_find 15 = .ok (.aload_n 0, 1) := by decide +kernel
theorem dM_find_16 : decode cM_find 16 = .ok (.iconst 0, 1) := by decide +kernel
theorem dM_find_17 : decode cM_find 17 = .ok (.putfield 32, 3) := by decide +kernel
theorem dM_find_20 : decode cM_find 20 = .ok (.aload_n 0, 1) := by decide +kernel
theorem dM_find_21 : decode cM_find 21 = .ok (.iload_n 1, 1) := by decide +kernel
theorem dM_find_22 : decode cM_find 22 = .ok (.iload_n 2, 1) := by decide +kernel
theorem dM_find_23 : decode cM_find 23 = .ok (.invokevirtual 53, 3) := by decide +kernel
theorem dM_find_26 : decode cM_find 26 = .ok (.ireturn, 1) := by decide +kernel
theorem dM_value_0 : decode cM_value 0 = .ok (.aload_n 0, 1) := by decide +kernel
theorem dM_value_1 : decode cM_value 1 = .ok (.iload_n 2, 1) := by decide +kernel
end
section
theorem dM_value_2 : decode cM_value 2 = .ok (.ifCond .lt 8, 3) := by decide +kernel
theorem dM_value_5 : decode cM_value 5 = .ok (.iload_n 2, 1) := by decide +kernel
theorem dM_value_6 : decode cM_value 6 = .ok (.iconst 2, 1) := by decide +kernel
theorem dM_value_7 : decode cM_value 7 = .ok (.if_icmp .le 7, 3) := by decide +kernel
theorem dM_value_10 : decode cM_value 10 = .ok (.iconst 1, 1) := by decide +kernel
theorem dM_value_11 : decode cM_value 11 = .ok (.goto 29, 3) := by decide +kernel
theorem dM_value_14 : decode cM_value 14 = .ok (.aload_n 0, 1) := by decide +kernel
theorem dM_value_15 : decode cM_value 15 = .ok (.iload_n 1, 1) := by decide +kernel
theorem dM_value_16 : decode cM_value 16 = .ok (.invokevirtual 60, 3) := by decide +kernel
theorem dM_value_19 : decode cM_value 19 = .ok (.ifCond .eq 16, 3) := by decide +kernel
theorem dM_value_22 : decode cM_value 22 = .ok (.aload_n 0, 1) := by decide +kernel
theorem dM_value_23 : decode cM_value 23 = .ok (.getfield 16, 3) := by decide +kernel
theorem dM_value_26 : decode cM_value 26 = .ok (.iconst 3, 1) := by decide +kernel
theorem dM_value_27 : decode cM_value 27 = .ok (.iload_n 1, 1) := by decide +kernel
theorem dM_value_28 : decode cM_value 28 = .ok (.imul, 1) := by decide +kernel
theorem dM_value_29 : decode cM_value 29 = .ok (.iload_n 2, 1) := by decide +kernel
theorem dM_value_30 : decode cM_value 30 = .ok (.iadd, 1) := by decide +kernel
theorem dM_value_31 : decode cM_value 31 = .ok (.baload, 1) := by decide +kernel
theorem dM_value_32 : decode cM_value 32 = .ok (.ifCond .ne 7, 3) := by decide +kernel
theorem dM_value_35 : decode cM_value 35 = .ok (.iconst 2, 1) := by decide +kernel
theorem dM_value_36 : decode cM_value 36 = .ok (.goto 4, 3) := by decide +kernel
theorem dM_value_39 : decode cM_value 39 = .ok (.iconst 0, 1) := by decide +kernel
theorem dM_value_40 : decode cM_value 40 = .ok (.putfield 32, 3) := by decide +kernel
theorem dM_value_43 : decode cM_value 43 = .ok (.aload_n 0, 1) := by decide +kernel
theorem dM_value_44 : decode cM_value 44 = .ok (.getfield 32, 3) := by decide +kernel
theorem dM_value_47 : decode cM_value 47 = .ok (.ifCond .eq 7, 3) := by decide +kernel
theorem dM_value_50 : decode cM_value 50 = .ok (.iconst 0, 1) := by decide +kernel
theorem dM_value_51 : decode cM_value 51 = .ok (.goto 13, 3) := by decide +kernel
theorem dM_value_54 : decode cM_value 54 = .ok (.aload_n 0, 1) := by decide +kernel
theorem dM_value_55 : decode cM_value 55 = .ok (.getfield 9, 3) := by decide +kernel
theorem dM_value_58 : decode cM_value 58 = .ok (.iconst 3, 1) := by decide +kernel
theorem dM_value_59 : decode cM_value 59 = .ok (.iload_n 1, 1) := by decide +kernel
theorem dM_value_60 : decode cM_value 60 = .ok (.imul, 1) := by decide +kernel
theorem dM_value_61 : decode cM_value 61 = .ok (.iload_n 2, 1) := by decide +kernel
theorem dM_value_62 : decode cM_value 62 = .ok (.iadd, 1) := by decide +kernel
theorem dM_value_63 : decode cM_value 63 = .ok (.iaload, 1) := by decide +kernel
theorem dM_value_64 : decode cM_value 64 = .ok (.ireturn, 1) := by decide +kernel
theorem dM_mark_0 : decode cM_mark 0 = .ok (.aload_n 0, 1) := by decide +kernel
theorem dM_mark_1 : decode cM_mark 1 = .ok (.aload_n 0, 1) := by decide +kernel
theorem dM_mark_2 : decode cM_mark 2 = .ok (.getfield 39, 3) := by decide +kernel
theorem dM_mark_5 : decode cM_mark 5 = .ok (.bipush 20, 2) := by decide +kernel
theorem dM_mark_7 : decode cM_mark 7 = .ok (.if_icmp .ne 7, 3) := by decide +kernel
theorem dM_mark_10 : decode cM_mark 10 = .ok (.iconst 1, 1) := by decide +kernel
theorem dM_mark_11 : decode cM_mark 11 = .ok (.goto 4, 3) := by decide +kernel
theorem dM_mark_14 : decode cM_mark 14 = .ok (.iconst 0, 1) := by decide +kernel
theorem dM_mark_15 : decode cM_mark 15 = .ok (.putfield 32, 3) := by decide +kernel
theorem dM_mark_18 : decode cM_mark 18 = .ok (.aload_n 0, 1) := by decide +kernel
theorem dM_mark_19 : decode cM_mark 19 = .ok (.getfield 32, 3) := by decide +kernel
theorem dM_mark_22 : decode cM_mark 22 = .ok (.ifCond .eq 4, 3) := by decide +kernel
theorem dM_mark_25 : decode cM_mark 25 = .ok (.return_, 1) := by decide +kernel
theorem dM_mark_26 : decode cM_mark 26 = .ok (.iconst 0, 1) := by decide +kernel
theorem dM_mark_27 : decode cM_mark 27 = .ok (.istore_n 2, 1) := by decide +kernel
theorem dM_mark_28 : decode cM_mark 28 = .ok (.iload_n 2, 1) := by decide +kernel
theorem dM_mark_29 : decode cM_mark 29 = .ok (.sipush 360, 3) := by decide +kernel
theorem dM_mark_32 : decode cM_mark 32 = .ok (.if_icmp .ge 51, 3) := by decide +kernel
theorem dM_mark_35 : decode cM_mark 35 = .ok (.aload_n 0, 1) := by decide +kernel
theorem dM_mark_36 : decode cM_mark 36 = .ok (.getfield 13, 3) := by decide +kernel
theorem dM_mark_39 : decode cM_mark 39 = .ok (.sipush 360, 3) := by decide +kernel
theorem dM_mark_42 : decode cM_mark 42 = .ok (.aload_n 0, 1) := by decide +kernel
theorem dM_mark_43 : decode cM_mark 43 = .ok (.getfield 39, 3) := by decide +kernel
theorem dM_mark_46 : decode cM_mark 46 = .ok (.imul, 1) := by decide +kernel
theorem dM_mark_47 : decode cM_mark 47 = .ok (.iload_n 2, 1) := by decide +kernel
theorem dM_mark_48 : decode cM_mark 48 = .ok (.iadd, 1) := by decide +kernel
theorem dM_mark_49 : decode cM_mark 49 = .ok (.aload_n 0, 1) := by decide +kernel
theorem dM_mark_50 : decode cM_mark 50 = .ok (.getfield 9, 3) := by decide +kernel
theorem dM_mark_53 : decode cM_mark 53 = .ok (.iload_n 2, 1) := by decide +kernel
theorem dM_mark_54 : decode cM_mark 54 = .ok (.iaload, 1) := by decide +kernel
theorem dM_mark_55 : decode cM_mark 55 = .ok (.iastore, 1) := by decide +kernel
theorem dM_mark_56 : decode cM_mark 56 = .ok (.aload_n 0, 1) := by decide +kernel
theorem dM_mark_57 : decode cM_mark 57 = .ok (.getfield 20, 3) := by decide +kernel
theorem dM_mark_60 : decode cM_mark 60 = .ok (.sipush 360, 3) := by decide +kernel
theorem dM_mark_63 : decode cM_mark 63 = .ok (.aload_n 0, 1) := by decide +kernel
theorem dM_mark_64 : decode cM_mark 64 = .ok (.getfield 39, 3) := by decide +kernel
theorem dM_mark_67 : decode cM_mark 67 = .ok (.imul, 1) := by decide +kernel
theorem dM_mark_68 : decode cM_mark 68 = .ok (.iload_n 2, 1) := by decide +kernel
theorem dM_mark_69 : decode cM_mark 69 = .ok (.iadd, 1) := by decide +kernel
theorem dM_mark_70 : decode cM_mark 70 = .ok (.aload_n 0, 1) := by decide +kernel
theorem dM_mark_71 : decode cM_mark 71 = .ok (.getfield 16, 3) := by decide +kernel
theorem dM_mark_74 : decode cM_mark 74 = .ok (.iload_n 2, 1) := by decide +kernel
theorem dM_mark_75 : decode cM_mark 75 = .ok (.baload, 1) := by decide +kernel
theorem dM_mark_76 : decode cM_mark 76 = .ok (.bastore, 1) := by decide +kernel
theorem dM_mark_77 : decode cM_mark 77 = .ok (.iinc 2 1, 3) := by decide +kernel
theorem dM_mark_80 : decode cM_mark 80 = .ok (.goto (-52), 3) := by decide +kernel
theorem dM_mark_83 : decode cM_mark 83 = .ok (.aload_n 0, 1) := by decide +kernel
theorem dM_mark_84 : decode cM_mark 84 = .ok (.getfield 23, 3) := by decide +kernel
theorem dM_mark_87 : decode cM_mark 87 = .ok (.aload_n 0, 1) := by decide +kernel
theorem dM_mark_88 : decode cM_mark 88 = .ok (.getfield 39, 3) := by decide +kernel
theorem dM_mark_91 : decode cM_mark 91 = .ok (.iload_n 1, 1) := by decide +kernel
theorem dM_mark_92 : decode cM_mark 92 = .ok (.iastore, 1) := by decide +kernel
theorem dM_mark_93 : decode cM_mark 93 = .ok (.aload_n 0, 1) := by decide +kernel
theorem dM_mark_94 : decode cM_mark 94 = .ok (.getfield 26, 3) := by decide +kernel
theorem dM_mark_97 : decode cM_mark 97 = .ok (.aload_n 0, 1) := by decide +kernel
theorem dM_mark_98 : decode cM_mark 98 = .ok (.getfield 39, 3) := by decide +kernel
theorem dM_mark_101 : decode cM_mark 101 = .ok (.aload_n 0, 1) := by decide +kernel
theorem dM_mark_102 : decode cM_mark 102 = .ok (.getfield 36, 3) := by decide +kernel
theorem dM_mark_105 : decode cM_mark 105 = .ok (.iastore, 1) := by decide +kernel
theorem dM_mark_106 : decode cM_mark 106 = .ok (.aload_n 0, 1) := by decide +kernel
theorem dM_mark_107 : decode cM_mark 107 = .ok (.getfield 29, 3) := by decide +kernel
theorem dM_mark_110 : decode cM_mark 110 = .ok (.aload_n 0, 1) := by decide +kernel
theorem dM_mark_111 : decode cM_mark 111 = .ok (.getfield 39, 3) := by decide +kernel
theorem dM_mark_114 : decode cM_mark 114 = .ok (.aload_n 0, 1) := by decide +kernel
theorem dM_mark_115 : decode cM_mark 115 = .ok (.getfield 42, 3) := by decide +kernel
theorem dM_mark_118 : decode cM_mark 118 = .ok (.iastore, 1) := by decide +kernel
theorem dM_mark_119 : decode cM_mark 119 = .ok (.aload_n 0, 1) := by decide +kernel
theorem dM_mark_120 : decode cM_mark 120 = .ok (.dup, 1) := by decide +kernel
theorem dM_mark_121 : decode cM_mark 121 = .ok (.getfield 39, 3) := by decide +kernel
theorem dM_mark_124 : decode cM_mark 124 = .ok (.iconst 1, 1) := by decide +kernel
theorem dM_mark_125 : decode cM_mark 125 = .ok (.iadd, 1) := by decide +kernel
theorem dM_mark_126 : decode cM_mark 126 = .ok (.putfield 39, 3) := by decide +kernel
theorem dM_mark_129 : decode cM_mark 129 = .ok (.return_, 1) := by decide +kernel
theorem dM_point_0 : decode cM_point 0 = .ok (.aload_n 0, 1) := by decide +kernel
theorem dM_point_1 : decode cM_point 1 = .ok (.getfield 39, 3) := by decide +kernel
theorem dM_point_4 : decode cM_point 4 = .ok (.iconst 1, 1) := by decide +kernel
theorem dM_point_5 : decode cM_point 5 = .ok (.isub, 1) := by decide +kernel
theorem dM_point_6 : decode cM_point 6 = .ok (.istore_n 2, 1) := by decide +kernel
theorem dM_point_7 : decode cM_point 7 = .ok (.iload_n 2, 1) := by decide +kernel
theorem dM_point_8 : decode cM_point 8 = .ok (.ifCond .lt 19, 3) := by decide +kernel
theorem dM_point_11 : decode cM_point 11 = .ok (.aload_n 0, 1) := by decide +kernel
theorem dM_point_12 : decode cM_point 12 = .ok (.getfield 23, 3) := by decide +kernel
theorem dM_point_15 : decode cM_point 15 = .ok (.iload_n 2, 1) := by decide +kernel
theorem dM_point_16 : decode cM_point 16 = .ok (.iaload, 1) := by decide +kernel
theorem dM_point_17 : decode cM_point 17 = .ok (.iload_n 1, 1) := by decide +kernel
theorem dM_point_18 : decode cM_point 18 = .ok (.if_icmp .eq 9, 3) := by decide +kernel
theorem dM_point_21 : decode cM_point 21 = .ok (.iinc 2 (-1), 3) := by decide +kernel
theorem dM_point_24 : decode cM_point 24 = .ok (.goto (-17), 3) := by decide +kernel
theorem dM_point_27 : decode cM_point 27 = .ok (.aload_n 0, 1) := by decide +kernel
theorem dM_point_28 : decode cM_point 28 = .ok (.iload_n 2, 1) := by decide +kernel
theorem dM_point_29 : decode cM_point 29 = .ok (.ifCond .ge 7, 3) := by decide +kernel
theorem dM_point_32 : decode cM_point 32 = .ok (.iconst 1, 1) := by decide +kernel
theorem dM_point_33 : decode cM_point 33 = .ok (.goto 4, 3) := by decide +kernel
theorem dM_point_36 : decode cM_point 36 = .ok (.iconst 0, 1) := by decide +kernel
theorem dM_point_37 : decode cM_point 37 = .ok (.putfield 32, 3) := by decide +kernel
theorem dM_point_40 : decode cM_point 40 = .ok (.iload_n 2, 1) := by decide +kernel
theorem dM_point_41 : decode cM_point 41 = .ok (.ireturn, 1) := by decide +kernel
theorem dM_back_0 : decode cM_back 0 = .ok (.aload_n 0, 1) := by decide +kernel
theorem dM_back_1 : decode cM_back 1 = .ok (.iload_n 1, 1) := by decide +kernel
theorem dM_back_2 : decode cM_back 2 = .ok (.invokevirtual 67, 3) := by decide +kernel
theorem dM_back_5 : decode cM_back 5 = .ok (.istore_n 2, 1) := by decide +kernel
theorem dM_back_6 : decode cM_back 6 = .ok (.iload_n 2, 1) := by decide +kernel
theorem dM_back_7 : decode cM_back 7 = .ok (.ifCond .ge 4, 3) := by decide +kernel
theorem dM_back_10 : decode cM_back 10 = .ok (.return_, 1) := by decide +kernel
theorem dM_back_11 : decode cM_back 11 = .ok (.iconst 0, 1) := by decide +kernel
theorem dM_back_12 : decode cM_back 12 = .ok (.istore_n 3, 1) := by decide +kernel
theorem dM_back_13 : decode cM_back 13 = .ok (.iload_n 3, 1) := by decide +kernel
theorem dM_back_14 : decode cM_back 14 = .ok (.sipush 360, 3) := by decide +kernel
theorem dM_back_17 : decode cM_back 17 = .ok (.if_icmp .ge 45, 3) := by decide +kernel
theorem dM_back_20 : decode cM_back 20 = .ok (.aload_n 0, 1) := by decide +kernel
theorem dM_back_21 : decode cM_back 21 = .ok (.getfield 9, 3) := by decide +kernel
theorem dM_back_24 : decode cM_back 24 = .ok (.iload_n 3, 1) := by decide +kernel
theorem dM_back_25 : decode cM_back 25 = .ok (.aload_n 0, 1) := by decide +kernel
end
section
theorem dM_back_26 : decode cM_back 26 = .ok (.getfield 13, 3) := by decide +kernel
theorem dM_back_29 : decode cM_back 29 = .ok (.sipush 360, 3) := by decide +kernel
theorem dM_back_32 : decode cM_back 32 = .ok (.iload_n 2, 1) := by decide +kernel
theorem dM_back_33 : decode cM_back 33 = .ok (.imul, 1) := by decide +kernel
theorem dM_back_34 : decode cM_back 34 = .ok (.iload_n 3, 1) := by decide +kernel
theorem dM_back_35 : decode cM_back 35 = .ok (.iadd, 1) := by decide +kernel
theorem dM_back_36 : decode cM_back 36 = .ok (.iaload, 1) := by decide +kernel
theorem dM_back_37 : decode cM_back 37 = .ok (.iastore, 1) := by decide +kernel
theorem dM_back_38 : decode cM_back 38 = .ok (.aload_n 0, 1) := by decide +kernel
theorem dM_back_39 : decode cM_back 39 = .ok (.getfield 16, 3) := by decide +kernel
theorem dM_back_42 : decode cM_back 42 = .ok (.iload_n 3, 1) := by decide +kernel
theorem dM_back_43 : decode cM_back 43 = .ok (.aload_n 0, 1) := by decide +kernel
theorem dM_back_44 : decode cM_back 44 = .ok (.getfield 20, 3) := by decide +kernel
theorem dM_back_47 : decode cM_back 47 = .ok (.sipush 360, 3) := by decide +kernel
theorem dM_back_50 : decode cM_back 50 = .ok (.iload_n 2, 1) := by decide +kernel
theorem dM_back_51 : decode cM_back 51 = .ok (.imul, 1) := by decide +kernel
theorem dM_back_52 : decode cM_back 52 = .ok (.iload_n 3, 1) := by decide +kernel
theorem dM_back_53 : decode cM_back 53 = .ok (.iadd, 1) := by decide +kernel
theorem dM_back_54 : decode cM_back 54 = .ok (.baload, 1) := by decide +kernel
theorem dM_back_55 : decode cM_back 55 = .ok (.bastore, 1) := by decide +kernel
theorem dM_back_56 : decode cM_back 56 = .ok (.iinc 3 1, 3) := by decide +kernel
theorem dM_back_59 : decode cM_back 59 = .ok (.goto (-46), 3) := by decide +kernel
theorem dM_back_62 : decode cM_back 62 = .ok (.aload_n 0, 1) := by decide +kernel
theorem dM_back_63 : decode cM_back 63 = .ok (.aload_n 0, 1) := by decide +kernel
theorem dM_back_64 : decode cM_back 64 = .ok (.getfield 26, 3) := by decide +kernel
theorem dM_back_67 : decode cM_back 67 = .ok (.iload_n 2, 1) := by decide +kernel
theorem dM_back_68 : decode cM_back 68 = .ok (.iaload, 1) := by decide +kernel
theorem dM_back_69 : decode cM_back 69 = .ok (.putfield 36, 3) := by decide +kernel
theorem dM_back_72 : decode cM_back 72 = .ok (.aload_n 0, 1) := by decide +kernel
theorem dM_back_73 : decode cM_back 73 = .ok (.aload_n 0, 1) := by decide +kernel
theorem dM_back_74 : decode cM_back 74 = .ok (.getfield 29, 3) := by decide +kernel
theorem dM_back_77 : decode cM_back 77 = .ok (.iload_n 2, 1) := by decide +kernel
theorem dM_back_78 : decode cM_back 78 = .ok (.iaload, 1) := by decide +kernel
theorem dM_back_79 : decode cM_back 79 = .ok (.putfield 42, 3) := by decide +kernel
theorem dM_back_82 : decode cM_back 82 = .ok (.aload_n 0, 1) := by decide +kernel
theorem dM_back_83 : decode cM_back 83 = .ok (.iload_n 2, 1) := by decide +kernel
theorem dM_back_84 : decode cM_back 84 = .ok (.iconst 1, 1) := by decide +kernel
theorem dM_back_85 : decode cM_back 85 = .ok (.iadd, 1) := by decide +kernel
theorem dM_back_86 : decode cM_back 86 = .ok (.putfield 39, 3) := by decide +kernel
theorem dM_back_89 : decode cM_back 89 = .ok (.return_, 1) := by decide +kernel
theorem dM_release_0 : decode cM_release 0 = .ok (.aload_n 0, 1) := by decide +kernel
theorem dM_release_1 : decode cM_release 1 = .ok (.iload_n 1, 1) := by decide +kernel
theorem dM_release_2 : decode cM_release 2 = .ok (.invokevirtual 67, 3) := by decide +kernel
theorem dM_release_5 : decode cM_release 5 = .ok (.istore_n 2, 1) := by decide +kernel
theorem dM_release_6 : decode cM_release 6 = .ok (.iload_n 2, 1) := by decide +kernel
theorem dM_release_7 : decode cM_release 7 = .ok (.ifCond .ge 4, 3) := by decide +kernel
theorem dM_release_10 : decode cM_release 10 = .ok (.return_, 1) := by decide +kernel
theorem dM_release_11 : decode cM_release 11 = .ok (.aload_n 0, 1) := by decide +kernel
theorem dM_release_12 : decode cM_release 12 = .ok (.iload_n 2, 1) := by decide +kernel
theorem dM_release_13 : decode cM_release 13 = .ok (.putfield 39, 3) := by decide +kernel
theorem dM_release_16 : decode cM_release 16 = .ok (.iload_n 2, 1) := by decide +kernel
theorem dM_release_17 : decode cM_release 17 = .ok (.ifCond .ne 8, 3) := by decide +kernel
theorem dM_release_20 : decode cM_release 20 = .ok (.aload_n 0, 1) := by decide +kernel
theorem dM_release_21 : decode cM_release 21 = .ok (.iconst 0, 1) := by decide +kernel
theorem dM_release_22 : decode cM_release 22 = .ok (.putfield 42, 3) := by decide +kernel
theorem dM_release_25 : decode cM_release 25 = .ok (.return_, 1) := by decide +kernel
theorem dM_nones_0 : decode cM_nones 0 = .ok (.iconst 0, 1) := by decide +kernel
theorem dM_nones_1 : decode cM_nones 1 = .ok (.istore_n 2, 1) := by decide +kernel
theorem dM_nones_2 : decode cM_nones 2 = .ok (.iconst 0, 1) := by decide +kernel
theorem dM_nones_3 : decode cM_nones 3 = .ok (.istore_n 3, 1) := by decide +kernel
theorem dM_nones_4 : decode cM_nones 4 = .ok (.iload_n 3, 1) := by decide +kernel
theorem dM_nones_5 : decode cM_nones 5 = .ok (.aload_n 0, 1) := by decide +kernel
theorem dM_nones_6 : decode cM_nones 6 = .ok (.getfield 36, 3) := by decide +kernel
theorem dM_nones_9 : decode cM_nones 9 = .ok (.if_icmp .ge 25, 3) := by decide +kernel
theorem dM_nones_12 : decode cM_nones 12 = .ok (.aload_n 0, 1) := by decide +kernel
theorem dM_nones_13 : decode cM_nones 13 = .ok (.getfield 16, 3) := by decide +kernel
theorem dM_nones_16 : decode cM_nones 16 = .ok (.iconst 3, 1) := by decide +kernel
theorem dM_nones_17 : decode cM_nones 17 = .ok (.iload_n 3, 1) := by decide +kernel
theorem dM_nones_18 : decode cM_nones 18 = .ok (.imul, 1) := by decide +kernel
theorem dM_nones_19 : decode cM_nones 19 = .ok (.iload_n 1, 1) := by decide +kernel
theorem dM_nones_20 : decode cM_nones 20 = .ok (.iadd, 1) := by decide +kernel
theorem dM_nones_21 : decode cM_nones 21 = .ok (.baload, 1) := by decide +kernel
theorem dM_nones_22 : decode cM_nones 22 = .ok (.ifCond .ne 6, 3) := by decide +kernel
theorem dM_nones_25 : decode cM_nones 25 = .ok (.iinc 2 1, 3) := by decide +kernel
theorem dM_nones_28 : decode cM_nones 28 = .ok (.iinc 3 1, 3) := by decide +kernel
theorem dM_nones_31 : decode cM_nones 31 = .ok (.goto (-27), 3) := by decide +kernel
theorem dM_nones_34 : decode cM_nones 34 = .ok (.iload_n 2, 1) := by decide +kernel
theorem dM_nones_35 : decode cM_nones 35 = .ok (.ireturn, 1) := by decide +kernel
theorem dM_count_0 : decode cM_count 0 = .ok (.aload_n 0, 1) := by decide +kernel
theorem dM_count_1 : decode cM_count 1 = .ok (.iconst 0, 1) := by decide +kernel
theorem dM_count_2 : decode cM_count 2 = .ok (.putfield 32, 3) := by decide +kernel
theorem dM_count_5 : decode cM_count 5 = .ok (.iload_n 1, 1) := by decide +kernel
theorem dM_count_6 : decode cM_count 6 = .ok (.tableswitch 61 0 4 #[34, 39, 44, 49, 55], 34) := by decide +kernel
theorem dM_count_40 : decode cM_count 40 = .ok (.aload_n 0, 1) := by decide +kernel
theorem dM_count_41 : decode cM_count 41 = .ok (.getfield 36, 3) := by decide +kernel
theorem dM_count_44 : decode cM_count 44 = .ok (.ireturn, 1) := by decide +kernel
theorem dM_count_45 : decode cM_count 45 = .ok (.aload_n 0, 1) := by decide +kernel
theorem dM_count_46 : decode cM_count 46 = .ok (.getfield 39, 3) := by decide +kernel
theorem dM_count_49 : decode cM_count 49 = .ok (.ireturn, 1) := by decide +kernel
theorem dM_count_50 : decode cM_count 50 = .ok (.aload_n 0, 1) := by decide +kernel
theorem dM_count_51 : decode cM_count 51 = .ok (.getfield 42, 3) := by decide +kernel
theorem dM_count_54 : decode cM_count 54 = .ok (.ireturn, 1) := by decide +kernel
theorem dM_count_55 : decode cM_count 55 = .ok (.aload_n 0, 1) := by decide +kernel
theorem dM_count_56 : decode cM_count 56 = .ok (.iconst 1, 1) := by decide +kernel
theorem dM_count_57 : decode cM_count 57 = .ok (.invokevirtual 70, 3) := by decide +kernel
theorem dM_count_60 : decode cM_count 60 = .ok (.ireturn, 1) := by decide +kernel
theorem dM_count_61 : decode cM_count 61 = .ok (.aload_n 0, 1) := by decide +kernel
theorem dM_count_62 : decode cM_count 62 = .ok (.iconst 2, 1) := by decide +kernel
theorem dM_count_63 : decode cM_count 63 = .ok (.invokevirtual 70, 3) := by decide +kernel
theorem dM_count_66 : decode cM_count 66 = .ok (.ireturn, 1) := by decide +kernel
theorem dM_count_67 : decode cM_count 67 = .ok (.iconst (-1), 1) := by decide +kernel
theorem dM_count_68 : decode cM_count 68 = .ok (.ireturn, 1) := by decide +kernel
end
section
theorem dL_insert_0 : decode cL_insert 0 = .ok (.aload 5, 2) := by decide +kernel
theorem dL_insert_2 : decode cL_insert 2 = .ok (.iconst 0, 1) := by decide +kernel
theorem dL_insert_3 : decode cL_insert 3 = .ok (.aload_n 0, 1) := by decide +kernel
theorem dL_insert_4 : decode cL_insert 4 = .ok (.iload_n 1, 1) := by decide +kernel
theorem dL_insert_5 : decode cL_insert 5 = .ok (.iload_n 2, 1) := by decide +kernel
theorem dL_insert_6 : decode cL_insert 6 = .ok (.iload_n 3, 1) := by decide +kernel
theorem dL_insert_7 : decode cL_insert 7 = .ok (.iload 4, 2) := by decide +kernel
theorem dL_insert_9 : decode cL_insert 9 = .ok (.invokevirtual 7, 3) := by decide +kernel
theorem dL_insert_12 : decode cL_insert 12 = .ok (.i2l, 1) := by decide +kernel
theorem dL_insert_13 : decode cL_insert 13 = .ok (.lastore, 1) := by decide +kernel
theorem dL_insert_14 : decode cL_insert 14 = .ok (.goto 11, 3) := by decide +kernel
theorem dL_insert_17 : decode cL_insert 17 = .ok (.astore 6, 2) := by decide +kernel
theorem dL_insert_19 : decode cL_insert 19 = .ok (.iconst 1, 1) := by decide +kernel
theorem dL_insert_20 : decode cL_insert 20 = .ok (.ireturn, 1) := by decide +kernel
theorem dL_insert_21 : decode cL_insert 21 = .ok (.astore 6, 2) := by decide +kernel
theorem dL_insert_23 : decode cL_insert 23 = .ok (.iconst 2, 1) := by decide +kernel
theorem dL_insert_24 : decode cL_insert 24 = .ok (.ireturn, 1) := by decide +kernel
theorem dL_insert_25 : decode cL_insert 25 = .ok (.iconst 0, 1) := by decide +kernel
theorem dL_insert_26 : decode cL_insert 26 = .ok (.ireturn, 1) := by decide +kernel
theorem dL_set_0 : decode cL_set 0 = .ok (.aload_n 0, 1) := by decide +kernel
theorem dL_set_1 : decode cL_set 1 = .ok (.iload_n 1, 1) := by decide +kernel
theorem dL_set_2 : decode cL_set 2 = .ok (.iload_n 2, 1) := by decide +kernel
theorem dL_set_3 : decode cL_set 3 = .ok (.iload_n 3, 1) := by decide +kernel
theorem dL_set_4 : decode cL_set 4 = .ok (.iload 4, 2) := by decide +kernel
theorem dL_set_6 : decode cL_set 6 = .ok (.invokevirtual 17, 3) := by decide +kernel
theorem dL_set_9 : decode cL_set 9 = .ok (.goto 15, 3) := by decide +kernel
theorem dL_set_12 : decode cL_set 12 = .ok (.astore 5, 2) := by decide +kernel
theorem dL_set_14 : decode cL_set 14 = .ok (.iconst 1, 1) := by decide +kernel
theorem dL_set_15 : decode cL_set 15 = .ok (.ireturn, 1) := by decide +kernel
theorem dL_set_16 : decode cL_set 16 = .ok (.astore 5, 2) := by decide +kernel
theorem dL_set_18 : decode cL_set 18 = .ok (.iconst 2, 1) := by decide +kernel
theorem dL_set_19 : decode cL_set 19 = .ok (.ireturn, 1) := by decide +kernel
theorem dL_set_20 : decode cL_set 20 = .ok (.astore 5, 2) := by decide +kernel
theorem dL_set_22 : decode cL_set 22 = .ok (.iconst 3, 1) := by decide +kernel
theorem dL_set_23 : decode cL_set 23 = .ok (.ireturn, 1) := by decide +kernel
theorem dL_set_24 : decode cL_set 24 = .ok (.iconst 0, 1) := by decide +kernel
theorem dL_set_25 : decode cL_set 25 = .ok (.ireturn, 1) := by decide +kernel
theorem dL_remove_0 : decode cL_remove 0 = .ok (.aload_n 0, 1) := by decide +kernel
theorem dL_remove_1 : decode cL_remove 1 = .ok (.iload_n 1, 1) := by decide +kernel
theorem dL_remove_2 : decode cL_remove 2 = .ok (.invokevirtual 23, 3) := by decide +kernel
theorem dL_remove_5 : decode cL_remove 5 = .ok (.goto 9, 3) := by decide +kernel
theorem dL_remove_8 : decode cL_remove 8 = .ok (.astore_n 2, 1) := by decide +kernel
theorem dL_remove_9 : decode cL_remove 9 = .ok (.iconst 1, 1) := by decide +kernel
theorem dL_remove_10 : decode cL_remove 10 = .ok (.ireturn, 1) := by decide +kernel
theorem dL_remove_11 : decode cL_remove 11 = .ok (.astore_n 2, 1) := by decide +kernel
theorem dL_remove_12 : decode cL_remove 12 = .ok (.iconst 2, 1) := by decide +kernel
theorem dL_remove_13 : decode cL_remove 13 = .ok (.ireturn, 1) := by decide +kernel
theorem dL_remove_14 : decode cL_remove 14 = .ok (.iconst 0, 1) := by decide +kernel
theorem dL_remove_15 : decode cL_remove 15 = .ok (.ireturn, 1) := by decide +kernel
theorem dL_removeAll_0 : decode cL_removeAll 0 = .ok (.aload_n 3, 1) := by decide +kernel
theorem dL_removeAll_1 : decode cL_removeAll 1 = .ok (.iconst 0, 1) := by decide +kernel
theorem dL_removeAll_2 : decode cL_removeAll 2 = .ok (.aload_n 0, 1) := by decide +kernel
theorem dL_removeAll_3 : decode cL_removeAll 3 = .ok (.iload_n 1, 1) := by decide +kernel
theorem dL_removeAll_4 : decode cL_removeAll 4 = .ok (.iload_n 2, 1) := by decide +kernel
theorem dL_removeAll_5 : decode cL_removeAll 5 = .ok (.invokevirtual 27, 3) := by decide +kernel
theorem dL_removeAll_8 : decode cL_removeAll 8 = .ok (.i2l, 1) := by decide +kernel
theorem dL_removeAll_9 : decode cL_removeAll 9 = .ok (.lastore, 1) := by decide +kernel
theorem dL_removeAll_10 : decode cL_removeAll 10 = .ok (.goto 11, 3) := by decide +kernel
theorem dL_removeAll_13 : decode cL_removeAll 13 = .ok (.astore 4, 2) := by decide +kernel
theorem dL_removeAll_15 : decode cL_removeAll 15 = .ok (.iconst 1, 1) := by decide +kernel
theorem dL_removeAll_16 : decode cL_removeAll 16 = .ok (.ireturn, 1) := by decide +kernel
theorem dL_removeAll_17 : decode cL_removeAll 17 = .ok (.astore 4, 2) := by decide +kernel
theorem dL_removeAll_19 : decode cL_removeAll 19 = .ok (.iconst 2, 1) := by decide +kernel
theorem dL_removeAll_20 : decode cL_removeAll 20 = .ok (.ireturn, 1) := by decide +kernel
theorem dL_removeAll_21 : decode cL_removeAll 21 = .ok (.iconst 0, 1) := by decide +kernel
theorem dL_removeAll_22 : decode cL_removeAll 22 = .ok (.ireturn, 1) := by decide +kernel
theorem dL_find_0 : decode cL_find 0 = .ok (.aload_n 3, 1) := by decide +kernel
theorem dL_find_1 : decode cL_find 1 = .ok (.iconst 0, 1) := by decide +kernel
theorem dL_find_2 : decode cL_find 2 = .ok (.aload_n 0, 1) := by decide +kernel
theorem dL_find_3 : decode cL_find 3 = .ok (.iload_n 1, 1) := by decide +kernel
theorem dL_find_4 : decode cL_find 4 = .ok (.iload_n 2, 1) := by decide +kernel
theorem dL_find_5 : decode cL_find 5 = .ok (.invokevirtual 31, 3) := by decide +kernel
theorem dL_find_8 : decode cL_find 8 = .ok (.i2l, 1) := by decide +kernel
theorem dL_find_9 : decode cL_find 9 = .ok (.lastore, 1) := by decide +kernel
theorem dL_find_10 : decode cL_find 10 = .ok (.goto 7, 3) := by decide +kernel
theorem dL_find_13 : decode cL_find 13 = .ok (.astore 4, 2) := by decide +kernel
theorem dL_find_15 : decode cL_find 15 = .ok (.iconst 1, 1) := by decide +kernel
theorem dL_find_16 : decode cL_find 16 = .ok (.ireturn, 1) := by decide +kernel
theorem dL_find_17 : decode cL_find 17 = .ok (.iconst 0, 1) := by decide +kernel
theorem dL_find_18 : decode cL_find 18 = .ok (.ireturn, 1) := by decide +kernel
theorem dL_value_0 : decode cL_value 0 = .ok (.aload_n 3, 1) := by decide +kernel
theorem dL_value_1 : decode cL_value 1 = .ok (.iconst 0, 1) := by decide +kernel
theorem dL_value_2 : decode cL_value 2 = .ok (.aload_n 0, 1) := by decide +kernel
theorem dL_value_3 : decode cL_value 3 = .ok (.iload_n 1, 1) := by decide +kernel
theorem dL_value_4 : decode cL_value 4 = .ok (.iload_n 2, 1) := by decide +kernel
theorem dL_value_5 : decode cL_value 5 = .ok (.invokevirtual 34, 3) := by decide +kernel
theorem dL_value_8 : decode cL_value 8 = .ok (.i2l, 1) := by decide +kernel
theorem dL_value_9 : decode cL_value 9 = .ok (.lastore, 1) := by decide +kernel
theorem dL_value_10 : decode cL_value 10 = .ok (.goto 11, 3) := by decide +kernel
theorem dL_value_13 : decode cL_value 13 = .ok (.astore 4, 2) := by decide +kernel
theorem dL_value_15 : decode cL_value 15 = .ok (.iconst 1, 1) := by decide +kernel
theorem dL_value_16 : decode cL_value 16 = .ok (.ireturn, 1) := by decide +kernel
theorem dL_value_17 : decode cL_value 17 = .ok (.astore 4, 2) := by decide +kernel
theorem dL_value_19 : decode cL_value 19 = .ok (.iconst 2, 1) := by decide +kernel
theorem dL_value_20 : decode cL_value 20 = .ok (.ireturn, 1) := by decide +kernel
theorem dL_value_21 : decode cL_value 21 = .ok (.iconst 0, 1) := by decide +kernel
theorem dL_value_22 : decode cL_value 22 = .ok (.ireturn, 1) := by decide +kernel
theorem dL_mark_0 : decode cL_mark 0 = .ok (.aload_n 0, 1) := by decide +kernel
theorem dL_mark_1 : decode cL_mark 1 = .ok (.iload_n 1, 1) := by decide +kernel
theorem dL_mark_2 : decode cL_mark 2 = .ok (.invokevirtual 37, 3) := by decide +kernel
theorem dL_mark_5 : decode cL_mark 5 = .ok (.goto 6, 3) := by decide +kernel
theorem dL_mark_8 : decode cL_mark 8 = .ok (.astore_n 2, 1) := by decide +kernel
theorem dL_mark_9 : decode cL_mark 9 = .ok (.iconst 1, 1) := by decide +kernel
theorem dL_mark_10 : decode cL_mark 10 = .ok (.ireturn, 1) := by decide +kernel
theorem dL_mark_11 : decode cL_mark 11 = .ok (.iconst 0, 1) := by decide +kernel
theorem dL_mark_12 : decode cL_mark 12 = .ok (.ireturn, 1) := by decide +kernel
theorem dL_back_0 : decode cL_back 0 = .ok (.aload_n 0, 1) := by decide +kernel
theorem dL_back_1 : decode cL_back 1 = .ok (.iload_n 1, 1) := by decide +kernel
theorem dL_back_2 : decode cL_back 2 = .ok (.invokevirtual 40, 3) := by decide +kernel
theorem dL_back_5 : decode cL_back 5 = .ok (.goto 6, 3) := by decide +kernel
theorem dL_back_8 : decode cL_back 8 = .ok (.astore_n 2, 1) := by decide +kernel
theorem dL_back_9 : decode cL_back 9 = .ok (.iconst 1, 1) := by decide +kernel
theorem dL_back_10 : decode cL_back 10 = .ok (.ireturn, 1) := by decide +kernel
theorem dL_back_11 : decode cL_back 11 = .ok (.iconst 0, 1) := by decide +kernel
theorem dL_back_12 : decode cL_back 12 = .ok (.ireturn, 1) := by decide +kernel
theorem dL_release_0 : decode cL_release 0 = .ok (.aload_n 0, 1) := by decide +kernel
theorem dL_release_1 : decode cL_release 1 = .ok (.iload_n 1, 1) := by decide +kernel
theorem dL_release_2 : decode cL_release 2 = .ok (.invokevirtual 43, 3) := by decide +kernel
theorem dL_release_5 : decode cL_release 5 = .ok (.goto 6, 3) := by decide +kernel
theorem dL_release_8 : decode cL_release 8 = .ok (.astore_n 2, 1) := by decide +kernel
end
section
theorem dL_release_9 : decode cL_release 9 = .ok (.iconst 1, 1) := by decide +kernel
theorem dL_release_10 : decode cL_release 10 = .ok (.ireturn, 1) := by decide +kernel
theorem dL_release_11 : decode cL_release 11 = .ok (.iconst 0, 1) := by decide +kernel
theorem dL_release_12 : decode cL_release 12 = .ok (.ireturn, 1) := by decide +kernel
theorem dL_law_0 : decode cL_law 0 = .ok (.new 8, 3) := by decide +kernel
theorem dL_law_3 : decode cL_law 3 = .ok (.dup, 1) := by decide +kernel
theorem dL_law_4 : decode cL_law 4 = .ok (.invokespecial 46, 3) := by decide +kernel
theorem dL_law_7 : decode cL_law 7 = .ok (.astore_n 1, 1) := by decide +kernel
theorem dL_law_8 : decode cL_law 8 = .ok (.new 47, 3) := by decide +kernel
theorem dL_law_11 : decode cL_law 11 = .ok (.dup, 1) := by decide +kernel
theorem dL_law_12 : decode cL_law 12 = .ok (.invokespecial 49, 3) := by decide +kernel
theorem dL_law_15 : decode cL_law 15 = .ok (.astore_n 2, 1) := by decide +kernel
theorem dL_law_16 : decode cL_law 16 = .ok (.iconst 1, 1) := by decide +kernel
theorem dL_law_17 : decode cL_law 17 = .ok (.newarray .long, 2) := by decide +kernel
theorem dL_law_19 : decode cL_law 19 = .ok (.astore_n 3, 1) := by decide +kernel
theorem dL_law_20 : decode cL_law 20 = .ok (.iconst 0, 1) := by decide +kernel
theorem dL_law_21 : decode cL_law 21 = .ok (.istore 4, 2) := by decide +kernel
theorem dL_law_23 : decode cL_law 23 = .ok (.iload 4, 2) := by decide +kernel
theorem dL_law_25 : decode cL_law 25 = .ok (.aload_n 0, 1) := by decide +kernel
theorem dL_law_26 : decode cL_law 26 = .ok (.arraylength, 1) := by decide +kernel
theorem dL_law_27 : decode cL_law 27 = .ok (.iconst 5, 1) := by decide +kernel
theorem dL_law_28 : decode cL_law 28 = .ok (.isub, 1) := by decide +kernel
theorem dL_law_29 : decode cL_law 29 = .ok (.if_icmp .gt 622, 3) := by decide +kernel
theorem dL_law_32 : decode cL_law 32 = .ok (.aload_n 0, 1) := by decide +kernel
theorem dL_law_33 : decode cL_law 33 = .ok (.iload 4, 2) := by decide +kernel
theorem dL_law_35 : decode cL_law 35 = .ok (.iaload, 1) := by decide +kernel
theorem dL_law_36 : decode cL_law 36 = .ok (.bipush 15, 2) := by decide +kernel
theorem dL_law_38 : decode cL_law 38 = .ok (.iand, 1) := by decide +kernel
theorem dL_law_39 : decode cL_law 39 = .ok (.tableswitch 606 0 9 #[53, 145, 233, 269, 337, 405, 473, 509, 545, 581], 53) := by decide +kernel
theorem dL_law_92 : decode cL_law 92 = .ok (.aload_n 1, 1) := by decide +kernel
theorem dL_law_93 : decode cL_law 93 = .ok (.aload_n 0, 1) := by decide +kernel
theorem dL_law_94 : decode cL_law 94 = .ok (.iload 4, 2) := by decide +kernel
theorem dL_law_96 : decode cL_law 96 = .ok (.iconst 1, 1) := by decide +kernel
theorem dL_law_97 : decode cL_law 97 = .ok (.iadd, 1) := by decide +kernel
theorem dL_law_98 : decode cL_law 98 = .ok (.iaload, 1) := by decide +kernel
theorem dL_law_99 : decode cL_law 99 = .ok (.aload_n 0, 1) := by decide +kernel
theorem dL_law_100 : decode cL_law 100 = .ok (.iload 4, 2) := by decide +kernel
theorem dL_law_102 : decode cL_law 102 = .ok (.iconst 2, 1) := by decide +kernel
theorem dL_law_103 : decode cL_law 103 = .ok (.iadd, 1) := by decide +kernel
theorem dL_law_104 : decode cL_law 104 = .ok (.iaload, 1) := by decide +kernel
theorem dL_law_105 : decode cL_law 105 = .ok (.aload_n 0, 1) := by decide +kernel
theorem dL_law_106 : decode cL_law 106 = .ok (.iload 4, 2) := by decide +kernel
theorem dL_law_108 : decode cL_law 108 = .ok (.iconst 3, 1) := by decide +kernel
theorem dL_law_109 : decode cL_law 109 = .ok (.iadd, 1) := by decide +kernel
theorem dL_law_110 : decode cL_law 110 = .ok (.iaload, 1) := by decide +kernel
theorem dL_law_111 : decode cL_law 111 = .ok (.aload_n 0, 1) := by decide +kernel
theorem dL_law_112 : decode cL_law 112 = .ok (.iload 4, 2) := by decide +kernel
theorem dL_law_114 : decode cL_law 114 = .ok (.iconst 4, 1) := by decide +kernel
theorem dL_law_115 : decode cL_law 115 = .ok (.iadd, 1) := by decide +kernel
theorem dL_law_116 : decode cL_law 116 = .ok (.iaload, 1) := by decide +kernel
theorem dL_law_117 : decode cL_law 117 = .ok (.aload_n 3, 1) := by decide +kernel
theorem dL_law_118 : decode cL_law 118 = .ok (.invokestatic 50, 3) := by decide +kernel
theorem dL_law_121 : decode cL_law 121 = .ok (.istore 5, 2) := by decide +kernel
theorem dL_law_123 : decode cL_law 123 = .ok (.aload_n 2, 1) := by decide +kernel
theorem dL_law_124 : decode cL_law 124 = .ok (.aload_n 0, 1) := by decide +kernel
theorem dL_law_125 : decode cL_law 125 = .ok (.iload 4, 2) := by decide +kernel
theorem dL_law_127 : decode cL_law 127 = .ok (.iconst 1, 1) := by decide +kernel
theorem dL_law_128 : decode cL_law 128 = .ok (.iadd, 1) := by decide +kernel
theorem dL_law_129 : decode cL_law 129 = .ok (.iaload, 1) := by decide +kernel
theorem dL_law_130 : decode cL_law 130 = .ok (.aload_n 0, 1) := by decide +kernel
theorem dL_law_131 : decode cL_law 131 = .ok (.iload 4, 2) := by decide +kernel
theorem dL_law_133 : decode cL_law 133 = .ok (.iconst 2, 1) := by decide +kernel
theorem dL_law_134 : decode cL_law 134 = .ok (.iadd, 1) := by decide +kernel
theorem dL_law_135 : decode cL_law 135 = .ok (.iaload, 1) := by decide +kernel
theorem dL_law_136 : decode cL_law 136 = .ok (.aload_n 0, 1) := by decide +kernel
theorem dL_law_137 : decode cL_law 137 = .ok (.iload 4, 2) := by decide +kernel
theorem dL_law_139 : decode cL_law 139 = .ok (.iconst 3, 1) := by decide +kernel
theorem dL_law_140 : decode cL_law 140 = .ok (.iadd, 1) := by decide +kernel
theorem dL_law_141 : decode cL_law 141 = .ok (.iaload, 1) := by decide +kernel
theorem dL_law_142 : decode cL_law 142 = .ok (.aload_n 0, 1) := by decide +kernel
theorem dL_law_143 : decode cL_law 143 = .ok (.iload 4, 2) := by decide +kernel
theorem dL_law_145 : decode cL_law 145 = .ok (.iconst 4, 1) := by decide +kernel
theorem dL_law_146 : decode cL_law 146 = .ok (.iadd, 1) := by decide +kernel
theorem dL_law_147 : decode cL_law 147 = .ok (.iaload, 1) := by decide +kernel
theorem dL_law_148 : decode cL_law 148 = .ok (.invokevirtual 55, 3) := by decide +kernel
theorem dL_law_151 : decode cL_law 151 = .ok (.istore 6, 2) := by decide +kernel
theorem dL_law_153 : decode cL_law 153 = .ok (.aload_n 2, 1) := by decide +kernel
theorem dL_law_154 : decode cL_law 154 = .ok (.invokevirtual 56, 3) := by decide +kernel
theorem dL_law_157 : decode cL_law 157 = .ok (.iload 5, 2) := by decide +kernel
theorem dL_law_159 : decode cL_law 159 = .ok (.if_icmp .eq 5, 3) := by decide +kernel
theorem dL_law_162 : decode cL_law 162 = .ok (.iconst 0, 1) := by decide +kernel
theorem dL_law_163 : decode cL_law 163 = .ok (.ireturn, 1) := by decide +kernel
theorem dL_law_164 : decode cL_law 164 = .ok (.iload 5, 2) := by decide +kernel
theorem dL_law_166 : decode cL_law 166 = .ok (.ifCond .ne 15, 3) := by decide +kernel
theorem dL_law_169 : decode cL_law 169 = .ok (.aload_n 3, 1) := by decide +kernel
theorem dL_law_170 : decode cL_law 170 = .ok (.iconst 0, 1) := by decide +kernel
theorem dL_law_171 : decode cL_law 171 = .ok (.laload, 1) := by decide +kernel
theorem dL_law_172 : decode cL_law 172 = .ok (.iload 6, 2) := by decide +kernel
theorem dL_law_174 : decode cL_law 174 = .ok (.i2l, 1) := by decide +kernel
theorem dL_law_175 : decode cL_law 175 = .ok (.lcmp, 1) := by decide +kernel
theorem dL_law_176 : decode cL_law 176 = .ok (.ifCond .eq 5, 3) := by decide +kernel
theorem dL_law_179 : decode cL_law 179 = .ok (.iconst 0, 1) := by decide +kernel
theorem dL_law_180 : decode cL_law 180 = .ok (.ireturn, 1) := by decide +kernel
theorem dL_law_181 : decode cL_law 181 = .ok (.goto 464, 3) := by decide +kernel
theorem dL_law_184 : decode cL_law 184 = .ok (.aload_n 1, 1) := by decide +kernel
theorem dL_law_185 : decode cL_law 185 = .ok (.aload_n 0, 1) := by decide +kernel
theorem dL_law_186 : decode cL_law 186 = .ok (.iload 4, 2) := by decide +kernel
theorem dL_law_188 : decode cL_law 188 = .ok (.iconst 1, 1) := by decide +kernel
theorem dL_law_189 : decode cL_law 189 = .ok (.iadd, 1) := by decide +kernel
theorem dL_law_190 : decode cL_law 190 = .ok (.iaload, 1) := by decide +kernel
theorem dL_law_191 : decode cL_law 191 = .ok (.aload_n 0, 1) := by decide +kernel
theorem dL_law_192 : decode cL_law 192 = .ok (.iload 4, 2) := by decide +kernel
theorem dL_law_194 : decode cL_law 194 = .ok (.iconst 2, 1) := by decide +kernel
theorem dL_law_195 : decode cL_law 195 = .ok (.iadd, 1) := by decide +kernel
theorem dL_law_196 : decode cL_law 196 = .ok (.iaload, 1) := by decide +kernel
theorem dL_law_197 : decode cL_law 197 = .ok (.aload_n 0, 1) := by decide +kernel
theorem dL_law_198 : decode cL_law 198 = .ok (.iload 4, 2) := by decide +kernel
theorem dL_law_200 : decode cL_law 200 = .ok (.iconst 3, 1) := by decide +kernel
theorem dL_law_201 : decode cL_law 201 = .ok (.iadd, 1) := by decide +kernel
theorem dL_law_202 : decode cL_law 202 = .ok (.iaload, 1) := by decide +kernel
theorem dL_law_203 : decode cL_law 203 = .ok (.aload_n 0, 1) := by decide +kernel
theorem dL_law_204 : decode cL_law 204 = .ok (.iload 4, 2) := by decide +kernel
theorem dL_law_206 : decode cL_law 206 = .ok (.iconst 4, 1) := by decide +kernel
theorem dL_law_207 : decode cL_law 207 = .ok (.iadd, 1) := by decide +kernel
theorem dL_law_208 : decode cL_law 208 = .ok (.iaload, 1) := by decide +kernel
theorem dL_law_209 : decode cL_law 209 = .ok (.ifCond .eq 7, 3) := by decide +kernel
theorem dL_law_212 : decode cL_law 212 = .ok (.iconst 1, 1) := by decide +kernel
theorem dL_law_213 : decode cL_law 213 = .ok (.goto 4, 3) := by decide +kernel
theorem dL_law_216 : decode cL_law 216 = .ok (.iconst 0, 1) := by decide +kernel
theorem dL_law_217 : decode cL_law 217 = .ok (.invokestatic 60, 3) := by decide +kernel
end
section
theorem dL_law_220 : decode cL_law 220 = .ok (.istore 5, 2) := by decide +kernel
theorem dL_law_222 : decode cL_law 222 = .ok (.aload_n 2, 1) := by decide +kernel
theorem dL_law_223 : decode cL_law 223 = .ok (.aload_n 0, 1) := by decide +kernel
theorem dL_law_224 : decode cL_law 224 = .ok (.iload 4, 2) := by decide +kernel
theorem dL_law_226 : decode cL_law 226 = .ok (.iconst 1, 1) := by decide +kernel
theorem dL_law_227 : decode cL_law 227 = .ok (.iadd, 1) := by decide +kernel
theorem dL_law_228 : decode cL_law 228 = .ok (.iaload, 1) := by decide +kernel
theorem dL_law_229 : decode cL_law 229 = .ok (.aload_n 0, 1) := by decide +kernel
theorem dL_law_230 : decode cL_law 230 = .ok (.iload 4, 2) := by decide +kernel
theorem dL_law_232 : decode cL_law 232 = .ok (.iconst 2, 1) := by decide +kernel
theorem dL_law_233 : decode cL_law 233 = .ok (.iadd, 1) := by decide +kernel
theorem dL_law_234 : decode cL_law 234 = .ok (.iaload, 1) := by decide +kernel
theorem dL_law_235 : decode cL_law 235 = .ok (.aload_n 0, 1) := by decide +kernel
theorem dL_law_236 : decode cL_law 236 = .ok (.iload 4, 2) := by decide +kernel
theorem dL_law_238 : decode cL_law 238 = .ok (.iconst 3, 1) := by decide +kernel
theorem dL_law_239 : decode cL_law 239 = .ok (.iadd, 1) := by decide +kernel
theorem dL_law_240 : decode cL_law 240 = .ok (.iaload, 1) := by decide +kernel
theorem dL_law_241 : decode cL_law 241 = .ok (.aload_n 0, 1) := by decide +kernel
theorem dL_law_242 : decode cL_law 242 = .ok (.iload 4, 2) := by decide +kernel
theorem dL_law_244 : decode cL_law 244 = .ok (.iconst 4, 1) := by decide +kernel
theorem dL_law_245 : decode cL_law 245 = .ok (.iadd, 1) := by decide +kernel
theorem dL_law_246 : decode cL_law 246 = .ok (.iaload, 1) := by decide +kernel
theorem dL_law_247 : decode cL_law 247 = .ok (.ifCond .eq 7, 3) := by decide +kernel
theorem dL_law_250 : decode cL_law 250 = .ok (.iconst 1, 1) := by decide +kernel
theorem dL_law_251 : decode cL_law 251 = .ok (.goto 4, 3) := by decide +kernel
theorem dL_law_254 : decode cL_law 254 = .ok (.iconst 0, 1) := by decide +kernel
theorem dL_law_255 : decode cL_law 255 = .ok (.invokevirtual 63, 3) := by decide +kernel
theorem dL_law_258 : decode cL_law 258 = .ok (.aload_n 2, 1) := by decide +kernel
theorem dL_law_259 : decode cL_law 259 = .ok (.invokevirtual 56, 3) := by decide +kernel
theorem dL_law_262 : decode cL_law 262 = .ok (.iload 5, 2) := by decide +kernel
theorem dL_law_264 : decode cL_law 264 = .ok (.if_icmp .eq 5, 3) := by decide +kernel
theorem dL_law_267 : decode cL_law 267 = .ok (.iconst 0, 1) := by decide +kernel
theorem dL_law_268 : decode cL_law 268 = .ok (.ireturn, 1) := by decide +kernel
theorem dL_law_269 : decode cL_law 269 = .ok (.goto 376, 3) := by decide +kernel
theorem dL_law_272 : decode cL_law 272 = .ok (.aload_n 1, 1) := by decide +kernel
theorem dL_law_273 : decode cL_law 273 = .ok (.aload_n 0, 1) := by decide +kernel
theorem dL_law_274 : decode cL_law 274 = .ok (.iload 4, 2) := by decide +kernel
theorem dL_law_276 : decode cL_law 276 = .ok (.iconst 1, 1) := by decide +kernel
theorem dL_law_277 : decode cL_law 277 = .ok (.iadd, 1) := by decide +kernel
theorem dL_law_278 : decode cL_law 278 = .ok (.iaload, 1) := by decide +kernel
theorem dL_law_279 : decode cL_law 279 = .ok (.invokestatic 64, 3) := by decide +kernel
theorem dL_law_282 : decode cL_law 282 = .ok (.istore 5, 2) := by decide +kernel
theorem dL_law_284 : decode cL_law 284 = .ok (.aload_n 2, 1) := by decide +kernel
theorem dL_law_285 : decode cL_law 285 = .ok (.aload_n 0, 1) := by decide +kernel
theorem dL_law_286 : decode cL_law 286 = .ok (.iload 4, 2) := by decide +kernel
theorem dL_law_288 : decode cL_law 288 = .ok (.iconst 1, 1) := by decide +kernel
theorem dL_law_289 : decode cL_law 289 = .ok (.iadd, 1) := by decide +kernel
theorem dL_law_290 : decode cL_law 290 = .ok (.iaload, 1) := by decide +kernel
theorem dL_law_291 : decode cL_law 291 = .ok (.invokevirtual 67, 3) := by decide +kernel
theorem dL_law_294 : decode cL_law 294 = .ok (.aload_n 2, 1) := by decide +kernel
theorem dL_law_295 : decode cL_law 295 = .ok (.invokevirtual 56, 3) := by decide +kernel
theorem dL_law_298 : decode cL_law 298 = .ok (.iload 5, 2) := by decide +kernel
theorem dL_law_300 : decode cL_law 300 = .ok (.if_icmp .eq 5, 3) := by decide +kernel
theorem dL_law_303 : decode cL_law 303 = .ok (.iconst 0, 1) := by decide +kernel
theorem dL_law_304 : decode cL_law 304 = .ok (.ireturn, 1) := by decide +kernel
theorem dL_law_305 : decode cL_law 305 = .ok (.goto 340, 3) := by decide +kernel
theorem dL_law_308 : decode cL_law 308 = .ok (.aload_n 1, 1) := by decide +kernel
theorem dL_law_309 : decode cL_law 309 = .ok (.aload_n 0, 1) := by decide +kernel
theorem dL_law_310 : decode cL_law 310 = .ok (.iload 4, 2) := by decide +kernel
theorem dL_law_312 : decode cL_law 312 = .ok (.iconst 1, 1) := by decide +kernel
theorem dL_law_313 : decode cL_law 313 = .ok (.iadd, 1) := by decide +kernel
theorem dL_law_314 : decode cL_law 314 = .ok (.iaload, 1) := by decide +kernel
theorem dL_law_315 : decode cL_law 315 = .ok (.aload_n 0, 1) := by decide +kernel
theorem dL_law_316 : decode cL_law 316 = .ok (.iload 4, 2) := by decide +kernel
theorem dL_law_318 : decode cL_law 318 = .ok (.iconst 2, 1) := by decide +kernel
theorem dL_law_319 : decode cL_law 319 = .ok (.iadd, 1) := by decide +kernel
theorem dL_law_320 : decode cL_law 320 = .ok (.iaload, 1) := by decide +kernel
theorem dL_law_321 : decode cL_law 321 = .ok (.aload_n 3, 1) := by decide +kernel
theorem dL_law_322 : decode cL_law 322 = .ok (.invokestatic 68, 3) := by decide +kernel
theorem dL_law_325 : decode cL_law 325 = .ok (.istore 5, 2) := by decide +kernel
theorem dL_law_327 : decode cL_law 327 = .ok (.aload_n 2, 1) := by decide +kernel
theorem dL_law_328 : decode cL_law 328 = .ok (.aload_n 0, 1) := by decide +kernel
theorem dL_law_329 : decode cL_law 329 = .ok (.iload 4, 2) := by decide +kernel
theorem dL_law_331 : decode cL_law 331 = .ok (.iconst 1, 1) := by decide +kernel
theorem dL_law_332 : decode cL_law 332 = .ok (.iadd, 1) := by decide +kernel
theorem dL_law_333 : decode cL_law 333 = .ok (.iaload, 1) := by decide +kernel
theorem dL_law_334 : decode cL_law 334 = .ok (.aload_n 0, 1) := by decide +kernel
theorem dL_law_335 : decode cL_law 335 = .ok (.iload 4, 2) := by decide +kernel
theorem dL_law_337 : decode cL_law 337 = .ok (.iconst 2, 1) := by decide +kernel
theorem dL_law_338 : decode cL_law 338 = .ok (.iadd, 1) := by decide +kernel
theorem dL_law_339 : decode cL_law 339 = .ok (.iaload, 1) := by decide +kernel
theorem dL_law_340 : decode cL_law 340 = .ok (.invokevirtual 71, 3) := by decide +kernel
theorem dL_law_343 : decode cL_law 343 = .ok (.istore 6, 2) := by decide +kernel
theorem dL_law_345 : decode cL_law 345 = .ok (.aload_n 2, 1) := by decide +kernel
theorem dL_law_346 : decode cL_law 346 = .ok (.invokevirtual 56, 3) := by decide +kernel
theorem dL_law_349 : decode cL_law 349 = .ok (.iload 5, 2) := by decide +kernel
theorem dL_law_351 : decode cL_law 351 = .ok (.if_icmp .eq 5, 3) := by decide +kernel
theorem dL_law_354 : decode cL_law 354 = .ok (.iconst 0, 1) := by decide +kernel
theorem dL_law_355 : decode cL_law 355 = .ok (.ireturn, 1) := by decide +kernel
theorem dL_law_356 : decode cL_law 356 = .ok (.iload 5, 2) := by decide +kernel
theorem dL_law_358 : decode cL_law 358 = .ok (.ifCond .ne 15, 3) := by decide +kernel
theorem dL_law_361 : decode cL_law 361 = .ok (.aload_n 3, 1) := by decide +kernel
theorem dL_law_362 : decode cL_law 362 = .ok (.iconst 0, 1) := by decide +kernel
theorem dL_law_363 : decode cL_law 363 = .ok (.laload, 1) := by decide +kernel
theorem dL_law_364 : decode cL_law 364 = .ok (.iload 6, 2) := by decide +kernel
theorem dL_law_366 : decode cL_law 366 = .ok (.i2l, 1) := by decide +kernel
theorem dL_law_367 : decode cL_law 367 = .ok (.lcmp, 1) := by decide +kernel
theorem dL_law_368 : decode cL_law 368 = .ok (.ifCond .eq 5, 3) := by decide +kernel
theorem dL_law_371 : decode cL_law 371 = .ok (.iconst 0, 1) := by decide +kernel
theorem dL_law_372 : decode cL_law 372 = .ok (.ireturn, 1) := by decide +kernel
theorem dL_law_373 : decode cL_law 373 = .ok (.goto 272, 3) := by decide +kernel
theorem dL_law_376 : decode cL_law 376 = .ok (.aload_n 1, 1) := by decide +kernel
theorem dL_law_377 : decode cL_law 377 = .ok (.aload_n 0, 1) := by decide +kernel
theorem dL_law_378 : decode cL_law 378 = .ok (.iload 4, 2) := by decide +kernel
theorem dL_law_380 : decode cL_law 380 = .ok (.iconst 1, 1) := by decide +kernel
theorem dL_law_381 : decode cL_law 381 = .ok (.iadd, 1) := by decide +kernel
theorem dL_law_382 : decode cL_law 382 = .ok (.iaload, 1) := by decide +kernel
theorem dL_law_383 : decode cL_law 383 = .ok (.aload_n 0, 1) := by decide +kernel
theorem dL_law_384 : decode cL_law 384 = .ok (.iload 4, 2) := by decide +kernel
theorem dL_law_386 : decode cL_law 386 = .ok (.iconst 2, 1) := by decide +kernel
theorem dL_law_387 : decode cL_law 387 = .ok (.iadd, 1) := by decide +kernel
theorem dL_law_388 : decode cL_law 388 = .ok (.iaload, 1) := by decide +kernel
theorem dL_law_389 : decode cL_law 389 = .ok (.aload_n 3, 1) := by decide +kernel
theorem dL_law_390 : decode cL_law 390 = .ok (.invokestatic 72, 3) := by decide +kernel
theorem dL_law_393 : decode cL_law 393 = .ok (.istore 5, 2) := by decide +kernel
theorem dL_law_395 : decode cL_law 395 = .ok (.aload_n 2, 1) := by decide +kernel
theorem dL_law_396 : decode cL_law 396 = .ok (.aload_n 0, 1) := by decide +kernel
theorem dL_law_397 : decode cL_law 397 = .ok (.iload 4, 2) := by decide +kernel
theorem dL_law_399 : decode cL_law 399 = .ok (.iconst 1, 1) := by decide +kernel
theorem dL_law_400 : decode cL_law 400 = .ok (.iadd, 1) := by decide +kernel
end
section
theorem dL_law_401 : decode cL_law 401 = .ok (.iaload, 1) := by decide +kernel
theorem dL_law_402 : decode cL_law 402 = .ok (.aload_n 0, 1) := by decide +kernel
theorem dL_law_403 : decode cL_law 403 = .ok (.iload 4, 2) := by decide +kernel
theorem dL_law_405 : decode cL_law 405 = .ok (.iconst 2, 1) := by decide +kernel
theorem dL_law_406 : decode cL_law 406 = .ok (.iadd, 1) := by decide +kernel
theorem dL_law_407 : decode cL_law 407 = .ok (.iaload, 1) := by decide +kernel
theorem dL_law_408 : decode cL_law 408 = .ok (.invokevirtual 74, 3) := by decide +kernel
theorem dL_law_411 : decode cL_law 411 = .ok (.istore 6, 2) := by decide +kernel
theorem dL_law_413 : decode cL_law 413 = .ok (.aload_n 2, 1) := by decide +kernel
theorem dL_law_414 : decode cL_law 414 = .ok (.invokevirtual 56, 3) := by decide +kernel
theorem dL_law_417 : decode cL_law 417 = .ok (.iload 5, 2) := by decide +kernel
theorem dL_law_419 : decode cL_law 419 = .ok (.if_icmp .eq 5, 3) := by decide +kernel
theorem dL_law_422 : decode cL_law 422 = .ok (.iconst 0, 1) := by decide +kernel
theorem dL_law_423 : decode cL_law 423 = .ok (.ireturn, 1) := by decide +kernel
theorem dL_law_424 : decode cL_law 424 = .ok (.iload 5, 2) := by decide +kernel
theorem dL_law_426 : decode cL_law 426 = .ok (.ifCond .ne 15, 3) := by decide +kernel
theorem dL_law_429 : decode cL_law 429 = .ok (.aload_n 3, 1) := by decide +kernel
theorem dL_law_430 : decode cL_law 430 = .ok (.iconst 0, 1) := by decide +kernel
theorem dL_law_431 : decode cL_law 431 = .ok (.laload, 1) := by decide +kernel
theorem dL_law_432 : decode cL_law 432 = .ok (.iload 6, 2) := by decide +kernel
theorem dL_law_434 : decode cL_law 434 = .ok (.i2l, 1) := by decide +kernel
theorem dL_law_435 : decode cL_law 435 = .ok (.lcmp, 1) := by decide +kernel
theorem dL_law_436 : decode cL_law 436 = .ok (.ifCond .eq 5, 3) := by decide +kernel
theorem dL_law_439 : decode cL_law 439 = .ok (.iconst 0, 1) := by decide +kernel
theorem dL_law_440 : decode cL_law 440 = .ok (.ireturn, 1) := by decide +kernel
theorem dL_law_441 : decode cL_law 441 = .ok (.goto 204, 3) := by decide +kernel
theorem dL_law_444 : decode cL_law 444 = .ok (.aload_n 1, 1) := by decide +kernel
theorem dL_law_445 : decode cL_law 445 = .ok (.aload_n 0, 1) := by decide +kernel
theorem dL_law_446 : decode cL_law 446 = .ok (.iload 4, 2) := by decide +kernel
theorem dL_law_448 : decode cL_law 448 = .ok (.iconst 1, 1) := by decide +kernel
theorem dL_law_449 : decode cL_law 449 = .ok (.iadd, 1) := by decide +kernel
theorem dL_law_450 : decode cL_law 450 = .ok (.iaload, 1) := by decide +kernel
theorem dL_law_451 : decode cL_law 451 = .ok (.aload_n 0, 1) := by decide +kernel
theorem dL_law_452 : decode cL_law 452 = .ok (.iload 4, 2) := by decide +kernel
theorem dL_law_454 : decode cL_law 454 = .ok (.iconst 2, 1) := by decide +kernel
theorem dL_law_455 : decode cL_law 455 = .ok (.iadd, 1) := by decide +kernel
theorem dL_law_456 : decode cL_law 456 = .ok (.iaload, 1) := by decide +kernel
theorem dL_law_457 : decode cL_law 457 = .ok (.aload_n 3, 1) := by decide +kernel
theorem dL_law_458 : decode cL_law 458 = .ok (.invokestatic 75, 3) := by decide +kernel
theorem dL_law_461 : decode cL_law 461 = .ok (.istore 5, 2) := by decide +kernel
theorem dL_law_463 : decode cL_law 463 = .ok (.aload_n 2, 1) := by decide +kernel
theorem dL_law_464 : decode cL_law 464 = .ok (.aload_n 0, 1) := by decide +kernel
theorem dL_law_465 : decode cL_law 465 = .ok (.iload 4, 2) := by decide +kernel
theorem dL_law_467 : decode cL_law 467 = .ok (.iconst 1, 1) := by decide +kernel
theorem dL_law_468 : decode cL_law 468 = .ok (.iadd, 1) := by decide +kernel
theorem dL_law_469 : decode cL_law 469 = .ok (.iaload, 1) := by decide +kernel
theorem dL_law_470 : decode cL_law 470 = .ok (.aload_n 0, 1) := by decide +kernel
theorem dL_law_471 : decode cL_law 471 = .ok (.iload 4, 2) := by decide +kernel
theorem dL_law_473 : decode cL_law 473 = .ok (.iconst 2, 1) := by decide +kernel
theorem dL_law_474 : decode cL_law 474 = .ok (.iadd, 1) := by decide +kernel
theorem dL_law_475 : decode cL_law 475 = .ok (.iaload, 1) := by decide +kernel
theorem dL_law_476 : decode cL_law 476 = .ok (.invokevirtual 77, 3) := by decide +kernel
theorem dL_law_479 : decode cL_law 479 = .ok (.istore 6, 2) := by decide +kernel
theorem dL_law_481 : decode cL_law 481 = .ok (.aload_n 2, 1) := by decide +kernel
theorem dL_law_482 : decode cL_law 482 = .ok (.invokevirtual 56, 3) := by decide +kernel
theorem dL_law_485 : decode cL_law 485 = .ok (.iload 5, 2) := by decide +kernel
theorem dL_law_487 : decode cL_law 487 = .ok (.if_icmp .eq 5, 3) := by decide +kernel
theorem dL_law_490 : decode cL_law 490 = .ok (.iconst 0, 1) := by decide +kernel
theorem dL_law_491 : decode cL_law 491 = .ok (.ireturn, 1) := by decide +kernel
theorem dL_law_492 : decode cL_law 492 = .ok (.iload 5, 2) := by decide +kernel
theorem dL_law_494 : decode cL_law 494 = .ok (.ifCond .ne 15, 3) := by decide +kernel
theorem dL_law_497 : decode cL_law 497 = .ok (.aload_n 3, 1) := by decide +kernel
theorem dL_law_498 : decode cL_law 498 = .ok (.iconst 0, 1) := by decide +kernel
theorem dL_law_499 : decode cL_law 499 = .ok (.laload, 1) := by decide +kernel
theorem dL_law_500 : decode cL_law 500 = .ok (.iload 6, 2) := by decide +kernel
theorem dL_law_502 : decode cL_law 502 = .ok (.i2l, 1) := by decide +kernel
theorem dL_law_503 : decode cL_law 503 = .ok (.lcmp, 1) := by decide +kernel
theorem dL_law_504 : decode cL_law 504 = .ok (.ifCond .eq 5, 3) := by decide +kernel
theorem dL_law_507 : decode cL_law 507 = .ok (.iconst 0, 1) := by decide +kernel
theorem dL_law_508 : decode cL_law 508 = .ok (.ireturn, 1) := by decide +kernel
theorem dL_law_509 : decode cL_law 509 = .ok (.goto 136, 3) := by decide +kernel
theorem dL_law_512 : decode cL_law 512 = .ok (.aload_n 1, 1) := by decide +kernel
theorem dL_law_513 : decode cL_law 513 = .ok (.aload_n 0, 1) := by decide +kernel
theorem dL_law_514 : decode cL_law 514 = .ok (.iload 4, 2) := by decide +kernel
theorem dL_law_516 : decode cL_law 516 = .ok (.iconst 1, 1) := by decide +kernel
theorem dL_law_517 : decode cL_law 517 = .ok (.iadd, 1) := by decide +kernel
theorem dL_law_518 : decode cL_law 518 = .ok (.iaload, 1) := by decide +kernel
theorem dL_law_519 : decode cL_law 519 = .ok (.invokestatic 78, 3) := by decide +kernel
theorem dL_law_522 : decode cL_law 522 = .ok (.istore 5, 2) := by decide +kernel
theorem dL_law_524 : decode cL_law 524 = .ok (.aload_n 2, 1) := by decide +kernel
theorem dL_law_525 : decode cL_law 525 = .ok (.aload_n 0, 1) := by decide +kernel
theorem dL_law_526 : decode cL_law 526 = .ok (.iload 4, 2) := by decide +kernel
theorem dL_law_528 : decode cL_law 528 = .ok (.iconst 1, 1) := by decide +kernel
theorem dL_law_529 : decode cL_law 529 = .ok (.iadd, 1) := by decide +kernel
theorem dL_law_530 : decode cL_law 530 = .ok (.iaload, 1) := by decide +kernel
theorem dL_law_531 : decode cL_law 531 = .ok (.invokevirtual 80, 3) := by decide +kernel
theorem dL_law_534 : decode cL_law 534 = .ok (.aload_n 2, 1) := by decide +kernel
theorem dL_law_535 : decode cL_law 535 = .ok (.invokevirtual 56, 3) := by decide +kernel
theorem dL_law_538 : decode cL_law 538 = .ok (.iload 5, 2) := by decide +kernel
theorem dL_law_540 : decode cL_law 540 = .ok (.if_icmp .eq 5, 3) := by decide +kernel
theorem dL_law_543 : decode cL_law 543 = .ok (.iconst 0, 1) := by decide +kernel
theorem dL_law_544 : decode cL_law 544 = .ok (.ireturn, 1) := by decide +kernel
theorem dL_law_545 : decode cL_law 545 = .ok (.goto 100, 3) := by decide +kernel
theorem dL_law_548 : decode cL_law 548 = .ok (.aload_n 1, 1) := by decide +kernel
theorem dL_law_549 : decode cL_law 549 = .ok (.aload_n 0, 1) := by decide +kernel
theorem dL_law_550 : decode cL_law 550 = .ok (.iload 4, 2) := by decide +kernel
theorem dL_law_552 : decode cL_law 552 = .ok (.iconst 1, 1) := by decide +kernel
theorem dL_law_553 : decode cL_law 553 = .ok (.iadd, 1) := by decide +kernel
theorem dL_law_554 : decode cL_law 554 = .ok (.iaload, 1) := by decide +kernel
theorem dL_law_555 : decode cL_law 555 = .ok (.invokestatic 81, 3) := by decide +kernel
theorem dL_law_558 : decode cL_law 558 = .ok (.istore 5, 2) := by decide +kernel
theorem dL_law_560 : decode cL_law 560 = .ok (.aload_n 2, 1) := by decide +kernel
theorem dL_law_561 : decode cL_law 561 = .ok (.aload_n 0, 1) := by decide +kernel
theorem dL_law_562 : decode cL_law 562 = .ok (.iload 4, 2) := by decide +kernel
theorem dL_law_564 : decode cL_law 564 = .ok (.iconst 1, 1) := by decide +kernel
theorem dL_law_565 : decode cL_law 565 = .ok (.iadd, 1) := by decide +kernel
theorem dL_law_566 : decode cL_law 566 = .ok (.iaload, 1) := by decide +kernel
theorem dL_law_567 : decode cL_law 567 = .ok (.invokevirtual 83, 3) := by decide +kernel
theorem dL_law_570 : decode cL_law 570 = .ok (.aload_n 2, 1) := by decide +kernel
theorem dL_law_571 : decode cL_law 571 = .ok (.invokevirtual 56, 3) := by decide +kernel
theorem dL_law_574 : decode cL_law 574 = .ok (.iload 5, 2) := by decide +kernel
theorem dL_law_576 : decode cL_law 576 = .ok (.if_icmp .eq 5, 3) := by decide +kernel
theorem dL_law_579 : decode cL_law 579 = .ok (.iconst 0, 1) := by decide +kernel
theorem dL_law_580 : decode cL_law 580 = .ok (.ireturn, 1) := by decide +kernel
theorem dL_law_581 : decode cL_law 581 = .ok (.goto 64, 3) := by decide +kernel
theorem dL_law_584 : decode cL_law 584 = .ok (.aload_n 1, 1) := by decide +kernel
theorem dL_law_585 : decode cL_law 585 = .ok (.aload_n 0, 1) := by decide +kernel
theorem dL_law_586 : decode cL_law 586 = .ok (.iload 4, 2) := by decide +kernel
theorem dL_law_588 : decode cL_law 588 = .ok (.iconst 1, 1) := by decide +kernel
theorem dL_law_589 : decode cL_law 589 = .ok (.iadd, 1) := by decide +kernel
end
section
theorem dL_law_590 : decode cL_law 590 = .ok (.iaload, 1) := by decide +kernel
theorem dL_law_591 : decode cL_law 591 = .ok (.invokestatic 84, 3) := by decide +kernel
theorem dL_law_594 : decode cL_law 594 = .ok (.istore 5, 2) := by decide +kernel
theorem dL_law_596 : decode cL_law 596 = .ok (.aload_n 2, 1) := by decide +kernel
theorem dL_law_597 : decode cL_law 597 = .ok (.aload_n 0, 1) := by decide +kernel
theorem dL_law_598 : decode cL_law 598 = .ok (.iload 4, 2) := by decide +kernel
theorem dL_law_600 : decode cL_law 600 = .ok (.iconst 1, 1) := by decide +kernel
theorem dL_law_601 : decode cL_law 601 = .ok (.iadd, 1) := by decide +kernel
theorem dL_law_602 : decode cL_law 602 = .ok (.iaload, 1) := by decide +kernel
theorem dL_law_603 : decode cL_law 603 = .ok (.invokevirtual 86, 3) := by decide +kernel
theorem dL_law_606 : decode cL_law 606 = .ok (.aload_n 2, 1) := by decide +kernel
theorem dL_law_607 : decode cL_law 607 = .ok (.invokevirtual 56, 3) := by decide +kernel
theorem dL_law_610 : decode cL_law 610 = .ok (.iload 5, 2) := by decide +kernel
theorem dL_law_612 : decode cL_law 612 = .ok (.if_icmp .eq 5, 3) := by decide +kernel
theorem dL_law_615 : decode cL_law 615 = .ok (.iconst 0, 1) := by decide +kernel
theorem dL_law_616 : decode cL_law 616 = .ok (.ireturn, 1) := by decide +kernel
theorem dL_law_617 : decode cL_law 617 = .ok (.goto 28, 3) := by decide +kernel
theorem dL_law_620 : decode cL_law 620 = .ok (.aload_n 1, 1) := by decide +kernel
theorem dL_law_621 : decode cL_law 621 = .ok (.aload_n 0, 1) := by decide +kernel
theorem dL_law_622 : decode cL_law 622 = .ok (.iload 4, 2) := by decide +kernel
theorem dL_law_624 : decode cL_law 624 = .ok (.iconst 1, 1) := by decide +kernel
theorem dL_law_625 : decode cL_law 625 = .ok (.iadd, 1) := by decide +kernel
theorem dL_law_626 : decode cL_law 626 = .ok (.iaload, 1) := by decide +kernel
theorem dL_law_627 : decode cL_law 627 = .ok (.invokevirtual 87, 3) := by decide +kernel
theorem dL_law_630 : decode cL_law 630 = .ok (.aload_n 2, 1) := by decide +kernel
theorem dL_law_631 : decode cL_law 631 = .ok (.aload_n 0, 1) := by decide +kernel
theorem dL_law_632 : decode cL_law 632 = .ok (.iload 4, 2) := by decide +kernel
theorem dL_law_634 : decode cL_law 634 = .ok (.iconst 1, 1) := by decide +kernel
theorem dL_law_635 : decode cL_law 635 = .ok (.iadd, 1) := by decide +kernel
theorem dL_law_636 : decode cL_law 636 = .ok (.iaload, 1) := by decide +kernel
theorem dL_law_637 : decode cL_law 637 = .ok (.invokevirtual 91, 3) := by decide +kernel
theorem dL_law_640 : decode cL_law 640 = .ok (.if_icmp .eq 5, 3) := by decide +kernel
theorem dL_law_643 : decode cL_law 643 = .ok (.iconst 0, 1) := by decide +kernel
theorem dL_law_644 : decode cL_law 644 = .ok (.ireturn, 1) := by decide +kernel
theorem dL_law_645 : decode cL_law 645 = .ok (.iinc 4 5, 3) := by decide +kernel
theorem dL_law_648 : decode cL_law 648 = .ok (.goto (-625), 3) := by decide +kernel
theorem dL_law_651 : decode cL_law 651 = .ok (.iconst 1, 1) := by decide +kernel
theorem dL_law_652 : decode cL_law 652 = .ok (.ireturn, 1) := by decide +kernel
end
section
/-! 06.words: one list of words for every method: the good ones of the law's tables; each word that is used, by its place. -/
def wB : List Cond := lw_tbl.filter goodWord
theorem wB_in {w : Cond} {i : Nat} (h : tables_1[i]? = some w) (g : goodWord w = true) : w ∈ wB := List.mem_filter.mpr ⟨List.mem_append_right _ (List.mem_of_getElem? h), g⟩
theorem wB_sel {w : Cond} {i : Nat} (h : (k2_sels lw_privs)[i]? = some w) (g : goodWord w = true) : w ∈ wB := List.mem_filter.mpr ⟨List.mem_append_left _ (List.mem_of_getElem? h), g⟩
theorem wB_gd {c : Cond} (h : c ∈ wB) : GoodIn wB (c :: wB) := fun w hw => by
  rcases List.mem_cons.mp hw with e | e
  · subst e; exact ⟨h, good_of_word (List.mem_filter.mp h).2⟩
  · exact ⟨e, good_of_word (List.mem_filter.mp e).2⟩
theorem wB_law {c : Cond} (h : c ∈ wB) : GoodIn lw_tbl (c :: wB) := fun w hw => by
  rcases List.mem_cons.mp hw with e | e
  · subst e; exact ⟨(List.mem_filter.mp h).1, good_of_word (List.mem_filter.mp h).2⟩
  · exact ⟨(List.mem_filter.mp e).1, good_of_word (List.mem_filter.mp e).2⟩
theorem mB_ini_L : Cond.initialized RL ∈ wB := wB_in (i := 0) (by rfl) (by rfl)
theorem mB_ini_U : Cond.initialized RU ∈ wB := wB_in (i := 1) (by rfl) (by rfl)
theorem mB_ini_M : Cond.initialized RM ∈ wB := wB_in (i := 2) (by rfl) (by rfl)
theorem mB_ini_Th : Cond.initialized "java/lang/Throwable" ∈ wB := wB_in (i := 3) (by rfl) (by rfl)
theorem mB_ini_Ex : Cond.initialized "java/lang/Exception" ∈ wB := wB_in (i := 4) (by rfl) (by rfl)
theorem mB_ini_RE : Cond.initialized "java/lang/RuntimeException" ∈ wB := wB_in (i := 5) (by rfl) (by rfl)
theorem mB_ini_IA : Cond.initialized "java/lang/IllegalArgumentException" ∈ wB := wB_in (i := 6) (by rfl) (by rfl)
theorem mB_ini_IS : Cond.initialized "java/lang/IllegalStateException" ∈ wB := wB_in (i := 7) (by rfl) (by rfl)
theorem mB_ini_Sy : Cond.initialized "java/lang/System" ∈ wB := wB_in (i := 8) (by rfl) (by rfl)
theorem mB_ini_NS : Cond.initialized "java/util/NoSuchElementException" ∈ wB := wB_in (i := 9) (by rfl) (by rfl)
theorem mB_cl_L_8 : Cond.classLink RL 8 RU ∈ wB := wB_in (i := 10) (by rfl) (by rfl)
theorem mB_inst_U : Cond.instantiable RU 9 ∈ wB := wB_in (i := 11) (by rfl) (by rfl)
theorem mB_ml_L_46 : Cond.methodLink RL 46 yU_init ∈ wB := wB_in (i := 12) (by rfl) (by rfl)
theorem mB_im_U_init : Cond.instanceMethod yU_init ∈ wB := wB_in (i := 13) (by rfl) (by rfl)
theorem mB_code_U_init : Cond.code yU_init cU_init 1 none ∈ wB := wB_in (i := 14) (by rfl) (by rfl)
theorem mB_ml_U_1 : Cond.methodLink RU 1 objectInit ∈ wB := wB_in (i := 15) (by rfl) (by rfl)
theorem mB_im_Ob_init : Cond.instanceMethod objectInit ∈ wB := wB_in (i := 16) (by rfl) (by rfl)
theorem mB_code_Ob_init : Cond.code objectInit ⟨#[0xb1]⟩ 1 none ∈ wB := wB_in (i := 17) (by rfl) (by rfl)
theorem mB_fl_U_9 : Cond.fieldLink RU 9 "UndoShelf" "cells" "[I" ∈ wB := wB_in (i := 18) (by rfl) (by rfl)
theorem mB_fl_U_13 : Cond.fieldLink RU 13 "UndoShelf" "rows" "I" ∈ wB := wB_in (i := 19) (by rfl) (by rfl)
theorem mB_fl_U_17 : Cond.fieldLink RU 17 "UndoShelf" "pointNames" "[I" ∈ wB := wB_in (i := 20) (by rfl) (by rfl)
theorem mB_fl_U_20 : Cond.fieldLink RU 20 "UndoShelf" "changesAtPoint" "[I" ∈ wB := wB_in (i := 21) (by rfl) (by rfl)
theorem mB_fl_U_23 : Cond.fieldLink RU 23 "UndoShelf" "points" "I" ∈ wB := wB_in (i := 22) (by rfl) (by rfl)
theorem mB_fl_U_26 : Cond.fieldLink RU 26 "UndoShelf" "changeKinds" "[I" ∈ wB := wB_in (i := 23) (by rfl) (by rfl)
theorem mB_fl_U_29 : Cond.fieldLink RU 29 "UndoShelf" "changeRows" "[I" ∈ wB := wB_in (i := 24) (by rfl) (by rfl)
theorem mB_fl_U_32 : Cond.fieldLink RU 32 "UndoShelf" "cellsBefore" "[I" ∈ wB := wB_in (i := 25) (by rfl) (by rfl)
theorem mB_fl_U_35 : Cond.fieldLink RU 35 "UndoShelf" "changes" "I" ∈ wB := wB_in (i := 26) (by rfl) (by rfl)
theorem mB_lay_U_cells : Cond.laysFinal RU "UndoShelf" "cells" "[I" ∈ wB := wB_in (i := 27) (by rfl) (by rfl)
theorem mB_lay_U_rows : Cond.lays RU "UndoShelf" "rows" "I" ∈ wB := wB_in (i := 29) (by rfl) (by rfl)
theorem mB_lay_U_pointNames : Cond.laysFinal RU "UndoShelf" "pointNames" "[I" ∈ wB := wB_in (i := 31) (by rfl) (by rfl)
theorem mB_lay_U_changesAtPoint : Cond.laysFinal RU "UndoShelf" "changesAtPoint" "[I" ∈ wB := wB_in (i := 33) (by rfl) (by rfl)
theorem mB_lay_U_points : Cond.lays RU "UndoShelf" "points" "I" ∈ wB := wB_in (i := 35) (by rfl) (by rfl)
theorem mB_lay_U_changeKinds : Cond.laysFinal RU "UndoShelf" "changeKinds" "[I" ∈ wB := wB_in (i := 37) (by rfl) (by rfl)
theorem mB_lay_U_changeRows : Cond.laysFinal RU "UndoShelf" "changeRows" "[I" ∈ wB := wB_in (i := 39) (by rfl) (by rfl)
theorem mB_lay_U_cellsBefore : Cond.laysFinal RU "UndoShelf" "cellsBefore" "[I" ∈ wB := wB_in (i := 41) (by rfl) (by rfl)
theorem mB_lay_U_changes : Cond.lays RU "UndoShelf" "changes" "I" ∈ wB := wB_in (i := 43) (by rfl) (by rfl)
theorem mB_arr_int : Cond.arrayClass .int ∈ wB := wB_in (i := 46) (by rfl) (by rfl)
theorem mB_ml_L_87 : Cond.methodLink RL 87 yU_count ∈ wB := wB_in (i := 47) (by rfl) (by rfl)
theorem mB_im_U_count : Cond.instanceMethod yU_count ∈ wB := wB_in (i := 48) (by rfl) (by rfl)
theorem mB_sel_U_count : Cond.selects RU yU_count yU_count ∈ wB := wB_in (i := 49) (by rfl) (by rfl)
theorem mB_code_U_count : Cond.code yU_count cU_count 2 (some .int) ∈ wB := wB_in (i := 50) (by rfl) (by rfl)
theorem mB_ml_U_94 : Cond.methodLink RU 94 yU_countNone ∈ wB := wB_in (i := 51) (by rfl) (by rfl)
theorem mB_im_U_countNone : Cond.instanceMethod yU_countNone ∈ wB := wB_in (i := 53) (by rfl) (by rfl)
theorem mB_code_U_countNone : Cond.code yU_countNone cU_countNone 4 (some .int) ∈ wB := wB_in (i := 54) (by rfl) (by rfl)
theorem mB_ml_U_83 : Cond.methodLink RU 83 yU_isNone ∈ wB := wB_in (i := 55) (by rfl) (by rfl)
theorem mB_im_U_isNone : Cond.instanceMethod yU_isNone ∈ wB := wB_in (i := 57) (by rfl) (by rfl)
theorem mB_code_U_isNone : Cond.code yU_isNone cU_isNone 3 (some .boolean) ∈ wB := wB_in (i := 58) (by rfl) (by rfl)
theorem mB_ml_L_50 : Cond.methodLink RL 50 yL_insert ∈ wB := wB_in (i := 59) (by rfl) (by rfl)
theorem mB_st_L_insert : Cond.static yL_insert ∈ wB := wB_in (i := 60) (by rfl) (by rfl)
theorem mB_code_L_insert : Cond.codeWith yL_insert cL_insert 7 (some .int) [(0, 14, 17, 13), (0, 14, 21, 15)] ∈ wB := wB_in (i := 61) (by rfl) (by rfl)
theorem mB_cl_L_13 : Cond.classLink RL 13 "java/lang/IllegalArgumentException" ∈ wB := wB_in (i := 62) (by rfl) (by rfl)
theorem mB_cl_L_15 : Cond.classLink RL 15 "java/lang/IllegalStateException" ∈ wB := wB_in (i := 63) (by rfl) (by rfl)
theorem mB_ml_L_7 : Cond.methodLink RL 7 yU_insert ∈ wB := wB_in (i := 64) (by rfl) (by rfl)
theorem mB_im_U_insert : Cond.instanceMethod yU_insert ∈ wB := wB_in (i := 65) (by rfl) (by rfl)
theorem mB_sel_U_insert : Cond.selects RU yU_insert yU_insert ∈ wB := wB_in (i := 66) (by rfl) (by rfl)
theorem mB_code_U_insert : Cond.code yU_insert cU_insert 7 (some .int) ∈ wB := wB_in (i := 67) (by rfl) (by rfl)
theorem mB_cl_U_38 : Cond.classLink RU 38 "java/lang/IllegalArgumentException" ∈ wB := wB_in (i := 68) (by rfl) (by rfl)
theorem mB_ml_U_41 : Cond.methodLink RU 41 yU_hasRoomFor ∈ wB := wB_in (i := 131) (by rfl) (by rfl)
theorem mB_im_U_hasRoomFor : Cond.instanceMethod yU_hasRoomFor ∈ wB := wB_in (i := 133) (by rfl) (by rfl)
theorem mB_code_U_hasRoomFor : Cond.code yU_hasRoomFor cU_hasRoomFor 2 (some .boolean) ∈ wB := wB_in (i := 134) (by rfl) (by rfl)
theorem mB_ml_U_45 : Cond.methodLink RU 45 yU_mayBeInserted ∈ wB := wB_in (i := 135) (by rfl) (by rfl)
theorem mB_im_U_mayBeInserted : Cond.instanceMethod yU_mayBeInserted ∈ wB := wB_in (i := 137) (by rfl) (by rfl)
theorem mB_code_U_mayBeInserted : Cond.code yU_mayBeInserted cU_mayBeInserted 4 (some .boolean) ∈ wB := wB_in (i := 138) (by rfl) (by rfl)
theorem mB_ml_U_80 : Cond.methodLink RU 80 yU_rowWithKey ∈ wB := wB_in (i := 139) (by rfl) (by rfl)
theorem mB_im_U_rowWithKey : Cond.instanceMethod yU_rowWithKey ∈ wB := wB_in (i := 141) (by rfl) (by rfl)
theorem mB_code_U_rowWithKey : Cond.code yU_rowWithKey cU_rowWithKey 4 (some .int) ∈ wB := wB_in (i := 142) (by rfl) (by rfl)
theorem mB_ml_U_77 : Cond.methodLink RU 77 yU_holds ∈ wB := wB_in (i := 143) (by rfl) (by rfl)
theorem mB_im_U_holds : Cond.instanceMethod yU_holds ∈ wB := wB_in (i := 145) (by rfl) (by rfl)
theorem mB_code_U_holds : Cond.code yU_holds cU_holds 4 (some .boolean) ∈ wB := wB_in (i := 146) (by rfl) (by rfl)
theorem mB_cl_U_49 : Cond.classLink RU 49 "java/lang/IllegalStateException" ∈ wB := wB_in (i := 147) (by rfl) (by rfl)
theorem mB_ml_U_52 : Cond.methodLink RU 52 yU_keepChange ∈ wB := wB_in (i := 162) (by rfl) (by rfl)
theorem mB_im_U_keepChange : Cond.instanceMethod yU_keepChange ∈ wB := wB_in (i := 164) (by rfl) (by rfl)
theorem mB_code_U_keepChange : Cond.code yU_keepChange cU_keepChange 3 none ∈ wB := wB_in (i := 165) (by rfl) (by rfl)
theorem mB_ml_U_100 : Cond.methodLink RU 100 arraycopyName ∈ wB := wB_in (i := 166) (by rfl) (by rfl)
theorem mB_st_Sy_arraycopy : Cond.static arraycopyName ∈ wB := wB_in (i := 167) (by rfl) (by rfl)
theorem mB_nat_Sy_arraycopy : Cond.native arraycopyName ∈ wB := wB_in (i := 168) (by rfl) (by rfl)
theorem mB_ml_L_60 : Cond.methodLink RL 60 yL_set ∈ wB := wB_in (i := 169) (by rfl) (by rfl)
theorem mB_st_L_set : Cond.static yL_set ∈ wB := wB_in (i := 170) (by rfl) (by rfl)
theorem mB_code_L_set : Cond.codeWith yL_set cL_set 6 (some .int) [(0, 9, 12, 13), (0, 9, 16, 15), (0, 9, 20, 21)] ∈ wB := wB_in (i := 171) (by rfl) (by rfl)
theorem mB_cl_L_21 : Cond.classLink RL 21 "java/util/NoSuchElementException" ∈ wB := wB_in (i := 172) (by rfl) (by rfl)
theorem mB_ml_L_17 : Cond.methodLink RL 17 yU_set ∈ wB := wB_in (i := 173) (by rfl) (by rfl)
theorem mB_im_U_set : Cond.instanceMethod yU_set ∈ wB := wB_in (i := 174) (by rfl) (by rfl)
theorem mB_sel_U_set : Cond.selects RU yU_set yU_set ∈ wB := wB_in (i := 175) (by rfl) (by rfl)
theorem mB_code_U_set : Cond.code yU_set cU_set 6 none ∈ wB := wB_in (i := 176) (by rfl) (by rfl)
theorem mB_ml_U_56 : Cond.methodLink RU 56 yU_isColumn ∈ wB := wB_in (i := 177) (by rfl) (by rfl)
theorem mB_st_U_isColumn : Cond.static yU_isColumn ∈ wB := wB_in (i := 178) (by rfl) (by rfl)
theorem mB_code_U_isColumn : Cond.code yU_isColumn cU_isColumn 1 (some .boolean) ∈ wB := wB_in (i := 179) (by rfl) (by rfl)
theorem mB_ml_U_59 : Cond.methodLink RU 59 yU_isRow ∈ wB := wB_in (i := 180) (by rfl) (by rfl)
theorem mB_im_U_isRow : Cond.instanceMethod yU_isRow ∈ wB := wB_in (i := 182) (by rfl) (by rfl)
theorem mB_code_U_isRow : Cond.code yU_isRow cU_isRow 2 (some .boolean) ∈ wB := wB_in (i := 183) (by rfl) (by rfl)
theorem mB_cl_U_62 : Cond.classLink RU 62 "java/util/NoSuchElementException" ∈ wB := wB_in (i := 184) (by rfl) (by rfl)
theorem mB_ml_U_65 : Cond.methodLink RU 65 yU_maySet ∈ wB := wB_in (i := 199) (by rfl) (by rfl)
theorem mB_im_U_maySet : Cond.instanceMethod yU_maySet ∈ wB := wB_in (i := 201) (by rfl) (by rfl)
theorem mB_code_U_maySet : Cond.code yU_maySet cU_maySet 6 (some .boolean) ∈ wB := wB_in (i := 202) (by rfl) (by rfl)
theorem mB_ml_L_64 : Cond.methodLink RL 64 yL_remove ∈ wB := wB_in (i := 203) (by rfl) (by rfl)
theorem mB_st_L_remove : Cond.static yL_remove ∈ wB := wB_in (i := 204) (by rfl) (by rfl)
theorem mB_code_L_remove : Cond.codeWith yL_remove cL_remove 3 (some .int) [(0, 5, 8, 15), (0, 5, 11, 21)] ∈ wB := wB_in (i := 205) (by rfl) (by rfl)
theorem mB_ml_L_23 : Cond.methodLink RL 23 yU_remove ∈ wB := wB_in (i := 206) (by rfl) (by rfl)
theorem mB_im_U_remove : Cond.instanceMethod yU_remove ∈ wB := wB_in (i := 207) (by rfl) (by rfl)
theorem mB_sel_U_remove : Cond.selects RU yU_remove yU_remove ∈ wB := wB_in (i := 208) (by rfl) (by rfl)
theorem mB_code_U_remove : Cond.code yU_remove cU_remove 2 none ∈ wB := wB_in (i := 209) (by rfl) (by rfl)
theorem mB_ml_U_69 : Cond.methodLink RU 69 yU_takeOut ∈ wB := wB_in (i := 210) (by rfl) (by rfl)
theorem mB_im_U_takeOut : Cond.instanceMethod yU_takeOut ∈ wB := wB_in (i := 212) (by rfl) (by rfl)
theorem mB_code_U_takeOut : Cond.code yU_takeOut cU_takeOut 2 none ∈ wB := wB_in (i := 213) (by rfl) (by rfl)
theorem mB_ml_U_97 : Cond.methodLink RU 97 yU_closeRow ∈ wB := wB_in (i := 214) (by rfl) (by rfl)
theorem mB_im_U_closeRow : Cond.instanceMethod yU_closeRow ∈ wB := wB_in (i := 216) (by rfl) (by rfl)
theorem mB_code_U_closeRow : Cond.code yU_closeRow cU_closeRow 3 none ∈ wB := wB_in (i := 217) (by rfl) (by rfl)
theorem mB_ml_L_68 : Cond.methodLink RL 68 yL_removeAll ∈ wB := wB_in (i := 218) (by rfl) (by rfl)
theorem mB_st_L_removeAll : Cond.static yL_removeAll ∈ wB := wB_in (i := 219) (by rfl) (by rfl)
theorem mB_code_L_removeAll : Cond.codeWith yL_removeAll cL_removeAll 5 (some .int) [(0, 10, 13, 13), (0, 10, 17, 15)] ∈ wB := wB_in (i := 220) (by rfl) (by rfl)
theorem mB_ml_L_27 : Cond.methodLink RL 27 yU_removeAll ∈ wB := wB_in (i := 221) (by rfl) (by rfl)
theorem mB_im_U_removeAll : Cond.instanceMethod yU_removeAll ∈ wB := wB_in (i := 222) (by rfl) (by rfl)
theorem mB_sel_U_removeAll : Cond.selects RU yU_removeAll yU_removeAll ∈ wB := wB_in (i := 223) (by rfl) (by rfl)
theorem mB_code_U_removeAll : Cond.code yU_removeAll cU_removeAll 5 (some .int) ∈ wB := wB_in (i := 224) (by rfl) (by rfl)
theorem mB_ml_U_73 : Cond.methodLink RU 73 yU_countRowsWith ∈ wB := wB_in (i := 225) (by rfl) (by rfl)
theorem mB_im_U_countRowsWith : Cond.instanceMethod yU_countRowsWith ∈ wB := wB_in (i := 227) (by rfl) (by rfl)
theorem mB_code_U_countRowsWith : Cond.code yU_countRowsWith cU_countRowsWith 5 (some .int) ∈ wB := wB_in (i := 228) (by rfl) (by rfl)
theorem mB_ml_L_72 : Cond.methodLink RL 72 yL_find ∈ wB := wB_in (i := 229) (by rfl) (by rfl)
theorem mB_st_L_find : Cond.static yL_find ∈ wB := wB_in (i := 230) (by rfl) (by rfl)
theorem mB_code_L_find : Cond.codeWith yL_find cL_find 5 (some .int) [(0, 10, 13, 13)] ∈ wB := wB_in (i := 231) (by rfl) (by rfl)
theorem mB_ml_L_31 : Cond.methodLink RL 31 yU_find ∈ wB := wB_in (i := 232) (by rfl) (by rfl)
theorem mB_im_U_find : Cond.instanceMethod yU_find ∈ wB := wB_in (i := 233) (by rfl) (by rfl)
theorem mB_sel_U_find : Cond.selects RU yU_find yU_find ∈ wB := wB_in (i := 234) (by rfl) (by rfl)
theorem mB_code_U_find : Cond.code yU_find cU_find 3 (some .int) ∈ wB := wB_in (i := 235) (by rfl) (by rfl)
theorem mB_ml_L_75 : Cond.methodLink RL 75 yL_value ∈ wB := wB_in (i := 236) (by rfl) (by rfl)
theorem mB_st_L_value : Cond.static yL_value ∈ wB := wB_in (i := 237) (by rfl) (by rfl)
theorem mB_code_L_value : Cond.codeWith yL_value cL_value 5 (some .int) [(0, 10, 13, 13), (0, 10, 17, 21)] ∈ wB := wB_in (i := 238) (by rfl) (by rfl)
theorem mB_ml_L_34 : Cond.methodLink RL 34 yU_value ∈ wB := wB_in (i := 239) (by rfl) (by rfl)
theorem mB_im_U_value : Cond.instanceMethod yU_value ∈ wB := wB_in (i := 240) (by rfl) (by rfl)
theorem mB_sel_U_value : Cond.selects RU yU_value yU_value ∈ wB := wB_in (i := 241) (by rfl) (by rfl)
theorem mB_code_U_value : Cond.code yU_value cU_value 3 (some .int) ∈ wB := wB_in (i := 242) (by rfl) (by rfl)
theorem mB_ml_L_78 : Cond.methodLink RL 78 yL_mark ∈ wB := wB_in (i := 243) (by rfl) (by rfl)
theorem mB_st_L_mark : Cond.static yL_mark ∈ wB := wB_in (i := 244) (by rfl) (by rfl)
theorem mB_code_L_mark : Cond.codeWith yL_mark cL_mark 3 (some .int) [(0, 5, 8, 15)] ∈ wB := wB_in (i := 245) (by rfl) (by rfl)
theorem mB_ml_L_37 : Cond.methodLink RL 37 yU_mark ∈ wB := wB_in (i := 246) (by rfl) (by rfl)
theorem mB_im_U_mark : Cond.instanceMethod yU_mark ∈ wB := wB_in (i := 247) (by rfl) (by rfl)
theorem mB_sel_U_mark : Cond.selects RU yU_mark yU_mark ∈ wB := wB_in (i := 248) (by rfl) (by rfl)
theorem mB_code_U_mark : Cond.code yU_mark cU_mark 2 none ∈ wB := wB_in (i := 249) (by rfl) (by rfl)
theorem mB_ml_L_81 : Cond.methodLink RL 81 yL_back ∈ wB := wB_in (i := 250) (by rfl) (by rfl)
theorem mB_st_L_back : Cond.static yL_back ∈ wB := wB_in (i := 251) (by rfl) (by rfl)
theorem mB_code_L_back : Cond.codeWith yL_back cL_back 3 (some .int) [(0, 5, 8, 21)] ∈ wB := wB_in (i := 252) (by rfl) (by rfl)
theorem mB_ml_L_40 : Cond.methodLink RL 40 yU_back ∈ wB := wB_in (i := 253) (by rfl) (by rfl)
theorem mB_im_U_back : Cond.instanceMethod yU_back ∈ wB := wB_in (i := 254) (by rfl) (by rfl)
theorem mB_sel_U_back : Cond.selects RU yU_back yU_back ∈ wB := wB_in (i := 255) (by rfl) (by rfl)
theorem mB_code_U_back : Cond.code yU_back cU_back 5 none ∈ wB := wB_in (i := 256) (by rfl) (by rfl)
theorem mB_ml_U_87 : Cond.methodLink RU 87 yU_latestPoint ∈ wB := wB_in (i := 257) (by rfl) (by rfl)
theorem mB_im_U_latestPoint : Cond.instanceMethod yU_latestPoint ∈ wB := wB_in (i := 259) (by rfl) (by rfl)
theorem mB_code_U_latestPoint : Cond.code yU_latestPoint cU_latestPoint 3 (some .int) ∈ wB := wB_in (i := 260) (by rfl) (by rfl)
theorem mB_ml_U_91 : Cond.methodLink RU 91 yU_undo ∈ wB := wB_in (i := 261) (by rfl) (by rfl)
theorem mB_im_U_undo : Cond.instanceMethod yU_undo ∈ wB := wB_in (i := 263) (by rfl) (by rfl)
theorem mB_code_U_undo : Cond.code yU_undo cU_undo 3 none ∈ wB := wB_in (i := 264) (by rfl) (by rfl)
theorem mB_ml_U_106 : Cond.methodLink RU 106 yU_openRow ∈ wB := wB_in (i := 265) (by rfl) (by rfl)
theorem mB_im_U_openRow : Cond.instanceMethod yU_openRow ∈ wB := wB_in (i := 267) (by rfl) (by rfl)
theorem mB_code_U_openRow : Cond.code yU_openRow cU_openRow 3 none ∈ wB := wB_in (i := 268) (by rfl) (by rfl)
theorem mB_ml_L_84 : Cond.methodLink RL 84 yL_release ∈ wB := wB_in (i := 269) (by rfl) (by rfl)
theorem mB_st_L_release : Cond.static yL_release ∈ wB := wB_in (i := 270) (by rfl) (by rfl)
theorem mB_code_L_release : Cond.codeWith yL_release cL_release 3 (some .int) [(0, 5, 8, 21)] ∈ wB := wB_in (i := 271) (by rfl) (by rfl)
theorem mB_ml_L_43 : Cond.methodLink RL 43 yU_release ∈ wB := wB_in (i := 272) (by rfl) (by rfl)
theorem mB_im_U_release : Cond.instanceMethod yU_release ∈ wB := wB_in (i := 273) (by rfl) (by rfl)
theorem mB_sel_U_release : Cond.selects RU yU_release yU_release ∈ wB := wB_in (i := 274) (by rfl) (by rfl)
theorem mB_code_U_release : Cond.code yU_release cU_release 3 none ∈ wB := wB_in (i := 275) (by rfl) (by rfl)
theorem mB_cl_L_47 : Cond.classLink RL 47 RM ∈ wB := wB_in (i := 276) (by rfl) (by rfl)
theorem mB_inst_M : Cond.instantiable RM 11 ∈ wB := wB_in (i := 277) (by rfl) (by rfl)
theorem mB_ml_L_49 : Cond.methodLink RL 49 yM_init ∈ wB := wB_in (i := 278) (by rfl) (by rfl)
theorem mB_im_M_init : Cond.instanceMethod yM_init ∈ wB := wB_in (i := 279) (by rfl) (by rfl)
theorem mB_code_M_init : Cond.code yM_init cM_init 1 none ∈ wB := wB_in (i := 280) (by rfl) (by rfl)
theorem mB_ml_M_3 : Cond.methodLink RM 3 objectInit ∈ wB := wB_in (i := 281) (by rfl) (by rfl)
theorem mB_fl_M_32 : Cond.fieldLink RM 32 "UndoShelfModel" "thrown" "I" ∈ wB := wB_in (i := 282) (by rfl) (by rfl)
theorem mB_fl_M_36 : Cond.fieldLink RM 36 "UndoShelfModel" "rows" "I" ∈ wB := wB_in (i := 283) (by rfl) (by rfl)
theorem mB_fl_M_39 : Cond.fieldLink RM 39 "UndoShelfModel" "points" "I" ∈ wB := wB_in (i := 284) (by rfl) (by rfl)
theorem mB_fl_M_42 : Cond.fieldLink RM 42 "UndoShelfModel" "changes" "I" ∈ wB := wB_in (i := 285) (by rfl) (by rfl)
theorem mB_fl_M_9 : Cond.fieldLink RM 9 "UndoShelfModel" "value" "[I" ∈ wB := wB_in (i := 286) (by rfl) (by rfl)
theorem mB_fl_M_13 : Cond.fieldLink RM 13 "UndoShelfModel" "keptValue" "[I" ∈ wB := wB_in (i := 287) (by rfl) (by rfl)
theorem mB_fl_M_16 : Cond.fieldLink RM 16 "UndoShelfModel" "is" "[Z" ∈ wB := wB_in (i := 288) (by rfl) (by rfl)
theorem mB_fl_M_20 : Cond.fieldLink RM 20 "UndoShelfModel" "keptIs" "[Z" ∈ wB := wB_in (i := 289) (by rfl) (by rfl)
theorem mB_fl_M_23 : Cond.fieldLink RM 23 "UndoShelfModel" "pointName" "[I" ∈ wB := wB_in (i := 290) (by rfl) (by rfl)
theorem mB_fl_M_26 : Cond.fieldLink RM 26 "UndoShelfModel" "keptRows" "[I" ∈ wB := wB_in (i := 291) (by rfl) (by rfl)
theorem mB_fl_M_29 : Cond.fieldLink RM 29 "UndoShelfModel" "keptChanges" "[I" ∈ wB := wB_in (i := 292) (by rfl) (by rfl)
theorem mB_lay_M_thrown : Cond.lays RM "UndoShelfModel" "thrown" "I" ∈ wB := wB_in (i := 293) (by rfl) (by rfl)
theorem mB_lay_M_rows : Cond.lays RM "UndoShelfModel" "rows" "I" ∈ wB := wB_in (i := 295) (by rfl) (by rfl)
theorem mB_lay_M_points : Cond.lays RM "UndoShelfModel" "points" "I" ∈ wB := wB_in (i := 297) (by rfl) (by rfl)
theorem mB_lay_M_changes : Cond.lays RM "UndoShelfModel" "changes" "I" ∈ wB := wB_in (i := 299) (by rfl) (by rfl)
theorem mB_lay_M_value : Cond.laysFinal RM "UndoShelfModel" "value" "[I" ∈ wB := wB_in (i := 301) (by rfl) (by rfl)
theorem mB_lay_M_keptValue : Cond.laysFinal RM "UndoShelfModel" "keptValue" "[I" ∈ wB := wB_in (i := 303) (by rfl) (by rfl)
theorem mB_lay_M_is : Cond.laysFinal RM "UndoShelfModel" "is" "[Z" ∈ wB := wB_in (i := 305) (by rfl) (by rfl)
theorem mB_lay_M_keptIs : Cond.laysFinal RM "UndoShelfModel" "keptIs" "[Z" ∈ wB := wB_in (i := 307) (by rfl) (by rfl)
theorem mB_lay_M_pointName : Cond.laysFinal RM "UndoShelfModel" "pointName" "[I" ∈ wB := wB_in (i := 309) (by rfl) (by rfl)
theorem mB_lay_M_keptRows : Cond.laysFinal RM "UndoShelfModel" "keptRows" "[I" ∈ wB := wB_in (i := 311) (by rfl) (by rfl)
theorem mB_lay_M_keptChanges : Cond.laysFinal RM "UndoShelfModel" "keptChanges" "[I" ∈ wB := wB_in (i := 313) (by rfl) (by rfl)
theorem mB_arr_boolean : Cond.arrayClass .boolean ∈ wB := wB_in (i := 316) (by rfl) (by rfl)
theorem mB_ml_L_56 : Cond.methodLink RL 56 yM_thrown ∈ wB := wB_in (i := 317) (by rfl) (by rfl)
theorem mB_im_M_thrown : Cond.instanceMethod yM_thrown ∈ wB := wB_in (i := 318) (by rfl) (by rfl)
theorem mB_sel_M_thrown : Cond.selects RM yM_thrown yM_thrown ∈ wB := wB_in (i := 319) (by rfl) (by rfl)
theorem mB_code_M_thrown : Cond.code yM_thrown cM_thrown 1 (some .int) ∈ wB := wB_in (i := 320) (by rfl) (by rfl)
theorem mB_ml_L_55 : Cond.methodLink RL 55 yM_insert ∈ wB := wB_in (i := 321) (by rfl) (by rfl)
theorem mB_im_M_insert : Cond.instanceMethod yM_insert ∈ wB := wB_in (i := 322) (by rfl) (by rfl)
theorem mB_sel_M_insert : Cond.selects RM yM_insert yM_insert ∈ wB := wB_in (i := 323) (by rfl) (by rfl)
theorem mB_code_M_insert : Cond.code yM_insert cM_insert 7 (some .int) ∈ wB := wB_in (i := 324) (by rfl) (by rfl)
theorem mB_ml_M_45 : Cond.methodLink RM 45 yM_no ∈ wB := wB_in (i := 325) (by rfl) (by rfl)
theorem mB_im_M_no : Cond.instanceMethod yM_no ∈ wB := wB_in (i := 327) (by rfl) (by rfl)
theorem mB_code_M_no : Cond.code yM_no cM_no 2 (some .int) ∈ wB := wB_in (i := 328) (by rfl) (by rfl)
theorem mB_ml_M_49 : Cond.methodLink RM 49 yM_isFull ∈ wB := wB_in (i := 329) (by rfl) (by rfl)
theorem mB_im_M_isFull : Cond.instanceMethod yM_isFull ∈ wB := wB_in (i := 331) (by rfl) (by rfl)
theorem mB_code_M_isFull : Cond.code yM_isFull cM_isFull 2 (some .boolean) ∈ wB := wB_in (i := 332) (by rfl) (by rfl)
theorem mB_ml_M_53 : Cond.methodLink RM 53 yM_row ∈ wB := wB_in (i := 333) (by rfl) (by rfl)
theorem mB_im_M_row : Cond.instanceMethod yM_row ∈ wB := wB_in (i := 335) (by rfl) (by rfl)
theorem mB_code_M_row : Cond.code yM_row cM_row 4 (some .int) ∈ wB := wB_in (i := 336) (by rfl) (by rfl)
theorem mB_ml_M_57 : Cond.methodLink RM 57 yM_changed ∈ wB := wB_in (i := 337) (by rfl) (by rfl)
theorem mB_im_M_changed : Cond.instanceMethod yM_changed ∈ wB := wB_in (i := 339) (by rfl) (by rfl)
theorem mB_code_M_changed : Cond.code yM_changed cM_changed 1 none ∈ wB := wB_in (i := 340) (by rfl) (by rfl)
theorem mB_ml_L_63 : Cond.methodLink RL 63 yM_set ∈ wB := wB_in (i := 341) (by rfl) (by rfl)
theorem mB_im_M_set : Cond.instanceMethod yM_set ∈ wB := wB_in (i := 342) (by rfl) (by rfl)
theorem mB_sel_M_set : Cond.selects RM yM_set yM_set ∈ wB := wB_in (i := 343) (by rfl) (by rfl)
theorem mB_code_M_set : Cond.code yM_set cM_set 6 none ∈ wB := wB_in (i := 344) (by rfl) (by rfl)
theorem mB_ml_M_60 : Cond.methodLink RM 60 yM_isRow ∈ wB := wB_in (i := 345) (by rfl) (by rfl)
theorem mB_im_M_isRow : Cond.instanceMethod yM_isRow ∈ wB := wB_in (i := 347) (by rfl) (by rfl)
theorem mB_code_M_isRow : Cond.code yM_isRow cM_isRow 2 (some .boolean) ∈ wB := wB_in (i := 348) (by rfl) (by rfl)
theorem mB_ml_L_67 : Cond.methodLink RL 67 yM_remove ∈ wB := wB_in (i := 349) (by rfl) (by rfl)
theorem mB_im_M_remove : Cond.instanceMethod yM_remove ∈ wB := wB_in (i := 350) (by rfl) (by rfl)
theorem mB_sel_M_remove : Cond.selects RM yM_remove yM_remove ∈ wB := wB_in (i := 351) (by rfl) (by rfl)
theorem mB_code_M_remove : Cond.code yM_remove cM_remove 2 none ∈ wB := wB_in (i := 352) (by rfl) (by rfl)
theorem mB_ml_M_63 : Cond.methodLink RM 63 yM_take ∈ wB := wB_in (i := 353) (by rfl) (by rfl)
theorem mB_im_M_take : Cond.instanceMethod yM_take ∈ wB := wB_in (i := 355) (by rfl) (by rfl)
theorem mB_code_M_take : Cond.code yM_take cM_take 3 none ∈ wB := wB_in (i := 356) (by rfl) (by rfl)
theorem mB_ml_L_71 : Cond.methodLink RL 71 yM_removeAll ∈ wB := wB_in (i := 357) (by rfl) (by rfl)
theorem mB_im_M_removeAll : Cond.instanceMethod yM_removeAll ∈ wB := wB_in (i := 358) (by rfl) (by rfl)
theorem mB_sel_M_removeAll : Cond.selects RM yM_removeAll yM_removeAll ∈ wB := wB_in (i := 359) (by rfl) (by rfl)
theorem mB_code_M_removeAll : Cond.code yM_removeAll cM_removeAll 5 (some .int) ∈ wB := wB_in (i := 360) (by rfl) (by rfl)
theorem mB_ml_L_74 : Cond.methodLink RL 74 yM_find ∈ wB := wB_in (i := 361) (by rfl) (by rfl)
theorem mB_im_M_find : Cond.instanceMethod yM_find ∈ wB := wB_in (i := 362) (by rfl) (by rfl)
theorem mB_sel_M_find : Cond.selects RM yM_find yM_find ∈ wB := wB_in (i := 363) (by rfl) (by rfl)
theorem mB_code_M_find : Cond.code yM_find cM_find 3 (some .int) ∈ wB := wB_in (i := 364) (by rfl) (by rfl)
theorem mB_ml_L_77 : Cond.methodLink RL 77 yM_value ∈ wB := wB_in (i := 365) (by rfl) (by rfl)
theorem mB_im_M_value : Cond.instanceMethod yM_value ∈ wB := wB_in (i := 366) (by rfl) (by rfl)
theorem mB_sel_M_value : Cond.selects RM yM_value yM_value ∈ wB := wB_in (i := 367) (by rfl) (by rfl)
theorem mB_code_M_value : Cond.code yM_value cM_value 3 (some .int) ∈ wB := wB_in (i := 368) (by rfl) (by rfl)
theorem mB_ml_L_80 : Cond.methodLink RL 80 yM_mark ∈ wB := wB_in (i := 369) (by rfl) (by rfl)
theorem mB_im_M_mark : Cond.instanceMethod yM_mark ∈ wB := wB_in (i := 370) (by rfl) (by rfl)
theorem mB_sel_M_mark : Cond.selects RM yM_mark yM_mark ∈ wB := wB_in (i := 371) (by rfl) (by rfl)
theorem mB_code_M_mark : Cond.code yM_mark cM_mark 3 none ∈ wB := wB_in (i := 372) (by rfl) (by rfl)
theorem mB_ml_L_83 : Cond.methodLink RL 83 yM_back ∈ wB := wB_in (i := 373) (by rfl) (by rfl)
theorem mB_im_M_back : Cond.instanceMethod yM_back ∈ wB := wB_in (i := 374) (by rfl) (by rfl)
theorem mB_sel_M_back : Cond.selects RM yM_back yM_back ∈ wB := wB_in (i := 375) (by rfl) (by rfl)
theorem mB_code_M_back : Cond.code yM_back cM_back 4 none ∈ wB := wB_in (i := 376) (by rfl) (by rfl)
theorem mB_ml_M_67 : Cond.methodLink RM 67 yM_point ∈ wB := wB_in (i := 377) (by rfl) (by rfl)
theorem mB_im_M_point : Cond.instanceMethod yM_point ∈ wB := wB_in (i := 379) (by rfl) (by rfl)
theorem mB_code_M_point : Cond.code yM_point cM_point 3 (some .int) ∈ wB := wB_in (i := 380) (by rfl) (by rfl)
theorem mB_ml_L_86 : Cond.methodLink RL 86 yM_release ∈ wB := wB_in (i := 381) (by rfl) (by rfl)
theorem mB_im_M_release : Cond.instanceMethod yM_release ∈ wB := wB_in (i := 382) (by rfl) (by rfl)
theorem mB_sel_M_release : Cond.selects RM yM_release yM_release ∈ wB := wB_in (i := 383) (by rfl) (by rfl)
theorem mB_code_M_release : Cond.code yM_release cM_release 3 none ∈ wB := wB_in (i := 384) (by rfl) (by rfl)
theorem mB_ml_L_91 : Cond.methodLink RL 91 yM_count ∈ wB := wB_in (i := 385) (by rfl) (by rfl)
theorem mB_im_M_count : Cond.instanceMethod yM_count ∈ wB := wB_in (i := 386) (by rfl) (by rfl)
theorem mB_sel_M_count : Cond.selects RM yM_count yM_count ∈ wB := wB_in (i := 387) (by rfl) (by rfl)
theorem mB_code_M_count : Cond.code yM_count cM_count 2 (some .int) ∈ wB := wB_in (i := 388) (by rfl) (by rfl)
theorem mB_ml_M_70 : Cond.methodLink RM 70 yM_nones ∈ wB := wB_in (i := 389) (by rfl) (by rfl)
theorem mB_im_M_nones : Cond.instanceMethod yM_nones ∈ wB := wB_in (i := 391) (by rfl) (by rfl)
theorem mB_code_M_nones : Cond.code yM_nones cM_nones 4 (some .int) ∈ wB := wB_in (i := 392) (by rfl) (by rfl)
theorem mB_arr_long : Cond.arrayClass .long ∈ wB := wB_in (i := 393) (by rfl) (by rfl)
theorem mB_sel_U_countNone : Cond.selects RU yU_countNone yU_countNone ∈ wB := wB_sel (i := 0) (by rfl) (by rfl)
theorem mB_sel_U_isNone : Cond.selects RU yU_isNone yU_isNone ∈ wB := wB_sel (i := 1) (by rfl) (by rfl)
theorem mB_sel_U_hasRoomFor : Cond.selects RU yU_hasRoomFor yU_hasRoomFor ∈ wB := wB_sel (i := 3) (by rfl) (by rfl)
theorem mB_sel_U_mayBeInserted : Cond.selects RU yU_mayBeInserted yU_mayBeInserted ∈ wB := wB_sel (i := 4) (by rfl) (by rfl)
theorem mB_sel_U_rowWithKey : Cond.selects RU yU_rowWithKey yU_rowWithKey ∈ wB := wB_sel (i := 5) (by rfl) (by rfl)
theorem mB_sel_U_holds : Cond.selects RU yU_holds yU_holds ∈ wB := wB_sel (i := 6) (by rfl) (by rfl)
theorem mB_sel_U_keepChange : Cond.selects RU yU_keepChange yU_keepChange ∈ wB := wB_sel (i := 7) (by rfl) (by rfl)
theorem mB_sel_U_isRow : Cond.selects RU yU_isRow yU_isRow ∈ wB := wB_sel (i := 8) (by rfl) (by rfl)
theorem mB_sel_U_maySet : Cond.selects RU yU_maySet yU_maySet ∈ wB := wB_sel (i := 9) (by rfl) (by rfl)
theorem mB_sel_U_takeOut : Cond.selects RU yU_takeOut yU_takeOut ∈ wB := wB_sel (i := 10) (by rfl) (by rfl)
theorem mB_sel_U_closeRow : Cond.selects RU yU_closeRow yU_closeRow ∈ wB := wB_sel (i := 11) (by rfl) (by rfl)
theorem mB_sel_U_countRowsWith : Cond.selects RU yU_countRowsWith yU_countRowsWith ∈ wB := wB_sel (i := 12) (by rfl) (by rfl)
theorem mB_sel_U_latestPoint : Cond.selects RU yU_latestPoint yU_latestPoint ∈ wB := wB_sel (i := 13) (by rfl) (by rfl)
theorem mB_sel_U_undo : Cond.selects RU yU_undo yU_undo ∈ wB := wB_sel (i := 14) (by rfl) (by rfl)
theorem mB_sel_U_openRow : Cond.selects RU yU_openRow yU_openRow ∈ wB := wB_sel (i := 15) (by rfl) (by rfl)
theorem mB_sel_M_no : Cond.selects RM yM_no yM_no ∈ wB := wB_sel (i := 16) (by rfl) (by rfl)
theorem mB_sel_M_isFull : Cond.selects RM yM_isFull yM_isFull ∈ wB := wB_sel (i := 17) (by rfl) (by rfl)
theorem mB_sel_M_row : Cond.selects RM yM_row yM_row ∈ wB := wB_sel (i := 18) (by rfl) (by rfl)
theorem mB_sel_M_changed : Cond.selects RM yM_changed yM_changed ∈ wB := wB_sel (i := 19) (by rfl) (by rfl)
theorem mB_sel_M_isRow : Cond.selects RM yM_isRow yM_isRow ∈ wB := wB_sel (i := 20) (by rfl) (by rfl)
theorem mB_sel_M_take : Cond.selects RM yM_take yM_take ∈ wB := wB_sel (i := 21) (by rfl) (by rfl)
theorem mB_sel_M_point : Cond.selects RM yM_point yM_point ∈ wB := wB_sel (i := 22) (by rfl) (by rfl)
theorem mB_sel_M_nones : Cond.selects RM yM_nones yM_nones ∈ wB := wB_sel (i := 23) (by rfl) (by rfl)
theorem uB_U : ∀ w ∈ u_ws RU FU 9, w ∈ wB := by
  intro w hw
  obtain ⟨k, hk, rfl⟩ := List.mem_map.mp hw
  have hk := List.mem_range.mp hk
  rcases (show k = 0 ∨ k = 1 ∨ k = 2 ∨ k = 3 ∨ k = 4 ∨ k = 5 ∨ k = 6 ∨ k = 7 ∨ k = 8 by omega) with rfl | rfl | rfl | rfl | rfl | rfl | rfl | rfl | rfl
  · exact mB_lay_U_cells
  · exact mB_lay_U_rows
  · exact mB_lay_U_pointNames
  · exact mB_lay_U_changesAtPoint
  · exact mB_lay_U_points
  · exact mB_lay_U_changeKinds
  · exact mB_lay_U_changeRows
  · exact mB_lay_U_cellsBefore
  · exact mB_lay_U_changes
theorem uB_M : ∀ w ∈ u_ws RM FM 11, w ∈ wB := by
  intro w hw
  obtain ⟨k, hk, rfl⟩ := List.mem_map.mp hw
  have hk := List.mem_range.mp hk
  rcases (show k = 0 ∨ k = 1 ∨ k = 2 ∨ k = 3 ∨ k = 4 ∨ k = 5 ∨ k = 6 ∨ k = 7 ∨ k = 8 ∨ k = 9 ∨ k = 10 by omega) with rfl | rfl | rfl | rfl | rfl | rfl | rfl | rfl | rfl | rfl | rfl
  · exact mB_lay_M_thrown
  · exact mB_lay_M_rows
  · exact mB_lay_M_points
  · exact mB_lay_M_changes
  · exact mB_lay_M_value
  · exact mB_lay_M_keptValue
  · exact mB_lay_M_is
  · exact mB_lay_M_keptIs
  · exact mB_lay_M_pointName
  · exact mB_lay_M_keptRows
  · exact mB_lay_M_keptChanges
abbrev usCl : List vw_C := [(RU, FU, 9), (RM, FM, 11)]
end
section
/-! 07.rows (a draft, not yet compiled): the kit's rows bound to this claim's words (wB) and classes (usCl), on natural numbers (nI) where they can be. X: what stays the same through a walk; Y: the world now. -/
section USR
variable {p : Program} {l : Launch} {e : Env} {R : Room} {s : State} {m : MethodId} {args : Array Value} {below : List Frame} {meth : Method} {c : Code} {H : Heap} {locs : List Loc} {cells slots : Nat} {Q : State → Prop}
variable {cc : ByteArray} {nL pc : Nat} {ls : Array Slot} {rest : List Value} {D : va_G} {A : Nat → Prop} {tys : List (ClassId × FieldType)} {ws : va_W} {own : String}
def us_X (p : Program) (s : State) (m : MethodId) (args : Array Value) (c : Code) (cc : ByteArray) (nL : Nat) (own : String) (D : va_G) (tys : List (ClassId × FieldType)) (A : Nat → Prop) : Prop :=
  CallFix p m c cc nL s args wB own ∧ va_K D usCl tys s ∧ ∀ q, s.heap.size ≤ q → A q
def us_Y (D : va_G) (A : Nat → Prop) (ws : va_W) (s : State) (H : Heap) (locs : List Loc) : Prop := va_P D usCl ws H ∧ va_D A ws ∧ va_S A s.heap H locs
def us_P (D : va_G) (tys : List (ClassId × FieldType)) (ws : va_W) (sz : Nat) : State → Prop := fun U => U.heap.size = sz ∧ va_P D usCl ws U.heap ∧ va_K D usCl tys U ∧ va_D (fun _ => True) ws
def us_Z (D : va_G) (tys : List (ClassId × FieldType)) (A : Nat → Prop) (ws : va_W) (t : State) : Prop := va_P D usCl ws t.heap ∧ va_K D usCl tys t ∧ va_D A ws
theorem us_X.x (X : us_X p s m args c cc nL own D tys A) : p.tables.exec = Jvm.exec := X.1.1
theorem us_X.b (X : us_X p s m args c cc nL own D tys A) : c.code = cc := X.1.2.1
theorem us_X.ml (X : us_X p s m args c cc nL own D tys A) : c.maxLocals = nL := X.1.2.2.1
theorem us_X.o (X : us_X p s m args c cc nL own D tys A) : s.vm.findClass own = some m.cls := X.1.2.2.2.1
theorem us_X.w (X : us_X p s m args c cc nL own D tys A) {w : Cond} (h : w ∈ wB) : w.before args s = true := X.1.2.2.2.2 w h
/-! ### fields -/
theorem us_get {ci N : Nat} {C : String} {T : u_T} (hu : ∀ w ∈ u_ws C T N, w ∈ wB) (hc : usCl[ci]? = some (C, T, N)) (X : us_X p s m args c cc nL own D tys A) (Y : us_Y D A ws s H locs) {a : Nat} (q0 : Nat) {fs : List Value} (he : ws[q0]? = some (a, .inr (ci, fs))) (k : Nat) (hk : k < N) {idx : Nat} (hl : Cond.fieldLink own idx (T k).1 (T k).2.1 (T k).2.2.1 ∈ wB) {v : Value} (hv : fs[k]? = some v) (hdg : decode cc pc = .ok (.getfield idx, 3))
    (kk : W p l e R s m args below meth c H locs cells slots Q (F0 m (pc + 3) ls (v :: rest))) : W p l e R s m args below meth c H locs cells slots Q (F0 m pc ls (.ref a :: rest)) :=
  va_get X.x X.b X.1.2.2.2.2 hu X.o X.2.1 Y.1 q0 he hc k hk (X.w hl) (fun _ h => h) hv hdg kk
theorem us_gU (X : us_X p s m args c cc nL own D tys A) (Y : us_Y D A ws s H locs) {a : Nat} (q0 : Nat) {fs : List Value} (he : ws[q0]? = some (a, .inr (0, fs))) (k : Nat) (hk : k < 9) {idx : Nat} (hl : Cond.fieldLink own idx (FU k).1 (FU k).2.1 (FU k).2.2.1 ∈ wB) {v : Value} (hv : fs[k]? = some v) (hdg : decode cc pc = .ok (.getfield idx, 3))
    (kk : W p l e R s m args below meth c H locs cells slots Q (F0 m (pc + 3) ls (v :: rest))) : W p l e R s m args below meth c H locs cells slots Q (F0 m pc ls (.ref a :: rest)) :=
  us_get (C := RU) (T := FU) (N := 9) uB_U rfl X Y q0 he k hk hl hv hdg kk
theorem us_gM (X : us_X p s m args c cc nL own D tys A) (Y : us_Y D A ws s H locs) {a : Nat} (q0 : Nat) {fs : List Value} (he : ws[q0]? = some (a, .inr (1, fs))) (k : Nat) (hk : k < 11) {idx : Nat} (hl : Cond.fieldLink own idx (FM k).1 (FM k).2.1 (FM k).2.2.1 ∈ wB) {v : Value} (hv : fs[k]? = some v) (hdg : decode cc pc = .ok (.getfield idx, 3))
    (kk : W p l e R s m args below meth c H locs cells slots Q (F0 m (pc + 3) ls (v :: rest))) : W p l e R s m args below meth c H locs cells slots Q (F0 m pc ls (.ref a :: rest)) :=
  us_get (C := RM) (T := FM) (N := 11) uB_M rfl X Y q0 he k hk hl hv hdg kk
theorem us_put {ci N : Nat} {C : String} {T : u_T} {ty0 : Nat → FieldType} (hu : ∀ w ∈ u_ws C T N, w ∈ wB) (hc : usCl[ci]? = some (C, T, N)) (hty : ∀ k, k < N → parseFieldDescriptor (T k).2.2.1 = some (ty0 k)) (hnm : ∀ a, a < N → ∀ b, b < N → a ≠ b → (T a).2.1 ≠ (T b).2.1)
    (X : us_X p s m args c cc nL own D tys A) (Y : us_Y D A ws s H locs) {a : Nat} (q0 : Nat) {fs : List Value} (he : ws[q0]? = some (a, .inr (ci, fs))) (k : Nat) (hk : k < N) {idx : Nat} (hl : Cond.fieldLink own idx (T k).1 (T k).2.1 (T k).2.2.1 ∈ wB) (hfin : (T k).2.2.2 = false) {v : Value} (hn : narrow (ty0 k) v = v) (hfit : fits (ty0 k) v = true) (hlen : k < fs.length) (hdg : decode cc pc = .ok (.putfield idx, 3))
    (kk : ∀ (H1 : Heap) (locs1 : List Loc), us_Y D A (ws.set q0 (a, .inr (ci, fs.set k v))) s H1 locs1 → W p l e R s m args below meth c H1 locs1 cells slots Q (F0 m (pc + 3) ls rest)) : W p l e R s m args below meth c H locs cells slots Q (F0 m pc ls (v :: .ref a :: rest)) :=
  va_put X.x X.b X.1.2.2.2.2 hu ty0 hty hnm X.o X.2.1 Y.1 Y.2.1 Y.2.2 q0 he hc k hk (X.w hl) (fun _ h => h) hfin (hty k hk) hn hfit hlen hdg (fun H1 locs1 g1 g2 g3 => kk H1 locs1 ⟨g1, g2, g3⟩)
theorem us_pU (X : us_X p s m args c cc nL own D tys A) (Y : us_Y D A ws s H locs) {a : Nat} (q0 : Nat) {fs : List Value} (he : ws[q0]? = some (a, .inr (0, fs))) (k : Nat) (hk : k < 9) {idx : Nat} (hl : Cond.fieldLink own idx (FU k).1 (FU k).2.1 (FU k).2.2.1 ∈ wB) (hfin : (FU k).2.2.2 = false) {v : Value} (hn : narrow (tU k) v = v) (hfit : fits (tU k) v = true) (hlen : k < fs.length) (hdg : decode cc pc = .ok (.putfield idx, 3))
    (kk : ∀ (H1 : Heap) (locs1 : List Loc), us_Y D A (ws.set q0 (a, .inr (0, fs.set k v))) s H1 locs1 → W p l e R s m args below meth c H1 locs1 cells slots Q (F0 m (pc + 3) ls rest)) : W p l e R s m args below meth c H locs cells slots Q (F0 m pc ls (v :: .ref a :: rest)) :=
  us_put (C := RU) (T := FU) (N := 9) uB_U rfl tU_ok nmU X Y q0 he k hk hl hfin hn hfit hlen hdg kk
theorem us_pM (X : us_X p s m args c cc nL own D tys A) (Y : us_Y D A ws s H locs) {a : Nat} (q0 : Nat) {fs : List Value} (he : ws[q0]? = some (a, .inr (1, fs))) (k : Nat) (hk : k < 11) {idx : Nat} (hl : Cond.fieldLink own idx (FM k).1 (FM k).2.1 (FM k).2.2.1 ∈ wB) (hfin : (FM k).2.2.2 = false) {v : Value} (hn : narrow (tM k) v = v) (hfit : fits (tM k) v = true) (hlen : k < fs.length) (hdg : decode cc pc = .ok (.putfield idx, 3))
    (kk : ∀ (H1 : Heap) (locs1 : List Loc), us_Y D A (ws.set q0 (a, .inr (1, fs.set k v))) s H1 locs1 → W p l e R s m args below meth c H1 locs1 cells slots Q (F0 m (pc + 3) ls rest)) : W p l e R s m args below meth c H locs cells slots Q (F0 m pc ls (v :: .ref a :: rest)) :=
  us_put (C := RM) (T := FM) (N := 11) uB_M rfl tM_ok nmM X Y q0 he k hk hl hfin hn hfit hlen hdg kk
theorem us_putF {ci N : Nat} {C : String} {T : u_T} {ty0 : Nat → FieldType} (hu : ∀ w ∈ u_ws C T N, w ∈ wB) (hc : usCl[ci]? = some (C, T, N)) (hty : ∀ k, k < N → parseFieldDescriptor (T k).2.2.1 = some (ty0 k)) (hnm : ∀ a, a < N → ∀ b, b < N → a ≠ b → (T a).2.1 ≠ (T b).2.1)
    (X : us_X p s m args c cc nL own D tys A) (Y : us_Y D A ws s H locs) {a : Nat} (q0 : Nat) {fs : List Value} (he : ws[q0]? = some (a, .inr (ci, fs))) (k : Nat) (hk : k < N) {idx : Nat} (hl : Cond.fieldLink own idx (T k).1 (T k).2.1 (T k).2.2.1 ∈ wB) (hfin : (T k).2.2.2 = true) (hin2 : meth.name = "<init>") (hdecl : (T k).1 = own) {v : Value} (hn : narrow (ty0 k) v = v) (hfit : fits (ty0 k) v = true) (hlen : k < fs.length) (hdg : decode cc pc = .ok (.putfield idx, 3))
    (kk : ∀ (H1 : Heap) (locs1 : List Loc), us_Y D A (ws.set q0 (a, .inr (ci, fs.set k v))) s H1 locs1 → W p l e R s m args below meth c H1 locs1 cells slots Q (F0 m (pc + 3) ls rest)) : W p l e R s m args below meth c H locs cells slots Q (F0 m pc ls (v :: .ref a :: rest)) :=
  va_putF X.x X.b X.1.2.2.2.2 hu ty0 hty hnm X.o X.2.1 Y.1 Y.2.1 Y.2.2 q0 he hc k hk (X.w hl) (fun _ h => h) hfin hin2 hdecl (hty k hk) hn hfit hlen hdg (fun H1 locs1 g1 g2 g3 => kk H1 locs1 ⟨g1, g2, g3⟩)
/-! ### arrays -/
theorem us_ia (X : us_X p s m args c cc nL own D tys A) (Y : us_Y D A ws s H locs) {a : Nat} (q0 t0 : Nat) {cA : ClassId} {n : Nat} {f : Nat → Int32} (he : ws[q0]? = some (a, .inl (cA, n, .inl f))) (ht : tys[t0]? = some (cA, .int)) {i : Nat} (hi : i < n) (hn : n < 2 ^ 31) (hdg : decode cc pc = .ok (.iaload, 1))
    (kk : W p l e R s m args below meth c H locs cells slots Q (F0 m (pc + 1) ls (.int (f i) :: rest))) : W p l e R s m args below meth c H locs cells slots Q (F0 m pc ls (.int (nI i) :: .ref a :: rest)) := by
  refine va_iald X.x X.b X.2.1 Y.1 q0 t0 he ht (vp_in_nI hi hn) hdg ?_
  rw [nI_clamp (by omega)]
  exact kk
theorem us_za (X : us_X p s m args c cc nL own D tys A) (Y : us_Y D A ws s H locs) {a : Nat} (q0 t0 : Nat) {cA : ClassId} {n : Nat} {f : Nat → Int32} (he : ws[q0]? = some (a, .inl (cA, n, .inl f))) (ht : tys[t0]? = some (cA, .boolean)) {i : Nat} (hi : i < n) (hn : n < 2 ^ 31) (hdg : decode cc pc = .ok (.baload, 1))
    (kk : W p l e R s m args below meth c H locs cells slots Q (F0 m (pc + 1) ls (.int (f i) :: rest))) : W p l e R s m args below meth c H locs cells slots Q (F0 m pc ls (.int (nI i) :: .ref a :: rest)) := by
  refine va_zald X.x X.b X.2.1 Y.1 q0 t0 he ht (vp_in_nI hi hn) hdg ?_
  rw [nI_clamp (by omega)]
  exact kk
theorem us_is (X : us_X p s m args c cc nL own D tys A) (Y : us_Y D A ws s H locs) {a : Nat} (q0 t0 : Nat) {cA : ClassId} {n : Nat} {f : Nat → Int32} (he : ws[q0]? = some (a, .inl (cA, n, .inl f))) (ht : tys[t0]? = some (cA, .int)) {i : Nat} {x : Int32} (hi : i < n) (hn : n < 2 ^ 31) (hdg : decode cc pc = .ok (.iastore, 1))
    (kk : ∀ (H1 : Heap) (locs1 : List Loc), us_Y D A (ws.set q0 (a, .inl (cA, n, .inl (upd f i x)))) s H1 locs1 → W p l e R s m args below meth c H1 locs1 cells slots Q (F0 m (pc + 1) ls rest)) : W p l e R s m args below meth c H locs cells slots Q (F0 m pc ls (.int x :: .int (nI i) :: .ref a :: rest)) := by
  refine va_iast X.x X.b X.2.1 Y.1 Y.2.1 Y.2.2 q0 t0 he ht (vp_in_nI hi hn) hdg (fun H1 locs1 g1 g2 g3 => ?_)
  rw [nI_clamp (by omega)] at g1 g2
  exact kk H1 locs1 ⟨g1, g2, g3⟩
theorem us_zs (X : us_X p s m args c cc nL own D tys A) (Y : us_Y D A ws s H locs) {a : Nat} (q0 t0 : Nat) {cA : ClassId} {n : Nat} {f : Nat → Int32} (he : ws[q0]? = some (a, .inl (cA, n, .inl f))) (ht : tys[t0]? = some (cA, .boolean)) {i : Nat} {x : Int32} (hi : i < n) (hn : n < 2 ^ 31) (hdg : decode cc pc = .ok (.bastore, 1))
    (kk : ∀ (H1 : Heap) (locs1 : List Loc), us_Y D A (ws.set q0 (a, .inl (cA, n, .inl (upd f i (vp_nar .boolean x))))) s H1 locs1 → W p l e R s m args below meth c H1 locs1 cells slots Q (F0 m (pc + 1) ls rest)) : W p l e R s m args below meth c H locs cells slots Q (F0 m pc ls (.int x :: .int (nI i) :: .ref a :: rest)) := by
  refine va_zast X.x X.b X.2.1 Y.1 Y.2.1 Y.2.2 q0 t0 he ht (vp_in_nI hi hn) hdg (fun H1 locs1 g1 g2 g3 => ?_)
  rw [nI_clamp (by omega)] at g1 g2
  exact kk H1 locs1 ⟨g1, g2, g3⟩
theorem us_cp (X : us_X p s m args c cc nL own D tys A) (Y : us_Y D A ws s H locs) {a0 a1 : Nat} (q0 q1 t0 t1 : Nat) {c0 c1 : ClassId} {n0 n1 : Nat} {f g : Nat → Int32} (he0 : ws[q0]? = some (a0, .inl (c0, n0, .inl f))) (he1 : ws[q1]? = some (a1, .inl (c1, n1, .inl g))) (ht0 : tys[t0]? = some (c0, .int)) (ht1 : tys[t1]? = some (c1, .int)) {idx : Nat} (hl : Cond.methodLink own idx arraycopyName ∈ wB)
    {sp dp n : Nat} (hs : sp + n ≤ n0) (hd : dp + n ≤ n1) (hn0 : n0 < 2 ^ 31) (hn1 : n1 < 2 ^ 31) (hsz : ls.size = nL) (hfr : 1 ≤ R.frames) (hlo : (rest.map fun v => v.category).sum + (nativeFrameWords "java/lang/System" "arraycopy" 5 + 11) ≤ R.locals) (hdg : decode cc pc = .ok (.invokestatic idx, 3))
    (kk : ∀ (H1 : Heap) (locs1 : List Loc), us_Y D A (ws.set q1 (a1, .inl (c1, n1, .inl (va_cpy f g sp dp n)))) s H1 locs1 → W p l e R s m args below meth c H1 locs1 cells slots Q (F0 m (pc + 3) ls rest)) : W p l e R s m args below meth c H locs cells slots Q (F0 m pc ls (.int (nI n) :: .int (nI dp) :: .ref a1 :: .int (nI sp) :: .ref a0 :: rest)) := by
  have e1 : (nI sp).toNatClampNeg = sp := nI_clamp (by omega)
  have e2 : (nI dp).toNatClampNeg = dp := nI_clamp (by omega)
  have e3 : (nI n).toNatClampNeg = n := nI_clamp (by omega)
  refine va_copyi X.x X.b (X.ml.trans hsz.symm) X.o (X.w hl) (X.w mB_nat_Sy_arraycopy) (X.w mB_st_Sy_arraycopy) (X.w mB_ini_Sy) X.2.1 Y.1 Y.2.1 Y.2.2 q0 q1 t0 t1 he0 he1 ht0 ht1 rfl (nI_pos (by omega)) (nI_pos (by omega)) (nI_pos (by omega)) (by rw [e1, e3]; exact hs) (by rw [e2, e3]; exact hd) (fun _ _ => rfl) hfr hlo hdg (fun H1 locs1 g1 g2 g3 => ?_)
  rw [e1, e2, e3] at g1 g2
  exact kk H1 locs1 ⟨g1, g2, g3⟩
/-! ### numbers -/
theorem us_iadd (X : us_X p s m args c cc nL own D tys A) {a b : Nat} (hdg : decode cc pc = .ok (.iadd, 1)) (kk : W p l e R s m args below meth c H locs cells slots Q (F0 m (pc + 1) ls (.int (nI (a + b)) :: rest))) : W p l e R s m args below meth c H locs cells slots Q (F0 m pc ls (.int (nI b) :: .int (nI a) :: rest)) :=
  lv_iadd X.x X.b hdg (by rw [nI_add]; exact kk)
theorem us_imul (X : us_X p s m args c cc nL own D tys A) {a b : Nat} (hdg : decode cc pc = .ok (.imul, 1)) (kk : W p l e R s m args below meth c H locs cells slots Q (F0 m (pc + 1) ls (.int (nI (a * b)) :: rest))) : W p l e R s m args below meth c H locs cells slots Q (F0 m pc ls (.int (nI b) :: .int (nI a) :: rest)) :=
  lv_imul X.x X.b hdg (by rw [pk_mul]; exact kk)
theorem us_isub (X : us_X p s m args c cc nL own D tys A) {a b : Nat} (h : b ≤ a) (hdg : decode cc pc = .ok (.isub, 1)) (kk : W p l e R s m args below meth c H locs cells slots Q (F0 m (pc + 1) ls (.int (nI (a - b)) :: rest))) : W p l e R s m args below meth c H locs cells slots Q (F0 m pc ls (.int (nI b) :: .int (nI a) :: rest)) :=
  lv_isub X.x X.b hdg (by rw [pk_sub h]; exact kk)
theorem us_cge (X : us_X p s m args c cc nL own D tys A) {a b : Nat} (ha : a < 2 ^ 31) (hb : b < 2 ^ 31) {off : Int} {tgt : Nat} (hdg : decode cc pc = .ok (.if_icmp .ge off, 3)) (ht : (pc : Int) + off = (tgt : Int)) (kt : b ≤ a → W p l e R s m args below meth c H locs cells slots Q (F0 m tgt ls rest)) (kf : a < b → W p l e R s m args below meth c H locs cells slots Q (F0 m (pc + 3) ls rest)) : W p l e R s m args below meth c H locs cells slots Q (F0 m pc ls (.int (nI b) :: .int (nI a) :: rest)) :=
  lv_icmp_ge X.x X.b hdg ht (fun h => kt ((nI_leI hb ha).mp h)) (fun h => kf (Nat.not_le.mp (fun z => h ((nI_leI hb ha).mpr z))))
theorem us_clt (X : us_X p s m args c cc nL own D tys A) {a b : Nat} (ha : a < 2 ^ 31) (hb : b < 2 ^ 31) {off : Int} {tgt : Nat} (hdg : decode cc pc = .ok (.if_icmp .lt off, 3)) (ht : (pc : Int) + off = (tgt : Int)) (kt : a < b → W p l e R s m args below meth c H locs cells slots Q (F0 m tgt ls rest)) (kf : b ≤ a → W p l e R s m args below meth c H locs cells slots Q (F0 m (pc + 3) ls rest)) : W p l e R s m args below meth c H locs cells slots Q (F0 m pc ls (.int (nI b) :: .int (nI a) :: rest)) :=
  lv_icmp_lt X.x X.b hdg ht (fun h => kt ((nI_ltI ha hb).mp h)) (fun h => kf (Nat.not_lt.mp (fun z => h ((nI_ltI ha hb).mpr z))))
theorem us_cgt (X : us_X p s m args c cc nL own D tys A) {a b : Nat} (ha : a < 2 ^ 31) (hb : b < 2 ^ 31) {off : Int} {tgt : Nat} (hdg : decode cc pc = .ok (.if_icmp .gt off, 3)) (ht : (pc : Int) + off = (tgt : Int)) (kt : b < a → W p l e R s m args below meth c H locs cells slots Q (F0 m tgt ls rest)) (kf : a ≤ b → W p l e R s m args below meth c H locs cells slots Q (F0 m (pc + 3) ls rest)) : W p l e R s m args below meth c H locs cells slots Q (F0 m pc ls (.int (nI b) :: .int (nI a) :: rest)) :=
  lv_icmp_gt X.x X.b hdg ht (fun h => kt ((nI_ltI hb ha).mp h)) (fun h => kf (Nat.not_lt.mp (fun z => h ((nI_ltI hb ha).mpr z))))
theorem us_cle (X : us_X p s m args c cc nL own D tys A) {a b : Nat} (ha : a < 2 ^ 31) (hb : b < 2 ^ 31) {off : Int} {tgt : Nat} (hdg : decode cc pc = .ok (.if_icmp .le off, 3)) (ht : (pc : Int) + off = (tgt : Int)) (kt : a ≤ b → W p l e R s m args below meth c H locs cells slots Q (F0 m tgt ls rest)) (kf : b < a → W p l e R s m args below meth c H locs cells slots Q (F0 m (pc + 3) ls rest)) : W p l e R s m args below meth c H locs cells slots Q (F0 m pc ls (.int (nI b) :: .int (nI a) :: rest)) :=
  lv_icmp_le X.x X.b hdg ht (fun h => kt ((nI_leI ha hb).mp h)) (fun h => kf (Nat.not_le.mp (fun z => h ((nI_leI ha hb).mpr z))))
theorem us_ceq (X : us_X p s m args c cc nL own D tys A) {a b : Nat} (ha : a < 2 ^ 31) (hb : b < 2 ^ 31) {off : Int} {tgt : Nat} (hdg : decode cc pc = .ok (.if_icmp .eq off, 3)) (ht : (pc : Int) + off = (tgt : Int)) (kt : a = b → W p l e R s m args below meth c H locs cells slots Q (F0 m tgt ls rest)) (kf : a ≠ b → W p l e R s m args below meth c H locs cells slots Q (F0 m (pc + 3) ls rest)) : W p l e R s m args below meth c H locs cells slots Q (F0 m pc ls (.int (nI b) :: .int (nI a) :: rest)) :=
  lv_icmp_eq X.x X.b hdg ht (fun h => kt ((nI_eq ha hb).mp h)) (fun h => kf (fun z => h ((nI_eq ha hb).mpr z)))
theorem us_cne (X : us_X p s m args c cc nL own D tys A) {a b : Nat} (ha : a < 2 ^ 31) (hb : b < 2 ^ 31) {off : Int} {tgt : Nat} (hdg : decode cc pc = .ok (.if_icmp .ne off, 3)) (ht : (pc : Int) + off = (tgt : Int)) (kt : a ≠ b → W p l e R s m args below meth c H locs cells slots Q (F0 m tgt ls rest)) (kf : a = b → W p l e R s m args below meth c H locs cells slots Q (F0 m (pc + 3) ls rest)) : W p l e R s m args below meth c H locs cells slots Q (F0 m pc ls (.int (nI b) :: .int (nI a) :: rest)) :=
  lv_icmp_ne X.x X.b hdg ht (fun h => kt (fun z => h ((nI_eq ha hb).mpr z))) (fun h => kf ((nI_eq ha hb).mp h))
/-- a number against 0 -/
theorem us_zeq (X : us_X p s m args c cc nL own D tys A) {a : Nat} (ha : a < 2 ^ 31) {off : Int} {tgt : Nat} (hdg : decode cc pc = .ok (.ifCond .eq off, 3)) (ht : (pc : Int) + off = (tgt : Int)) (kt : a = 0 → W p l e R s m args below meth c H locs cells slots Q (F0 m tgt ls rest)) (kf : 0 < a → W p l e R s m args below meth c H locs cells slots Q (F0 m (pc + 3) ls rest)) : W p l e R s m args below meth c H locs cells slots Q (F0 m pc ls (.int (nI a) :: rest)) :=
  lv_if_eq X.x X.b hdg ht (fun h => kt ((nI_eq ha (by decide)).mp (h.trans nI_0.symm))) (fun h => kf (Nat.pos_of_ne_zero (fun z => h (by rw [z]; exact nI_0))))
theorem us_zne (X : us_X p s m args c cc nL own D tys A) {a : Nat} (ha : a < 2 ^ 31) {off : Int} {tgt : Nat} (hdg : decode cc pc = .ok (.ifCond .ne off, 3)) (ht : (pc : Int) + off = (tgt : Int)) (kt : 0 < a → W p l e R s m args below meth c H locs cells slots Q (F0 m tgt ls rest)) (kf : a = 0 → W p l e R s m args below meth c H locs cells slots Q (F0 m (pc + 3) ls rest)) : W p l e R s m args below meth c H locs cells slots Q (F0 m pc ls (.int (nI a) :: rest)) :=
  lv_if_ne X.x X.b hdg ht (fun h => kt (Nat.pos_of_ne_zero (fun z => h (by rw [z]; exact nI_0)))) (fun h => kf ((nI_eq ha (by decide)).mp (h.trans nI_0.symm)))
theorem us_zle (X : us_X p s m args c cc nL own D tys A) {a : Nat} (ha : a < 2 ^ 31) {off : Int} {tgt : Nat} (hdg : decode cc pc = .ok (.ifCond .le off, 3)) (ht : (pc : Int) + off = (tgt : Int)) (kt : a = 0 → W p l e R s m args below meth c H locs cells slots Q (F0 m tgt ls rest)) (kf : 0 < a → W p l e R s m args below meth c H locs cells slots Q (F0 m (pc + 3) ls rest)) : W p l e R s m args below meth c H locs cells slots Q (F0 m pc ls (.int (nI a) :: rest)) :=
  lv_if_le X.x X.b hdg ht (fun h => kt (Decidable.byContradiction (fun z => nI_nle (Nat.pos_of_ne_zero z) ha h))) (fun h => kf (Nat.pos_of_ne_zero (fun z => h (by rw [z]; decide))))
/-- a truth value that is known -/
theorem us_eq1 (X : us_X p s m args c cc nL own D tys A) {off : Int} {tgt : Nat} (hdg : decode cc pc = .ok (.ifCond .eq off, 3)) (ht : (pc : Int) + off = (tgt : Int)) (k : W p l e R s m args below meth c H locs cells slots Q (F0 m (pc + 3) ls rest)) : W p l e R s m args below meth c H locs cells slots Q (F0 m pc ls (.int (nI 1) :: rest)) := lv_if_eq X.x X.b hdg ht (fun h => absurd h (by decide)) (fun _ => k)
theorem us_eq0 (X : us_X p s m args c cc nL own D tys A) {off : Int} {tgt : Nat} (hdg : decode cc pc = .ok (.ifCond .eq off, 3)) (ht : (pc : Int) + off = (tgt : Int)) (k : W p l e R s m args below meth c H locs cells slots Q (F0 m tgt ls rest)) : W p l e R s m args below meth c H locs cells slots Q (F0 m pc ls (.int (nI 0) :: rest)) := lv_if_eq X.x X.b hdg ht (fun _ => k) (fun h => absurd nI_0 h)
theorem us_ne1 (X : us_X p s m args c cc nL own D tys A) {off : Int} {tgt : Nat} (hdg : decode cc pc = .ok (.ifCond .ne off, 3)) (ht : (pc : Int) + off = (tgt : Int)) (k : W p l e R s m args below meth c H locs cells slots Q (F0 m tgt ls rest)) : W p l e R s m args below meth c H locs cells slots Q (F0 m pc ls (.int (nI 1) :: rest)) := lv_if_ne X.x X.b hdg ht (fun _ => k) (fun h => absurd h (by decide))
theorem us_ne0 (X : us_X p s m args c cc nL own D tys A) {off : Int} {tgt : Nat} (hdg : decode cc pc = .ok (.ifCond .ne off, 3)) (ht : (pc : Int) + off = (tgt : Int)) (k : W p l e R s m args below meth c H locs cells slots Q (F0 m (pc + 3) ls rest)) : W p l e R s m args below meth c H locs cells slots Q (F0 m pc ls (.int (nI 0) :: rest)) := lv_if_ne X.x X.b hdg ht (fun h => absurd nI_0 h) (fun _ => k)
/-! ### ends -/
theorem us_iret {S : Type} {post : Int32 → S → Prop} {wf : S → va_W} {u : S} {v : Int32} (X : us_X p s m args c cc nL own D tys A) (Y : us_Y D A (wf u) s H locs) (hr : meth.sig.returnType = some .int) (hlocks : meth.locks = false) (hp : post v u) (hdg : decode cc pc = .ok (.ireturn, 1)) :
    W p l e R s m args below meth c H locs cells slots (MQ below (va_Qi post (fun u t => us_Z D tys A (wf u) t) A) args s cells slots A) (F0 m pc ls [.int v]) :=
  W.iret X.x X.b hr (fun t ht hW => ⟨⟨v, u, rfl, hp, by rw [ht]; exact Y.1, va_K.moved hW.alike X.2.1, Y.2.1⟩, Y.2.2.F ht⟩) Y.2.2.2.2 hdg hlocks
theorem us_zret {S : Type} {post : Int32 → S → Prop} {wf : S → va_W} {u : S} {v : Int32} (X : us_X p s m args c cc nL own D tys A) (Y : us_Y D A (wf u) s H locs) (hr : meth.sig.returnType = some .boolean) (hlocks : meth.locks = false) (hn : narrow .boolean (.int v) = .int v) (hp : post v u) (hdg : decode cc pc = .ok (.ireturn, 1)) :
    W p l e R s m args below meth c H locs cells slots (MQ below (va_Qi post (fun u t => us_Z D tys A (wf u) t) A) args s cells slots A) (F0 m pc ls [.int v]) :=
  W.zret X.x X.b hr hn (fun t ht hW => ⟨⟨v, u, rfl, hp, by rw [ht]; exact Y.1, va_K.moved hW.alike X.2.1, Y.2.1⟩, Y.2.2.F ht⟩) Y.2.2.2.2 hdg hlocks
theorem us_vret {S : Type} {post : S → Prop} {wf : S → va_W} {u : S} (X : us_X p s m args c cc nL own D tys A) (Y : us_Y D A (wf u) s H locs) (hr : meth.sig.returnType = none) (hlocks : meth.locks = false) (hp : post u) (hdg : decode cc pc = .ok (.return_, 1)) :
    W p l e R s m args below meth c H locs cells slots (MQ below (va_Qv post (fun u t => us_Z D tys A (wf u) t) A) args s cells slots A) (F0 m pc ls []) :=
  W.vret X.x X.b hr (fun t ht hW => ⟨⟨u, rfl, hp, by rw [ht]; exact Y.1, va_K.moved hW.alike X.2.1, Y.2.1⟩, Y.2.2.F ht⟩) Y.2.2.2.2 hdg hlocks
end USR
end
section
/-! 08.calls (a draft, not yet compiled): contracts in one form, the entry of a method, the call of a method. -/
section USC
variable {p : Program} {l : Launch} {e : Env} {R : Room} {s : State} {m : MethodId} {args : Array Value} {below : List Frame} {meth : Method} {c : Code} {H : Heap} {locs : List Loc} {cells slots : Nat} {Q : State → Prop}
variable {cc : ByteArray} {nL pc : Nat} {ls : Array Slot} {rest : List Value} {D : va_G} {A : Nat → Prop} {tys : List (ClassId × FieldType)} {ws : va_W} {own : String}
/-- a method with an int (or a truth value) for an answer -/
def us_Ci (l : Launch) (y : MethodName) (bytes : ByteArray) (maxL : Nat) (ret : Option FieldType) (fr lo : Nat) (av : List Value) (D : va_G) (tys : List (ClassId × FieldType)) (ws : va_W) (sz : Nat) {S : Type} (post : Int32 → S → Prop) (wf : S → va_W) : Prop :=
  Met l y (.code y bytes maxL ret :: wB) { frames := fr, cells := 0, slots := 0, locals := lo } (va_Pc av (us_P D tys ws sz)) (va_Qi post (fun u t => us_Z D tys (va_A ws sz) (wf u) t) (va_A ws sz)) 0 0 (va_A ws sz)
/-- a method without an answer -/
def us_Cv (l : Launch) (y : MethodName) (bytes : ByteArray) (maxL : Nat) (fr lo : Nat) (av : List Value) (D : va_G) (tys : List (ClassId × FieldType)) (ws : va_W) (sz : Nat) {S : Type} (post : S → Prop) (wf : S → va_W) : Prop :=
  Met l y (.code y bytes maxL none :: wB) { frames := fr, cells := 0, slots := 0, locals := lo } (va_Pc av (us_P D tys ws sz)) (va_Qv post (fun u t => us_Z D tys (va_A ws sz) (wf u) t) (va_A ws sz)) 0 0 (va_A ws sz)
theorem us_enter {y : MethodName} {bytes : ByteArray} {maxL : Nat} {ret : Option FieldType} {fr lo : Nat} {av : List Value} {sz : Nat} {Qc : Array Value → State → Outcome → State → Prop} (ho : y.cls = own) (hy : plainName y.cls = true) (hlen : (lg_sl av).length ≤ maxL)
    (body : ∀ (p : Program) (e : Env) (s : State) (m : MethodId) (below : List Frame) (meth : Method) (c : Code) (ls : Array Slot), us_X p s m av.toArray c bytes maxL own D tys (va_A ws sz) → us_Y D (va_A ws sz) ws s s.heap [] → meth.sig.returnType = ret → meth.locks = false → lv_has ls maxL (lv_args 0 av) →
      W p l e { frames := fr, cells := 0, slots := 0, locals := lo } s m av.toArray below meth c s.heap [] 0 0 (MQ below Qc av.toArray s 0 0 (va_A ws sz)) (F0 m 0 ls [])) :
    Met l y (.code y bytes maxL ret :: wB) { frames := fr, cells := 0, slots := 0, locals := lo } (va_Pc av (us_P D tys ws sz)) Qc 0 0 (va_A ws sz) := by
  refine Met.ofW (cc := bytes) (maxL := maxL) (ret := ret) hy rfl ?_
  intro p e s m args below meth c s₁ B hml hv
  obtain ⟨rfl, hsz, hP, hK, hD0⟩ := hv
  have hts := atoms_spec (ws := Cond.code y bytes maxL ret :: wB) B.pre
  have hl := lv_entry av (n := maxL) hlen
  rw [lg_entry_eq]
  generalize (lg_sl av ++ List.replicate (maxL - (lg_sl av).length) Slot.unset).toArray = ls at hl ⊢
  exact body p e s m below meth c ls ⟨⟨B.exec, B.bytes, hml, ho ▸ findClass_of_methodNamed B.named, fun w h => hts w (List.mem_cons_of_mem _ h)⟩, hK, fun q h => Or.inr (by omega)⟩ ⟨hP, hD0.self, va_S.rf⟩ B.returns B.notSynchronized hl
theorem us_fm {α : Type} {f : Nat → Option α} : ∀ {is : List Nat} {w : List α}, is.map f = w.map some → is.filterMap f = w
  | [], [], _ => rfl
  | [], _ :: _, h => by simp at h
  | _ :: _, [], h => by simp at h
  | i :: is, x :: w, h => by
    simp only [List.map_cons, List.cons.injEq] at h
    rw [List.filterMap_cons, h.1, us_fm h.2]
theorem us_blind {av : List Value} {sz : Nat} : FrameBlind (va_Pc av (us_P D tys ws sz)) := fun a U g mk q => by
  obtain ⟨q0, q1, qP, qK, qD⟩ := q
  exact ⟨q0, q1, qP, va_K.moved (u := U) (U := U.calling g mk a) (Vm.Alike.refl U.vm) qK, qD⟩
theorem wB_v {idx maxL : Nat} {C : String} {y : MethodName} {bytes : ByteArray} {ret : Option FieldType} (h1 : Cond.methodLink own idx y ∈ wB) (h2 : Cond.instanceMethod y ∈ wB) (h3 : Cond.selects C y y ∈ wB) (h4 : Cond.initialized C ∈ wB) (h5 : Cond.code y bytes maxL ret ∈ wB) : GoodIn wB (wsV own idx C y (.code y bytes maxL ret :: wB)) := fun w hw => by
  have hm : w ∈ wB := by
    unfold wsV at hw
    rcases List.mem_append.mp hw with h | h
    · simp only [List.mem_cons, List.not_mem_nil, or_false] at h
      rcases h with rfl | rfl | rfl | rfl
      · exact h1
      · exact h2
      · exact h3
      · exact h4
    · rcases List.mem_cons.mp h with rfl | h
      · exact h5
      · exact h
  exact ⟨hm, good_of_word (List.mem_filter.mp hm).2⟩
theorem wB_s {idx maxL : Nat} {y : MethodName} {bytes : ByteArray} {ret : Option FieldType} (h1 : Cond.methodLink own idx y ∈ wB) (h2 : Cond.static y ∈ wB) (h4 : Cond.initialized own ∈ wB) (h5 : Cond.code y bytes maxL ret ∈ wB) : GoodIn wB (wsS own idx y (.code y bytes maxL ret :: wB)) := fun w hw => by
  have hm : w ∈ wB := by
    unfold wsS at hw
    rcases List.mem_append.mp hw with h | h
    · simp only [List.mem_cons, List.not_mem_nil, or_false] at h
      rcases h with rfl | rfl | rfl
      · exact h1
      · exact h2
      · exact h4
    · rcases List.mem_cons.mp h with rfl | h
      · exact h5
      · exact h
  exact ⟨hm, good_of_word (List.mem_filter.mp hm).2⟩
/-- what a virtual call needs beside its contract -/
def us_V (own C : String) (idx n : Nat) (y : MethodName) (bytes : ByteArray) (maxL : Nat) (ret : Option FieldType) : Prop :=
  Cond.methodLink own idx y ∈ wB ∧ Cond.instanceMethod y ∈ wB ∧ Cond.selects C y y ∈ wB ∧ Cond.initialized C ∈ wB ∧ Cond.code y bytes maxL ret ∈ wB ∧ (y.cls = C ∧ y.cls ≠ "java/lang/invoke/MethodHandle" ∧ y.cls ≠ "java/lang/invoke/VarHandle" ∧ (parseMethodDescriptor y.desc).map (fun d => d.parameters.length) = some n)
/-- where the callee's cells lie in the caller's world -/
def us_I (ws wc wr : va_W) (tys tys' : List (ClassId × FieldType)) (isC isR tI : List Nat) : Prop :=
  isC.map (fun i => ws[i]?) = wc.map some ∧ isR.map (fun i => ws[i]?) = wr.map some ∧ va_nd isC = true ∧ va_nd isR = true ∧ (∀ i ∈ isR, i ∉ isC) ∧ tI.filterMap (fun i => tys[i]?) = tys'
theorem us_vi (X : us_X p s m args c cc nL own D tys A) (Y : us_Y D A ws s H locs) {y : MethodName} {bytes : ByteArray} {maxL : Nat} {ret : Option FieldType} {fr lo b : Nat} {As : List Value} {tys' : List (ClassId × FieldType)} {wc wr : va_W} {S : Type} {post : Int32 → S → Prop} {wf : S → va_W}
    (hM : us_Ci l y bytes maxL ret fr lo (.ref b :: As) D tys' wc H.size post wf) {isC isR tI : List Nat} (hI : us_I ws wc wr tys tys' isC isR tI) {ci N : Nat} {C : String} {T : u_T} {fs : List Value} (q0 : Nat) (hb : wc[q0]? = some (b, .inr (ci, fs))) (hcl : usCl[ci]? = some (C, T, N))
    {idx n : Nat} (hV : us_V own C idx n y bytes maxL ret) (hAs : As.length = n) (hRm : fr + 1 ≤ R.frames ∧ 8 + (maxL + 11) + lo ≤ R.locals) (hf : cells ≤ R.cells ∧ slots ≤ R.slots) (hsz : ls.size = nL) {st : List Value} (hst : st = As.reverse ++ .ref b :: rest) (hrest : (rest.map fun v => v.category).sum ≤ 8) (hdg : decode cc pc = .ok (.invokevirtual idx, 3))
    (kk : ∀ (r : Int32) (u : S) (H1 : Heap) (locs1 : List Loc), post r u → us_Y D A (wr ++ wf u) s H1 locs1 → W p l e R s m args below meth c H1 locs1 cells slots Q (F0 m (pc + 3) ls (.int r :: rest))) : W p l e R s m args below meth c H locs cells slots Q (F0 m pc ls st) := by
  subst hst
  obtain ⟨hC, hR, hnC, hnR, hdis, hT⟩ := hI
  obtain ⟨v1, v2, v3, v4, v5, v6⟩ := hV
  have hFc := va_free (wc := wc) Y.2.1 Y.2.2 X.2.2 isC hC
  have hPc : va_P D usCl wc H := Y.1.sub isC (us_fm hC)
  have hDc := Y.2.1.sub (ws' := wc) isC hnC hC
  have hKc : va_K D usCl tys' s := X.2.1.sub tI hT
  refine va_calli (va_runV (As := As) (rest := rest) X.1 hM (cwV n X.1.2.2.2.2 (wB_v v1 v2 v3 v4 v5) rfl rfl rfl v6 hRm) ⟨us_blind, va_recv hKc hPc hcl hb, fun U hU hW => ⟨rfl, by rw [hU], by rw [hU]; exact hPc, va_K.moved hW.alike hKc, hDc.weaken (fun _ _ _ _ => trivial)⟩⟩ rfl hAs hsz rfl (lv_room hrest) hdg hf) Y.2.2 (fun q _ h => hFc q h) hFc (fun r u t H1 locs1 ht hvm hw hB hz1 hk1 hS => ?_)
  obtain ⟨hP1, hK1, hD1⟩ := hB
  rw [ht] at hP1
  obtain ⟨hP, hD⟩ := va_join (wc := wc) (wr := wr) (w1 := wf u) Y.1 Y.2.1 isC isR hC hR hnR hdis hk1 hFc hP1 hD1
  exact kk r u H1 locs1 hw ⟨hP, hD, hS⟩
theorem us_vv (X : us_X p s m args c cc nL own D tys A) (Y : us_Y D A ws s H locs) {y : MethodName} {bytes : ByteArray} {maxL : Nat} {fr lo b : Nat} {As : List Value} {tys' : List (ClassId × FieldType)} {wc wr : va_W} {S : Type} {post : S → Prop} {wf : S → va_W}
    (hM : us_Cv l y bytes maxL fr lo (.ref b :: As) D tys' wc H.size post wf) {isC isR tI : List Nat} (hI : us_I ws wc wr tys tys' isC isR tI) {ci N : Nat} {C : String} {T : u_T} {fs : List Value} (q0 : Nat) (hb : wc[q0]? = some (b, .inr (ci, fs))) (hcl : usCl[ci]? = some (C, T, N))
    {idx n : Nat} (hV : us_V own C idx n y bytes maxL none) (hAs : As.length = n) (hRm : fr + 1 ≤ R.frames ∧ 8 + (maxL + 11) + lo ≤ R.locals) (hf : cells ≤ R.cells ∧ slots ≤ R.slots) (hsz : ls.size = nL) {st : List Value} (hst : st = As.reverse ++ .ref b :: rest) (hrest : (rest.map fun v => v.category).sum ≤ 8) (hdg : decode cc pc = .ok (.invokevirtual idx, 3))
    (kk : ∀ (u : S) (H1 : Heap) (locs1 : List Loc), post u → us_Y D A (wr ++ wf u) s H1 locs1 → W p l e R s m args below meth c H1 locs1 cells slots Q (F0 m (pc + 3) ls rest)) : W p l e R s m args below meth c H locs cells slots Q (F0 m pc ls st) := by
  subst hst
  obtain ⟨hC, hR, hnC, hnR, hdis, hT⟩ := hI
  obtain ⟨v1, v2, v3, v4, v5, v6⟩ := hV
  have hFc := va_free (wc := wc) Y.2.1 Y.2.2 X.2.2 isC hC
  have hPc : va_P D usCl wc H := Y.1.sub isC (us_fm hC)
  have hDc := Y.2.1.sub (ws' := wc) isC hnC hC
  have hKc : va_K D usCl tys' s := X.2.1.sub tI hT
  refine va_callv (va_runV (As := As) (rest := rest) X.1 hM (cwV n X.1.2.2.2.2 (wB_v v1 v2 v3 v4 v5) rfl rfl rfl v6 hRm) ⟨us_blind, va_recv hKc hPc hcl hb, fun U hU hW => ⟨rfl, by rw [hU], by rw [hU]; exact hPc, va_K.moved hW.alike hKc, hDc.weaken (fun _ _ _ _ => trivial)⟩⟩ rfl hAs hsz rfl (lv_room hrest) hdg hf) Y.2.2 (fun q _ h => hFc q h) hFc (fun u t H1 locs1 ht hvm hw hB hz1 hk1 hS => ?_)
  obtain ⟨hP1, hK1, hD1⟩ := hB
  rw [ht] at hP1
  obtain ⟨hP, hD⟩ := va_join (wc := wc) (wr := wr) (w1 := wf u) Y.1 Y.2.1 isC isR hC hR hnR hdis hk1 hFc hP1 hD1
  exact kk u H1 locs1 hw ⟨hP, hD, hS⟩
/-- a static call that touches no cell -/
theorem us_si (X : us_X p s m args c cc nL own D tys A) (Y : us_Y D A ws s H locs) {y : MethodName} {bytes : ByteArray} {maxL : Nat} {ret : Option FieldType} {fr lo : Nat} {As : List Value} {post : Int32 → Unit → Prop}
    (hM : us_Ci l y bytes maxL ret fr lo As D [] [] H.size post (fun _ => [])) {isR : List Nat} (hI : us_I ws [] ws tys [] [] isR []) {idx n : Nat} (h1 : Cond.methodLink own idx y ∈ wB) (h2 : Cond.static y ∈ wB) (h4 : Cond.initialized own ∈ wB) (h5 : Cond.code y bytes maxL ret ∈ wB)
    (hd : y.cls = own ∧ y.cls ≠ "java/lang/invoke/MethodHandle" ∧ y.cls ≠ "java/lang/invoke/VarHandle" ∧ (parseMethodDescriptor y.desc).map (fun d => d.parameters.length) = some n) (hAs : As.length = n) (hRm : fr + 1 ≤ R.frames ∧ 8 + (maxL + 11) + lo ≤ R.locals) (hf : cells ≤ R.cells ∧ slots ≤ R.slots) (hsz : ls.size = nL) {st : List Value} (hst : st = As.reverse ++ rest) (hrest : (rest.map fun v => v.category).sum ≤ 8) (hdg : decode cc pc = .ok (.invokestatic idx, 3))
    (kk : ∀ (r : Int32) (H1 : Heap) (locs1 : List Loc), post r () → us_Y D A ws s H1 locs1 → W p l e R s m args below meth c H1 locs1 cells slots Q (F0 m (pc + 3) ls (.int r :: rest))) : W p l e R s m args below meth c H locs cells slots Q (F0 m pc ls st) := by
  subst hst
  obtain ⟨hC, hR, hnC, hnR, hdis, hT⟩ := hI
  have hFc := va_free (wc := []) Y.2.1 Y.2.2 X.2.2 [] rfl
  have hPc : va_P D usCl [] H := Y.1.sub [] rfl
  have hDc := Y.2.1.sub (ws' := []) [] rfl rfl
  have hKc : va_K D usCl [] s := X.2.1.sub [] rfl
  refine va_calli (va_runS (As := As) (rest := rest) X.1 hM (cwS n X.1.2.2.2.2 (wB_s h1 h2 h4 h5) rfl rfl rfl hd hRm) ⟨us_blind, fun U hU hW => ⟨rfl, by rw [hU], by rw [hU]; exact hPc, va_K.moved hW.alike hKc, hDc.weaken (fun _ _ _ _ => trivial)⟩⟩ rfl hAs hsz rfl (lv_room hrest) hdg hf) Y.2.2 (fun q _ h => hFc q h) hFc (fun r u t H1 locs1 ht hvm hw hB hz1 hk1 hS => ?_)
  obtain ⟨hP1, hK1, hD1⟩ := hB
  rw [ht] at hP1
  obtain ⟨hP, hD⟩ := va_join (wc := []) (wr := ws) (w1 := []) Y.1 Y.2.1 [] isR rfl hR hnR hdis hk1 hFc hP1 hD1
  rw [List.append_nil] at hP hD
  exact kk r H1 locs1 hw ⟨hP, hD, hS⟩
end USC
end
section
/-! 09.sites: what each virtual call needs of the words. -/
theorem cv_L_87 : us_V RL RU 87 1 yU_count cU_count 2 (some .int) := ⟨mB_ml_L_87, mB_im_U_count, mB_sel_U_count, mB_ini_U, mB_code_U_count, by decide +kernel⟩
theorem cv_U_94 : us_V RU RU 94 1 yU_countNone cU_countNone 4 (some .int) := ⟨mB_ml_U_94, mB_im_U_countNone, mB_sel_U_countNone, mB_ini_U, mB_code_U_countNone, by decide +kernel⟩
theorem cv_U_83 : us_V RU RU 83 2 yU_isNone cU_isNone 3 (some .boolean) := ⟨mB_ml_U_83, mB_im_U_isNone, mB_sel_U_isNone, mB_ini_U, mB_code_U_isNone, by decide +kernel⟩
theorem cv_L_7 : us_V RL RU 7 4 yU_insert cU_insert 7 (some .int) := ⟨mB_ml_L_7, mB_im_U_insert, mB_sel_U_insert, mB_ini_U, mB_code_U_insert, by decide +kernel⟩
theorem cv_U_41 : us_V RU RU 41 1 yU_hasRoomFor cU_hasRoomFor 2 (some .boolean) := ⟨mB_ml_U_41, mB_im_U_hasRoomFor, mB_sel_U_hasRoomFor, mB_ini_U, mB_code_U_hasRoomFor, by decide +kernel⟩
theorem cv_U_45 : us_V RU RU 45 3 yU_mayBeInserted cU_mayBeInserted 4 (some .boolean) := ⟨mB_ml_U_45, mB_im_U_mayBeInserted, mB_sel_U_mayBeInserted, mB_ini_U, mB_code_U_mayBeInserted, by decide +kernel⟩
theorem cv_U_80 : us_V RU RU 80 2 yU_rowWithKey cU_rowWithKey 4 (some .int) := ⟨mB_ml_U_80, mB_im_U_rowWithKey, mB_sel_U_rowWithKey, mB_ini_U, mB_code_U_rowWithKey, by decide +kernel⟩
theorem cv_U_77 : us_V RU RU 77 3 yU_holds cU_holds 4 (some .boolean) := ⟨mB_ml_U_77, mB_im_U_holds, mB_sel_U_holds, mB_ini_U, mB_code_U_holds, by decide +kernel⟩
theorem cv_U_52 : us_V RU RU 52 2 yU_keepChange cU_keepChange 3 none := ⟨mB_ml_U_52, mB_im_U_keepChange, mB_sel_U_keepChange, mB_ini_U, mB_code_U_keepChange, by decide +kernel⟩
theorem cv_L_17 : us_V RL RU 17 4 yU_set cU_set 6 none := ⟨mB_ml_L_17, mB_im_U_set, mB_sel_U_set, mB_ini_U, mB_code_U_set, by decide +kernel⟩
theorem cv_U_59 : us_V RU RU 59 1 yU_isRow cU_isRow 2 (some .boolean) := ⟨mB_ml_U_59, mB_im_U_isRow, mB_sel_U_isRow, mB_ini_U, mB_code_U_isRow, by decide +kernel⟩
theorem cv_U_65 : us_V RU RU 65 4 yU_maySet cU_maySet 6 (some .boolean) := ⟨mB_ml_U_65, mB_im_U_maySet, mB_sel_U_maySet, mB_ini_U, mB_code_U_maySet, by decide +kernel⟩
theorem cv_L_23 : us_V RL RU 23 1 yU_remove cU_remove 2 none := ⟨mB_ml_L_23, mB_im_U_remove, mB_sel_U_remove, mB_ini_U, mB_code_U_remove, by decide +kernel⟩
theorem cv_U_69 : us_V RU RU 69 1 yU_takeOut cU_takeOut 2 none := ⟨mB_ml_U_69, mB_im_U_takeOut, mB_sel_U_takeOut, mB_ini_U, mB_code_U_takeOut, by decide +kernel⟩
theorem cv_U_97 : us_V RU RU 97 1 yU_closeRow cU_closeRow 3 none := ⟨mB_ml_U_97, mB_im_U_closeRow, mB_sel_U_closeRow, mB_ini_U, mB_code_U_closeRow, by decide +kernel⟩
theorem cv_L_27 : us_V RL RU 27 2 yU_removeAll cU_removeAll 5 (some .int) := ⟨mB_ml_L_27, mB_im_U_removeAll, mB_sel_U_removeAll, mB_ini_U, mB_code_U_removeAll, by decide +kernel⟩
theorem cv_U_73 : us_V RU RU 73 2 yU_countRowsWith cU_countRowsWith 5 (some .int) := ⟨mB_ml_U_73, mB_im_U_countRowsWith, mB_sel_U_countRowsWith, mB_ini_U, mB_code_U_countRowsWith, by decide +kernel⟩
theorem cv_L_31 : us_V RL RU 31 2 yU_find cU_find 3 (some .int) := ⟨mB_ml_L_31, mB_im_U_find, mB_sel_U_find, mB_ini_U, mB_code_U_find, by decide +kernel⟩
theorem cv_L_34 : us_V RL RU 34 2 yU_value cU_value 3 (some .int) := ⟨mB_ml_L_34, mB_im_U_value, mB_sel_U_value, mB_ini_U, mB_code_U_value, by decide +kernel⟩
theorem cv_L_37 : us_V RL RU 37 1 yU_mark cU_mark 2 none := ⟨mB_ml_L_37, mB_im_U_mark, mB_sel_U_mark, mB_ini_U, mB_code_U_mark, by decide +kernel⟩
theorem cv_L_40 : us_V RL RU 40 1 yU_back cU_back 5 none := ⟨mB_ml_L_40, mB_im_U_back, mB_sel_U_back, mB_ini_U, mB_code_U_back, by decide +kernel⟩
theorem cv_U_87 : us_V RU RU 87 1 yU_latestPoint cU_latestPoint 3 (some .int) := ⟨mB_ml_U_87, mB_im_U_latestPoint, mB_sel_U_latestPoint, mB_ini_U, mB_code_U_latestPoint, by decide +kernel⟩
theorem cv_U_91 : us_V RU RU 91 1 yU_undo cU_undo 3 none := ⟨mB_ml_U_91, mB_im_U_undo, mB_sel_U_undo, mB_ini_U, mB_code_U_undo, by decide +kernel⟩
theorem cv_U_106 : us_V RU RU 106 1 yU_openRow cU_openRow 3 none := ⟨mB_ml_U_106, mB_im_U_openRow, mB_sel_U_openRow, mB_ini_U, mB_code_U_openRow, by decide +kernel⟩
theorem cv_L_43 : us_V RL RU 43 1 yU_release cU_release 3 none := ⟨mB_ml_L_43, mB_im_U_release, mB_sel_U_release, mB_ini_U, mB_code_U_release, by decide +kernel⟩
theorem cv_L_56 : us_V RL RM 56 0 yM_thrown cM_thrown 1 (some .int) := ⟨mB_ml_L_56, mB_im_M_thrown, mB_sel_M_thrown, mB_ini_M, mB_code_M_thrown, by decide +kernel⟩
theorem cv_L_55 : us_V RL RM 55 4 yM_insert cM_insert 7 (some .int) := ⟨mB_ml_L_55, mB_im_M_insert, mB_sel_M_insert, mB_ini_M, mB_code_M_insert, by decide +kernel⟩
theorem cv_M_45 : us_V RM RM 45 1 yM_no cM_no 2 (some .int) := ⟨mB_ml_M_45, mB_im_M_no, mB_sel_M_no, mB_ini_M, mB_code_M_no, by decide +kernel⟩
theorem cv_M_49 : us_V RM RM 49 1 yM_isFull cM_isFull 2 (some .boolean) := ⟨mB_ml_M_49, mB_im_M_isFull, mB_sel_M_isFull, mB_ini_M, mB_code_M_isFull, by decide +kernel⟩
theorem cv_M_53 : us_V RM RM 53 2 yM_row cM_row 4 (some .int) := ⟨mB_ml_M_53, mB_im_M_row, mB_sel_M_row, mB_ini_M, mB_code_M_row, by decide +kernel⟩
theorem cv_M_57 : us_V RM RM 57 0 yM_changed cM_changed 1 none := ⟨mB_ml_M_57, mB_im_M_changed, mB_sel_M_changed, mB_ini_M, mB_code_M_changed, by decide +kernel⟩
theorem cv_L_63 : us_V RL RM 63 4 yM_set cM_set 6 none := ⟨mB_ml_L_63, mB_im_M_set, mB_sel_M_set, mB_ini_M, mB_code_M_set, by decide +kernel⟩
theorem cv_M_60 : us_V RM RM 60 1 yM_isRow cM_isRow 2 (some .boolean) := ⟨mB_ml_M_60, mB_im_M_isRow, mB_sel_M_isRow, mB_ini_M, mB_code_M_isRow, by decide +kernel⟩
theorem cv_L_67 : us_V RL RM 67 1 yM_remove cM_remove 2 none := ⟨mB_ml_L_67, mB_im_M_remove, mB_sel_M_remove, mB_ini_M, mB_code_M_remove, by decide +kernel⟩
theorem cv_M_63 : us_V RM RM 63 1 yM_take cM_take 3 none := ⟨mB_ml_M_63, mB_im_M_take, mB_sel_M_take, mB_ini_M, mB_code_M_take, by decide +kernel⟩
theorem cv_L_71 : us_V RL RM 71 2 yM_removeAll cM_removeAll 5 (some .int) := ⟨mB_ml_L_71, mB_im_M_removeAll, mB_sel_M_removeAll, mB_ini_M, mB_code_M_removeAll, by decide +kernel⟩
theorem cv_L_74 : us_V RL RM 74 2 yM_find cM_find 3 (some .int) := ⟨mB_ml_L_74, mB_im_M_find, mB_sel_M_find, mB_ini_M, mB_code_M_find, by decide +kernel⟩
theorem cv_L_77 : us_V RL RM 77 2 yM_value cM_value 3 (some .int) := ⟨mB_ml_L_77, mB_im_M_value, mB_sel_M_value, mB_ini_M, mB_code_M_value, by decide +kernel⟩
theorem cv_L_80 : us_V RL RM 80 1 yM_mark cM_mark 3 none := ⟨mB_ml_L_80, mB_im_M_mark, mB_sel_M_mark, mB_ini_M, mB_code_M_mark, by decide +kernel⟩
theorem cv_L_83 : us_V RL RM 83 1 yM_back cM_back 4 none := ⟨mB_ml_L_83, mB_im_M_back, mB_sel_M_back, mB_ini_M, mB_code_M_back, by decide +kernel⟩
theorem cv_M_67 : us_V RM RM 67 1 yM_point cM_point 3 (some .int) := ⟨mB_ml_M_67, mB_im_M_point, mB_sel_M_point, mB_ini_M, mB_code_M_point, by decide +kernel⟩
theorem cv_L_86 : us_V RL RM 86 1 yM_release cM_release 3 none := ⟨mB_ml_L_86, mB_im_M_release, mB_sel_M_release, mB_ini_M, mB_code_M_release, by decide +kernel⟩
theorem cv_L_91 : us_V RL RM 91 1 yM_count cM_count 2 (some .int) := ⟨mB_ml_L_91, mB_im_M_count, mB_sel_M_count, mB_ini_M, mB_code_M_count, by decide +kernel⟩
theorem cv_M_70 : us_V RM RM 70 1 yM_nones cM_nones 4 (some .int) := ⟨mB_ml_M_70, mB_im_M_nones, mB_sel_M_nones, mB_ini_M, mB_code_M_nones, by decide +kernel⟩
end
section
/-! 10.worlds: the class's cells and the reference's; ends of walks by short names. -/
abbrev uW (ad : Nat → Nat) (cI : ClassId) (C : Nat → Int32) (n : Nat) (PN CA : Nat → Int32) (np : Nat) (CK CR CB : Nat → Int32) (k : Nat) : va_W := [(ad 0, .inr (0, [.ref (ad 1), .int (nI n), .ref (ad 2), .ref (ad 3), .int (nI np), .ref (ad 4), .ref (ad 5), .ref (ad 6), .int (nI k)])), (ad 1, .inl (cI, 480, .inl C)), (ad 2, .inl (cI, 20, .inl PN)), (ad 3, .inl (cI, 20, .inl CA)), (ad 4, .inl (cI, 200, .inl CK)), (ad 5, .inl (cI, 200, .inl CR)), (ad 6, .inl (cI, 800, .inl CB))]
abbrev mW (ad : Nat → Nat) (cI cZ : ClassId) (th : Int32) (n np k : Nat) (V KV I KI PN KR KC : Nat → Int32) : va_W := [(ad 0, .inr (1, [.int th, .int (nI n), .int (nI np), .int (nI k), .ref (ad 1), .ref (ad 2), .ref (ad 3), .ref (ad 4), .ref (ad 5), .ref (ad 6), .ref (ad 7)])), (ad 1, .inl (cI, 363, .inl V)), (ad 2, .inl (cI, 7200, .inl KV)), (ad 3, .inl (cZ, 363, .inl I)), (ad 4, .inl (cZ, 7200, .inl KI)), (ad 5, .inl (cI, 20, .inl PN)), (ad 6, .inl (cI, 20, .inl KR)), (ad 7, .inl (cI, 20, .inl KC))]
abbrev tyU (cI : ClassId) : List (ClassId × FieldType) := [(cI, .int)]
abbrev tyM (cI cZ : ClassId) : List (ClassId × FieldType) := [(cI, .int), (cZ, .boolean)]
abbrev po_b (P : Prop) : Int32 → Unit → Prop := fun r _ => (r = nI 1 ∧ P) ∨ (r = nI 0 ∧ ¬ P)
abbrev us_Qi {S : Type} (below : List Frame) (post : Int32 → S → Prop) (D : va_G) (tys : List (ClassId × FieldType)) (A : Nat → Prop) (wf : S → va_W) (av : List Value) (s : State) : State → Prop := MQ below (va_Qi post (fun u t => us_Z D tys A (wf u) t) A) av.toArray s 0 0 A
abbrev us_Qv {S : Type} (below : List Frame) (post : S → Prop) (D : va_G) (tys : List (ClassId × FieldType)) (A : Nat → Prop) (wf : S → va_W) (av : List Value) (s : State) : State → Prop := MQ below (va_Qv post (fun u t => us_Z D tys A (wf u) t) A) av.toArray s 0 0 A
theorem us_I7 {ad : Nat → Nat} {cI : ClassId} {C PN CA CK CR CB : Nat → Int32} {n np k : Nat} : us_I (uW ad cI C n PN CA np CK CR CB k) (uW ad cI C n PN CA np CK CR CB k) [] (tyU cI) (tyU cI) [0, 1, 2, 3, 4, 5, 6] [] [0] := ⟨rfl, rfl, rfl, rfl, fun _ h => (by cases h), rfl⟩
theorem us_I8 {ad : Nat → Nat} {cI cZ : ClassId} {th : Int32} {n np k : Nat} {V KV I KI PN KR KC : Nat → Int32} : us_I (mW ad cI cZ th n np k V KV I KI PN KR KC) (mW ad cI cZ th n np k V KV I KI PN KR KC) [] (tyM cI cZ) (tyM cI cZ) [0, 1, 2, 3, 4, 5, 6, 7] [] [0, 1] := ⟨rfl, rfl, rfl, rfl, fun _ h => (by cases h), rfl⟩
theorem us_I0 {ad : Nat → Nat} {cI : ClassId} {C PN CA CK CR CB : Nat → Int32} {n np k : Nat} : us_I (uW ad cI C n PN CA np CK CR CB k) [] (uW ad cI C n PN CA np CK CR CB k) (tyU cI) [] [] [0, 1, 2, 3, 4, 5, 6] [] := ⟨rfl, rfl, rfl, rfl, fun _ _ h => (by cases h), rfl⟩
theorem us_dec (x : Int32) : x + Int32.ofInt (-1) = x - 1 := by rw [Int32.sub_eq_add_neg]; rfl
theorem us_inc (a : Nat) : nI a + Int32.ofInt 1 = nI (a + 1) := nI_1 a
theorem us_inc5 (a : Nat) : nI a + Int32.ofInt 5 = nI (a + 5) := nI_add a 5
theorem us_lt3 {x : Int32} {N : Nat} (h1 : ¬ x < 0) (h2 : ¬ nI N ≤ x) : ∃ c, c < N ∧ x = nI c := by
  obtain ⟨j, hj, e⟩ := nI_of h1
  subst e
  exact ⟨j, Nat.not_le.mp (fun z => h2 (nI_le z hj)), rfl⟩
theorem us_le2 {x : Int32} {N : Nat} (hN : N < 2 ^ 31) (h1 : ¬ x < 0) (h2 : x ≤ nI N) : ∃ c, c < N + 1 ∧ x = nI c := by
  obtain ⟨j, hj, e⟩ := nI_of h1
  subst e
  exact ⟨j, Nat.lt_succ_of_le ((nI_leI hj hN).mp h2), rfl⟩
theorem us_nlt {n : Nat} {x : Int32} (h : x < 0) : ¬ ∃ i, i < n ∧ n < 2 ^ 31 ∧ x = nI i := fun ⟨i, hi, hn, e⟩ => nI_pos (n := i) (by omega) (e ▸ h)
theorem us_plt {d : Nat} (h : d < 2 ^ 31) : nI d - 1 < nI d := by
  cases d with
  | zero => decide
  | succ d => rw [nI_pred]; exact nI_lt (by omega) h
theorem us_neg {x : Int32} (h : ¬ 0 ≤ x) : x < 0 := Int32.not_le.mp h
theorem us_nneg {x : Int32} (h : 0 ≤ x) : ¬ x < 0 := Int32.not_lt.mpr h
section USB
variable {p : Program} {l : Launch} {e : Env} {R : Room} {s : State} {m : MethodId} {args : Array Value} {below : List Frame} {meth : Method} {c : Code} {H : Heap} {locs : List Loc} {cells slots : Nat} {Q : State → Prop}
variable {cc : ByteArray} {nL pc : Nat} {ls : Array Slot} {rest : List Value} {D : va_G} {A : Nat → Prop} {tys : List (ClassId × FieldType)} {ws : va_W} {own : String}
/-- x ? 1 : 0, as javac lays it -/
theorem us_beq (X : us_X p s m args c cc nL own D tys A) {x : Int32} {o1 o2 : Int} {t : Nat} (d0 : decode cc pc = .ok (.ifCond .eq o1, 3)) (h0 : (pc : Int) + o1 = (t : Int)) (d1 : decode cc (pc + 3) = .ok (.iconst 1, 1)) (d2 : decode cc (pc + 3 + 1) = .ok (.goto o2, 3)) (h2 : ((pc + 3 + 1 : Nat) : Int) + o2 = ((t + 1 : Nat) : Int)) (d3 : decode cc t = .ok (.iconst 0, 1))
    (kk : ∀ y : Int32, (y = nI 1 ∧ ¬ x = 0) ∨ (y = nI 0 ∧ x = 0) → W p l e R s m args below meth c H locs cells slots Q (F0 m (t + 1) ls (.int y :: rest))) : W p l e R s m args below meth c H locs cells slots Q (F0 m pc ls (.int x :: rest)) :=
  lv_if_eq X.x X.b d0 h0 (fun h => lv_iconst (v := nI 0) X.x X.b d3 (by decide) (kk _ (Or.inr ⟨rfl, h⟩))) (fun h => lv_iconst (v := nI 1) X.x X.b d1 (by decide) (lv_goto X.x X.b d2 h2 (kk _ (Or.inl ⟨rfl, h⟩))))
theorem us_bne (X : us_X p s m args c cc nL own D tys A) {x : Int32} {o1 o2 : Int} {t : Nat} (d0 : decode cc pc = .ok (.ifCond .ne o1, 3)) (h0 : (pc : Int) + o1 = (t : Int)) (d1 : decode cc (pc + 3) = .ok (.iconst 1, 1)) (d2 : decode cc (pc + 3 + 1) = .ok (.goto o2, 3)) (h2 : ((pc + 3 + 1 : Nat) : Int) + o2 = ((t + 1 : Nat) : Int)) (d3 : decode cc t = .ok (.iconst 0, 1))
    (kk : ∀ y : Int32, (y = nI 1 ∧ x = 0) ∨ (y = nI 0 ∧ ¬ x = 0) → W p l e R s m args below meth c H locs cells slots Q (F0 m (t + 1) ls (.int y :: rest))) : W p l e R s m args below meth c H locs cells slots Q (F0 m pc ls (.int x :: rest)) :=
  lv_if_ne X.x X.b d0 h0 (fun h => lv_iconst (v := nI 0) X.x X.b d3 (by decide) (kk _ (Or.inr ⟨rfl, h⟩))) (fun h => lv_iconst (v := nI 1) X.x X.b d1 (by decide) (lv_goto X.x X.b d2 h2 (kk _ (Or.inl ⟨rfl, h⟩))))
end USB
end
section
/-! 11.bits: pasted out of kit/laws/BITS.to-paste: Int32 by its bits -/
def bt (x : Int32) (i : Nat) : Bool := x.toBitVec.getLsbD i
theorem b_ext {x y : Int32} (h : ∀ i, i < 32 → bt x i = bt y i) : x = y := Int32.toBitVec_inj.mp (BitVec.eq_of_getLsbD_eq (fun i hi => h i hi))
theorem b_or (x y : Int32) (i : Nat) : bt (x ||| y) i = (bt x i || bt y i) := by unfold bt; rw [Int32.toBitVec_or, BitVec.getLsbD_or]
theorem b_and (x y : Int32) (i : Nat) : bt (x &&& y) i = (bt x i && bt y i) := by unfold bt; rw [Int32.toBitVec_and, BitVec.getLsbD_and]
theorem b_xor (x y : Int32) (i : Nat) : bt (x ^^^ y) i = (bt x i ^^ bt y i) := by unfold bt; rw [Int32.toBitVec_xor, BitVec.getLsbD_xor]
theorem b_m1 : ∀ i, i < 32 → bt (-1) i = true := by decide +kernel
theorem b_0 (i : Nat) : bt 0 i = false := BitVec.getLsbD_zero
theorem nf_sh : ∀ l, l < 32 → ((1 : Int32) <<< (nI l &&& 31)).toBitVec = BitVec.twoPow 32 l := by decide +kernel
theorem nf_tp : ∀ l, l < 32 → BitVec.twoPow 32 l ≠ 0#32 := by decide +kernel
end
section
/-! 02.state (a draft, not yet compiled): the state in words. T: a table (row, column) of values or none; n rows; k changes kept; np points, each with its name nm, its rows sn, its table sT, its changes sk. -/
abbrev us_T : Type := Nat → Nat → Option Int32
def us_eq (n : Nat) (T T' : us_T) : Prop := ∀ r c, r < n → c < 3 → T r c = T' r c
theorem us_eq.rf {n : Nat} {T : us_T} : us_eq n T T := fun _ _ _ _ => rfl
theorem us_eq.sy {n : Nat} {T T' : us_T} (h : us_eq n T T') : us_eq n T' T := fun r c hr hc => (h r c hr hc).symm
theorem us_eq.tr {n : Nat} {T T' T'' : us_T} (h : us_eq n T T') (h' : us_eq n T' T'') : us_eq n T T'' := fun r c hr hc => (h r c hr hc).trans (h' r c hr hc)
theorem us_eq.le {n m : Nat} {T T' : us_T} (h : us_eq n T T') (hm : m ≤ n) : us_eq m T T' := fun r c hr hc => h r c (Nat.lt_of_lt_of_le hr hm) hc
/-- the bit of a column -/
def us_m (c : Nat) : Int32 := (1 : Int32) <<< (nI c &&& 31)
/-- the class's rows: four ints on end -/
def us_tu (C : Nat → Int32) : us_T := fun r c => if C (r * 4 + 3) &&& us_m c = 0 then none else some (C (r * 4 + c))
/-- the reference's rows: values and flags -/
def us_tm (V I : Nat → Int32) : us_T := fun r c => if I (3 * r + c) = 0 then none else some (V (3 * r + c))
def us_set (T : us_T) (r : Nat) (w : Nat → Option Int32) : us_T := fun i c => if i = r then w c else T i c
def us_ins (T : us_T) (r : Nat) (w : Nat → Option Int32) : us_T := fun i c => if i < r then T i c else if i = r then w c else T (i - 1) c
def us_del (T : us_T) (r : Nat) : us_T := fun i c => if i < r then T i c else T (i + 1) c
/-- the row of an insert -/
def us_row (a b c has : Int32) : Nat → Option Int32 := fun d => if has &&& us_m d = 0 then none else some (if d = 0 then a else if d = 1 then b else c)
/-- one change of the class's log, read backwards: from (n1, T1) to (n0, T0) -/
def us_undo (kd rw : Int32) (w : Nat → Option Int32) (n1 : Nat) (T1 : us_T) (n0 : Nat) (T0 : us_T) : Prop :=
  (kd = 0 ∧ rw = nI n0 ∧ n1 = n0 + 1 ∧ us_eq n0 T1 T0) ∨
  (kd = 1 ∧ n1 = n0 ∧ ∃ r, r < n0 ∧ rw = nI r ∧ us_eq n0 (us_set T1 r w) T0) ∨
  (kd = 2 ∧ n0 = n1 + 1 ∧ n0 ≤ 120 ∧ ∃ r, r < n0 ∧ rw = nI r ∧ us_eq n0 (us_ins T1 r w) T0)
def us_log (k : Nat) (CK CR CB : Nat → Int32) (hn : Nat → Nat) (hT : Nat → us_T) : Prop :=
  ∀ j, j < k → us_undo (CK j) (CR j) (us_tu CB j) (hn (j + 1)) (hT (j + 1)) (hn j) (hT j)
/-- the class's arrays hold the state -/
def us_U (n : Nat) (T : us_T) (k np : Nat) (nm : Nat → Int32) (sn : Nat → Nat) (sT : Nat → us_T) (sk : Nat → Nat) (C PN CA CK CR CB : Nat → Int32) : Prop :=
  n ≤ 120 ∧ np ≤ 20 ∧ k ≤ 200 ∧ (np = 0 → k = 0) ∧ us_eq n (us_tu C) T ∧ (∀ p, p < np → PN p = nm p ∧ CA p = nI (sk p) ∧ sk p ≤ k) ∧ (∀ p q, p ≤ q → q < np → sk p ≤ sk q) ∧
  ∃ (hn : Nat → Nat) (hT : Nat → us_T), hn k = n ∧ us_eq n T (hT k) ∧ us_log k CK CR CB hn hT ∧ ∀ p, p < np → sn p = hn (sk p) ∧ us_eq (sn p) (sT p) (hT (sk p))
/-- the reference's arrays hold the state -/
def us_M (n : Nat) (T : us_T) (k np : Nat) (nm : Nat → Int32) (sn : Nat → Nat) (sT : Nat → us_T) (sk : Nat → Nat) (V KV I KI PN KR KC : Nat → Int32) : Prop :=
  n ≤ 120 ∧ np ≤ 20 ∧ k ≤ 200 ∧ us_eq n (us_tm V I) T ∧ (∀ j, I j = 0 ∨ I j = 1) ∧ (∀ j, KI j = 0 ∨ KI j = 1) ∧
  ∀ p, p < np → PN p = nm p ∧ sn p ≤ 120 ∧ KR p = nI (sn p) ∧ sk p ≤ 200 ∧ KC p = nI (sk p) ∧ us_eq (sn p) (us_tm (fun i => KV (360 * p + i)) (fun i => KI (360 * p + i))) (sT p)
/-- the row with a value in a column: its number, or -1 -/
def us_fd (T : us_T) (c : Nat) (v : Int32) (n : Nat) (ans : Int32) : Prop :=
  (∃ r, r < n ∧ ans = nI r ∧ T r c = some v ∧ ∀ i, i < r → T i c ≠ some v) ∨ (ans = -1 ∧ ∀ i, i < n → T i c ≠ some v)
/-- how many rows have a value in a column; how many have none -/
def us_ct (T : us_T) (c : Nat) (v : Int32) : Nat → Nat
  | 0 => 0
  | n + 1 => us_ct T c v n + if T n c = some v then 1 else 0
def us_cn (T : us_T) (c : Nat) : Nat → Nat
  | 0 => 0
  | n + 1 => us_cn T c n + if T n c = none then 1 else 0
/-- the latest point of a name, or -1 -/
def us_pt (nm : Nat → Int32) (x : Int32) (np : Nat) (ans : Int32) : Prop :=
  (∃ p, p < np ∧ ans = nI p ∧ nm p = x ∧ ∀ q, p < q → q < np → nm q ≠ x) ∨ (ans = -1 ∧ ∀ q, q < np → nm q ≠ x)
theorem us_fd.eq {T T' : us_T} {c : Nat} {v : Int32} {n : Nat} {a : Int32} (hc : c < 3) (h : us_eq n T T') (f : us_fd T c v n a) : us_fd T' c v n a := by
  rcases f with ⟨r, h1, h2, h3, h4⟩ | ⟨h1, h2⟩
  · exact Or.inl ⟨r, h1, h2, by rw [← h r c h1 hc]; exact h3, fun i hi => by rw [← h i c (by omega) hc]; exact h4 i hi⟩
  · exact Or.inr ⟨h1, fun i hi => by rw [← h i c hi hc]; exact h2 i hi⟩
theorem us_fd.one {T : us_T} {c : Nat} {v : Int32} {n : Nat} {a b : Int32} (f : us_fd T c v n a) (g : us_fd T c v n b) : a = b := by
  rcases f with ⟨r, h1, h2, h3, h4⟩ | ⟨h1, h2⟩ <;> rcases g with ⟨q, g1, g2, g3, g4⟩ | ⟨g1, g2⟩
  · rcases Nat.lt_trichotomy r q with h | h | h
    · exact absurd h3 (g4 r h)
    · rw [h2, g2, h]
    · exact absurd g3 (h4 q h)
  · exact absurd h3 (g2 r h1)
  · exact absurd g3 (h2 q g1)
  · rw [h1, g1]
theorem us_fd.neg {T : us_T} {c : Nat} {v : Int32} {n : Nat} {a : Int32} (hn : n < 2 ^ 31) (f : us_fd T c v n a) : a < 0 ↔ ∀ i, i < n → T i c ≠ some v := by
  rcases f with ⟨r, h1, h2, h3, h4⟩ | ⟨h1, h2⟩
  · refine ⟨fun h => absurd h (by rw [h2]; exact nI_pos (by omega)), fun h => absurd h3 (h r h1)⟩
  · exact ⟨fun _ => h2, fun _ => by rw [h1]; decide⟩
theorem us_ct_eq {T T' : us_T} {c : Nat} {v : Int32} (hc : c < 3) : ∀ {n : Nat}, us_eq n T T' → us_ct T c v n = us_ct T' c v n
  | 0, _ => rfl
  | n + 1, h => by
    show us_ct T c v n + _ = us_ct T' c v n + _
    rw [us_ct_eq hc (h.le (Nat.le_succ n)), h n c (Nat.lt_succ_self n) hc]
theorem us_cn_eq {T T' : us_T} {c : Nat} (hc : c < 3) : ∀ {n : Nat}, us_eq n T T' → us_cn T c n = us_cn T' c n
  | 0, _ => rfl
  | n + 1, h => by
    show us_cn T c n + _ = us_cn T' c n + _
    rw [us_cn_eq hc (h.le (Nat.le_succ n)), h n c (Nat.lt_succ_self n) hc]
theorem us_ct_le {T : us_T} {c : Nat} {v : Int32} : ∀ n, us_ct T c v n ≤ n
  | 0 => Nat.le_refl 0
  | n + 1 => by
    show us_ct T c v n + _ ≤ n + 1
    have := us_ct_le (T := T) (c := c) (v := v) n
    split <;> omega
theorem us_cn_le {T : us_T} {c : Nat} : ∀ n, us_cn T c n ≤ n
  | 0 => Nat.le_refl 0
  | n + 1 => by
    show us_cn T c n + _ ≤ n + 1
    have := us_cn_le (T := T) (c := c) n
    split <;> omega
theorem us_pt.one {nm : Nat → Int32} {x : Int32} {n : Nat} {a b : Int32} (f : us_pt nm x n a) (g : us_pt nm x n b) : a = b := by
  rcases f with ⟨r, h1, h2, h3, h4⟩ | ⟨h1, h2⟩ <;> rcases g with ⟨q, g1, g2, g3, g4⟩ | ⟨g1, g2⟩
  · rcases Nat.lt_trichotomy r q with h | h | h
    · exact absurd g3 (h4 q h g1)
    · rw [h2, g2, h]
    · exact absurd h3 (g4 r h h1)
  · exact absurd h3 (g2 r h1)
  · exact absurd g3 (h2 q g1)
  · rw [h1, g1]
theorem us_pt.eq {nm nm' : Nat → Int32} {x : Int32} {n : Nat} {a : Int32} (h : ∀ p, p < n → nm p = nm' p) (f : us_pt nm x n a) : us_pt nm' x n a := by
  rcases f with ⟨r, h1, h2, h3, h4⟩ | ⟨h1, h2⟩
  · exact Or.inl ⟨r, h1, h2, by rw [← h r h1]; exact h3, fun q hq hn => by rw [← h q hn]; exact h4 q hq hn⟩
  · exact Or.inr ⟨h1, fun q hq => by rw [← h q hq]; exact h2 q hq⟩
/-! ### bits (over the family bt of laws/BITS.to-paste) -/
theorem us_bit (b : Int32) {c : Nat} (hc : c < 32) : b &&& us_m c = 0 ↔ bt b c = false := by
  unfold us_m bt
  rw [← Int32.toBitVec_inj, Int32.toBitVec_and, nf_sh c hc, BitVec.and_twoPow]
  cases hb : b.toBitVec.getLsbD c
  · exact ⟨fun _ => rfl, fun _ => by simp⟩
  · exact ⟨fun z => absurd ((if_pos rfl).symm.trans z) (nf_tp c hc), fun z => by cases z⟩
theorem us_mb : ∀ c, c < 3 → ∀ d, d < 3 → bt (us_m c) d = decide (c = d) := by decide +kernel
theorem us_clr (b : Int32) {c d : Nat} (hc : c < 3) (hd : d < 3) : (b &&& (us_m c ^^^ (-1))) &&& us_m d = 0 ↔ (c = d ∨ b &&& us_m d = 0) := by
  rw [us_bit _ (by omega), us_bit _ (by omega), b_and, b_xor, b_m1 d (by omega), us_mb c hc d hd]
  by_cases h : c = d <;> simp [h]
theorem us_sto (b : Int32) {c d : Nat} (hc : c < 3) (hd : d < 3) : (b ||| us_m c) &&& us_m d = 0 ↔ (c ≠ d ∧ b &&& us_m d = 0) := by
  rw [us_bit _ (by omega), us_bit _ (by omega), b_or, us_mb c hc d hd]
  by_cases h : c = d <;> simp [h]
theorem us_b7 : ∀ i, i < 32 → bt 7 i = decide (i < 3) := by decide +kernel
theorem us_b8 : ∀ i, i < 32 → bt (-8) i = decide (3 ≤ i) := by decide +kernel
theorem us_j8 : ∀ j, j < 8 → nI j &&& (-8) = 0 := by decide +kernel
/-- has is good: the class's way of asking -/
theorem us_has (x : Int32) : x &&& (-8) = 0 ↔ ∃ j, j < 8 ∧ x = nI j := by
  refine ⟨fun h => ?_, fun ⟨j, hj, e⟩ => by rw [e]; exact us_j8 j hj⟩
  have e : x = x &&& 7 := b_ext fun i hi => by
    rw [b_and, us_b7 i hi]
    by_cases h3 : i < 3
    · simp [h3]
    · have h8 := b_and x (-8) i
      rw [h, us_b8 i hi, b_0] at h8
      simp [Nat.not_lt.mp h3] at h8
      simp [h8]
  have e2 := pk_and x (m := 7) 3 (by decide)
  exact ⟨x.toBitVec.toNat % 2 ^ 3, Nat.mod_lt _ (by decide), e.trans e2⟩
/-- .. and the reference's -/
theorem us_has2 (x : Int32) : (¬ x < 0 ∧ ¬ 7 < x) ↔ ∃ j, j < 8 ∧ x = nI j := by
  refine ⟨fun ⟨h1, h2⟩ => ?_, fun ⟨j, hj, e⟩ => ?_⟩
  · obtain ⟨j, hj, e⟩ := nI_of2 (M := 7) (n := 7) (by decide) h1 (Int32.not_lt.mp h2)
    exact ⟨j, by omega, e⟩
  · subst e
    exact (by decide +kernel : ∀ j, j < 8 → ¬ nI j < 0 ∧ ¬ 7 < nI j) j hj
/-- the reference's bit of has -/
theorem us_hasb : ∀ j, j < 8 → ∀ c, c < 3 → ((nI j >>> (nI c &&& 31)) &&& 1 = 0 ↔ nI j &&& us_m c = 0) := by decide +kernel
/-! ### the class's rows under copies and stores -/
theorem us_tu_at {C C' : Nat → Int32} {i j c : Nat} (h : ∀ d, d < 4 → C' (i * 4 + d) = C (j * 4 + d)) (hc : c < 3) : us_tu C' i c = us_tu C j c := by
  unfold us_tu
  rw [h 3 (by omega), h c (by omega)]
theorem us_tu_some {C : Nat → Int32} {r c : Nat} (h : ¬ us_tu C r c = none) : us_tu C r c = some (C (r * 4 + c)) := by
  unfold us_tu at h ⊢
  by_cases z : C (r * 4 + 3) &&& us_m c = 0
  · exact absurd (if_pos z) h
  · exact if_neg z
theorem us_close {C : Nat → Int32} {n r : Nat} (hr : r < n) : us_eq (n - 1) (us_tu (va_cpy C C ((r + 1) * 4) (r * 4) ((n - r - 1) * 4))) (us_del (us_tu C) r) := by
  intro i c hi hc
  unfold us_del
  by_cases h : i < r
  · rw [if_pos h]
    exact us_tu_at (fun d hd => pk_cpy_out (Or.inl (by omega))) hc
  · rw [if_neg h]
    exact us_tu_at (fun d hd => by rw [pk_cpy_in (by omega) (by omega)]; congr 1; omega) hc
theorem us_open {C B : Nat → Int32} {n r j : Nat} (hr : r ≤ n) : us_eq (n + 1) (us_tu (va_cpy B (va_cpy C C (r * 4) ((r + 1) * 4) ((n - r) * 4)) (j * 4) (r * 4) 4)) (us_ins (us_tu C) r (us_tu B j)) := by
  intro i c hi hc
  unfold us_ins
  by_cases h : i < r
  · rw [if_pos h]
    exact us_tu_at (fun d hd => by rw [pk_cpy_out (Or.inl (by omega)), pk_cpy_out (Or.inl (by omega))]) hc
  · rw [if_neg h]
    by_cases h2 : i = r
    · rw [if_pos h2]
      subst h2
      exact us_tu_at (fun d hd => by rw [pk_cpy_in (by omega) (by omega)]; congr 1; omega) hc
    · rw [if_neg h2]
      exact us_tu_at (fun d hd => by rw [pk_cpy_out (Or.inr (by omega)), pk_cpy_in (by omega) (by omega)]; congr 1; omega) hc
theorem us_back1 {C B : Nat → Int32} {n r j : Nat} : us_eq n (us_tu (va_cpy B C (j * 4) (r * 4) 4)) (us_set (us_tu C) r (us_tu B j)) := by
  intro i c hi hc
  unfold us_set
  by_cases h : i = r
  · rw [if_pos h]
    subst h
    exact us_tu_at (fun d hd => by rw [pk_cpy_in (by omega) (by omega)]; congr 1; omega) hc
  · rw [if_neg h]
    exact us_tu_at (fun d hd => pk_cpy_out (by omega)) hc
theorem us_keep_new {C B : Nat → Int32} {r k c : Nat} (hc : c < 3) : us_tu (va_cpy C B (r * 4) (k * 4) 4) k c = us_tu C r c :=
  us_tu_at (fun d hd => by rw [pk_cpy_in (by omega) (by omega)]; congr 1; omega) hc
theorem us_keep_old {C B : Nat → Int32} {r k j c : Nat} (hj : j < k) (hc : c < 3) : us_tu (va_cpy C B (r * 4) (k * 4) 4) j c = us_tu B j c :=
  us_tu_at (fun d hd => pk_cpy_out (Or.inl (by omega))) hc
theorem us_set_eq {n r : Nat} {T T' : us_T} {w w' : Nat → Option Int32} (h : us_eq n T T') (hw : ∀ c, c < 3 → w c = w' c) : us_eq n (us_set T r w) (us_set T' r w') := by
  intro i c hi hc
  unfold us_set
  by_cases e : i = r
  · rw [if_pos e, if_pos e, hw c hc]
  · rw [if_neg e, if_neg e, h i c hi hc]
theorem us_ins_eq {n r : Nat} {T T' : us_T} {w w' : Nat → Option Int32} (hr : r ≤ n) (h : us_eq n T T') (hw : ∀ c, c < 3 → w c = w' c) : us_eq (n + 1) (us_ins T r w) (us_ins T' r w') := by
  intro i c hi hc
  unfold us_ins
  by_cases e : i < r
  · rw [if_pos e, if_pos e, h i c (by omega) hc]
  · rw [if_neg e, if_neg e]
    by_cases e2 : i = r
    · rw [if_pos e2, if_pos e2, hw c hc]
    · rw [if_neg e2, if_neg e2, h (i - 1) c (by omega) hc]
theorem us_del_eq {n r : Nat} {T T' : us_T} (h : us_eq n T T') : us_eq (n - 1) (us_del T r) (us_del T' r) := by
  intro i c hi hc
  unfold us_del
  by_cases e : i < r
  · rw [if_pos e, if_pos e, h i c (by omega) hc]
  · rw [if_neg e, if_neg e, h (i + 1) c (by omega) hc]
theorem us_undo.eq {kd rw : Int32} {w w' : Nat → Option Int32} {n1 n0 : Nat} {T1 T1' T0 : us_T} (hw : ∀ c, c < 3 → w c = w' c) (h1 : us_eq n1 T1 T1') (u : us_undo kd rw w n1 T1 n0 T0) : us_undo kd rw w' n1 T1' n0 T0 := by
  rcases u with ⟨a, b, c, d⟩ | ⟨a, b, r, c, d, e⟩ | ⟨a, b, c, r, d, e, f⟩
  · exact Or.inl ⟨a, b, c, (h1.le (by omega)).sy.tr d⟩
  · subst b
    exact Or.inr (Or.inl ⟨a, rfl, r, c, d, (us_set_eq h1.sy (fun c hc => (hw c hc).symm)).tr e⟩)
  · subst b
    exact Or.inr (Or.inr ⟨a, rfl, c, r, d, e, (us_ins_eq (by omega) h1.sy (fun c hc => (hw c hc).symm)).tr f⟩)
theorem us_undo.le {kd rw : Int32} {w : Nat → Option Int32} {n1 n0 : Nat} {T1 T0 : us_T} (u : us_undo kd rw w n1 T1 n0 T0) (h : n1 ≤ 120) : n0 ≤ 120 := by
  rcases u with ⟨a, b, c, d⟩ | ⟨a, b, r, c, d, e⟩ | ⟨a, b, c, r, d, e, f⟩ <;> omega
theorem us_log.le {k : Nat} {CK CR CB : Nat → Int32} {hn : Nat → Nat} {hT : Nat → us_T} (h : us_log k CK CR CB hn hT) (hk : hn k ≤ 120) : ∀ d j, j + d = k → hn j ≤ 120
  | 0, j, e => by rw [show j = k by omega]; exact hk
  | d + 1, j, e => (h j (by omega)).le (us_log.le h hk d (j + 1) (by omega))
end
section
/-! 03.pure (a draft, not yet compiled): what each call does to the state, on both sides. -/
theorem us_undo.eq0 {kd rw : Int32} {w : Nat → Option Int32} {n1 n0 : Nat} {T1 T0 T0' : us_T} (h0 : us_eq n0 T0 T0') (u : us_undo kd rw w n1 T1 n0 T0) : us_undo kd rw w n1 T1 n0 T0' := by
  rcases u with ⟨a, b, c, d⟩ | ⟨a, b, r, c, d, e⟩ | ⟨a, b, c, r, d, e, f⟩
  · exact Or.inl ⟨a, b, c, d.tr h0⟩
  · exact Or.inr (Or.inl ⟨a, b, r, c, d, e.tr h0⟩)
  · exact Or.inr (Or.inr ⟨a, b, c, r, d, e, f.tr h0⟩)
theorem us_up_s {α : Type} {f : Nat → α} {k : Nat} {v : α} : va_up f k v k = v := if_pos rfl
theorem us_up_n {α : Type} {f : Nat → α} {k j : Nat} {v : α} (h : j ≠ k) : va_up f k v j = f j := if_neg h
/-- one change more is kept -/
theorem us_U.push {n : Nat} {T : us_T} {k np : Nat} {nm : Nat → Int32} {sn : Nat → Nat} {sT : Nat → us_T} {sk : Nat → Nat} {C PN CA CK CR CB : Nat → Int32} (h : us_U n T k np nm sn sT sk C PN CA CK CR CB) (hp : 0 < np) (hk : k < 200)
    {n' : Nat} {T' : us_T} {C' : Nat → Int32} {kd : Int32} {r : Nat} (hn' : n' ≤ 120) (hC' : us_eq n' (us_tu C') T') (hu : us_undo kd (nI r) (us_tu C r) n' T' n T) :
    us_U n' T' (k + 1) np nm sn sT sk C' PN CA (upd CK k kd) (upd CR k (nI r)) (va_cpy C CB (r * 4) (k * 4) 4) := by
  obtain ⟨h1, h2, h3, h4, h5, h6, h7, hn, hT, e1, e2, hl, hs⟩ := h
  refine ⟨hn', h2, by omega, by omega, hC', fun p q => ⟨(h6 p q).1, (h6 p q).2.1, by have := (h6 p q).2.2; omega⟩, h7, va_up hn (k + 1) n', va_up hT (k + 1) T', us_up_s, ?_, fun j hj => ?_, fun p q => ?_⟩
  · rw [us_up_s]; exact us_eq.rf
  · by_cases e : j = k
    · subst e
      rw [pk_us, pk_us, us_up_s, us_up_s, us_up_n (by omega), us_up_n (by omega), e1]
      exact (hu.eq0 e2).eq (fun c hc => (us_keep_new hc).symm) us_eq.rf
    · rw [pk_un e, pk_un e, us_up_n (by omega), us_up_n (by omega), us_up_n (by omega), us_up_n (by omega)]
      exact (hl j (by omega)).eq (fun c hc => (us_keep_old (by omega) hc).symm) us_eq.rf
  · have := (h6 p q).2.2
    rw [us_up_n (by omega), us_up_n (by omega)]
    exact hs p q
/-- without points nothing is kept -/
theorem us_U.zero {n : Nat} {T : us_T} {nm : Nat → Int32} {sn : Nat → Nat} {sT : Nat → us_T} {sk : Nat → Nat} {C PN CA CK CR CB : Nat → Int32} (hn : n ≤ 120) (h : us_eq n (us_tu C) T) : us_U n T 0 0 nm sn sT sk C PN CA CK CR CB :=
  ⟨hn, by omega, by omega, fun _ => rfl, h, fun p q => absurd q (Nat.not_lt_zero p), fun p q _ z => absurd z (Nat.not_lt_zero q), fun _ => n, fun _ => T, rfl, us_eq.rf, fun j z => absurd z (Nat.not_lt_zero j), fun p q => absurd q (Nat.not_lt_zero p)⟩
theorem us_U.mark {n : Nat} {T : us_T} {k np : Nat} {nm : Nat → Int32} {sn : Nat → Nat} {sT : Nat → us_T} {sk : Nat → Nat} {C PN CA CK CR CB : Nat → Int32} (h : us_U n T k np nm sn sT sk C PN CA CK CR CB) (hp : np < 20) (x : Int32) :
    us_U n T k (np + 1) (va_up nm np x) (va_up sn np n) (va_up sT np T) (va_up sk np k) C (upd PN np x) (upd CA np (nI k)) CK CR CB := by
  obtain ⟨h1, h2, h3, h4, h5, h6, h7, hn, hT, e1, e2, hl, hs⟩ := h
  refine ⟨h1, by omega, h3, by omega, h5, fun p q => ?_, fun p q hpq hq => ?_, hn, hT, e1, e2, hl, fun p q => ?_⟩
  · by_cases e : p = np
    · subst e
      rw [pk_us, pk_us, us_up_s, us_up_s]
      exact ⟨rfl, rfl, Nat.le_refl _⟩
    · rw [pk_un e, pk_un e, us_up_n e, us_up_n e]
      exact h6 p (by omega)
  · by_cases e : q = np
    · subst e
      rw [us_up_s]
      by_cases e2 : p = q
      · subst e2; rw [us_up_s]; exact Nat.le_refl _
      · rw [us_up_n e2]; exact (h6 p (by omega)).2.2
    · rw [us_up_n e, us_up_n (by omega)]
      exact h7 p q hpq (by omega)
  · by_cases e : p = np
    · subst e
      rw [us_up_s, us_up_s, us_up_s, e1]
      exact ⟨rfl, e2⟩
    · rw [us_up_n e, us_up_n e, us_up_n e]
      exact hs p (by omega)
theorem us_U.back {n : Nat} {T : us_T} {k np : Nat} {nm : Nat → Int32} {sn : Nat → Nat} {sT : Nat → us_T} {sk : Nat → Nat} {C PN CA CK CR CB : Nat → Int32} (h : us_U n T k np nm sn sT sk C PN CA CK CR CB) {p : Nat} (hp : p < np)
    {C' : Nat → Int32} (hC : us_eq (sn p) (us_tu C') (sT p)) : us_U (sn p) (sT p) (sk p) (p + 1) nm sn sT sk C' PN CA CK CR CB := by
  obtain ⟨h1, h2, h3, h4, h5, h6, h7, hn, hT, e1, e2, hl, hs⟩ := h
  have hk := (h6 p hp).2.2
  have hlow : hn (sk p) ≤ 120 := us_log.le hl (by rw [e1]; exact h1) (k - sk p) (sk p) (by omega)
  refine ⟨by rw [(hs p hp).1]; exact hlow, by omega, by omega, by omega, hC, fun q z => ⟨(h6 q (by omega)).1, (h6 q (by omega)).2.1, h7 q p (by omega) hp⟩, fun a b c d => h7 a b c (by omega), hn, hT, (hs p hp).1.symm, (hs p hp).2, fun j hj => hl j (by omega), fun q z => hs q (by omega)⟩
theorem us_U.rel {n : Nat} {T : us_T} {k np : Nat} {nm : Nat → Int32} {sn : Nat → Nat} {sT : Nat → us_T} {sk : Nat → Nat} {C PN CA CK CR CB : Nat → Int32} (h : us_U n T k np nm sn sT sk C PN CA CK CR CB) {p : Nat} (hp : p < np) :
    us_U n T (if p = 0 then 0 else k) p nm sn sT sk C PN CA CK CR CB := by
  obtain ⟨h1, h2, h3, h4, h5, h6, h7, hn, hT, e1, e2, hl, hs⟩ := h
  by_cases e : p = 0
  · subst e
    exact us_U.zero h1 h5
  · rw [if_neg e]
    exact ⟨h1, by omega, h3, fun z => absurd z e, h5, fun q z => h6 q (by omega), fun a b c d => h7 a b c (by omega), hn, hT, e1, e2, hl, fun q z => hs q (by omega)⟩
/-! ### removeAll: from the end -/
def us_ra (c : Nat) (v : Int32) (np : Nat) : Nat → Nat × us_T × Nat → Nat × us_T × Nat
  | 0, s => s
  | r + 1, s => us_ra c v np r (if s.2.1 r c = some v then (s.1 - 1, us_del s.2.1 r, if np = 0 then s.2.2 else s.2.2 + 1) else s)
theorem us_del_lo {T : us_T} {r : Nat} : us_eq r (us_del T r) T := fun i c hi _ => if_pos hi
/-! ### the reference's rows -/
theorem us_tm_at {V V' I I' : Nat → Int32} {i j c : Nat} (h : ∀ d, d < 3 → V' (3 * i + d) = V (3 * j + d) ∧ I' (3 * i + d) = I (3 * j + d)) (hc : c < 3) : us_tm V' I' i c = us_tm V I j c := by
  unfold us_tm
  rw [(h c hc).1, (h c hc).2]
/-- what the loop of take leaves -/
def us_tk (f : Nat → Int32) (r m : Nat) : Nat → Int32 := fun j => if 3 * r ≤ j ∧ j < m then f (j + 3) else f j
theorem us_tk_del {V I : Nat → Int32} {n r : Nat} (hr : r < n) : us_eq (n - 1) (us_tm (us_tk V r (3 * (n - 1))) (us_tk I r (3 * (n - 1)))) (us_del (us_tm V I) r) := by
  intro i c hi hc
  unfold us_del
  by_cases h : i < r
  · rw [if_pos h]
    exact us_tm_at (fun d hd => ⟨if_neg (by omega), if_neg (by omega)⟩) hc
  · rw [if_neg h]
    refine us_tm_at (fun d hd => ?_) hc
    unfold us_tk
    rw [if_pos (by omega), if_pos (by omega), show 3 * i + d + 3 = 3 * (i + 1) + d by omega]
    exact ⟨rfl, rfl⟩
end
section
/-! 13.spec: what each call answers and does to the state, in words: a row for each call; each is a function of its start (.one). code: 0 an answer, else which refusal. -/
def us_k1 (np k : Nat) : Nat := if np = 0 then k else k + 1
def us_ku (np k : Nat) (f : Nat → Int32) (v : Int32) : Nat → Int32 := if np = 0 then f else upd f k v
def us_kc (np k : Nat) (C B : Nat → Int32) (r : Nat) : Nat → Int32 := if np = 0 then B else va_cpy C B (r * 4) (k * 4) 4
theorem us_k1_n {np k : Nat} (h : ¬ np = 0) : us_k1 np k = k + 1 := if_neg h
theorem us_k1_z {np k : Nat} (h : np = 0) : us_k1 np k = k := if_pos h
theorem us_ku_n {np k : Nat} {f : Nat → Int32} {v : Int32} (h : ¬ np = 0) : us_ku np k f v = upd f k v := if_neg h
theorem us_ku_z {np k : Nat} {f : Nat → Int32} {v : Int32} (h : np = 0) : us_ku np k f v = f := if_pos h
theorem us_kc_n {np k : Nat} {C B : Nat → Int32} {r : Nat} (h : ¬ np = 0) : us_kc np k C B r = va_cpy C B (r * 4) (k * 4) 4 := if_neg h
theorem us_kc_z {np k : Nat} {C B : Nat → Int32} {r : Nat} (h : np = 0) : us_kc np k C B r = B := if_pos h
def us_ful (np k m : Nat) : Prop := 0 < np ∧ 200 < k + m
theorem us_ful.no {np k m : Nat} (h : ¬ us_ful np k m) : np = 0 ∨ k + m ≤ 200 := by
  unfold us_ful at h
  omega
theorem us_ful.of {np k m : Nat} (h : ¬ (np = 0 ∨ k + m ≤ 200)) : us_ful np k m := by
  unfold us_ful
  omega
theorem us_ful.out {np k m : Nat} (h : np = 0 ∨ k + m ≤ 200) : ¬ us_ful np k m := by
  unfold us_ful
  omega
theorem us_k1_le {np k : Nat} (hk : k ≤ 200) (h : ¬ us_ful np k 1) : us_k1 np k ≤ 200 := by
  have := us_ful.no h
  unfold us_k1
  split <;> omega
def us_col (x : Int32) : Prop := ∃ c, c < 3 ∧ x = nI c
def us_isr (n : Nat) (x : Int32) : Prop := ∃ i, i < n ∧ x = nI i
def us_ok (has : Int32) : Prop := ∃ j, j < 8 ∧ has = nI j
theorem us_nI {a b : Nat} (ha : a < 2 ^ 31) (hb : b < 2 ^ 31) (h : nI a = nI b) : a = b := (nI_eq ha hb).mp h
/-! insert -/
def us_icf (n : Nat) (T : us_T) (k np : Nat) (a b has : Int32) : Prop := n = 120 ∨ us_ful np k 1 ∨ has &&& 1 = 0 ∨ (∃ i, i < n ∧ T i 0 = some a) ∨ (¬ has &&& 2 = 0 ∧ ∃ i, i < n ∧ T i 1 = some b)
def us_iR (n : Nat) (T : us_T) (k np : Nat) (a b c has : Int32) (code : Nat) (ans : Int32) (n' : Nat) (T' : us_T) (k' : Nat) : Prop :=
  (code = 1 ∧ ¬ us_ok has ∧ n' = n ∧ T' = T ∧ k' = k) ∨ (code = 2 ∧ us_ok has ∧ us_icf n T k np a b has ∧ n' = n ∧ T' = T ∧ k' = k) ∨
  (code = 0 ∧ us_ok has ∧ ¬ us_icf n T k np a b has ∧ ans = nI n ∧ n' = n + 1 ∧ T' = us_set T n (us_row a b c has) ∧ k' = us_k1 np k)
theorem us_iR.one {n : Nat} {T : us_T} {k np : Nat} {a b c has : Int32} {c1 c2 : Nat} {a1 a2 : Int32} {n1 n2 : Nat} {T1 T2 : us_T} {k1 k2 : Nat} (h : us_iR n T k np a b c has c1 a1 n1 T1 k1) (g : us_iR n T k np a b c has c2 a2 n2 T2 k2) : c1 = c2 ∧ (c1 = 0 → a1 = a2) ∧ n1 = n2 ∧ T1 = T2 ∧ k1 = k2 := by
  rcases h with ⟨e1, h1, e2, e3, e4⟩ | ⟨e1, h1, h2, e2, e3, e4⟩ | ⟨e1, h1, h2, h3, e2, e3, e4⟩ <;> rcases g with ⟨f1, g1, f2, f3, f4⟩ | ⟨f1, g1, g2, f2, f3, f4⟩ | ⟨f1, g1, g2, g3, f2, f3, f4⟩
  · exact ⟨e1.trans f1.symm, fun z => absurd (e1.symm.trans z) (by decide), e2.trans f2.symm, e3.trans f3.symm, e4.trans f4.symm⟩
  · exact absurd g1 h1
  · exact absurd g1 h1
  · exact absurd h1 g1
  · exact ⟨e1.trans f1.symm, fun z => absurd (e1.symm.trans z) (by decide), e2.trans f2.symm, e3.trans f3.symm, e4.trans f4.symm⟩
  · exact absurd h2 g2
  · exact absurd h1 g1
  · exact absurd g2 h2
  · exact ⟨e1.trans f1.symm, fun _ => h3.trans g3.symm, e2.trans f2.symm, e3.trans f3.symm, e4.trans f4.symm⟩
/-! set -/
def us_oth (T : us_T) (n c : Nat) (v : Int32) (i : Nat) : Prop := ∃ j, j < n ∧ j ≠ i ∧ T j c = some v ∧ ∀ q, q < j → T q c ≠ some v
def us_sc0 (T : us_T) (n i c : Nat) (v z : Int32) : Prop := (¬ z = 0 ∧ c = 0) ∨ (z = 0 ∧ c < 2 ∧ us_oth T n c v i)
def us_st (T : us_T) (i c : Nat) (v z : Int32) : us_T := us_set T i (fun d => if d = c then (if z = 0 then some v else none) else T i d)
def us_sR (n : Nat) (T : us_T) (k np : Nat) (r co v z : Int32) (code : Nat) (T' : us_T) (k' : Nat) : Prop :=
  (code = 1 ∧ ¬ us_col co ∧ T' = T ∧ k' = k) ∨ (code = 3 ∧ us_col co ∧ ¬ us_isr n r ∧ T' = T ∧ k' = k) ∨
  ∃ i c, i < n ∧ r = nI i ∧ c < 3 ∧ co = nI c ∧ ((code = 2 ∧ (us_ful np k 1 ∨ us_sc0 T n i c v z) ∧ T' = T ∧ k' = k) ∨ (code = 0 ∧ ¬ (us_ful np k 1 ∨ us_sc0 T n i c v z) ∧ T' = us_st T i c v z ∧ k' = us_k1 np k))
theorem us_sR.one {n : Nat} {T : us_T} {k np : Nat} {r co v z : Int32} {c1 c2 : Nat} {T1 T2 : us_T} {k1 k2 : Nat} (hn : n ≤ 120) (h : us_sR n T k np r co v z c1 T1 k1) (g : us_sR n T k np r co v z c2 T2 k2) : c1 = c2 ∧ T1 = T2 ∧ k1 = k2 := by
  rcases h with ⟨e1, h1, e3, e4⟩ | ⟨e1, h1, h2, e3, e4⟩ | ⟨i, c, hi, hr, hc, hco, h⟩ <;> rcases g with ⟨f1, g1, f3, f4⟩ | ⟨f1, g1, g2, f3, f4⟩ | ⟨j, d, gi, gr, gc, gco, g⟩
  · exact ⟨e1.trans f1.symm, e3.trans f3.symm, e4.trans f4.symm⟩
  · exact absurd g1 h1
  · exact absurd ⟨d, gc, gco⟩ h1
  · exact absurd h1 g1
  · exact ⟨e1.trans f1.symm, e3.trans f3.symm, e4.trans f4.symm⟩
  · exact absurd ⟨j, gi, gr⟩ h2
  · exact absurd ⟨c, hc, hco⟩ g1
  · exact absurd ⟨i, hi, hr⟩ g2
  · have e1 : i = j := us_nI (by omega) (by omega) (hr.symm.trans gr)
    have e2 : c = d := us_nI (by omega) (by omega) (hco.symm.trans gco)
    subst e1 e2
    rcases h with ⟨e1, h1, e3, e4⟩ | ⟨e1, h1, e3, e4⟩ <;> rcases g with ⟨f1, g1, f3, f4⟩ | ⟨f1, g1, f3, f4⟩
    · exact ⟨e1.trans f1.symm, e3.trans f3.symm, e4.trans f4.symm⟩
    · exact absurd h1 g1
    · exact absurd g1 h1
    · exact ⟨e1.trans f1.symm, e3.trans f3.symm, e4.trans f4.symm⟩
/-! remove -/
def us_rR (n : Nat) (T : us_T) (k np : Nat) (r : Int32) (code : Nat) (n' : Nat) (T' : us_T) (k' : Nat) : Prop :=
  (code = 2 ∧ ¬ us_isr n r ∧ n' = n ∧ T' = T ∧ k' = k) ∨
  ∃ i, i < n ∧ r = nI i ∧ ((code = 1 ∧ us_ful np k 1 ∧ n' = n ∧ T' = T ∧ k' = k) ∨ (code = 0 ∧ ¬ us_ful np k 1 ∧ n' = n - 1 ∧ T' = us_del T i ∧ k' = us_k1 np k))
theorem us_rR.one {n : Nat} {T : us_T} {k np : Nat} {r : Int32} {c1 c2 : Nat} {n1 n2 : Nat} {T1 T2 : us_T} {k1 k2 : Nat} (hn : n ≤ 120) (h : us_rR n T k np r c1 n1 T1 k1) (g : us_rR n T k np r c2 n2 T2 k2) : c1 = c2 ∧ n1 = n2 ∧ T1 = T2 ∧ k1 = k2 := by
  rcases h with ⟨e1, h1, e2, e3, e4⟩ | ⟨i, hi, hr, h⟩ <;> rcases g with ⟨f1, g1, f2, f3, f4⟩ | ⟨j, gi, gr, g⟩
  · exact ⟨e1.trans f1.symm, e2.trans f2.symm, e3.trans f3.symm, e4.trans f4.symm⟩
  · exact absurd ⟨j, gi, gr⟩ h1
  · exact absurd ⟨i, hi, hr⟩ g1
  · have e1 : i = j := us_nI (by omega) (by omega) (hr.symm.trans gr)
    subst e1
    rcases h with ⟨e1, h1, e2, e3, e4⟩ | ⟨e1, h1, e2, e3, e4⟩ <;> rcases g with ⟨f1, g1, f2, f3, f4⟩ | ⟨f1, g1, f2, f3, f4⟩
    · exact ⟨e1.trans f1.symm, e2.trans f2.symm, e3.trans f3.symm, e4.trans f4.symm⟩
    · exact absurd h1 g1
    · exact absurd g1 h1
    · exact ⟨e1.trans f1.symm, e2.trans f2.symm, e3.trans f3.symm, e4.trans f4.symm⟩
/-! removeAll -/
def us_aR (n : Nat) (T : us_T) (k np : Nat) (co v : Int32) (code : Nat) (ans : Int32) (n' : Nat) (T' : us_T) (k' : Nat) : Prop :=
  (code = 1 ∧ ¬ us_col co ∧ n' = n ∧ T' = T ∧ k' = k) ∨
  ∃ c, c < 3 ∧ co = nI c ∧ ((code = 2 ∧ us_ful np k (us_ct T c v n) ∧ n' = n ∧ T' = T ∧ k' = k) ∨ (code = 0 ∧ ¬ us_ful np k (us_ct T c v n) ∧ ans = nI (us_ct T c v n) ∧ (n', T', k') = us_ra c v np n (n, T, k)))
theorem us_aR.one {n : Nat} {T : us_T} {k np : Nat} {co v : Int32} {c1 c2 : Nat} {a1 a2 : Int32} {n1 n2 : Nat} {T1 T2 : us_T} {k1 k2 : Nat} (h : us_aR n T k np co v c1 a1 n1 T1 k1) (g : us_aR n T k np co v c2 a2 n2 T2 k2) : c1 = c2 ∧ (c1 = 0 → a1 = a2) ∧ n1 = n2 ∧ T1 = T2 ∧ k1 = k2 := by
  rcases h with ⟨e1, h1, e2, e3, e4⟩ | ⟨i, hi, hr, h⟩ <;> rcases g with ⟨f1, g1, f2, f3, f4⟩ | ⟨j, gi, gr, g⟩
  · exact ⟨e1.trans f1.symm, fun z => absurd (e1.symm.trans z) (by decide), e2.trans f2.symm, e3.trans f3.symm, e4.trans f4.symm⟩
  · exact absurd ⟨j, gi, gr⟩ h1
  · exact absurd ⟨i, hi, hr⟩ g1
  · have e1 : i = j := us_nI (by omega) (by omega) (hr.symm.trans gr)
    subst e1
    rcases h with ⟨e1, h1, e2, e3, e4⟩ | ⟨e1, h1, e2, e3⟩ <;> rcases g with ⟨f1, g1, f2, f3, f4⟩ | ⟨f1, g1, f2, f3⟩
    · exact ⟨e1.trans f1.symm, fun z => absurd (e1.symm.trans z) (by decide), e2.trans f2.symm, e3.trans f3.symm, e4.trans f4.symm⟩
    · exact absurd h1 g1
    · exact absurd g1 h1
    · have e := e3.trans f3.symm
      exact ⟨e1.trans f1.symm, fun _ => e2.trans f2.symm, congrArg (fun q => q.1) e, congrArg (fun q => q.2.1) e, congrArg (fun q => q.2.2) e⟩
/-! find, value -/
def us_fR (n : Nat) (T : us_T) (co v : Int32) (code : Nat) (ans : Int32) : Prop :=
  (code = 1 ∧ ¬ ∃ c, c < 2 ∧ co = nI c) ∨ ∃ c, c < 2 ∧ co = nI c ∧ code = 0 ∧ us_fd T c v n ans
theorem us_fR.one {n : Nat} {T : us_T} {co v : Int32} {c1 c2 : Nat} {a1 a2 : Int32} (h : us_fR n T co v c1 a1) (g : us_fR n T co v c2 a2) : c1 = c2 ∧ (c1 = 0 → a1 = a2) := by
  rcases h with ⟨e1, h1⟩ | ⟨i, hi, hr, e1, h1⟩ <;> rcases g with ⟨f1, g1⟩ | ⟨j, gi, gr, f1, g1⟩
  · exact ⟨e1.trans f1.symm, fun z => absurd (e1.symm.trans z) (by decide)⟩
  · exact absurd ⟨j, gi, gr⟩ h1
  · exact absurd ⟨i, hi, hr⟩ g1
  · have e : i = j := us_nI (by omega) (by omega) (hr.symm.trans gr)
    subst e
    exact ⟨e1.trans f1.symm, fun _ => h1.one g1⟩
def us_vR (n : Nat) (T : us_T) (r co : Int32) (code : Nat) (ans : Int32) : Prop :=
  (code = 1 ∧ ¬ us_col co) ∨ ∃ c, c < 3 ∧ co = nI c ∧ ((code = 2 ∧ ¬ ∃ i, i < n ∧ r = nI i ∧ T i c ≠ none) ∨ ∃ i, i < n ∧ r = nI i ∧ T i c = some ans ∧ code = 0)
theorem us_vR.one {n : Nat} {T : us_T} {r co : Int32} {c1 c2 : Nat} {a1 a2 : Int32} (hn : n ≤ 120) (h : us_vR n T r co c1 a1) (g : us_vR n T r co c2 a2) : c1 = c2 ∧ (c1 = 0 → a1 = a2) := by
  rcases h with ⟨e1, h1⟩ | ⟨i, hi, hr, h⟩ <;> rcases g with ⟨f1, g1⟩ | ⟨j, gi, gr, g⟩
  · exact ⟨e1.trans f1.symm, fun z => absurd (e1.symm.trans z) (by decide)⟩
  · exact absurd ⟨j, gi, gr⟩ h1
  · exact absurd ⟨i, hi, hr⟩ g1
  · have e : i = j := us_nI (by omega) (by omega) (hr.symm.trans gr)
    subst e
    rcases h with ⟨e1, h1⟩ | ⟨x, h1, h2, h3, e1⟩ <;> rcases g with ⟨f1, g1⟩ | ⟨y, g1, g2, g3, f1⟩
    · exact ⟨e1.trans f1.symm, fun z => absurd (e1.symm.trans z) (by decide)⟩
    · exact absurd ⟨y, g1, g2, by rw [g3]; exact fun z => nomatch z⟩ h1
    · exact absurd ⟨x, h1, h2, by rw [h3]; exact fun z => nomatch z⟩ g1
    · have e : x = y := us_nI (by omega) (by omega) (h2.symm.trans g2)
      subst e
      exact ⟨e1.trans f1.symm, fun _ => Option.some.inj (h3.symm.trans g3)⟩
/-! mark, back, release -/
def us_mR (n : Nat) (T : us_T) (k np : Nat) (nm : Nat → Int32) (sn : Nat → Nat) (sT : Nat → us_T) (sk : Nat → Nat) (x : Int32) (code : Nat) (np' : Nat) (nm' : Nat → Int32) (sn' : Nat → Nat) (sT' : Nat → us_T) (sk' : Nat → Nat) : Prop :=
  (code = 1 ∧ np = 20 ∧ np' = np ∧ nm' = nm ∧ sn' = sn ∧ sT' = sT ∧ sk' = sk) ∨
  (code = 0 ∧ np ≠ 20 ∧ np' = np + 1 ∧ nm' = va_up nm np x ∧ sn' = va_up sn np n ∧ sT' = va_up sT np T ∧ sk' = va_up sk np k)
theorem us_mR.one {n : Nat} {T : us_T} {k np : Nat} {nm : Nat → Int32} {sn : Nat → Nat} {sT : Nat → us_T} {sk : Nat → Nat} {x : Int32} {c1 c2 p1 p2 : Nat} {m1 m2 : Nat → Int32} {s1 s2 : Nat → Nat} {t1 t2 : Nat → us_T} {k1 k2 : Nat → Nat} (h : us_mR n T k np nm sn sT sk x c1 p1 m1 s1 t1 k1) (g : us_mR n T k np nm sn sT sk x c2 p2 m2 s2 t2 k2) : c1 = c2 ∧ p1 = p2 ∧ m1 = m2 ∧ s1 = s2 ∧ t1 = t2 ∧ k1 = k2 := by
  rcases h with ⟨e1, h1, e2, e3, e4, e5, e6⟩ | ⟨e1, h1, e2, e3, e4, e5, e6⟩ <;> rcases g with ⟨f1, g1, f2, f3, f4, f5, f6⟩ | ⟨f1, g1, f2, f3, f4, f5, f6⟩
  · exact ⟨e1.trans f1.symm, e2.trans f2.symm, e3.trans f3.symm, e4.trans f4.symm, e5.trans f5.symm, e6.trans f6.symm⟩
  · exact absurd h1 g1
  · exact absurd g1 h1
  · exact ⟨e1.trans f1.symm, e2.trans f2.symm, e3.trans f3.symm, e4.trans f4.symm, e5.trans f5.symm, e6.trans f6.symm⟩
/-- the latest point of a name -/
def us_lp (np : Nat) (nm : Nat → Int32) (x : Int32) (p : Nat) : Prop := p < np ∧ nm p = x ∧ ∀ q, p < q → q < np → nm q ≠ x
theorem us_lp.one {np : Nat} {nm : Nat → Int32} {x : Int32} {p q : Nat} (h : us_lp np nm x p) (g : us_lp np nm x q) : p = q := by
  rcases Nat.lt_trichotomy p q with e | e | e
  · exact absurd g.2.1 (h.2.2 q e g.1)
  · exact e
  · exact absurd h.2.1 (g.2.2 p e h.1)
def us_bR (n : Nat) (T : us_T) (k np : Nat) (nm : Nat → Int32) (sn : Nat → Nat) (sT : Nat → us_T) (sk : Nat → Nat) (x : Int32) (code : Nat) (n' : Nat) (T' : us_T) (k' np' : Nat) : Prop :=
  (code = 1 ∧ (∀ q, q < np → nm q ≠ x) ∧ n' = n ∧ T' = T ∧ k' = k ∧ np' = np) ∨ ∃ p, us_lp np nm x p ∧ code = 0 ∧ n' = sn p ∧ T' = sT p ∧ k' = sk p ∧ np' = p + 1
theorem us_bR.one {n : Nat} {T : us_T} {k np : Nat} {nm : Nat → Int32} {sn : Nat → Nat} {sT : Nat → us_T} {sk : Nat → Nat} {x : Int32} {c1 c2 n1 n2 : Nat} {T1 T2 : us_T} {k1 k2 p1 p2 : Nat} (h : us_bR n T k np nm sn sT sk x c1 n1 T1 k1 p1) (g : us_bR n T k np nm sn sT sk x c2 n2 T2 k2 p2) : c1 = c2 ∧ n1 = n2 ∧ T1 = T2 ∧ k1 = k2 ∧ p1 = p2 := by
  rcases h with ⟨e1, h1, e2, e3, e4, e5⟩ | ⟨p, h1, e1, e2, e3, e4, e5⟩ <;> rcases g with ⟨f1, g1, f2, f3, f4, f5⟩ | ⟨q, g1, f1, f2, f3, f4, f5⟩
  · exact ⟨e1.trans f1.symm, e2.trans f2.symm, e3.trans f3.symm, e4.trans f4.symm, e5.trans f5.symm⟩
  · exact absurd g1.2.1 (h1 q g1.1)
  · exact absurd h1.2.1 (g1 p h1.1)
  · have e := h1.one g1
    subst e
    exact ⟨e1.trans f1.symm, e2.trans f2.symm, e3.trans f3.symm, e4.trans f4.symm, e5.trans f5.symm⟩
def us_lR (k np : Nat) (nm : Nat → Int32) (x : Int32) (code : Nat) (k' np' : Nat) : Prop :=
  (code = 1 ∧ (∀ q, q < np → nm q ≠ x) ∧ k' = k ∧ np' = np) ∨ ∃ p, us_lp np nm x p ∧ code = 0 ∧ k' = (if p = 0 then 0 else k) ∧ np' = p
theorem us_lR.one {k np : Nat} {nm : Nat → Int32} {x : Int32} {c1 c2 k1 k2 p1 p2 : Nat} (h : us_lR k np nm x c1 k1 p1) (g : us_lR k np nm x c2 k2 p2) : c1 = c2 ∧ k1 = k2 ∧ p1 = p2 := by
  rcases h with ⟨e1, h1, e4, e5⟩ | ⟨p, h1, e1, e4, e5⟩ <;> rcases g with ⟨f1, g1, f4, f5⟩ | ⟨q, g1, f1, f4, f5⟩
  · exact ⟨e1.trans f1.symm, e4.trans f4.symm, e5.trans f5.symm⟩
  · exact absurd g1.2.1 (h1 q g1.1)
  · exact absurd h1.2.1 (g1 p h1.1)
  · have e := h1.one g1
    subst e
    exact ⟨e1.trans f1.symm, e4.trans f4.symm, e5.trans f5.symm⟩
/-! count -/
def us_cnt (n : Nat) (T : us_T) (k np : Nat) (x : Int32) : Int32 := if x = nI 0 then nI n else if x = nI 1 then nI np else if x = nI 2 then nI k else if x = nI 3 then nI (us_cn T 1 n) else if x = nI 4 then nI (us_cn T 2 n) else -1
/-! ### more on tables -/
theorem us_all_eq {T T' : us_T} {c : Nat} {v : Int32} {n : Nat} (hc : c < 3) (h : us_eq n T T') (f : ∀ i, i < n → T i c ≠ some v) : ∀ i, i < n → T' i c ≠ some v := fun i hi => by rw [← h i c hi hc]; exact f i hi
theorem us_ex_no {T : us_T} {c : Nat} {v : Int32} {n : Nat} (f : ∀ i, i < n → T i c ≠ some v) : ¬ ∃ i, i < n ∧ T i c = some v := fun ⟨i, hi, e⟩ => f i hi e
theorem us_ex_of {T : us_T} {c : Nat} {v : Int32} {n : Nat} (f : ¬ ∀ i, i < n → T i c ≠ some v) : ∃ i, i < n ∧ T i c = some v := Classical.byContradiction fun z => f fun i hi e => z ⟨i, hi, e⟩
theorem us_ct_1 {T : us_T} {c : Nat} {v : Int32} {n : Nat} (h : T n c = some v) : us_ct T c v (n + 1) = us_ct T c v n + 1 := by
  show us_ct T c v n + _ = _
  rw [if_pos h]
theorem us_ct_0 {T : us_T} {c : Nat} {v : Int32} {n : Nat} (h : ¬ T n c = some v) : us_ct T c v (n + 1) = us_ct T c v n := by
  show us_ct T c v n + _ = _
  rw [if_neg h]
  rfl
theorem us_cn_1 {T : us_T} {c n : Nat} (h : T n c = none) : us_cn T c (n + 1) = us_cn T c n + 1 := by
  show us_cn T c n + _ = _
  rw [if_pos h]
theorem us_cn_0 {T : us_T} {c n : Nat} (h : ¬ T n c = none) : us_cn T c (n + 1) = us_cn T c n := by
  show us_cn T c n + _ = _
  rw [if_neg h]
  rfl
theorem us_fd.oth {T : us_T} {c : Nat} {v : Int32} {n i : Nat} {a : Int32} (hn : n < 2 ^ 31) (hi : i < n) (f : us_fd T c v n a) : us_oth T n c v i ↔ ¬ (a < 0 ∨ a = nI i) := by
  rcases f with ⟨r, h1, h2, h3, h4⟩ | ⟨h1, h2⟩
  · refine ⟨fun ⟨j, g1, g2, g3, g4⟩ z => ?_, fun z => ⟨r, h1, fun e => z (Or.inr (by rw [h2, e])), h3, h4⟩⟩
    have e : j = r := by
      rcases Nat.lt_trichotomy j r with e | e | e
      · exact absurd g3 (h4 j e)
      · exact e
      · exact absurd h3 (g4 r e)
    rcases z with z | z
    · exact absurd z (by rw [h2]; exact nI_pos (by omega))
    · exact g2 (e.trans (us_nI (by omega) (by omega) (h2.symm.trans z)))
  · exact ⟨fun ⟨j, g1, g2, g3, g4⟩ => absurd g3 (h2 j g1), fun z => absurd (Or.inl (by rw [h1]; decide)) z⟩
theorem us_oth.eq {T T' : us_T} {c : Nat} {v : Int32} {n i : Nat} (hc : c < 3) (h : us_eq n T T') (f : us_oth T n c v i) : us_oth T' n c v i := by
  obtain ⟨j, h1, h2, h3, h4⟩ := f
  exact ⟨j, h1, h2, by rw [← h j c h1 hc]; exact h3, fun q hq => by rw [← h q c (by omega) hc]; exact h4 q hq⟩
theorem us_sc0.eq {T T' : us_T} {n i c : Nat} {v z : Int32} (hc : c < 3) (h : us_eq n T T') (f : us_sc0 T n i c v z) : us_sc0 T' n i c v z := by
  rcases f with f | ⟨f1, f2, f3⟩
  · exact Or.inl f
  · exact Or.inr ⟨f1, f2, f3.eq hc h⟩
theorem us_ins_del {T : us_T} {w : Nat → Option Int32} {n r : Nat} (hw : ∀ c, c < 3 → w c = T r c) : us_eq n (us_ins (us_del T r) r w) T := by
  intro i c hi hc
  unfold us_ins us_del
  by_cases h : i < r
  · rw [if_pos h, if_pos h]
  · rw [if_neg h]
    by_cases h2 : i = r
    · rw [if_pos h2, h2, hw c hc]
    · rw [if_neg h2, if_neg (by omega), show i - 1 + 1 = i by omega]
theorem us_set_lo {T : us_T} {w : Nat → Option Int32} {n : Nat} : us_eq n (us_set T n w) T := fun i c hi _ => if_neg (by omega)
/-- the class's stores: a row at the end -/
theorem us_put4 {C : Nat → Int32} {n : Nat} {a b c has : Int32} : us_eq (n + 1) (us_tu (upd (upd (upd (upd C (n * 4) a) (n * 4 + 1) b) (n * 4 + 2) c) (n * 4 + 3) has)) (us_set (us_tu C) n (us_row a b c has)) := by
  intro i d hi hd
  unfold us_set
  by_cases h : i = n
  · rw [if_pos h]
    subst h
    unfold us_tu us_row
    rw [pk_us]
    rcases (show d = 0 ∨ d = 1 ∨ d = 2 by omega) with e | e | e
    · subst e
      rw [pk_un (by omega), pk_un (by omega), pk_un (by omega), Nat.add_zero, pk_us]
      rfl
    · subst e
      rw [pk_un (by omega), pk_un (by omega), pk_us]
      rfl
    · subst e
      rw [pk_un (by omega), pk_us]
      rfl
  · rw [if_neg h]
    exact us_tu_at (fun e he => by rw [pk_un (by omega), pk_un (by omega), pk_un (by omega), pk_un (by omega)]) hd
/-- a value is taken away -/
theorem us_putn {C : Nat → Int32} {n r co : Nat} {v z : Int32} (hco : co < 3) (hz : ¬ z = 0) : us_eq n (us_tu (upd C (r * 4 + 3) (C (r * 4 + 3) &&& (us_m co ^^^ (-1))))) (us_st (us_tu C) r co v z) := by
  intro i d hi hd
  unfold us_st us_set
  by_cases h : i = r
  · rw [if_pos h]
    subst h
    dsimp only
    by_cases e : d = co
    · rw [if_pos e, if_neg hz]
      unfold us_tu
      rw [pk_us, if_pos ((us_clr _ hco hd).mpr (Or.inl e.symm))]
    · rw [if_neg e]
      unfold us_tu
      rw [pk_us, pk_un (by omega)]
      by_cases b : C (i * 4 + 3) &&& us_m d = 0
      · rw [if_pos b, if_pos ((us_clr _ hco hd).mpr (Or.inr b))]
      · rw [if_neg b, if_neg (fun q => (((us_clr _ hco hd).mp q).elim (fun q => e q.symm) b))]
  · rw [if_neg h]
    exact us_tu_at (fun e he => by rw [pk_un (by omega)]) hd
/-- a value is put -/
theorem us_putv {C : Nat → Int32} {n r co : Nat} {v z : Int32} (hco : co < 3) (hz : z = 0) : us_eq n (us_tu (upd (upd C (r * 4 + co) v) (r * 4 + 3) (upd C (r * 4 + co) v (r * 4 + 3) ||| us_m co))) (us_st (us_tu C) r co v z) := by
  intro i d hi hd
  unfold us_st us_set
  by_cases h : i = r
  · rw [if_pos h]
    subst h
    rw [pk_un (f := C) (show i * 4 + 3 ≠ i * 4 + co by omega)]
    dsimp only
    by_cases e : d = co
    · rw [if_pos e, if_pos hz]
      subst e
      unfold us_tu
      rw [pk_us, pk_un (by omega), pk_us, if_neg (fun q => ((us_sto _ hco hd).mp q).1 rfl)]
    · rw [if_neg e]
      unfold us_tu
      rw [pk_us, pk_un (by omega), pk_un (by omega)]
      by_cases b : C (i * 4 + 3) &&& us_m d = 0
      · rw [if_pos b, if_pos ((us_sto _ hco hd).mpr ⟨fun q => e q.symm, b⟩)]
      · rw [if_neg b, if_neg (fun q => b ((us_sto _ hco hd).mp q).2)]
  · rw [if_neg h]
    exact us_tu_at (fun e he => by rw [pk_un (by omega), pk_un (by omega)]) hd
theorem us_st_eq {T T' : us_T} {n i c : Nat} {v z : Int32} (hi : i < n) (h : us_eq n T T') : us_eq n (us_st T i c v z) (us_st T' i c v z) :=
  us_set_eq h fun d hd => by
    by_cases e : d = c
    · rw [if_pos e, if_pos e]
    · rw [if_neg e, if_neg e, h i d hi hd]
theorem us_st_back {T : us_T} {n i c : Nat} {v z : Int32} {w : Nat → Option Int32} (hw : ∀ d, d < 3 → w d = T i d) : us_eq n (us_set (us_st T i c v z) i w) T := by
  intro j d hj hd
  unfold us_st us_set
  by_cases h : j = i
  · rw [if_pos h, hw d hd, h]
  · rw [if_neg h, if_neg h]
/-- what the class asks ahead of an insert -/
def us_mq (T : us_T) (n : Nat) (a b x : Int32) : Prop := (¬ x &&& 1 = 0 ∧ ∀ i, i < n → T i 0 ≠ some a) ∧ (x &&& 2 = 0 ∨ ∀ i, i < n → T i 1 ≠ some b)
theorem us_mq.no {T T' : us_T} {n k np : Nat} {a b x : Int32} (h : us_eq n T T') (hn : n < 120) (hk : np = 0 ∨ k + 1 ≤ 200) (f : us_mq T n a b x) : ¬ us_icf n T' k np a b x := by
  rintro (z | z | z | z | ⟨z1, z2⟩)
  · omega
  · exact us_ful.out hk z
  · exact f.1.1 z
  · exact us_ex_no (us_all_eq (by decide) h f.1.2) z
  · exact f.2.elim z1 (fun q => us_ex_no (us_all_eq (by decide) h q) z2)
theorem us_mq.of {T T' : us_T} {n k np : Nat} {a b x : Int32} (h : us_eq n T T') (f : ¬ us_mq T n a b x) : us_icf n T' k np a b x := by
  refine Classical.byContradiction fun z => f ⟨⟨fun q => z (Or.inr (Or.inr (Or.inl q))), fun i hi e => z (Or.inr (Or.inr (Or.inr (Or.inl ⟨i, hi, by rw [← h i 0 hi (by decide)]; exact e⟩))))⟩, ?_⟩
  by_cases q : x &&& 2 = 0
  · exact Or.inl q
  · exact Or.inr fun i hi e => z (Or.inr (Or.inr (Or.inr (Or.inr ⟨q, i, hi, by rw [← h i 1 hi (by decide)]; exact e⟩))))
theorem us_c5 (x : Int32) : x = nI 0 ∨ x = nI 1 ∨ x = nI 2 ∨ x = nI 3 ∨ x = nI 4 ∨ (x.toInt < 0 ∨ 4 < x.toInt) := by
  by_cases h : x < 0
  · exact Or.inr (Or.inr (Or.inr (Or.inr (Or.inr (Or.inl (by have := Int32.lt_iff_toInt_lt.mp h; simpa using this))))))
  · obtain ⟨j, hj, e⟩ := nI_of h
    subst e
    rcases (show j = 0 ∨ j = 1 ∨ j = 2 ∨ j = 3 ∨ j = 4 ∨ 4 < j by omega) with e | e | e | e | e | e
    · subst e; exact Or.inl rfl
    · subst e; exact Or.inr (Or.inl rfl)
    · subst e; exact Or.inr (Or.inr (Or.inl rfl))
    · subst e; exact Or.inr (Or.inr (Or.inr (Or.inl rfl)))
    · subst e; exact Or.inr (Or.inr (Or.inr (Or.inr (Or.inl rfl))))
    · exact Or.inr (Or.inr (Or.inr (Or.inr (Or.inr (Or.inr (by rw [nI_toInt hj]; omega))))))
theorem us_cnt_0 (n : Nat) (T : us_T) (k np : Nat) : us_cnt n T k np (nI 0) = nI n := if_pos rfl
theorem us_cnt_1 (n : Nat) (T : us_T) (k np : Nat) : us_cnt n T k np (nI 1) = nI np := (if_neg (by decide)).trans (if_pos rfl)
theorem us_cnt_2 (n : Nat) (T : us_T) (k np : Nat) : us_cnt n T k np (nI 2) = nI k := (if_neg (by decide)).trans ((if_neg (by decide)).trans (if_pos rfl))
theorem us_cnt_3 (n : Nat) (T : us_T) (k np : Nat) : us_cnt n T k np (nI 3) = nI (us_cn T 1 n) := (if_neg (by decide)).trans ((if_neg (by decide)).trans ((if_neg (by decide)).trans (if_pos rfl)))
theorem us_cnt_4 (n : Nat) (T : us_T) (k np : Nat) : us_cnt n T k np (nI 4) = nI (us_cn T 2 n) := (if_neg (by decide)).trans ((if_neg (by decide)).trans ((if_neg (by decide)).trans ((if_neg (by decide)).trans (if_pos rfl))))
theorem us_cnt_o {n : Nat} {T : us_T} {k np : Nat} {x : Int32} (h : x.toInt < 0 ∨ 4 < x.toInt) : us_cnt n T k np x = -1 := by
  have hne : ∀ j, j < 5 → ¬ x = nI j := fun j hj e => by
    rw [e, nI_toInt (by omega)] at h
    omega
  exact (if_neg (hne 0 (by decide))).trans ((if_neg (hne 1 (by decide))).trans ((if_neg (hne 2 (by decide))).trans ((if_neg (hne 3 (by decide))).trans (if_neg (hne 4 (by decide))))))
end
section
/-! 14.keep: each call keeps the class's and the reference's hold on the state. -/
theorem us_set_top {n : Nat} {T T' : us_T} {w : Nat → Option Int32} (h : us_eq n T T') : us_eq (n + 1) (us_set T n w) (us_set T' n w) := by
  intro i c hi hc
  unfold us_set
  by_cases e : i = n
  · rw [if_pos e, if_pos e]
  · rw [if_neg e, if_neg e, h i c (by omega) hc]
section USK
variable {n : Nat} {T : us_T} {k np : Nat} {nm : Nat → Int32} {sn : Nat → Nat} {sT : Nat → us_T} {sk : Nat → Nat} {C PN CA CK CR CB : Nat → Int32} {V KV I KI KR KC : Nat → Int32}
theorem us_U.step (h : us_U n T k np nm sn sT sk C PN CA CK CR CB) (hk : np = 0 ∨ k + 1 ≤ 200) {n' : Nat} {T' : us_T} {C' : Nat → Int32} {kd : Int32} {r : Nat} (hn' : n' ≤ 120) (hC' : us_eq n' (us_tu C') T') (hu : us_undo kd (nI r) (us_tu C r) n' T' n T) :
    us_U n' T' (us_k1 np k) np nm sn sT sk C' PN CA (us_ku np k CK kd) (us_ku np k CR (nI r)) (us_kc np k C CB r) := by
  by_cases hz : np = 0
  · have hk0 : k = 0 := h.2.2.2.1 hz
    rw [us_k1_z hz, us_ku_z hz, us_ku_z hz, us_kc_z hz]
    subst hz hk0
    exact us_U.zero hn' hC'
  · rw [us_k1_n hz, us_ku_n hz, us_ku_n hz, us_kc_n hz]
    exact h.push (by omega) (by omega) hn' hC' hu
theorem us_U.ins (h : us_U n T k np nm sn sT sk C PN CA CK CR CB) (hn : n < 120) (hk : np = 0 ∨ k + 1 ≤ 200) (a b c has : Int32) :
    us_U (n + 1) (us_set T n (us_row a b c has)) (us_k1 np k) np nm sn sT sk (upd (upd (upd (upd C (n * 4) a) (n * 4 + 1) b) (n * 4 + 2) c) (n * 4 + 3) has) PN CA (us_ku np k CK (nI 0)) (us_ku np k CR (nI n)) (us_kc np k C CB n) :=
  h.step hk (by omega) (us_put4.tr (us_set_top h.2.2.2.2.1)) (Or.inl ⟨nI_0, rfl, rfl, us_set_lo⟩)
theorem us_U.st (h : us_U n T k np nm sn sT sk C PN CA CK CR CB) (hk : np = 0 ∨ k + 1 ≤ 200) {r co : Nat} {v z : Int32} (hr : r < n) {C' : Nat → Int32} (hC : us_eq n (us_tu C') (us_st (us_tu C) r co v z)) :
    us_U n (us_st T r co v z) (us_k1 np k) np nm sn sT sk C' PN CA (us_ku np k CK (nI 1)) (us_ku np k CR (nI r)) (us_kc np k C CB r) :=
  h.step hk h.1 (hC.tr (us_st_eq hr h.2.2.2.2.1)) (Or.inr (Or.inl ⟨by decide, rfl, r, hr, rfl, us_st_back (fun d hd => h.2.2.2.2.1 r d hr hd)⟩))
theorem us_U.del (h : us_U n T k np nm sn sT sk C PN CA CK CR CB) (hk : np = 0 ∨ k + 1 ≤ 200) {r : Nat} (hr : r < n) :
    us_U (n - 1) (us_del T r) (us_k1 np k) np nm sn sT sk (va_cpy C C ((r + 1) * 4) (r * 4) ((n - r - 1) * 4)) PN CA (us_ku np k CK (nI 2)) (us_ku np k CR (nI r)) (us_kc np k C CB r) :=
  h.step hk (by have := h.1; omega) ((us_close hr).tr (us_del_eq h.2.2.2.2.1)) (Or.inr (Or.inr ⟨by decide, by omega, h.1, r, hr, rfl, us_ins_del (fun c hc => h.2.2.2.2.1 r c hr hc)⟩))
theorem us_ra_1 {c : Nat} {v : Int32} {r : Nat} (h : T r c = some v) : us_ra c v np (r + 1) (n, T, k) = us_ra c v np r (n - 1, us_del T r, us_k1 np k) := by
  show us_ra c v np r (if T r c = some v then (n - 1, us_del T r, if np = 0 then k else k + 1) else (n, T, k)) = _
  rw [if_pos h]
  rfl
theorem us_ra_0 {c : Nat} {v : Int32} {r : Nat} (h : ¬ T r c = some v) : us_ra c v np (r + 1) (n, T, k) = us_ra c v np r (n, T, k) := by
  show us_ra c v np r (if T r c = some v then (n - 1, us_del T r, if np = 0 then k else k + 1) else (n, T, k)) = _
  rw [if_neg h]
theorem us_room_1 {c : Nat} {v : Int32} {r : Nat} (hr : np = 0 ∨ k + us_ct T c v (r + 1) ≤ 200) (hc : c < 3) (h : T r c = some v) : (np = 0 ∨ k + 1 ≤ 200) ∧ (np = 0 ∨ us_k1 np k + us_ct (us_del T r) c v r ≤ 200) := by
  rw [us_ct_1 h] at hr
  rw [us_ct_eq hc us_del_lo]
  by_cases hz : np = 0
  · exact ⟨Or.inl hz, Or.inl hz⟩
  · rw [us_k1_n hz]
    exact ⟨Or.inr (by omega), Or.inr (by omega)⟩
theorem us_room_0 {c : Nat} {v : Int32} {r : Nat} (hr : np = 0 ∨ k + us_ct T c v (r + 1) ≤ 200) (h : ¬ T r c = some v) : np = 0 ∨ k + us_ct T c v r ≤ 200 := by
  rw [us_ct_0 h] at hr
  exact hr
/-! ### the reference -/
theorem us_M.tab (h : us_M n T k np nm sn sT sk V KV I KI PN KR KC) {n' : Nat} {T' : us_T} {k' : Nat} {V' I' : Nat → Int32} (hn' : n' ≤ 120) (hk' : k' ≤ 200) (hT : us_eq n' (us_tm V' I') T') (hI : ∀ j, I' j = 0 ∨ I' j = 1) : us_M n' T' k' np nm sn sT sk V' KV I' KI PN KR KC :=
  ⟨hn', h.2.1, hk', hT, hI, h.2.2.2.2.2.1, h.2.2.2.2.2.2⟩
theorem us_bool_upd {f : Nat → Int32} {i : Nat} {x : Int32} (h : ∀ j, f j = 0 ∨ f j = 1) (hx : x = 0 ∨ x = 1) : ∀ j, upd f i x j = 0 ∨ upd f i x j = 1 := by
  intro j
  by_cases e : j = i
  · subst e; rw [pk_us]; exact hx
  · rw [pk_un e]; exact h j
theorem us_nb {x : Int32} (h : x = 0 ∨ x = 1) : vp_nar .boolean x = x := by
  rcases h with h | h <;> subst h <;> decide
/-- the reference's stores of an insert -/
theorem us_putM {a b c has y0 y1 y2 : Int32} (h0 : y0 = 0 ↔ has &&& us_m 0 = 0) (h1 : y1 = 0 ↔ has &&& us_m 1 = 0) (h2 : y2 = 0 ↔ has &&& us_m 2 = 0) :
    us_eq (n + 1) (us_tm (upd (upd (upd V (3 * n + 0) a) (3 * n + 1) b) (3 * n + 2) c) (upd (upd (upd I (3 * n + 0) y0) (3 * n + 1) y1) (3 * n + 2) y2)) (us_set (us_tm V I) n (us_row a b c has)) := by
  intro i d hi hd
  unfold us_set
  by_cases h : i = n
  · rw [if_pos h]
    subst h
    unfold us_tm us_row
    rcases (show d = 0 ∨ d = 1 ∨ d = 2 by omega) with e | e | e
    · subst e
      rw [pk_un (by omega), pk_un (by omega), pk_us, pk_un (by omega), pk_un (by omega), pk_us]
      by_cases z : y0 = 0
      · rw [if_pos z, if_pos (h0.mp z)]
      · rw [if_neg z, if_neg (fun q => z (h0.mpr q))]
        rfl
    · subst e
      rw [pk_un (by omega), pk_us, pk_un (by omega), pk_us]
      by_cases z : y1 = 0
      · rw [if_pos z, if_pos (h1.mp z)]
      · rw [if_neg z, if_neg (fun q => z (h1.mpr q))]
        rfl
    · subst e
      rw [pk_us, pk_us]
      by_cases z : y2 = 0
      · rw [if_pos z, if_pos (h2.mp z)]
      · rw [if_neg z, if_neg (fun q => z (h2.mpr q))]
        rfl
  · rw [if_neg h]
    exact us_tm_at (fun e he => ⟨by rw [pk_un (by omega), pk_un (by omega), pk_un (by omega)], by rw [pk_un (by omega), pk_un (by omega), pk_un (by omega)]⟩) hd
theorem us_putS {r co : Nat} {v z y : Int32} (hco : co < 3) (hy : y = 0 ↔ ¬ z = 0) : us_eq n (us_tm (upd V (3 * r + co) v) (upd I (3 * r + co) y)) (us_st (us_tm V I) r co v z) := by
  intro i d hi hd
  unfold us_st us_set
  by_cases h : i = r
  · rw [if_pos h]
    subst h
    dsimp only
    by_cases e : d = co
    · rw [if_pos e]
      subst e
      unfold us_tm
      rw [pk_us, pk_us]
      by_cases q : z = 0
      · rw [if_pos q, if_neg (fun x => hy.mp x q)]
      · rw [if_neg q, if_pos (hy.mpr q)]
    · rw [if_neg e]
      unfold us_tm
      rw [pk_un (by omega), pk_un (by omega)]
  · rw [if_neg h]
    exact us_tm_at (fun e he => ⟨by rw [pk_un (by omega)], by rw [pk_un (by omega)]⟩) hd
/-- what the loop of take has done -/
theorem us_tk_0 {f : Nat → Int32} {r : Nat} : us_tk f r (3 * r) = f := by
  funext j
  unfold us_tk
  rw [if_neg (by omega)]
theorem us_tk_s {f : Nat → Int32} {r m : Nat} (h : 3 * r ≤ m) : upd (us_tk f r m) m (f (m + 3)) = us_tk f r (m + 1) := by
  funext j
  by_cases e : j = m
  · subst e
    rw [pk_us]
    unfold us_tk
    rw [if_pos (by omega)]
  · rw [pk_un e]
    unfold us_tk
    by_cases q : 3 * r ≤ j ∧ j < m
    · rw [if_pos q, if_pos (by omega)]
    · rw [if_neg q, if_neg (by omega)]
theorem us_tk_r {f : Nat → Int32} {r m : Nat} : us_tk f r m (m + 3) = f (m + 3) := if_neg (by omega)
theorem us_tk_b {f : Nat → Int32} {r m : Nat} (h : ∀ j, f j = 0 ∨ f j = 1) : ∀ j, us_tk f r m j = 0 ∨ us_tk f r m j = 1 := by
  intro j
  unfold us_tk
  split
  · exact h _
  · exact h _
/-- what the loop of mark has done; what that of back -/
def us_ck (f g : Nat → Int32) (o m : Nat) : Nat → Int32 := fun j => if o ≤ j ∧ j < o + m then g (j - o) else f j
def us_cb (f g : Nat → Int32) (o m : Nat) : Nat → Int32 := fun j => if j < m then g (o + j) else f j
theorem us_ck_0 {f g : Nat → Int32} {o : Nat} : us_ck f g o 0 = f := by
  funext j
  unfold us_ck
  rw [if_neg (by omega)]
theorem us_ck_s {f g : Nat → Int32} {o m : Nat} : upd (us_ck f g o m) (o + m) (g m) = us_ck f g o (m + 1) := by
  funext j
  by_cases e : j = o + m
  · subst e
    rw [pk_us]
    unfold us_ck
    rw [if_pos (by omega), show o + m - o = m by omega]
  · rw [pk_un e]
    unfold us_ck
    by_cases q : o ≤ j ∧ j < o + m
    · rw [if_pos q, if_pos (by omega)]
    · rw [if_neg q, if_neg (by omega)]
theorem us_cb_0 {f g : Nat → Int32} {o : Nat} : us_cb f g o 0 = f := by
  funext j
  unfold us_cb
  rw [if_neg (by omega)]
theorem us_cb_s {f g : Nat → Int32} {o m : Nat} : upd (us_cb f g o m) m (g (o + m)) = us_cb f g o (m + 1) := by
  funext j
  by_cases e : j = m
  · subst e
    rw [pk_us]
    unfold us_cb
    rw [if_pos (by omega)]
  · rw [pk_un e]
    unfold us_cb
    by_cases q : j < m
    · rw [if_pos q, if_pos (by omega)]
    · rw [if_neg q, if_neg (by omega)]
theorem us_ck_b {f g : Nat → Int32} {o m : Nat} (hf : ∀ j, f j = 0 ∨ f j = 1) (hg : ∀ j, g j = 0 ∨ g j = 1) : ∀ j, us_ck f g o m j = 0 ∨ us_ck f g o m j = 1 := by
  intro j
  unfold us_ck
  split
  · exact hg _
  · exact hf _
theorem us_cb_b {f g : Nat → Int32} {o m : Nat} (hf : ∀ j, f j = 0 ∨ f j = 1) (hg : ∀ j, g j = 0 ∨ g j = 1) : ∀ j, us_cb f g o m j = 0 ∨ us_cb f g o m j = 1 := by
  intro j
  unfold us_cb
  split
  · exact hg _
  · exact hf _
theorem us_ck_in {f g : Nat → Int32} {o m j : Nat} (h : j < m) : us_ck f g o m (o + j) = g j := by
  unfold us_ck
  rw [if_pos (by omega), show o + j - o = j by omega]
theorem us_ck_out {f g : Nat → Int32} {o m j : Nat} (h : j < o) : us_ck f g o m j = f j := by
  unfold us_ck
  rw [if_neg (by omega)]
theorem us_cb_in {f g : Nat → Int32} {o m j : Nat} (h : j < m) : us_cb f g o m j = g (o + j) := if_pos h
theorem us_M.mark (h : us_M n T k np nm sn sT sk V KV I KI PN KR KC) (hp : np < 20) (x : Int32) :
    us_M n T k (np + 1) (va_up nm np x) (va_up sn np n) (va_up sT np T) (va_up sk np k) V (us_ck KV V (360 * np) 360) I (us_ck KI I (360 * np) 360) (upd PN np x) (upd KR np (nI n)) (upd KC np (nI k)) := by
  obtain ⟨h1, h2, h3, h4, h5, h6, h7⟩ := h
  refine ⟨h1, by omega, h3, h4, h5, us_ck_b h6 h5, fun p q => ?_⟩
  by_cases e : p = np
  · subst e
    rw [pk_us, pk_us, pk_us, us_up_s, us_up_s, us_up_s, us_up_s]
    refine ⟨rfl, h1, rfl, h3, rfl, fun r c hr hc => ?_⟩
    rw [← h4 r c hr hc]
    exact us_tm_at (fun d hd => ⟨us_ck_in (by omega), us_ck_in (by omega)⟩) hc
  · obtain ⟨a, b, c, d, e2, f⟩ := h7 p (by omega)
    rw [pk_un e, pk_un e, pk_un e, us_up_n e, us_up_n e, us_up_n e, us_up_n e]
    refine ⟨a, b, c, d, e2, fun r c hr hc => ?_⟩
    rw [← f r c hr hc]
    exact us_tm_at (fun d hd => ⟨us_ck_out (by omega), us_ck_out (by omega)⟩) hc
theorem us_M.back (h : us_M n T k np nm sn sT sk V KV I KI PN KR KC) {p : Nat} (hp : p < np) :
    us_M (sn p) (sT p) (sk p) (p + 1) nm sn sT sk (us_cb V KV (360 * p) 360) KV (us_cb I KI (360 * p) 360) KI PN KR KC := by
  obtain ⟨h1, h2, h3, h4, h5, h6, h7⟩ := h
  obtain ⟨a, b, c, d, e2, f⟩ := h7 p hp
  refine ⟨b, by omega, d, fun r c hr hc => ?_, us_cb_b h5 h6, h6, fun q z => h7 q (by omega)⟩
  rw [← f r c hr hc]
  exact us_tm_at (fun d hd => ⟨us_cb_in (by omega), us_cb_in (by omega)⟩) hc
theorem us_M.rel (h : us_M n T k np nm sn sT sk V KV I KI PN KR KC) {p : Nat} (hp : p < np) : us_M n T (if p = 0 then 0 else k) p nm sn sT sk V KV I KI PN KR KC := by
  obtain ⟨h1, h2, h3, h4, h5, h6, h7⟩ := h
  exact ⟨h1, by omega, by split <;> omega, h4, h5, h6, fun q z => h7 q (by omega)⟩
end USK
/-- the class's cells: rows, points, changes, then the arrays -/
abbrev us_SU : Type := Nat × Nat × Nat × (Nat → Int32) × (Nat → Int32) × (Nat → Int32) × (Nat → Int32) × (Nat → Int32) × (Nat → Int32)
/-- the reference's: thrown, rows, points, changes, then the arrays -/
abbrev us_SM : Type := Int32 × Nat × Nat × Nat × (Nat → Int32) × (Nat → Int32) × (Nat → Int32) × (Nat → Int32) × (Nat → Int32) × (Nat → Int32) × (Nat → Int32)
def us_us (u : us_SU) (n : Nat) (T : us_T) (k np : Nat) (nm : Nat → Int32) (sn : Nat → Nat) (sT : Nat → us_T) (sk : Nat → Nat) : Prop :=
  u.1 = n ∧ u.2.1 = np ∧ u.2.2.1 = k ∧ us_U n T k np nm sn sT sk u.2.2.2.1 u.2.2.2.2.1 u.2.2.2.2.2.1 u.2.2.2.2.2.2.1 u.2.2.2.2.2.2.2.1 u.2.2.2.2.2.2.2.2
def us_ms (u : us_SM) (th : Int32) (n : Nat) (T : us_T) (k np : Nat) (nm : Nat → Int32) (sn : Nat → Nat) (sT : Nat → us_T) (sk : Nat → Nat) : Prop :=
  u.1 = th ∧ u.2.1 = n ∧ u.2.2.1 = np ∧ u.2.2.2.1 = k ∧ us_M n T k np nm sn sT sk u.2.2.2.2.1 u.2.2.2.2.2.1 u.2.2.2.2.2.2.1 u.2.2.2.2.2.2.2.1 u.2.2.2.2.2.2.2.2.1 u.2.2.2.2.2.2.2.2.2.1 u.2.2.2.2.2.2.2.2.2.2
abbrev uWS (ad : Nat → Nat) (cI : ClassId) (u : us_SU) : va_W := uW ad cI u.2.2.2.1 u.1 u.2.2.2.2.1 u.2.2.2.2.2.1 u.2.1 u.2.2.2.2.2.2.1 u.2.2.2.2.2.2.2.1 u.2.2.2.2.2.2.2.2 u.2.2.1
abbrev mWS (ad : Nat → Nat) (cI cZ : ClassId) (u : us_SM) : va_W := mW ad cI cZ u.1 u.2.1 u.2.2.1 u.2.2.2.1 u.2.2.2.2.1 u.2.2.2.2.2.1 u.2.2.2.2.2.2.1 u.2.2.2.2.2.2.2.1 u.2.2.2.2.2.2.2.2.1 u.2.2.2.2.2.2.2.2.2.1 u.2.2.2.2.2.2.2.2.2.2
theorem us_tm_0 {V I : Nat → Int32} {r c : Nat} (h : I (3 * r + c) = 0) : us_tm V I r c = none := if_pos h
theorem us_tm_1 {V I : Nat → Int32} {r c : Nat} (h : ¬ I (3 * r + c) = 0) : us_tm V I r c = some (V (3 * r + c)) := if_neg h
theorem us_tm_n {V I : Nat → Int32} {r c : Nat} {v : Int32} (h : I (3 * r + c) = 0) : ¬ us_tm V I r c = some v := by rw [us_tm_0 h]; exact fun z => nomatch z
theorem us_tm_v {V I : Nat → Int32} {r c : Nat} {v : Int32} (h : ¬ I (3 * r + c) = 0) (g : ¬ V (3 * r + c) = v) : ¬ us_tm V I r c = some v := by rw [us_tm_1 h]; exact fun z => g (Option.some.inj z)
theorem us_tm_y {V I : Nat → Int32} {r c : Nat} {v : Int32} (h : ¬ I (3 * r + c) = 0) (g : V (3 * r + c) = v) : us_tm V I r c = some v := by rw [us_tm_1 h, g]
theorem us_hb {j c : Nat} {y : Int32} (hj : j < 8) (hc : c < 3) (h : (y = nI 1 ∧ ¬ nI j >>> (nI c &&& 31) &&& (1 : Int32) = 0) ∨ (y = nI 0 ∧ nI j >>> (nI c &&& 31) &&& (1 : Int32) = 0)) : vp_nar .boolean y = 0 ↔ nI j &&& us_m c = 0 := by
  rcases h with ⟨h, g⟩ | ⟨h, g⟩ <;> subst h
  · exact ⟨fun z => absurd z (by decide), fun z => absurd ((us_hasb j hj c hc).mpr z) g⟩
  · exact ⟨fun _ => (us_hasb j hj c hc).mp g, fun _ => by decide⟩
theorem us_y01 {y : Int32} {P Q : Prop} (h : (y = nI 1 ∧ P) ∨ (y = nI 0 ∧ Q)) : vp_nar .boolean y = 0 ∨ vp_nar .boolean y = 1 := by
  rcases h with ⟨h, -⟩ | ⟨h, -⟩ <;> subst h
  · exact Or.inr (by decide)
  · exact Or.inl (by decide)
theorem us_sy {y z : Int32} (h : (y = nI 1 ∧ z = 0) ∨ (y = nI 0 ∧ ¬ z = 0)) : vp_nar .boolean y = 0 ↔ ¬ z = 0 := by
  rcases h with ⟨h, g⟩ | ⟨h, g⟩ <;> subst h
  · exact ⟨fun q => absurd q (by decide), fun q => absurd g q⟩
  · exact ⟨fun _ => g, fun _ => by decide⟩
theorem us_o1 {T : us_T} {n i c : Nat} {v z : Int32} (h : ¬ z = 0) : us_sc0 T n i c v z ↔ ((¬ z = 0 ∧ c = 0) ∨ ¬ ((-1 : Int32) < 0 ∨ (-1 : Int32) = nI i)) :=
  ⟨fun q => q.elim Or.inl (fun q => absurd q.1 h), fun q => q.elim Or.inl (fun q => absurd (Or.inl (by decide)) q)⟩
theorem us_o2 {T : us_T} {n i c : Nat} {v z : Int32} (h : z = 0) (hc : c = 2) : us_sc0 T n i c v z ↔ ((¬ z = 0 ∧ c = 0) ∨ ¬ ((-1 : Int32) < 0 ∨ (-1 : Int32) = nI i)) :=
  ⟨fun q => q.elim Or.inl (fun q => absurd q.2.1 (by omega)), fun q => q.elim Or.inl (fun q => absurd (Or.inl (by decide)) q)⟩
theorem us_o3 {T : us_T} {n i c : Nat} {v z o : Int32} (h : z = 0) (hc : c < 2) (hn : n < 2 ^ 31) (hi : i < n) (f : us_fd T c v n o) : us_sc0 T n i c v z ↔ ((¬ z = 0 ∧ c = 0) ∨ ¬ (o < 0 ∨ o = nI i)) :=
  ⟨fun q => q.elim Or.inl (fun q => Or.inr ((f.oth hn hi).mp q.2.2)), fun q => q.elim Or.inl (fun q => Or.inr ⟨h, hc, (f.oth hn hi).mpr q⟩)⟩
theorem us_all2 {T T' : us_T} {c : Nat} {v : Int32} {n : Nat} {a : Int32} (hn : n < 2 ^ 31) (hc : c < 3) (h : us_eq n T T') (f : us_fd T c v n a) (g : 0 ≤ a) : ∃ i, i < n ∧ T' i c = some v := by
  rcases f with ⟨r, h1, h2, h3, h4⟩ | ⟨h1, h2⟩
  · exact ⟨r, h1, by rw [← h r c h1 hc]; exact h3⟩
  · rw [h1] at g; exact absurd g (by decide)
end
section
/-! 20.Upriv (laid by wip/whole/gen/methods_u.py): private methods that ask. -/
set_option maxHeartbeats 4000000 in
theorem k_U_isColumn (l : Launch) (D : va_G) (sz : Nat) (x : Int32) : us_Ci l yU_isColumn cU_isColumn 1 (some .boolean) 0 0 [.int x] D [] [] sz (po_b (∃ c, c < 3 ∧ x = nI c)) (fun _ => []) := by
  refine us_enter (own := RU) rfl (by decide) (Nat.le_of_ble_eq_true rfl) ?_
  intro p e s m below meth c ls X Y hr hlk hl
  generalize va_A [] sz = A at X Y ⊢
  have hl : lv_has ls 1 [(0, .int x)] := hl
  refine lv_iload_n X.x X.b dU_isColumn_0 rfl (lv_at hl 0 rfl) ?_
  refine lv_if_lt (tgt := 13) X.x X.b dU_isColumn_1 (by decide) (fun h1 => ?_) (fun h1 => ?_)
  · refine lv_iconst (v := nI 0) X.x X.b dU_isColumn_13 (by decide) ?_
    exact us_zret (u := ()) X Y hr hlk rfl (Or.inr ⟨rfl, fun ⟨c, h2, h3⟩ => nI_pos (n := c) (by omega) (h3 ▸ h1)⟩) dU_isColumn_14
  · refine lv_iload_n X.x X.b dU_isColumn_4 rfl (lv_at hl 0 rfl) ?_
    refine lv_iconst (v := nI 3) X.x X.b dU_isColumn_5 (by decide) ?_
    refine lv_icmp_ge (tgt := 13) X.x X.b dU_isColumn_6 (by decide) (fun h2 => ?_) (fun h2 => ?_)
    · refine lv_iconst (v := nI 0) X.x X.b dU_isColumn_13 (by decide) ?_
      exact us_zret (u := ()) X Y hr hlk rfl (Or.inr ⟨rfl, fun ⟨c, h3, h4⟩ => absurd h2 (by rw [h4]; exact nI_ge h3 (by decide))⟩) dU_isColumn_14
    · refine lv_iconst (v := nI 1) X.x X.b dU_isColumn_9 (by decide) ?_
      refine lv_goto (tgt := 14) X.x X.b dU_isColumn_10 (by decide) ?_
      exact us_zret (u := ()) X Y hr hlk rfl (Or.inl ⟨rfl, us_lt3 h1 h2⟩) dU_isColumn_14
set_option maxHeartbeats 4000000 in
set_option maxRecDepth 100000 in
theorem k_U_isRow (l : Launch) (D : va_G) (ad : Nat → Nat) (cI : ClassId) (sz : Nat) (C PN CA CK CR CB : Nat → Int32) (n np k : Nat) (x : Int32) (hn : n ≤ 120) : us_Ci l yU_isRow cU_isRow 2 (some .boolean) 0 0 [.ref (ad 0), .int x] D (tyU cI) (uW ad cI C n PN CA np CK CR CB k) sz (po_b (∃ i, i < n ∧ x = nI i)) (fun _ => uW ad cI C n PN CA np CK CR CB k) := by
  refine us_enter (own := RU) rfl (by decide) (Nat.le_of_ble_eq_true rfl) ?_
  intro p e s m below meth c ls X Y hr hlk hl
  generalize va_A (uW ad cI C n PN CA np CK CR CB k) sz = A at X Y ⊢
  have hl : lv_has ls 2 [(0, .ref (ad 0)), (1, .int x)] := hl
  refine lv_iload_n X.x X.b dU_isRow_0 rfl (lv_at hl 1 rfl) ?_
  refine lv_if_lt (tgt := 16) X.x X.b dU_isRow_1 (by decide) (fun h1 => ?_) (fun h1 => ?_)
  · refine lv_iconst (v := nI 0) X.x X.b dU_isRow_16 (by decide) ?_
    exact us_zret (u := ()) X Y hr hlk rfl (Or.inr ⟨rfl, fun ⟨i, h2, h3⟩ => nI_pos (n := i) (by omega) (h3 ▸ h1)⟩) dU_isRow_17
  · refine lv_iload_n X.x X.b dU_isRow_4 rfl (lv_at hl 1 rfl) ?_
    refine lv_aload_n X.x X.b dU_isRow_5 rfl (lv_at hl 0 rfl) ?_
    refine us_gU X Y 0 rfl 1 (by decide) mB_fl_U_13 rfl dU_isRow_6 ?_
    refine lv_icmp_ge (tgt := 16) X.x X.b dU_isRow_9 (by decide) (fun h2 => ?_) (fun h2 => ?_)
    · refine lv_iconst (v := nI 0) X.x X.b dU_isRow_16 (by decide) ?_
      exact us_zret (u := ()) X Y hr hlk rfl (Or.inr ⟨rfl, fun ⟨i, h3, h4⟩ => absurd h2 (by rw [h4]; exact nI_ge h3 (by omega))⟩) dU_isRow_17
    · refine lv_iconst (v := nI 1) X.x X.b dU_isRow_12 (by decide) ?_
      refine lv_goto (tgt := 17) X.x X.b dU_isRow_13 (by decide) ?_
      exact us_zret (u := ()) X Y hr hlk rfl (Or.inl ⟨rfl, us_lt3 h1 h2⟩) dU_isRow_17
set_option maxHeartbeats 4000000 in
set_option maxRecDepth 100000 in
theorem k_U_isNone (l : Launch) (D : va_G) (ad : Nat → Nat) (cI : ClassId) (sz : Nat) (C PN CA CK CR CB : Nat → Int32) (n np k : Nat) (r co : Nat) (hr0 : r < 120) (hco : co < 3) : us_Ci l yU_isNone cU_isNone 3 (some .boolean) 0 0 [.ref (ad 0), .int (nI r), .int (nI co)] D (tyU cI) (uW ad cI C n PN CA np CK CR CB k) sz (po_b (us_tu C r co = none)) (fun _ => uW ad cI C n PN CA np CK CR CB k) := by
  refine us_enter (own := RU) rfl (by decide) (Nat.le_of_ble_eq_true rfl) ?_
  intro p e s m below meth c ls X Y hr hlk hl
  generalize va_A (uW ad cI C n PN CA np CK CR CB k) sz = A at X Y ⊢
  have hl : lv_has ls 3 [(0, .ref (ad 0)), (1, .int (nI r)), (2, .int (nI co))] := hl
  refine lv_aload_n X.x X.b dU_isNone_0 rfl (lv_at hl 0 rfl) ?_
  refine us_gU X Y 0 rfl 0 (by decide) mB_fl_U_9 rfl dU_isNone_1 ?_
  refine lv_iload_n X.x X.b dU_isNone_4 rfl (lv_at hl 1 rfl) ?_
  refine lv_iconst (v := nI 4) X.x X.b dU_isNone_5 (by decide) ?_
  refine us_imul X dU_isNone_6 ?_
  refine lv_iconst (v := nI 3) X.x X.b dU_isNone_7 (by decide) ?_
  refine us_iadd X dU_isNone_8 ?_
  refine us_ia X Y 1 0 rfl rfl (i := (r * 4) + 3) (by omega) (by decide) dU_isNone_9 ?_
  refine lv_iconst (v := (1 : Int32)) X.x X.b dU_isNone_10 (by decide) ?_
  refine lv_iload_n X.x X.b dU_isNone_11 rfl (lv_at hl 2 rfl) ?_
  refine lv_ishl X.x X.b dU_isNone_12 ?_
  refine lv_iand X.x X.b dU_isNone_13 ?_
  refine lv_if_ne (tgt := 21) X.x X.b dU_isNone_14 (by decide) (fun h1 => ?_) (fun h1 => ?_)
  · refine lv_iconst (v := nI 0) X.x X.b dU_isNone_21 (by decide) ?_
    exact us_zret (u := ()) X Y hr hlk rfl (Or.inr ⟨rfl, fun z => nomatch ((show us_tu C r co = some (C (r * 4 + co)) from if_neg h1).symm.trans z)⟩) dU_isNone_22
  · refine lv_iconst (v := nI 1) X.x X.b dU_isNone_17 (by decide) ?_
    refine lv_goto (tgt := 22) X.x X.b dU_isNone_18 (by decide) ?_
    exact us_zret (u := ()) X Y hr hlk rfl (Or.inl ⟨rfl, if_pos h1⟩) dU_isNone_22
set_option maxHeartbeats 4000000 in
set_option maxRecDepth 100000 in
theorem k_U_holds (l : Launch) (D : va_G) (ad : Nat → Nat) (cI : ClassId) (sz : Nat) (C PN CA CK CR CB : Nat → Int32) (n np k : Nat) (r co : Nat) (v : Int32) (hr0 : r < 120) (hco : co < 3) : us_Ci l yU_holds cU_holds 4 (some .boolean) 1 22 [.ref (ad 0), .int (nI r), .int (nI co), .int v] D (tyU cI) (uW ad cI C n PN CA np CK CR CB k) sz (po_b (us_tu C r co = some v)) (fun _ => uW ad cI C n PN CA np CK CR CB k) := by
  refine us_enter (own := RU) rfl (by decide) (Nat.le_of_ble_eq_true rfl) ?_
  intro p e s m below meth c ls X Y hr hlk hl
  generalize va_A (uW ad cI C n PN CA np CK CR CB k) sz = A at X Y ⊢
  have hl : lv_has ls 4 [(0, .ref (ad 0)), (1, .int (nI r)), (2, .int (nI co)), (3, .int v)] := hl
  refine lv_aload_n X.x X.b dU_holds_0 rfl (lv_at hl 0 rfl) ?_
  refine lv_iload_n X.x X.b dU_holds_1 rfl (lv_at hl 1 rfl) ?_
  refine lv_iload_n X.x X.b dU_holds_2 rfl (lv_at hl 2 rfl) ?_
  refine us_vi (rest := []) X Y (k_U_isNone l D ad cI s.heap.size C PN CA CK CR CB n np k r co hr0 hco) us_I7 0 rfl rfl cv_U_83 rfl ⟨by decide, by decide⟩ ⟨by decide, by decide⟩ hl.1 rfl (Nat.le_of_ble_eq_true rfl) dU_holds_3 (fun rr u H locs hw Y => ?_)
  have Y : us_Y D A (uW ad cI C n PN CA np CK CR CB k) s H locs := Y
  rcases hw with ⟨rfl, hw⟩ | ⟨rfl, hw⟩
  · refine us_ne1 (tgt := 27) X dU_holds_6 (by decide) ?_
    refine lv_iconst (v := nI 0) X.x X.b dU_holds_27 (by decide) ?_
    exact us_zret (u := ()) X Y hr hlk rfl (Or.inr ⟨rfl, fun z => by rw [hw] at z; cases z⟩) dU_holds_28
  · refine us_ne0 (tgt := 27) X dU_holds_6 (by decide) ?_
    refine lv_aload_n X.x X.b dU_holds_9 rfl (lv_at hl 0 rfl) ?_
    refine us_gU X Y 0 rfl 0 (by decide) mB_fl_U_9 rfl dU_holds_10 ?_
    refine lv_iload_n X.x X.b dU_holds_13 rfl (lv_at hl 1 rfl) ?_
    refine lv_iconst (v := nI 4) X.x X.b dU_holds_14 (by decide) ?_
    refine us_imul X dU_holds_15 ?_
    refine lv_iload_n X.x X.b dU_holds_16 rfl (lv_at hl 2 rfl) ?_
    refine us_iadd X dU_holds_17 ?_
    refine us_ia X Y 1 0 rfl rfl (i := (r * 4) + co) (by omega) (by decide) dU_holds_18 ?_
    refine lv_iload_n X.x X.b dU_holds_19 rfl (lv_at hl 3 rfl) ?_
    refine lv_icmp_ne (tgt := 27) X.x X.b dU_holds_20 (by decide) (fun h1 => ?_) (fun h1 => ?_)
    · have e0 : us_tu C r co = some (C (r * 4 + co)) := us_tu_some hw
      refine lv_iconst (v := nI 0) X.x X.b dU_holds_27 (by decide) ?_
      exact us_zret (u := ()) X Y hr hlk rfl (Or.inr ⟨rfl, fun z => h1 (Option.some.inj (e0.symm.trans z))⟩) dU_holds_28
    · have e0 : us_tu C r co = some (C (r * 4 + co)) := us_tu_some hw
      refine lv_iconst (v := nI 1) X.x X.b dU_holds_23 (by decide) ?_
      refine lv_goto (tgt := 28) X.x X.b dU_holds_24 (by decide) ?_
      exact us_zret (u := ()) X Y hr hlk rfl (Or.inl ⟨rfl, by rw [e0, h1]⟩) dU_holds_28
set_option maxHeartbeats 4000000 in
set_option maxRecDepth 100000 in
theorem k_U_rowWithKey (l : Launch) (D : va_G) (ad : Nat → Nat) (cI : ClassId) (sz : Nat) (C PN CA CK CR CB : Nat → Int32) (n np k : Nat) (co : Nat) (v : Int32) (hn : n ≤ 120) (hco : co < 3) : us_Ci l yU_rowWithKey cU_rowWithKey 4 (some .int) 2 45 [.ref (ad 0), .int (nI co), .int v] D (tyU cI) (uW ad cI C n PN CA np CK CR CB k) sz (fun r (_ : Unit) => us_fd (us_tu C) co v n r) (fun _ => uW ad cI C n PN CA np CK CR CB k) := by
  refine us_enter (own := RU) rfl (by decide) (Nat.le_of_ble_eq_true rfl) ?_
  intro p e s m below meth c ls X Y hr hlk hl
  generalize va_A (uW ad cI C n PN CA np CK CR CB k) sz = A at X Y ⊢
  have hl : lv_has ls 4 [(0, .ref (ad 0)), (1, .int (nI co)), (2, .int v)] := hl
  have loop : ∀ (d i : Nat) (H : Heap) (locs : List Loc) (ls : Array Slot), i + d = n → (∀ j, j < i → us_tu C j co ≠ some v) → us_Y D A (uW ad cI C n PN CA np CK CR CB k) s H locs → lv_has ls 4 [(3, .int (nI i)), (0, .ref (ad 0)), (1, .int (nI co)), (2, .int v)] → W p l e { frames := 2, cells := 0, slots := 0, locals := 45 } s m [.ref (ad 0), .int (nI co), .int v].toArray below meth c H locs 0 0 (us_Qi below (fun r (_ : Unit) => us_fd (us_tu C) co v n r) D (tyU cI) A (fun _ => uW ad cI C n PN CA np CK CR CB k) [.ref (ad 0), .int (nI co), .int v] s) (F0 m 2 ls []) := by
    intro d
    induction d with
    | zero =>
      intro i H locs ls hi hno Y hl
      refine lv_iload_n X.x X.b dU_rowWithKey_2 rfl (lv_at hl 0 rfl) ?_
      refine lv_aload_n X.x X.b dU_rowWithKey_3 rfl (lv_at hl 1 rfl) ?_
      refine us_gU X Y 0 rfl 1 (by decide) mB_fl_U_13 rfl dU_rowWithKey_4 ?_
      refine us_cge (tgt := 28) X (by omega) (by omega) dU_rowWithKey_7 (by decide) (fun h1 => ?_) (fun h1 => ?_)
      · refine lv_iconst (v := (-1 : Int32)) X.x X.b dU_rowWithKey_28 (by decide) ?_
        exact us_iret (u := ()) X Y hr hlk (Or.inr ⟨rfl, fun j hj => hno j (by omega)⟩) dU_rowWithKey_29
      · exact absurd h1 (by omega)
    | succ d ih =>
      intro i H locs ls hi hno Y hl
      refine lv_iload_n X.x X.b dU_rowWithKey_2 rfl (lv_at hl 0 rfl) ?_
      refine lv_aload_n X.x X.b dU_rowWithKey_3 rfl (lv_at hl 1 rfl) ?_
      refine us_gU X Y 0 rfl 1 (by decide) mB_fl_U_13 rfl dU_rowWithKey_4 ?_
      refine us_cge (tgt := 28) X (by omega) (by omega) dU_rowWithKey_7 (by decide) (fun h1 => ?_) (fun h1 => ?_)
      · exact absurd h1 (by omega)
      · refine lv_aload_n X.x X.b dU_rowWithKey_10 rfl (lv_at hl 1 rfl) ?_
        refine lv_iload_n X.x X.b dU_rowWithKey_11 rfl (lv_at hl 0 rfl) ?_
        refine lv_iload_n X.x X.b dU_rowWithKey_12 rfl (lv_at hl 2 rfl) ?_
        refine lv_iload_n X.x X.b dU_rowWithKey_13 rfl (lv_at hl 3 rfl) ?_
        refine us_vi (rest := []) X Y (k_U_holds l D ad cI H.size C PN CA CK CR CB n np k i co v (by omega) hco) us_I7 0 rfl rfl cv_U_77 rfl ⟨by decide, by decide⟩ ⟨by decide, by decide⟩ hl.1 rfl (Nat.le_of_ble_eq_true rfl) dU_rowWithKey_14 (fun rr u H locs hw Y => ?_)
        have Y : us_Y D A (uW ad cI C n PN CA np CK CR CB k) s H locs := Y
        rcases hw with ⟨rfl, hw⟩ | ⟨rfl, hw⟩
        · refine us_eq1 (tgt := 22) X dU_rowWithKey_17 (by decide) ?_
          refine lv_iload_n X.x X.b dU_rowWithKey_20 rfl (lv_at hl 0 rfl) ?_
          exact us_iret (u := ()) X Y hr hlk (Or.inl ⟨i, h1, rfl, hw, hno⟩) dU_rowWithKey_21
        · refine us_eq0 (tgt := 22) X dU_rowWithKey_17 (by decide) ?_
          refine lv_iinc (v := (nI (i + 1))) (lv' := [(3, .int (nI (i + 1))), (0, .ref (ad 0)), (1, .int (nI co)), (2, .int v)]) X.x X.b dU_rowWithKey_22 hl (k := 0) rfl (us_inc _) (by decide) rfl (fun ls hl => ?_)
          refine lv_goto (tgt := 2) X.x X.b dU_rowWithKey_25 (by decide) ?_
          exact ih (i + 1) H locs ls (by omega) (lt_s hno hw) Y hl
  refine lv_iconst (v := nI 0) X.x X.b dU_rowWithKey_0 (by decide) ?_
  refine lv_istore_n (lv' := [(3, .int (nI 0)), (0, .ref (ad 0)), (1, .int (nI co)), (2, .int v)]) X.x X.b dU_rowWithKey_1 rfl hl (by decide) rfl (fun ls hl => ?_)
  exact loop n 0 s.heap [] ls (by omega) lt_0 Y hl
set_option maxHeartbeats 4000000 in
set_option maxRecDepth 100000 in
theorem k_U_countRowsWith (l : Launch) (D : va_G) (ad : Nat → Nat) (cI : ClassId) (sz : Nat) (C PN CA CK CR CB : Nat → Int32) (n np k : Nat) (co : Nat) (v : Int32) (hn : n ≤ 120) (hco : co < 3) : us_Ci l yU_countRowsWith cU_countRowsWith 5 (some .int) 2 45 [.ref (ad 0), .int (nI co), .int v] D (tyU cI) (uW ad cI C n PN CA np CK CR CB k) sz (fun r (_ : Unit) => r = nI (us_ct (us_tu C) co v n)) (fun _ => uW ad cI C n PN CA np CK CR CB k) := by
  refine us_enter (own := RU) rfl (by decide) (Nat.le_of_ble_eq_true rfl) ?_
  intro p e s m below meth c ls X Y hr hlk hl
  generalize va_A (uW ad cI C n PN CA np CK CR CB k) sz = A at X Y ⊢
  have hl : lv_has ls 5 [(0, .ref (ad 0)), (1, .int (nI co)), (2, .int v)] := hl
  have loop : ∀ (d i : Nat) (H : Heap) (locs : List Loc) (ls : Array Slot), i + d = n → us_Y D A (uW ad cI C n PN CA np CK CR CB k) s H locs → lv_has ls 5 [(4, .int (nI i)), (3, .int (nI (us_ct (us_tu C) co v i))), (0, .ref (ad 0)), (1, .int (nI co)), (2, .int v)] → W p l e { frames := 2, cells := 0, slots := 0, locals := 45 } s m [.ref (ad 0), .int (nI co), .int v].toArray below meth c H locs 0 0 (us_Qi below (fun r (_ : Unit) => r = nI (us_ct (us_tu C) co v n)) D (tyU cI) A (fun _ => uW ad cI C n PN CA np CK CR CB k) [.ref (ad 0), .int (nI co), .int v] s) (F0 m 5 ls []) := by
    intro d
    induction d with
    | zero =>
      intro i H locs ls hi Y hl
      refine lv_iload X.x X.b dU_countRowsWith_5 (lv_at hl 0 rfl) ?_
      refine lv_aload_n X.x X.b dU_countRowsWith_7 rfl (lv_at hl 2 rfl) ?_
      refine us_gU X Y 0 rfl 1 (by decide) mB_fl_U_13 rfl dU_countRowsWith_8 ?_
      refine us_cge (tgt := 34) X (by omega) (by omega) dU_countRowsWith_11 (by decide) (fun h1 => ?_) (fun h1 => ?_)
      · refine lv_iload_n X.x X.b dU_countRowsWith_34 rfl (lv_at hl 1 rfl) ?_
        exact us_iret (u := ()) X Y hr hlk (by rw [show n = i by omega]) dU_countRowsWith_35
      · exact absurd h1 (by omega)
    | succ d ih =>
      intro i H locs ls hi Y hl
      refine lv_iload X.x X.b dU_countRowsWith_5 (lv_at hl 0 rfl) ?_
      refine lv_aload_n X.x X.b dU_countRowsWith_7 rfl (lv_at hl 2 rfl) ?_
      refine us_gU X Y 0 rfl 1 (by decide) mB_fl_U_13 rfl dU_countRowsWith_8 ?_
      refine us_cge (tgt := 34) X (by omega) (by omega) dU_countRowsWith_11 (by decide) (fun h1 => ?_) (fun h1 => ?_)
      · exact absurd h1 (by omega)
      · refine lv_aload_n X.x X.b dU_countRowsWith_14 rfl (lv_at hl 2 rfl) ?_
        refine lv_iload X.x X.b dU_countRowsWith_15 (lv_at hl 0 rfl) ?_
        refine lv_iload_n X.x X.b dU_countRowsWith_17 rfl (lv_at hl 3 rfl) ?_
        refine lv_iload_n X.x X.b dU_countRowsWith_18 rfl (lv_at hl 4 rfl) ?_
        refine us_vi (rest := []) X Y (k_U_holds l D ad cI H.size C PN CA CK CR CB n np k i co v (by omega) hco) us_I7 0 rfl rfl cv_U_77 rfl ⟨by decide, by decide⟩ ⟨by decide, by decide⟩ hl.1 rfl (Nat.le_of_ble_eq_true rfl) dU_countRowsWith_19 (fun rr u H locs hw Y => ?_)
        have Y : us_Y D A (uW ad cI C n PN CA np CK CR CB k) s H locs := Y
        rcases hw with ⟨rfl, hw⟩ | ⟨rfl, hw⟩
        · refine us_eq1 (tgt := 28) X dU_countRowsWith_22 (by decide) ?_
          refine lv_iinc (v := (nI ((us_ct (us_tu C) co v i) + 1))) (lv' := [(3, .int (nI ((us_ct (us_tu C) co v i) + 1))), (4, .int (nI i)), (0, .ref (ad 0)), (1, .int (nI co)), (2, .int v)]) X.x X.b dU_countRowsWith_25 hl (k := 1) rfl (us_inc _) (by decide) rfl (fun ls hl => ?_)
          refine lv_iinc (v := (nI (i + 1))) (lv' := [(4, .int (nI (i + 1))), (3, .int (nI ((us_ct (us_tu C) co v i) + 1))), (0, .ref (ad 0)), (1, .int (nI co)), (2, .int v)]) X.x X.b dU_countRowsWith_28 hl (k := 1) rfl (us_inc _) (by decide) rfl (fun ls hl => ?_)
          refine lv_goto (tgt := 5) X.x X.b dU_countRowsWith_31 (by decide) ?_
          rw [← us_ct_1 hw] at hl
          exact ih (i + 1) H locs ls (by omega) Y hl
        · refine us_eq0 (tgt := 28) X dU_countRowsWith_22 (by decide) ?_
          refine lv_iinc (v := (nI (i + 1))) (lv' := [(4, .int (nI (i + 1))), (3, .int (nI (us_ct (us_tu C) co v i))), (0, .ref (ad 0)), (1, .int (nI co)), (2, .int v)]) X.x X.b dU_countRowsWith_28 hl (k := 0) rfl (us_inc _) (by decide) rfl (fun ls hl => ?_)
          refine lv_goto (tgt := 5) X.x X.b dU_countRowsWith_31 (by decide) ?_
          rw [← us_ct_0 hw] at hl
          exact ih (i + 1) H locs ls (by omega) Y hl
  refine lv_iconst (v := nI 0) X.x X.b dU_countRowsWith_0 (by decide) ?_
  refine lv_istore_n (lv' := [(3, .int (nI 0)), (0, .ref (ad 0)), (1, .int (nI co)), (2, .int v)]) X.x X.b dU_countRowsWith_1 rfl hl (by decide) rfl (fun ls hl => ?_)
  refine lv_iconst (v := nI 0) X.x X.b dU_countRowsWith_2 (by decide) ?_
  refine lv_istore (lv' := [(4, .int (nI 0)), (3, .int (nI 0)), (0, .ref (ad 0)), (1, .int (nI co)), (2, .int v)]) X.x X.b dU_countRowsWith_3 hl (by decide) rfl (fun ls hl => ?_)
  exact loop n 0 s.heap [] ls (by omega) Y hl
set_option maxHeartbeats 4000000 in
set_option maxRecDepth 100000 in
theorem k_U_countNone (l : Launch) (D : va_G) (ad : Nat → Nat) (cI : ClassId) (sz : Nat) (C PN CA CK CR CB : Nat → Int32) (n np k : Nat) (co : Nat) (hn : n ≤ 120) (hco : co < 3) : us_Ci l yU_countNone cU_countNone 4 (some .int) 1 22 [.ref (ad 0), .int (nI co)] D (tyU cI) (uW ad cI C n PN CA np CK CR CB k) sz (fun r (_ : Unit) => r = nI (us_cn (us_tu C) co n)) (fun _ => uW ad cI C n PN CA np CK CR CB k) := by
  refine us_enter (own := RU) rfl (by decide) (Nat.le_of_ble_eq_true rfl) ?_
  intro p e s m below meth c ls X Y hr hlk hl
  generalize va_A (uW ad cI C n PN CA np CK CR CB k) sz = A at X Y ⊢
  have hl : lv_has ls 4 [(0, .ref (ad 0)), (1, .int (nI co))] := hl
  have loop : ∀ (d i : Nat) (H : Heap) (locs : List Loc) (ls : Array Slot), i + d = n → us_Y D A (uW ad cI C n PN CA np CK CR CB k) s H locs → lv_has ls 4 [(3, .int (nI i)), (2, .int (nI (us_cn (us_tu C) co i))), (0, .ref (ad 0)), (1, .int (nI co))] → W p l e { frames := 1, cells := 0, slots := 0, locals := 22 } s m [.ref (ad 0), .int (nI co)].toArray below meth c H locs 0 0 (us_Qi below (fun r (_ : Unit) => r = nI (us_cn (us_tu C) co n)) D (tyU cI) A (fun _ => uW ad cI C n PN CA np CK CR CB k) [.ref (ad 0), .int (nI co)] s) (F0 m 4 ls []) := by
    intro d
    induction d with
    | zero =>
      intro i H locs ls hi Y hl
      refine lv_iload_n X.x X.b dU_countNone_4 rfl (lv_at hl 0 rfl) ?_
      refine lv_aload_n X.x X.b dU_countNone_5 rfl (lv_at hl 2 rfl) ?_
      refine us_gU X Y 0 rfl 1 (by decide) mB_fl_U_13 rfl dU_countNone_6 ?_
      refine us_cge (tgt := 30) X (by omega) (by omega) dU_countNone_9 (by decide) (fun h1 => ?_) (fun h1 => ?_)
      · refine lv_iload_n X.x X.b dU_countNone_30 rfl (lv_at hl 1 rfl) ?_
        exact us_iret (u := ()) X Y hr hlk (by rw [show n = i by omega]) dU_countNone_31
      · exact absurd h1 (by omega)
    | succ d ih =>
      intro i H locs ls hi Y hl
      refine lv_iload_n X.x X.b dU_countNone_4 rfl (lv_at hl 0 rfl) ?_
      refine lv_aload_n X.x X.b dU_countNone_5 rfl (lv_at hl 2 rfl) ?_
      refine us_gU X Y 0 rfl 1 (by decide) mB_fl_U_13 rfl dU_countNone_6 ?_
      refine us_cge (tgt := 30) X (by omega) (by omega) dU_countNone_9 (by decide) (fun h1 => ?_) (fun h1 => ?_)
      · exact absurd h1 (by omega)
      · refine lv_aload_n X.x X.b dU_countNone_12 rfl (lv_at hl 2 rfl) ?_
        refine lv_iload_n X.x X.b dU_countNone_13 rfl (lv_at hl 0 rfl) ?_
        refine lv_iload_n X.x X.b dU_countNone_14 rfl (lv_at hl 3 rfl) ?_
        refine us_vi (rest := []) X Y (k_U_isNone l D ad cI H.size C PN CA CK CR CB n np k i co (by omega) hco) us_I7 0 rfl rfl cv_U_83 rfl ⟨by decide, by decide⟩ ⟨by decide, by decide⟩ hl.1 rfl (Nat.le_of_ble_eq_true rfl) dU_countNone_15 (fun rr u H locs hw Y => ?_)
        have Y : us_Y D A (uW ad cI C n PN CA np CK CR CB k) s H locs := Y
        rcases hw with ⟨rfl, hw⟩ | ⟨rfl, hw⟩
        · refine us_eq1 (tgt := 24) X dU_countNone_18 (by decide) ?_
          refine lv_iinc (v := (nI ((us_cn (us_tu C) co i) + 1))) (lv' := [(2, .int (nI ((us_cn (us_tu C) co i) + 1))), (3, .int (nI i)), (0, .ref (ad 0)), (1, .int (nI co))]) X.x X.b dU_countNone_21 hl (k := 1) rfl (us_inc _) (by decide) rfl (fun ls hl => ?_)
          refine lv_iinc (v := (nI (i + 1))) (lv' := [(3, .int (nI (i + 1))), (2, .int (nI ((us_cn (us_tu C) co i) + 1))), (0, .ref (ad 0)), (1, .int (nI co))]) X.x X.b dU_countNone_24 hl (k := 1) rfl (us_inc _) (by decide) rfl (fun ls hl => ?_)
          refine lv_goto (tgt := 4) X.x X.b dU_countNone_27 (by decide) ?_
          rw [← us_cn_1 hw] at hl
          exact ih (i + 1) H locs ls (by omega) Y hl
        · refine us_eq0 (tgt := 24) X dU_countNone_18 (by decide) ?_
          refine lv_iinc (v := (nI (i + 1))) (lv' := [(3, .int (nI (i + 1))), (2, .int (nI (us_cn (us_tu C) co i))), (0, .ref (ad 0)), (1, .int (nI co))]) X.x X.b dU_countNone_24 hl (k := 0) rfl (us_inc _) (by decide) rfl (fun ls hl => ?_)
          refine lv_goto (tgt := 4) X.x X.b dU_countNone_27 (by decide) ?_
          rw [← us_cn_0 hw] at hl
          exact ih (i + 1) H locs ls (by omega) Y hl
  refine lv_iconst (v := nI 0) X.x X.b dU_countNone_0 (by decide) ?_
  refine lv_istore_n (lv' := [(2, .int (nI 0)), (0, .ref (ad 0)), (1, .int (nI co))]) X.x X.b dU_countNone_1 rfl hl (by decide) rfl (fun ls hl => ?_)
  refine lv_iconst (v := nI 0) X.x X.b dU_countNone_2 (by decide) ?_
  refine lv_istore_n (lv' := [(3, .int (nI 0)), (2, .int (nI 0)), (0, .ref (ad 0)), (1, .int (nI co))]) X.x X.b dU_countNone_3 rfl hl (by decide) rfl (fun ls hl => ?_)
  exact loop n 0 s.heap [] ls (by omega) Y hl
set_option maxHeartbeats 4000000 in
set_option maxRecDepth 100000 in
theorem k_U_mayBeInserted (l : Launch) (D : va_G) (ad : Nat → Nat) (cI : ClassId) (sz : Nat) (C PN CA CK CR CB : Nat → Int32) (n np k : Nat) (a b x : Int32) (hn : n ≤ 120) : us_Ci l yU_mayBeInserted cU_mayBeInserted 4 (some .boolean) 3 68 [.ref (ad 0), .int a, .int b, .int x] D (tyU cI) (uW ad cI C n PN CA np CK CR CB k) sz (po_b (us_mq (us_tu C) n a b x)) (fun _ => uW ad cI C n PN CA np CK CR CB k) := by
  refine us_enter (own := RU) rfl (by decide) (Nat.le_of_ble_eq_true rfl) ?_
  intro p e s m below meth c ls X Y hr hlk hl
  generalize va_A (uW ad cI C n PN CA np CK CR CB k) sz = A at X Y ⊢
  have hl : lv_has ls 4 [(0, .ref (ad 0)), (1, .int a), (2, .int b), (3, .int x)] := hl
  refine lv_iload_n X.x X.b dU_mayBeInserted_0 rfl (lv_at hl 3 rfl) ?_
  refine lv_iconst (v := (1 : Int32)) X.x X.b dU_mayBeInserted_1 (by decide) ?_
  refine lv_iand X.x X.b dU_mayBeInserted_2 ?_
  refine lv_if_eq (tgt := 15) X.x X.b dU_mayBeInserted_3 (by decide) (fun h1 => ?_) (fun h1 => ?_)
  · refine lv_iconst (v := nI 0) X.x X.b dU_mayBeInserted_15 (by decide) ?_
    exact us_zret (u := ()) X Y hr hlk rfl (Or.inr ⟨rfl, fun z => z.1.1 h1⟩) dU_mayBeInserted_16
  · refine lv_aload_n X.x X.b dU_mayBeInserted_6 rfl (lv_at hl 0 rfl) ?_
    refine lv_iconst (v := nI 0) X.x X.b dU_mayBeInserted_7 (by decide) ?_
    refine lv_iload_n X.x X.b dU_mayBeInserted_8 rfl (lv_at hl 1 rfl) ?_
    refine us_vi (rest := []) X Y (k_U_rowWithKey l D ad cI s.heap.size C PN CA CK CR CB n np k 0 a hn (by decide)) us_I7 0 rfl rfl cv_U_80 rfl ⟨by decide, by decide⟩ ⟨by decide, by decide⟩ hl.1 rfl (Nat.le_of_ble_eq_true rfl) dU_mayBeInserted_9 (fun rr u H locs f1 Y => ?_)
    have Y : us_Y D A (uW ad cI C n PN CA np CK CR CB k) s H locs := Y
    refine lv_if_lt (tgt := 17) X.x X.b dU_mayBeInserted_12 (by decide) (fun h2 => ?_) (fun h2 => ?_)
    · refine lv_iload_n X.x X.b dU_mayBeInserted_17 rfl (lv_at hl 3 rfl) ?_
      refine lv_iconst (v := (2 : Int32)) X.x X.b dU_mayBeInserted_18 (by decide) ?_
      refine lv_iand X.x X.b dU_mayBeInserted_19 ?_
      refine lv_if_eq (tgt := 32) X.x X.b dU_mayBeInserted_20 (by decide) (fun h3 => ?_) (fun h3 => ?_)
      · refine lv_iconst (v := nI 1) X.x X.b dU_mayBeInserted_32 (by decide) ?_
        refine lv_goto (tgt := 37) X.x X.b dU_mayBeInserted_33 (by decide) ?_
        exact us_zret (u := ()) X Y hr hlk rfl (Or.inl ⟨rfl, ⟨h1, (f1.neg (by omega)).mp h2⟩, Or.inl h3⟩) dU_mayBeInserted_37
      · refine lv_aload_n X.x X.b dU_mayBeInserted_23 rfl (lv_at hl 0 rfl) ?_
        refine lv_iconst (v := nI 1) X.x X.b dU_mayBeInserted_24 (by decide) ?_
        refine lv_iload_n X.x X.b dU_mayBeInserted_25 rfl (lv_at hl 2 rfl) ?_
        refine us_vi (rest := []) X Y (k_U_rowWithKey l D ad cI H.size C PN CA CK CR CB n np k 1 b hn (by decide)) us_I7 0 rfl rfl cv_U_80 rfl ⟨by decide, by decide⟩ ⟨by decide, by decide⟩ hl.1 rfl (Nat.le_of_ble_eq_true rfl) dU_mayBeInserted_26 (fun rr u H locs f2 Y => ?_)
        have Y : us_Y D A (uW ad cI C n PN CA np CK CR CB k) s H locs := Y
        refine lv_if_ge (tgt := 36) X.x X.b dU_mayBeInserted_29 (by decide) (fun h4 => ?_) (fun h4 => ?_)
        · refine lv_iconst (v := nI 0) X.x X.b dU_mayBeInserted_36 (by decide) ?_
          exact us_zret (u := ()) X Y hr hlk rfl (Or.inr ⟨rfl, fun z => z.2.elim h3 (fun q => us_nneg h4 ((f2.neg (by omega)).mpr q))⟩) dU_mayBeInserted_37
        · refine lv_iconst (v := nI 1) X.x X.b dU_mayBeInserted_32 (by decide) ?_
          refine lv_goto (tgt := 37) X.x X.b dU_mayBeInserted_33 (by decide) ?_
          exact us_zret (u := ()) X Y hr hlk rfl (Or.inl ⟨rfl, ⟨h1, (f1.neg (by omega)).mp h2⟩, Or.inr ((f2.neg (by omega)).mp (us_neg h4))⟩) dU_mayBeInserted_37
    · refine lv_iconst (v := nI 0) X.x X.b dU_mayBeInserted_15 (by decide) ?_
      exact us_zret (u := ()) X Y hr hlk rfl (Or.inr ⟨rfl, fun z => h2 ((f1.neg (by omega)).mpr z.1.2)⟩) dU_mayBeInserted_16
set_option maxHeartbeats 4000000 in
set_option maxRecDepth 100000 in
theorem k_U_maySet (l : Launch) (D : va_G) (ad : Nat → Nat) (cI : ClassId) (sz : Nat) (C PN CA CK CR CB : Nat → Int32) (n np k : Nat) (r co : Nat) (v z : Int32) (hn : n ≤ 120) (hr0 : r < n) (hco : co < 3) : us_Ci l yU_maySet cU_maySet 6 (some .boolean) 3 68 [.ref (ad 0), .int (nI r), .int (nI co), .int v, .int z] D (tyU cI) (uW ad cI C n PN CA np CK CR CB k) sz (po_b (¬ us_sc0 (us_tu C) n r co v z)) (fun _ => uW ad cI C n PN CA np CK CR CB k) := by
  refine us_enter (own := RU) rfl (by decide) (Nat.le_of_ble_eq_true rfl) ?_
  intro p e s m below meth c ls X Y hr hlk hl
  generalize va_A (uW ad cI C n PN CA np CK CR CB k) sz = A at X Y ⊢
  have hl : lv_has ls 6 [(0, .ref (ad 0)), (1, .int (nI r)), (2, .int (nI co)), (3, .int v), (4, .int z)] := hl
  refine lv_iload X.x X.b dU_maySet_0 (lv_at hl 4 rfl) ?_
  refine lv_if_eq (tgt := 15) X.x X.b dU_maySet_2 (by decide) (fun h1 => ?_) (fun h1 => ?_)
  · refine lv_iload_n X.x X.b dU_maySet_15 rfl (lv_at hl 2 rfl) ?_
    refine lv_iconst (v := nI 2) X.x X.b dU_maySet_16 (by decide) ?_
    refine us_clt (tgt := 22) X (by omega) (by omega) dU_maySet_17 (by decide) (fun h2 => ?_) (fun h2 => ?_)
    · refine lv_aload_n X.x X.b dU_maySet_22 rfl (lv_at hl 0 rfl) ?_
      refine lv_iload_n X.x X.b dU_maySet_23 rfl (lv_at hl 2 rfl) ?_
      refine lv_iload_n X.x X.b dU_maySet_24 rfl (lv_at hl 3 rfl) ?_
      refine us_vi (rest := []) X Y (k_U_rowWithKey l D ad cI s.heap.size C PN CA CK CR CB n np k co v hn hco) us_I7 0 rfl rfl cv_U_80 rfl ⟨by decide, by decide⟩ ⟨by decide, by decide⟩ hl.1 rfl (Nat.le_of_ble_eq_true rfl) dU_maySet_25 (fun rr u H locs f1 Y => ?_)
      have Y : us_Y D A (uW ad cI C n PN CA np CK CR CB k) s H locs := Y
      refine lv_istore (lv' := [(5, .int rr), (0, .ref (ad 0)), (1, .int (nI r)), (2, .int (nI co)), (3, .int v), (4, .int z)]) X.x X.b dU_maySet_28 hl (by decide) rfl (fun ls hl => ?_)
      refine lv_iload X.x X.b dU_maySet_30 (lv_at hl 0 rfl) ?_
      refine lv_if_lt (tgt := 41) X.x X.b dU_maySet_32 (by decide) (fun h3 => ?_) (fun h3 => ?_)
      · refine lv_iconst (v := nI 1) X.x X.b dU_maySet_41 (by decide) ?_
        refine lv_goto (tgt := 46) X.x X.b dU_maySet_42 (by decide) ?_
        exact us_zret (u := ()) X Y hr hlk rfl (Or.inl ⟨rfl, fun q => q.elim (fun q => q.1 h1) (fun q => ((f1.oth (by omega) hr0).mp q.2.2) (Or.inl h3))⟩) dU_maySet_46
      · refine lv_iload X.x X.b dU_maySet_35 (lv_at hl 0 rfl) ?_
        refine lv_iload_n X.x X.b dU_maySet_37 rfl (lv_at hl 2 rfl) ?_
        refine lv_icmp_ne (tgt := 45) X.x X.b dU_maySet_38 (by decide) (fun h4 => ?_) (fun h4 => ?_)
        · refine lv_iconst (v := nI 0) X.x X.b dU_maySet_45 (by decide) ?_
          exact us_zret (u := ()) X Y hr hlk rfl (Or.inr ⟨rfl, fun q => q (Or.inr ⟨h1, h2, (f1.oth (by omega) hr0).mpr (fun y => y.elim h3 h4)⟩)⟩) dU_maySet_46
        · refine lv_iconst (v := nI 1) X.x X.b dU_maySet_41 (by decide) ?_
          refine lv_goto (tgt := 46) X.x X.b dU_maySet_42 (by decide) ?_
          exact us_zret (u := ()) X Y hr hlk rfl (Or.inl ⟨rfl, fun q => q.elim (fun q => q.1 h1) (fun q => ((f1.oth (by omega) hr0).mp q.2.2) (Or.inr h4))⟩) dU_maySet_46
    · refine lv_iconst (v := nI 1) X.x X.b dU_maySet_20 (by decide) ?_
      exact us_zret (u := ()) X Y hr hlk rfl (Or.inl ⟨rfl, fun q => q.elim (fun q => q.1 h1) (fun q => absurd q.2.1 (by omega))⟩) dU_maySet_21
  · refine lv_iload_n X.x X.b dU_maySet_5 rfl (lv_at hl 2 rfl) ?_
    refine us_zeq (tgt := 13) X (by omega) dU_maySet_6 (by decide) (fun h2 => ?_) (fun h2 => ?_)
    · refine lv_iconst (v := nI 0) X.x X.b dU_maySet_13 (by decide) ?_
      exact us_zret (u := ()) X Y hr hlk rfl (Or.inr ⟨rfl, fun q => q (Or.inl ⟨h1, h2⟩)⟩) dU_maySet_14
    · refine lv_iconst (v := nI 1) X.x X.b dU_maySet_9 (by decide) ?_
      refine lv_goto (tgt := 14) X.x X.b dU_maySet_10 (by decide) ?_
      exact us_zret (u := ()) X Y hr hlk rfl (Or.inl ⟨rfl, fun q => q.elim (fun q => absurd q.2 (by omega)) (fun q => h1 q.1)⟩) dU_maySet_14
set_option maxHeartbeats 4000000 in
set_option maxRecDepth 100000 in
theorem k_U_hasRoomFor (l : Launch) (D : va_G) (ad : Nat → Nat) (cI : ClassId) (sz : Nat) (C PN CA CK CR CB : Nat → Int32) (n np k : Nat) (x : Nat) (hnp : np ≤ 20) (hk : k ≤ 200) (hx : x ≤ 120) : us_Ci l yU_hasRoomFor cU_hasRoomFor 2 (some .boolean) 0 0 [.ref (ad 0), .int (nI x)] D (tyU cI) (uW ad cI C n PN CA np CK CR CB k) sz (po_b (np = 0 ∨ k + x ≤ 200)) (fun _ => uW ad cI C n PN CA np CK CR CB k) := by
  refine us_enter (own := RU) rfl (by decide) (Nat.le_of_ble_eq_true rfl) ?_
  intro p e s m below meth c ls X Y hr hlk hl
  generalize va_A (uW ad cI C n PN CA np CK CR CB k) sz = A at X Y ⊢
  have hl : lv_has ls 2 [(0, .ref (ad 0)), (1, .int (nI x))] := hl
  refine lv_aload_n X.x X.b dU_hasRoomFor_0 rfl (lv_at hl 0 rfl) ?_
  refine us_gU X Y 0 rfl 4 (by decide) mB_fl_U_23 rfl dU_hasRoomFor_1 ?_
  refine us_zeq (tgt := 19) X (by omega) dU_hasRoomFor_4 (by decide) (fun h1 => ?_) (fun h1 => ?_)
  · refine lv_iconst (v := nI 1) X.x X.b dU_hasRoomFor_19 (by decide) ?_
    refine lv_goto (tgt := 24) X.x X.b dU_hasRoomFor_20 (by decide) ?_
    exact us_zret (u := ()) X Y hr hlk rfl (Or.inl ⟨rfl, Or.inl h1⟩) dU_hasRoomFor_24
  · refine lv_aload_n X.x X.b dU_hasRoomFor_7 rfl (lv_at hl 0 rfl) ?_
    refine us_gU X Y 0 rfl 8 (by decide) mB_fl_U_35 rfl dU_hasRoomFor_8 ?_
    refine lv_iload_n X.x X.b dU_hasRoomFor_11 rfl (lv_at hl 1 rfl) ?_
    refine us_iadd X dU_hasRoomFor_12 ?_
    refine lv_sipush (v := nI 200) X.x X.b dU_hasRoomFor_13 (by decide) ?_
    refine us_cgt (tgt := 23) X (by omega) (by omega) dU_hasRoomFor_16 (by decide) (fun h2 => ?_) (fun h2 => ?_)
    · refine lv_iconst (v := nI 0) X.x X.b dU_hasRoomFor_23 (by decide) ?_
      exact us_zret (u := ()) X Y hr hlk rfl (Or.inr ⟨rfl, fun z => by omega⟩) dU_hasRoomFor_24
    · refine lv_iconst (v := nI 1) X.x X.b dU_hasRoomFor_19 (by decide) ?_
      refine lv_goto (tgt := 24) X.x X.b dU_hasRoomFor_20 (by decide) ?_
      exact us_zret (u := ()) X Y hr hlk rfl (Or.inl ⟨rfl, Or.inr h2⟩) dU_hasRoomFor_24
set_option maxHeartbeats 4000000 in
set_option maxRecDepth 100000 in
theorem k_U_latestPoint (l : Launch) (D : va_G) (ad : Nat → Nat) (cI : ClassId) (sz : Nat) (C PN CA CK CR CB : Nat → Int32) (n np k : Nat) (x : Int32) (hnp : np ≤ 20) : us_Ci l yU_latestPoint cU_latestPoint 3 (some .int) 0 0 [.ref (ad 0), .int x] D (tyU cI) (uW ad cI C n PN CA np CK CR CB k) sz (fun r (_ : Unit) => us_pt PN x np r) (fun _ => uW ad cI C n PN CA np CK CR CB k) := by
  refine us_enter (own := RU) rfl (by decide) (Nat.le_of_ble_eq_true rfl) ?_
  intro p e s m below meth c ls X Y hr hlk hl
  generalize va_A (uW ad cI C n PN CA np CK CR CB k) sz = A at X Y ⊢
  have hl : lv_has ls 3 [(0, .ref (ad 0)), (1, .int x)] := hl
  have loop : ∀ (d : Nat) (H : Heap) (locs : List Loc) (ls : Array Slot), d ≤ np → (∀ q, d ≤ q → q < np → PN q ≠ x) → us_Y D A (uW ad cI C n PN CA np CK CR CB k) s H locs → lv_has ls 3 [(2, .int (nI d - 1)), (0, .ref (ad 0)), (1, .int x)] → W p l e { frames := 0, cells := 0, slots := 0, locals := 0 } s m [.ref (ad 0), .int x].toArray below meth c H locs 0 0 (us_Qi below (fun r (_ : Unit) => us_pt PN x np r) D (tyU cI) A (fun _ => uW ad cI C n PN CA np CK CR CB k) [.ref (ad 0), .int x] s) (F0 m 7 ls []) := by
    intro d
    induction d with
    | zero =>
      intro H locs ls hd hno Y hl
      refine lv_iload_n X.x X.b dU_latestPoint_7 rfl (lv_at hl 0 rfl) ?_
      refine lv_if_lt (tgt := 29) X.x X.b dU_latestPoint_8 (by decide) (fun h1 => ?_) (fun h1 => ?_)
      · refine lv_iconst (v := (-1 : Int32)) X.x X.b dU_latestPoint_29 (by decide) ?_
        exact us_iret (u := ()) X Y hr hlk (Or.inr ⟨rfl, fun q hq => hno q (by omega) hq⟩) dU_latestPoint_30
      · exact absurd (by decide) h1
    | succ d ih =>
      intro H locs ls hd hno Y hl
      rw [nI_pred] at hl
      refine lv_iload_n X.x X.b dU_latestPoint_7 rfl (lv_at hl 0 rfl) ?_
      refine lv_if_lt (tgt := 29) X.x X.b dU_latestPoint_8 (by decide) (fun h1 => ?_) (fun h1 => ?_)
      · exact absurd h1 (nI_pos (by omega))
      · refine lv_aload_n X.x X.b dU_latestPoint_11 rfl (lv_at hl 1 rfl) ?_
        refine us_gU X Y 0 rfl 2 (by decide) mB_fl_U_17 rfl dU_latestPoint_12 ?_
        refine lv_iload_n X.x X.b dU_latestPoint_15 rfl (lv_at hl 0 rfl) ?_
        refine us_ia X Y 2 0 rfl rfl (i := d) (by omega) (by decide) dU_latestPoint_16 ?_
        refine lv_iload_n X.x X.b dU_latestPoint_17 rfl (lv_at hl 2 rfl) ?_
        refine lv_icmp_ne (tgt := 23) X.x X.b dU_latestPoint_18 (by decide) (fun h2 => ?_) (fun h2 => ?_)
        · refine lv_iinc (v := (nI d - 1)) (lv' := [(2, .int (nI d - 1)), (0, .ref (ad 0)), (1, .int x)]) X.x X.b dU_latestPoint_23 hl (k := 0) rfl (us_dec _) (by decide) rfl (fun ls hl => ?_)
          refine lv_goto (tgt := 7) X.x X.b dU_latestPoint_26 (by decide) ?_
          exact ih H locs ls (by omega) (fun q h3 h4 => by rcases Nat.lt_or_ge d q with e | e; exact hno q e h4; rw [show q = d by omega]; exact h2) Y hl
        · refine lv_iload_n X.x X.b dU_latestPoint_21 rfl (lv_at hl 0 rfl) ?_
          exact us_iret (u := ()) X Y hr hlk (Or.inl ⟨d, by omega, rfl, h2, fun q h3 h4 => hno q (by omega) h4⟩) dU_latestPoint_22
  refine lv_aload_n X.x X.b dU_latestPoint_0 rfl (lv_at hl 0 rfl) ?_
  refine us_gU X Y 0 rfl 4 (by decide) mB_fl_U_23 rfl dU_latestPoint_1 ?_
  refine lv_iconst (v := (1 : Int32)) X.x X.b dU_latestPoint_4 (by decide) ?_
  refine lv_isub X.x X.b dU_latestPoint_5 ?_
  refine lv_istore_n (lv' := [(2, .int ((nI np) - ((1 : Int32)))), (0, .ref (ad 0)), (1, .int x)]) X.x X.b dU_latestPoint_6 rfl hl (by decide) rfl (fun ls hl => ?_)
  exact loop np s.heap [] ls (Nat.le_refl _) (fun q h1 h2 => absurd h2 (by omega)) Y hl
end
section
/-! 21.Udo (laid by wip/whole/gen/methods_u.py): private methods that change cells. -/
set_option maxHeartbeats 4000000 in
set_option maxRecDepth 100000 in
theorem k_U_keepChange (l : Launch) (D : va_G) (ad : Nat → Nat) (cI : ClassId) (sz : Nat) (C PN CA CK CR CB : Nat → Int32) (n np k : Nat) (kd r : Nat) (hr0 : r < 120) (hnp : np ≤ 20) (hk : np = 0 ∨ k + 1 ≤ 200) : us_Cv l yU_keepChange cU_keepChange 3 1 18 [.ref (ad 0), .int (nI kd), .int (nI r)] D (tyU cI) (uW ad cI C n PN CA np CK CR CB k) sz (fun (_ : Unit) => True) (fun _ => uW ad cI C n PN CA np (us_ku np k CK (nI kd)) (us_ku np k CR (nI r)) (us_kc np k C CB r) (us_k1 np k)) := by
  by_cases hz : np = 0
  · rw [us_k1_z hz, us_ku_z hz, us_ku_z hz, us_kc_z hz]
    refine us_enter (own := RU) rfl (by decide) (Nat.le_of_ble_eq_true rfl) ?_
    intro p e s m below meth c ls X Y hr hlk hl
    generalize va_A (uW ad cI C n PN CA np CK CR CB k) sz = A at X Y ⊢
    have hl : lv_has ls 3 [(0, .ref (ad 0)), (1, .int (nI kd)), (2, .int (nI r))] := hl
    refine lv_aload_n X.x X.b dU_keepChange_0 rfl (lv_at hl 0 rfl) ?_
    refine us_gU X Y 0 rfl 4 (by decide) mB_fl_U_23 rfl dU_keepChange_1 ?_
    refine us_zne (tgt := 8) X (by omega) dU_keepChange_4 (by decide) (fun h1 => ?_) (fun h1 => ?_)
    · exact absurd hz (by omega)
    · exact us_vret (u := ()) X Y hr hlk trivial dU_keepChange_7
  · rw [us_k1_n hz, us_ku_n hz, us_ku_n hz, us_kc_n hz]
    refine us_enter (own := RU) rfl (by decide) (Nat.le_of_ble_eq_true rfl) ?_
    intro p e s m below meth c ls X Y hr hlk hl
    generalize va_A (uW ad cI C n PN CA np CK CR CB k) sz = A at X Y ⊢
    have hl : lv_has ls 3 [(0, .ref (ad 0)), (1, .int (nI kd)), (2, .int (nI r))] := hl
    refine lv_aload_n X.x X.b dU_keepChange_0 rfl (lv_at hl 0 rfl) ?_
    refine us_gU X Y 0 rfl 4 (by decide) mB_fl_U_23 rfl dU_keepChange_1 ?_
    refine us_zne (tgt := 8) X (by omega) dU_keepChange_4 (by decide) (fun h1 => ?_) (fun h1 => ?_)
    · refine lv_aload_n X.x X.b dU_keepChange_8 rfl (lv_at hl 0 rfl) ?_
      refine us_gU X Y 0 rfl 5 (by decide) mB_fl_U_26 rfl dU_keepChange_9 ?_
      refine lv_aload_n X.x X.b dU_keepChange_12 rfl (lv_at hl 0 rfl) ?_
      refine us_gU X Y 0 rfl 8 (by decide) mB_fl_U_35 rfl dU_keepChange_13 ?_
      refine lv_iload_n X.x X.b dU_keepChange_16 rfl (lv_at hl 1 rfl) ?_
      refine us_is X Y 4 0 rfl rfl (i := k) (by omega) (by decide) dU_keepChange_17 (fun H locs Y => ?_)
      have Y : us_Y D A (uW ad cI C n PN CA np ((upd CK k (nI kd))) CR CB k) s H locs := Y
      refine lv_aload_n X.x X.b dU_keepChange_18 rfl (lv_at hl 0 rfl) ?_
      refine us_gU X Y 0 rfl 6 (by decide) mB_fl_U_29 rfl dU_keepChange_19 ?_
      refine lv_aload_n X.x X.b dU_keepChange_22 rfl (lv_at hl 0 rfl) ?_
      refine us_gU X Y 0 rfl 8 (by decide) mB_fl_U_35 rfl dU_keepChange_23 ?_
      refine lv_iload_n X.x X.b dU_keepChange_26 rfl (lv_at hl 2 rfl) ?_
      refine us_is X Y 5 0 rfl rfl (i := k) (by omega) (by decide) dU_keepChange_27 (fun H locs Y => ?_)
      have Y : us_Y D A (uW ad cI C n PN CA np ((upd CK k (nI kd))) ((upd CR k (nI r))) CB k) s H locs := Y
      refine lv_aload_n X.x X.b dU_keepChange_28 rfl (lv_at hl 0 rfl) ?_
      refine us_gU X Y 0 rfl 0 (by decide) mB_fl_U_9 rfl dU_keepChange_29 ?_
      refine lv_iload_n X.x X.b dU_keepChange_32 rfl (lv_at hl 2 rfl) ?_
      refine lv_iconst (v := nI 4) X.x X.b dU_keepChange_33 (by decide) ?_
      refine us_imul X dU_keepChange_34 ?_
      refine lv_aload_n X.x X.b dU_keepChange_35 rfl (lv_at hl 0 rfl) ?_
      refine us_gU X Y 0 rfl 7 (by decide) mB_fl_U_32 rfl dU_keepChange_36 ?_
      refine lv_aload_n X.x X.b dU_keepChange_39 rfl (lv_at hl 0 rfl) ?_
      refine us_gU X Y 0 rfl 8 (by decide) mB_fl_U_35 rfl dU_keepChange_40 ?_
      refine lv_iconst (v := nI 4) X.x X.b dU_keepChange_43 (by decide) ?_
      refine us_imul X dU_keepChange_44 ?_
      refine lv_iconst (v := nI 4) X.x X.b dU_keepChange_45 (by decide) ?_
      refine us_cp X Y 1 6 0 0 rfl rfl rfl rfl mB_ml_U_100 (sp := r * 4) (dp := k * 4) (n := 4) (by omega) (by omega) (by decide) (by decide) hl.1 (by decide) (by decide) dU_keepChange_46 (fun H locs Y => ?_)
      have Y : us_Y D A (uW ad cI C n PN CA np ((upd CK k (nI kd))) ((upd CR k (nI r))) ((va_cpy C CB (r * 4) (k * 4) 4)) k) s H locs := Y
      refine lv_aload_n X.x X.b dU_keepChange_49 rfl (lv_at hl 0 rfl) ?_
      refine lv_dup X.x X.b dU_keepChange_50 rfl ?_
      refine us_gU X Y 0 rfl 8 (by decide) mB_fl_U_35 rfl dU_keepChange_51 ?_
      refine lv_iconst (v := nI 1) X.x X.b dU_keepChange_54 (by decide) ?_
      refine us_iadd X dU_keepChange_55 ?_
      refine us_pU X Y 0 rfl 8 (by decide) mB_fl_U_35 rfl rfl rfl (Nat.le_of_ble_eq_true rfl) dU_keepChange_56 (fun H locs Y => ?_)
      have Y : us_Y D A (uW ad cI C n PN CA np ((upd CK k (nI kd))) ((upd CR k (nI r))) ((va_cpy C CB (r * 4) (k * 4) 4)) (k + 1)) s H locs := Y
      exact us_vret (u := ()) X Y hr hlk trivial dU_keepChange_59
    · exact absurd h1 hz
set_option maxHeartbeats 4000000 in
set_option maxRecDepth 100000 in
theorem k_U_closeRow (l : Launch) (D : va_G) (ad : Nat → Nat) (cI : ClassId) (sz : Nat) (C PN CA CK CR CB : Nat → Int32) (n np k : Nat) (r : Nat) (hn : n ≤ 120) (hr0 : r < n) : us_Cv l yU_closeRow cU_closeRow 3 1 18 [.ref (ad 0), .int (nI r)] D (tyU cI) (uW ad cI C n PN CA np CK CR CB k) sz (fun (_ : Unit) => True) (fun _ => uW ad cI (va_cpy C C ((r + 1) * 4) (r * 4) ((n - r - 1) * 4)) (n - 1) PN CA np CK CR CB k) := by
  refine us_enter (own := RU) rfl (by decide) (Nat.le_of_ble_eq_true rfl) ?_
  intro p e s m below meth c ls X Y hr hlk hl
  generalize va_A (uW ad cI C n PN CA np CK CR CB k) sz = A at X Y ⊢
  have hl : lv_has ls 3 [(0, .ref (ad 0)), (1, .int (nI r))] := hl
  refine lv_aload_n X.x X.b dU_closeRow_0 rfl (lv_at hl 0 rfl) ?_
  refine us_gU X Y 0 rfl 1 (by decide) mB_fl_U_13 rfl dU_closeRow_1 ?_
  refine lv_iload_n X.x X.b dU_closeRow_4 rfl (lv_at hl 1 rfl) ?_
  refine us_isub X (by omega) dU_closeRow_5 ?_
  refine lv_iconst (v := nI 1) X.x X.b dU_closeRow_6 (by decide) ?_
  refine us_isub X (by omega) dU_closeRow_7 ?_
  refine lv_istore_n (lv' := [(2, .int (nI ((n - r) - 1))), (0, .ref (ad 0)), (1, .int (nI r))]) X.x X.b dU_closeRow_8 rfl hl (by decide) rfl (fun ls hl => ?_)
  refine lv_aload_n X.x X.b dU_closeRow_9 rfl (lv_at hl 1 rfl) ?_
  refine us_gU X Y 0 rfl 0 (by decide) mB_fl_U_9 rfl dU_closeRow_10 ?_
  refine lv_iload_n X.x X.b dU_closeRow_13 rfl (lv_at hl 2 rfl) ?_
  refine lv_iconst (v := nI 1) X.x X.b dU_closeRow_14 (by decide) ?_
  refine us_iadd X dU_closeRow_15 ?_
  refine lv_iconst (v := nI 4) X.x X.b dU_closeRow_16 (by decide) ?_
  refine us_imul X dU_closeRow_17 ?_
  refine lv_aload_n X.x X.b dU_closeRow_18 rfl (lv_at hl 1 rfl) ?_
  refine us_gU X Y 0 rfl 0 (by decide) mB_fl_U_9 rfl dU_closeRow_19 ?_
  refine lv_iload_n X.x X.b dU_closeRow_22 rfl (lv_at hl 2 rfl) ?_
  refine lv_iconst (v := nI 4) X.x X.b dU_closeRow_23 (by decide) ?_
  refine us_imul X dU_closeRow_24 ?_
  refine lv_iload_n X.x X.b dU_closeRow_25 rfl (lv_at hl 0 rfl) ?_
  refine lv_iconst (v := nI 4) X.x X.b dU_closeRow_26 (by decide) ?_
  refine us_imul X dU_closeRow_27 ?_
  refine us_cp X Y 1 1 0 0 rfl rfl rfl rfl mB_ml_U_100 (sp := (r + 1) * 4) (dp := r * 4) (n := ((n - r) - 1) * 4) (by omega) (by omega) (by decide) (by decide) hl.1 (by decide) (by decide) dU_closeRow_28 (fun H locs Y => ?_)
  have Y : us_Y D A (uW ad cI ((va_cpy C C ((r + 1) * 4) (r * 4) (((n - r) - 1) * 4))) n PN CA np CK CR CB k) s H locs := Y
  refine lv_aload_n X.x X.b dU_closeRow_31 rfl (lv_at hl 1 rfl) ?_
  refine lv_dup X.x X.b dU_closeRow_32 rfl ?_
  refine us_gU X Y 0 rfl 1 (by decide) mB_fl_U_13 rfl dU_closeRow_33 ?_
  refine lv_iconst (v := nI 1) X.x X.b dU_closeRow_36 (by decide) ?_
  refine us_isub X (by omega) dU_closeRow_37 ?_
  refine us_pU X Y 0 rfl 1 (by decide) mB_fl_U_13 rfl rfl rfl (Nat.le_of_ble_eq_true rfl) dU_closeRow_38 (fun H locs Y => ?_)
  have Y : us_Y D A (uW ad cI ((va_cpy C C ((r + 1) * 4) (r * 4) (((n - r) - 1) * 4))) (n - 1) PN CA np CK CR CB k) s H locs := Y
  exact us_vret (u := ()) X Y hr hlk trivial dU_closeRow_41
set_option maxHeartbeats 4000000 in
set_option maxRecDepth 100000 in
theorem k_U_openRow (l : Launch) (D : va_G) (ad : Nat → Nat) (cI : ClassId) (sz : Nat) (C PN CA CK CR CB : Nat → Int32) (n np k : Nat) (r : Nat) (hn : n < 120) (hr0 : r ≤ n) : us_Cv l yU_openRow cU_openRow 3 1 18 [.ref (ad 0), .int (nI r)] D (tyU cI) (uW ad cI C n PN CA np CK CR CB k) sz (fun (_ : Unit) => True) (fun _ => uW ad cI (va_cpy C C (r * 4) ((r + 1) * 4) ((n - r) * 4)) (n + 1) PN CA np CK CR CB k) := by
  refine us_enter (own := RU) rfl (by decide) (Nat.le_of_ble_eq_true rfl) ?_
  intro p e s m below meth c ls X Y hr hlk hl
  generalize va_A (uW ad cI C n PN CA np CK CR CB k) sz = A at X Y ⊢
  have hl : lv_has ls 3 [(0, .ref (ad 0)), (1, .int (nI r))] := hl
  refine lv_aload_n X.x X.b dU_openRow_0 rfl (lv_at hl 0 rfl) ?_
  refine us_gU X Y 0 rfl 1 (by decide) mB_fl_U_13 rfl dU_openRow_1 ?_
  refine lv_iload_n X.x X.b dU_openRow_4 rfl (lv_at hl 1 rfl) ?_
  refine us_isub X (by omega) dU_openRow_5 ?_
  refine lv_istore_n (lv' := [(2, .int (nI (n - r))), (0, .ref (ad 0)), (1, .int (nI r))]) X.x X.b dU_openRow_6 rfl hl (by decide) rfl (fun ls hl => ?_)
  refine lv_aload_n X.x X.b dU_openRow_7 rfl (lv_at hl 1 rfl) ?_
  refine us_gU X Y 0 rfl 0 (by decide) mB_fl_U_9 rfl dU_openRow_8 ?_
  refine lv_iload_n X.x X.b dU_openRow_11 rfl (lv_at hl 2 rfl) ?_
  refine lv_iconst (v := nI 4) X.x X.b dU_openRow_12 (by decide) ?_
  refine us_imul X dU_openRow_13 ?_
  refine lv_aload_n X.x X.b dU_openRow_14 rfl (lv_at hl 1 rfl) ?_
  refine us_gU X Y 0 rfl 0 (by decide) mB_fl_U_9 rfl dU_openRow_15 ?_
  refine lv_iload_n X.x X.b dU_openRow_18 rfl (lv_at hl 2 rfl) ?_
  refine lv_iconst (v := nI 1) X.x X.b dU_openRow_19 (by decide) ?_
  refine us_iadd X dU_openRow_20 ?_
  refine lv_iconst (v := nI 4) X.x X.b dU_openRow_21 (by decide) ?_
  refine us_imul X dU_openRow_22 ?_
  refine lv_iload_n X.x X.b dU_openRow_23 rfl (lv_at hl 0 rfl) ?_
  refine lv_iconst (v := nI 4) X.x X.b dU_openRow_24 (by decide) ?_
  refine us_imul X dU_openRow_25 ?_
  refine us_cp X Y 1 1 0 0 rfl rfl rfl rfl mB_ml_U_100 (sp := r * 4) (dp := (r + 1) * 4) (n := (n - r) * 4) (by omega) (by omega) (by decide) (by decide) hl.1 (by decide) (by decide) dU_openRow_26 (fun H locs Y => ?_)
  have Y : us_Y D A (uW ad cI ((va_cpy C C (r * 4) ((r + 1) * 4) ((n - r) * 4))) n PN CA np CK CR CB k) s H locs := Y
  refine lv_aload_n X.x X.b dU_openRow_29 rfl (lv_at hl 1 rfl) ?_
  refine lv_dup X.x X.b dU_openRow_30 rfl ?_
  refine us_gU X Y 0 rfl 1 (by decide) mB_fl_U_13 rfl dU_openRow_31 ?_
  refine lv_iconst (v := nI 1) X.x X.b dU_openRow_34 (by decide) ?_
  refine us_iadd X dU_openRow_35 ?_
  refine us_pU X Y 0 rfl 1 (by decide) mB_fl_U_13 rfl rfl rfl (Nat.le_of_ble_eq_true rfl) dU_openRow_36 (fun H locs Y => ?_)
  have Y : us_Y D A (uW ad cI ((va_cpy C C (r * 4) ((r + 1) * 4) ((n - r) * 4))) (n + 1) PN CA np CK CR CB k) s H locs := Y
  exact us_vret (u := ()) X Y hr hlk trivial dU_openRow_39
set_option maxHeartbeats 4000000 in
set_option maxRecDepth 100000 in
theorem k_U_takeOut (l : Launch) (D : va_G) (ad : Nat → Nat) (cI : ClassId) (sz : Nat) (C PN CA CK CR CB : Nat → Int32) (n np k : Nat) (r : Nat) (hn : n ≤ 120) (hr0 : r < n) (hnp : np ≤ 20) (hk : np = 0 ∨ k + 1 ≤ 200) : us_Cv l yU_takeOut cU_takeOut 2 2 40 [.ref (ad 0), .int (nI r)] D (tyU cI) (uW ad cI C n PN CA np CK CR CB k) sz (fun (_ : Unit) => True) (fun _ => uW ad cI (va_cpy C C ((r + 1) * 4) (r * 4) ((n - r - 1) * 4)) (n - 1) PN CA np (us_ku np k CK (nI 2)) (us_ku np k CR (nI r)) (us_kc np k C CB r) (us_k1 np k)) := by
  refine us_enter (own := RU) rfl (by decide) (Nat.le_of_ble_eq_true rfl) ?_
  intro p e s m below meth c ls X Y hr hlk hl
  generalize va_A (uW ad cI C n PN CA np CK CR CB k) sz = A at X Y ⊢
  have hl : lv_has ls 2 [(0, .ref (ad 0)), (1, .int (nI r))] := hl
  refine lv_aload_n X.x X.b dU_takeOut_0 rfl (lv_at hl 0 rfl) ?_
  refine lv_iconst (v := nI 2) X.x X.b dU_takeOut_1 (by decide) ?_
  refine lv_iload_n X.x X.b dU_takeOut_2 rfl (lv_at hl 1 rfl) ?_
  refine us_vv (rest := []) X Y (k_U_keepChange l D ad cI s.heap.size C PN CA CK CR CB n np k 2 r (by omega) hnp hk) us_I7 0 rfl rfl cv_U_52 rfl ⟨by decide, by decide⟩ ⟨by decide, by decide⟩ hl.1 rfl (Nat.le_of_ble_eq_true rfl) dU_takeOut_3 (fun u H locs _ Y => ?_)
  have Y : us_Y D A (uW ad cI C n PN CA np ((us_ku np k CK (nI 2))) ((us_ku np k CR (nI r))) ((us_kc np k C CB r)) (us_k1 np k)) s H locs := Y
  refine lv_aload_n X.x X.b dU_takeOut_6 rfl (lv_at hl 0 rfl) ?_
  refine lv_iload_n X.x X.b dU_takeOut_7 rfl (lv_at hl 1 rfl) ?_
  refine us_vv (rest := []) X Y (k_U_closeRow l D ad cI H.size C PN CA ((us_ku np k CK (nI 2))) ((us_ku np k CR (nI r))) ((us_kc np k C CB r)) n np (us_k1 np k) r hn hr0) us_I7 0 rfl rfl cv_U_97 rfl ⟨by decide, by decide⟩ ⟨by decide, by decide⟩ hl.1 rfl (Nat.le_of_ble_eq_true rfl) dU_takeOut_8 (fun u H locs _ Y => ?_)
  have Y : us_Y D A (uW ad cI ((va_cpy C C ((r + 1) * 4) (r * 4) ((n - r - 1) * 4))) (n - 1) PN CA np ((us_ku np k CK (nI 2))) ((us_ku np k CR (nI r))) ((us_kc np k C CB r)) (us_k1 np k)) s H locs := Y
  exact us_vret (u := ()) X Y hr hlk trivial dU_takeOut_11
set_option maxHeartbeats 4000000 in
set_option maxRecDepth 100000 in
theorem k_U_undo (l : Launch) (D : va_G) (ad : Nat → Nat) (cI : ClassId) (sz : Nat) (C PN CA CK CR CB : Nat → Int32) (n np k : Nat) (j n0 : Nat) (Tz : us_T) (hj : j < 200) (hn : n ≤ 120) (hu : us_undo (CK j) (CR j) (us_tu CB j) n (us_tu C) n0 Tz) : us_Cv l yU_undo cU_undo 3 2 40 [.ref (ad 0), .int (nI j)] D (tyU cI) (uW ad cI C n PN CA np CK CR CB k) sz (fun (C' : Nat → Int32) => us_eq n0 (us_tu C') Tz) (fun C' => uW ad cI C' n0 PN CA np CK CR CB k) := by
  refine us_enter (own := RU) rfl (by decide) (Nat.le_of_ble_eq_true rfl) ?_
  intro p e s m below meth c ls X Y hr hlk hl
  generalize va_A (uW ad cI C n PN CA np CK CR CB k) sz = A at X Y ⊢
  have hl : lv_has ls 3 [(0, .ref (ad 0)), (1, .int (nI j))] := hl
  rcases hu with ⟨e1, e2, e3, e4⟩ | ⟨e1, e2, r, e3, e4, e5⟩ | ⟨e1, e2, e3, r, e4, e5, e6⟩
  · refine lv_aload_n X.x X.b dU_undo_0 rfl (lv_at hl 0 rfl) ?_
    refine us_gU X Y 0 rfl 6 (by decide) mB_fl_U_29 rfl dU_undo_1 ?_
    refine lv_iload_n X.x X.b dU_undo_4 rfl (lv_at hl 1 rfl) ?_
    refine us_ia X Y 5 0 rfl rfl (i := j) (by omega) (by decide) dU_undo_5 ?_
    rw [e2]
    refine lv_istore_n (lv' := [(2, .int (nI n0)), (0, .ref (ad 0)), (1, .int (nI j))]) X.x X.b dU_undo_6 rfl hl (by decide) rfl (fun ls hl => ?_)
    refine lv_aload_n X.x X.b dU_undo_7 rfl (lv_at hl 1 rfl) ?_
    refine us_gU X Y 0 rfl 5 (by decide) mB_fl_U_26 rfl dU_undo_8 ?_
    refine lv_iload_n X.x X.b dU_undo_11 rfl (lv_at hl 2 rfl) ?_
    refine us_ia X Y 4 0 rfl rfl (i := j) (by omega) (by decide) dU_undo_12 ?_
    refine lv_if_ne (tgt := 22) X.x X.b dU_undo_13 (by decide) (fun h1 => ?_) (fun h1 => ?_)
    · exact absurd e1 h1
    · refine lv_aload_n X.x X.b dU_undo_16 rfl (lv_at hl 1 rfl) ?_
      refine lv_iload_n X.x X.b dU_undo_17 rfl (lv_at hl 0 rfl) ?_
      refine us_vv (rest := []) X Y (k_U_closeRow l D ad cI s.heap.size C PN CA CK CR CB n np k n0 hn (by omega)) us_I7 0 rfl rfl cv_U_97 rfl ⟨by decide, by decide⟩ ⟨by decide, by decide⟩ hl.1 rfl (Nat.le_of_ble_eq_true rfl) dU_undo_18 (fun u H locs _ Y => ?_)
      have Y : us_Y D A (uW ad cI ((va_cpy C C ((n0 + 1) * 4) (n0 * 4) ((n - n0 - 1) * 4))) (n - 1) PN CA np CK CR CB k) s H locs := Y
      have en : n - 1 = n0 := by omega
      rw [en] at Y
      exact us_vret (u := _) X Y hr hlk (fun i c hi hc => by have h9 := us_close (C := C) (n := n) (r := n0) (by omega) i c (by omega) hc; rw [h9]; unfold us_del; rw [if_pos hi]; exact e4 i c hi hc) dU_undo_21
  · refine lv_aload_n X.x X.b dU_undo_0 rfl (lv_at hl 0 rfl) ?_
    refine us_gU X Y 0 rfl 6 (by decide) mB_fl_U_29 rfl dU_undo_1 ?_
    refine lv_iload_n X.x X.b dU_undo_4 rfl (lv_at hl 1 rfl) ?_
    refine us_ia X Y 5 0 rfl rfl (i := j) (by omega) (by decide) dU_undo_5 ?_
    rw [e4]
    refine lv_istore_n (lv' := [(2, .int (nI r)), (0, .ref (ad 0)), (1, .int (nI j))]) X.x X.b dU_undo_6 rfl hl (by decide) rfl (fun ls hl => ?_)
    refine lv_aload_n X.x X.b dU_undo_7 rfl (lv_at hl 1 rfl) ?_
    refine us_gU X Y 0 rfl 5 (by decide) mB_fl_U_26 rfl dU_undo_8 ?_
    refine lv_iload_n X.x X.b dU_undo_11 rfl (lv_at hl 2 rfl) ?_
    refine us_ia X Y 4 0 rfl rfl (i := j) (by omega) (by decide) dU_undo_12 ?_
    refine lv_if_ne (tgt := 22) X.x X.b dU_undo_13 (by decide) (fun h1 => ?_) (fun h1 => ?_)
    · refine lv_aload_n X.x X.b dU_undo_22 rfl (lv_at hl 1 rfl) ?_
      refine us_gU X Y 0 rfl 5 (by decide) mB_fl_U_26 rfl dU_undo_23 ?_
      refine lv_iload_n X.x X.b dU_undo_26 rfl (lv_at hl 2 rfl) ?_
      refine us_ia X Y 4 0 rfl rfl (i := j) (by omega) (by decide) dU_undo_27 ?_
      refine lv_iconst (v := (2 : Int32)) X.x X.b dU_undo_28 (by decide) ?_
      refine lv_icmp_ne (tgt := 37) X.x X.b dU_undo_29 (by decide) (fun h2 => ?_) (fun h2 => ?_)
      · refine lv_aload_n X.x X.b dU_undo_37 rfl (lv_at hl 1 rfl) ?_
        refine us_gU X Y 0 rfl 7 (by decide) mB_fl_U_32 rfl dU_undo_38 ?_
        refine lv_iload_n X.x X.b dU_undo_41 rfl (lv_at hl 2 rfl) ?_
        refine lv_iconst (v := nI 4) X.x X.b dU_undo_42 (by decide) ?_
        refine us_imul X dU_undo_43 ?_
        refine lv_aload_n X.x X.b dU_undo_44 rfl (lv_at hl 1 rfl) ?_
        refine us_gU X Y 0 rfl 0 (by decide) mB_fl_U_9 rfl dU_undo_45 ?_
        refine lv_iload_n X.x X.b dU_undo_48 rfl (lv_at hl 0 rfl) ?_
        refine lv_iconst (v := nI 4) X.x X.b dU_undo_49 (by decide) ?_
        refine us_imul X dU_undo_50 ?_
        refine lv_iconst (v := nI 4) X.x X.b dU_undo_51 (by decide) ?_
        refine us_cp X Y 6 1 0 0 rfl rfl rfl rfl mB_ml_U_100 (sp := j * 4) (dp := r * 4) (n := 4) (by omega) (by omega) (by decide) (by decide) hl.1 (by decide) (by decide) dU_undo_52 (fun H locs Y => ?_)
        have Y : us_Y D A (uW ad cI ((va_cpy CB C (j * 4) (r * 4) 4)) n PN CA np CK CR CB k) s H locs := Y
        rw [e2] at Y
        exact us_vret (u := _) X Y hr hlk ((us_back1 (n := n0)).tr e5) dU_undo_55
      · exact absurd (e1.symm.trans h2) (by decide)
    · exact absurd (e1.symm.trans h1) (by decide)
  · refine lv_aload_n X.x X.b dU_undo_0 rfl (lv_at hl 0 rfl) ?_
    refine us_gU X Y 0 rfl 6 (by decide) mB_fl_U_29 rfl dU_undo_1 ?_
    refine lv_iload_n X.x X.b dU_undo_4 rfl (lv_at hl 1 rfl) ?_
    refine us_ia X Y 5 0 rfl rfl (i := j) (by omega) (by decide) dU_undo_5 ?_
    rw [e5]
    refine lv_istore_n (lv' := [(2, .int (nI r)), (0, .ref (ad 0)), (1, .int (nI j))]) X.x X.b dU_undo_6 rfl hl (by decide) rfl (fun ls hl => ?_)
    refine lv_aload_n X.x X.b dU_undo_7 rfl (lv_at hl 1 rfl) ?_
    refine us_gU X Y 0 rfl 5 (by decide) mB_fl_U_26 rfl dU_undo_8 ?_
    refine lv_iload_n X.x X.b dU_undo_11 rfl (lv_at hl 2 rfl) ?_
    refine us_ia X Y 4 0 rfl rfl (i := j) (by omega) (by decide) dU_undo_12 ?_
    refine lv_if_ne (tgt := 22) X.x X.b dU_undo_13 (by decide) (fun h1 => ?_) (fun h1 => ?_)
    · refine lv_aload_n X.x X.b dU_undo_22 rfl (lv_at hl 1 rfl) ?_
      refine us_gU X Y 0 rfl 5 (by decide) mB_fl_U_26 rfl dU_undo_23 ?_
      refine lv_iload_n X.x X.b dU_undo_26 rfl (lv_at hl 2 rfl) ?_
      refine us_ia X Y 4 0 rfl rfl (i := j) (by omega) (by decide) dU_undo_27 ?_
      refine lv_iconst (v := (2 : Int32)) X.x X.b dU_undo_28 (by decide) ?_
      refine lv_icmp_ne (tgt := 37) X.x X.b dU_undo_29 (by decide) (fun h2 => ?_) (fun h2 => ?_)
      · exact absurd e1 h2
      · refine lv_aload_n X.x X.b dU_undo_32 rfl (lv_at hl 1 rfl) ?_
        refine lv_iload_n X.x X.b dU_undo_33 rfl (lv_at hl 0 rfl) ?_
        refine us_vv (rest := []) X Y (k_U_openRow l D ad cI s.heap.size C PN CA CK CR CB n np k r (by omega) (by omega)) us_I7 0 rfl rfl cv_U_106 rfl ⟨by decide, by decide⟩ ⟨by decide, by decide⟩ hl.1 rfl (Nat.le_of_ble_eq_true rfl) dU_undo_34 (fun u H locs _ Y => ?_)
        have Y : us_Y D A (uW ad cI ((va_cpy C C (r * 4) ((r + 1) * 4) ((n - r) * 4))) (n + 1) PN CA np CK CR CB k) s H locs := Y
        refine lv_aload_n X.x X.b dU_undo_37 rfl (lv_at hl 1 rfl) ?_
        refine us_gU X Y 0 rfl 7 (by decide) mB_fl_U_32 rfl dU_undo_38 ?_
        refine lv_iload_n X.x X.b dU_undo_41 rfl (lv_at hl 2 rfl) ?_
        refine lv_iconst (v := nI 4) X.x X.b dU_undo_42 (by decide) ?_
        refine us_imul X dU_undo_43 ?_
        refine lv_aload_n X.x X.b dU_undo_44 rfl (lv_at hl 1 rfl) ?_
        refine us_gU X Y 0 rfl 0 (by decide) mB_fl_U_9 rfl dU_undo_45 ?_
        refine lv_iload_n X.x X.b dU_undo_48 rfl (lv_at hl 0 rfl) ?_
        refine lv_iconst (v := nI 4) X.x X.b dU_undo_49 (by decide) ?_
        refine us_imul X dU_undo_50 ?_
        refine lv_iconst (v := nI 4) X.x X.b dU_undo_51 (by decide) ?_
        refine us_cp X Y 6 1 0 0 rfl rfl rfl rfl mB_ml_U_100 (sp := j * 4) (dp := r * 4) (n := 4) (by omega) (by omega) (by decide) (by decide) hl.1 (by decide) (by decide) dU_undo_52 (fun H locs Y => ?_)
        have Y : us_Y D A (uW ad cI ((va_cpy CB ((va_cpy C C (r * 4) ((r + 1) * 4) ((n - r) * 4))) (j * 4) (r * 4) 4)) (n + 1) PN CA np CK CR CB k) s H locs := Y
        rw [← e2] at Y
        exact us_vret (u := _) X Y hr hlk (by rw [e2] at e6 ⊢; exact (us_open (by omega)).tr e6) dU_undo_55
    · exact absurd (e1.symm.trans h1) (by decide)
end
section
/-! 25.throw: methods that return or throw: their contracts, their entry, 'throw new E()', their calls, their ends. -/
abbrev EIA : String := "java/lang/IllegalArgumentException"
abbrev EIS : String := "java/lang/IllegalStateException"
abbrev ENS : String := "java/util/NoSuchElementException"
abbrev us_nm : List String := ["java/lang/RuntimeException", "java/lang/Exception"]
def us_bad : List Cond := [.castable EIA EIA, .castable EIS EIS, .castable ENS ENS, .declares ⟨"java/lang/RuntimeException", "<init>", "()V"⟩, .declares ⟨"java/lang/Exception", "<init>", "()V"⟩, .declares ⟨"java/lang/Throwable", "<init>", "()V"⟩]
theorem us_bad_t : ∀ w ∈ us_bad, w.onTables = true := by decide +kernel
section UST
variable {p : Program} {l : Launch} {e : Env} {R : Room} {s : State} {m : MethodId} {args : Array Value} {below : List Frame} {meth : Method} {c : Code} {H : Heap} {locs : List Loc} {cells slots : Nat} {Q : State → Prop}
variable {cc : ByteArray} {nL pc : Nat} {ls : Array Slot} {rest : List Value} {D : va_G} {A : Nat → Prop} {tys : List (ClassId × FieldType)} {ws : va_W} {own : String}
/-- what a throw needs beside the words -/
def us_E (A : Nat → Prop) (U : State) : Prop := (∀ w ∈ us_bad, va_Nw w U) ∧ (va_Nc EIS EIA U ∧ va_Nc ENS EIA U ∧ va_Nc ENS EIS U) ∧ vx_Zq Bundle.tN "UNASSIGNED_STACK" Bundle.steD A U U.heap ∧ vx_Zq Bundle.tN "SUPPRESSED_SENTINEL" Bundle.listD A U U.heap
theorem us_bad_w {s U : State} (hW : s.WarmedH U.vm) (h : ∀ w ∈ us_bad, va_Nw w s) : ∀ w ∈ us_bad, va_Nw w U := by
  intro w hw
  have hz := h w hw
  unfold us_bad at hw
  simp only [List.mem_cons, List.not_mem_nil, or_false] at hw
  rcases hw with rfl | rfl | rfl | rfl | rfl | rfl
  · exact va_Nw.warmC hW hz
  · exact va_Nw.warmC hW hz
  · exact va_Nw.warmC hW hz
  · exact va_Nw.warmD hW hz
  · exact va_Nw.warmD hW hz
  · exact va_Nw.warmD hW hz
theorem us_E.to {A1 : Nat → Prop} {U : State} (h : us_E A s) (hU : U.heap = H) (hW : s.WarmedH U.vm) (hS : va_S A s.heap H locs) (hA : ∀ q, A1 q → A q) : us_E A1 U := by
  obtain ⟨h1, ⟨h2, h3, h4⟩, h5, h6⟩ := h
  refine ⟨us_bad_w hW h1, ⟨h2.moved hW.alike, h3.moved hW.alike, h4.moved hW.alike⟩, ?_, ?_⟩
  · rw [hU]; exact (vx_Zq.moved hW.alike (h5.kept hS.2.1)).narrow hA
  · rw [hU]; exact (vx_Zq.moved hW.alike (h6.kept hS.2.1)).narrow hA
def us_PE (D : va_G) (tys : List (ClassId × FieldType)) (ws : va_W) (sz : Nat) : State → Prop := fun U => us_P D tys ws sz U ∧ us_E (va_A ws sz) U
theorem us_blindE {av : List Value} {sz : Nat} : FrameBlind (va_Pc av (us_PE D tys ws sz)) := fun a U g mk q => by
  obtain ⟨q0, ⟨q1, qP, qK, qD⟩, h1, ⟨h2, h3, h4⟩, h5, h6⟩ := q
  have hr : U.vm.Alike (U.calling g mk a).vm := Vm.Alike.refl U.vm
  exact ⟨q0, ⟨q1, qP, va_K.moved (u := U) (U := U.calling g mk a) hr qK, qD⟩, fun w hw => va_Nw.same (u := U) (U := U.calling g mk a) (us_bad_t w hw) rfl (h1 w hw), ⟨h2.moved hr, h3.moved hr, h4.moved hr⟩, vx_Zq.moved hr h5, vx_Zq.moved hr h6⟩
def us_XC (D : va_G) (tys : List (ClassId × FieldType)) (A : Nat → Prop) (ws : va_W) (PX : String → Prop) : String → State → State → Prop := vx_X (S := Unit) (fun _ => True) (fun E _ t => PX E ∧ us_Z D tys A ws t) A
/-- a method with an answer that may throw; one without an answer -/
def us_Xi (l : Launch) (y : MethodName) (bytes : ByteArray) (maxL : Nat) (ret : Option FieldType) (fr lo : Nat) (av : List Value) (D : va_G) (tys : List (ClassId × FieldType)) (ws : va_W) (sz : Nat) {S : Type} (post : Int32 → S → Prop) (wf : S → va_W) (PX : String → Prop) : Prop :=
  vx_Met l y (.code y bytes maxL ret :: wB) { frames := fr, cells := 1, slots := 6, locals := lo } (va_Pc av (us_PE D tys ws sz)) (va_Qi post (fun u t => us_Z D tys (va_A ws sz) (wf u) t) (va_A ws sz)) (us_XC D tys (va_A ws sz) ws PX) 1 6 (va_A ws sz)
def us_Xv (l : Launch) (y : MethodName) (bytes : ByteArray) (maxL : Nat) (fr lo : Nat) (av : List Value) (D : va_G) (tys : List (ClassId × FieldType)) (ws : va_W) (sz : Nat) {S : Type} (post : S → Prop) (wf : S → va_W) (PX : String → Prop) : Prop :=
  vx_Met l y (.code y bytes maxL none :: wB) { frames := fr, cells := 1, slots := 6, locals := lo } (va_Pc av (us_PE D tys ws sz)) (va_Qv post (fun u t => us_Z D tys (va_A ws sz) (wf u) t) (va_A ws sz)) (us_XC D tys (va_A ws sz) ws PX) 1 6 (va_A ws sz)
abbrev us_QXi {S : Type} (below : List Frame) (post : Int32 → S → Prop) (D : va_G) (tys : List (ClassId × FieldType)) (A : Nat → Prop) (ws : va_W) (wf : S → va_W) (PX : String → Prop) (av : List Value) (s : State) : State → Prop := vx_MQ below (va_Qi post (fun u t => us_Z D tys A (wf u) t) A) (us_XC D tys A ws PX) av.toArray s 1 6 A
abbrev us_QXv {S : Type} (below : List Frame) (post : S → Prop) (D : va_G) (tys : List (ClassId × FieldType)) (A : Nat → Prop) (ws : va_W) (wf : S → va_W) (PX : String → Prop) (av : List Value) (s : State) : State → Prop := vx_MQ below (va_Qv post (fun u t => us_Z D tys A (wf u) t) A) (us_XC D tys A ws PX) av.toArray s 1 6 A
theorem us_enterX {y : MethodName} {bytes : ByteArray} {maxL : Nat} {ret : Option FieldType} {fr lo : Nat} {av : List Value} {sz : Nat} {Qc : Array Value → State → Outcome → State → Prop} {XC : String → State → State → Prop} (ho : y.cls = own) (hy : plainName y.cls = true) (hlen : (lg_sl av).length ≤ maxL)
    (body : ∀ (p : Program) (e : Env) (s : State) (m : MethodId) (below : List Frame) (meth : Method) (c : Code) (ls : Array Slot), us_X p s m av.toArray c bytes maxL own D tys (va_A ws sz) → us_Y D (va_A ws sz) ws s s.heap [] → us_E (va_A ws sz) s → (∀ x ∈ c.exceptionTable.toList, False) → meth.sig.returnType = ret → meth.locks = false → lv_has ls maxL (lv_args 0 av) →
      W p l e { frames := fr, cells := 1, slots := 6, locals := lo } s m av.toArray below meth c s.heap [] 0 0 (vx_MQ below Qc XC av.toArray s 1 6 (va_A ws sz)) (F0 m 0 ls [])) :
    vx_Met l y (.code y bytes maxL ret :: wB) { frames := fr, cells := 1, slots := 6, locals := lo } (va_Pc av (us_PE D tys ws sz)) Qc XC 1 6 (va_A ws sz) := by
  refine vx_ofW (cc := bytes) (maxL := maxL) (ret := ret) hy rfl ?_
  intro p e s m args below meth c s₁ B hml htb hv
  obtain ⟨rfl, ⟨hsz, hP, hK, hD0⟩, hE⟩ := hv
  have hts := atoms_spec (ws := Cond.code y bytes maxL ret :: wB) B.pre
  have hl := lv_entry av (n := maxL) hlen
  rw [lg_entry_eq]
  generalize (lg_sl av ++ List.replicate (maxL - (lg_sl av).length) Slot.unset).toArray = ls at hl ⊢
  exact body p e s m below meth c ls ⟨⟨B.exec, B.bytes, hml, ho ▸ findClass_of_methodNamed B.named, fun w h => hts w (List.mem_cons_of_mem _ h)⟩, hK, fun q h => Or.inr (by omega)⟩ ⟨hP, hD0.self, va_S.rf⟩ hE htb B.returns B.notSynchronized hl
/-- the words of 'throw new E()' -/
def us_TW (own : String) (ik ic : Nat) (E : String) : Prop := Cond.classLink own ik E ∈ wB ∧ Cond.initialized E ∈ wB ∧ Bundle.fit E = true ∧ (∀ w ∈ (vx_at0 own ic E us_nm).filter goodWord, w ∈ wB) ∧ (∀ w ∈ (vx_at0 own ic E us_nm).filter (fun w => !goodWord w), w ∈ us_bad) ∧ (∀ w ∈ Cond.classLink own ik E :: Cond.initialized E :: vx_at0 own ic E us_nm, vx_ot w = true)
theorem us_thr {E : String} {ik ic : Nat} {Qc : Array Value → State → Outcome → State → Prop} {PX : String → Prop} (X : us_X p s m args c cc nL own D tys A) (Y : us_Y D A ws s H locs) (hE : us_E A s) (hl9 : l.stackTraces = false) (htb : ∀ x ∈ c.exceptionTable.toList, False) (hlk : meth.locks = false) (hsz : ls.size = nL) (hT : us_TW own ik ic E)
    (d0 : decode cc pc = .ok (.new ik, 3)) (d3 : decode cc (pc + 3) = .ok (.dup, 1)) (d4 : decode cc (pc + 4) = .ok (.invokespecial ic, 3)) (d7 : decode cc (pc + 7) = .ok (.athrow, 1)) (hfr : 5 < R.frames) (hlo : (rest.map fun v => v.category).sum + 81 ≤ R.locals) (hc : 1 ≤ R.cells) (hs : 6 ≤ R.slots) (hpx : PX E) :
    W p l e R s m args below meth c H locs 0 0 (vx_MQ below Qc (us_XC D tys A ws PX) args s 1 6 A) (F0 m pc ls rest) := by
  obtain ⟨t1, t2, t3, t4, t5, t6⟩ := hT
  obtain ⟨hb, -, hU, hN⟩ := hE
  refine vx_throw0 (names := us_nm) X.x X.b hl9 X.o t3 (by decide +kernel) (X.w t1) (X.w t2) (vx_hat (fun w hw => X.w (t4 w hw)) t5 (fun w hw => va_Nw.use (us_bad_t w hw) (hb w hw))) t6 hU hN Y.2.2 (hsz.trans X.ml.symm) d0 d3 d4 d7 (fun x hx => (htb x hx).elim) hfr hlo (by omega) (by omega) hlk (fun t ha hz hk => ?_) Y.2.2.2.2 (by omega) (by omega)
  refine ⟨(), trivial, ⟨hpx, Y.1.kept (fun k q hq => hk q.1 ((Y.1 k q hq).lt)), va_K.moved ha X.2.1, Y.2.1⟩, Nat.le_trans Y.2.2.1 hz, fun q h1 h2 => ?_⟩
  rw [hk q (Nat.lt_of_lt_of_le h1 Y.2.2.1)]
  exact Y.2.2.2.1 q h1 h2
/-! ### ends -/
theorem us_ireX {S : Type} {post : Int32 → S → Prop} {wf : S → va_W} {XC : String → State → State → Prop} {u : S} {v : Int32} (X : us_X p s m args c cc nL own D tys A) (Y : us_Y D A (wf u) s H locs) (hr : meth.sig.returnType = some .int) (hlocks : meth.locks = false) (hp : post v u) (hdg : decode cc pc = .ok (.ireturn, 1)) :
    W p l e R s m args below meth c H locs 0 0 (vx_MQ below (va_Qi post (fun u t => us_Z D tys A (wf u) t) A) XC args s 1 6 A) (F0 m pc ls [.int v]) :=
  vx_ret (W.widen (k := 1) (n := 6) (by decide) (by decide) (us_iret X Y hr hlocks hp hdg))
theorem us_vreX {S : Type} {post : S → Prop} {wf : S → va_W} {XC : String → State → State → Prop} {u : S} (X : us_X p s m args c cc nL own D tys A) (Y : us_Y D A (wf u) s H locs) (hr : meth.sig.returnType = none) (hlocks : meth.locks = false) (hp : post u) (hdg : decode cc pc = .ok (.return_, 1)) :
    W p l e R s m args below meth c H locs 0 0 (vx_MQ below (va_Qv post (fun u t => us_Z D tys A (wf u) t) A) XC args s 1 6 A) (F0 m pc ls []) :=
  vx_ret (W.widen (k := 1) (n := 6) (by decide) (by decide) (us_vret X Y hr hlocks hp hdg))
/-! ### calls of methods that may throw -/
theorem us_xi (X : us_X p s m args c cc nL own D tys A) (Y : us_Y D A ws s H locs) (hE : us_E A s) {y : MethodName} {bytes : ByteArray} {maxL : Nat} {ret : Option FieldType} {fr lo b : Nat} {As : List Value} {tys' : List (ClassId × FieldType)} {wc wr : va_W} {S : Type} {post : Int32 → S → Prop} {wf : S → va_W} {PX : String → Prop}
    (hM : us_Xi l y bytes maxL ret fr lo (.ref b :: As) D tys' wc H.size post wf PX) {isC isR tI : List Nat} (hI : us_I ws wc wr tys tys' isC isR tI) {ci N : Nat} {C : String} {T : u_T} {fs : List Value} (q0 : Nat) (hb : wc[q0]? = some (b, .inr (ci, fs))) (hcl : usCl[ci]? = some (C, T, N))
    {idx n : Nat} (hV : us_V own C idx n y bytes maxL ret) (hAs : As.length = n) (hRm : fr + 1 ≤ R.frames ∧ 8 + (maxL + 11) + lo ≤ R.locals) (hf : cells + 1 ≤ R.cells ∧ slots + 6 ≤ R.slots) (hsz : ls.size = nL) {st : List Value} (hst : st = As.reverse ++ .ref b :: rest) (hrest : (rest.map fun v => v.category).sum ≤ 8) (hdg : decode cc pc = .ok (.invokevirtual idx, 3))
    (kx : ∀ (E : String) (ce : Cell) (q9 : Addr) (H1 : Heap) (locs1 : List Loc), PX E → us_Y D A (wr ++ wc) s H1 locs1 → H1[q9]? = some ce → ce.vm = .none → s.vm.findClass E = some ce.cls → vx_W p l e R s m args below meth c H1 locs1 (cells + 1) (slots + 6) Q (F0 m pc ls rest) q9)
    (kk : ∀ (r : Int32) (u : S) (H1 : Heap) (locs1 : List Loc), post r u → us_Y D A (wr ++ wf u) s H1 locs1 → W p l e R s m args below meth c H1 locs1 (cells + 1) (slots + 6) Q (F0 m (pc + 3) ls (.int r :: rest))) : W p l e R s m args below meth c H locs cells slots Q (F0 m pc ls st) := by
  subst hst
  obtain ⟨hC, hR, hnC, hnR, hdis, hT⟩ := hI
  obtain ⟨v1, v2, v3, v4, v5, v6⟩ := hV
  have hFc := va_free (wc := wc) Y.2.1 Y.2.2 X.2.2 isC hC
  have hPc : va_P D usCl wc H := Y.1.sub isC (us_fm hC)
  have hDc := Y.2.1.sub (ws' := wc) isC hnC hC
  have hKc : va_K D usCl tys' s := X.2.1.sub tI hT
  refine vx_calli (vx_runV (As := As) (rest := rest) X.1 hM (cwV n X.1.2.2.2.2 (wB_v v1 v2 v3 v4 v5) rfl rfl rfl v6 hRm) ⟨us_blindE, va_recv hKc hPc hcl hb, fun U hU hW => ⟨rfl, ⟨by rw [hU], by rw [hU]; exact hPc, va_K.moved hW.alike hKc, hDc.weaken (fun _ _ _ _ => trivial)⟩, hE.to hU hW Y.2.2 hFc⟩⟩ rfl hAs hsz rfl (lv_room hrest) hdg hf) Y.2.2 (fun q _ h => hFc q h) hFc (fun q _ h => hFc q h) (fun E ce q9 u t H1 locs1 ht hvm hw hB hz1 hk1 hS hce hcv hcl9 => ?_) (fun r u t H1 locs1 ht hvm hw hB hz1 hk1 hS => ?_)
  · obtain ⟨hpx, hP1, hK1, hD1⟩ := hB
    rw [ht] at hP1
    obtain ⟨hP, hD⟩ := va_join (wc := wc) (wr := wr) (w1 := wc) Y.1 Y.2.1 isC isR hC hR hnR hdis hk1 hFc hP1 hD1
    exact kx E ce q9 H1 locs1 hpx ⟨hP, hD, hS⟩ hce hcv hcl9
  · obtain ⟨hP1, hK1, hD1⟩ := hB
    rw [ht] at hP1
    obtain ⟨hP, hD⟩ := va_join (wc := wc) (wr := wr) (w1 := wf u) Y.1 Y.2.1 isC isR hC hR hnR hdis hk1 hFc hP1 hD1
    exact kk r u H1 locs1 hw ⟨hP, hD, hS⟩
theorem us_xv (X : us_X p s m args c cc nL own D tys A) (Y : us_Y D A ws s H locs) (hE : us_E A s) {y : MethodName} {bytes : ByteArray} {maxL : Nat} {fr lo b : Nat} {As : List Value} {tys' : List (ClassId × FieldType)} {wc wr : va_W} {S : Type} {post : S → Prop} {wf : S → va_W} {PX : String → Prop}
    (hM : us_Xv l y bytes maxL fr lo (.ref b :: As) D tys' wc H.size post wf PX) {isC isR tI : List Nat} (hI : us_I ws wc wr tys tys' isC isR tI) {ci N : Nat} {C : String} {T : u_T} {fs : List Value} (q0 : Nat) (hb : wc[q0]? = some (b, .inr (ci, fs))) (hcl : usCl[ci]? = some (C, T, N))
    {idx n : Nat} (hV : us_V own C idx n y bytes maxL none) (hAs : As.length = n) (hRm : fr + 1 ≤ R.frames ∧ 8 + (maxL + 11) + lo ≤ R.locals) (hf : cells + 1 ≤ R.cells ∧ slots + 6 ≤ R.slots) (hsz : ls.size = nL) {st : List Value} (hst : st = As.reverse ++ .ref b :: rest) (hrest : (rest.map fun v => v.category).sum ≤ 8) (hdg : decode cc pc = .ok (.invokevirtual idx, 3))
    (kx : ∀ (E : String) (ce : Cell) (q9 : Addr) (H1 : Heap) (locs1 : List Loc), PX E → us_Y D A (wr ++ wc) s H1 locs1 → H1[q9]? = some ce → ce.vm = .none → s.vm.findClass E = some ce.cls → vx_W p l e R s m args below meth c H1 locs1 (cells + 1) (slots + 6) Q (F0 m pc ls rest) q9)
    (kk : ∀ (u : S) (H1 : Heap) (locs1 : List Loc), post u → us_Y D A (wr ++ wf u) s H1 locs1 → W p l e R s m args below meth c H1 locs1 (cells + 1) (slots + 6) Q (F0 m (pc + 3) ls rest)) : W p l e R s m args below meth c H locs cells slots Q (F0 m pc ls st) := by
  subst hst
  obtain ⟨hC, hR, hnC, hnR, hdis, hT⟩ := hI
  obtain ⟨v1, v2, v3, v4, v5, v6⟩ := hV
  have hFc := va_free (wc := wc) Y.2.1 Y.2.2 X.2.2 isC hC
  have hPc : va_P D usCl wc H := Y.1.sub isC (us_fm hC)
  have hDc := Y.2.1.sub (ws' := wc) isC hnC hC
  have hKc : va_K D usCl tys' s := X.2.1.sub tI hT
  refine vx_callv (vx_runV (As := As) (rest := rest) X.1 hM (cwV n X.1.2.2.2.2 (wB_v v1 v2 v3 v4 v5) rfl rfl rfl v6 hRm) ⟨us_blindE, va_recv hKc hPc hcl hb, fun U hU hW => ⟨rfl, ⟨by rw [hU], by rw [hU]; exact hPc, va_K.moved hW.alike hKc, hDc.weaken (fun _ _ _ _ => trivial)⟩, hE.to hU hW Y.2.2 hFc⟩⟩ rfl hAs hsz rfl (lv_room hrest) hdg hf) Y.2.2 (fun q _ h => hFc q h) hFc (fun q _ h => hFc q h) (fun E ce q9 u t H1 locs1 ht hvm hw hB hz1 hk1 hS hce hcv hcl9 => ?_) (fun u t H1 locs1 ht hvm hw hB hz1 hk1 hS => ?_)
  · obtain ⟨hpx, hP1, hK1, hD1⟩ := hB
    rw [ht] at hP1
    obtain ⟨hP, hD⟩ := va_join (wc := wc) (wr := wr) (w1 := wc) Y.1 Y.2.1 isC isR hC hR hnR hdis hk1 hFc hP1 hD1
    exact kx E ce q9 H1 locs1 hpx ⟨hP, hD, hS⟩ hce hcv hcl9
  · obtain ⟨hP1, hK1, hD1⟩ := hB
    rw [ht] at hP1
    obtain ⟨hP, hD⟩ := va_join (wc := wc) (wr := wr) (w1 := wf u) Y.1 Y.2.1 isC isR hC hR hnR hdis hk1 hFc hP1 hD1
    exact kk u H1 locs1 hw ⟨hP, hD, hS⟩
/-! ### methods with a table of their own, called by the law -/
def us_Hi (l : Launch) (y : MethodName) (bytes : ByteArray) (maxL : Nat) (hh : List (Nat × Nat × Nat × Nat)) (fr lo : Nat) (av : List Value) (D : va_G) (tys : List (ClassId × FieldType)) (ws : va_W) (sz : Nat) {S : Type} (post : Int32 → S → Prop) (wf : S → va_W) : Prop :=
  Met l y (.codeWith y bytes maxL (some .int) hh :: wB) { frames := fr, cells := 1, slots := 6, locals := lo } (va_Pc av (us_PE D tys ws sz)) (va_Qi post (fun u t => us_Z D tys (va_A ws sz) (wf u) t) (va_A ws sz)) 1 6 (va_A ws sz)
theorem us_enterH {y : MethodName} {bytes : ByteArray} {maxL : Nat} {ret : Option FieldType} {hh : List (Nat × Nat × Nat × Nat)} {fr lo : Nat} {av : List Value} {sz : Nat} {Qc : Array Value → State → Outcome → State → Prop} (ho : y.cls = own) (hy : plainName y.cls = true) (hlen : (lg_sl av).length ≤ maxL)
    (body : ∀ (p : Program) (e : Env) (s : State) (m : MethodId) (below : List Frame) (meth : Method) (c : Code) (ls : Array Slot), us_X p s m av.toArray c bytes maxL own D tys (va_A ws sz) → us_Y D (va_A ws sz) ws s s.heap [] → us_E (va_A ws sz) s → c.exceptionTable.toList = tableOf hh → meth.sig.returnType = ret → meth.locks = false → lv_has ls maxL (lv_args 0 av) →
      W p l e { frames := fr, cells := 1, slots := 6, locals := lo } s m av.toArray below meth c s.heap [] 0 0 (MQ below Qc av.toArray s 1 6 (va_A ws sz)) (F0 m 0 ls [])) :
    Met l y (.codeWith y bytes maxL ret hh :: wB) { frames := fr, cells := 1, slots := 6, locals := lo } (va_Pc av (us_PE D tys ws sz)) Qc 1 6 (va_A ws sz) := by
  refine va_MetW (cc := bytes) (maxL := maxL) (ret := ret) hy rfl ?_
  intro p e s m args below meth c s₁ B hml hv
  obtain ⟨rfl, ⟨hsz, hP, hK, hD0⟩, hE⟩ := hv
  have hts := atoms_spec (ws := Cond.codeWith y bytes maxL ret hh :: wB) B.pre
  have hl := lv_entry av (n := maxL) hlen
  rw [lg_entry_eq]
  generalize (lg_sl av ++ List.replicate (maxL - (lg_sl av).length) Slot.unset).toArray = ls at hl ⊢
  exact body p e s m below meth c ls ⟨⟨B.exec, B.bytes, hml, ho ▸ findClass_of_methodNamed B.named, fun w h => hts w (List.mem_cons_of_mem _ h)⟩, hK, fun q h => Or.inr (by omega)⟩ ⟨hP, hD0.self, va_S.rf⟩ hE (vx_table (x := y) B (hts _ List.mem_cons_self)) B.returns B.notSynchronized hl
/-- what the law's call of such a method needs of the words -/
def us_SW (idx n : Nat) (y : MethodName) (bytes : ByteArray) (maxL : Nat) (hh : List (Nat × Nat × Nat × Nat)) : Prop :=
  Cond.methodLink RL idx y ∈ wB ∧ Cond.static y ∈ wB ∧ Cond.initialized RL ∈ wB ∧ Cond.codeWith y bytes maxL (some .int) hh ∈ wB ∧ (y.cls = RL ∧ y.cls ≠ "java/lang/invoke/MethodHandle" ∧ y.cls ≠ "java/lang/invoke/VarHandle" ∧ (parseMethodDescriptor y.desc).map (fun d => d.parameters.length) = some n)
theorem wB_h {idx n maxL : Nat} {y : MethodName} {bytes : ByteArray} {hh : List (Nat × Nat × Nat × Nat)} (h : us_SW idx n y bytes maxL hh) : GoodIn wB (va_wsS RL idx y (.codeWith y bytes maxL (some .int) hh :: wB)) := fun w hw => by
  obtain ⟨h1, h2, h4, h5, h6⟩ := h
  have hm : w ∈ wB := by
    unfold va_wsS at hw
    rcases List.mem_append.mp hw with h | h
    · simp only [List.mem_cons, List.not_mem_nil, or_false] at h
      rcases h with rfl | rfl | rfl
      · exact h1
      · exact h2
      · rw [h6.1]; exact h4
    · rcases List.mem_cons.mp h with rfl | h
      · exact h5
      · exact h
  exact ⟨hm, good_of_word (List.mem_filter.mp hm).2⟩
theorem us_hi (X : us_X p s m args c cc nL RL D tys A) (Y : us_Y D A ws s H locs) (hE : us_E A s) {y : MethodName} {bytes : ByteArray} {maxL : Nat} {hh : List (Nat × Nat × Nat × Nat)} {fr lo : Nat} {As : List Value} {tys' : List (ClassId × FieldType)} {wc wr : va_W} {S : Type} {post : Int32 → S → Prop} {wf : S → va_W}
    (hM : us_Hi l y bytes maxL hh fr lo As D tys' wc H.size post wf) {isC isR tI : List Nat} (hI : us_I ws wc wr tys tys' isC isR tI) {idx n : Nat} (hV : us_SW idx n y bytes maxL hh) (hAs : As.length = n) (hRm : fr + 1 ≤ R.frames ∧ 8 + (maxL + 11) + lo ≤ R.locals) (hf : cells + 1 ≤ R.cells ∧ slots + 6 ≤ R.slots) (hsz : ls.size = nL) {st : List Value} (hst : st = As.reverse ++ rest) (hrest : (rest.map fun v => v.category).sum ≤ 8) (hdg : decode cc pc = .ok (.invokestatic idx, 3))
    (kk : ∀ (r : Int32) (u : S) (H1 : Heap) (locs1 : List Loc), post r u → us_Y D A (wr ++ wf u) s H1 locs1 → W p l e R s m args below meth c H1 locs1 (cells + 1) (slots + 6) Q (F0 m (pc + 3) ls (.int r :: rest))) : W p l e R s m args below meth c H locs cells slots Q (F0 m pc ls st) := by
  subst hst
  obtain ⟨hC, hR, hnC, hnR, hdis, hT⟩ := hI
  have hFc := va_free (wc := wc) Y.2.1 Y.2.2 X.2.2 isC hC
  have hPc : va_P D usCl wc H := Y.1.sub isC (us_fm hC)
  have hDc := Y.2.1.sub (ws' := wc) isC hnC hC
  have hKc : va_K D usCl tys' s := X.2.1.sub tI hT
  refine va_calli (vx_runSW (As := As) (rest := rest) X.1 hM (vx_cwSW n X.1.2.2.2.2 (wB_h hV) rfl rfl rfl ⟨hV.2.2.2.2.2.1, hV.2.2.2.2.2.2.1, hV.2.2.2.2.2.2.2⟩ hRm) ⟨us_blindE, fun U hU hW => ⟨rfl, ⟨by rw [hU], by rw [hU]; exact hPc, va_K.moved hW.alike hKc, hDc.weaken (fun _ _ _ _ => trivial)⟩, hE.to hU hW Y.2.2 hFc⟩⟩ rfl hAs hsz rfl (lv_room hrest) hdg hf) Y.2.2 (fun q _ h => hFc q h) hFc (fun r u t H1 locs1 ht hvm hw hB hz1 hk1 hS => ?_)
  obtain ⟨hP1, hK1, hD1⟩ := hB
  rw [ht] at hP1
  obtain ⟨hP, hD⟩ := va_join (wc := wc) (wr := wr) (w1 := wf u) Y.1 Y.2.1 isC isR hC hR hnR hdis hk1 hFc hP1 hD1
  exact kk r u H1 locs1 hw ⟨hP, hD, hS⟩
end UST
theorem tw_IA : us_TW RU 38 40 EIA := ⟨mB_cl_U_38, mB_ini_IA, by decide +kernel, fun w hw => List.mem_filter.mpr ⟨(by decide +kernel : ∀ w ∈ (vx_at0 RU 40 EIA us_nm).filter goodWord, w ∈ lw_tbl) w hw, (List.mem_filter.mp hw).2⟩, by decide +kernel, by decide +kernel⟩
theorem tw_IS : us_TW RU 49 51 EIS := ⟨mB_cl_U_49, mB_ini_IS, by decide +kernel, fun w hw => List.mem_filter.mpr ⟨(by decide +kernel : ∀ w ∈ (vx_at0 RU 51 EIS us_nm).filter goodWord, w ∈ lw_tbl) w hw, (List.mem_filter.mp hw).2⟩, by decide +kernel, by decide +kernel⟩
theorem tw_NS : us_TW RU 62 64 ENS := ⟨mB_cl_U_62, mB_ini_NS, by decide +kernel, fun w hw => List.mem_filter.mpr ⟨(by decide +kernel : ∀ w ∈ (vx_at0 RU 64 ENS us_nm).filter goodWord, w ∈ lw_tbl) w hw, (List.mem_filter.mp hw).2⟩, by decide +kernel, by decide +kernel⟩
end
section
/-! 26.Upub (laid by wip/whole/gen/methods_up.py): the public methods. -/
set_option maxHeartbeats 4000000 in
set_option maxRecDepth 100000 in
theorem k_U_insert (l : Launch) (D : va_G) (ad : Nat → Nat) (cI : ClassId) (sz : Nat) (C PN CA CK CR CB : Nat → Int32) (n np k : Nat) (T : us_T) (nm : Nat → Int32) (sn : Nat → Nat) (sT : Nat → us_T) (sk : Nat → Nat) (hU : us_U n T k np nm sn sT sk C PN CA CK CR CB) (hl9 : l.stackTraces = false) (va vb vc vh : Int32) : us_Xi l yU_insert cU_insert 7 (some .int) 6 91 [.ref (ad 0), .int va, .int vb, .int vc, .int vh] D (tyU cI) (uW ad cI C n PN CA np CK CR CB k) sz (fun r (u : us_SU) => ∃ n' T' k', us_iR n T k np va vb vc vh 0 r n' T' k' ∧ us_us u n' T' k' np nm sn sT sk) (fun (u : us_SU) => uWS ad cI u) (fun E => (E = EIA ∧ us_iR n T k np va vb vc vh 1 0 n T k) ∨ (E = EIS ∧ us_iR n T k np va vb vc vh 2 0 n T k)) := by
  refine us_enterX (own := RU) rfl (by decide) (Nat.le_of_ble_eq_true rfl) ?_
  intro p e s m below meth c ls X Y hE htb hr hlk hl
  generalize va_A (uW ad cI C n PN CA np CK CR CB k) sz = A at X Y hE ⊢
  have hl : lv_has ls 7 [(0, .ref (ad 0)), (1, .int va), (2, .int vb), (3, .int vc), (4, .int vh)] := hl
  have h1n := hU.1
  have h1p := hU.2.1
  have h1k := hU.2.2.1
  have h5 := hU.2.2.2.2.1
  refine lv_iload X.x X.b dU_insert_0 (lv_at hl 4 rfl) ?_
  refine lv_bipush (v := (-8 : Int32)) X.x X.b dU_insert_2 (by decide) ?_
  refine lv_iand X.x X.b dU_insert_4 ?_
  refine lv_if_eq (tgt := 16) X.x X.b dU_insert_5 (by decide) (fun h1 => ?_) (fun h1 => ?_)
  · have hok : us_ok vh := (us_has _).mp h1
    refine lv_aload_n X.x X.b dU_insert_16 rfl (lv_at hl 0 rfl) ?_
    refine us_gU X Y 0 rfl 1 (by decide) mB_fl_U_13 rfl dU_insert_17 ?_
    refine lv_bipush (v := nI 120) X.x X.b dU_insert_20 (by decide) ?_
    refine us_cge (tgt := 44) X (by omega) (by omega) dU_insert_22 (by decide) (fun h2 => ?_) (fun h2 => ?_)
    · exact us_thr X Y hE hl9 htb hlk hl.1 tw_IS dU_insert_44 dU_insert_47 dU_insert_48 dU_insert_51 (by decide) (by decide) (by decide) (by decide) (Or.inr ⟨rfl, Or.inr (Or.inl ⟨rfl, hok, Or.inl (by omega), rfl, rfl, rfl⟩)⟩)
    · refine lv_aload_n X.x X.b dU_insert_25 rfl (lv_at hl 0 rfl) ?_
      refine lv_iconst (v := nI 1) X.x X.b dU_insert_26 (by decide) ?_
      refine us_vi (rest := []) X Y (k_U_hasRoomFor l D ad cI s.heap.size C PN CA CK CR CB n np k 1 h1p h1k (by decide)) us_I7 0 rfl rfl cv_U_41 rfl ⟨by decide, by decide⟩ ⟨by decide, by decide⟩ hl.1 rfl (Nat.le_of_ble_eq_true rfl) dU_insert_27 (fun rr u H locs g1 Y => ?_)
      have Y : us_Y D A (uW ad cI C n PN CA np CK CR CB k) s H locs := Y
      rcases g1 with ⟨rfl, g1⟩ | ⟨rfl, g1⟩
      · refine us_eq1 (tgt := 44) X dU_insert_30 (by decide) ?_
        refine lv_aload_n X.x X.b dU_insert_33 rfl (lv_at hl 0 rfl) ?_
        refine lv_iload_n X.x X.b dU_insert_34 rfl (lv_at hl 1 rfl) ?_
        refine lv_iload_n X.x X.b dU_insert_35 rfl (lv_at hl 2 rfl) ?_
        refine lv_iload X.x X.b dU_insert_36 (lv_at hl 4 rfl) ?_
        refine us_vi (rest := []) X Y (k_U_mayBeInserted l D ad cI H.size C PN CA CK CR CB n np k va vb vh h1n) us_I7 0 rfl rfl cv_U_45 rfl ⟨by decide, by decide⟩ ⟨by decide, by decide⟩ hl.1 rfl (Nat.le_of_ble_eq_true rfl) dU_insert_38 (fun rr u H locs g2 Y => ?_)
        have Y : us_Y D A (uW ad cI C n PN CA np CK CR CB k) s H locs := Y
        rcases g2 with ⟨rfl, g2⟩ | ⟨rfl, g2⟩
        · refine us_ne1 (tgt := 52) X dU_insert_41 (by decide) ?_
          refine lv_aload_n X.x X.b dU_insert_52 rfl (lv_at hl 0 rfl) ?_
          refine us_gU X Y 0 rfl 1 (by decide) mB_fl_U_13 rfl dU_insert_53 ?_
          refine lv_istore (lv' := [(5, .int (nI n)), (0, .ref (ad 0)), (1, .int va), (2, .int vb), (3, .int vc), (4, .int vh)]) X.x X.b dU_insert_56 hl (by decide) rfl (fun ls hl => ?_)
          refine lv_aload_n X.x X.b dU_insert_58 rfl (lv_at hl 1 rfl) ?_
          refine lv_iconst (v := nI 0) X.x X.b dU_insert_59 (by decide) ?_
          refine lv_iload X.x X.b dU_insert_60 (lv_at hl 0 rfl) ?_
          refine us_vv (rest := []) X Y (k_U_keepChange l D ad cI H.size C PN CA CK CR CB n np k 0 n h2 h1p g1) us_I7 0 rfl rfl cv_U_52 rfl ⟨by decide, by decide⟩ ⟨by decide, by decide⟩ hl.1 rfl (Nat.le_of_ble_eq_true rfl) dU_insert_62 (fun u H locs _ Y => ?_)
          have Y : us_Y D A (uW ad cI C n PN CA np ((us_ku np k CK (nI 0))) ((us_ku np k CR (nI n))) ((us_kc np k C CB n)) (us_k1 np k)) s H locs := Y
          refine lv_iload X.x X.b dU_insert_65 (lv_at hl 0 rfl) ?_
          refine lv_iconst (v := nI 4) X.x X.b dU_insert_67 (by decide) ?_
          refine us_imul X dU_insert_68 ?_
          refine lv_istore (lv' := [(6, .int (nI (n * 4))), (5, .int (nI n)), (0, .ref (ad 0)), (1, .int va), (2, .int vb), (3, .int vc), (4, .int vh)]) X.x X.b dU_insert_69 hl (by decide) rfl (fun ls hl => ?_)
          refine lv_aload_n X.x X.b dU_insert_71 rfl (lv_at hl 2 rfl) ?_
          refine us_gU X Y 0 rfl 0 (by decide) mB_fl_U_9 rfl dU_insert_72 ?_
          refine lv_iload X.x X.b dU_insert_75 (lv_at hl 0 rfl) ?_
          refine lv_iload_n X.x X.b dU_insert_77 rfl (lv_at hl 3 rfl) ?_
          refine us_is X Y 1 0 rfl rfl (i := n * 4) (by omega) (by decide) dU_insert_78 (fun H locs Y => ?_)
          have Y : us_Y D A (uW ad cI ((upd C (n * 4) va)) n PN CA np ((us_ku np k CK (nI 0))) ((us_ku np k CR (nI n))) ((us_kc np k C CB n)) (us_k1 np k)) s H locs := Y
          refine lv_aload_n X.x X.b dU_insert_79 rfl (lv_at hl 2 rfl) ?_
          refine us_gU X Y 0 rfl 0 (by decide) mB_fl_U_9 rfl dU_insert_80 ?_
          refine lv_iload X.x X.b dU_insert_83 (lv_at hl 0 rfl) ?_
          refine lv_iconst (v := nI 1) X.x X.b dU_insert_85 (by decide) ?_
          refine us_iadd X dU_insert_86 ?_
          refine lv_iload_n X.x X.b dU_insert_87 rfl (lv_at hl 4 rfl) ?_
          refine us_is X Y 1 0 rfl rfl (i := (n * 4) + 1) (by omega) (by decide) dU_insert_88 (fun H locs Y => ?_)
          have Y : us_Y D A (uW ad cI ((upd (upd C (n * 4) va) ((n * 4) + 1) vb)) n PN CA np ((us_ku np k CK (nI 0))) ((us_ku np k CR (nI n))) ((us_kc np k C CB n)) (us_k1 np k)) s H locs := Y
          refine lv_aload_n X.x X.b dU_insert_89 rfl (lv_at hl 2 rfl) ?_
          refine us_gU X Y 0 rfl 0 (by decide) mB_fl_U_9 rfl dU_insert_90 ?_
          refine lv_iload X.x X.b dU_insert_93 (lv_at hl 0 rfl) ?_
          refine lv_iconst (v := nI 2) X.x X.b dU_insert_95 (by decide) ?_
          refine us_iadd X dU_insert_96 ?_
          refine lv_iload_n X.x X.b dU_insert_97 rfl (lv_at hl 5 rfl) ?_
          refine us_is X Y 1 0 rfl rfl (i := (n * 4) + 2) (by omega) (by decide) dU_insert_98 (fun H locs Y => ?_)
          have Y : us_Y D A (uW ad cI ((upd (upd (upd C (n * 4) va) ((n * 4) + 1) vb) ((n * 4) + 2) vc)) n PN CA np ((us_ku np k CK (nI 0))) ((us_ku np k CR (nI n))) ((us_kc np k C CB n)) (us_k1 np k)) s H locs := Y
          refine lv_aload_n X.x X.b dU_insert_99 rfl (lv_at hl 2 rfl) ?_
          refine us_gU X Y 0 rfl 0 (by decide) mB_fl_U_9 rfl dU_insert_100 ?_
          refine lv_iload X.x X.b dU_insert_103 (lv_at hl 0 rfl) ?_
          refine lv_iconst (v := nI 3) X.x X.b dU_insert_105 (by decide) ?_
          refine us_iadd X dU_insert_106 ?_
          refine lv_iload X.x X.b dU_insert_107 (lv_at hl 6 rfl) ?_
          refine us_is X Y 1 0 rfl rfl (i := (n * 4) + 3) (by omega) (by decide) dU_insert_109 (fun H locs Y => ?_)
          have Y : us_Y D A (uW ad cI ((upd (upd (upd (upd C (n * 4) va) ((n * 4) + 1) vb) ((n * 4) + 2) vc) ((n * 4) + 3) vh)) n PN CA np ((us_ku np k CK (nI 0))) ((us_ku np k CR (nI n))) ((us_kc np k C CB n)) (us_k1 np k)) s H locs := Y
          refine lv_aload_n X.x X.b dU_insert_110 rfl (lv_at hl 2 rfl) ?_
          refine lv_iload X.x X.b dU_insert_111 (lv_at hl 1 rfl) ?_
          refine lv_iconst (v := nI 1) X.x X.b dU_insert_113 (by decide) ?_
          refine us_iadd X dU_insert_114 ?_
          refine us_pU X Y 0 rfl 1 (by decide) mB_fl_U_13 rfl rfl rfl (Nat.le_of_ble_eq_true rfl) dU_insert_115 (fun H locs Y => ?_)
          have Y : us_Y D A (uW ad cI ((upd (upd (upd (upd C (n * 4) va) ((n * 4) + 1) vb) ((n * 4) + 2) vc) ((n * 4) + 3) vh)) (n + 1) PN CA np ((us_ku np k CK (nI 0))) ((us_ku np k CR (nI n))) ((us_kc np k C CB n)) (us_k1 np k)) s H locs := Y
          refine lv_iload X.x X.b dU_insert_118 (lv_at hl 1 rfl) ?_
          exact us_ireX (u := ((n + 1), np, (us_k1 np k), ((upd (upd (upd (upd C (n * 4) va) ((n * 4) + 1) vb) ((n * 4) + 2) vc) ((n * 4) + 3) vh)), PN, CA, ((us_ku np k CK (nI 0))), ((us_ku np k CR (nI n))), ((us_kc np k C CB n)))) X Y hr hlk (⟨n + 1, _, _, Or.inr (Or.inr ⟨rfl, hok, g2.no h5 h2 g1, rfl, rfl, rfl, rfl⟩), rfl, rfl, rfl, hU.ins h2 g1 va vb vc vh⟩) dU_insert_120
        · refine us_ne0 (tgt := 52) X dU_insert_41 (by decide) ?_
          exact us_thr X Y hE hl9 htb hlk hl.1 tw_IS dU_insert_44 dU_insert_47 dU_insert_48 dU_insert_51 (by decide) (by decide) (by decide) (by decide) (Or.inr ⟨rfl, Or.inr (Or.inl ⟨rfl, hok, us_mq.of h5 g2, rfl, rfl, rfl⟩)⟩)
      · refine us_eq0 (tgt := 44) X dU_insert_30 (by decide) ?_
        exact us_thr X Y hE hl9 htb hlk hl.1 tw_IS dU_insert_44 dU_insert_47 dU_insert_48 dU_insert_51 (by decide) (by decide) (by decide) (by decide) (Or.inr ⟨rfl, Or.inr (Or.inl ⟨rfl, hok, Or.inr (Or.inl (us_ful.of g1)), rfl, rfl, rfl⟩)⟩)
  · exact us_thr X Y hE hl9 htb hlk hl.1 tw_IA dU_insert_8 dU_insert_11 dU_insert_12 dU_insert_15 (by decide) (by decide) (by decide) (by decide) (Or.inl ⟨rfl, Or.inl ⟨rfl, fun z => h1 ((us_has _).mpr z), rfl, rfl, rfl⟩⟩)
set_option maxHeartbeats 4000000 in
set_option maxRecDepth 100000 in
theorem k_U_set (l : Launch) (D : va_G) (ad : Nat → Nat) (cI : ClassId) (sz : Nat) (C PN CA CK CR CB : Nat → Int32) (n np k : Nat) (T : us_T) (nm : Nat → Int32) (sn : Nat → Nat) (sT : Nat → us_T) (sk : Nat → Nat) (hU : us_U n T k np nm sn sT sk C PN CA CK CR CB) (hl9 : l.stackTraces = false) (vr vco vv vz : Int32) : us_Xv l yU_set cU_set 6 6 93 [.ref (ad 0), .int vr, .int vco, .int vv, .int vz] D (tyU cI) (uW ad cI C n PN CA np CK CR CB k) sz (fun (u : us_SU) => ∃ T' k', us_sR n T k np vr vco vv vz 0 T' k' ∧ us_us u n T' k' np nm sn sT sk) (fun (u : us_SU) => uWS ad cI u) (fun E => (E = EIA ∧ us_sR n T k np vr vco vv vz 1 T k) ∨ (E = EIS ∧ us_sR n T k np vr vco vv vz 2 T k) ∨ (E = ENS ∧ us_sR n T k np vr vco vv vz 3 T k)) := by
  refine us_enterX (own := RU) rfl (by decide) (Nat.le_of_ble_eq_true rfl) ?_
  intro p e s m below meth c ls X Y hE htb hr hlk hl
  generalize va_A (uW ad cI C n PN CA np CK CR CB k) sz = A at X Y hE ⊢
  have hl : lv_has ls 6 [(0, .ref (ad 0)), (1, .int vr), (2, .int vco), (3, .int vv), (4, .int vz)] := hl
  have h1n := hU.1
  have h1p := hU.2.1
  have h1k := hU.2.2.1
  have h5 := hU.2.2.2.2.1
  refine lv_iload_n X.x X.b dU_set_0 rfl (lv_at hl 2 rfl) ?_
  refine us_si (n := 1) (rest := []) X Y (k_U_isColumn l D s.heap.size vco) us_I0 mB_ml_U_56 mB_st_U_isColumn mB_ini_U mB_code_U_isColumn (by decide +kernel) rfl ⟨by decide, by decide⟩ ⟨by decide, by decide⟩ hl.1 rfl (Nat.le_of_ble_eq_true rfl) dU_set_1 (fun rr H locs g1 Y => ?_)
  have Y : us_Y D A (uW ad cI C n PN CA np CK CR CB k) s H locs := Y
  rcases g1 with ⟨rfl, g1⟩ | ⟨rfl, g1⟩
  · refine us_ne1 (tgt := 15) X dU_set_4 (by decide) ?_
    obtain ⟨co, hco, rfl⟩ := g1
    refine lv_aload_n X.x X.b dU_set_15 rfl (lv_at hl 0 rfl) ?_
    refine lv_iload_n X.x X.b dU_set_16 rfl (lv_at hl 1 rfl) ?_
    refine us_vi (rest := []) X Y (k_U_isRow l D ad cI H.size C PN CA CK CR CB n np k vr h1n) us_I7 0 rfl rfl cv_U_59 rfl ⟨by decide, by decide⟩ ⟨by decide, by decide⟩ hl.1 rfl (Nat.le_of_ble_eq_true rfl) dU_set_17 (fun rr u H locs g2 Y => ?_)
    have Y : us_Y D A (uW ad cI C n PN CA np CK CR CB k) s H locs := Y
    rcases g2 with ⟨rfl, g2⟩ | ⟨rfl, g2⟩
    · refine us_ne1 (tgt := 31) X dU_set_20 (by decide) ?_
      obtain ⟨ir, hir, rfl⟩ := g2
      refine lv_aload_n X.x X.b dU_set_31 rfl (lv_at hl 0 rfl) ?_
      refine lv_iconst (v := nI 1) X.x X.b dU_set_32 (by decide) ?_
      refine us_vi (rest := []) X Y (k_U_hasRoomFor l D ad cI H.size C PN CA CK CR CB n np k 1 h1p h1k (by decide)) us_I7 0 rfl rfl cv_U_41 rfl ⟨by decide, by decide⟩ ⟨by decide, by decide⟩ hl.1 rfl (Nat.le_of_ble_eq_true rfl) dU_set_33 (fun rr u H locs g3 Y => ?_)
      have Y : us_Y D A (uW ad cI C n PN CA np CK CR CB k) s H locs := Y
      rcases g3 with ⟨rfl, g3⟩ | ⟨rfl, g3⟩
      · refine us_eq1 (tgt := 51) X dU_set_36 (by decide) ?_
        refine lv_aload_n X.x X.b dU_set_39 rfl (lv_at hl 0 rfl) ?_
        refine lv_iload_n X.x X.b dU_set_40 rfl (lv_at hl 1 rfl) ?_
        refine lv_iload_n X.x X.b dU_set_41 rfl (lv_at hl 2 rfl) ?_
        refine lv_iload_n X.x X.b dU_set_42 rfl (lv_at hl 3 rfl) ?_
        refine lv_iload X.x X.b dU_set_43 (lv_at hl 4 rfl) ?_
        refine us_vi (rest := []) X Y (k_U_maySet l D ad cI H.size C PN CA CK CR CB n np k ir co vv vz h1n hir hco) us_I7 0 rfl rfl cv_U_65 rfl ⟨by decide, by decide⟩ ⟨by decide, by decide⟩ hl.1 rfl (Nat.le_of_ble_eq_true rfl) dU_set_45 (fun rr u H locs g4 Y => ?_)
        have Y : us_Y D A (uW ad cI C n PN CA np CK CR CB k) s H locs := Y
        rcases g4 with ⟨rfl, g4⟩ | ⟨rfl, g4⟩
        · refine us_ne1 (tgt := 59) X dU_set_48 (by decide) ?_
          refine lv_aload_n X.x X.b dU_set_59 rfl (lv_at hl 0 rfl) ?_
          refine lv_iconst (v := nI 1) X.x X.b dU_set_60 (by decide) ?_
          refine lv_iload_n X.x X.b dU_set_61 rfl (lv_at hl 1 rfl) ?_
          refine us_vv (rest := []) X Y (k_U_keepChange l D ad cI H.size C PN CA CK CR CB n np k 1 ir (by omega) h1p g3) us_I7 0 rfl rfl cv_U_52 rfl ⟨by decide, by decide⟩ ⟨by decide, by decide⟩ hl.1 rfl (Nat.le_of_ble_eq_true rfl) dU_set_62 (fun u H locs _ Y => ?_)
          have Y : us_Y D A (uW ad cI C n PN CA np ((us_ku np k CK (nI 1))) ((us_ku np k CR (nI ir))) ((us_kc np k C CB ir)) (us_k1 np k)) s H locs := Y
          refine lv_iload_n X.x X.b dU_set_65 rfl (lv_at hl 1 rfl) ?_
          refine lv_iconst (v := nI 4) X.x X.b dU_set_66 (by decide) ?_
          refine us_imul X dU_set_67 ?_
          refine lv_istore (lv' := [(5, .int (nI (ir * 4))), (0, .ref (ad 0)), (1, .int (nI ir)), (2, .int (nI co)), (3, .int vv), (4, .int vz)]) X.x X.b dU_set_68 hl (by decide) rfl (fun ls hl => ?_)
          refine lv_iload X.x X.b dU_set_70 (lv_at hl 5 rfl) ?_
          refine lv_if_eq (tgt := 95) X.x X.b dU_set_72 (by decide) (fun h1 => ?_) (fun h1 => ?_)
          · refine lv_aload_n X.x X.b dU_set_95 rfl (lv_at hl 1 rfl) ?_
            refine us_gU X Y 0 rfl 0 (by decide) mB_fl_U_9 rfl dU_set_96 ?_
            refine lv_iload X.x X.b dU_set_99 (lv_at hl 0 rfl) ?_
            refine lv_iload_n X.x X.b dU_set_101 rfl (lv_at hl 3 rfl) ?_
            refine us_iadd X dU_set_102 ?_
            refine lv_iload_n X.x X.b dU_set_103 rfl (lv_at hl 4 rfl) ?_
            refine us_is X Y 1 0 rfl rfl (i := (ir * 4) + co) (by omega) (by decide) dU_set_104 (fun H locs Y => ?_)
            have Y : us_Y D A (uW ad cI ((upd C ((ir * 4) + co) vv)) n PN CA np ((us_ku np k CK (nI 1))) ((us_ku np k CR (nI ir))) ((us_kc np k C CB ir)) (us_k1 np k)) s H locs := Y
            refine lv_aload_n X.x X.b dU_set_105 rfl (lv_at hl 1 rfl) ?_
            refine us_gU X Y 0 rfl 0 (by decide) mB_fl_U_9 rfl dU_set_106 ?_
            refine lv_iload X.x X.b dU_set_109 (lv_at hl 0 rfl) ?_
            refine lv_iconst (v := nI 3) X.x X.b dU_set_111 (by decide) ?_
            refine us_iadd X dU_set_112 ?_
            refine lv_dup2_11 X.x X.b dU_set_113 rfl rfl ?_
            refine us_ia X Y 1 0 rfl rfl (i := (ir * 4) + 3) (by omega) (by decide) dU_set_114 ?_
            refine lv_iconst (v := (1 : Int32)) X.x X.b dU_set_115 (by decide) ?_
            refine lv_iload_n X.x X.b dU_set_116 rfl (lv_at hl 3 rfl) ?_
            refine lv_ishl X.x X.b dU_set_117 ?_
            refine lv_ior X.x X.b dU_set_118 ?_
            refine us_is X Y 1 0 rfl rfl (i := (ir * 4) + 3) (by omega) (by decide) dU_set_119 (fun H locs Y => ?_)
            have Y : us_Y D A (uW ad cI ((upd (upd C ((ir * 4) + co) vv) ((ir * 4) + 3) (((upd C ((ir * 4) + co) vv) ((ir * 4) + 3)) ||| (((1 : Int32)) <<< ((nI co) &&& 31))))) n PN CA np ((us_ku np k CK (nI 1))) ((us_ku np k CR (nI ir))) ((us_kc np k C CB ir)) (us_k1 np k)) s H locs := Y
            exact us_vreX (u := (n, np, (us_k1 np k), ((upd (upd C ((ir * 4) + co) vv) ((ir * 4) + 3) (((upd C ((ir * 4) + co) vv) ((ir * 4) + 3)) ||| (((1 : Int32)) <<< ((nI co) &&& 31))))), PN, CA, ((us_ku np k CK (nI 1))), ((us_ku np k CR (nI ir))), ((us_kc np k C CB ir)))) X Y hr hlk (⟨_, _, Or.inr (Or.inr ⟨ir, co, hir, rfl, hco, rfl, Or.inr ⟨rfl, fun z => z.elim (us_ful.out g3) (fun z => g4 (z.eq hco h5.sy)), rfl, rfl⟩⟩), rfl, rfl, rfl, hU.st g3 hir (us_putv hco h1)⟩) dU_set_120
          · refine lv_aload_n X.x X.b dU_set_75 rfl (lv_at hl 1 rfl) ?_
            refine us_gU X Y 0 rfl 0 (by decide) mB_fl_U_9 rfl dU_set_76 ?_
            refine lv_iload X.x X.b dU_set_79 (lv_at hl 0 rfl) ?_
            refine lv_iconst (v := nI 3) X.x X.b dU_set_81 (by decide) ?_
            refine us_iadd X dU_set_82 ?_
            refine lv_dup2_11 X.x X.b dU_set_83 rfl rfl ?_
            refine us_ia X Y 1 0 rfl rfl (i := (ir * 4) + 3) (by omega) (by decide) dU_set_84 ?_
            refine lv_iconst (v := (1 : Int32)) X.x X.b dU_set_85 (by decide) ?_
            refine lv_iload_n X.x X.b dU_set_86 rfl (lv_at hl 3 rfl) ?_
            refine lv_ishl X.x X.b dU_set_87 ?_
            refine lv_iconst (v := (-1 : Int32)) X.x X.b dU_set_88 (by decide) ?_
            refine lv_ixor X.x X.b dU_set_89 ?_
            refine lv_iand X.x X.b dU_set_90 ?_
            refine us_is X Y 1 0 rfl rfl (i := (ir * 4) + 3) (by omega) (by decide) dU_set_91 (fun H locs Y => ?_)
            have Y : us_Y D A (uW ad cI ((upd C ((ir * 4) + 3) ((C ((ir * 4) + 3)) &&& ((((1 : Int32)) <<< ((nI co) &&& 31)) ^^^ ((-1 : Int32)))))) n PN CA np ((us_ku np k CK (nI 1))) ((us_ku np k CR (nI ir))) ((us_kc np k C CB ir)) (us_k1 np k)) s H locs := Y
            refine lv_goto (tgt := 120) X.x X.b dU_set_92 (by decide) ?_
            exact us_vreX (u := (n, np, (us_k1 np k), ((upd C ((ir * 4) + 3) ((C ((ir * 4) + 3)) &&& ((((1 : Int32)) <<< ((nI co) &&& 31)) ^^^ ((-1 : Int32)))))), PN, CA, ((us_ku np k CK (nI 1))), ((us_ku np k CR (nI ir))), ((us_kc np k C CB ir)))) X Y hr hlk (⟨_, _, Or.inr (Or.inr ⟨ir, co, hir, rfl, hco, rfl, Or.inr ⟨rfl, fun z => z.elim (us_ful.out g3) (fun z => g4 (z.eq hco h5.sy)), rfl, rfl⟩⟩), rfl, rfl, rfl, hU.st g3 hir (us_putn hco h1)⟩) dU_set_120
        · refine us_ne0 (tgt := 59) X dU_set_48 (by decide) ?_
          exact us_thr X Y hE hl9 htb hlk hl.1 tw_IS dU_set_51 dU_set_54 dU_set_55 dU_set_58 (by decide) (by decide) (by decide) (by decide) (Or.inr (Or.inl ⟨rfl, Or.inr (Or.inr ⟨ir, co, hir, rfl, hco, rfl, Or.inl ⟨rfl, Or.inr ((Classical.not_not.mp g4).eq hco h5), rfl, rfl⟩⟩)⟩))
      · refine us_eq0 (tgt := 51) X dU_set_36 (by decide) ?_
        exact us_thr X Y hE hl9 htb hlk hl.1 tw_IS dU_set_51 dU_set_54 dU_set_55 dU_set_58 (by decide) (by decide) (by decide) (by decide) (Or.inr (Or.inl ⟨rfl, Or.inr (Or.inr ⟨ir, co, hir, rfl, hco, rfl, Or.inl ⟨rfl, Or.inl (us_ful.of g3), rfl, rfl⟩⟩)⟩))
    · refine us_ne0 (tgt := 31) X dU_set_20 (by decide) ?_
      exact us_thr X Y hE hl9 htb hlk hl.1 tw_NS dU_set_23 dU_set_26 dU_set_27 dU_set_30 (by decide) (by decide) (by decide) (by decide) (Or.inr (Or.inr ⟨rfl, Or.inr (Or.inl ⟨rfl, ⟨co, hco, rfl⟩, g2, rfl, rfl⟩)⟩))
  · refine us_ne0 (tgt := 15) X dU_set_4 (by decide) ?_
    exact us_thr X Y hE hl9 htb hlk hl.1 tw_IA dU_set_7 dU_set_10 dU_set_11 dU_set_14 (by decide) (by decide) (by decide) (by decide) (Or.inl ⟨rfl, Or.inl ⟨rfl, g1, rfl, rfl⟩⟩)
set_option maxHeartbeats 4000000 in
set_option maxRecDepth 100000 in
theorem k_U_remove (l : Launch) (D : va_G) (ad : Nat → Nat) (cI : ClassId) (sz : Nat) (C PN CA CK CR CB : Nat → Int32) (n np k : Nat) (T : us_T) (nm : Nat → Int32) (sn : Nat → Nat) (sT : Nat → us_T) (sk : Nat → Nat) (hU : us_U n T k np nm sn sT sk C PN CA CK CR CB) (hl9 : l.stackTraces = false) (vr : Int32) : us_Xv l yU_remove cU_remove 2 6 81 [.ref (ad 0), .int vr] D (tyU cI) (uW ad cI C n PN CA np CK CR CB k) sz (fun (u : us_SU) => ∃ n' T' k', us_rR n T k np vr 0 n' T' k' ∧ us_us u n' T' k' np nm sn sT sk) (fun (u : us_SU) => uWS ad cI u) (fun E => (E = EIS ∧ us_rR n T k np vr 1 n T k) ∨ (E = ENS ∧ us_rR n T k np vr 2 n T k)) := by
  refine us_enterX (own := RU) rfl (by decide) (Nat.le_of_ble_eq_true rfl) ?_
  intro p e s m below meth c ls X Y hE htb hr hlk hl
  generalize va_A (uW ad cI C n PN CA np CK CR CB k) sz = A at X Y hE ⊢
  have hl : lv_has ls 2 [(0, .ref (ad 0)), (1, .int vr)] := hl
  have h1n := hU.1
  have h1p := hU.2.1
  have h1k := hU.2.2.1
  have h5 := hU.2.2.2.2.1
  refine lv_aload_n X.x X.b dU_remove_0 rfl (lv_at hl 0 rfl) ?_
  refine lv_iload_n X.x X.b dU_remove_1 rfl (lv_at hl 1 rfl) ?_
  refine us_vi (rest := []) X Y (k_U_isRow l D ad cI s.heap.size C PN CA CK CR CB n np k vr h1n) us_I7 0 rfl rfl cv_U_59 rfl ⟨by decide, by decide⟩ ⟨by decide, by decide⟩ hl.1 rfl (Nat.le_of_ble_eq_true rfl) dU_remove_2 (fun rr u H locs g2 Y => ?_)
  have Y : us_Y D A (uW ad cI C n PN CA np CK CR CB k) s H locs := Y
  rcases g2 with ⟨rfl, g2⟩ | ⟨rfl, g2⟩
  · refine us_ne1 (tgt := 16) X dU_remove_5 (by decide) ?_
    obtain ⟨ir, hir, rfl⟩ := g2
    refine lv_aload_n X.x X.b dU_remove_16 rfl (lv_at hl 0 rfl) ?_
    refine lv_iconst (v := nI 1) X.x X.b dU_remove_17 (by decide) ?_
    refine us_vi (rest := []) X Y (k_U_hasRoomFor l D ad cI H.size C PN CA CK CR CB n np k 1 h1p h1k (by decide)) us_I7 0 rfl rfl cv_U_41 rfl ⟨by decide, by decide⟩ ⟨by decide, by decide⟩ hl.1 rfl (Nat.le_of_ble_eq_true rfl) dU_remove_18 (fun rr u H locs g3 Y => ?_)
    have Y : us_Y D A (uW ad cI C n PN CA np CK CR CB k) s H locs := Y
    rcases g3 with ⟨rfl, g3⟩ | ⟨rfl, g3⟩
    · refine us_ne1 (tgt := 32) X dU_remove_21 (by decide) ?_
      refine lv_aload_n X.x X.b dU_remove_32 rfl (lv_at hl 0 rfl) ?_
      refine lv_iload_n X.x X.b dU_remove_33 rfl (lv_at hl 1 rfl) ?_
      refine us_vv (rest := []) X Y (k_U_takeOut l D ad cI H.size C PN CA CK CR CB n np k ir h1n hir h1p g3) us_I7 0 rfl rfl cv_U_69 rfl ⟨by decide, by decide⟩ ⟨by decide, by decide⟩ hl.1 rfl (Nat.le_of_ble_eq_true rfl) dU_remove_34 (fun u H locs _ Y => ?_)
      have Y : us_Y D A (uW ad cI ((va_cpy C C ((ir + 1) * 4) (ir * 4) ((n - ir - 1) * 4))) (n - 1) PN CA np ((us_ku np k CK (nI 2))) ((us_ku np k CR (nI ir))) ((us_kc np k C CB ir)) (us_k1 np k)) s H locs := Y
      exact us_vreX (u := ((n - 1), np, (us_k1 np k), ((va_cpy C C ((ir + 1) * 4) (ir * 4) ((n - ir - 1) * 4))), PN, CA, ((us_ku np k CK (nI 2))), ((us_ku np k CR (nI ir))), ((us_kc np k C CB ir)))) X Y hr hlk (⟨n - 1, _, _, Or.inr ⟨ir, hir, rfl, Or.inr ⟨rfl, us_ful.out g3, rfl, rfl, rfl⟩⟩, rfl, rfl, rfl, hU.del g3 hir⟩) dU_remove_37
    · refine us_ne0 (tgt := 32) X dU_remove_21 (by decide) ?_
      exact us_thr X Y hE hl9 htb hlk hl.1 tw_IS dU_remove_24 dU_remove_27 dU_remove_28 dU_remove_31 (by decide) (by decide) (by decide) (by decide) (Or.inl ⟨rfl, Or.inr ⟨ir, hir, rfl, Or.inl ⟨rfl, us_ful.of g3, rfl, rfl, rfl⟩⟩⟩)
  · refine us_ne0 (tgt := 16) X dU_remove_5 (by decide) ?_
    exact us_thr X Y hE hl9 htb hlk hl.1 tw_NS dU_remove_8 dU_remove_11 dU_remove_12 dU_remove_15 (by decide) (by decide) (by decide) (by decide) (Or.inr ⟨rfl, Or.inl ⟨rfl, g2, rfl, rfl, rfl⟩⟩)
end
section
/-! 27.Upub2 (laid by wip/whole/gen/methods_up.py): the public methods. -/
set_option maxHeartbeats 4000000 in
set_option maxRecDepth 100000 in
theorem k_U_removeAll (l : Launch) (D : va_G) (ad : Nat → Nat) (cI : ClassId) (sz : Nat) (C PN CA CK CR CB : Nat → Int32) (n np k : Nat) (T : us_T) (nm : Nat → Int32) (sn : Nat → Nat) (sT : Nat → us_T) (sk : Nat → Nat) (hU : us_U n T k np nm sn sT sk C PN CA CK CR CB) (hl9 : l.stackTraces = false) (vco vv : Int32) : us_Xi l yU_removeAll cU_removeAll 5 (some .int) 6 81 [.ref (ad 0), .int vco, .int vv] D (tyU cI) (uW ad cI C n PN CA np CK CR CB k) sz (fun r (u : us_SU) => ∃ n' T' k', us_aR n T k np vco vv 0 r n' T' k' ∧ us_us u n' T' k' np nm sn sT sk) (fun (u : us_SU) => uWS ad cI u) (fun E => (E = EIA ∧ us_aR n T k np vco vv 1 0 n T k) ∨ (E = EIS ∧ us_aR n T k np vco vv 2 0 n T k)) := by
  refine us_enterX (own := RU) rfl (by decide) (Nat.le_of_ble_eq_true rfl) ?_
  intro p e s m below meth c ls X Y hE htb hr hlk hl
  generalize va_A (uW ad cI C n PN CA np CK CR CB k) sz = A at X Y hE ⊢
  have hl : lv_has ls 5 [(0, .ref (ad 0)), (1, .int vco), (2, .int vv)] := hl
  have h1n := hU.1
  have h1p := hU.2.1
  have h1k := hU.2.2.1
  have h5 := hU.2.2.2.2.1
  refine lv_iload_n X.x X.b dU_removeAll_0 rfl (lv_at hl 1 rfl) ?_
  refine us_si (n := 1) (rest := []) X Y (k_U_isColumn l D s.heap.size vco) us_I0 mB_ml_U_56 mB_st_U_isColumn mB_ini_U mB_code_U_isColumn (by decide +kernel) rfl ⟨by decide, by decide⟩ ⟨by decide, by decide⟩ hl.1 rfl (Nat.le_of_ble_eq_true rfl) dU_removeAll_1 (fun rr H locs g1 Y => ?_)
  have Y : us_Y D A (uW ad cI C n PN CA np CK CR CB k) s H locs := Y
  rcases g1 with ⟨rfl, g1⟩ | ⟨rfl, g1⟩
  · refine us_ne1 (tgt := 15) X dU_removeAll_4 (by decide) ?_
    obtain ⟨co, hco, rfl⟩ := g1
    refine lv_aload_n X.x X.b dU_removeAll_15 rfl (lv_at hl 0 rfl) ?_
    refine lv_iload_n X.x X.b dU_removeAll_16 rfl (lv_at hl 1 rfl) ?_
    refine lv_iload_n X.x X.b dU_removeAll_17 rfl (lv_at hl 2 rfl) ?_
    refine us_vi (rest := []) X Y (k_U_countRowsWith l D ad cI H.size C PN CA CK CR CB n np k co vv h1n hco) us_I7 0 rfl rfl cv_U_73 rfl ⟨by decide, by decide⟩ ⟨by decide, by decide⟩ hl.1 rfl (Nat.le_of_ble_eq_true rfl) dU_removeAll_18 (fun rr u H locs g2 Y => ?_)
    have Y : us_Y D A (uW ad cI C n PN CA np CK CR CB k) s H locs := Y
    rw [us_ct_eq hco h5] at g2
    subst g2
    have hct := us_ct_le (T := T) (c := co) (v := vv) n
    refine lv_istore_n (lv' := [(3, .int (nI (us_ct T co vv n))), (0, .ref (ad 0)), (1, .int (nI co)), (2, .int vv)]) X.x X.b dU_removeAll_21 rfl hl (by decide) rfl (fun ls hl => ?_)
    refine lv_aload_n X.x X.b dU_removeAll_22 rfl (lv_at hl 1 rfl) ?_
    refine lv_iload_n X.x X.b dU_removeAll_23 rfl (lv_at hl 0 rfl) ?_
    refine us_vi (rest := []) X Y (k_U_hasRoomFor l D ad cI H.size C PN CA CK CR CB n np k (us_ct T co vv n) h1p h1k (by omega)) us_I7 0 rfl rfl cv_U_41 rfl ⟨by decide, by decide⟩ ⟨by decide, by decide⟩ hl.1 rfl (Nat.le_of_ble_eq_true rfl) dU_removeAll_24 (fun rr u H locs g3 Y => ?_)
    have Y : us_Y D A (uW ad cI C n PN CA np CK CR CB k) s H locs := Y
    rcases g3 with ⟨rfl, g3⟩ | ⟨rfl, g3⟩
    · refine us_ne1 (tgt := 38) X dU_removeAll_27 (by decide) ?_
      have loop : ∀ (d : Nat) (nc : Nat) (Tc : us_T) (kc : Nat) (C1 CK1 CR1 CB1 : Nat → Int32) (H : Heap) (locs : List Loc) (ls : Array Slot), d ≤ nc → us_U nc Tc kc np nm sn sT sk C1 PN CA CK1 CR1 CB1 → us_ra co vv np d (nc, Tc, kc) = us_ra co vv np n (n, T, k) → (np = 0 ∨ kc + us_ct Tc co vv d ≤ 200) → us_Y D A (uW ad cI C1 nc PN CA np CK1 CR1 CB1 kc) s H locs → lv_has ls 5 [(4, .int (nI d - 1)), (3, .int (nI (us_ct T co vv n))), (0, .ref (ad 0)), (1, .int (nI co)), (2, .int vv)] → W p l e { frames := 6, cells := 1, slots := 6, locals := 81 } s m [.ref (ad 0), .int (nI co), .int vv].toArray below meth c H locs 0 0 (us_QXi below (fun r (u : us_SU) => ∃ n' T' k', us_aR n T k np (nI co) vv 0 r n' T' k' ∧ us_us u n' T' k' np nm sn sT sk) D (tyU cI) A (uW ad cI C n PN CA np CK CR CB k) (fun (u : us_SU) => uWS ad cI u) (fun E => (E = EIA ∧ us_aR n T k np (nI co) vv 1 0 n T k) ∨ (E = EIS ∧ us_aR n T k np (nI co) vv 2 0 n T k)) [.ref (ad 0), .int (nI co), .int vv] s) (F0 m 46 ls []) := by
        intro d
        induction d with
        | zero =>
          intro nc Tc kc C1 CK1 CR1 CB1 H locs ls hd hUc hra hrm Y hl
          refine lv_iload X.x X.b dU_removeAll_46 (lv_at hl 0 rfl) ?_
          refine lv_if_lt (tgt := 74) X.x X.b dU_removeAll_48 (by decide) (fun h1 => ?_) (fun h1 => ?_)
          · refine lv_iload_n X.x X.b dU_removeAll_74 rfl (lv_at hl 1 rfl) ?_
            exact us_ireX (u := (nc, np, kc, C1, PN, CA, CK1, CR1, CB1)) X Y hr hlk (⟨nc, Tc, kc, Or.inr ⟨co, hco, rfl, Or.inr ⟨rfl, us_ful.out g3, rfl, hra⟩⟩, rfl, rfl, rfl, hUc⟩) dU_removeAll_75
          · exact absurd (by decide) h1
        | succ d ih =>
          intro nc Tc kc C1 CK1 CR1 CB1 H locs ls hd hUc hra hrm Y hl
          rw [nI_pred] at hl
          have hnc := hUc.1
          have e5 := hUc.2.2.2.2.1 d co (by omega) hco
          refine lv_iload X.x X.b dU_removeAll_46 (lv_at hl 0 rfl) ?_
          refine lv_if_lt (tgt := 74) X.x X.b dU_removeAll_48 (by decide) (fun h1 => ?_) (fun h1 => ?_)
          · exact absurd h1 (nI_pos (by omega))
          · refine lv_aload_n X.x X.b dU_removeAll_51 rfl (lv_at hl 2 rfl) ?_
            refine lv_iload X.x X.b dU_removeAll_52 (lv_at hl 0 rfl) ?_
            refine lv_iload_n X.x X.b dU_removeAll_54 rfl (lv_at hl 3 rfl) ?_
            refine lv_iload_n X.x X.b dU_removeAll_55 rfl (lv_at hl 4 rfl) ?_
            refine us_vi (rest := []) X Y (k_U_holds l D ad cI H.size C1 PN CA CK1 CR1 CB1 nc np kc d co vv (by omega) hco) us_I7 0 rfl rfl cv_U_77 rfl ⟨by decide, by decide⟩ ⟨by decide, by decide⟩ hl.1 rfl (Nat.le_of_ble_eq_true rfl) dU_removeAll_56 (fun rr u H locs g4 Y => ?_)
            have Y : us_Y D A (uW ad cI C1 nc PN CA np CK1 CR1 CB1 kc) s H locs := Y
            rcases g4 with ⟨rfl, g4⟩ | ⟨rfl, g4⟩
            · refine us_eq1 (tgt := 68) X dU_removeAll_59 (by decide) ?_
              rw [e5] at g4
              have hroom := us_room_1 hrm hco g4
              refine lv_aload_n X.x X.b dU_removeAll_62 rfl (lv_at hl 2 rfl) ?_
              refine lv_iload X.x X.b dU_removeAll_63 (lv_at hl 0 rfl) ?_
              refine us_vv (rest := []) X Y (k_U_takeOut l D ad cI H.size C1 PN CA CK1 CR1 CB1 nc np kc d hnc (by omega) h1p hroom.1) us_I7 0 rfl rfl cv_U_69 rfl ⟨by decide, by decide⟩ ⟨by decide, by decide⟩ hl.1 rfl (Nat.le_of_ble_eq_true rfl) dU_removeAll_65 (fun u H locs _ Y => ?_)
              have Y : us_Y D A (uW ad cI ((va_cpy C1 C1 ((d + 1) * 4) (d * 4) ((nc - d - 1) * 4))) (nc - 1) PN CA np ((us_ku np kc CK1 (nI 2))) ((us_ku np kc CR1 (nI d))) ((us_kc np kc C1 CB1 d)) (us_k1 np kc)) s H locs := Y
              refine lv_iinc (v := (nI d - 1)) (lv' := [(4, .int (nI d - 1)), (3, .int (nI (us_ct T co vv n))), (0, .ref (ad 0)), (1, .int (nI co)), (2, .int vv)]) X.x X.b dU_removeAll_68 hl (k := 0) rfl (us_dec _) (by decide) rfl (fun ls hl => ?_)
              refine lv_goto (tgt := 46) X.x X.b dU_removeAll_71 (by decide) ?_
              exact ih (nc - 1) (us_del Tc d) (us_k1 np kc) ((va_cpy C1 C1 ((d + 1) * 4) (d * 4) ((nc - d - 1) * 4))) ((us_ku np kc CK1 (nI 2))) ((us_ku np kc CR1 (nI d))) ((us_kc np kc C1 CB1 d)) H locs ls (by omega) (hUc.del hroom.1 (by omega)) ((us_ra_1 g4).symm.trans hra) hroom.2 Y hl
            · refine us_eq0 (tgt := 68) X dU_removeAll_59 (by decide) ?_
              rw [e5] at g4
              refine lv_iinc (v := (nI d - 1)) (lv' := [(4, .int (nI d - 1)), (3, .int (nI (us_ct T co vv n))), (0, .ref (ad 0)), (1, .int (nI co)), (2, .int vv)]) X.x X.b dU_removeAll_68 hl (k := 0) rfl (us_dec _) (by decide) rfl (fun ls hl => ?_)
              refine lv_goto (tgt := 46) X.x X.b dU_removeAll_71 (by decide) ?_
              exact ih nc Tc kc C1 CK1 CR1 CB1 H locs ls (by omega) hUc ((us_ra_0 g4).symm.trans hra) (us_room_0 hrm g4) Y hl
      refine lv_aload_n X.x X.b dU_removeAll_38 rfl (lv_at hl 1 rfl) ?_
      refine us_gU X Y 0 rfl 1 (by decide) mB_fl_U_13 rfl dU_removeAll_39 ?_
      refine lv_iconst (v := (1 : Int32)) X.x X.b dU_removeAll_42 (by decide) ?_
      refine lv_isub X.x X.b dU_removeAll_43 ?_
      refine lv_istore (lv' := [(4, .int ((nI n) - ((1 : Int32)))), (3, .int (nI (us_ct T co vv n))), (0, .ref (ad 0)), (1, .int (nI co)), (2, .int vv)]) X.x X.b dU_removeAll_44 hl (by decide) rfl (fun ls hl => ?_)
      exact loop n n T k C CK CR CB H locs ls (Nat.le_refl _) hU rfl g3 Y hl
    · refine us_ne0 (tgt := 38) X dU_removeAll_27 (by decide) ?_
      exact us_thr X Y hE hl9 htb hlk hl.1 tw_IS dU_removeAll_30 dU_removeAll_33 dU_removeAll_34 dU_removeAll_37 (by decide) (by decide) (by decide) (by decide) (Or.inr ⟨rfl, Or.inr ⟨co, hco, rfl, Or.inl ⟨rfl, us_ful.of g3, rfl, rfl, rfl⟩⟩⟩)
  · refine us_ne0 (tgt := 15) X dU_removeAll_4 (by decide) ?_
    exact us_thr X Y hE hl9 htb hlk hl.1 tw_IA dU_removeAll_7 dU_removeAll_10 dU_removeAll_11 dU_removeAll_14 (by decide) (by decide) (by decide) (by decide) (Or.inl ⟨rfl, Or.inl ⟨rfl, g1, rfl, rfl, rfl⟩⟩)
set_option maxHeartbeats 4000000 in
set_option maxRecDepth 100000 in
theorem k_U_find (l : Launch) (D : va_G) (ad : Nat → Nat) (cI : ClassId) (sz : Nat) (C PN CA CK CR CB : Nat → Int32) (n np k : Nat) (T : us_T) (nm : Nat → Int32) (sn : Nat → Nat) (sT : Nat → us_T) (sk : Nat → Nat) (hU : us_U n T k np nm sn sT sk C PN CA CK CR CB) (hl9 : l.stackTraces = false) (vco vv : Int32) : us_Xi l yU_find cU_find 3 (some .int) 6 81 [.ref (ad 0), .int vco, .int vv] D (tyU cI) (uW ad cI C n PN CA np CK CR CB k) sz (fun r (u : us_SU) => us_fR n T vco vv 0 r ∧ us_us u n T k np nm sn sT sk) (fun (u : us_SU) => uWS ad cI u) (fun E => E = EIA ∧ us_fR n T vco vv 1 0) := by
  refine us_enterX (own := RU) rfl (by decide) (Nat.le_of_ble_eq_true rfl) ?_
  intro p e s m below meth c ls X Y hE htb hr hlk hl
  generalize va_A (uW ad cI C n PN CA np CK CR CB k) sz = A at X Y hE ⊢
  have hl : lv_has ls 3 [(0, .ref (ad 0)), (1, .int vco), (2, .int vv)] := hl
  have h1n := hU.1
  have h1p := hU.2.1
  have h1k := hU.2.2.1
  have h5 := hU.2.2.2.2.1
  refine lv_iload_n X.x X.b dU_find_0 rfl (lv_at hl 1 rfl) ?_
  refine lv_if_lt (tgt := 9) X.x X.b dU_find_1 (by decide) (fun h1 => ?_) (fun h1 => ?_)
  · exact us_thr X Y hE hl9 htb hlk hl.1 tw_IA dU_find_9 dU_find_12 dU_find_13 dU_find_16 (by decide) (by decide) (by decide) (by decide) (⟨rfl, Or.inl ⟨rfl, fun ⟨c, h3, h4⟩ => nI_pos (n := c) (by omega) (h4 ▸ h1)⟩⟩)
  · refine lv_iload_n X.x X.b dU_find_4 rfl (lv_at hl 1 rfl) ?_
    refine lv_iconst (v := nI 2) X.x X.b dU_find_5 (by decide) ?_
    refine lv_icmp_lt (tgt := 17) X.x X.b dU_find_6 (by decide) (fun h2 => ?_) (fun h2 => ?_)
    · obtain ⟨co, hco, rfl⟩ := us_lt3 h1 (Int32.not_le.mpr h2)
      refine lv_aload_n X.x X.b dU_find_17 rfl (lv_at hl 0 rfl) ?_
      refine lv_iload_n X.x X.b dU_find_18 rfl (lv_at hl 1 rfl) ?_
      refine lv_iload_n X.x X.b dU_find_19 rfl (lv_at hl 2 rfl) ?_
      refine us_vi (rest := []) X Y (k_U_rowWithKey l D ad cI s.heap.size C PN CA CK CR CB n np k co vv h1n (by omega)) us_I7 0 rfl rfl cv_U_80 rfl ⟨by decide, by decide⟩ ⟨by decide, by decide⟩ hl.1 rfl (Nat.le_of_ble_eq_true rfl) dU_find_20 (fun rr u H locs g1 Y => ?_)
      have Y : us_Y D A (uW ad cI C n PN CA np CK CR CB k) s H locs := Y
      exact us_ireX (u := (n, np, k, C, PN, CA, CK, CR, CB)) X Y hr hlk (⟨Or.inr ⟨co, hco, rfl, rfl, g1.eq (by omega) h5⟩, rfl, rfl, rfl, hU⟩) dU_find_23
    · exact us_thr X Y hE hl9 htb hlk hl.1 tw_IA dU_find_9 dU_find_12 dU_find_13 dU_find_16 (by decide) (by decide) (by decide) (by decide) (⟨rfl, Or.inl ⟨rfl, fun ⟨c, h3, h4⟩ => h2 (by rw [h4]; exact nI_lt h3 (by decide))⟩⟩)
set_option maxHeartbeats 4000000 in
set_option maxRecDepth 100000 in
theorem k_U_value (l : Launch) (D : va_G) (ad : Nat → Nat) (cI : ClassId) (sz : Nat) (C PN CA CK CR CB : Nat → Int32) (n np k : Nat) (T : us_T) (nm : Nat → Int32) (sn : Nat → Nat) (sT : Nat → us_T) (sk : Nat → Nat) (hU : us_U n T k np nm sn sT sk C PN CA CK CR CB) (hl9 : l.stackTraces = false) (vr vco : Int32) : us_Xi l yU_value cU_value 3 (some .int) 6 81 [.ref (ad 0), .int vr, .int vco] D (tyU cI) (uW ad cI C n PN CA np CK CR CB k) sz (fun r (u : us_SU) => us_vR n T vr vco 0 r ∧ us_us u n T k np nm sn sT sk) (fun (u : us_SU) => uWS ad cI u) (fun E => (E = EIA ∧ us_vR n T vr vco 1 0) ∨ (E = ENS ∧ us_vR n T vr vco 2 0)) := by
  refine us_enterX (own := RU) rfl (by decide) (Nat.le_of_ble_eq_true rfl) ?_
  intro p e s m below meth c ls X Y hE htb hr hlk hl
  generalize va_A (uW ad cI C n PN CA np CK CR CB k) sz = A at X Y hE ⊢
  have hl : lv_has ls 3 [(0, .ref (ad 0)), (1, .int vr), (2, .int vco)] := hl
  have h1n := hU.1
  have h1p := hU.2.1
  have h1k := hU.2.2.1
  have h5 := hU.2.2.2.2.1
  refine lv_iload_n X.x X.b dU_value_0 rfl (lv_at hl 2 rfl) ?_
  refine us_si (n := 1) (rest := []) X Y (k_U_isColumn l D s.heap.size vco) us_I0 mB_ml_U_56 mB_st_U_isColumn mB_ini_U mB_code_U_isColumn (by decide +kernel) rfl ⟨by decide, by decide⟩ ⟨by decide, by decide⟩ hl.1 rfl (Nat.le_of_ble_eq_true rfl) dU_value_1 (fun rr H locs g1 Y => ?_)
  have Y : us_Y D A (uW ad cI C n PN CA np CK CR CB k) s H locs := Y
  rcases g1 with ⟨rfl, g1⟩ | ⟨rfl, g1⟩
  · refine us_ne1 (tgt := 15) X dU_value_4 (by decide) ?_
    obtain ⟨co, hco, rfl⟩ := g1
    refine lv_aload_n X.x X.b dU_value_15 rfl (lv_at hl 0 rfl) ?_
    refine lv_iload_n X.x X.b dU_value_16 rfl (lv_at hl 1 rfl) ?_
    refine us_vi (rest := []) X Y (k_U_isRow l D ad cI H.size C PN CA CK CR CB n np k vr h1n) us_I7 0 rfl rfl cv_U_59 rfl ⟨by decide, by decide⟩ ⟨by decide, by decide⟩ hl.1 rfl (Nat.le_of_ble_eq_true rfl) dU_value_17 (fun rr u H locs g2 Y => ?_)
    have Y : us_Y D A (uW ad cI C n PN CA np CK CR CB k) s H locs := Y
    rcases g2 with ⟨rfl, g2⟩ | ⟨rfl, g2⟩
    · refine us_eq1 (tgt := 32) X dU_value_20 (by decide) ?_
      obtain ⟨ir, hir, rfl⟩ := g2
      refine lv_aload_n X.x X.b dU_value_23 rfl (lv_at hl 0 rfl) ?_
      refine lv_iload_n X.x X.b dU_value_24 rfl (lv_at hl 1 rfl) ?_
      refine lv_iload_n X.x X.b dU_value_25 rfl (lv_at hl 2 rfl) ?_
      refine us_vi (rest := []) X Y (k_U_isNone l D ad cI H.size C PN CA CK CR CB n np k ir co (by omega) hco) us_I7 0 rfl rfl cv_U_83 rfl ⟨by decide, by decide⟩ ⟨by decide, by decide⟩ hl.1 rfl (Nat.le_of_ble_eq_true rfl) dU_value_26 (fun rr u H locs g3 Y => ?_)
      have Y : us_Y D A (uW ad cI C n PN CA np CK CR CB k) s H locs := Y
      rcases g3 with ⟨rfl, g3⟩ | ⟨rfl, g3⟩
      · refine us_eq1 (tgt := 40) X dU_value_29 (by decide) ?_
        exact us_thr X Y hE hl9 htb hlk hl.1 tw_NS dU_value_32 dU_value_35 dU_value_36 dU_value_39 (by decide) (by decide) (by decide) (by decide) (Or.inr ⟨rfl, Or.inr ⟨co, hco, rfl, Or.inl ⟨rfl, fun ⟨i, h3, h4, h6⟩ => h6 (by rw [← us_nI (by omega) (by omega) h4, ← h5 ir co hir hco]; exact g3)⟩⟩⟩)
      · refine us_eq0 (tgt := 40) X dU_value_29 (by decide) ?_
        refine lv_aload_n X.x X.b dU_value_40 rfl (lv_at hl 0 rfl) ?_
        refine us_gU X Y 0 rfl 0 (by decide) mB_fl_U_9 rfl dU_value_41 ?_
        refine lv_iload_n X.x X.b dU_value_44 rfl (lv_at hl 1 rfl) ?_
        refine lv_iconst (v := nI 4) X.x X.b dU_value_45 (by decide) ?_
        refine us_imul X dU_value_46 ?_
        refine lv_iload_n X.x X.b dU_value_47 rfl (lv_at hl 2 rfl) ?_
        refine us_iadd X dU_value_48 ?_
        refine us_ia X Y 1 0 rfl rfl (i := (ir * 4) + co) (by omega) (by decide) dU_value_49 ?_
        exact us_ireX (u := (n, np, k, C, PN, CA, CK, CR, CB)) X Y hr hlk (⟨Or.inr ⟨co, hco, rfl, Or.inr ⟨ir, hir, rfl, (h5 ir co hir hco).symm.trans (us_tu_some g3), rfl⟩⟩, rfl, rfl, rfl, hU⟩) dU_value_50
    · refine us_eq0 (tgt := 32) X dU_value_20 (by decide) ?_
      exact us_thr X Y hE hl9 htb hlk hl.1 tw_NS dU_value_32 dU_value_35 dU_value_36 dU_value_39 (by decide) (by decide) (by decide) (by decide) (Or.inr ⟨rfl, Or.inr ⟨co, hco, rfl, Or.inl ⟨rfl, fun ⟨i, h3, h4, _⟩ => g2 ⟨i, h3, h4⟩⟩⟩⟩)
  · refine us_ne0 (tgt := 15) X dU_value_4 (by decide) ?_
    exact us_thr X Y hE hl9 htb hlk hl.1 tw_IA dU_value_7 dU_value_10 dU_value_11 dU_value_14 (by decide) (by decide) (by decide) (by decide) (Or.inl ⟨rfl, Or.inl ⟨rfl, g1⟩⟩)
set_option maxHeartbeats 4000000 in
set_option maxRecDepth 100000 in
theorem k_U_mark (l : Launch) (D : va_G) (ad : Nat → Nat) (cI : ClassId) (sz : Nat) (C PN CA CK CR CB : Nat → Int32) (n np k : Nat) (T : us_T) (nm : Nat → Int32) (sn : Nat → Nat) (sT : Nat → us_T) (sk : Nat → Nat) (hU : us_U n T k np nm sn sT sk C PN CA CK CR CB) (hl9 : l.stackTraces = false) (x : Int32) : us_Xv l yU_mark cU_mark 2 6 81 [.ref (ad 0), .int x] D (tyU cI) (uW ad cI C n PN CA np CK CR CB k) sz (fun (u : us_SU) => ∃ np' nm' sn' sT' sk', us_mR n T k np nm sn sT sk x 0 np' nm' sn' sT' sk' ∧ us_us u n T k np' nm' sn' sT' sk') (fun (u : us_SU) => uWS ad cI u) (fun E => E = EIS ∧ us_mR n T k np nm sn sT sk x 1 np nm sn sT sk) := by
  refine us_enterX (own := RU) rfl (by decide) (Nat.le_of_ble_eq_true rfl) ?_
  intro p e s m below meth c ls X Y hE htb hr hlk hl
  generalize va_A (uW ad cI C n PN CA np CK CR CB k) sz = A at X Y hE ⊢
  have hl : lv_has ls 2 [(0, .ref (ad 0)), (1, .int x)] := hl
  have h1n := hU.1
  have h1p := hU.2.1
  have h1k := hU.2.2.1
  have h5 := hU.2.2.2.2.1
  refine lv_aload_n X.x X.b dU_mark_0 rfl (lv_at hl 0 rfl) ?_
  refine us_gU X Y 0 rfl 4 (by decide) mB_fl_U_23 rfl dU_mark_1 ?_
  refine lv_bipush (v := nI 20) X.x X.b dU_mark_4 (by decide) ?_
  refine us_clt (tgt := 17) X (by omega) (by omega) dU_mark_6 (by decide) (fun h1 => ?_) (fun h1 => ?_)
  · refine lv_aload_n X.x X.b dU_mark_17 rfl (lv_at hl 0 rfl) ?_
    refine us_gU X Y 0 rfl 2 (by decide) mB_fl_U_17 rfl dU_mark_18 ?_
    refine lv_aload_n X.x X.b dU_mark_21 rfl (lv_at hl 0 rfl) ?_
    refine us_gU X Y 0 rfl 4 (by decide) mB_fl_U_23 rfl dU_mark_22 ?_
    refine lv_iload_n X.x X.b dU_mark_25 rfl (lv_at hl 1 rfl) ?_
    refine us_is X Y 2 0 rfl rfl (i := np) (by omega) (by decide) dU_mark_26 (fun H locs Y => ?_)
    have Y : us_Y D A (uW ad cI C n ((upd PN np x)) CA np CK CR CB k) s H locs := Y
    refine lv_aload_n X.x X.b dU_mark_27 rfl (lv_at hl 0 rfl) ?_
    refine us_gU X Y 0 rfl 3 (by decide) mB_fl_U_20 rfl dU_mark_28 ?_
    refine lv_aload_n X.x X.b dU_mark_31 rfl (lv_at hl 0 rfl) ?_
    refine us_gU X Y 0 rfl 4 (by decide) mB_fl_U_23 rfl dU_mark_32 ?_
    refine lv_aload_n X.x X.b dU_mark_35 rfl (lv_at hl 0 rfl) ?_
    refine us_gU X Y 0 rfl 8 (by decide) mB_fl_U_35 rfl dU_mark_36 ?_
    refine us_is X Y 3 0 rfl rfl (i := np) (by omega) (by decide) dU_mark_39 (fun H locs Y => ?_)
    have Y : us_Y D A (uW ad cI C n ((upd PN np x)) ((upd CA np (nI k))) np CK CR CB k) s H locs := Y
    refine lv_aload_n X.x X.b dU_mark_40 rfl (lv_at hl 0 rfl) ?_
    refine lv_dup X.x X.b dU_mark_41 rfl ?_
    refine us_gU X Y 0 rfl 4 (by decide) mB_fl_U_23 rfl dU_mark_42 ?_
    refine lv_iconst (v := nI 1) X.x X.b dU_mark_45 (by decide) ?_
    refine us_iadd X dU_mark_46 ?_
    refine us_pU X Y 0 rfl 4 (by decide) mB_fl_U_23 rfl rfl rfl (Nat.le_of_ble_eq_true rfl) dU_mark_47 (fun H locs Y => ?_)
    have Y : us_Y D A (uW ad cI C n ((upd PN np x)) ((upd CA np (nI k))) (np + 1) CK CR CB k) s H locs := Y
    exact us_vreX (u := (n, (np + 1), k, C, ((upd PN np x)), ((upd CA np (nI k))), CK, CR, CB)) X Y hr hlk (⟨np + 1, _, _, _, _, Or.inr ⟨rfl, by omega, rfl, rfl, rfl, rfl, rfl⟩, rfl, rfl, rfl, hU.mark h1 x⟩) dU_mark_50
  · exact us_thr X Y hE hl9 htb hlk hl.1 tw_IS dU_mark_9 dU_mark_12 dU_mark_13 dU_mark_16 (by decide) (by decide) (by decide) (by decide) (⟨rfl, Or.inl ⟨rfl, by omega, rfl, rfl, rfl, rfl, rfl⟩⟩)
set_option maxHeartbeats 4000000 in
set_option maxRecDepth 100000 in
theorem k_U_back (l : Launch) (D : va_G) (ad : Nat → Nat) (cI : ClassId) (sz : Nat) (C PN CA CK CR CB : Nat → Int32) (n np k : Nat) (T : us_T) (nm : Nat → Int32) (sn : Nat → Nat) (sT : Nat → us_T) (sk : Nat → Nat) (hU : us_U n T k np nm sn sT sk C PN CA CK CR CB) (hl9 : l.stackTraces = false) (x : Int32) : us_Xv l yU_back cU_back 5 6 81 [.ref (ad 0), .int x] D (tyU cI) (uW ad cI C n PN CA np CK CR CB k) sz (fun (u : us_SU) => ∃ n' T' k' np', us_bR n T k np nm sn sT sk x 0 n' T' k' np' ∧ us_us u n' T' k' np' nm sn sT sk) (fun (u : us_SU) => uWS ad cI u) (fun E => E = ENS ∧ us_bR n T k np nm sn sT sk x 1 n T k np) := by
  refine us_enterX (own := RU) rfl (by decide) (Nat.le_of_ble_eq_true rfl) ?_
  intro p e s m below meth c ls X Y hE htb hr hlk hl
  generalize va_A (uW ad cI C n PN CA np CK CR CB k) sz = A at X Y hE ⊢
  have hl : lv_has ls 5 [(0, .ref (ad 0)), (1, .int x)] := hl
  have h1n := hU.1
  have h1p := hU.2.1
  have h1k := hU.2.2.1
  have h5 := hU.2.2.2.2.1
  have hnm : ∀ q, q < np → PN q = nm q := fun q hq => (hU.2.2.2.2.2.1 q hq).1
  obtain ⟨hn, hT, eh1, eh2, hlog, hs⟩ := hU.2.2.2.2.2.2.2
  refine lv_aload_n X.x X.b dU_back_0 rfl (lv_at hl 0 rfl) ?_
  refine lv_iload_n X.x X.b dU_back_1 rfl (lv_at hl 1 rfl) ?_
  refine us_vi (rest := []) X Y (k_U_latestPoint l D ad cI s.heap.size C PN CA CK CR CB n np k x h1p) us_I7 0 rfl rfl cv_U_87 rfl ⟨by decide, by decide⟩ ⟨by decide, by decide⟩ hl.1 rfl (Nat.le_of_ble_eq_true rfl) dU_back_2 (fun rr u H locs g1 Y => ?_)
  have Y : us_Y D A (uW ad cI C n PN CA np CK CR CB k) s H locs := Y
  rcases g1.eq hnm with ⟨pt, hp, rfl, hp2, hp3⟩ | ⟨rfl, hno⟩
  · refine lv_istore_n (lv' := [(2, .int (nI pt)), (0, .ref (ad 0)), (1, .int x)]) X.x X.b dU_back_5 rfl hl (by decide) rfl (fun ls hl => ?_)
    refine lv_iload_n X.x X.b dU_back_6 rfl (lv_at hl 0 rfl) ?_
    refine lv_if_ge (tgt := 18) X.x X.b dU_back_7 (by decide) (fun h1 => ?_) (fun h1 => ?_)
    · obtain ⟨-, eCA, hsk⟩ := hU.2.2.2.2.2.1 pt hp
      refine lv_aload_n X.x X.b dU_back_18 rfl (lv_at hl 1 rfl) ?_
      refine us_gU X Y 0 rfl 3 (by decide) mB_fl_U_20 rfl dU_back_19 ?_
      refine lv_iload_n X.x X.b dU_back_22 rfl (lv_at hl 0 rfl) ?_
      refine us_ia X Y 3 0 rfl rfl (i := pt) (by omega) (by decide) dU_back_23 ?_
      rw [eCA]
      have loop : ∀ (j : Nat) (C1 : Nat → Int32) (H : Heap) (locs : List Loc) (ls : Array Slot), sk pt + j ≤ k → us_eq (hn (sk pt + j)) (us_tu C1) (hT (sk pt + j)) → us_Y D A (uW ad cI C1 (hn (sk pt + j)) PN CA np CK CR CB k) s H locs → lv_has ls 5 [(4, .int (nI (sk pt + j) - 1)), (3, .int (nI (sk pt))), (2, .int (nI pt)), (0, .ref (ad 0)), (1, .int x)] → W p l e { frames := 6, cells := 1, slots := 6, locals := 81 } s m [.ref (ad 0), .int x].toArray below meth c H locs 0 0 (us_QXv below (fun (u : us_SU) => ∃ n' T' k' np', us_bR n T k np nm sn sT sk x 0 n' T' k' np' ∧ us_us u n' T' k' np' nm sn sT sk) D (tyU cI) A (uW ad cI C n PN CA np CK CR CB k) (fun (u : us_SU) => uWS ad cI u) (fun E => E = ENS ∧ us_bR n T k np nm sn sT sk x 1 n T k np) [.ref (ad 0), .int x] s) (F0 m 33 ls []) := by
        intro j
        induction j with
        | zero =>
          intro C1 H locs ls hj hq Y hl
          rw [Nat.add_zero] at hq Y hl
          refine lv_iload X.x X.b dU_back_33 (lv_at hl 0 rfl) ?_
          refine lv_iload_n X.x X.b dU_back_35 rfl (lv_at hl 1 rfl) ?_
          refine lv_icmp_lt (tgt := 51) X.x X.b dU_back_36 (by decide) (fun h2 => ?_) (fun h2 => ?_)
          · refine lv_aload_n X.x X.b dU_back_51 rfl (lv_at hl 3 rfl) ?_
            refine lv_iload_n X.x X.b dU_back_52 rfl (lv_at hl 1 rfl) ?_
            refine us_pU X Y 0 rfl 8 (by decide) mB_fl_U_35 rfl rfl rfl (Nat.le_of_ble_eq_true rfl) dU_back_53 (fun H locs Y => ?_)
            have Y : us_Y D A (uW ad cI C1 (hn (sk pt)) PN CA np CK CR CB (sk pt)) s H locs := Y
            refine lv_aload_n X.x X.b dU_back_56 rfl (lv_at hl 3 rfl) ?_
            refine lv_iload_n X.x X.b dU_back_57 rfl (lv_at hl 2 rfl) ?_
            refine lv_iconst (v := nI 1) X.x X.b dU_back_58 (by decide) ?_
            refine us_iadd X dU_back_59 ?_
            refine us_pU X Y 0 rfl 4 (by decide) mB_fl_U_23 rfl rfl rfl (Nat.le_of_ble_eq_true rfl) dU_back_60 (fun H locs Y => ?_)
            have Y : us_Y D A (uW ad cI C1 (hn (sk pt)) PN CA (pt + 1) CK CR CB (sk pt)) s H locs := Y
            have e6 := (hs pt hp).1
            rw [← e6] at Y hq
            exact us_vreX (u := ((sn pt), (pt + 1), (sk pt), C1, PN, CA, CK, CR, CB)) X Y hr hlk (⟨sn pt, _, _, _, Or.inr ⟨pt, ⟨hp, hp2, hp3⟩, rfl, rfl, rfl, rfl, rfl⟩, rfl, rfl, rfl, hU.back hp (hq.tr (hs pt hp).2.sy)⟩) dU_back_63
          · exact absurd (us_plt (by omega)) h2
        | succ j ih =>
          intro C1 H locs ls hj hq Y hl
          rw [← Nat.add_assoc] at hq Y hl
          rw [nI_pred] at hl
          have hb1 : hn (sk pt + j + 1) ≤ 120 := us_log.le hlog (by rw [eh1]; exact h1n) (k - (sk pt + j + 1)) (sk pt + j + 1) (by omega)
          have hun := (hlog (sk pt + j) (by omega)).eq (fun _ _ => rfl) hq.sy
          refine lv_iload X.x X.b dU_back_33 (lv_at hl 0 rfl) ?_
          refine lv_iload_n X.x X.b dU_back_35 rfl (lv_at hl 1 rfl) ?_
          refine us_clt (tgt := 51) X (by omega) (by omega) dU_back_36 (by decide) (fun h2 => ?_) (fun h2 => ?_)
          · exact absurd h2 (by omega)
          · refine lv_aload_n X.x X.b dU_back_39 rfl (lv_at hl 3 rfl) ?_
            refine lv_iload X.x X.b dU_back_40 (lv_at hl 0 rfl) ?_
            refine us_vv (rest := []) X Y (k_U_undo l D ad cI H.size C1 PN CA CK CR CB (hn (sk pt + j + 1)) np k (sk pt + j) (hn (sk pt + j)) (hT (sk pt + j)) (by omega) hb1 hun) us_I7 0 rfl rfl cv_U_91 rfl ⟨by decide, by decide⟩ ⟨by decide, by decide⟩ hl.1 rfl (Nat.le_of_ble_eq_true rfl) dU_back_42 (fun C2 H locs hq Y => ?_)
            have Y : us_Y D A (uW ad cI C2 (hn (sk pt + j)) PN CA np CK CR CB k) s H locs := Y
            refine lv_iinc (v := (nI (sk pt + j) - 1)) (lv' := [(4, .int (nI (sk pt + j) - 1)), (3, .int (nI (sk pt))), (2, .int (nI pt)), (0, .ref (ad 0)), (1, .int x)]) X.x X.b dU_back_45 hl (k := 0) rfl (us_dec _) (by decide) rfl (fun ls hl => ?_)
            refine lv_goto (tgt := 33) X.x X.b dU_back_48 (by decide) ?_
            exact ih C2 H locs ls (by omega) hq Y hl
      refine lv_istore_n (lv' := [(3, .int (nI (sk pt))), (2, .int (nI pt)), (0, .ref (ad 0)), (1, .int x)]) X.x X.b dU_back_24 rfl hl (by decide) rfl (fun ls hl => ?_)
      refine lv_aload_n X.x X.b dU_back_25 rfl (lv_at hl 2 rfl) ?_
      refine us_gU X Y 0 rfl 8 (by decide) mB_fl_U_35 rfl dU_back_26 ?_
      refine lv_iconst (v := (1 : Int32)) X.x X.b dU_back_29 (by decide) ?_
      refine lv_isub X.x X.b dU_back_30 ?_
      refine lv_istore (lv' := [(4, .int ((nI k) - ((1 : Int32)))), (3, .int (nI (sk pt))), (2, .int (nI pt)), (0, .ref (ad 0)), (1, .int x)]) X.x X.b dU_back_31 hl (by decide) rfl (fun ls hl => ?_)
      have ek : sk pt + (k - sk pt) = k := by omega
      refine loop (k - sk pt) C H locs ls (by omega) ?_ ?_ ?_
      · rw [ek, eh1]; exact h5.tr eh2
      · rw [ek, eh1]; exact Y
      · rw [ek]; exact hl
    · exact absurd (nI_pos' (by omega)) h1
  · refine lv_istore_n (lv' := [(2, .int ((-1 : Int32))), (0, .ref (ad 0)), (1, .int x)]) X.x X.b dU_back_5 rfl hl (by decide) rfl (fun ls hl => ?_)
    refine lv_iload_n X.x X.b dU_back_6 rfl (lv_at hl 0 rfl) ?_
    refine lv_if_ge (tgt := 18) X.x X.b dU_back_7 (by decide) (fun h1 => ?_) (fun h1 => ?_)
    · exact absurd h1 (by decide)
    · exact us_thr X Y hE hl9 htb hlk hl.1 tw_NS dU_back_10 dU_back_13 dU_back_14 dU_back_17 (by decide) (by decide) (by decide) (by decide) (⟨rfl, Or.inl ⟨rfl, hno, rfl, rfl, rfl, rfl⟩⟩)
set_option maxHeartbeats 4000000 in
set_option maxRecDepth 100000 in
theorem k_U_release (l : Launch) (D : va_G) (ad : Nat → Nat) (cI : ClassId) (sz : Nat) (C PN CA CK CR CB : Nat → Int32) (n np k : Nat) (T : us_T) (nm : Nat → Int32) (sn : Nat → Nat) (sT : Nat → us_T) (sk : Nat → Nat) (hU : us_U n T k np nm sn sT sk C PN CA CK CR CB) (hl9 : l.stackTraces = false) (x : Int32) : us_Xv l yU_release cU_release 3 6 81 [.ref (ad 0), .int x] D (tyU cI) (uW ad cI C n PN CA np CK CR CB k) sz (fun (u : us_SU) => ∃ k' np', us_lR k np nm x 0 k' np' ∧ us_us u n T k' np' nm sn sT sk) (fun (u : us_SU) => uWS ad cI u) (fun E => E = ENS ∧ us_lR k np nm x 1 k np) := by
  refine us_enterX (own := RU) rfl (by decide) (Nat.le_of_ble_eq_true rfl) ?_
  intro p e s m below meth c ls X Y hE htb hr hlk hl
  generalize va_A (uW ad cI C n PN CA np CK CR CB k) sz = A at X Y hE ⊢
  have hl : lv_has ls 3 [(0, .ref (ad 0)), (1, .int x)] := hl
  have h1n := hU.1
  have h1p := hU.2.1
  have h1k := hU.2.2.1
  have h5 := hU.2.2.2.2.1
  have hnm : ∀ q, q < np → PN q = nm q := fun q hq => (hU.2.2.2.2.2.1 q hq).1
  refine lv_aload_n X.x X.b dU_release_0 rfl (lv_at hl 0 rfl) ?_
  refine lv_iload_n X.x X.b dU_release_1 rfl (lv_at hl 1 rfl) ?_
  refine us_vi (rest := []) X Y (k_U_latestPoint l D ad cI s.heap.size C PN CA CK CR CB n np k x h1p) us_I7 0 rfl rfl cv_U_87 rfl ⟨by decide, by decide⟩ ⟨by decide, by decide⟩ hl.1 rfl (Nat.le_of_ble_eq_true rfl) dU_release_2 (fun rr u H locs g1 Y => ?_)
  have Y : us_Y D A (uW ad cI C n PN CA np CK CR CB k) s H locs := Y
  rcases g1.eq hnm with ⟨pt, hp, rfl, hp2, hp3⟩ | ⟨rfl, hno⟩
  · refine lv_istore_n (lv' := [(2, .int (nI pt)), (0, .ref (ad 0)), (1, .int x)]) X.x X.b dU_release_5 rfl hl (by decide) rfl (fun ls hl => ?_)
    refine lv_iload_n X.x X.b dU_release_6 rfl (lv_at hl 0 rfl) ?_
    refine lv_if_ge (tgt := 18) X.x X.b dU_release_7 (by decide) (fun h1 => ?_) (fun h1 => ?_)
    · refine lv_aload_n X.x X.b dU_release_18 rfl (lv_at hl 1 rfl) ?_
      refine lv_iload_n X.x X.b dU_release_19 rfl (lv_at hl 0 rfl) ?_
      refine us_pU X Y 0 rfl 4 (by decide) mB_fl_U_23 rfl rfl rfl (Nat.le_of_ble_eq_true rfl) dU_release_20 (fun H locs Y => ?_)
      have Y : us_Y D A (uW ad cI C n PN CA pt CK CR CB k) s H locs := Y
      refine lv_aload_n X.x X.b dU_release_23 rfl (lv_at hl 1 rfl) ?_
      refine us_gU X Y 0 rfl 4 (by decide) mB_fl_U_23 rfl dU_release_24 ?_
      refine us_zne (tgt := 35) X (by omega) dU_release_27 (by decide) (fun h2 => ?_) (fun h2 => ?_)
      · exact us_vreX (u := (n, pt, k, C, PN, CA, CK, CR, CB)) X Y hr hlk (⟨_, pt, Or.inr ⟨pt, ⟨hp, hp2, hp3⟩, rfl, rfl, rfl⟩, rfl, rfl, (if_neg (by omega)).symm, hU.rel hp⟩) dU_release_35
      · refine lv_aload_n X.x X.b dU_release_30 rfl (lv_at hl 1 rfl) ?_
        refine lv_iconst (v := nI 0) X.x X.b dU_release_31 (by decide) ?_
        refine us_pU X Y 0 rfl 8 (by decide) mB_fl_U_35 rfl rfl rfl (Nat.le_of_ble_eq_true rfl) dU_release_32 (fun H locs Y => ?_)
        have Y : us_Y D A (uW ad cI C n PN CA pt CK CR CB 0) s H locs := Y
        exact us_vreX (u := (n, pt, 0, C, PN, CA, CK, CR, CB)) X Y hr hlk (⟨_, pt, Or.inr ⟨pt, ⟨hp, hp2, hp3⟩, rfl, rfl, rfl⟩, rfl, rfl, (if_pos h2).symm, hU.rel hp⟩) dU_release_35
    · exact absurd (nI_pos' (by omega)) h1
  · refine lv_istore_n (lv' := [(2, .int ((-1 : Int32))), (0, .ref (ad 0)), (1, .int x)]) X.x X.b dU_release_5 rfl hl (by decide) rfl (fun ls hl => ?_)
    refine lv_iload_n X.x X.b dU_release_6 rfl (lv_at hl 0 rfl) ?_
    refine lv_if_ge (tgt := 18) X.x X.b dU_release_7 (by decide) (fun h1 => ?_) (fun h1 => ?_)
    · exact absurd h1 (by decide)
    · exact us_thr X Y hE hl9 htb hlk hl.1 tw_NS dU_release_10 dU_release_13 dU_release_14 dU_release_17 (by decide) (by decide) (by decide) (by decide) (⟨rfl, Or.inl ⟨rfl, hno, rfl, rfl⟩⟩)
set_option maxHeartbeats 4000000 in
set_option maxRecDepth 100000 in
theorem k_U_count (l : Launch) (D : va_G) (ad : Nat → Nat) (cI : ClassId) (sz : Nat) (C PN CA CK CR CB : Nat → Int32) (n np k : Nat) (T : us_T) (x : Int32) (hn : n ≤ 120) (h5 : us_eq n (us_tu C) T) : us_Ci l yU_count cU_count 2 (some .int) 2 45 [.ref (ad 0), .int x] D (tyU cI) (uW ad cI C n PN CA np CK CR CB k) sz (fun r (_ : Unit) => r = us_cnt n T k np x) (fun _ => uW ad cI C n PN CA np CK CR CB k) := by
  refine us_enter (own := RU) rfl (by decide) (Nat.le_of_ble_eq_true rfl) ?_
  intro p e s m below meth c ls X Y hr hlk hl
  generalize va_A (uW ad cI C n PN CA np CK CR CB k) sz = A at X Y ⊢
  have hl : lv_has ls 2 [(0, .ref (ad 0)), (1, .int x)] := hl
  refine lv_iload_n X.x X.b dU_count_0 rfl (lv_at hl 1 rfl) ?_
  rcases us_c5 x with rfl | rfl | rfl | rfl | rfl | h1
  · refine lv_tableIn (x := nI 0) (off := 35) (tgt := 36) X.x X.b dU_count_1 (by decide) (by decide) (by decide) (by decide) ?_
    refine lv_aload_n X.x X.b dU_count_36 rfl (lv_at hl 0 rfl) ?_
    refine us_gU X Y 0 rfl 1 (by decide) mB_fl_U_13 rfl dU_count_37 ?_
    exact us_iret (u := ()) X Y hr hlk ((us_cnt_0 n T k np).symm) dU_count_40
  · refine lv_tableIn (x := nI 1) (off := 40) (tgt := 41) X.x X.b dU_count_1 (by decide) (by decide) (by decide) (by decide) ?_
    refine lv_aload_n X.x X.b dU_count_41 rfl (lv_at hl 0 rfl) ?_
    refine us_gU X Y 0 rfl 4 (by decide) mB_fl_U_23 rfl dU_count_42 ?_
    exact us_iret (u := ()) X Y hr hlk ((us_cnt_1 n T k np).symm) dU_count_45
  · refine lv_tableIn (x := nI 2) (off := 45) (tgt := 46) X.x X.b dU_count_1 (by decide) (by decide) (by decide) (by decide) ?_
    refine lv_aload_n X.x X.b dU_count_46 rfl (lv_at hl 0 rfl) ?_
    refine us_gU X Y 0 rfl 8 (by decide) mB_fl_U_35 rfl dU_count_47 ?_
    exact us_iret (u := ()) X Y hr hlk ((us_cnt_2 n T k np).symm) dU_count_50
  · refine lv_tableIn (x := nI 3) (off := 50) (tgt := 51) X.x X.b dU_count_1 (by decide) (by decide) (by decide) (by decide) ?_
    refine lv_aload_n X.x X.b dU_count_51 rfl (lv_at hl 0 rfl) ?_
    refine lv_iconst (v := nI 1) X.x X.b dU_count_52 (by decide) ?_
    refine us_vi (rest := []) X Y (k_U_countNone l D ad cI s.heap.size C PN CA CK CR CB n np k 1 hn (by decide)) us_I7 0 rfl rfl cv_U_94 rfl ⟨by decide, by decide⟩ ⟨by decide, by decide⟩ hl.1 rfl (Nat.le_of_ble_eq_true rfl) dU_count_53 (fun rr u H locs g1 Y => ?_)
    have Y : us_Y D A (uW ad cI C n PN CA np CK CR CB k) s H locs := Y
    exact us_iret (u := ()) X Y hr hlk (by rw [g1, us_cn_eq (by decide) h5]; exact (us_cnt_3 n T k np).symm) dU_count_56
  · refine lv_tableIn (x := nI 4) (off := 56) (tgt := 57) X.x X.b dU_count_1 (by decide) (by decide) (by decide) (by decide) ?_
    refine lv_aload_n X.x X.b dU_count_57 rfl (lv_at hl 0 rfl) ?_
    refine lv_iconst (v := nI 2) X.x X.b dU_count_58 (by decide) ?_
    refine us_vi (rest := []) X Y (k_U_countNone l D ad cI s.heap.size C PN CA CK CR CB n np k 2 hn (by decide)) us_I7 0 rfl rfl cv_U_94 rfl ⟨by decide, by decide⟩ ⟨by decide, by decide⟩ hl.1 rfl (Nat.le_of_ble_eq_true rfl) dU_count_59 (fun rr u H locs g1 Y => ?_)
    have Y : us_Y D A (uW ad cI C n PN CA np CK CR CB k) s H locs := Y
    exact us_iret (u := ()) X Y hr hlk (by rw [g1, us_cn_eq (by decide) h5]; exact (us_cnt_4 n T k np).symm) dU_count_62
  · refine lv_tableOut (tgt := 63) X.x X.b dU_count_1 h1 (by decide) ?_
    refine lv_iconst (v := (-1 : Int32)) X.x X.b dU_count_63 (by decide) ?_
    exact us_iret (u := ()) X Y hr hlk ((us_cnt_o h1).symm) dU_count_64
end
section
/-! 30.make: arrays and objects that are made. -/
section USM
variable {p : Program} {l : Launch} {e : Env} {R : Room} {s : State} {m : MethodId} {args : Array Value} {below : List Frame} {meth : Method} {c : Code} {H : Heap} {locs : List Loc} {cells slots : Nat} {Q : State → Prop}
variable {cc : ByteArray} {nL pc : Nat} {ls : Array Slot} {rest : List Value} {D : va_G} {A : Nat → Prop} {tys : List (ClassId × FieldType)} {ws : va_W} {own : String}
theorem us_ria {s : State} {a b : ClassId} (h : va_RA s a .int) (g : va_RA s b .int) : a = b := by
  have h : s.vm.findClass ("[" ++ FieldType.int.toString) = some a := h
  have g : s.vm.findClass ("[" ++ FieldType.int.toString) = some b := g
  exact Option.some.inj (h.symm.trans g)
theorem us_riz {s : State} {a b : ClassId} (h : va_RA s a .boolean) (g : va_RA s b .boolean) : a = b := by
  have h : s.vm.findClass ("[" ++ FieldType.boolean.toString) = some a := h
  have g : s.vm.findClass ("[" ++ FieldType.boolean.toString) = some b := g
  exact Option.some.inj (h.symm.trans g)
/-- the first array of its kind -/
theorem us_new1 (X : us_X p s m args c cc nL own D tys A) (Y : us_Y D A ws s H locs) {atype : ArrayType} (harr : Cond.arrayClass (newarray.typeOf atype) ∈ wB) {ty : FieldType} (hty : newarray.typeOf atype = ty) {N : Nat} (hN : N < 2 ^ 31) (hz : defaultValue ty = .int 0) (hbytes : N * componentBytes ty ≤ 536870912) (hcells : cells + 1 ≤ R.cells) (hslots : slots + N ≤ R.slots) (hdg : decode cc pc = .ok (.newarray atype, 2))
    (kk : ∀ (q : Nat) (cA : ClassId) (H1 : Heap), us_X p s m args c cc nL own D (tys ++ [(cA, ty)]) A → us_Y D A (ws ++ [(q, .inl (cA, N, .inl (fun _ => 0)))]) s H1 locs → W p l e R s m args below meth c H1 locs (cells + 1) (slots + N) Q (F0 m (pc + 2) ls (.ref q :: rest))) : W p l e R s m args below meth c H locs cells slots Q (F0 m pc ls (.int (nI N) :: rest)) :=
  va_newa X.x X.b (X.w harr) hty X.2.1 Y.1 Y.2.1 Y.2.2 X.2.2 (a0 := (N, .inl (fun _ => 0))) (fun cA => by rw [vp_cell_i, hz]) (nI_pos hN) (nI_clamp hN) hbytes hcells hslots hdg (fun q cA H1 hK hP hD hS => kk q cA H1 ⟨X.1, hK, X.2.2⟩ ⟨hP, hD, hS⟩)
/-- one more of a kind that is known -/
theorem us_new2 (X : us_X p s m args c cc nL own D tys A) (Y : us_Y D A ws s H locs) {atype : ArrayType} (harr : Cond.arrayClass (newarray.typeOf atype) ∈ wB) {ty : FieldType} (hty : newarray.typeOf atype = ty) (t0 : Nat) {cA : ClassId} (ht : tys[t0]? = some (cA, ty)) (hinj : ∀ {a b : ClassId}, va_RA s a ty → va_RA s b ty → a = b) {N : Nat} (hN : N < 2 ^ 31) (hz : defaultValue ty = .int 0) (hbytes : N * componentBytes ty ≤ 536870912) (hcells : cells + 1 ≤ R.cells) (hslots : slots + N ≤ R.slots) (hdg : decode cc pc = .ok (.newarray atype, 2))
    (kk : ∀ (q : Nat) (H1 : Heap), us_Y D A (ws ++ [(q, .inl (cA, N, .inl (fun _ => 0)))]) s H1 locs → W p l e R s m args below meth c H1 locs (cells + 1) (slots + N) Q (F0 m (pc + 2) ls (.ref q :: rest))) : W p l e R s m args below meth c H locs cells slots Q (F0 m pc ls (.int (nI N) :: rest)) :=
  us_new1 X Y harr hty hN hz hbytes hcells hslots hdg (fun q cB H1 X1 Y1 => by
    have e1 : cB = cA := hinj (X1.2.1.2 tys.length (cB, ty) (by rw [List.getElem?_append_right (Nat.le_refl _), Nat.sub_self]; rfl)).2 (X.2.1.2 t0 (cA, ty) ht).2
    subst e1
    exact kk q H1 Y1)
theorem us_newl (X : us_X p s m args c cc nL own D tys A) (Y : us_Y D A ws s H locs) (harr : Cond.arrayClass (newarray.typeOf .long) ∈ wB) {N : Nat} (hN : N < 2 ^ 31) (hbytes : N * componentBytes .long ≤ 536870912) (hcells : cells + 1 ≤ R.cells) (hslots : slots + N ≤ R.slots) (hdg : decode cc pc = .ok (.newarray .long, 2))
    (kk : ∀ (q : Nat) (cA : ClassId) (H1 : Heap), us_X p s m args c cc nL own D (tys ++ [(cA, .long)]) A → us_Y D A (ws ++ [(q, .inl (cA, N, .inr (.inl (fun _ => 0))))]) s H1 locs → W p l e R s m args below meth c H1 locs (cells + 1) (slots + N) Q (F0 m (pc + 2) ls (.ref q :: rest))) : W p l e R s m args below meth c H locs cells slots Q (F0 m pc ls (.int (nI N) :: rest)) :=
  va_newa X.x X.b (X.w harr) rfl X.2.1 Y.1 Y.2.1 Y.2.2 X.2.2 (a0 := (N, .inr (.inl (fun _ => 0)))) (fun cA => rfl) (nI_pos hN) (nI_clamp hN) hbytes hcells hslots hdg (fun q cA H1 hK hP hD hS => kk q cA H1 ⟨X.1, hK, X.2.2⟩ ⟨hP, hD, hS⟩)
theorem us_pUF (X : us_X p s m args c cc nL RU D tys A) (Y : us_Y D A ws s H locs) (hin2 : meth.name = "<init>") {a : Nat} (q0 : Nat) {fs : List Value} (he : ws[q0]? = some (a, .inr (0, fs))) (k : Nat) (hk : k < 9) {idx : Nat} (hl : Cond.fieldLink RU idx (FU k).1 (FU k).2.1 (FU k).2.2.1 ∈ wB) (hfin : (FU k).2.2.2 = true) (hdecl : (FU k).1 = RU) {v : Value} (hn : narrow (tU k) v = v) (hfit : fits (tU k) v = true) (hlen : k < fs.length) (hdg : decode cc pc = .ok (.putfield idx, 3))
    (kk : ∀ (H1 : Heap) (locs1 : List Loc), us_Y D A (ws.set q0 (a, .inr (0, fs.set k v))) s H1 locs1 → W p l e R s m args below meth c H1 locs1 cells slots Q (F0 m (pc + 3) ls rest)) : W p l e R s m args below meth c H locs cells slots Q (F0 m pc ls (v :: .ref a :: rest)) :=
  us_putF (C := RU) (T := FU) (N := 9) uB_U rfl tU_ok nmU X Y q0 he k hk hl hfin hin2 hdecl hn hfit hlen hdg kk
theorem us_pMF (X : us_X p s m args c cc nL RM D tys A) (Y : us_Y D A ws s H locs) (hin2 : meth.name = "<init>") {a : Nat} (q0 : Nat) {fs : List Value} (he : ws[q0]? = some (a, .inr (1, fs))) (k : Nat) (hk : k < 11) {idx : Nat} (hl : Cond.fieldLink RM idx (FM k).1 (FM k).2.1 (FM k).2.2.1 ∈ wB) (hfin : (FM k).2.2.2 = true) (hdecl : (FM k).1 = RM) {v : Value} (hn : narrow (tM k) v = v) (hfit : fits (tM k) v = true) (hlen : k < fs.length) (hdg : decode cc pc = .ok (.putfield idx, 3))
    (kk : ∀ (H1 : Heap) (locs1 : List Loc), us_Y D A (ws.set q0 (a, .inr (1, fs.set k v))) s H1 locs1 → W p l e R s m args below meth c H1 locs1 cells slots Q (F0 m (pc + 3) ls rest)) : W p l e R s m args below meth c H locs cells slots Q (F0 m pc ls (v :: .ref a :: rest)) :=
  us_putF (C := RM) (T := FM) (N := 11) uB_M rfl tM_ok nmM X Y q0 he k hk hl hfin hin2 hdecl hn hfit hlen hdg kk
theorem us_enterN {y : MethodName} {bytes : ByteArray} {maxL : Nat} {ret : Option FieldType} {fr lo mc ms : Nat} {av : List Value} {sz : Nat} {Qc : Array Value → State → Outcome → State → Prop} (ho : y.cls = own) (hy : plainName y.cls = true) (hlen : (lg_sl av).length ≤ maxL)
    (body : ∀ (p : Program) (e : Env) (s : State) (m : MethodId) (below : List Frame) (meth : Method) (c : Code) (ls : Array Slot), us_X p s m av.toArray c bytes maxL own D tys (va_A ws sz) → us_Y D (va_A ws sz) ws s s.heap [] → meth.name = y.name → meth.sig.returnType = ret → meth.locks = false → lv_has ls maxL (lv_args 0 av) →
      W p l e { frames := fr, cells := mc, slots := ms, locals := lo } s m av.toArray below meth c s.heap [] 0 0 (MQ below Qc av.toArray s mc ms (va_A ws sz)) (F0 m 0 ls [])) :
    Met l y (.code y bytes maxL ret :: wB) { frames := fr, cells := mc, slots := ms, locals := lo } (va_Pc av (us_P D tys ws sz)) Qc mc ms (va_A ws sz) := by
  refine Met.ofW (cc := bytes) (maxL := maxL) (ret := ret) hy rfl ?_
  intro p e s m args below meth c s₁ B hml hv
  obtain ⟨rfl, hsz, hP, hK, hD0⟩ := hv
  have hts := atoms_spec (ws := Cond.code y bytes maxL ret :: wB) B.pre
  have hl := lv_entry av (n := maxL) hlen
  have hin : meth.name = y.name := (name_of_methodNamed B.named B.method).1
  rw [lg_entry_eq]
  generalize (lg_sl av ++ List.replicate (maxL - (lg_sl av).length) Slot.unset).toArray = ls at hl ⊢
  exact body p e s m below meth c ls ⟨⟨B.exec, B.bytes, hml, ho ▸ findClass_of_methodNamed B.named, fun w h => hts w (List.mem_cons_of_mem _ h)⟩, hK, fun q h => Or.inr (by omega)⟩ ⟨hP, hD0.self, va_S.rf⟩ hin B.returns B.notSynchronized hl
theorem us_oi (X : us_X p s m args c cc nL own D tys A) {idx : Nat} (hl : Cond.methodLink own idx objectInit ∈ wB) (hi : Cond.instanceMethod objectInit ∈ wB) (hc : Cond.code objectInit ⟨#[0xb1]⟩ 1 none ∈ wB) (hsz : ls.size = nL) {a : Nat} (hdg : decode cc pc = .ok (.invokespecial idx, 3)) (hfr : 1 ≤ R.frames) (hlo : 12 ≤ R.locals)
    (kk : W p l e R s m args below meth c H locs cells slots Q (F0 m (pc + 3) ls [])) : W p l e R s m args below meth c H locs cells slots Q (F0 m pc ls [.ref a]) :=
  W.objInit X.x X.b X.o (X.w hl) (X.w hi) (X.w hc) (g := F0 m pc ls [.ref a]) rfl (hsz.trans X.ml.symm) rfl hdg hfr (by show 2 * 0 + 0 + 12 ≤ _; omega) kk
end USM
/-- eight addresses -/
def us_ad (a b c d e f g h : Nat) : Nat → Nat := fun i => match i with
  | 0 => a
  | 1 => b
  | 2 => c
  | 3 => d
  | 4 => e
  | 5 => f
  | 6 => g
  | _ => h
end
section
/-! 31.inits (laid by wip/whole/gen/inits.py): the two constructors. -/
set_option maxHeartbeats 4000000 in
set_option maxRecDepth 100000 in
theorem k_U_init (l : Launch) (D : va_G) (a0 sz : Nat) : Met l yU_init (.code yU_init cU_init 1 none :: wB) { frames := 1, cells := 6, slots := 1720, locals := 12 } (va_Pc [.ref a0] (us_P D [] [(a0, .inr (0, [.null, .int 0, .null, .null, .int 0, .null, .null, .null, .int 0]))] sz)) (va_Qv (fun u : (Nat → Nat) × ClassId => u.1 0 = a0) (fun u t => us_Z D (tyU u.2) (va_A [(a0, .inr (0, [.null, .int 0, .null, .null, .int 0, .null, .null, .null, .int 0]))] sz) (uW u.1 u.2 (fun _ => 0) 0 (fun _ => 0) (fun _ => 0) 0 (fun _ => 0) (fun _ => 0) (fun _ => 0) 0) t) (va_A [(a0, .inr (0, [.null, .int 0, .null, .null, .int 0, .null, .null, .null, .int 0]))] sz)) 6 1720 (va_A [(a0, .inr (0, [.null, .int 0, .null, .null, .int 0, .null, .null, .null, .int 0]))] sz) := by
  refine us_enterN (own := RU) rfl (by decide) (Nat.le_of_ble_eq_true rfl) ?_
  intro p e s m below meth c ls X Y hin hr hlk hl
  generalize va_A [(a0, .inr (0, [.null, .int 0, .null, .null, .int 0, .null, .null, .null, .int 0]))] sz = A at X Y ⊢
  have hl : lv_has ls 1 [(0, .ref a0)] := hl
  refine lv_aload_n X.x X.b dU_init_0 rfl (lv_at hl 0 rfl) ?_
  refine us_oi X mB_ml_U_1 mB_im_Ob_init mB_code_Ob_init hl.1 dU_init_1 (by decide) (by decide) ?_
  refine lv_aload_n X.x X.b dU_init_4 rfl (lv_at hl 0 rfl) ?_
  refine lv_sipush (v := nI 480) X.x X.b dU_init_5 (by decide) ?_
  refine us_new1 (atype := .int) (ty := .int) X Y mB_arr_int rfl (by decide) rfl (by decide) (by decide) (by decide) dU_init_8 (fun q1 cI H X Y => ?_)
  have X : us_X p s m _ c _ _ _ D [(cI, .int)] A := X
  have Y : us_Y D A [(a0, .inr (0, [.null, .int 0, .null, .null, .int 0, .null, .null, .null, .int 0])), (q1, .inl (cI, 480, .inl (fun _ => 0)))] s H [] := Y
  refine us_pUF X Y hin 0 rfl 0 (by decide) mB_fl_U_9 rfl rfl rfl rfl (Nat.le_of_ble_eq_true rfl) dU_init_10 (fun H locs Y => ?_)
  have Y : us_Y D A [(a0, .inr (0, [.ref q1, .int 0, .null, .null, .int 0, .null, .null, .null, .int 0])), (q1, .inl (cI, 480, .inl (fun _ => 0)))] s H locs := Y
  refine lv_aload_n X.x X.b dU_init_13 rfl (lv_at hl 0 rfl) ?_
  refine lv_iconst (v := nI 0) X.x X.b dU_init_14 (by decide) ?_
  refine us_pU X Y 0 rfl 1 (by decide) mB_fl_U_13 rfl rfl rfl (Nat.le_of_ble_eq_true rfl) dU_init_15 (fun H locs Y => ?_)
  have Y : us_Y D A [(a0, .inr (0, [.ref q1, .int (nI 0), .null, .null, .int 0, .null, .null, .null, .int 0])), (q1, .inl (cI, 480, .inl (fun _ => 0)))] s H locs := Y
  refine lv_aload_n X.x X.b dU_init_18 rfl (lv_at hl 0 rfl) ?_
  refine lv_bipush (v := nI 20) X.x X.b dU_init_19 (by decide) ?_
  refine us_new2 (atype := .int) (ty := .int) X Y mB_arr_int rfl 0 rfl us_ria (by decide) rfl (by decide) (by decide) (by decide) dU_init_21 (fun q2 H Y => ?_)
  have Y : us_Y D A [(a0, .inr (0, [.ref q1, .int (nI 0), .null, .null, .int 0, .null, .null, .null, .int 0])), (q1, .inl (cI, 480, .inl (fun _ => 0))), (q2, .inl (cI, 20, .inl (fun _ => 0)))] s H locs := Y
  refine us_pUF X Y hin 0 rfl 2 (by decide) mB_fl_U_17 rfl rfl rfl rfl (Nat.le_of_ble_eq_true rfl) dU_init_23 (fun H locs Y => ?_)
  have Y : us_Y D A [(a0, .inr (0, [.ref q1, .int (nI 0), .ref q2, .null, .int 0, .null, .null, .null, .int 0])), (q1, .inl (cI, 480, .inl (fun _ => 0))), (q2, .inl (cI, 20, .inl (fun _ => 0)))] s H locs := Y
  refine lv_aload_n X.x X.b dU_init_26 rfl (lv_at hl 0 rfl) ?_
  refine lv_bipush (v := nI 20) X.x X.b dU_init_27 (by decide) ?_
  refine us_new2 (atype := .int) (ty := .int) X Y mB_arr_int rfl 0 rfl us_ria (by decide) rfl (by decide) (by decide) (by decide) dU_init_29 (fun q3 H Y => ?_)
  have Y : us_Y D A [(a0, .inr (0, [.ref q1, .int (nI 0), .ref q2, .null, .int 0, .null, .null, .null, .int 0])), (q1, .inl (cI, 480, .inl (fun _ => 0))), (q2, .inl (cI, 20, .inl (fun _ => 0))), (q3, .inl (cI, 20, .inl (fun _ => 0)))] s H locs := Y
  refine us_pUF X Y hin 0 rfl 3 (by decide) mB_fl_U_20 rfl rfl rfl rfl (Nat.le_of_ble_eq_true rfl) dU_init_31 (fun H locs Y => ?_)
  have Y : us_Y D A [(a0, .inr (0, [.ref q1, .int (nI 0), .ref q2, .ref q3, .int 0, .null, .null, .null, .int 0])), (q1, .inl (cI, 480, .inl (fun _ => 0))), (q2, .inl (cI, 20, .inl (fun _ => 0))), (q3, .inl (cI, 20, .inl (fun _ => 0)))] s H locs := Y
  refine lv_aload_n X.x X.b dU_init_34 rfl (lv_at hl 0 rfl) ?_
  refine lv_iconst (v := nI 0) X.x X.b dU_init_35 (by decide) ?_
  refine us_pU X Y 0 rfl 4 (by decide) mB_fl_U_23 rfl rfl rfl (Nat.le_of_ble_eq_true rfl) dU_init_36 (fun H locs Y => ?_)
  have Y : us_Y D A [(a0, .inr (0, [.ref q1, .int (nI 0), .ref q2, .ref q3, .int (nI 0), .null, .null, .null, .int 0])), (q1, .inl (cI, 480, .inl (fun _ => 0))), (q2, .inl (cI, 20, .inl (fun _ => 0))), (q3, .inl (cI, 20, .inl (fun _ => 0)))] s H locs := Y
  refine lv_aload_n X.x X.b dU_init_39 rfl (lv_at hl 0 rfl) ?_
  refine lv_sipush (v := nI 200) X.x X.b dU_init_40 (by decide) ?_
  refine us_new2 (atype := .int) (ty := .int) X Y mB_arr_int rfl 0 rfl us_ria (by decide) rfl (by decide) (by decide) (by decide) dU_init_43 (fun q4 H Y => ?_)
  have Y : us_Y D A [(a0, .inr (0, [.ref q1, .int (nI 0), .ref q2, .ref q3, .int (nI 0), .null, .null, .null, .int 0])), (q1, .inl (cI, 480, .inl (fun _ => 0))), (q2, .inl (cI, 20, .inl (fun _ => 0))), (q3, .inl (cI, 20, .inl (fun _ => 0))), (q4, .inl (cI, 200, .inl (fun _ => 0)))] s H locs := Y
  refine us_pUF X Y hin 0 rfl 5 (by decide) mB_fl_U_26 rfl rfl rfl rfl (Nat.le_of_ble_eq_true rfl) dU_init_45 (fun H locs Y => ?_)
  have Y : us_Y D A [(a0, .inr (0, [.ref q1, .int (nI 0), .ref q2, .ref q3, .int (nI 0), .ref q4, .null, .null, .int 0])), (q1, .inl (cI, 480, .inl (fun _ => 0))), (q2, .inl (cI, 20, .inl (fun _ => 0))), (q3, .inl (cI, 20, .inl (fun _ => 0))), (q4, .inl (cI, 200, .inl (fun _ => 0)))] s H locs := Y
  refine lv_aload_n X.x X.b dU_init_48 rfl (lv_at hl 0 rfl) ?_
  refine lv_sipush (v := nI 200) X.x X.b dU_init_49 (by decide) ?_
  refine us_new2 (atype := .int) (ty := .int) X Y mB_arr_int rfl 0 rfl us_ria (by decide) rfl (by decide) (by decide) (by decide) dU_init_52 (fun q5 H Y => ?_)
  have Y : us_Y D A [(a0, .inr (0, [.ref q1, .int (nI 0), .ref q2, .ref q3, .int (nI 0), .ref q4, .null, .null, .int 0])), (q1, .inl (cI, 480, .inl (fun _ => 0))), (q2, .inl (cI, 20, .inl (fun _ => 0))), (q3, .inl (cI, 20, .inl (fun _ => 0))), (q4, .inl (cI, 200, .inl (fun _ => 0))), (q5, .inl (cI, 200, .inl (fun _ => 0)))] s H locs := Y
  refine us_pUF X Y hin 0 rfl 6 (by decide) mB_fl_U_29 rfl rfl rfl rfl (Nat.le_of_ble_eq_true rfl) dU_init_54 (fun H locs Y => ?_)
  have Y : us_Y D A [(a0, .inr (0, [.ref q1, .int (nI 0), .ref q2, .ref q3, .int (nI 0), .ref q4, .ref q5, .null, .int 0])), (q1, .inl (cI, 480, .inl (fun _ => 0))), (q2, .inl (cI, 20, .inl (fun _ => 0))), (q3, .inl (cI, 20, .inl (fun _ => 0))), (q4, .inl (cI, 200, .inl (fun _ => 0))), (q5, .inl (cI, 200, .inl (fun _ => 0)))] s H locs := Y
  refine lv_aload_n X.x X.b dU_init_57 rfl (lv_at hl 0 rfl) ?_
  refine lv_sipush (v := nI 800) X.x X.b dU_init_58 (by decide) ?_
  refine us_new2 (atype := .int) (ty := .int) X Y mB_arr_int rfl 0 rfl us_ria (by decide) rfl (by decide) (by decide) (by decide) dU_init_61 (fun q6 H Y => ?_)
  have Y : us_Y D A [(a0, .inr (0, [.ref q1, .int (nI 0), .ref q2, .ref q3, .int (nI 0), .ref q4, .ref q5, .null, .int 0])), (q1, .inl (cI, 480, .inl (fun _ => 0))), (q2, .inl (cI, 20, .inl (fun _ => 0))), (q3, .inl (cI, 20, .inl (fun _ => 0))), (q4, .inl (cI, 200, .inl (fun _ => 0))), (q5, .inl (cI, 200, .inl (fun _ => 0))), (q6, .inl (cI, 800, .inl (fun _ => 0)))] s H locs := Y
  refine us_pUF X Y hin 0 rfl 7 (by decide) mB_fl_U_32 rfl rfl rfl rfl (Nat.le_of_ble_eq_true rfl) dU_init_63 (fun H locs Y => ?_)
  have Y : us_Y D A [(a0, .inr (0, [.ref q1, .int (nI 0), .ref q2, .ref q3, .int (nI 0), .ref q4, .ref q5, .ref q6, .int 0])), (q1, .inl (cI, 480, .inl (fun _ => 0))), (q2, .inl (cI, 20, .inl (fun _ => 0))), (q3, .inl (cI, 20, .inl (fun _ => 0))), (q4, .inl (cI, 200, .inl (fun _ => 0))), (q5, .inl (cI, 200, .inl (fun _ => 0))), (q6, .inl (cI, 800, .inl (fun _ => 0)))] s H locs := Y
  refine lv_aload_n X.x X.b dU_init_66 rfl (lv_at hl 0 rfl) ?_
  refine lv_iconst (v := nI 0) X.x X.b dU_init_67 (by decide) ?_
  refine us_pU X Y 0 rfl 8 (by decide) mB_fl_U_35 rfl rfl rfl (Nat.le_of_ble_eq_true rfl) dU_init_68 (fun H locs Y => ?_)
  have Y : us_Y D A [(a0, .inr (0, [.ref q1, .int (nI 0), .ref q2, .ref q3, .int (nI 0), .ref q4, .ref q5, .ref q6, .int (nI 0)])), (q1, .inl (cI, 480, .inl (fun _ => 0))), (q2, .inl (cI, 20, .inl (fun _ => 0))), (q3, .inl (cI, 20, .inl (fun _ => 0))), (q4, .inl (cI, 200, .inl (fun _ => 0))), (q5, .inl (cI, 200, .inl (fun _ => 0))), (q6, .inl (cI, 800, .inl (fun _ => 0)))] s H locs := Y
  exact W.vret X.x X.b hr (fun t ht hW => ⟨⟨(us_ad a0 q1 q2 q3 q4 q5 q6 q6, cI), rfl, rfl, by rw [ht]; exact Y.1, va_K.moved hW.alike X.2.1, Y.2.1⟩, Y.2.2.F ht⟩) Y.2.2.2.2 dU_init_71 hlk
set_option maxHeartbeats 4000000 in
set_option maxRecDepth 100000 in
theorem k_M_init (l : Launch) (D : va_G) (a0 sz : Nat) : Met l yM_init (.code yM_init cM_init 1 none :: wB) { frames := 1, cells := 7, slots := 15186, locals := 12 } (va_Pc [.ref a0] (us_P D [] [(a0, .inr (1, [.int 0, .int 0, .int 0, .int 0, .null, .null, .null, .null, .null, .null, .null]))] sz)) (va_Qv (fun u : (Nat → Nat) × ClassId × ClassId => u.1 0 = a0) (fun u t => us_Z D (tyM u.2.1 u.2.2) (va_A [(a0, .inr (1, [.int 0, .int 0, .int 0, .int 0, .null, .null, .null, .null, .null, .null, .null]))] sz) (mW u.1 u.2.1 u.2.2 (nI 0) 0 0 0 (fun _ => 0) (fun _ => 0) (fun _ => 0) (fun _ => 0) (fun _ => 0) (fun _ => 0) (fun _ => 0)) t) (va_A [(a0, .inr (1, [.int 0, .int 0, .int 0, .int 0, .null, .null, .null, .null, .null, .null, .null]))] sz)) 7 15186 (va_A [(a0, .inr (1, [.int 0, .int 0, .int 0, .int 0, .null, .null, .null, .null, .null, .null, .null]))] sz) := by
  refine us_enterN (own := RM) rfl (by decide) (Nat.le_of_ble_eq_true rfl) ?_
  intro p e s m below meth c ls X Y hin hr hlk hl
  generalize va_A [(a0, .inr (1, [.int 0, .int 0, .int 0, .int 0, .null, .null, .null, .null, .null, .null, .null]))] sz = A at X Y ⊢
  have hl : lv_has ls 1 [(0, .ref a0)] := hl
  refine lv_aload_n X.x X.b dM_init_0 rfl (lv_at hl 0 rfl) ?_
  refine us_oi X mB_ml_M_3 mB_im_Ob_init mB_code_Ob_init hl.1 dM_init_1 (by decide) (by decide) ?_
  refine lv_aload_n X.x X.b dM_init_4 rfl (lv_at hl 0 rfl) ?_
  refine lv_sipush (v := nI 363) X.x X.b dM_init_5 (by decide) ?_
  refine us_new1 (atype := .int) (ty := .int) X Y mB_arr_int rfl (by decide) rfl (by decide) (by decide) (by decide) dM_init_8 (fun q1 cI H X Y => ?_)
  have X : us_X p s m _ c _ _ _ D [(cI, .int)] A := X
  have Y : us_Y D A [(a0, .inr (1, [.int 0, .int 0, .int 0, .int 0, .null, .null, .null, .null, .null, .null, .null])), (q1, .inl (cI, 363, .inl (fun _ => 0)))] s H [] := Y
  refine us_pMF X Y hin 0 rfl 4 (by decide) mB_fl_M_9 rfl rfl rfl rfl (Nat.le_of_ble_eq_true rfl) dM_init_10 (fun H locs Y => ?_)
  have Y : us_Y D A [(a0, .inr (1, [.int 0, .int 0, .int 0, .int 0, .ref q1, .null, .null, .null, .null, .null, .null])), (q1, .inl (cI, 363, .inl (fun _ => 0)))] s H locs := Y
  refine lv_aload_n X.x X.b dM_init_13 rfl (lv_at hl 0 rfl) ?_
  refine lv_sipush (v := nI 7200) X.x X.b dM_init_14 (by decide) ?_
  refine us_new2 (atype := .int) (ty := .int) X Y mB_arr_int rfl 0 rfl us_ria (by decide) rfl (by decide) (by decide) (by decide) dM_init_17 (fun q2 H Y => ?_)
  have Y : us_Y D A [(a0, .inr (1, [.int 0, .int 0, .int 0, .int 0, .ref q1, .null, .null, .null, .null, .null, .null])), (q1, .inl (cI, 363, .inl (fun _ => 0))), (q2, .inl (cI, 7200, .inl (fun _ => 0)))] s H locs := Y
  refine us_pMF X Y hin 0 rfl 5 (by decide) mB_fl_M_13 rfl rfl rfl rfl (Nat.le_of_ble_eq_true rfl) dM_init_19 (fun H locs Y => ?_)
  have Y : us_Y D A [(a0, .inr (1, [.int 0, .int 0, .int 0, .int 0, .ref q1, .ref q2, .null, .null, .null, .null, .null])), (q1, .inl (cI, 363, .inl (fun _ => 0))), (q2, .inl (cI, 7200, .inl (fun _ => 0)))] s H locs := Y
  refine lv_aload_n X.x X.b dM_init_22 rfl (lv_at hl 0 rfl) ?_
  refine lv_sipush (v := nI 363) X.x X.b dM_init_23 (by decide) ?_
  refine us_new1 (atype := .boolean) (ty := .boolean) X Y mB_arr_boolean rfl (by decide) rfl (by decide) (by decide) (by decide) dM_init_26 (fun q3 cZ H X Y => ?_)
  have X : us_X p s m _ c _ _ _ D [(cI, .int), (cZ, .boolean)] A := X
  have Y : us_Y D A [(a0, .inr (1, [.int 0, .int 0, .int 0, .int 0, .ref q1, .ref q2, .null, .null, .null, .null, .null])), (q1, .inl (cI, 363, .inl (fun _ => 0))), (q2, .inl (cI, 7200, .inl (fun _ => 0))), (q3, .inl (cZ, 363, .inl (fun _ => 0)))] s H locs := Y
  refine us_pMF X Y hin 0 rfl 6 (by decide) mB_fl_M_16 rfl rfl rfl rfl (Nat.le_of_ble_eq_true rfl) dM_init_28 (fun H locs Y => ?_)
  have Y : us_Y D A [(a0, .inr (1, [.int 0, .int 0, .int 0, .int 0, .ref q1, .ref q2, .ref q3, .null, .null, .null, .null])), (q1, .inl (cI, 363, .inl (fun _ => 0))), (q2, .inl (cI, 7200, .inl (fun _ => 0))), (q3, .inl (cZ, 363, .inl (fun _ => 0)))] s H locs := Y
  refine lv_aload_n X.x X.b dM_init_31 rfl (lv_at hl 0 rfl) ?_
  refine lv_sipush (v := nI 7200) X.x X.b dM_init_32 (by decide) ?_
  refine us_new2 (atype := .boolean) (ty := .boolean) X Y mB_arr_boolean rfl 1 rfl us_riz (by decide) rfl (by decide) (by decide) (by decide) dM_init_35 (fun q4 H Y => ?_)
  have Y : us_Y D A [(a0, .inr (1, [.int 0, .int 0, .int 0, .int 0, .ref q1, .ref q2, .ref q3, .null, .null, .null, .null])), (q1, .inl (cI, 363, .inl (fun _ => 0))), (q2, .inl (cI, 7200, .inl (fun _ => 0))), (q3, .inl (cZ, 363, .inl (fun _ => 0))), (q4, .inl (cZ, 7200, .inl (fun _ => 0)))] s H locs := Y
  refine us_pMF X Y hin 0 rfl 7 (by decide) mB_fl_M_20 rfl rfl rfl rfl (Nat.le_of_ble_eq_true rfl) dM_init_37 (fun H locs Y => ?_)
  have Y : us_Y D A [(a0, .inr (1, [.int 0, .int 0, .int 0, .int 0, .ref q1, .ref q2, .ref q3, .ref q4, .null, .null, .null])), (q1, .inl (cI, 363, .inl (fun _ => 0))), (q2, .inl (cI, 7200, .inl (fun _ => 0))), (q3, .inl (cZ, 363, .inl (fun _ => 0))), (q4, .inl (cZ, 7200, .inl (fun _ => 0)))] s H locs := Y
  refine lv_aload_n X.x X.b dM_init_40 rfl (lv_at hl 0 rfl) ?_
  refine lv_bipush (v := nI 20) X.x X.b dM_init_41 (by decide) ?_
  refine us_new2 (atype := .int) (ty := .int) X Y mB_arr_int rfl 0 rfl us_ria (by decide) rfl (by decide) (by decide) (by decide) dM_init_43 (fun q5 H Y => ?_)
  have Y : us_Y D A [(a0, .inr (1, [.int 0, .int 0, .int 0, .int 0, .ref q1, .ref q2, .ref q3, .ref q4, .null, .null, .null])), (q1, .inl (cI, 363, .inl (fun _ => 0))), (q2, .inl (cI, 7200, .inl (fun _ => 0))), (q3, .inl (cZ, 363, .inl (fun _ => 0))), (q4, .inl (cZ, 7200, .inl (fun _ => 0))), (q5, .inl (cI, 20, .inl (fun _ => 0)))] s H locs := Y
  refine us_pMF X Y hin 0 rfl 8 (by decide) mB_fl_M_23 rfl rfl rfl rfl (Nat.le_of_ble_eq_true rfl) dM_init_45 (fun H locs Y => ?_)
  have Y : us_Y D A [(a0, .inr (1, [.int 0, .int 0, .int 0, .int 0, .ref q1, .ref q2, .ref q3, .ref q4, .ref q5, .null, .null])), (q1, .inl (cI, 363, .inl (fun _ => 0))), (q2, .inl (cI, 7200, .inl (fun _ => 0))), (q3, .inl (cZ, 363, .inl (fun _ => 0))), (q4, .inl (cZ, 7200, .inl (fun _ => 0))), (q5, .inl (cI, 20, .inl (fun _ => 0)))] s H locs := Y
  refine lv_aload_n X.x X.b dM_init_48 rfl (lv_at hl 0 rfl) ?_
  refine lv_bipush (v := nI 20) X.x X.b dM_init_49 (by decide) ?_
  refine us_new2 (atype := .int) (ty := .int) X Y mB_arr_int rfl 0 rfl us_ria (by decide) rfl (by decide) (by decide) (by decide) dM_init_51 (fun q6 H Y => ?_)
  have Y : us_Y D A [(a0, .inr (1, [.int 0, .int 0, .int 0, .int 0, .ref q1, .ref q2, .ref q3, .ref q4, .ref q5, .null, .null])), (q1, .inl (cI, 363, .inl (fun _ => 0))), (q2, .inl (cI, 7200, .inl (fun _ => 0))), (q3, .inl (cZ, 363, .inl (fun _ => 0))), (q4, .inl (cZ, 7200, .inl (fun _ => 0))), (q5, .inl (cI, 20, .inl (fun _ => 0))), (q6, .inl (cI, 20, .inl (fun _ => 0)))] s H locs := Y
  refine us_pMF X Y hin 0 rfl 9 (by decide) mB_fl_M_26 rfl rfl rfl rfl (Nat.le_of_ble_eq_true rfl) dM_init_53 (fun H locs Y => ?_)
  have Y : us_Y D A [(a0, .inr (1, [.int 0, .int 0, .int 0, .int 0, .ref q1, .ref q2, .ref q3, .ref q4, .ref q5, .ref q6, .null])), (q1, .inl (cI, 363, .inl (fun _ => 0))), (q2, .inl (cI, 7200, .inl (fun _ => 0))), (q3, .inl (cZ, 363, .inl (fun _ => 0))), (q4, .inl (cZ, 7200, .inl (fun _ => 0))), (q5, .inl (cI, 20, .inl (fun _ => 0))), (q6, .inl (cI, 20, .inl (fun _ => 0)))] s H locs := Y
  refine lv_aload_n X.x X.b dM_init_56 rfl (lv_at hl 0 rfl) ?_
  refine lv_bipush (v := nI 20) X.x X.b dM_init_57 (by decide) ?_
  refine us_new2 (atype := .int) (ty := .int) X Y mB_arr_int rfl 0 rfl us_ria (by decide) rfl (by decide) (by decide) (by decide) dM_init_59 (fun q7 H Y => ?_)
  have Y : us_Y D A [(a0, .inr (1, [.int 0, .int 0, .int 0, .int 0, .ref q1, .ref q2, .ref q3, .ref q4, .ref q5, .ref q6, .null])), (q1, .inl (cI, 363, .inl (fun _ => 0))), (q2, .inl (cI, 7200, .inl (fun _ => 0))), (q3, .inl (cZ, 363, .inl (fun _ => 0))), (q4, .inl (cZ, 7200, .inl (fun _ => 0))), (q5, .inl (cI, 20, .inl (fun _ => 0))), (q6, .inl (cI, 20, .inl (fun _ => 0))), (q7, .inl (cI, 20, .inl (fun _ => 0)))] s H locs := Y
  refine us_pMF X Y hin 0 rfl 10 (by decide) mB_fl_M_29 rfl rfl rfl rfl (Nat.le_of_ble_eq_true rfl) dM_init_61 (fun H locs Y => ?_)
  have Y : us_Y D A [(a0, .inr (1, [.int 0, .int 0, .int 0, .int 0, .ref q1, .ref q2, .ref q3, .ref q4, .ref q5, .ref q6, .ref q7])), (q1, .inl (cI, 363, .inl (fun _ => 0))), (q2, .inl (cI, 7200, .inl (fun _ => 0))), (q3, .inl (cZ, 363, .inl (fun _ => 0))), (q4, .inl (cZ, 7200, .inl (fun _ => 0))), (q5, .inl (cI, 20, .inl (fun _ => 0))), (q6, .inl (cI, 20, .inl (fun _ => 0))), (q7, .inl (cI, 20, .inl (fun _ => 0)))] s H locs := Y
  exact W.vret X.x X.b hr (fun t ht hW => ⟨⟨(us_ad a0 q1 q2 q3 q4 q5 q6 q7, cI, cZ), rfl, rfl, by rw [ht]; exact Y.1, va_K.moved hW.alike X.2.1, Y.2.1⟩, Y.2.2.F ht⟩) Y.2.2.2.2 dM_init_64 hlk
end
section
/-! 40.Mask (laid by wip/whole/gen/methods_m.py): the reference, private methods. -/
set_option maxHeartbeats 4000000 in
set_option maxRecDepth 100000 in
theorem k_M_thrown (l : Launch) (D : va_G) (ad : Nat → Nat) (cI cZ : ClassId) (sz : Nat) (th : Int32) (n np k : Nat) (V KV I KI PN KR KC : Nat → Int32)  : us_Ci l yM_thrown cM_thrown 1 (some .int) 0 0 [.ref (ad 0)] D (tyM cI cZ) (mW ad cI cZ th n np k V KV I KI PN KR KC) sz (fun r (_ : Unit) => r = th) (fun _ => mW ad cI cZ th n np k V KV I KI PN KR KC) := by
  refine us_enter (own := RM) rfl (by decide) (Nat.le_of_ble_eq_true rfl) ?_
  intro p e s m below meth c ls X Y hr hlk hl
  generalize va_A (mW ad cI cZ th n np k V KV I KI PN KR KC) sz = A at X Y ⊢
  have hl : lv_has ls 1 [(0, .ref (ad 0))] := hl
  refine lv_aload_n X.x X.b dM_thrown_0 rfl (lv_at hl 0 rfl) ?_
  refine us_gM X Y 0 rfl 0 (by decide) mB_fl_M_32 rfl dM_thrown_1 ?_
  exact us_iret (u := ()) X Y hr hlk rfl dM_thrown_4
set_option maxHeartbeats 4000000 in
set_option maxRecDepth 100000 in
theorem k_M_no (l : Launch) (D : va_G) (ad : Nat → Nat) (cI cZ : ClassId) (sz : Nat) (th : Int32) (n np k : Nat) (V KV I KI PN KR KC : Nat → Int32) (x : Int32) : us_Ci l yM_no cM_no 2 (some .int) 0 0 [.ref (ad 0), .int x] D (tyM cI cZ) (mW ad cI cZ th n np k V KV I KI PN KR KC) sz (fun _ (_ : Unit) => True) (fun _ => mW ad cI cZ x n np k V KV I KI PN KR KC) := by
  refine us_enter (own := RM) rfl (by decide) (Nat.le_of_ble_eq_true rfl) ?_
  intro p e s m below meth c ls X Y hr hlk hl
  generalize va_A (mW ad cI cZ th n np k V KV I KI PN KR KC) sz = A at X Y ⊢
  have hl : lv_has ls 2 [(0, .ref (ad 0)), (1, .int x)] := hl
  refine lv_aload_n X.x X.b dM_no_0 rfl (lv_at hl 0 rfl) ?_
  refine lv_iload_n X.x X.b dM_no_1 rfl (lv_at hl 1 rfl) ?_
  refine us_pM X Y 0 rfl 0 (by decide) mB_fl_M_32 rfl rfl rfl (Nat.le_of_ble_eq_true rfl) dM_no_2 (fun H locs Y => ?_)
  have Y : us_Y D A (mW ad cI cZ x n np k V KV I KI PN KR KC) s H locs := Y
  refine lv_iconst (v := nI 0) X.x X.b dM_no_5 (by decide) ?_
  exact us_iret (u := ()) X Y hr hlk trivial dM_no_6
set_option maxHeartbeats 4000000 in
set_option maxRecDepth 100000 in
theorem k_M_row (l : Launch) (D : va_G) (ad : Nat → Nat) (cI cZ : ClassId) (sz : Nat) (th : Int32) (n np k : Nat) (V KV I KI PN KR KC : Nat → Int32) (co : Nat) (v : Int32) (hn : n ≤ 120) (hco : co < 3) : us_Ci l yM_row cM_row 4 (some .int) 0 0 [.ref (ad 0), .int (nI co), .int v] D (tyM cI cZ) (mW ad cI cZ th n np k V KV I KI PN KR KC) sz (fun r (_ : Unit) => us_fd (us_tm V I) co v n r) (fun _ => mW ad cI cZ th n np k V KV I KI PN KR KC) := by
  refine us_enter (own := RM) rfl (by decide) (Nat.le_of_ble_eq_true rfl) ?_
  intro p e s m below meth c ls X Y hr hlk hl
  generalize va_A (mW ad cI cZ th n np k V KV I KI PN KR KC) sz = A at X Y ⊢
  have hl : lv_has ls 4 [(0, .ref (ad 0)), (1, .int (nI co)), (2, .int v)] := hl
  have loop : ∀ (d i : Nat) (H : Heap) (locs : List Loc) (ls : Array Slot), i + d = n → (∀ j, j < i → us_tm V I j co ≠ some v) → us_Y D A (mW ad cI cZ th n np k V KV I KI PN KR KC) s H locs → lv_has ls 4 [(3, .int (nI i)), (0, .ref (ad 0)), (1, .int (nI co)), (2, .int v)] → W p l e { frames := 0, cells := 0, slots := 0, locals := 0 } s m [.ref (ad 0), .int (nI co), .int v].toArray below meth c H locs 0 0 (us_Qi below (fun r (_ : Unit) => us_fd (us_tm V I) co v n r) D (tyM cI cZ) A (fun _ => mW ad cI cZ th n np k V KV I KI PN KR KC) [.ref (ad 0), .int (nI co), .int v] s) (F0 m 2 ls []) := by
    intro d
    induction d with
    | zero =>
      intro i H locs ls hi hno Y hl
      refine lv_iload_n X.x X.b dM_row_2 rfl (lv_at hl 0 rfl) ?_
      refine lv_aload_n X.x X.b dM_row_3 rfl (lv_at hl 1 rfl) ?_
      refine us_gM X Y 0 rfl 1 (by decide) mB_fl_M_36 rfl dM_row_4 ?_
      refine us_cge (tgt := 45) X (by omega) (by omega) dM_row_7 (by decide) (fun h1 => ?_) (fun h1 => ?_)
      · refine lv_iconst (v := (-1 : Int32)) X.x X.b dM_row_45 (by decide) ?_
        exact us_iret (u := ()) X Y hr hlk (Or.inr ⟨rfl, fun j hj => hno j (by omega)⟩) dM_row_46
      · exact absurd h1 (by omega)
    | succ d ih =>
      intro i H locs ls hi hno Y hl
      refine lv_iload_n X.x X.b dM_row_2 rfl (lv_at hl 0 rfl) ?_
      refine lv_aload_n X.x X.b dM_row_3 rfl (lv_at hl 1 rfl) ?_
      refine us_gM X Y 0 rfl 1 (by decide) mB_fl_M_36 rfl dM_row_4 ?_
      refine us_cge (tgt := 45) X (by omega) (by omega) dM_row_7 (by decide) (fun h1 => ?_) (fun h1 => ?_)
      · exact absurd h1 (by omega)
      · refine lv_aload_n X.x X.b dM_row_10 rfl (lv_at hl 1 rfl) ?_
        refine us_gM X Y 0 rfl 6 (by decide) mB_fl_M_16 rfl dM_row_11 ?_
        refine lv_iconst (v := nI 3) X.x X.b dM_row_14 (by decide) ?_
        refine lv_iload_n X.x X.b dM_row_15 rfl (lv_at hl 0 rfl) ?_
        refine us_imul X dM_row_16 ?_
        refine lv_iload_n X.x X.b dM_row_17 rfl (lv_at hl 2 rfl) ?_
        refine us_iadd X dM_row_18 ?_
        refine us_za X Y 3 1 rfl rfl (i := (3 * i) + co) (by omega) (by decide) dM_row_19 ?_
        refine lv_if_eq (tgt := 39) X.x X.b dM_row_20 (by decide) (fun h2 => ?_) (fun h2 => ?_)
        · refine lv_iinc (v := (nI (i + 1))) (lv' := [(3, .int (nI (i + 1))), (0, .ref (ad 0)), (1, .int (nI co)), (2, .int v)]) X.x X.b dM_row_39 hl (k := 0) rfl (us_inc _) (by decide) rfl (fun ls hl => ?_)
          refine lv_goto (tgt := 2) X.x X.b dM_row_42 (by decide) ?_
          exact ih (i + 1) H locs ls (by omega) (lt_s hno (us_tm_n h2)) Y hl
        · refine lv_aload_n X.x X.b dM_row_23 rfl (lv_at hl 1 rfl) ?_
          refine us_gM X Y 0 rfl 4 (by decide) mB_fl_M_9 rfl dM_row_24 ?_
          refine lv_iconst (v := nI 3) X.x X.b dM_row_27 (by decide) ?_
          refine lv_iload_n X.x X.b dM_row_28 rfl (lv_at hl 0 rfl) ?_
          refine us_imul X dM_row_29 ?_
          refine lv_iload_n X.x X.b dM_row_30 rfl (lv_at hl 2 rfl) ?_
          refine us_iadd X dM_row_31 ?_
          refine us_ia X Y 1 0 rfl rfl (i := (3 * i) + co) (by omega) (by decide) dM_row_32 ?_
          refine lv_iload_n X.x X.b dM_row_33 rfl (lv_at hl 3 rfl) ?_
          refine lv_icmp_ne (tgt := 39) X.x X.b dM_row_34 (by decide) (fun h3 => ?_) (fun h3 => ?_)
          · refine lv_iinc (v := (nI (i + 1))) (lv' := [(3, .int (nI (i + 1))), (0, .ref (ad 0)), (1, .int (nI co)), (2, .int v)]) X.x X.b dM_row_39 hl (k := 0) rfl (us_inc _) (by decide) rfl (fun ls hl => ?_)
            refine lv_goto (tgt := 2) X.x X.b dM_row_42 (by decide) ?_
            exact ih (i + 1) H locs ls (by omega) (lt_s hno (us_tm_v h2 h3)) Y hl
          · refine lv_iload_n X.x X.b dM_row_37 rfl (lv_at hl 0 rfl) ?_
            exact us_iret (u := ()) X Y hr hlk (Or.inl ⟨i, h1, rfl, us_tm_y h2 h3, hno⟩) dM_row_38
  refine lv_iconst (v := nI 0) X.x X.b dM_row_0 (by decide) ?_
  refine lv_istore_n (lv' := [(3, .int (nI 0)), (0, .ref (ad 0)), (1, .int (nI co)), (2, .int v)]) X.x X.b dM_row_1 rfl hl (by decide) rfl (fun ls hl => ?_)
  exact loop n 0 s.heap [] ls (by omega) lt_0 Y hl
set_option maxHeartbeats 4000000 in
set_option maxRecDepth 100000 in
theorem k_M_isFull (l : Launch) (D : va_G) (ad : Nat → Nat) (cI cZ : ClassId) (sz : Nat) (th : Int32) (n np k : Nat) (V KV I KI PN KR KC : Nat → Int32) (x : Nat) (hnp : np ≤ 20) (hk : k ≤ 200) (hx : x ≤ 120) : us_Ci l yM_isFull cM_isFull 2 (some .boolean) 0 0 [.ref (ad 0), .int (nI x)] D (tyM cI cZ) (mW ad cI cZ th n np k V KV I KI PN KR KC) sz (po_b (us_ful np k x)) (fun _ => mW ad cI cZ th n np k V KV I KI PN KR KC) := by
  refine us_enter (own := RM) rfl (by decide) (Nat.le_of_ble_eq_true rfl) ?_
  intro p e s m below meth c ls X Y hr hlk hl
  generalize va_A (mW ad cI cZ th n np k V KV I KI PN KR KC) sz = A at X Y ⊢
  have hl : lv_has ls 2 [(0, .ref (ad 0)), (1, .int (nI x))] := hl
  refine lv_aload_n X.x X.b dM_isFull_0 rfl (lv_at hl 0 rfl) ?_
  refine us_gM X Y 0 rfl 2 (by decide) mB_fl_M_39 rfl dM_isFull_1 ?_
  refine us_zle (tgt := 23) X (by omega) dM_isFull_4 (by decide) (fun h1 => ?_) (fun h1 => ?_)
  · refine lv_iconst (v := nI 0) X.x X.b dM_isFull_23 (by decide) ?_
    exact us_zret (u := ()) X Y hr hlk rfl (Or.inr ⟨rfl, us_ful.out (Or.inl h1)⟩) dM_isFull_24
  · refine lv_aload_n X.x X.b dM_isFull_7 rfl (lv_at hl 0 rfl) ?_
    refine us_gM X Y 0 rfl 3 (by decide) mB_fl_M_42 rfl dM_isFull_8 ?_
    refine lv_iload_n X.x X.b dM_isFull_11 rfl (lv_at hl 1 rfl) ?_
    refine us_iadd X dM_isFull_12 ?_
    refine lv_sipush (v := nI 200) X.x X.b dM_isFull_13 (by decide) ?_
    refine us_cle (tgt := 23) X (by omega) (by omega) dM_isFull_16 (by decide) (fun h2 => ?_) (fun h2 => ?_)
    · refine lv_iconst (v := nI 0) X.x X.b dM_isFull_23 (by decide) ?_
      exact us_zret (u := ()) X Y hr hlk rfl (Or.inr ⟨rfl, us_ful.out (Or.inr h2)⟩) dM_isFull_24
    · refine lv_iconst (v := nI 1) X.x X.b dM_isFull_19 (by decide) ?_
      refine lv_goto (tgt := 24) X.x X.b dM_isFull_20 (by decide) ?_
      exact us_zret (u := ()) X Y hr hlk rfl (Or.inl ⟨rfl, h1, h2⟩) dM_isFull_24
set_option maxHeartbeats 4000000 in
set_option maxRecDepth 100000 in
theorem k_M_changed (l : Launch) (D : va_G) (ad : Nat → Nat) (cI cZ : ClassId) (sz : Nat) (th : Int32) (n np k : Nat) (V KV I KI PN KR KC : Nat → Int32) (hnp : np ≤ 20) : us_Cv l yM_changed cM_changed 1 0 0 [.ref (ad 0)] D (tyM cI cZ) (mW ad cI cZ th n np k V KV I KI PN KR KC) sz (fun (_ : Unit) => True) (fun _ => mW ad cI cZ th n np (us_k1 np k) V KV I KI PN KR KC) := by
  by_cases hz : np = 0
  · rw [us_k1_z hz]
    refine us_enter (own := RM) rfl (by decide) (Nat.le_of_ble_eq_true rfl) ?_
    intro p e s m below meth c ls X Y hr hlk hl
    generalize va_A (mW ad cI cZ th n np k V KV I KI PN KR KC) sz = A at X Y ⊢
    have hl : lv_has ls 1 [(0, .ref (ad 0))] := hl
    refine lv_aload_n X.x X.b dM_changed_0 rfl (lv_at hl 0 rfl) ?_
    refine us_gM X Y 0 rfl 2 (by decide) mB_fl_M_39 rfl dM_changed_1 ?_
    refine us_zle (tgt := 17) X (by omega) dM_changed_4 (by decide) (fun h1 => ?_) (fun h1 => ?_)
    · exact us_vret (u := ()) X Y hr hlk trivial dM_changed_17
    · exact absurd hz (by omega)
  · rw [us_k1_n hz]
    refine us_enter (own := RM) rfl (by decide) (Nat.le_of_ble_eq_true rfl) ?_
    intro p e s m below meth c ls X Y hr hlk hl
    generalize va_A (mW ad cI cZ th n np k V KV I KI PN KR KC) sz = A at X Y ⊢
    have hl : lv_has ls 1 [(0, .ref (ad 0))] := hl
    refine lv_aload_n X.x X.b dM_changed_0 rfl (lv_at hl 0 rfl) ?_
    refine us_gM X Y 0 rfl 2 (by decide) mB_fl_M_39 rfl dM_changed_1 ?_
    refine us_zle (tgt := 17) X (by omega) dM_changed_4 (by decide) (fun h1 => ?_) (fun h1 => ?_)
    · exact absurd h1 hz
    · refine lv_aload_n X.x X.b dM_changed_7 rfl (lv_at hl 0 rfl) ?_
      refine lv_dup X.x X.b dM_changed_8 rfl ?_
      refine us_gM X Y 0 rfl 3 (by decide) mB_fl_M_42 rfl dM_changed_9 ?_
      refine lv_iconst (v := nI 1) X.x X.b dM_changed_12 (by decide) ?_
      refine us_iadd X dM_changed_13 ?_
      refine us_pM X Y 0 rfl 3 (by decide) mB_fl_M_42 rfl rfl rfl (Nat.le_of_ble_eq_true rfl) dM_changed_14 (fun H locs Y => ?_)
      have Y : us_Y D A (mW ad cI cZ th n np (k + 1) V KV I KI PN KR KC) s H locs := Y
      exact us_vret (u := ()) X Y hr hlk trivial dM_changed_17
set_option maxHeartbeats 4000000 in
set_option maxRecDepth 100000 in
theorem k_M_isRow (l : Launch) (D : va_G) (ad : Nat → Nat) (cI cZ : ClassId) (sz : Nat) (th : Int32) (n np k : Nat) (V KV I KI PN KR KC : Nat → Int32) (x : Int32) (hn : n ≤ 120) : us_Ci l yM_isRow cM_isRow 2 (some .boolean) 0 0 [.ref (ad 0), .int x] D (tyM cI cZ) (mW ad cI cZ th n np k V KV I KI PN KR KC) sz (po_b (∃ i, i < n ∧ x = nI i)) (fun _ => mW ad cI cZ th n np k V KV I KI PN KR KC) := by
  refine us_enter (own := RM) rfl (by decide) (Nat.le_of_ble_eq_true rfl) ?_
  intro p e s m below meth c ls X Y hr hlk hl
  generalize va_A (mW ad cI cZ th n np k V KV I KI PN KR KC) sz = A at X Y ⊢
  have hl : lv_has ls 2 [(0, .ref (ad 0)), (1, .int x)] := hl
  refine lv_iload_n X.x X.b dM_isRow_0 rfl (lv_at hl 1 rfl) ?_
  refine lv_if_lt (tgt := 16) X.x X.b dM_isRow_1 (by decide) (fun h1 => ?_) (fun h1 => ?_)
  · refine lv_iconst (v := nI 0) X.x X.b dM_isRow_16 (by decide) ?_
    exact us_zret (u := ()) X Y hr hlk rfl (Or.inr ⟨rfl, fun ⟨i, h2, h3⟩ => nI_pos (n := i) (by omega) (h3 ▸ h1)⟩) dM_isRow_17
  · refine lv_iload_n X.x X.b dM_isRow_4 rfl (lv_at hl 1 rfl) ?_
    refine lv_aload_n X.x X.b dM_isRow_5 rfl (lv_at hl 0 rfl) ?_
    refine us_gM X Y 0 rfl 1 (by decide) mB_fl_M_36 rfl dM_isRow_6 ?_
    refine lv_icmp_ge (tgt := 16) X.x X.b dM_isRow_9 (by decide) (fun h2 => ?_) (fun h2 => ?_)
    · refine lv_iconst (v := nI 0) X.x X.b dM_isRow_16 (by decide) ?_
      exact us_zret (u := ()) X Y hr hlk rfl (Or.inr ⟨rfl, fun ⟨i, h3, h4⟩ => absurd h2 (by rw [h4]; exact nI_ge h3 (by omega))⟩) dM_isRow_17
    · refine lv_iconst (v := nI 1) X.x X.b dM_isRow_12 (by decide) ?_
      refine lv_goto (tgt := 17) X.x X.b dM_isRow_13 (by decide) ?_
      exact us_zret (u := ()) X Y hr hlk rfl (Or.inl ⟨rfl, us_lt3 h1 h2⟩) dM_isRow_17
set_option maxHeartbeats 4000000 in
set_option maxRecDepth 100000 in
theorem k_M_take (l : Launch) (D : va_G) (ad : Nat → Nat) (cI cZ : ClassId) (sz : Nat) (th : Int32) (n np k : Nat) (V KV I KI PN KR KC : Nat → Int32) (r : Nat) (hn : n ≤ 120) (hr0 : r < n) (hnp : np ≤ 20) (hI : ∀ j, I j = 0 ∨ I j = 1) : us_Cv l yM_take cM_take 3 1 20 [.ref (ad 0), .int (nI r)] D (tyM cI cZ) (mW ad cI cZ th n np k V KV I KI PN KR KC) sz (fun (_ : Unit) => True) (fun _ => mW ad cI cZ th (n - 1) np (us_k1 np k) (us_tk V r (3 * (n - 1))) KV (us_tk I r (3 * (n - 1))) KI PN KR KC) := by
  refine us_enter (own := RM) rfl (by decide) (Nat.le_of_ble_eq_true rfl) ?_
  intro p e s m below meth c ls X Y hr hlk hl
  generalize va_A (mW ad cI cZ th n np k V KV I KI PN KR KC) sz = A at X Y ⊢
  have hl : lv_has ls 3 [(0, .ref (ad 0)), (1, .int (nI r))] := hl
  have loop : ∀ (d j : Nat) (H : Heap) (locs : List Loc) (ls : Array Slot), j + d = 3 * (n - 1) → 3 * r ≤ j → us_Y D A (mW ad cI cZ th (n - 1) np k (us_tk V r j) KV (us_tk I r j) KI PN KR KC) s H locs → lv_has ls 3 [(2, .int (nI j)), (0, .ref (ad 0)), (1, .int (nI r))] → W p l e { frames := 1, cells := 0, slots := 0, locals := 20 } s m [.ref (ad 0), .int (nI r)].toArray below meth c H locs 0 0 (us_Qv below (fun (_ : Unit) => True) D (tyM cI cZ) A (fun _ => mW ad cI cZ th (n - 1) np (us_k1 np k) (us_tk V r (3 * (n - 1))) KV (us_tk I r (3 * (n - 1))) KI PN KR KC) [.ref (ad 0), .int (nI r)] s) (F0 m 14 ls []) := by
    intro d
    induction d with
    | zero =>
      intro j H locs ls hj hj2 Y hl
      have ej : j = 3 * (n - 1) := by omega
      subst ej
      refine lv_iload_n X.x X.b dM_take_14 rfl (lv_at hl 0 rfl) ?_
      refine lv_iconst (v := nI 3) X.x X.b dM_take_15 (by decide) ?_
      refine lv_aload_n X.x X.b dM_take_16 rfl (lv_at hl 1 rfl) ?_
      refine us_gM X Y 0 rfl 1 (by decide) mB_fl_M_36 rfl dM_take_17 ?_
      refine us_imul X dM_take_20 ?_
      refine us_cge (tgt := 58) X (by omega) (by omega) dM_take_21 (by decide) (fun h1 => ?_) (fun h1 => ?_)
      · refine lv_aload_n X.x X.b dM_take_58 rfl (lv_at hl 1 rfl) ?_
        refine us_vv (rest := []) X Y (k_M_changed l D ad cI cZ H.size th (n - 1) np k ((us_tk V r (3 * (n - 1)))) KV ((us_tk I r (3 * (n - 1)))) KI PN KR KC hnp) us_I8 0 rfl rfl cv_M_57 rfl ⟨by decide, by decide⟩ ⟨by decide, by decide⟩ hl.1 rfl (Nat.le_of_ble_eq_true rfl) dM_take_59 (fun u H locs _ Y => ?_)
        have Y : us_Y D A (mW ad cI cZ th (n - 1) np (us_k1 np k) ((us_tk V r (3 * (n - 1)))) KV ((us_tk I r (3 * (n - 1)))) KI PN KR KC) s H locs := Y
        exact us_vret (u := ()) X Y hr hlk trivial dM_take_62
      · exact absurd h1 (by omega)
    | succ d ih =>
      intro j H locs ls hj hj2 Y hl
      refine lv_iload_n X.x X.b dM_take_14 rfl (lv_at hl 0 rfl) ?_
      refine lv_iconst (v := nI 3) X.x X.b dM_take_15 (by decide) ?_
      refine lv_aload_n X.x X.b dM_take_16 rfl (lv_at hl 1 rfl) ?_
      refine us_gM X Y 0 rfl 1 (by decide) mB_fl_M_36 rfl dM_take_17 ?_
      refine us_imul X dM_take_20 ?_
      refine us_cge (tgt := 58) X (by omega) (by omega) dM_take_21 (by decide) (fun h1 => ?_) (fun h1 => ?_)
      · exact absurd h1 (by omega)
      · refine lv_aload_n X.x X.b dM_take_24 rfl (lv_at hl 1 rfl) ?_
        refine us_gM X Y 0 rfl 6 (by decide) mB_fl_M_16 rfl dM_take_25 ?_
        refine lv_iload_n X.x X.b dM_take_28 rfl (lv_at hl 0 rfl) ?_
        refine lv_aload_n X.x X.b dM_take_29 rfl (lv_at hl 1 rfl) ?_
        refine us_gM X Y 0 rfl 6 (by decide) mB_fl_M_16 rfl dM_take_30 ?_
        refine lv_iload_n X.x X.b dM_take_33 rfl (lv_at hl 0 rfl) ?_
        refine lv_iconst (v := nI 3) X.x X.b dM_take_34 (by decide) ?_
        refine us_iadd X dM_take_35 ?_
        refine us_za X Y 3 1 rfl rfl (i := j + 3) (by omega) (by decide) dM_take_36 ?_
        refine us_zs X Y 3 1 rfl rfl (i := j) (by omega) (by decide) dM_take_37 (fun H locs Y => ?_)
        have Y : us_Y D A (mW ad cI cZ th (n - 1) np k ((us_tk V r j)) KV ((upd (us_tk I r j) j (vp_nar .boolean ((us_tk I r j) (j + 3))))) KI PN KR KC) s H locs := Y
        refine lv_aload_n X.x X.b dM_take_38 rfl (lv_at hl 1 rfl) ?_
        refine us_gM X Y 0 rfl 4 (by decide) mB_fl_M_9 rfl dM_take_39 ?_
        refine lv_iload_n X.x X.b dM_take_42 rfl (lv_at hl 0 rfl) ?_
        refine lv_aload_n X.x X.b dM_take_43 rfl (lv_at hl 1 rfl) ?_
        refine us_gM X Y 0 rfl 4 (by decide) mB_fl_M_9 rfl dM_take_44 ?_
        refine lv_iload_n X.x X.b dM_take_47 rfl (lv_at hl 0 rfl) ?_
        refine lv_iconst (v := nI 3) X.x X.b dM_take_48 (by decide) ?_
        refine us_iadd X dM_take_49 ?_
        refine us_ia X Y 1 0 rfl rfl (i := j + 3) (by omega) (by decide) dM_take_50 ?_
        refine us_is X Y 1 0 rfl rfl (i := j) (by omega) (by decide) dM_take_51 (fun H locs Y => ?_)
        have Y : us_Y D A (mW ad cI cZ th (n - 1) np k ((upd (us_tk V r j) j ((us_tk V r j) (j + 3)))) KV ((upd (us_tk I r j) j (vp_nar .boolean ((us_tk I r j) (j + 3))))) KI PN KR KC) s H locs := Y
        rw [us_tk_r, us_tk_r, us_nb (hI _), us_tk_s hj2, us_tk_s hj2] at Y
        refine lv_iinc (v := (nI (j + 1))) (lv' := [(2, .int (nI (j + 1))), (0, .ref (ad 0)), (1, .int (nI r))]) X.x X.b dM_take_52 hl (k := 0) rfl (us_inc _) (by decide) rfl (fun ls hl => ?_)
        refine lv_goto (tgt := 14) X.x X.b dM_take_55 (by decide) ?_
        exact ih (j + 1) H locs ls (by omega) (by omega) Y hl
  refine lv_aload_n X.x X.b dM_take_0 rfl (lv_at hl 0 rfl) ?_
  refine lv_dup X.x X.b dM_take_1 rfl ?_
  refine us_gM X Y 0 rfl 1 (by decide) mB_fl_M_36 rfl dM_take_2 ?_
  refine lv_iconst (v := nI 1) X.x X.b dM_take_5 (by decide) ?_
  refine us_isub X (by omega) dM_take_6 ?_
  refine us_pM X Y 0 rfl 1 (by decide) mB_fl_M_36 rfl rfl rfl (Nat.le_of_ble_eq_true rfl) dM_take_7 (fun H locs Y => ?_)
  have Y : us_Y D A (mW ad cI cZ th (n - 1) np k V KV I KI PN KR KC) s H locs := Y
  refine lv_iconst (v := nI 3) X.x X.b dM_take_10 (by decide) ?_
  refine lv_iload_n X.x X.b dM_take_11 rfl (lv_at hl 1 rfl) ?_
  refine us_imul X dM_take_12 ?_
  refine lv_istore_n (lv' := [(2, .int (nI (3 * r))), (0, .ref (ad 0)), (1, .int (nI r))]) X.x X.b dM_take_13 rfl hl (by decide) rfl (fun ls hl => ?_)
  exact loop (3 * (n - 1) - 3 * r) (3 * r) H locs ls (by omega) (Nat.le_refl _) (by rw [us_tk_0, us_tk_0]; exact Y) hl
set_option maxHeartbeats 4000000 in
set_option maxRecDepth 100000 in
theorem k_M_point (l : Launch) (D : va_G) (ad : Nat → Nat) (cI cZ : ClassId) (sz : Nat) (th : Int32) (n np k : Nat) (V KV I KI PN KR KC : Nat → Int32) (x : Int32) (hnp : np ≤ 20) : us_Ci l yM_point cM_point 3 (some .int) 0 0 [.ref (ad 0), .int x] D (tyM cI cZ) (mW ad cI cZ th n np k V KV I KI PN KR KC) sz (fun r (u : Int32) => (∃ q, q < np ∧ r = nI q ∧ PN q = x ∧ (∀ t, q < t → t < np → PN t ≠ x) ∧ u = nI 0) ∨ (r = -1 ∧ (∀ t, t < np → PN t ≠ x) ∧ u = nI 1)) (fun u => mW ad cI cZ u n np k V KV I KI PN KR KC) := by
  refine us_enter (own := RM) rfl (by decide) (Nat.le_of_ble_eq_true rfl) ?_
  intro p e s m below meth c ls X Y hr hlk hl
  generalize va_A (mW ad cI cZ th n np k V KV I KI PN KR KC) sz = A at X Y ⊢
  have hl : lv_has ls 3 [(0, .ref (ad 0)), (1, .int x)] := hl
  have loop : ∀ (d : Nat) (H : Heap) (locs : List Loc) (ls : Array Slot), d ≤ np → (∀ q, d ≤ q → q < np → PN q ≠ x) → us_Y D A (mW ad cI cZ th n np k V KV I KI PN KR KC) s H locs → lv_has ls 3 [(2, .int (nI d - 1)), (0, .ref (ad 0)), (1, .int x)] → W p l e { frames := 0, cells := 0, slots := 0, locals := 0 } s m [.ref (ad 0), .int x].toArray below meth c H locs 0 0 (us_Qi below (fun r (u : Int32) => (∃ q, q < np ∧ r = nI q ∧ PN q = x ∧ (∀ t, q < t → t < np → PN t ≠ x) ∧ u = nI 0) ∨ (r = -1 ∧ (∀ t, t < np → PN t ≠ x) ∧ u = nI 1)) D (tyM cI cZ) A (fun u => mW ad cI cZ u n np k V KV I KI PN KR KC) [.ref (ad 0), .int x] s) (F0 m 7 ls []) := by
    intro d
    induction d with
    | zero =>
      intro H locs ls hd hno Y hl
      refine lv_iload_n X.x X.b dM_point_7 rfl (lv_at hl 0 rfl) ?_
      refine lv_if_lt (tgt := 27) X.x X.b dM_point_8 (by decide) (fun h1 => ?_) (fun h1 => ?_)
      · refine lv_aload_n X.x X.b dM_point_27 rfl (lv_at hl 1 rfl) ?_
        refine lv_iload_n X.x X.b dM_point_28 rfl (lv_at hl 0 rfl) ?_
        refine lv_if_ge (tgt := 36) X.x X.b dM_point_29 (by decide) (fun h2 => ?_) (fun h2 => ?_)
        · exact absurd h2 (by decide)
        · refine lv_iconst (v := nI 1) X.x X.b dM_point_32 (by decide) ?_
          refine lv_goto (tgt := 37) X.x X.b dM_point_33 (by decide) ?_
          refine us_pM X Y 0 rfl 0 (by decide) mB_fl_M_32 rfl rfl rfl (Nat.le_of_ble_eq_true rfl) dM_point_37 (fun H locs Y => ?_)
          have Y : us_Y D A (mW ad cI cZ (nI 1) n np k V KV I KI PN KR KC) s H locs := Y
          refine lv_iload_n X.x X.b dM_point_40 rfl (lv_at hl 0 rfl) ?_
          exact us_iret (u := nI 1) X Y hr hlk (Or.inr ⟨rfl, fun t ht => hno t (by omega) ht, rfl⟩) dM_point_41
      · exact absurd (by decide) h1
    | succ d ih =>
      intro H locs ls hd hno Y hl
      rw [nI_pred] at hl
      refine lv_iload_n X.x X.b dM_point_7 rfl (lv_at hl 0 rfl) ?_
      refine lv_if_lt (tgt := 27) X.x X.b dM_point_8 (by decide) (fun h1 => ?_) (fun h1 => ?_)
      · exact absurd h1 (nI_pos (by omega))
      · refine lv_aload_n X.x X.b dM_point_11 rfl (lv_at hl 1 rfl) ?_
        refine us_gM X Y 0 rfl 8 (by decide) mB_fl_M_23 rfl dM_point_12 ?_
        refine lv_iload_n X.x X.b dM_point_15 rfl (lv_at hl 0 rfl) ?_
        refine us_ia X Y 5 0 rfl rfl (i := d) (by omega) (by decide) dM_point_16 ?_
        refine lv_iload_n X.x X.b dM_point_17 rfl (lv_at hl 2 rfl) ?_
        refine lv_icmp_eq (tgt := 27) X.x X.b dM_point_18 (by decide) (fun h2 => ?_) (fun h2 => ?_)
        · refine lv_aload_n X.x X.b dM_point_27 rfl (lv_at hl 1 rfl) ?_
          refine lv_iload_n X.x X.b dM_point_28 rfl (lv_at hl 0 rfl) ?_
          refine lv_if_ge (tgt := 36) X.x X.b dM_point_29 (by decide) (fun h3 => ?_) (fun h3 => ?_)
          · refine lv_iconst (v := nI 0) X.x X.b dM_point_36 (by decide) ?_
            refine us_pM X Y 0 rfl 0 (by decide) mB_fl_M_32 rfl rfl rfl (Nat.le_of_ble_eq_true rfl) dM_point_37 (fun H locs Y => ?_)
            have Y : us_Y D A (mW ad cI cZ (nI 0) n np k V KV I KI PN KR KC) s H locs := Y
            refine lv_iload_n X.x X.b dM_point_40 rfl (lv_at hl 0 rfl) ?_
            exact us_iret (u := nI 0) X Y hr hlk (Or.inl ⟨d, by omega, rfl, h2, fun q h3 h4 => hno q (by omega) h4, rfl⟩) dM_point_41
          · exact absurd (nI_pos' (by omega)) h3
        · refine lv_iinc (v := (nI d - 1)) (lv' := [(2, .int (nI d - 1)), (0, .ref (ad 0)), (1, .int x)]) X.x X.b dM_point_21 hl (k := 0) rfl (us_dec _) (by decide) rfl (fun ls hl => ?_)
          refine lv_goto (tgt := 7) X.x X.b dM_point_24 (by decide) ?_
          exact ih H locs ls (by omega) (fun q h3 h4 => by rcases Nat.lt_or_ge d q with e | e; exact hno q e h4; rw [show q = d by omega]; exact h2) Y hl
  refine lv_aload_n X.x X.b dM_point_0 rfl (lv_at hl 0 rfl) ?_
  refine us_gM X Y 0 rfl 2 (by decide) mB_fl_M_39 rfl dM_point_1 ?_
  refine lv_iconst (v := (1 : Int32)) X.x X.b dM_point_4 (by decide) ?_
  refine lv_isub X.x X.b dM_point_5 ?_
  refine lv_istore_n (lv' := [(2, .int ((nI np) - ((1 : Int32)))), (0, .ref (ad 0)), (1, .int x)]) X.x X.b dM_point_6 rfl hl (by decide) rfl (fun ls hl => ?_)
  exact loop np s.heap [] ls (Nat.le_refl _) (fun q h1 h2 => absurd h2 (by omega)) Y hl
set_option maxHeartbeats 4000000 in
set_option maxRecDepth 100000 in
theorem k_M_nones (l : Launch) (D : va_G) (ad : Nat → Nat) (cI cZ : ClassId) (sz : Nat) (th : Int32) (n np k : Nat) (V KV I KI PN KR KC : Nat → Int32) (co : Nat) (hn : n ≤ 120) (hco : co < 3) : us_Ci l yM_nones cM_nones 4 (some .int) 0 0 [.ref (ad 0), .int (nI co)] D (tyM cI cZ) (mW ad cI cZ th n np k V KV I KI PN KR KC) sz (fun r (_ : Unit) => r = nI (us_cn (us_tm V I) co n)) (fun _ => mW ad cI cZ th n np k V KV I KI PN KR KC) := by
  refine us_enter (own := RM) rfl (by decide) (Nat.le_of_ble_eq_true rfl) ?_
  intro p e s m below meth c ls X Y hr hlk hl
  generalize va_A (mW ad cI cZ th n np k V KV I KI PN KR KC) sz = A at X Y ⊢
  have hl : lv_has ls 4 [(0, .ref (ad 0)), (1, .int (nI co))] := hl
  have loop : ∀ (d i : Nat) (H : Heap) (locs : List Loc) (ls : Array Slot), i + d = n → us_Y D A (mW ad cI cZ th n np k V KV I KI PN KR KC) s H locs → lv_has ls 4 [(3, .int (nI i)), (2, .int (nI (us_cn (us_tm V I) co i))), (0, .ref (ad 0)), (1, .int (nI co))] → W p l e { frames := 0, cells := 0, slots := 0, locals := 0 } s m [.ref (ad 0), .int (nI co)].toArray below meth c H locs 0 0 (us_Qi below (fun r (_ : Unit) => r = nI (us_cn (us_tm V I) co n)) D (tyM cI cZ) A (fun _ => mW ad cI cZ th n np k V KV I KI PN KR KC) [.ref (ad 0), .int (nI co)] s) (F0 m 4 ls []) := by
    intro d
    induction d with
    | zero =>
      intro i H locs ls hi Y hl
      refine lv_iload_n X.x X.b dM_nones_4 rfl (lv_at hl 0 rfl) ?_
      refine lv_aload_n X.x X.b dM_nones_5 rfl (lv_at hl 2 rfl) ?_
      refine us_gM X Y 0 rfl 1 (by decide) mB_fl_M_36 rfl dM_nones_6 ?_
      refine us_cge (tgt := 34) X (by omega) (by omega) dM_nones_9 (by decide) (fun h1 => ?_) (fun h1 => ?_)
      · refine lv_iload_n X.x X.b dM_nones_34 rfl (lv_at hl 1 rfl) ?_
        exact us_iret (u := ()) X Y hr hlk (by rw [show n = i by omega]) dM_nones_35
      · exact absurd h1 (by omega)
    | succ d ih =>
      intro i H locs ls hi Y hl
      refine lv_iload_n X.x X.b dM_nones_4 rfl (lv_at hl 0 rfl) ?_
      refine lv_aload_n X.x X.b dM_nones_5 rfl (lv_at hl 2 rfl) ?_
      refine us_gM X Y 0 rfl 1 (by decide) mB_fl_M_36 rfl dM_nones_6 ?_
      refine us_cge (tgt := 34) X (by omega) (by omega) dM_nones_9 (by decide) (fun h1 => ?_) (fun h1 => ?_)
      · exact absurd h1 (by omega)
      · refine lv_aload_n X.x X.b dM_nones_12 rfl (lv_at hl 2 rfl) ?_
        refine us_gM X Y 0 rfl 6 (by decide) mB_fl_M_16 rfl dM_nones_13 ?_
        refine lv_iconst (v := nI 3) X.x X.b dM_nones_16 (by decide) ?_
        refine lv_iload_n X.x X.b dM_nones_17 rfl (lv_at hl 0 rfl) ?_
        refine us_imul X dM_nones_18 ?_
        refine lv_iload_n X.x X.b dM_nones_19 rfl (lv_at hl 3 rfl) ?_
        refine us_iadd X dM_nones_20 ?_
        refine us_za X Y 3 1 rfl rfl (i := (3 * i) + co) (by omega) (by decide) dM_nones_21 ?_
        refine lv_if_ne (tgt := 28) X.x X.b dM_nones_22 (by decide) (fun h2 => ?_) (fun h2 => ?_)
        · have hw : ¬ us_tm V I i co = none := by rw [us_tm_1 h2]; exact fun z => nomatch z
          refine lv_iinc (v := (nI (i + 1))) (lv' := [(3, .int (nI (i + 1))), (2, .int (nI (us_cn (us_tm V I) co i))), (0, .ref (ad 0)), (1, .int (nI co))]) X.x X.b dM_nones_28 hl (k := 0) rfl (us_inc _) (by decide) rfl (fun ls hl => ?_)
          refine lv_goto (tgt := 4) X.x X.b dM_nones_31 (by decide) ?_
          rw [← us_cn_0 hw] at hl
          exact ih (i + 1) H locs ls (by omega) Y hl
        · have hw : us_tm V I i co = none := us_tm_0 h2
          refine lv_iinc (v := (nI ((us_cn (us_tm V I) co i) + 1))) (lv' := [(2, .int (nI ((us_cn (us_tm V I) co i) + 1))), (3, .int (nI i)), (0, .ref (ad 0)), (1, .int (nI co))]) X.x X.b dM_nones_25 hl (k := 1) rfl (us_inc _) (by decide) rfl (fun ls hl => ?_)
          refine lv_iinc (v := (nI (i + 1))) (lv' := [(3, .int (nI (i + 1))), (2, .int (nI ((us_cn (us_tm V I) co i) + 1))), (0, .ref (ad 0)), (1, .int (nI co))]) X.x X.b dM_nones_28 hl (k := 1) rfl (us_inc _) (by decide) rfl (fun ls hl => ?_)
          refine lv_goto (tgt := 4) X.x X.b dM_nones_31 (by decide) ?_
          rw [← us_cn_1 hw] at hl
          exact ih (i + 1) H locs ls (by omega) Y hl
  refine lv_iconst (v := nI 0) X.x X.b dM_nones_0 (by decide) ?_
  refine lv_istore_n (lv' := [(2, .int (nI 0)), (0, .ref (ad 0)), (1, .int (nI co))]) X.x X.b dM_nones_1 rfl hl (by decide) rfl (fun ls hl => ?_)
  refine lv_iconst (v := nI 0) X.x X.b dM_nones_2 (by decide) ?_
  refine lv_istore_n (lv' := [(3, .int (nI 0)), (2, .int (nI 0)), (0, .ref (ad 0)), (1, .int (nI co))]) X.x X.b dM_nones_3 rfl hl (by decide) rfl (fun ls hl => ?_)
  exact loop n 0 s.heap [] ls (by omega) Y hl
end
section
/-! 41.Mpub (laid by wip/whole/gen/methods_m.py): the reference, insert and set. -/
set_option maxHeartbeats 4000000 in
set_option maxRecDepth 100000 in
theorem k_M_insert (l : Launch) (D : va_G) (ad : Nat → Nat) (cI cZ : ClassId) (sz : Nat) (th : Int32) (n np k : Nat) (V KV I KI PN KR KC : Nat → Int32) (T : us_T) (nm : Nat → Int32) (sn : Nat → Nat) (sT : Nat → us_T) (sk : Nat → Nat) (hM : us_M n T k np nm sn sT sk V KV I KI PN KR KC) (va vb vc vh : Int32) : us_Ci l yM_insert cM_insert 7 (some .int) 1 23 [.ref (ad 0), .int va, .int vb, .int vc, .int vh] D (tyM cI cZ) (mW ad cI cZ th n np k V KV I KI PN KR KC) sz (fun r (u : us_SM) => ∃ cd n' T' k', us_iR n T k np va vb vc vh cd r n' T' k' ∧ us_ms u (nI cd) n' T' k' np nm sn sT sk) (fun (u : us_SM) => mWS ad cI cZ u) := by
  refine us_enter (own := RM) rfl (by decide) (Nat.le_of_ble_eq_true rfl) ?_
  intro p e s m below meth c ls X Y hr hlk hl
  generalize va_A (mW ad cI cZ th n np k V KV I KI PN KR KC) sz = A at X Y ⊢
  have hl : lv_has ls 7 [(0, .ref (ad 0)), (1, .int va), (2, .int vb), (3, .int vc), (4, .int vh)] := hl
  have h1n := hM.1
  have h1p := hM.2.1
  have h1k := hM.2.2.1
  have h4 := hM.2.2.2.1
  have hI := hM.2.2.2.2.1
  have hKI := hM.2.2.2.2.2.1
  refine lv_iload X.x X.b dM_insert_0 (lv_at hl 4 rfl) ?_
  refine lv_if_lt (tgt := 12) X.x X.b dM_insert_2 (by decide) (fun h1 => ?_) (fun h1 => ?_)
  · refine lv_aload_n X.x X.b dM_insert_12 rfl (lv_at hl 0 rfl) ?_
    refine lv_iconst (v := nI 1) X.x X.b dM_insert_13 (by decide) ?_
    refine us_vi (rest := []) X Y (k_M_no l D ad cI cZ s.heap.size th n np k V KV I KI PN KR KC (nI 1)) us_I8 0 rfl rfl cv_M_45 rfl ⟨by decide, by decide⟩ ⟨by decide, by decide⟩ hl.1 rfl (Nat.le_of_ble_eq_true rfl) dM_insert_14 (fun rr u H locs _ Y => ?_)
    have Y : us_Y D A (mW ad cI cZ (nI 1) n np k V KV I KI PN KR KC) s H locs := Y
    exact us_iret (u := ((nI 1), n, np, k, V, KV, I, KI, PN, KR, KC)) X Y hr hlk (⟨1, n, T, k, Or.inl ⟨rfl, fun ⟨j, h3, h4⟩ => nI_pos (n := j) (by omega) (h4 ▸ h1), rfl, rfl, rfl⟩, rfl, rfl, rfl, rfl, hM⟩) dM_insert_17
  · refine lv_iload X.x X.b dM_insert_5 (lv_at hl 4 rfl) ?_
    refine lv_bipush (v := nI 7) X.x X.b dM_insert_7 (by decide) ?_
    refine lv_icmp_le (tgt := 18) X.x X.b dM_insert_9 (by decide) (fun h2 => ?_) (fun h2 => ?_)
    · obtain ⟨j, hj, rfl⟩ := us_le2 (by decide) h1 h2
      have hok : us_ok (nI j) := ⟨j, hj, rfl⟩
      have tail : ∀ (H : Heap) (locs : List Loc) (ls : Array Slot), ¬ us_icf n T k np va vb (nI j) → us_Y D A (mW ad cI cZ th n np k V KV I KI PN KR KC) s H locs → lv_has ls 7 [(0, .ref (ad 0)), (1, .int va), (2, .int vb), (3, .int vc), (4, .int (nI j))] → W p l e { frames := 1, cells := 0, slots := 0, locals := 23 } s m [.ref (ad 0), .int va, .int vb, .int vc, .int (nI j)].toArray below meth c H locs 0 0 (us_Qi below (fun r (u : us_SM) => ∃ cd n' T' k', us_iR n T k np va vb vc (nI j) cd r n' T' k' ∧ us_ms u (nI cd) n' T' k' np nm sn sT sk) D (tyM cI cZ) A (fun (u : us_SM) => mWS ad cI cZ u) [.ref (ad 0), .int va, .int vb, .int vc, .int (nI j)] s) (F0 m 71 ls []) := by
        intro H locs ls hcf Y hl
        have hful : ¬ us_ful np k 1 := fun z => hcf (Or.inr (Or.inl z))
        have hnn : n < 120 := by have : n ≠ 120 := fun z => hcf (Or.inl z); omega
        refine lv_iconst (v := nI 0) X.x X.b dM_insert_71 (by decide) ?_
        refine lv_istore (lv' := [(5, .int (nI 0)), (0, .ref (ad 0)), (1, .int va), (2, .int vb), (3, .int vc), (4, .int (nI j))]) X.x X.b dM_insert_72 hl (by decide) rfl (fun ls hl => ?_)
        refine lv_iload X.x X.b dM_insert_74 (lv_at hl 0 rfl) ?_
        refine us_eq0 (tgt := 85) X dM_insert_76 (by decide) ?_
        refine lv_aload_n X.x X.b dM_insert_85 rfl (lv_at hl 1 rfl) ?_
        refine lv_iconst (v := nI 0) X.x X.b dM_insert_86 (by decide) ?_
        refine us_pM X Y 0 rfl 0 (by decide) mB_fl_M_32 rfl rfl rfl (Nat.le_of_ble_eq_true rfl) dM_insert_87 (fun H locs Y => ?_)
        have Y : us_Y D A (mW ad cI cZ (nI 0) n np k V KV I KI PN KR KC) s H locs := Y
        refine lv_iconst (v := nI 0) X.x X.b dM_insert_90 (by decide) ?_
        refine lv_istore (lv' := [(6, .int (nI 0)), (5, .int (nI 0)), (0, .ref (ad 0)), (1, .int va), (2, .int vb), (3, .int vc), (4, .int (nI j))]) X.x X.b dM_insert_91 hl (by decide) rfl (fun ls hl => ?_)
        refine lv_iload X.x X.b dM_insert_93 (lv_at hl 0 rfl) ?_
        refine lv_iconst (v := nI 3) X.x X.b dM_insert_95 (by decide) ?_
        refine us_cge (tgt := 168) X (by decide) (by decide) dM_insert_96 (by decide) (fun h0 => absurd h0 (by decide)) (fun _ => ?_)
        refine lv_aload_n X.x X.b dM_insert_99 rfl (lv_at hl 2 rfl) ?_
        refine us_gM X Y 0 rfl 6 (by decide) mB_fl_M_16 rfl dM_insert_100 ?_
        refine lv_iconst (v := nI 3) X.x X.b dM_insert_103 (by decide) ?_
        refine lv_aload_n X.x X.b dM_insert_104 rfl (lv_at hl 2 rfl) ?_
        refine us_gM X Y 0 rfl 1 (by decide) mB_fl_M_36 rfl dM_insert_105 ?_
        refine us_imul X dM_insert_108 ?_
        refine lv_iload X.x X.b dM_insert_109 (lv_at hl 0 rfl) ?_
        refine us_iadd X dM_insert_111 ?_
        refine lv_iload X.x X.b dM_insert_112 (lv_at hl 6 rfl) ?_
        refine lv_iload X.x X.b dM_insert_114 (lv_at hl 0 rfl) ?_
        refine lv_ishr X.x X.b dM_insert_116 ?_
        refine lv_iconst (v := (1 : Int32)) X.x X.b dM_insert_117 (by decide) ?_
        refine lv_iand X.x X.b dM_insert_118 ?_
        refine us_beq (t := 126) X dM_insert_119 (by decide) dM_insert_122 dM_insert_123 (by decide) dM_insert_126 (fun y0 hy0 => ?_)
        refine us_zs X Y 3 1 rfl rfl (i := (3 * n) + 0) (by omega) (by decide) dM_insert_127 (fun H locs Y => ?_)
        have Y : us_Y D A (mW ad cI cZ (nI 0) n np k V KV ((upd I ((3 * n) + 0) (vp_nar .boolean y0))) KI PN KR KC) s H locs := Y
        refine lv_aload_n X.x X.b dM_insert_128 rfl (lv_at hl 2 rfl) ?_
        refine us_gM X Y 0 rfl 4 (by decide) mB_fl_M_9 rfl dM_insert_129 ?_
        refine lv_iconst (v := nI 3) X.x X.b dM_insert_132 (by decide) ?_
        refine lv_aload_n X.x X.b dM_insert_133 rfl (lv_at hl 2 rfl) ?_
        refine us_gM X Y 0 rfl 1 (by decide) mB_fl_M_36 rfl dM_insert_134 ?_
        refine us_imul X dM_insert_137 ?_
        refine lv_iload X.x X.b dM_insert_138 (lv_at hl 0 rfl) ?_
        refine us_iadd X dM_insert_140 ?_
        refine lv_iload X.x X.b dM_insert_141 (lv_at hl 0 rfl) ?_
        refine us_ne0 (tgt := 150) X dM_insert_143 (by decide) ?_
        refine lv_iload_n X.x X.b dM_insert_146 rfl (lv_at hl 3 rfl) ?_
        refine lv_goto (tgt := 161) X.x X.b dM_insert_147 (by decide) ?_
        refine us_is X Y 1 0 rfl rfl (i := (3 * n) + 0) (by omega) (by decide) dM_insert_161 (fun H locs Y => ?_)
        have Y : us_Y D A (mW ad cI cZ (nI 0) n np k ((upd V ((3 * n) + 0) va)) KV ((upd I ((3 * n) + 0) (vp_nar .boolean y0))) KI PN KR KC) s H locs := Y
        refine lv_iinc (v := (nI 1)) (lv' := [(6, .int (nI 1)), (5, .int (nI 0)), (0, .ref (ad 0)), (1, .int va), (2, .int vb), (3, .int vc), (4, .int (nI j))]) X.x X.b dM_insert_162 hl (k := 0) rfl (us_inc _) (by decide) rfl (fun ls hl => ?_)
        refine lv_goto (tgt := 93) X.x X.b dM_insert_165 (by decide) ?_
        refine lv_iload X.x X.b dM_insert_93 (lv_at hl 0 rfl) ?_
        refine lv_iconst (v := nI 3) X.x X.b dM_insert_95 (by decide) ?_
        refine us_cge (tgt := 168) X (by decide) (by decide) dM_insert_96 (by decide) (fun h0 => absurd h0 (by decide)) (fun _ => ?_)
        refine lv_aload_n X.x X.b dM_insert_99 rfl (lv_at hl 2 rfl) ?_
        refine us_gM X Y 0 rfl 6 (by decide) mB_fl_M_16 rfl dM_insert_100 ?_
        refine lv_iconst (v := nI 3) X.x X.b dM_insert_103 (by decide) ?_
        refine lv_aload_n X.x X.b dM_insert_104 rfl (lv_at hl 2 rfl) ?_
        refine us_gM X Y 0 rfl 1 (by decide) mB_fl_M_36 rfl dM_insert_105 ?_
        refine us_imul X dM_insert_108 ?_
        refine lv_iload X.x X.b dM_insert_109 (lv_at hl 0 rfl) ?_
        refine us_iadd X dM_insert_111 ?_
        refine lv_iload X.x X.b dM_insert_112 (lv_at hl 6 rfl) ?_
        refine lv_iload X.x X.b dM_insert_114 (lv_at hl 0 rfl) ?_
        refine lv_ishr X.x X.b dM_insert_116 ?_
        refine lv_iconst (v := (1 : Int32)) X.x X.b dM_insert_117 (by decide) ?_
        refine lv_iand X.x X.b dM_insert_118 ?_
        refine us_beq (t := 126) X dM_insert_119 (by decide) dM_insert_122 dM_insert_123 (by decide) dM_insert_126 (fun y1 hy1 => ?_)
        refine us_zs X Y 3 1 rfl rfl (i := (3 * n) + 1) (by omega) (by decide) dM_insert_127 (fun H locs Y => ?_)
        have Y : us_Y D A (mW ad cI cZ (nI 0) n np k ((upd V ((3 * n) + 0) va)) KV ((upd (upd I ((3 * n) + 0) (vp_nar .boolean y0)) ((3 * n) + 1) (vp_nar .boolean y1))) KI PN KR KC) s H locs := Y
        refine lv_aload_n X.x X.b dM_insert_128 rfl (lv_at hl 2 rfl) ?_
        refine us_gM X Y 0 rfl 4 (by decide) mB_fl_M_9 rfl dM_insert_129 ?_
        refine lv_iconst (v := nI 3) X.x X.b dM_insert_132 (by decide) ?_
        refine lv_aload_n X.x X.b dM_insert_133 rfl (lv_at hl 2 rfl) ?_
        refine us_gM X Y 0 rfl 1 (by decide) mB_fl_M_36 rfl dM_insert_134 ?_
        refine us_imul X dM_insert_137 ?_
        refine lv_iload X.x X.b dM_insert_138 (lv_at hl 0 rfl) ?_
        refine us_iadd X dM_insert_140 ?_
        refine lv_iload X.x X.b dM_insert_141 (lv_at hl 0 rfl) ?_
        refine us_ne1 (tgt := 150) X dM_insert_143 (by decide) ?_
        refine lv_iload X.x X.b dM_insert_150 (lv_at hl 0 rfl) ?_
        refine lv_iconst (v := nI 1) X.x X.b dM_insert_152 (by decide) ?_
        refine us_cne (tgt := 160) X (by decide) (by decide) dM_insert_153 (by decide) (fun h0 => absurd h0 (by decide)) (fun _ => ?_)
        refine lv_iload_n X.x X.b dM_insert_156 rfl (lv_at hl 4 rfl) ?_
        refine lv_goto (tgt := 161) X.x X.b dM_insert_157 (by decide) ?_
        refine us_is X Y 1 0 rfl rfl (i := (3 * n) + 1) (by omega) (by decide) dM_insert_161 (fun H locs Y => ?_)
        have Y : us_Y D A (mW ad cI cZ (nI 0) n np k ((upd (upd V ((3 * n) + 0) va) ((3 * n) + 1) vb)) KV ((upd (upd I ((3 * n) + 0) (vp_nar .boolean y0)) ((3 * n) + 1) (vp_nar .boolean y1))) KI PN KR KC) s H locs := Y
        refine lv_iinc (v := (nI 2)) (lv' := [(6, .int (nI 2)), (5, .int (nI 0)), (0, .ref (ad 0)), (1, .int va), (2, .int vb), (3, .int vc), (4, .int (nI j))]) X.x X.b dM_insert_162 hl (k := 0) rfl (us_inc _) (by decide) rfl (fun ls hl => ?_)
        refine lv_goto (tgt := 93) X.x X.b dM_insert_165 (by decide) ?_
        refine lv_iload X.x X.b dM_insert_93 (lv_at hl 0 rfl) ?_
        refine lv_iconst (v := nI 3) X.x X.b dM_insert_95 (by decide) ?_
        refine us_cge (tgt := 168) X (by decide) (by decide) dM_insert_96 (by decide) (fun h0 => absurd h0 (by decide)) (fun _ => ?_)
        refine lv_aload_n X.x X.b dM_insert_99 rfl (lv_at hl 2 rfl) ?_
        refine us_gM X Y 0 rfl 6 (by decide) mB_fl_M_16 rfl dM_insert_100 ?_
        refine lv_iconst (v := nI 3) X.x X.b dM_insert_103 (by decide) ?_
        refine lv_aload_n X.x X.b dM_insert_104 rfl (lv_at hl 2 rfl) ?_
        refine us_gM X Y 0 rfl 1 (by decide) mB_fl_M_36 rfl dM_insert_105 ?_
        refine us_imul X dM_insert_108 ?_
        refine lv_iload X.x X.b dM_insert_109 (lv_at hl 0 rfl) ?_
        refine us_iadd X dM_insert_111 ?_
        refine lv_iload X.x X.b dM_insert_112 (lv_at hl 6 rfl) ?_
        refine lv_iload X.x X.b dM_insert_114 (lv_at hl 0 rfl) ?_
        refine lv_ishr X.x X.b dM_insert_116 ?_
        refine lv_iconst (v := (1 : Int32)) X.x X.b dM_insert_117 (by decide) ?_
        refine lv_iand X.x X.b dM_insert_118 ?_
        refine us_beq (t := 126) X dM_insert_119 (by decide) dM_insert_122 dM_insert_123 (by decide) dM_insert_126 (fun y2 hy2 => ?_)
        refine us_zs X Y 3 1 rfl rfl (i := (3 * n) + 2) (by omega) (by decide) dM_insert_127 (fun H locs Y => ?_)
        have Y : us_Y D A (mW ad cI cZ (nI 0) n np k ((upd (upd V ((3 * n) + 0) va) ((3 * n) + 1) vb)) KV ((upd (upd (upd I ((3 * n) + 0) (vp_nar .boolean y0)) ((3 * n) + 1) (vp_nar .boolean y1)) ((3 * n) + 2) (vp_nar .boolean y2))) KI PN KR KC) s H locs := Y
        refine lv_aload_n X.x X.b dM_insert_128 rfl (lv_at hl 2 rfl) ?_
        refine us_gM X Y 0 rfl 4 (by decide) mB_fl_M_9 rfl dM_insert_129 ?_
        refine lv_iconst (v := nI 3) X.x X.b dM_insert_132 (by decide) ?_
        refine lv_aload_n X.x X.b dM_insert_133 rfl (lv_at hl 2 rfl) ?_
        refine us_gM X Y 0 rfl 1 (by decide) mB_fl_M_36 rfl dM_insert_134 ?_
        refine us_imul X dM_insert_137 ?_
        refine lv_iload X.x X.b dM_insert_138 (lv_at hl 0 rfl) ?_
        refine us_iadd X dM_insert_140 ?_
        refine lv_iload X.x X.b dM_insert_141 (lv_at hl 0 rfl) ?_
        refine us_zne (tgt := 150) X (by decide) dM_insert_143 (by decide) (fun _ => ?_) (fun h0 => absurd h0 (by decide))
        refine lv_iload X.x X.b dM_insert_150 (lv_at hl 0 rfl) ?_
        refine lv_iconst (v := nI 1) X.x X.b dM_insert_152 (by decide) ?_
        refine us_cne (tgt := 160) X (by decide) (by decide) dM_insert_153 (by decide) (fun _ => ?_) (fun h0 => absurd h0 (by decide))
        refine lv_iload_n X.x X.b dM_insert_160 rfl (lv_at hl 5 rfl) ?_
        refine us_is X Y 1 0 rfl rfl (i := (3 * n) + 2) (by omega) (by decide) dM_insert_161 (fun H locs Y => ?_)
        have Y : us_Y D A (mW ad cI cZ (nI 0) n np k ((upd (upd (upd V ((3 * n) + 0) va) ((3 * n) + 1) vb) ((3 * n) + 2) vc)) KV ((upd (upd (upd I ((3 * n) + 0) (vp_nar .boolean y0)) ((3 * n) + 1) (vp_nar .boolean y1)) ((3 * n) + 2) (vp_nar .boolean y2))) KI PN KR KC) s H locs := Y
        refine lv_iinc (v := (nI 3)) (lv' := [(6, .int (nI 3)), (5, .int (nI 0)), (0, .ref (ad 0)), (1, .int va), (2, .int vb), (3, .int vc), (4, .int (nI j))]) X.x X.b dM_insert_162 hl (k := 0) rfl (us_inc _) (by decide) rfl (fun ls hl => ?_)
        refine lv_goto (tgt := 93) X.x X.b dM_insert_165 (by decide) ?_
        refine lv_iload X.x X.b dM_insert_93 (lv_at hl 0 rfl) ?_
        refine lv_iconst (v := nI 3) X.x X.b dM_insert_95 (by decide) ?_
        refine us_cge (tgt := 168) X (by decide) (by decide) dM_insert_96 (by decide) (fun _ => ?_) (fun h0 => absurd h0 (by decide))
        refine lv_aload_n X.x X.b dM_insert_168 rfl (lv_at hl 2 rfl) ?_
        refine lv_dup X.x X.b dM_insert_169 rfl ?_
        refine us_gM X Y 0 rfl 1 (by decide) mB_fl_M_36 rfl dM_insert_170 ?_
        refine lv_iconst (v := nI 1) X.x X.b dM_insert_173 (by decide) ?_
        refine us_iadd X dM_insert_174 ?_
        refine us_pM X Y 0 rfl 1 (by decide) mB_fl_M_36 rfl rfl rfl (Nat.le_of_ble_eq_true rfl) dM_insert_175 (fun H locs Y => ?_)
        have Y : us_Y D A (mW ad cI cZ (nI 0) (n + 1) np k ((upd (upd (upd V ((3 * n) + 0) va) ((3 * n) + 1) vb) ((3 * n) + 2) vc)) KV ((upd (upd (upd I ((3 * n) + 0) (vp_nar .boolean y0)) ((3 * n) + 1) (vp_nar .boolean y1)) ((3 * n) + 2) (vp_nar .boolean y2))) KI PN KR KC) s H locs := Y
        refine lv_aload_n X.x X.b dM_insert_178 rfl (lv_at hl 2 rfl) ?_
        refine us_vv (rest := []) X Y (k_M_changed l D ad cI cZ H.size (nI 0) (n + 1) np k ((upd (upd (upd V ((3 * n) + 0) va) ((3 * n) + 1) vb) ((3 * n) + 2) vc)) KV ((upd (upd (upd I ((3 * n) + 0) (vp_nar .boolean y0)) ((3 * n) + 1) (vp_nar .boolean y1)) ((3 * n) + 2) (vp_nar .boolean y2))) KI PN KR KC h1p) us_I8 0 rfl rfl cv_M_57 rfl ⟨by decide, by decide⟩ ⟨by decide, by decide⟩ hl.1 rfl (Nat.le_of_ble_eq_true rfl) dM_insert_179 (fun u H locs _ Y => ?_)
        have Y : us_Y D A (mW ad cI cZ (nI 0) (n + 1) np (us_k1 np k) ((upd (upd (upd V ((3 * n) + 0) va) ((3 * n) + 1) vb) ((3 * n) + 2) vc)) KV ((upd (upd (upd I ((3 * n) + 0) (vp_nar .boolean y0)) ((3 * n) + 1) (vp_nar .boolean y1)) ((3 * n) + 2) (vp_nar .boolean y2))) KI PN KR KC) s H locs := Y
        refine lv_aload_n X.x X.b dM_insert_182 rfl (lv_at hl 2 rfl) ?_
        refine us_gM X Y 0 rfl 1 (by decide) mB_fl_M_36 rfl dM_insert_183 ?_
        refine lv_iconst (v := nI 1) X.x X.b dM_insert_186 (by decide) ?_
        refine us_isub X (by omega) dM_insert_187 ?_
        exact us_iret (u := ((nI 0), (n + 1), np, (us_k1 np k), ((upd (upd (upd V ((3 * n) + 0) va) ((3 * n) + 1) vb) ((3 * n) + 2) vc)), KV, ((upd (upd (upd I ((3 * n) + 0) (vp_nar .boolean y0)) ((3 * n) + 1) (vp_nar .boolean y1)) ((3 * n) + 2) (vp_nar .boolean y2))), KI, PN, KR, KC)) X Y hr hlk (⟨0, n + 1, _, _, Or.inr (Or.inr ⟨rfl, hok, hcf, rfl, rfl, rfl, rfl⟩), rfl, rfl, rfl, rfl, hM.tab (by omega) (us_k1_le h1k hful) ((us_putM (us_hb hj (by decide) hy0) (us_hb hj (by decide) hy1) (us_hb hj (by decide) hy2)).tr (us_set_top h4)) (us_bool_upd (us_bool_upd (us_bool_upd hI (us_y01 hy0)) (us_y01 hy1)) (us_y01 hy2))⟩) dM_insert_188
      refine lv_aload_n X.x X.b dM_insert_18 rfl (lv_at hl 0 rfl) ?_
      refine us_gM X Y 0 rfl 1 (by decide) mB_fl_M_36 rfl dM_insert_19 ?_
      refine lv_bipush (v := nI 120) X.x X.b dM_insert_22 (by decide) ?_
      refine us_ceq (tgt := 67) X (by omega) (by omega) dM_insert_24 (by decide) (fun h3 => ?_) (fun h3 => ?_)
      · refine lv_iconst (v := nI 1) X.x X.b dM_insert_67 (by decide) ?_
        refine lv_goto (tgt := 72) X.x X.b dM_insert_68 (by decide) ?_
        refine lv_istore (lv' := [(5, .int (nI 1)), (0, .ref (ad 0)), (1, .int va), (2, .int vb), (3, .int vc), (4, .int (nI j))]) X.x X.b dM_insert_72 hl (by decide) rfl (fun ls hl => ?_)
        refine lv_iload X.x X.b dM_insert_74 (lv_at hl 0 rfl) ?_
        refine us_eq1 (tgt := 85) X dM_insert_76 (by decide) ?_
        refine lv_aload_n X.x X.b dM_insert_79 rfl (lv_at hl 1 rfl) ?_
        refine lv_iconst (v := nI 2) X.x X.b dM_insert_80 (by decide) ?_
        refine us_vi (rest := []) X Y (k_M_no l D ad cI cZ s.heap.size th n np k V KV I KI PN KR KC (nI 2)) us_I8 0 rfl rfl cv_M_45 rfl ⟨by decide, by decide⟩ ⟨by decide, by decide⟩ hl.1 rfl (Nat.le_of_ble_eq_true rfl) dM_insert_81 (fun rr u H locs _ Y => ?_)
        have Y : us_Y D A (mW ad cI cZ (nI 2) n np k V KV I KI PN KR KC) s H locs := Y
        exact us_iret (u := ((nI 2), n, np, k, V, KV, I, KI, PN, KR, KC)) X Y hr hlk (⟨2, n, T, k, Or.inr (Or.inl ⟨rfl, hok, Or.inl h3, rfl, rfl, rfl⟩), rfl, rfl, rfl, rfl, hM⟩) dM_insert_84
      · refine lv_aload_n X.x X.b dM_insert_27 rfl (lv_at hl 0 rfl) ?_
        refine lv_iconst (v := nI 1) X.x X.b dM_insert_28 (by decide) ?_
        refine us_vi (rest := []) X Y (k_M_isFull l D ad cI cZ s.heap.size th n np k V KV I KI PN KR KC 1 h1p h1k (by decide)) us_I8 0 rfl rfl cv_M_49 rfl ⟨by decide, by decide⟩ ⟨by decide, by decide⟩ hl.1 rfl (Nat.le_of_ble_eq_true rfl) dM_insert_29 (fun rr u H locs g1 Y => ?_)
        have Y : us_Y D A (mW ad cI cZ th n np k V KV I KI PN KR KC) s H locs := Y
        rcases g1 with ⟨rfl, g1⟩ | ⟨rfl, g1⟩
        · refine us_ne1 (tgt := 67) X dM_insert_32 (by decide) ?_
          refine lv_iconst (v := nI 1) X.x X.b dM_insert_67 (by decide) ?_
          refine lv_goto (tgt := 72) X.x X.b dM_insert_68 (by decide) ?_
          refine lv_istore (lv' := [(5, .int (nI 1)), (0, .ref (ad 0)), (1, .int va), (2, .int vb), (3, .int vc), (4, .int (nI j))]) X.x X.b dM_insert_72 hl (by decide) rfl (fun ls hl => ?_)
          refine lv_iload X.x X.b dM_insert_74 (lv_at hl 0 rfl) ?_
          refine us_eq1 (tgt := 85) X dM_insert_76 (by decide) ?_
          refine lv_aload_n X.x X.b dM_insert_79 rfl (lv_at hl 1 rfl) ?_
          refine lv_iconst (v := nI 2) X.x X.b dM_insert_80 (by decide) ?_
          refine us_vi (rest := []) X Y (k_M_no l D ad cI cZ H.size th n np k V KV I KI PN KR KC (nI 2)) us_I8 0 rfl rfl cv_M_45 rfl ⟨by decide, by decide⟩ ⟨by decide, by decide⟩ hl.1 rfl (Nat.le_of_ble_eq_true rfl) dM_insert_81 (fun rr u H locs _ Y => ?_)
          have Y : us_Y D A (mW ad cI cZ (nI 2) n np k V KV I KI PN KR KC) s H locs := Y
          exact us_iret (u := ((nI 2), n, np, k, V, KV, I, KI, PN, KR, KC)) X Y hr hlk (⟨2, n, T, k, Or.inr (Or.inl ⟨rfl, hok, Or.inr (Or.inl g1), rfl, rfl, rfl⟩), rfl, rfl, rfl, rfl, hM⟩) dM_insert_84
        · refine us_ne0 (tgt := 67) X dM_insert_32 (by decide) ?_
          refine lv_iload X.x X.b dM_insert_35 (lv_at hl 4 rfl) ?_
          refine lv_iconst (v := (1 : Int32)) X.x X.b dM_insert_37 (by decide) ?_
          refine lv_iand X.x X.b dM_insert_38 ?_
          refine lv_if_eq (tgt := 67) X.x X.b dM_insert_39 (by decide) (fun h5 => ?_) (fun h5 => ?_)
          · refine lv_iconst (v := nI 1) X.x X.b dM_insert_67 (by decide) ?_
            refine lv_goto (tgt := 72) X.x X.b dM_insert_68 (by decide) ?_
            refine lv_istore (lv' := [(5, .int (nI 1)), (0, .ref (ad 0)), (1, .int va), (2, .int vb), (3, .int vc), (4, .int (nI j))]) X.x X.b dM_insert_72 hl (by decide) rfl (fun ls hl => ?_)
            refine lv_iload X.x X.b dM_insert_74 (lv_at hl 0 rfl) ?_
            refine us_eq1 (tgt := 85) X dM_insert_76 (by decide) ?_
            refine lv_aload_n X.x X.b dM_insert_79 rfl (lv_at hl 1 rfl) ?_
            refine lv_iconst (v := nI 2) X.x X.b dM_insert_80 (by decide) ?_
            refine us_vi (rest := []) X Y (k_M_no l D ad cI cZ H.size th n np k V KV I KI PN KR KC (nI 2)) us_I8 0 rfl rfl cv_M_45 rfl ⟨by decide, by decide⟩ ⟨by decide, by decide⟩ hl.1 rfl (Nat.le_of_ble_eq_true rfl) dM_insert_81 (fun rr u H locs _ Y => ?_)
            have Y : us_Y D A (mW ad cI cZ (nI 2) n np k V KV I KI PN KR KC) s H locs := Y
            exact us_iret (u := ((nI 2), n, np, k, V, KV, I, KI, PN, KR, KC)) X Y hr hlk (⟨2, n, T, k, Or.inr (Or.inl ⟨rfl, hok, Or.inr (Or.inr (Or.inl h5)), rfl, rfl, rfl⟩), rfl, rfl, rfl, rfl, hM⟩) dM_insert_84
          · refine lv_aload_n X.x X.b dM_insert_42 rfl (lv_at hl 0 rfl) ?_
            refine lv_iconst (v := nI 0) X.x X.b dM_insert_43 (by decide) ?_
            refine lv_iload_n X.x X.b dM_insert_44 rfl (lv_at hl 1 rfl) ?_
            refine us_vi (rest := []) X Y (k_M_row l D ad cI cZ H.size th n np k V KV I KI PN KR KC 0 va h1n (by decide)) us_I8 0 rfl rfl cv_M_53 rfl ⟨by decide, by decide⟩ ⟨by decide, by decide⟩ hl.1 rfl (Nat.le_of_ble_eq_true rfl) dM_insert_45 (fun rr u H locs r1 Y => ?_)
            have Y : us_Y D A (mW ad cI cZ th n np k V KV I KI PN KR KC) s H locs := Y
            refine lv_if_ge (tgt := 67) X.x X.b dM_insert_48 (by decide) (fun h6 => ?_) (fun h6 => ?_)
            · refine lv_iconst (v := nI 1) X.x X.b dM_insert_67 (by decide) ?_
              refine lv_goto (tgt := 72) X.x X.b dM_insert_68 (by decide) ?_
              refine lv_istore (lv' := [(5, .int (nI 1)), (0, .ref (ad 0)), (1, .int va), (2, .int vb), (3, .int vc), (4, .int (nI j))]) X.x X.b dM_insert_72 hl (by decide) rfl (fun ls hl => ?_)
              refine lv_iload X.x X.b dM_insert_74 (lv_at hl 0 rfl) ?_
              refine us_eq1 (tgt := 85) X dM_insert_76 (by decide) ?_
              refine lv_aload_n X.x X.b dM_insert_79 rfl (lv_at hl 1 rfl) ?_
              refine lv_iconst (v := nI 2) X.x X.b dM_insert_80 (by decide) ?_
              refine us_vi (rest := []) X Y (k_M_no l D ad cI cZ H.size th n np k V KV I KI PN KR KC (nI 2)) us_I8 0 rfl rfl cv_M_45 rfl ⟨by decide, by decide⟩ ⟨by decide, by decide⟩ hl.1 rfl (Nat.le_of_ble_eq_true rfl) dM_insert_81 (fun rr u H locs _ Y => ?_)
              have Y : us_Y D A (mW ad cI cZ (nI 2) n np k V KV I KI PN KR KC) s H locs := Y
              exact us_iret (u := ((nI 2), n, np, k, V, KV, I, KI, PN, KR, KC)) X Y hr hlk (⟨2, n, T, k, Or.inr (Or.inl ⟨rfl, hok, Or.inr (Or.inr (Or.inr (Or.inl (us_all2 (by omega) (by decide) h4 r1 h6)))), rfl, rfl, rfl⟩), rfl, rfl, rfl, rfl, hM⟩) dM_insert_84
            · refine lv_iload X.x X.b dM_insert_51 (lv_at hl 4 rfl) ?_
              refine lv_iconst (v := (2 : Int32)) X.x X.b dM_insert_53 (by decide) ?_
              refine lv_iand X.x X.b dM_insert_54 ?_
              refine lv_if_eq (tgt := 71) X.x X.b dM_insert_55 (by decide) (fun h7 => ?_) (fun h7 => ?_)
              · exact tail H locs ls (fun z => by rcases z with z | z | z | z | z; exact h3 z; exact g1 z; exact h5 z; exact us_ex_no (us_all_eq (by decide) h4 ((r1.neg (by omega)).mp (us_neg h6))) z; exact z.1 h7) Y hl
              · refine lv_aload_n X.x X.b dM_insert_58 rfl (lv_at hl 0 rfl) ?_
                refine lv_iconst (v := nI 1) X.x X.b dM_insert_59 (by decide) ?_
                refine lv_iload_n X.x X.b dM_insert_60 rfl (lv_at hl 2 rfl) ?_
                refine us_vi (rest := []) X Y (k_M_row l D ad cI cZ H.size th n np k V KV I KI PN KR KC 1 vb h1n (by decide)) us_I8 0 rfl rfl cv_M_53 rfl ⟨by decide, by decide⟩ ⟨by decide, by decide⟩ hl.1 rfl (Nat.le_of_ble_eq_true rfl) dM_insert_61 (fun rr u H locs r2 Y => ?_)
                have Y : us_Y D A (mW ad cI cZ th n np k V KV I KI PN KR KC) s H locs := Y
                refine lv_if_lt (tgt := 71) X.x X.b dM_insert_64 (by decide) (fun h8 => ?_) (fun h8 => ?_)
                · exact tail H locs ls (fun z => by rcases z with z | z | z | z | z; exact h3 z; exact g1 z; exact h5 z; exact us_ex_no (us_all_eq (by decide) h4 ((r1.neg (by omega)).mp (us_neg h6))) z; exact us_ex_no (us_all_eq (by decide) h4 ((r2.neg (by omega)).mp h8)) z.2) Y hl
                · refine lv_iconst (v := nI 1) X.x X.b dM_insert_67 (by decide) ?_
                  refine lv_goto (tgt := 72) X.x X.b dM_insert_68 (by decide) ?_
                  refine lv_istore (lv' := [(5, .int (nI 1)), (0, .ref (ad 0)), (1, .int va), (2, .int vb), (3, .int vc), (4, .int (nI j))]) X.x X.b dM_insert_72 hl (by decide) rfl (fun ls hl => ?_)
                  refine lv_iload X.x X.b dM_insert_74 (lv_at hl 0 rfl) ?_
                  refine us_eq1 (tgt := 85) X dM_insert_76 (by decide) ?_
                  refine lv_aload_n X.x X.b dM_insert_79 rfl (lv_at hl 1 rfl) ?_
                  refine lv_iconst (v := nI 2) X.x X.b dM_insert_80 (by decide) ?_
                  refine us_vi (rest := []) X Y (k_M_no l D ad cI cZ H.size th n np k V KV I KI PN KR KC (nI 2)) us_I8 0 rfl rfl cv_M_45 rfl ⟨by decide, by decide⟩ ⟨by decide, by decide⟩ hl.1 rfl (Nat.le_of_ble_eq_true rfl) dM_insert_81 (fun rr u H locs _ Y => ?_)
                  have Y : us_Y D A (mW ad cI cZ (nI 2) n np k V KV I KI PN KR KC) s H locs := Y
                  exact us_iret (u := ((nI 2), n, np, k, V, KV, I, KI, PN, KR, KC)) X Y hr hlk (⟨2, n, T, k, Or.inr (Or.inl ⟨rfl, hok, Or.inr (Or.inr (Or.inr (Or.inr ⟨h7, us_all2 (by omega) (by decide) h4 r2 (Int32.not_lt.mp h8)⟩))), rfl, rfl, rfl⟩), rfl, rfl, rfl, rfl, hM⟩) dM_insert_84
    · refine lv_aload_n X.x X.b dM_insert_12 rfl (lv_at hl 0 rfl) ?_
      refine lv_iconst (v := nI 1) X.x X.b dM_insert_13 (by decide) ?_
      refine us_vi (rest := []) X Y (k_M_no l D ad cI cZ s.heap.size th n np k V KV I KI PN KR KC (nI 1)) us_I8 0 rfl rfl cv_M_45 rfl ⟨by decide, by decide⟩ ⟨by decide, by decide⟩ hl.1 rfl (Nat.le_of_ble_eq_true rfl) dM_insert_14 (fun rr u H locs _ Y => ?_)
      have Y : us_Y D A (mW ad cI cZ (nI 1) n np k V KV I KI PN KR KC) s H locs := Y
      exact us_iret (u := ((nI 1), n, np, k, V, KV, I, KI, PN, KR, KC)) X Y hr hlk (⟨1, n, T, k, Or.inl ⟨rfl, fun ⟨j, h3, h4⟩ => h2 (by rw [h4]; exact nI_le (by omega) (by decide)), rfl, rfl, rfl⟩, rfl, rfl, rfl, rfl, hM⟩) dM_insert_17
set_option maxHeartbeats 4000000 in
set_option maxRecDepth 100000 in
theorem k_M_set (l : Launch) (D : va_G) (ad : Nat → Nat) (cI cZ : ClassId) (sz : Nat) (th : Int32) (n np k : Nat) (V KV I KI PN KR KC : Nat → Int32) (T : us_T) (nm : Nat → Int32) (sn : Nat → Nat) (sT : Nat → us_T) (sk : Nat → Nat) (hM : us_M n T k np nm sn sT sk V KV I KI PN KR KC) (vr vco vv vz : Int32) : us_Cv l yM_set cM_set 6 1 23 [.ref (ad 0), .int vr, .int vco, .int vv, .int vz] D (tyM cI cZ) (mW ad cI cZ th n np k V KV I KI PN KR KC) sz (fun (u : us_SM) => ∃ cd T' k', us_sR n T k np vr vco vv vz cd T' k' ∧ us_ms u (nI cd) n T' k' np nm sn sT sk) (fun (u : us_SM) => mWS ad cI cZ u) := by
  refine us_enter (own := RM) rfl (by decide) (Nat.le_of_ble_eq_true rfl) ?_
  intro p e s m below meth c ls X Y hr hlk hl
  generalize va_A (mW ad cI cZ th n np k V KV I KI PN KR KC) sz = A at X Y ⊢
  have hl : lv_has ls 6 [(0, .ref (ad 0)), (1, .int vr), (2, .int vco), (3, .int vv), (4, .int vz)] := hl
  have h1n := hM.1
  have h1p := hM.2.1
  have h1k := hM.2.2.1
  have h4 := hM.2.2.2.1
  have hI := hM.2.2.2.2.1
  have hKI := hM.2.2.2.2.2.1
  refine lv_aload_n X.x X.b dM_set_0 rfl (lv_at hl 0 rfl) ?_
  refine lv_iload_n X.x X.b dM_set_1 rfl (lv_at hl 2 rfl) ?_
  refine lv_if_lt (tgt := 10) X.x X.b dM_set_2 (by decide) (fun h1 => ?_) (fun h1 => ?_)
  · refine lv_iconst (v := nI 1) X.x X.b dM_set_10 (by decide) ?_
    refine lv_goto (tgt := 27) X.x X.b dM_set_11 (by decide) ?_
    refine us_pM X Y 0 rfl 0 (by decide) mB_fl_M_32 rfl rfl rfl (Nat.le_of_ble_eq_true rfl) dM_set_27 (fun H locs Y => ?_)
    have Y : us_Y D A (mW ad cI cZ (nI 1) n np k V KV I KI PN KR KC) s H locs := Y
    refine lv_aload_n X.x X.b dM_set_30 rfl (lv_at hl 0 rfl) ?_
    refine us_gM X Y 0 rfl 0 (by decide) mB_fl_M_32 rfl dM_set_31 ?_
    refine us_eq1 (tgt := 38) X dM_set_34 (by decide) ?_
    exact us_vret (u := ((nI 1), n, np, k, V, KV, I, KI, PN, KR, KC)) X Y hr hlk (⟨1, T, k, Or.inl ⟨rfl, fun ⟨c, h3, h4⟩ => nI_pos (n := c) (by omega) (h4 ▸ h1), rfl, rfl⟩, rfl, rfl, rfl, rfl, hM⟩) dM_set_37
  · refine lv_iload_n X.x X.b dM_set_5 rfl (lv_at hl 2 rfl) ?_
    refine lv_iconst (v := nI 2) X.x X.b dM_set_6 (by decide) ?_
    refine lv_icmp_le (tgt := 14) X.x X.b dM_set_7 (by decide) (fun h2 => ?_) (fun h2 => ?_)
    · obtain ⟨co, hco, rfl⟩ := us_le2 (by decide) h1 h2
      refine lv_aload_n X.x X.b dM_set_14 rfl (lv_at hl 0 rfl) ?_
      refine lv_iload_n X.x X.b dM_set_15 rfl (lv_at hl 1 rfl) ?_
      refine us_vi (rest := [.ref (ad 0)]) X Y (k_M_isRow l D ad cI cZ s.heap.size th n np k V KV I KI PN KR KC vr h1n) us_I8 0 rfl rfl cv_M_60 rfl ⟨by decide, by decide⟩ ⟨by decide, by decide⟩ hl.1 rfl (Nat.le_of_ble_eq_true rfl) dM_set_16 (fun rr u H locs g1 Y => ?_)
      have Y : us_Y D A (mW ad cI cZ th n np k V KV I KI PN KR KC) s H locs := Y
      rcases g1 with ⟨rfl, g1⟩ | ⟨rfl, g1⟩
      · refine us_ne1 (tgt := 26) X dM_set_19 (by decide) ?_
        obtain ⟨ir, hir, rfl⟩ := g1
        refine lv_iconst (v := nI 0) X.x X.b dM_set_26 (by decide) ?_
        refine us_pM X Y 0 rfl 0 (by decide) mB_fl_M_32 rfl rfl rfl (Nat.le_of_ble_eq_true rfl) dM_set_27 (fun H locs Y => ?_)
        have Y : us_Y D A (mW ad cI cZ (nI 0) n np k V KV I KI PN KR KC) s H locs := Y
        refine lv_aload_n X.x X.b dM_set_30 rfl (lv_at hl 0 rfl) ?_
        refine us_gM X Y 0 rfl 0 (by decide) mB_fl_M_32 rfl dM_set_31 ?_
        refine us_eq0 (tgt := 38) X dM_set_34 (by decide) ?_
        have tail : ∀ (o : Int32) (H : Heap) (locs : List Loc) (ls : Array Slot), ¬ (us_ful np k 1 ∨ us_sc0 T n ir co vv vz) → us_Y D A (mW ad cI cZ (nI 0) n np k V KV I KI PN KR KC) s H locs → lv_has ls 6 [(5, .int o), (0, .ref (ad 0)), (1, .int (nI ir)), (2, .int (nI co)), (3, .int vv), (4, .int vz)] → W p l e { frames := 1, cells := 0, slots := 0, locals := 23 } s m [.ref (ad 0), .int (nI ir), .int (nI co), .int vv, .int vz].toArray below meth c H locs 0 0 (us_Qv below (fun (u : us_SM) => ∃ cd T' k', us_sR n T k np (nI ir) (nI co) vv vz cd T' k' ∧ us_ms u (nI cd) n T' k' np nm sn sT sk) D (tyM cI cZ) A (fun (u : us_SM) => mWS ad cI cZ u) [.ref (ad 0), .int (nI ir), .int (nI co), .int vv, .int vz] s) (F0 m 93 ls []) := by
          intro o H locs ls hcf Y hl
          refine lv_aload_n X.x X.b dM_set_93 rfl (lv_at hl 1 rfl) ?_
          refine us_gM X Y 0 rfl 0 (by decide) mB_fl_M_32 rfl dM_set_94 ?_
          refine us_eq0 (tgt := 101) X dM_set_97 (by decide) ?_
          refine lv_aload_n X.x X.b dM_set_101 rfl (lv_at hl 1 rfl) ?_
          refine us_gM X Y 0 rfl 6 (by decide) mB_fl_M_16 rfl dM_set_102 ?_
          refine lv_iconst (v := nI 3) X.x X.b dM_set_105 (by decide) ?_
          refine lv_iload_n X.x X.b dM_set_106 rfl (lv_at hl 2 rfl) ?_
          refine us_imul X dM_set_107 ?_
          refine lv_iload_n X.x X.b dM_set_108 rfl (lv_at hl 3 rfl) ?_
          refine us_iadd X dM_set_109 ?_
          refine lv_iload X.x X.b dM_set_110 (lv_at hl 5 rfl) ?_
          refine us_bne (t := 119) X dM_set_112 (by decide) dM_set_115 dM_set_116 (by decide) dM_set_119 (fun y hy => ?_)
          refine us_zs X Y 3 1 rfl rfl (i := (3 * ir) + co) (by omega) (by decide) dM_set_120 (fun H locs Y => ?_)
          have Y : us_Y D A (mW ad cI cZ (nI 0) n np k V KV ((upd I ((3 * ir) + co) (vp_nar .boolean y))) KI PN KR KC) s H locs := Y
          refine lv_aload_n X.x X.b dM_set_121 rfl (lv_at hl 1 rfl) ?_
          refine us_gM X Y 0 rfl 4 (by decide) mB_fl_M_9 rfl dM_set_122 ?_
          refine lv_iconst (v := nI 3) X.x X.b dM_set_125 (by decide) ?_
          refine lv_iload_n X.x X.b dM_set_126 rfl (lv_at hl 2 rfl) ?_
          refine us_imul X dM_set_127 ?_
          refine lv_iload_n X.x X.b dM_set_128 rfl (lv_at hl 3 rfl) ?_
          refine us_iadd X dM_set_129 ?_
          refine lv_iload_n X.x X.b dM_set_130 rfl (lv_at hl 4 rfl) ?_
          refine us_is X Y 1 0 rfl rfl (i := (3 * ir) + co) (by omega) (by decide) dM_set_131 (fun H locs Y => ?_)
          have Y : us_Y D A (mW ad cI cZ (nI 0) n np k ((upd V ((3 * ir) + co) vv)) KV ((upd I ((3 * ir) + co) (vp_nar .boolean y))) KI PN KR KC) s H locs := Y
          refine lv_aload_n X.x X.b dM_set_132 rfl (lv_at hl 1 rfl) ?_
          refine us_vv (rest := []) X Y (k_M_changed l D ad cI cZ H.size (nI 0) n np k ((upd V ((3 * ir) + co) vv)) KV ((upd I ((3 * ir) + co) (vp_nar .boolean y))) KI PN KR KC h1p) us_I8 0 rfl rfl cv_M_57 rfl ⟨by decide, by decide⟩ ⟨by decide, by decide⟩ hl.1 rfl (Nat.le_of_ble_eq_true rfl) dM_set_133 (fun u H locs _ Y => ?_)
          have Y : us_Y D A (mW ad cI cZ (nI 0) n np (us_k1 np k) ((upd V ((3 * ir) + co) vv)) KV ((upd I ((3 * ir) + co) (vp_nar .boolean y))) KI PN KR KC) s H locs := Y
          exact us_vret (u := ((nI 0), n, np, (us_k1 np k), ((upd V ((3 * ir) + co) vv)), KV, ((upd I ((3 * ir) + co) (vp_nar .boolean y))), KI, PN, KR, KC)) X Y hr hlk (⟨0, _, _, Or.inr (Or.inr ⟨ir, co, hir, rfl, hco, rfl, Or.inr ⟨rfl, hcf, rfl, rfl⟩⟩), rfl, rfl, rfl, rfl, hM.tab h1n (us_k1_le h1k (fun z => hcf (Or.inl z))) ((us_putS hco (us_sy hy)).tr (us_st_eq hir h4)) (us_bool_upd hI (us_y01 hy))⟩) dM_set_136
        have mid : ∀ (o : Int32) (H : Heap) (locs : List Loc) (ls : Array Slot), (us_sc0 (us_tm V I) n ir co vv vz ↔ ((¬ vz = 0 ∧ co = 0) ∨ ¬ (o < 0 ∨ o = nI ir))) → us_Y D A (mW ad cI cZ (nI 0) n np k V KV I KI PN KR KC) s H locs → lv_has ls 6 [(0, .ref (ad 0)), (1, .int (nI ir)), (2, .int (nI co)), (3, .int vv), (4, .int vz)] → W p l e { frames := 1, cells := 0, slots := 0, locals := 23 } s m [.ref (ad 0), .int (nI ir), .int (nI co), .int vv, .int vz].toArray below meth c H locs 0 0 (us_Qv below (fun (u : us_SM) => ∃ cd T' k', us_sR n T k np (nI ir) (nI co) vv vz cd T' k' ∧ us_ms u (nI cd) n T' k' np nm sn sT sk) D (tyM cI cZ) A (fun (u : us_SM) => mWS ad cI cZ u) [.ref (ad 0), .int (nI ir), .int (nI co), .int vv, .int vz] s) (F0 m 58 ls [.int o]) := by
          intro o H locs ls ho Y hl
          refine lv_istore (lv' := [(5, .int o), (0, .ref (ad 0)), (1, .int (nI ir)), (2, .int (nI co)), (3, .int vv), (4, .int vz)]) X.x X.b dM_set_58 hl (by decide) rfl (fun ls hl => ?_)
          refine lv_aload_n X.x X.b dM_set_60 rfl (lv_at hl 1 rfl) ?_
          refine lv_iconst (v := nI 1) X.x X.b dM_set_61 (by decide) ?_
          refine us_vi (rest := []) X Y (k_M_isFull l D ad cI cZ H.size (nI 0) n np k V KV I KI PN KR KC 1 h1p h1k (by decide)) us_I8 0 rfl rfl cv_M_49 rfl ⟨by decide, by decide⟩ ⟨by decide, by decide⟩ hl.1 rfl (Nat.le_of_ble_eq_true rfl) dM_set_62 (fun rr u H locs g2 Y => ?_)
          have Y : us_Y D A (mW ad cI cZ (nI 0) n np k V KV I KI PN KR KC) s H locs := Y
          rcases g2 with ⟨rfl, g2⟩ | ⟨rfl, g2⟩
          · refine us_ne1 (tgt := 88) X dM_set_65 (by decide) ?_
            refine lv_aload_n X.x X.b dM_set_88 rfl (lv_at hl 1 rfl) ?_
            refine lv_iconst (v := nI 2) X.x X.b dM_set_89 (by decide) ?_
            refine us_pM X Y 0 rfl 0 (by decide) mB_fl_M_32 rfl rfl rfl (Nat.le_of_ble_eq_true rfl) dM_set_90 (fun H locs Y => ?_)
            have Y : us_Y D A (mW ad cI cZ (nI 2) n np k V KV I KI PN KR KC) s H locs := Y
            refine lv_aload_n X.x X.b dM_set_93 rfl (lv_at hl 1 rfl) ?_
            refine us_gM X Y 0 rfl 0 (by decide) mB_fl_M_32 rfl dM_set_94 ?_
            refine us_zeq (tgt := 101) X (by decide) dM_set_97 (by decide) (fun h0 => absurd h0 (by decide)) (fun _ => ?_)
            exact us_vret (u := ((nI 2), n, np, k, V, KV, I, KI, PN, KR, KC)) X Y hr hlk (⟨2, T, k, Or.inr (Or.inr ⟨ir, co, hir, rfl, hco, rfl, Or.inl ⟨rfl, Or.inl g2, rfl, rfl⟩⟩), rfl, rfl, rfl, rfl, hM⟩) dM_set_100
          · refine us_ne0 (tgt := 88) X dM_set_65 (by decide) ?_
            refine lv_iload X.x X.b dM_set_68 (lv_at hl 5 rfl) ?_
            refine lv_if_eq (tgt := 77) X.x X.b dM_set_70 (by decide) (fun h3 => ?_) (fun h3 => ?_)
            · refine lv_iload X.x X.b dM_set_77 (lv_at hl 0 rfl) ?_
              refine lv_if_lt (tgt := 93) X.x X.b dM_set_79 (by decide) (fun h5 => ?_) (fun h5 => ?_)
              · exact tail o H locs ls (fun z => z.elim g2 (fun z => (ho.mp (z.eq hco h4.sy)).elim (fun z => z.1 h3) (fun z => z (Or.inl h5)))) Y hl
              · refine lv_iload X.x X.b dM_set_82 (lv_at hl 0 rfl) ?_
                refine lv_iload_n X.x X.b dM_set_84 rfl (lv_at hl 2 rfl) ?_
                refine lv_icmp_eq (tgt := 93) X.x X.b dM_set_85 (by decide) (fun h6 => ?_) (fun h6 => ?_)
                · exact tail o H locs ls (fun z => z.elim g2 (fun z => (ho.mp (z.eq hco h4.sy)).elim (fun z => z.1 h3) (fun z => z (Or.inr h6)))) Y hl
                · refine lv_aload_n X.x X.b dM_set_88 rfl (lv_at hl 1 rfl) ?_
                  refine lv_iconst (v := nI 2) X.x X.b dM_set_89 (by decide) ?_
                  refine us_pM X Y 0 rfl 0 (by decide) mB_fl_M_32 rfl rfl rfl (Nat.le_of_ble_eq_true rfl) dM_set_90 (fun H locs Y => ?_)
                  have Y : us_Y D A (mW ad cI cZ (nI 2) n np k V KV I KI PN KR KC) s H locs := Y
                  refine lv_aload_n X.x X.b dM_set_93 rfl (lv_at hl 1 rfl) ?_
                  refine us_gM X Y 0 rfl 0 (by decide) mB_fl_M_32 rfl dM_set_94 ?_
                  refine us_zeq (tgt := 101) X (by decide) dM_set_97 (by decide) (fun h0 => absurd h0 (by decide)) (fun _ => ?_)
                  exact us_vret (u := ((nI 2), n, np, k, V, KV, I, KI, PN, KR, KC)) X Y hr hlk (⟨2, T, k, Or.inr (Or.inr ⟨ir, co, hir, rfl, hco, rfl, Or.inl ⟨rfl, Or.inr ((ho.mpr (Or.inr (fun z => z.elim h5 h6))).eq hco h4), rfl, rfl⟩⟩), rfl, rfl, rfl, rfl, hM⟩) dM_set_100
            · refine lv_iload_n X.x X.b dM_set_73 rfl (lv_at hl 3 rfl) ?_
              refine us_zeq (tgt := 88) X (by omega) dM_set_74 (by decide) (fun h7 => ?_) (fun h7 => ?_)
              · refine lv_aload_n X.x X.b dM_set_88 rfl (lv_at hl 1 rfl) ?_
                refine lv_iconst (v := nI 2) X.x X.b dM_set_89 (by decide) ?_
                refine us_pM X Y 0 rfl 0 (by decide) mB_fl_M_32 rfl rfl rfl (Nat.le_of_ble_eq_true rfl) dM_set_90 (fun H locs Y => ?_)
                have Y : us_Y D A (mW ad cI cZ (nI 2) n np k V KV I KI PN KR KC) s H locs := Y
                refine lv_aload_n X.x X.b dM_set_93 rfl (lv_at hl 1 rfl) ?_
                refine us_gM X Y 0 rfl 0 (by decide) mB_fl_M_32 rfl dM_set_94 ?_
                refine us_zeq (tgt := 101) X (by decide) dM_set_97 (by decide) (fun h0 => absurd h0 (by decide)) (fun _ => ?_)
                exact us_vret (u := ((nI 2), n, np, k, V, KV, I, KI, PN, KR, KC)) X Y hr hlk (⟨2, T, k, Or.inr (Or.inr ⟨ir, co, hir, rfl, hco, rfl, Or.inl ⟨rfl, Or.inr ((ho.mpr (Or.inl ⟨h3, h7⟩)).eq hco h4), rfl, rfl⟩⟩), rfl, rfl, rfl, rfl, hM⟩) dM_set_100
              · refine lv_iload X.x X.b dM_set_77 (lv_at hl 0 rfl) ?_
                refine lv_if_lt (tgt := 93) X.x X.b dM_set_79 (by decide) (fun h5 => ?_) (fun h5 => ?_)
                · exact tail o H locs ls (fun z => z.elim g2 (fun z => (ho.mp (z.eq hco h4.sy)).elim (fun z => absurd z.2 (by omega)) (fun z => z (Or.inl h5)))) Y hl
                · refine lv_iload X.x X.b dM_set_82 (lv_at hl 0 rfl) ?_
                  refine lv_iload_n X.x X.b dM_set_84 rfl (lv_at hl 2 rfl) ?_
                  refine lv_icmp_eq (tgt := 93) X.x X.b dM_set_85 (by decide) (fun h6 => ?_) (fun h6 => ?_)
                  · exact tail o H locs ls (fun z => z.elim g2 (fun z => (ho.mp (z.eq hco h4.sy)).elim (fun z => absurd z.2 (by omega)) (fun z => z (Or.inr h6)))) Y hl
                  · refine lv_aload_n X.x X.b dM_set_88 rfl (lv_at hl 1 rfl) ?_
                    refine lv_iconst (v := nI 2) X.x X.b dM_set_89 (by decide) ?_
                    refine us_pM X Y 0 rfl 0 (by decide) mB_fl_M_32 rfl rfl rfl (Nat.le_of_ble_eq_true rfl) dM_set_90 (fun H locs Y => ?_)
                    have Y : us_Y D A (mW ad cI cZ (nI 2) n np k V KV I KI PN KR KC) s H locs := Y
                    refine lv_aload_n X.x X.b dM_set_93 rfl (lv_at hl 1 rfl) ?_
                    refine us_gM X Y 0 rfl 0 (by decide) mB_fl_M_32 rfl dM_set_94 ?_
                    refine us_zeq (tgt := 101) X (by decide) dM_set_97 (by decide) (fun h0 => absurd h0 (by decide)) (fun _ => ?_)
                    exact us_vret (u := ((nI 2), n, np, k, V, KV, I, KI, PN, KR, KC)) X Y hr hlk (⟨2, T, k, Or.inr (Or.inr ⟨ir, co, hir, rfl, hco, rfl, Or.inl ⟨rfl, Or.inr ((ho.mpr (Or.inr (fun z => z.elim h5 h6))).eq hco h4), rfl, rfl⟩⟩), rfl, rfl, rfl, rfl, hM⟩) dM_set_100
        refine lv_iload X.x X.b dM_set_38 (lv_at hl 4 rfl) ?_
        refine lv_if_ne (tgt := 48) X.x X.b dM_set_40 (by decide) (fun h3 => ?_) (fun h3 => ?_)
        · refine lv_iconst (v := (-1 : Int32)) X.x X.b dM_set_48 (by decide) ?_
          refine lv_goto (tgt := 58) X.x X.b dM_set_49 (by decide) ?_
          exact mid (-1) H locs ls (us_o1 h3) Y hl
        · refine lv_iload_n X.x X.b dM_set_43 rfl (lv_at hl 2 rfl) ?_
          refine lv_iconst (v := nI 2) X.x X.b dM_set_44 (by decide) ?_
          refine us_cne (tgt := 52) X (by omega) (by omega) dM_set_45 (by decide) (fun h5 => ?_) (fun h5 => ?_)
          · refine lv_aload_n X.x X.b dM_set_52 rfl (lv_at hl 0 rfl) ?_
            refine lv_iload_n X.x X.b dM_set_53 rfl (lv_at hl 2 rfl) ?_
            refine lv_iload_n X.x X.b dM_set_54 rfl (lv_at hl 3 rfl) ?_
            refine us_vi (rest := []) X Y (k_M_row l D ad cI cZ H.size (nI 0) n np k V KV I KI PN KR KC co vv h1n hco) us_I8 0 rfl rfl cv_M_53 rfl ⟨by decide, by decide⟩ ⟨by decide, by decide⟩ hl.1 rfl (Nat.le_of_ble_eq_true rfl) dM_set_55 (fun rr u H locs r1 Y => ?_)
            have Y : us_Y D A (mW ad cI cZ (nI 0) n np k V KV I KI PN KR KC) s H locs := Y
            exact mid rr H locs ls (us_o3 h3 (by omega) (by omega) hir r1) Y hl
          · refine lv_iconst (v := (-1 : Int32)) X.x X.b dM_set_48 (by decide) ?_
            refine lv_goto (tgt := 58) X.x X.b dM_set_49 (by decide) ?_
            exact mid (-1) H locs ls (us_o2 h3 h5) Y hl
      · refine us_ne0 (tgt := 26) X dM_set_19 (by decide) ?_
        refine lv_iconst (v := nI 3) X.x X.b dM_set_22 (by decide) ?_
        refine lv_goto (tgt := 27) X.x X.b dM_set_23 (by decide) ?_
        refine us_pM X Y 0 rfl 0 (by decide) mB_fl_M_32 rfl rfl rfl (Nat.le_of_ble_eq_true rfl) dM_set_27 (fun H locs Y => ?_)
        have Y : us_Y D A (mW ad cI cZ (nI 3) n np k V KV I KI PN KR KC) s H locs := Y
        refine lv_aload_n X.x X.b dM_set_30 rfl (lv_at hl 0 rfl) ?_
        refine us_gM X Y 0 rfl 0 (by decide) mB_fl_M_32 rfl dM_set_31 ?_
        refine us_zeq (tgt := 38) X (by decide) dM_set_34 (by decide) (fun h0 => absurd h0 (by decide)) (fun _ => ?_)
        exact us_vret (u := ((nI 3), n, np, k, V, KV, I, KI, PN, KR, KC)) X Y hr hlk (⟨3, T, k, Or.inr (Or.inl ⟨rfl, ⟨co, hco, rfl⟩, g1, rfl, rfl⟩), rfl, rfl, rfl, rfl, hM⟩) dM_set_37
    · refine lv_iconst (v := nI 1) X.x X.b dM_set_10 (by decide) ?_
      refine lv_goto (tgt := 27) X.x X.b dM_set_11 (by decide) ?_
      refine us_pM X Y 0 rfl 0 (by decide) mB_fl_M_32 rfl rfl rfl (Nat.le_of_ble_eq_true rfl) dM_set_27 (fun H locs Y => ?_)
      have Y : us_Y D A (mW ad cI cZ (nI 1) n np k V KV I KI PN KR KC) s H locs := Y
      refine lv_aload_n X.x X.b dM_set_30 rfl (lv_at hl 0 rfl) ?_
      refine us_gM X Y 0 rfl 0 (by decide) mB_fl_M_32 rfl dM_set_31 ?_
      refine us_eq1 (tgt := 38) X dM_set_34 (by decide) ?_
      exact us_vret (u := ((nI 1), n, np, k, V, KV, I, KI, PN, KR, KC)) X Y hr hlk (⟨1, T, k, Or.inl ⟨rfl, fun ⟨c, h3, h4⟩ => h2 (by rw [h4]; exact nI_le (by omega) (by decide)), rfl, rfl⟩, rfl, rfl, rfl, rfl, hM⟩) dM_set_37
end
section
/-! 42.Mpub2 (laid by wip/whole/gen/methods_m.py): the reference, the other calls. -/
set_option maxHeartbeats 4000000 in
set_option maxRecDepth 100000 in
theorem k_M_remove (l : Launch) (D : va_G) (ad : Nat → Nat) (cI cZ : ClassId) (sz : Nat) (th : Int32) (n np k : Nat) (V KV I KI PN KR KC : Nat → Int32) (T : us_T) (nm : Nat → Int32) (sn : Nat → Nat) (sT : Nat → us_T) (sk : Nat → Nat) (hM : us_M n T k np nm sn sT sk V KV I KI PN KR KC) (vr : Int32) : us_Cv l yM_remove cM_remove 2 2 42 [.ref (ad 0), .int vr] D (tyM cI cZ) (mW ad cI cZ th n np k V KV I KI PN KR KC) sz (fun (u : us_SM) => ∃ cd n' T' k', us_rR n T k np vr cd n' T' k' ∧ us_ms u (nI cd) n' T' k' np nm sn sT sk) (fun (u : us_SM) => mWS ad cI cZ u) := by
  refine us_enter (own := RM) rfl (by decide) (Nat.le_of_ble_eq_true rfl) ?_
  intro p e s m below meth c ls X Y hr hlk hl
  generalize va_A (mW ad cI cZ th n np k V KV I KI PN KR KC) sz = A at X Y ⊢
  have hl : lv_has ls 2 [(0, .ref (ad 0)), (1, .int vr)] := hl
  have h1n := hM.1
  have h1p := hM.2.1
  have h1k := hM.2.2.1
  have h4 := hM.2.2.2.1
  have hI := hM.2.2.2.2.1
  have hKI := hM.2.2.2.2.2.1
  refine lv_aload_n X.x X.b dM_remove_0 rfl (lv_at hl 0 rfl) ?_
  refine lv_aload_n X.x X.b dM_remove_1 rfl (lv_at hl 0 rfl) ?_
  refine lv_iload_n X.x X.b dM_remove_2 rfl (lv_at hl 1 rfl) ?_
  refine us_vi (rest := [.ref (ad 0)]) X Y (k_M_isRow l D ad cI cZ s.heap.size th n np k V KV I KI PN KR KC vr h1n) us_I8 0 rfl rfl cv_M_60 rfl ⟨by decide, by decide⟩ ⟨by decide, by decide⟩ hl.1 rfl (Nat.le_of_ble_eq_true rfl) dM_remove_3 (fun rr u H locs g1 Y => ?_)
  have Y : us_Y D A (mW ad cI cZ th n np k V KV I KI PN KR KC) s H locs := Y
  rcases g1 with ⟨rfl, g1⟩ | ⟨rfl, g1⟩
  · refine us_ne1 (tgt := 13) X dM_remove_6 (by decide) ?_
    obtain ⟨ir, hir, rfl⟩ := g1
    refine lv_aload_n X.x X.b dM_remove_13 rfl (lv_at hl 0 rfl) ?_
    refine lv_iconst (v := nI 1) X.x X.b dM_remove_14 (by decide) ?_
    refine us_vi (rest := [.ref (ad 0)]) X Y (k_M_isFull l D ad cI cZ H.size th n np k V KV I KI PN KR KC 1 h1p h1k (by decide)) us_I8 0 rfl rfl cv_M_49 rfl ⟨by decide, by decide⟩ ⟨by decide, by decide⟩ hl.1 rfl (Nat.le_of_ble_eq_true rfl) dM_remove_15 (fun rr u H locs g2 Y => ?_)
    have Y : us_Y D A (mW ad cI cZ th n np k V KV I KI PN KR KC) s H locs := Y
    rcases g2 with ⟨rfl, g2⟩ | ⟨rfl, g2⟩
    · refine us_eq1 (tgt := 25) X dM_remove_18 (by decide) ?_
      refine lv_iconst (v := nI 1) X.x X.b dM_remove_21 (by decide) ?_
      refine lv_goto (tgt := 26) X.x X.b dM_remove_22 (by decide) ?_
      refine us_pM X Y 0 rfl 0 (by decide) mB_fl_M_32 rfl rfl rfl (Nat.le_of_ble_eq_true rfl) dM_remove_26 (fun H locs Y => ?_)
      have Y : us_Y D A (mW ad cI cZ (nI 1) n np k V KV I KI PN KR KC) s H locs := Y
      refine lv_aload_n X.x X.b dM_remove_29 rfl (lv_at hl 0 rfl) ?_
      refine us_gM X Y 0 rfl 0 (by decide) mB_fl_M_32 rfl dM_remove_30 ?_
      refine us_ne1 (tgt := 41) X dM_remove_33 (by decide) ?_
      exact us_vret (u := ((nI 1), n, np, k, V, KV, I, KI, PN, KR, KC)) X Y hr hlk (⟨1, n, T, k, Or.inr ⟨ir, hir, rfl, Or.inl ⟨rfl, g2, rfl, rfl, rfl⟩⟩, rfl, rfl, rfl, rfl, hM⟩) dM_remove_41
    · refine us_eq0 (tgt := 25) X dM_remove_18 (by decide) ?_
      refine lv_iconst (v := nI 0) X.x X.b dM_remove_25 (by decide) ?_
      refine us_pM X Y 0 rfl 0 (by decide) mB_fl_M_32 rfl rfl rfl (Nat.le_of_ble_eq_true rfl) dM_remove_26 (fun H locs Y => ?_)
      have Y : us_Y D A (mW ad cI cZ (nI 0) n np k V KV I KI PN KR KC) s H locs := Y
      refine lv_aload_n X.x X.b dM_remove_29 rfl (lv_at hl 0 rfl) ?_
      refine us_gM X Y 0 rfl 0 (by decide) mB_fl_M_32 rfl dM_remove_30 ?_
      refine us_ne0 (tgt := 41) X dM_remove_33 (by decide) ?_
      refine lv_aload_n X.x X.b dM_remove_36 rfl (lv_at hl 0 rfl) ?_
      refine lv_iload_n X.x X.b dM_remove_37 rfl (lv_at hl 1 rfl) ?_
      refine us_vv (rest := []) X Y (k_M_take l D ad cI cZ H.size (nI 0) n np k V KV I KI PN KR KC ir h1n hir h1p hI) us_I8 0 rfl rfl cv_M_63 rfl ⟨by decide, by decide⟩ ⟨by decide, by decide⟩ hl.1 rfl (Nat.le_of_ble_eq_true rfl) dM_remove_38 (fun u H locs _ Y => ?_)
      have Y : us_Y D A (mW ad cI cZ (nI 0) (n - 1) np (us_k1 np k) ((us_tk V ir (3 * (n - 1)))) KV ((us_tk I ir (3 * (n - 1)))) KI PN KR KC) s H locs := Y
      exact us_vret (u := ((nI 0), (n - 1), np, (us_k1 np k), ((us_tk V ir (3 * (n - 1)))), KV, ((us_tk I ir (3 * (n - 1)))), KI, PN, KR, KC)) X Y hr hlk (⟨0, n - 1, _, _, Or.inr ⟨ir, hir, rfl, Or.inr ⟨rfl, g2, rfl, rfl, rfl⟩⟩, rfl, rfl, rfl, rfl, hM.tab (by omega) (us_k1_le h1k g2) ((us_tk_del hir).tr (us_del_eq h4)) (us_tk_b hI)⟩) dM_remove_41
  · refine us_ne0 (tgt := 13) X dM_remove_6 (by decide) ?_
    refine lv_iconst (v := nI 2) X.x X.b dM_remove_9 (by decide) ?_
    refine lv_goto (tgt := 26) X.x X.b dM_remove_10 (by decide) ?_
    refine us_pM X Y 0 rfl 0 (by decide) mB_fl_M_32 rfl rfl rfl (Nat.le_of_ble_eq_true rfl) dM_remove_26 (fun H locs Y => ?_)
    have Y : us_Y D A (mW ad cI cZ (nI 2) n np k V KV I KI PN KR KC) s H locs := Y
    refine lv_aload_n X.x X.b dM_remove_29 rfl (lv_at hl 0 rfl) ?_
    refine us_gM X Y 0 rfl 0 (by decide) mB_fl_M_32 rfl dM_remove_30 ?_
    refine us_zne (tgt := 41) X (by decide) dM_remove_33 (by decide) (fun _ => ?_) (fun h0 => absurd h0 (by decide))
    exact us_vret (u := ((nI 2), n, np, k, V, KV, I, KI, PN, KR, KC)) X Y hr hlk (⟨2, n, T, k, Or.inl ⟨rfl, g1, rfl, rfl, rfl⟩, rfl, rfl, rfl, rfl, hM⟩) dM_remove_41
set_option maxHeartbeats 4000000 in
set_option maxRecDepth 100000 in
theorem k_M_removeAll (l : Launch) (D : va_G) (ad : Nat → Nat) (cI cZ : ClassId) (sz : Nat) (th : Int32) (n np k : Nat) (V KV I KI PN KR KC : Nat → Int32) (T : us_T) (nm : Nat → Int32) (sn : Nat → Nat) (sT : Nat → us_T) (sk : Nat → Nat) (hM : us_M n T k np nm sn sT sk V KV I KI PN KR KC) (vco vv : Int32) : us_Ci l yM_removeAll cM_removeAll 5 (some .int) 2 42 [.ref (ad 0), .int vco, .int vv] D (tyM cI cZ) (mW ad cI cZ th n np k V KV I KI PN KR KC) sz (fun r (u : us_SM) => ∃ cd n' T' k', us_aR n T k np vco vv cd r n' T' k' ∧ us_ms u (nI cd) n' T' k' np nm sn sT sk) (fun (u : us_SM) => mWS ad cI cZ u) := by
  refine us_enter (own := RM) rfl (by decide) (Nat.le_of_ble_eq_true rfl) ?_
  intro p e s m below meth c ls X Y hr hlk hl
  generalize va_A (mW ad cI cZ th n np k V KV I KI PN KR KC) sz = A at X Y ⊢
  have hl : lv_has ls 5 [(0, .ref (ad 0)), (1, .int vco), (2, .int vv)] := hl
  have h1n := hM.1
  have h1p := hM.2.1
  have h1k := hM.2.2.1
  have h4 := hM.2.2.2.1
  have hI := hM.2.2.2.2.1
  have hKI := hM.2.2.2.2.2.1
  refine lv_iload_n X.x X.b dM_removeAll_0 rfl (lv_at hl 1 rfl) ?_
  refine lv_if_lt (tgt := 9) X.x X.b dM_removeAll_1 (by decide) (fun h1 => ?_) (fun h1 => ?_)
  · refine lv_aload_n X.x X.b dM_removeAll_9 rfl (lv_at hl 0 rfl) ?_
    refine lv_iconst (v := nI 1) X.x X.b dM_removeAll_10 (by decide) ?_
    refine us_vi (rest := []) X Y (k_M_no l D ad cI cZ s.heap.size th n np k V KV I KI PN KR KC (nI 1)) us_I8 0 rfl rfl cv_M_45 rfl ⟨by decide, by decide⟩ ⟨by decide, by decide⟩ hl.1 rfl (Nat.le_of_ble_eq_true rfl) dM_removeAll_11 (fun rr u H locs _ Y => ?_)
    have Y : us_Y D A (mW ad cI cZ (nI 1) n np k V KV I KI PN KR KC) s H locs := Y
    exact us_iret (u := ((nI 1), n, np, k, V, KV, I, KI, PN, KR, KC)) X Y hr hlk (⟨1, n, T, k, Or.inl ⟨rfl, fun ⟨j, h3, h4⟩ => nI_pos (n := j) (by omega) (h4 ▸ h1), rfl, rfl, rfl⟩, rfl, rfl, rfl, rfl, hM⟩) dM_removeAll_14
  · refine lv_iload_n X.x X.b dM_removeAll_4 rfl (lv_at hl 1 rfl) ?_
    refine lv_iconst (v := nI 2) X.x X.b dM_removeAll_5 (by decide) ?_
    refine lv_icmp_le (tgt := 15) X.x X.b dM_removeAll_6 (by decide) (fun h2 => ?_) (fun h2 => ?_)
    · obtain ⟨co, hco, rfl⟩ := us_le2 (by decide) h1 h2
      have loop2 : ∀ (d nc : Nat) (Tc : us_T) (kc : Nat) (V1 I1 : Nat → Int32) (H : Heap) (locs : List Loc) (ls : Array Slot), ¬ us_ful np k (us_ct T co vv n) → d ≤ nc → us_M nc Tc kc np nm sn sT sk V1 KV I1 KI PN KR KC → us_ra co vv np d (nc, Tc, kc) = us_ra co vv np n (n, T, k) → (np = 0 ∨ kc + us_ct Tc co vv d ≤ 200) → us_Y D A (mW ad cI cZ (nI 0) nc np kc V1 KV I1 KI PN KR KC) s H locs → lv_has ls 5 [(4, .int (nI d - 1)), (3, .int (nI (us_ct T co vv n))), (0, .ref (ad 0)), (1, .int (nI co)), (2, .int vv)] → W p l e { frames := 2, cells := 0, slots := 0, locals := 42 } s m [.ref (ad 0), .int (nI co), .int vv].toArray below meth c H locs 0 0 (us_Qi below (fun r (u : us_SM) => ∃ cd n' T' k', us_aR n T k np (nI co) vv cd r n' T' k' ∧ us_ms u (nI cd) n' T' k' np nm sn sT sk) D (tyM cI cZ) A (fun (u : us_SM) => mWS ad cI cZ u) [.ref (ad 0), .int (nI co), .int vv] s) (F0 m 94 ls []) := by
        intro d
        induction d with
        | zero =>
          intro nc Tc kc V1 I1 H locs ls hnf hd hMc hra hrm Y hl
          refine lv_iload X.x X.b dM_removeAll_94 (lv_at hl 0 rfl) ?_
          refine lv_if_lt (tgt := 140) X.x X.b dM_removeAll_96 (by decide) (fun h3 => ?_) (fun h3 => ?_)
          · refine lv_iload_n X.x X.b dM_removeAll_140 rfl (lv_at hl 1 rfl) ?_
            exact us_iret (u := ((nI 0), nc, np, kc, V1, KV, I1, KI, PN, KR, KC)) X Y hr hlk (⟨0, nc, Tc, kc, Or.inr ⟨co, hco, rfl, Or.inr ⟨rfl, hnf, rfl, hra⟩⟩, rfl, rfl, rfl, rfl, hMc⟩) dM_removeAll_141
          · exact absurd (by decide) h3
        | succ d ih =>
          intro nc Tc kc V1 I1 H locs ls hnf hd hMc hra hrm Y hl
          rw [nI_pred] at hl
          have hnc := hMc.1
          have e5 := hMc.2.2.2.1 d co (by omega) hco
          refine lv_iload X.x X.b dM_removeAll_94 (lv_at hl 0 rfl) ?_
          refine lv_if_lt (tgt := 140) X.x X.b dM_removeAll_96 (by decide) (fun h3 => ?_) (fun h3 => ?_)
          · exact absurd h3 (nI_pos (by omega))
          · refine lv_aload_n X.x X.b dM_removeAll_99 rfl (lv_at hl 2 rfl) ?_
            refine us_gM X Y 0 rfl 6 (by decide) mB_fl_M_16 rfl dM_removeAll_100 ?_
            refine lv_iconst (v := nI 3) X.x X.b dM_removeAll_103 (by decide) ?_
            refine lv_iload X.x X.b dM_removeAll_104 (lv_at hl 0 rfl) ?_
            refine us_imul X dM_removeAll_106 ?_
            refine lv_iload_n X.x X.b dM_removeAll_107 rfl (lv_at hl 3 rfl) ?_
            refine us_iadd X dM_removeAll_108 ?_
            refine us_za X Y 3 1 rfl rfl (i := (3 * d) + co) (by omega) (by decide) dM_removeAll_109 ?_
            refine lv_if_eq (tgt := 134) X.x X.b dM_removeAll_110 (by decide) (fun h5 => ?_) (fun h5 => ?_)
            · have g4 : ¬ Tc d co = some vv := by rw [← e5]; exact us_tm_n h5
              refine lv_iinc (v := (nI d - 1)) (lv' := [(4, .int (nI d - 1)), (3, .int (nI (us_ct T co vv n))), (0, .ref (ad 0)), (1, .int (nI co)), (2, .int vv)]) X.x X.b dM_removeAll_134 hl (k := 0) rfl (us_dec _) (by decide) rfl (fun ls hl => ?_)
              refine lv_goto (tgt := 94) X.x X.b dM_removeAll_137 (by decide) ?_
              exact ih nc Tc kc V1 I1 H locs ls hnf (by omega) hMc ((us_ra_0 g4).symm.trans hra) (us_room_0 hrm g4) Y hl
            · refine lv_aload_n X.x X.b dM_removeAll_113 rfl (lv_at hl 2 rfl) ?_
              refine us_gM X Y 0 rfl 4 (by decide) mB_fl_M_9 rfl dM_removeAll_114 ?_
              refine lv_iconst (v := nI 3) X.x X.b dM_removeAll_117 (by decide) ?_
              refine lv_iload X.x X.b dM_removeAll_118 (lv_at hl 0 rfl) ?_
              refine us_imul X dM_removeAll_120 ?_
              refine lv_iload_n X.x X.b dM_removeAll_121 rfl (lv_at hl 3 rfl) ?_
              refine us_iadd X dM_removeAll_122 ?_
              refine us_ia X Y 1 0 rfl rfl (i := (3 * d) + co) (by omega) (by decide) dM_removeAll_123 ?_
              refine lv_iload_n X.x X.b dM_removeAll_124 rfl (lv_at hl 4 rfl) ?_
              refine lv_icmp_ne (tgt := 134) X.x X.b dM_removeAll_125 (by decide) (fun h6 => ?_) (fun h6 => ?_)
              · have g4 : ¬ Tc d co = some vv := by rw [← e5]; exact us_tm_v h5 h6
                refine lv_iinc (v := (nI d - 1)) (lv' := [(4, .int (nI d - 1)), (3, .int (nI (us_ct T co vv n))), (0, .ref (ad 0)), (1, .int (nI co)), (2, .int vv)]) X.x X.b dM_removeAll_134 hl (k := 0) rfl (us_dec _) (by decide) rfl (fun ls hl => ?_)
                refine lv_goto (tgt := 94) X.x X.b dM_removeAll_137 (by decide) ?_
                exact ih nc Tc kc V1 I1 H locs ls hnf (by omega) hMc ((us_ra_0 g4).symm.trans hra) (us_room_0 hrm g4) Y hl
              · have g4 : Tc d co = some vv := by rw [← e5]; exact us_tm_y h5 h6
                have hroom := us_room_1 hrm hco g4
                refine lv_aload_n X.x X.b dM_removeAll_128 rfl (lv_at hl 2 rfl) ?_
                refine lv_iload X.x X.b dM_removeAll_129 (lv_at hl 0 rfl) ?_
                refine us_vv (rest := []) X Y (k_M_take l D ad cI cZ H.size (nI 0) nc np kc V1 KV I1 KI PN KR KC d hnc (by omega) h1p hMc.2.2.2.2.1) us_I8 0 rfl rfl cv_M_63 rfl ⟨by decide, by decide⟩ ⟨by decide, by decide⟩ hl.1 rfl (Nat.le_of_ble_eq_true rfl) dM_removeAll_131 (fun u H locs _ Y => ?_)
                have Y : us_Y D A (mW ad cI cZ (nI 0) (nc - 1) np (us_k1 np kc) ((us_tk V1 d (3 * (nc - 1)))) KV ((us_tk I1 d (3 * (nc - 1)))) KI PN KR KC) s H locs := Y
                refine lv_iinc (v := (nI d - 1)) (lv' := [(4, .int (nI d - 1)), (3, .int (nI (us_ct T co vv n))), (0, .ref (ad 0)), (1, .int (nI co)), (2, .int vv)]) X.x X.b dM_removeAll_134 hl (k := 0) rfl (us_dec _) (by decide) rfl (fun ls hl => ?_)
                refine lv_goto (tgt := 94) X.x X.b dM_removeAll_137 (by decide) ?_
                exact ih (nc - 1) (us_del Tc d) (us_k1 np kc) ((us_tk V1 d (3 * (nc - 1)))) ((us_tk I1 d (3 * (nc - 1)))) H locs ls hnf (by omega) (hMc.tab (by omega) (us_k1_le hMc.2.2.1 (us_ful.out hroom.1)) ((us_tk_del (by omega)).tr (us_del_eq hMc.2.2.2.1)) (us_tk_b hMc.2.2.2.2.1)) ((us_ra_1 g4).symm.trans hra) hroom.2 Y hl
      have loop1 : ∀ (d i : Nat) (H : Heap) (locs : List Loc) (ls : Array Slot), i + d = n → us_Y D A (mW ad cI cZ th n np k V KV I KI PN KR KC) s H locs → lv_has ls 5 [(4, .int (nI i)), (3, .int (nI (us_ct (us_tm V I) co vv i))), (0, .ref (ad 0)), (1, .int (nI co)), (2, .int vv)] → W p l e { frames := 2, cells := 0, slots := 0, locals := 42 } s m [.ref (ad 0), .int (nI co), .int vv].toArray below meth c H locs 0 0 (us_Qi below (fun r (u : us_SM) => ∃ cd n' T' k', us_aR n T k np (nI co) vv cd r n' T' k' ∧ us_ms u (nI cd) n' T' k' np nm sn sT sk) D (tyM cI cZ) A (fun (u : us_SM) => mWS ad cI cZ u) [.ref (ad 0), .int (nI co), .int vv] s) (F0 m 20 ls []) := by
        intro d
        induction d with
        | zero =>
          intro i H locs ls hi Y hl
          have ei : i = n := by omega
          rw [ei, us_ct_eq hco h4] at hl
          have hct := us_ct_le (T := T) (c := co) (v := vv) n
          refine lv_iload X.x X.b dM_removeAll_20 (lv_at hl 0 rfl) ?_
          refine lv_aload_n X.x X.b dM_removeAll_22 rfl (lv_at hl 2 rfl) ?_
          refine us_gM X Y 0 rfl 1 (by decide) mB_fl_M_36 rfl dM_removeAll_23 ?_
          refine us_cge (tgt := 67) X (by omega) (by omega) dM_removeAll_26 (by decide) (fun h3 => ?_) (fun h3 => ?_)
          · refine lv_aload_n X.x X.b dM_removeAll_67 rfl (lv_at hl 2 rfl) ?_
            refine lv_iload_n X.x X.b dM_removeAll_68 rfl (lv_at hl 1 rfl) ?_
            refine us_vi (rest := []) X Y (k_M_isFull l D ad cI cZ H.size th n np k V KV I KI PN KR KC (us_ct T co vv n) h1p h1k (by omega)) us_I8 0 rfl rfl cv_M_49 rfl ⟨by decide, by decide⟩ ⟨by decide, by decide⟩ hl.1 rfl (Nat.le_of_ble_eq_true rfl) dM_removeAll_69 (fun rr u H locs g2 Y => ?_)
            have Y : us_Y D A (mW ad cI cZ th n np k V KV I KI PN KR KC) s H locs := Y
            rcases g2 with ⟨rfl, g2⟩ | ⟨rfl, g2⟩
            · refine us_eq1 (tgt := 81) X dM_removeAll_72 (by decide) ?_
              refine lv_aload_n X.x X.b dM_removeAll_75 rfl (lv_at hl 2 rfl) ?_
              refine lv_iconst (v := nI 2) X.x X.b dM_removeAll_76 (by decide) ?_
              refine us_vi (rest := []) X Y (k_M_no l D ad cI cZ H.size th n np k V KV I KI PN KR KC (nI 2)) us_I8 0 rfl rfl cv_M_45 rfl ⟨by decide, by decide⟩ ⟨by decide, by decide⟩ hl.1 rfl (Nat.le_of_ble_eq_true rfl) dM_removeAll_77 (fun rr u H locs _ Y => ?_)
              have Y : us_Y D A (mW ad cI cZ (nI 2) n np k V KV I KI PN KR KC) s H locs := Y
              exact us_iret (u := ((nI 2), n, np, k, V, KV, I, KI, PN, KR, KC)) X Y hr hlk (⟨2, n, T, k, Or.inr ⟨co, hco, rfl, Or.inl ⟨rfl, g2, rfl, rfl, rfl⟩⟩, rfl, rfl, rfl, rfl, hM⟩) dM_removeAll_80
            · refine us_eq0 (tgt := 81) X dM_removeAll_72 (by decide) ?_
              refine lv_aload_n X.x X.b dM_removeAll_81 rfl (lv_at hl 2 rfl) ?_
              refine lv_iconst (v := nI 0) X.x X.b dM_removeAll_82 (by decide) ?_
              refine us_pM X Y 0 rfl 0 (by decide) mB_fl_M_32 rfl rfl rfl (Nat.le_of_ble_eq_true rfl) dM_removeAll_83 (fun H locs Y => ?_)
              have Y : us_Y D A (mW ad cI cZ (nI 0) n np k V KV I KI PN KR KC) s H locs := Y
              refine lv_aload_n X.x X.b dM_removeAll_86 rfl (lv_at hl 2 rfl) ?_
              refine us_gM X Y 0 rfl 1 (by decide) mB_fl_M_36 rfl dM_removeAll_87 ?_
              refine lv_iconst (v := (1 : Int32)) X.x X.b dM_removeAll_90 (by decide) ?_
              refine lv_isub X.x X.b dM_removeAll_91 ?_
              refine lv_istore (lv' := [(4, .int ((nI n) - ((1 : Int32)))), (3, .int (nI (us_ct T co vv n))), (0, .ref (ad 0)), (1, .int (nI co)), (2, .int vv)]) X.x X.b dM_removeAll_92 hl (by decide) rfl (fun ls hl => ?_)
              exact loop2 n n T k V I H locs ls g2 (Nat.le_refl _) hM rfl (us_ful.no g2) Y hl
          · exact absurd h3 (by omega)
        | succ d ih =>
          intro i H locs ls hi Y hl
          refine lv_iload X.x X.b dM_removeAll_20 (lv_at hl 0 rfl) ?_
          refine lv_aload_n X.x X.b dM_removeAll_22 rfl (lv_at hl 2 rfl) ?_
          refine us_gM X Y 0 rfl 1 (by decide) mB_fl_M_36 rfl dM_removeAll_23 ?_
          refine us_cge (tgt := 67) X (by omega) (by omega) dM_removeAll_26 (by decide) (fun h3 => ?_) (fun h3 => ?_)
          · exact absurd h3 (by omega)
          · refine lv_aload_n X.x X.b dM_removeAll_29 rfl (lv_at hl 2 rfl) ?_
            refine us_gM X Y 0 rfl 6 (by decide) mB_fl_M_16 rfl dM_removeAll_30 ?_
            refine lv_iconst (v := nI 3) X.x X.b dM_removeAll_33 (by decide) ?_
            refine lv_iload X.x X.b dM_removeAll_34 (lv_at hl 0 rfl) ?_
            refine us_imul X dM_removeAll_36 ?_
            refine lv_iload_n X.x X.b dM_removeAll_37 rfl (lv_at hl 3 rfl) ?_
            refine us_iadd X dM_removeAll_38 ?_
            refine us_za X Y 3 1 rfl rfl (i := (3 * i) + co) (by omega) (by decide) dM_removeAll_39 ?_
            refine lv_if_eq (tgt := 61) X.x X.b dM_removeAll_40 (by decide) (fun h5 => ?_) (fun h5 => ?_)
            · have g4 := us_tm_n (V := V) (v := vv) h5
              refine lv_iinc (v := (nI (i + 1))) (lv' := [(4, .int (nI (i + 1))), (3, .int (nI (us_ct (us_tm V I) co vv i))), (0, .ref (ad 0)), (1, .int (nI co)), (2, .int vv)]) X.x X.b dM_removeAll_61 hl (k := 0) rfl (us_inc _) (by decide) rfl (fun ls hl => ?_)
              refine lv_goto (tgt := 20) X.x X.b dM_removeAll_64 (by decide) ?_
              rw [← us_ct_0 g4] at hl
              exact ih (i + 1) H locs ls (by omega) Y hl
            · refine lv_aload_n X.x X.b dM_removeAll_43 rfl (lv_at hl 2 rfl) ?_
              refine us_gM X Y 0 rfl 4 (by decide) mB_fl_M_9 rfl dM_removeAll_44 ?_
              refine lv_iconst (v := nI 3) X.x X.b dM_removeAll_47 (by decide) ?_
              refine lv_iload X.x X.b dM_removeAll_48 (lv_at hl 0 rfl) ?_
              refine us_imul X dM_removeAll_50 ?_
              refine lv_iload_n X.x X.b dM_removeAll_51 rfl (lv_at hl 3 rfl) ?_
              refine us_iadd X dM_removeAll_52 ?_
              refine us_ia X Y 1 0 rfl rfl (i := (3 * i) + co) (by omega) (by decide) dM_removeAll_53 ?_
              refine lv_iload_n X.x X.b dM_removeAll_54 rfl (lv_at hl 4 rfl) ?_
              refine lv_icmp_ne (tgt := 61) X.x X.b dM_removeAll_55 (by decide) (fun h6 => ?_) (fun h6 => ?_)
              · have g4 := us_tm_v h5 h6
                refine lv_iinc (v := (nI (i + 1))) (lv' := [(4, .int (nI (i + 1))), (3, .int (nI (us_ct (us_tm V I) co vv i))), (0, .ref (ad 0)), (1, .int (nI co)), (2, .int vv)]) X.x X.b dM_removeAll_61 hl (k := 0) rfl (us_inc _) (by decide) rfl (fun ls hl => ?_)
                refine lv_goto (tgt := 20) X.x X.b dM_removeAll_64 (by decide) ?_
                rw [← us_ct_0 g4] at hl
                exact ih (i + 1) H locs ls (by omega) Y hl
              · have g4 := us_tm_y h5 h6
                refine lv_iinc (v := (nI ((us_ct (us_tm V I) co vv i) + 1))) (lv' := [(3, .int (nI ((us_ct (us_tm V I) co vv i) + 1))), (4, .int (nI i)), (0, .ref (ad 0)), (1, .int (nI co)), (2, .int vv)]) X.x X.b dM_removeAll_58 hl (k := 1) rfl (us_inc _) (by decide) rfl (fun ls hl => ?_)
                refine lv_iinc (v := (nI (i + 1))) (lv' := [(4, .int (nI (i + 1))), (3, .int (nI ((us_ct (us_tm V I) co vv i) + 1))), (0, .ref (ad 0)), (1, .int (nI co)), (2, .int vv)]) X.x X.b dM_removeAll_61 hl (k := 1) rfl (us_inc _) (by decide) rfl (fun ls hl => ?_)
                refine lv_goto (tgt := 20) X.x X.b dM_removeAll_64 (by decide) ?_
                rw [← us_ct_1 g4] at hl
                exact ih (i + 1) H locs ls (by omega) Y hl
      refine lv_iconst (v := nI 0) X.x X.b dM_removeAll_15 (by decide) ?_
      refine lv_istore_n (lv' := [(3, .int (nI 0)), (0, .ref (ad 0)), (1, .int (nI co)), (2, .int vv)]) X.x X.b dM_removeAll_16 rfl hl (by decide) rfl (fun ls hl => ?_)
      refine lv_iconst (v := nI 0) X.x X.b dM_removeAll_17 (by decide) ?_
      refine lv_istore (lv' := [(4, .int (nI 0)), (3, .int (nI 0)), (0, .ref (ad 0)), (1, .int (nI co)), (2, .int vv)]) X.x X.b dM_removeAll_18 hl (by decide) rfl (fun ls hl => ?_)
      exact loop1 n 0 s.heap [] ls (by omega) Y hl
    · refine lv_aload_n X.x X.b dM_removeAll_9 rfl (lv_at hl 0 rfl) ?_
      refine lv_iconst (v := nI 1) X.x X.b dM_removeAll_10 (by decide) ?_
      refine us_vi (rest := []) X Y (k_M_no l D ad cI cZ s.heap.size th n np k V KV I KI PN KR KC (nI 1)) us_I8 0 rfl rfl cv_M_45 rfl ⟨by decide, by decide⟩ ⟨by decide, by decide⟩ hl.1 rfl (Nat.le_of_ble_eq_true rfl) dM_removeAll_11 (fun rr u H locs _ Y => ?_)
      have Y : us_Y D A (mW ad cI cZ (nI 1) n np k V KV I KI PN KR KC) s H locs := Y
      exact us_iret (u := ((nI 1), n, np, k, V, KV, I, KI, PN, KR, KC)) X Y hr hlk (⟨1, n, T, k, Or.inl ⟨rfl, fun ⟨j, h3, h4⟩ => h2 (by rw [h4]; exact nI_le (by omega) (by decide)), rfl, rfl, rfl⟩, rfl, rfl, rfl, rfl, hM⟩) dM_removeAll_14
set_option maxHeartbeats 4000000 in
set_option maxRecDepth 100000 in
theorem k_M_find (l : Launch) (D : va_G) (ad : Nat → Nat) (cI cZ : ClassId) (sz : Nat) (th : Int32) (n np k : Nat) (V KV I KI PN KR KC : Nat → Int32) (T : us_T) (nm : Nat → Int32) (sn : Nat → Nat) (sT : Nat → us_T) (sk : Nat → Nat) (hM : us_M n T k np nm sn sT sk V KV I KI PN KR KC) (vco vv : Int32) : us_Ci l yM_find cM_find 3 (some .int) 1 23 [.ref (ad 0), .int vco, .int vv] D (tyM cI cZ) (mW ad cI cZ th n np k V KV I KI PN KR KC) sz (fun r (u : us_SM) => ∃ cd, us_fR n T vco vv cd r ∧ us_ms u (nI cd) n T k np nm sn sT sk) (fun (u : us_SM) => mWS ad cI cZ u) := by
  refine us_enter (own := RM) rfl (by decide) (Nat.le_of_ble_eq_true rfl) ?_
  intro p e s m below meth c ls X Y hr hlk hl
  generalize va_A (mW ad cI cZ th n np k V KV I KI PN KR KC) sz = A at X Y ⊢
  have hl : lv_has ls 3 [(0, .ref (ad 0)), (1, .int vco), (2, .int vv)] := hl
  have h1n := hM.1
  have h1p := hM.2.1
  have h1k := hM.2.2.1
  have h4 := hM.2.2.2.1
  have hI := hM.2.2.2.2.1
  have hKI := hM.2.2.2.2.2.1
  refine lv_iload_n X.x X.b dM_find_0 rfl (lv_at hl 1 rfl) ?_
  refine lv_if_eq (tgt := 15) X.x X.b dM_find_1 (by decide) (fun h1 => ?_) (fun h1 => ?_)
  · obtain rfl : vco = nI 0 := h1.trans nI_0.symm
    refine lv_aload_n X.x X.b dM_find_15 rfl (lv_at hl 0 rfl) ?_
    refine lv_iconst (v := nI 0) X.x X.b dM_find_16 (by decide) ?_
    refine us_pM X Y 0 rfl 0 (by decide) mB_fl_M_32 rfl rfl rfl (Nat.le_of_ble_eq_true rfl) dM_find_17 (fun H locs Y => ?_)
    have Y : us_Y D A (mW ad cI cZ (nI 0) n np k V KV I KI PN KR KC) s H locs := Y
    refine lv_aload_n X.x X.b dM_find_20 rfl (lv_at hl 0 rfl) ?_
    refine lv_iload_n X.x X.b dM_find_21 rfl (lv_at hl 1 rfl) ?_
    refine lv_iload_n X.x X.b dM_find_22 rfl (lv_at hl 2 rfl) ?_
    refine us_vi (rest := []) X Y (k_M_row l D ad cI cZ H.size (nI 0) n np k V KV I KI PN KR KC 0 vv h1n (by decide)) us_I8 0 rfl rfl cv_M_53 rfl ⟨by decide, by decide⟩ ⟨by decide, by decide⟩ hl.1 rfl (Nat.le_of_ble_eq_true rfl) dM_find_23 (fun rr u H locs r1 Y => ?_)
    have Y : us_Y D A (mW ad cI cZ (nI 0) n np k V KV I KI PN KR KC) s H locs := Y
    exact us_iret (u := ((nI 0), n, np, k, V, KV, I, KI, PN, KR, KC)) X Y hr hlk (⟨0, Or.inr ⟨0, by decide, rfl, rfl, r1.eq (by decide) h4⟩, rfl, rfl, rfl, rfl, hM⟩) dM_find_26
  · refine lv_iload_n X.x X.b dM_find_4 rfl (lv_at hl 1 rfl) ?_
    refine lv_iconst (v := nI 1) X.x X.b dM_find_5 (by decide) ?_
    refine lv_icmp_eq (tgt := 15) X.x X.b dM_find_6 (by decide) (fun h2 => ?_) (fun h2 => ?_)
    · obtain rfl : vco = nI 1 := h2
      refine lv_aload_n X.x X.b dM_find_15 rfl (lv_at hl 0 rfl) ?_
      refine lv_iconst (v := nI 0) X.x X.b dM_find_16 (by decide) ?_
      refine us_pM X Y 0 rfl 0 (by decide) mB_fl_M_32 rfl rfl rfl (Nat.le_of_ble_eq_true rfl) dM_find_17 (fun H locs Y => ?_)
      have Y : us_Y D A (mW ad cI cZ (nI 0) n np k V KV I KI PN KR KC) s H locs := Y
      refine lv_aload_n X.x X.b dM_find_20 rfl (lv_at hl 0 rfl) ?_
      refine lv_iload_n X.x X.b dM_find_21 rfl (lv_at hl 1 rfl) ?_
      refine lv_iload_n X.x X.b dM_find_22 rfl (lv_at hl 2 rfl) ?_
      refine us_vi (rest := []) X Y (k_M_row l D ad cI cZ H.size (nI 0) n np k V KV I KI PN KR KC 1 vv h1n (by decide)) us_I8 0 rfl rfl cv_M_53 rfl ⟨by decide, by decide⟩ ⟨by decide, by decide⟩ hl.1 rfl (Nat.le_of_ble_eq_true rfl) dM_find_23 (fun rr u H locs r1 Y => ?_)
      have Y : us_Y D A (mW ad cI cZ (nI 0) n np k V KV I KI PN KR KC) s H locs := Y
      exact us_iret (u := ((nI 0), n, np, k, V, KV, I, KI, PN, KR, KC)) X Y hr hlk (⟨0, Or.inr ⟨1, by decide, rfl, rfl, r1.eq (by decide) h4⟩, rfl, rfl, rfl, rfl, hM⟩) dM_find_26
    · refine lv_aload_n X.x X.b dM_find_9 rfl (lv_at hl 0 rfl) ?_
      refine lv_iconst (v := nI 1) X.x X.b dM_find_10 (by decide) ?_
      refine us_vi (rest := []) X Y (k_M_no l D ad cI cZ s.heap.size th n np k V KV I KI PN KR KC (nI 1)) us_I8 0 rfl rfl cv_M_45 rfl ⟨by decide, by decide⟩ ⟨by decide, by decide⟩ hl.1 rfl (Nat.le_of_ble_eq_true rfl) dM_find_11 (fun rr u H locs _ Y => ?_)
      have Y : us_Y D A (mW ad cI cZ (nI 1) n np k V KV I KI PN KR KC) s H locs := Y
      exact us_iret (u := ((nI 1), n, np, k, V, KV, I, KI, PN, KR, KC)) X Y hr hlk (⟨1, Or.inl ⟨rfl, fun ⟨j, h3, h4⟩ => by rcases (show j = 0 ∨ j = 1 by omega) with e | e; exact h1 (by rw [h4, e]; exact nI_0); exact h2 (by rw [h4, e])⟩, rfl, rfl, rfl, rfl, hM⟩) dM_find_14
set_option maxHeartbeats 4000000 in
set_option maxRecDepth 100000 in
theorem k_M_value (l : Launch) (D : va_G) (ad : Nat → Nat) (cI cZ : ClassId) (sz : Nat) (th : Int32) (n np k : Nat) (V KV I KI PN KR KC : Nat → Int32) (T : us_T) (nm : Nat → Int32) (sn : Nat → Nat) (sT : Nat → us_T) (sk : Nat → Nat) (hM : us_M n T k np nm sn sT sk V KV I KI PN KR KC) (vr vco : Int32) : us_Ci l yM_value cM_value 3 (some .int) 1 21 [.ref (ad 0), .int vr, .int vco] D (tyM cI cZ) (mW ad cI cZ th n np k V KV I KI PN KR KC) sz (fun r (u : us_SM) => ∃ cd, us_vR n T vr vco cd r ∧ us_ms u (nI cd) n T k np nm sn sT sk) (fun (u : us_SM) => mWS ad cI cZ u) := by
  refine us_enter (own := RM) rfl (by decide) (Nat.le_of_ble_eq_true rfl) ?_
  intro p e s m below meth c ls X Y hr hlk hl
  generalize va_A (mW ad cI cZ th n np k V KV I KI PN KR KC) sz = A at X Y ⊢
  have hl : lv_has ls 3 [(0, .ref (ad 0)), (1, .int vr), (2, .int vco)] := hl
  have h1n := hM.1
  have h1p := hM.2.1
  have h1k := hM.2.2.1
  have h4 := hM.2.2.2.1
  have hI := hM.2.2.2.2.1
  have hKI := hM.2.2.2.2.2.1
  refine lv_aload_n X.x X.b dM_value_0 rfl (lv_at hl 0 rfl) ?_
  refine lv_iload_n X.x X.b dM_value_1 rfl (lv_at hl 2 rfl) ?_
  refine lv_if_lt (tgt := 10) X.x X.b dM_value_2 (by decide) (fun h1 => ?_) (fun h1 => ?_)
  · refine lv_iconst (v := nI 1) X.x X.b dM_value_10 (by decide) ?_
    refine lv_goto (tgt := 40) X.x X.b dM_value_11 (by decide) ?_
    refine us_pM X Y 0 rfl 0 (by decide) mB_fl_M_32 rfl rfl rfl (Nat.le_of_ble_eq_true rfl) dM_value_40 (fun H locs Y => ?_)
    have Y : us_Y D A (mW ad cI cZ (nI 1) n np k V KV I KI PN KR KC) s H locs := Y
    refine lv_aload_n X.x X.b dM_value_43 rfl (lv_at hl 0 rfl) ?_
    refine us_gM X Y 0 rfl 0 (by decide) mB_fl_M_32 rfl dM_value_44 ?_
    refine us_eq1 (tgt := 54) X dM_value_47 (by decide) ?_
    refine lv_iconst (v := nI 0) X.x X.b dM_value_50 (by decide) ?_
    refine lv_goto (tgt := 64) X.x X.b dM_value_51 (by decide) ?_
    exact us_iret (u := ((nI 1), n, np, k, V, KV, I, KI, PN, KR, KC)) X Y hr hlk (⟨1, Or.inl ⟨rfl, fun ⟨c, h3, h4⟩ => nI_pos (n := c) (by omega) (h4 ▸ h1)⟩, rfl, rfl, rfl, rfl, hM⟩) dM_value_64
  · refine lv_iload_n X.x X.b dM_value_5 rfl (lv_at hl 2 rfl) ?_
    refine lv_iconst (v := nI 2) X.x X.b dM_value_6 (by decide) ?_
    refine lv_icmp_le (tgt := 14) X.x X.b dM_value_7 (by decide) (fun h2 => ?_) (fun h2 => ?_)
    · obtain ⟨co, hco, rfl⟩ := us_le2 (by decide) h1 h2
      refine lv_aload_n X.x X.b dM_value_14 rfl (lv_at hl 0 rfl) ?_
      refine lv_iload_n X.x X.b dM_value_15 rfl (lv_at hl 1 rfl) ?_
      refine us_vi (rest := [.ref (ad 0)]) X Y (k_M_isRow l D ad cI cZ s.heap.size th n np k V KV I KI PN KR KC vr h1n) us_I8 0 rfl rfl cv_M_60 rfl ⟨by decide, by decide⟩ ⟨by decide, by decide⟩ hl.1 rfl (Nat.le_of_ble_eq_true rfl) dM_value_16 (fun rr u H locs g1 Y => ?_)
      have Y : us_Y D A (mW ad cI cZ th n np k V KV I KI PN KR KC) s H locs := Y
      rcases g1 with ⟨rfl, g1⟩ | ⟨rfl, g1⟩
      · refine us_eq1 (tgt := 35) X dM_value_19 (by decide) ?_
        obtain ⟨ir, hir, rfl⟩ := g1
        refine lv_aload_n X.x X.b dM_value_22 rfl (lv_at hl 0 rfl) ?_
        refine us_gM X Y 0 rfl 6 (by decide) mB_fl_M_16 rfl dM_value_23 ?_
        refine lv_iconst (v := nI 3) X.x X.b dM_value_26 (by decide) ?_
        refine lv_iload_n X.x X.b dM_value_27 rfl (lv_at hl 1 rfl) ?_
        refine us_imul X dM_value_28 ?_
        refine lv_iload_n X.x X.b dM_value_29 rfl (lv_at hl 2 rfl) ?_
        refine us_iadd X dM_value_30 ?_
        refine us_za X Y 3 1 rfl rfl (i := (3 * ir) + co) (by omega) (by decide) dM_value_31 ?_
        refine lv_if_ne (tgt := 39) X.x X.b dM_value_32 (by decide) (fun h3 => ?_) (fun h3 => ?_)
        · refine lv_iconst (v := nI 0) X.x X.b dM_value_39 (by decide) ?_
          refine us_pM X Y 0 rfl 0 (by decide) mB_fl_M_32 rfl rfl rfl (Nat.le_of_ble_eq_true rfl) dM_value_40 (fun H locs Y => ?_)
          have Y : us_Y D A (mW ad cI cZ (nI 0) n np k V KV I KI PN KR KC) s H locs := Y
          refine lv_aload_n X.x X.b dM_value_43 rfl (lv_at hl 0 rfl) ?_
          refine us_gM X Y 0 rfl 0 (by decide) mB_fl_M_32 rfl dM_value_44 ?_
          refine us_eq0 (tgt := 54) X dM_value_47 (by decide) ?_
          refine lv_aload_n X.x X.b dM_value_54 rfl (lv_at hl 0 rfl) ?_
          refine us_gM X Y 0 rfl 4 (by decide) mB_fl_M_9 rfl dM_value_55 ?_
          refine lv_iconst (v := nI 3) X.x X.b dM_value_58 (by decide) ?_
          refine lv_iload_n X.x X.b dM_value_59 rfl (lv_at hl 1 rfl) ?_
          refine us_imul X dM_value_60 ?_
          refine lv_iload_n X.x X.b dM_value_61 rfl (lv_at hl 2 rfl) ?_
          refine us_iadd X dM_value_62 ?_
          refine us_ia X Y 1 0 rfl rfl (i := (3 * ir) + co) (by omega) (by decide) dM_value_63 ?_
          exact us_iret (u := ((nI 0), n, np, k, V, KV, I, KI, PN, KR, KC)) X Y hr hlk (⟨0, Or.inr ⟨co, hco, rfl, Or.inr ⟨ir, hir, rfl, (h4 ir co hir hco).symm.trans (us_tm_1 h3), rfl⟩⟩, rfl, rfl, rfl, rfl, hM⟩) dM_value_64
        · refine lv_iconst (v := nI 2) X.x X.b dM_value_35 (by decide) ?_
          refine lv_goto (tgt := 40) X.x X.b dM_value_36 (by decide) ?_
          refine us_pM X Y 0 rfl 0 (by decide) mB_fl_M_32 rfl rfl rfl (Nat.le_of_ble_eq_true rfl) dM_value_40 (fun H locs Y => ?_)
          have Y : us_Y D A (mW ad cI cZ (nI 2) n np k V KV I KI PN KR KC) s H locs := Y
          refine lv_aload_n X.x X.b dM_value_43 rfl (lv_at hl 0 rfl) ?_
          refine us_gM X Y 0 rfl 0 (by decide) mB_fl_M_32 rfl dM_value_44 ?_
          refine us_zeq (tgt := 54) X (by decide) dM_value_47 (by decide) (fun h0 => absurd h0 (by decide)) (fun _ => ?_)
          refine lv_iconst (v := nI 0) X.x X.b dM_value_50 (by decide) ?_
          refine lv_goto (tgt := 64) X.x X.b dM_value_51 (by decide) ?_
          exact us_iret (u := ((nI 2), n, np, k, V, KV, I, KI, PN, KR, KC)) X Y hr hlk (⟨2, Or.inr ⟨co, hco, rfl, Or.inl ⟨rfl, fun ⟨i, h6, h7, h8⟩ => h8 (by rw [← us_nI (by omega) (by omega) h7, ← h4 ir co hir hco]; exact us_tm_0 h3)⟩⟩, rfl, rfl, rfl, rfl, hM⟩) dM_value_64
      · refine us_eq0 (tgt := 35) X dM_value_19 (by decide) ?_
        refine lv_iconst (v := nI 2) X.x X.b dM_value_35 (by decide) ?_
        refine lv_goto (tgt := 40) X.x X.b dM_value_36 (by decide) ?_
        refine us_pM X Y 0 rfl 0 (by decide) mB_fl_M_32 rfl rfl rfl (Nat.le_of_ble_eq_true rfl) dM_value_40 (fun H locs Y => ?_)
        have Y : us_Y D A (mW ad cI cZ (nI 2) n np k V KV I KI PN KR KC) s H locs := Y
        refine lv_aload_n X.x X.b dM_value_43 rfl (lv_at hl 0 rfl) ?_
        refine us_gM X Y 0 rfl 0 (by decide) mB_fl_M_32 rfl dM_value_44 ?_
        refine us_zeq (tgt := 54) X (by decide) dM_value_47 (by decide) (fun h0 => absurd h0 (by decide)) (fun _ => ?_)
        refine lv_iconst (v := nI 0) X.x X.b dM_value_50 (by decide) ?_
        refine lv_goto (tgt := 64) X.x X.b dM_value_51 (by decide) ?_
        exact us_iret (u := ((nI 2), n, np, k, V, KV, I, KI, PN, KR, KC)) X Y hr hlk (⟨2, Or.inr ⟨co, hco, rfl, Or.inl ⟨rfl, fun ⟨i, h3, h4, _⟩ => g1 ⟨i, h3, h4⟩⟩⟩, rfl, rfl, rfl, rfl, hM⟩) dM_value_64
    · refine lv_iconst (v := nI 1) X.x X.b dM_value_10 (by decide) ?_
      refine lv_goto (tgt := 40) X.x X.b dM_value_11 (by decide) ?_
      refine us_pM X Y 0 rfl 0 (by decide) mB_fl_M_32 rfl rfl rfl (Nat.le_of_ble_eq_true rfl) dM_value_40 (fun H locs Y => ?_)
      have Y : us_Y D A (mW ad cI cZ (nI 1) n np k V KV I KI PN KR KC) s H locs := Y
      refine lv_aload_n X.x X.b dM_value_43 rfl (lv_at hl 0 rfl) ?_
      refine us_gM X Y 0 rfl 0 (by decide) mB_fl_M_32 rfl dM_value_44 ?_
      refine us_eq1 (tgt := 54) X dM_value_47 (by decide) ?_
      refine lv_iconst (v := nI 0) X.x X.b dM_value_50 (by decide) ?_
      refine lv_goto (tgt := 64) X.x X.b dM_value_51 (by decide) ?_
      exact us_iret (u := ((nI 1), n, np, k, V, KV, I, KI, PN, KR, KC)) X Y hr hlk (⟨1, Or.inl ⟨rfl, fun ⟨c, h3, h4⟩ => h2 (by rw [h4]; exact nI_le (by omega) (by decide))⟩, rfl, rfl, rfl, rfl, hM⟩) dM_value_64
set_option maxHeartbeats 4000000 in
set_option maxRecDepth 100000 in
theorem k_M_mark (l : Launch) (D : va_G) (ad : Nat → Nat) (cI cZ : ClassId) (sz : Nat) (th : Int32) (n np k : Nat) (V KV I KI PN KR KC : Nat → Int32) (T : us_T) (nm : Nat → Int32) (sn : Nat → Nat) (sT : Nat → us_T) (sk : Nat → Nat) (hM : us_M n T k np nm sn sT sk V KV I KI PN KR KC) (x : Int32) : us_Cv l yM_mark cM_mark 3 0 0 [.ref (ad 0), .int x] D (tyM cI cZ) (mW ad cI cZ th n np k V KV I KI PN KR KC) sz (fun (u : us_SM) => ∃ cd np' nm' sn' sT' sk', us_mR n T k np nm sn sT sk x cd np' nm' sn' sT' sk' ∧ us_ms u (nI cd) n T k np' nm' sn' sT' sk') (fun (u : us_SM) => mWS ad cI cZ u) := by
  refine us_enter (own := RM) rfl (by decide) (Nat.le_of_ble_eq_true rfl) ?_
  intro p e s m below meth c ls X Y hr hlk hl
  generalize va_A (mW ad cI cZ th n np k V KV I KI PN KR KC) sz = A at X Y ⊢
  have hl : lv_has ls 3 [(0, .ref (ad 0)), (1, .int x)] := hl
  have h1n := hM.1
  have h1p := hM.2.1
  have h1k := hM.2.2.1
  have h4 := hM.2.2.2.1
  have hI := hM.2.2.2.2.1
  have hKI := hM.2.2.2.2.2.1
  have loop : ∀ (d i : Nat) (H : Heap) (locs : List Loc) (ls : Array Slot), np < 20 → i + d = 360 → us_Y D A (mW ad cI cZ (nI 0) n np k V (us_ck KV V (360 * np) i) I (us_ck KI I (360 * np) i) PN KR KC) s H locs → lv_has ls 3 [(2, .int (nI i)), (0, .ref (ad 0)), (1, .int x)] → W p l e { frames := 0, cells := 0, slots := 0, locals := 0 } s m [.ref (ad 0), .int x].toArray below meth c H locs 0 0 (us_Qv below (fun (u : us_SM) => ∃ cd np' nm' sn' sT' sk', us_mR n T k np nm sn sT sk x cd np' nm' sn' sT' sk' ∧ us_ms u (nI cd) n T k np' nm' sn' sT' sk') D (tyM cI cZ) A (fun (u : us_SM) => mWS ad cI cZ u) [.ref (ad 0), .int x] s) (F0 m 28 ls []) := by
    intro d
    induction d with
    | zero =>
      intro i H locs ls hp hi Y hl
      have ei : i = 360 := by omega
      subst ei
      refine lv_iload_n X.x X.b dM_mark_28 rfl (lv_at hl 0 rfl) ?_
      refine lv_sipush (v := nI 360) X.x X.b dM_mark_29 (by decide) ?_
      refine us_cge (tgt := 83) X (by decide) (by decide) dM_mark_32 (by decide) (fun _ => ?_) (fun h0 => absurd h0 (by decide))
      refine lv_aload_n X.x X.b dM_mark_83 rfl (lv_at hl 1 rfl) ?_
      refine us_gM X Y 0 rfl 8 (by decide) mB_fl_M_23 rfl dM_mark_84 ?_
      refine lv_aload_n X.x X.b dM_mark_87 rfl (lv_at hl 1 rfl) ?_
      refine us_gM X Y 0 rfl 2 (by decide) mB_fl_M_39 rfl dM_mark_88 ?_
      refine lv_iload_n X.x X.b dM_mark_91 rfl (lv_at hl 2 rfl) ?_
      refine us_is X Y 5 0 rfl rfl (i := np) (by omega) (by decide) dM_mark_92 (fun H locs Y => ?_)
      have Y : us_Y D A (mW ad cI cZ (nI 0) n np k V ((us_ck KV V (360 * np) 360)) I ((us_ck KI I (360 * np) 360)) ((upd PN np x)) KR KC) s H locs := Y
      refine lv_aload_n X.x X.b dM_mark_93 rfl (lv_at hl 1 rfl) ?_
      refine us_gM X Y 0 rfl 9 (by decide) mB_fl_M_26 rfl dM_mark_94 ?_
      refine lv_aload_n X.x X.b dM_mark_97 rfl (lv_at hl 1 rfl) ?_
      refine us_gM X Y 0 rfl 2 (by decide) mB_fl_M_39 rfl dM_mark_98 ?_
      refine lv_aload_n X.x X.b dM_mark_101 rfl (lv_at hl 1 rfl) ?_
      refine us_gM X Y 0 rfl 1 (by decide) mB_fl_M_36 rfl dM_mark_102 ?_
      refine us_is X Y 6 0 rfl rfl (i := np) (by omega) (by decide) dM_mark_105 (fun H locs Y => ?_)
      have Y : us_Y D A (mW ad cI cZ (nI 0) n np k V ((us_ck KV V (360 * np) 360)) I ((us_ck KI I (360 * np) 360)) ((upd PN np x)) ((upd KR np (nI n))) KC) s H locs := Y
      refine lv_aload_n X.x X.b dM_mark_106 rfl (lv_at hl 1 rfl) ?_
      refine us_gM X Y 0 rfl 10 (by decide) mB_fl_M_29 rfl dM_mark_107 ?_
      refine lv_aload_n X.x X.b dM_mark_110 rfl (lv_at hl 1 rfl) ?_
      refine us_gM X Y 0 rfl 2 (by decide) mB_fl_M_39 rfl dM_mark_111 ?_
      refine lv_aload_n X.x X.b dM_mark_114 rfl (lv_at hl 1 rfl) ?_
      refine us_gM X Y 0 rfl 3 (by decide) mB_fl_M_42 rfl dM_mark_115 ?_
      refine us_is X Y 7 0 rfl rfl (i := np) (by omega) (by decide) dM_mark_118 (fun H locs Y => ?_)
      have Y : us_Y D A (mW ad cI cZ (nI 0) n np k V ((us_ck KV V (360 * np) 360)) I ((us_ck KI I (360 * np) 360)) ((upd PN np x)) ((upd KR np (nI n))) ((upd KC np (nI k)))) s H locs := Y
      refine lv_aload_n X.x X.b dM_mark_119 rfl (lv_at hl 1 rfl) ?_
      refine lv_dup X.x X.b dM_mark_120 rfl ?_
      refine us_gM X Y 0 rfl 2 (by decide) mB_fl_M_39 rfl dM_mark_121 ?_
      refine lv_iconst (v := nI 1) X.x X.b dM_mark_124 (by decide) ?_
      refine us_iadd X dM_mark_125 ?_
      refine us_pM X Y 0 rfl 2 (by decide) mB_fl_M_39 rfl rfl rfl (Nat.le_of_ble_eq_true rfl) dM_mark_126 (fun H locs Y => ?_)
      have Y : us_Y D A (mW ad cI cZ (nI 0) n (np + 1) k V ((us_ck KV V (360 * np) 360)) I ((us_ck KI I (360 * np) 360)) ((upd PN np x)) ((upd KR np (nI n))) ((upd KC np (nI k)))) s H locs := Y
      exact us_vret (u := ((nI 0), n, (np + 1), k, V, ((us_ck KV V (360 * np) 360)), I, ((us_ck KI I (360 * np) 360)), ((upd PN np x)), ((upd KR np (nI n))), ((upd KC np (nI k))))) X Y hr hlk (⟨0, np + 1, _, _, _, _, Or.inr ⟨rfl, by omega, rfl, rfl, rfl, rfl, rfl⟩, rfl, rfl, rfl, rfl, hM.mark hp x⟩) dM_mark_129
    | succ d ih =>
      intro i H locs ls hp hi Y hl
      refine lv_iload_n X.x X.b dM_mark_28 rfl (lv_at hl 0 rfl) ?_
      refine lv_sipush (v := nI 360) X.x X.b dM_mark_29 (by decide) ?_
      refine us_cge (tgt := 83) X (by omega) (by omega) dM_mark_32 (by decide) (fun h1 => ?_) (fun h1 => ?_)
      · exact absurd h1 (by omega)
      · refine lv_aload_n X.x X.b dM_mark_35 rfl (lv_at hl 1 rfl) ?_
        refine us_gM X Y 0 rfl 5 (by decide) mB_fl_M_13 rfl dM_mark_36 ?_
        refine lv_sipush (v := nI 360) X.x X.b dM_mark_39 (by decide) ?_
        refine lv_aload_n X.x X.b dM_mark_42 rfl (lv_at hl 1 rfl) ?_
        refine us_gM X Y 0 rfl 2 (by decide) mB_fl_M_39 rfl dM_mark_43 ?_
        refine us_imul X dM_mark_46 ?_
        refine lv_iload_n X.x X.b dM_mark_47 rfl (lv_at hl 0 rfl) ?_
        refine us_iadd X dM_mark_48 ?_
        refine lv_aload_n X.x X.b dM_mark_49 rfl (lv_at hl 1 rfl) ?_
        refine us_gM X Y 0 rfl 4 (by decide) mB_fl_M_9 rfl dM_mark_50 ?_
        refine lv_iload_n X.x X.b dM_mark_53 rfl (lv_at hl 0 rfl) ?_
        refine us_ia X Y 1 0 rfl rfl (i := i) (by omega) (by decide) dM_mark_54 ?_
        refine us_is X Y 2 0 rfl rfl (i := (360 * np) + i) (by omega) (by decide) dM_mark_55 (fun H locs Y => ?_)
        have Y : us_Y D A (mW ad cI cZ (nI 0) n np k V ((upd (us_ck KV V (360 * np) i) ((360 * np) + i) (V i))) I ((us_ck KI I (360 * np) i)) PN KR KC) s H locs := Y
        refine lv_aload_n X.x X.b dM_mark_56 rfl (lv_at hl 1 rfl) ?_
        refine us_gM X Y 0 rfl 7 (by decide) mB_fl_M_20 rfl dM_mark_57 ?_
        refine lv_sipush (v := nI 360) X.x X.b dM_mark_60 (by decide) ?_
        refine lv_aload_n X.x X.b dM_mark_63 rfl (lv_at hl 1 rfl) ?_
        refine us_gM X Y 0 rfl 2 (by decide) mB_fl_M_39 rfl dM_mark_64 ?_
        refine us_imul X dM_mark_67 ?_
        refine lv_iload_n X.x X.b dM_mark_68 rfl (lv_at hl 0 rfl) ?_
        refine us_iadd X dM_mark_69 ?_
        refine lv_aload_n X.x X.b dM_mark_70 rfl (lv_at hl 1 rfl) ?_
        refine us_gM X Y 0 rfl 6 (by decide) mB_fl_M_16 rfl dM_mark_71 ?_
        refine lv_iload_n X.x X.b dM_mark_74 rfl (lv_at hl 0 rfl) ?_
        refine us_za X Y 3 1 rfl rfl (i := i) (by omega) (by decide) dM_mark_75 ?_
        refine us_zs X Y 4 1 rfl rfl (i := (360 * np) + i) (by omega) (by decide) dM_mark_76 (fun H locs Y => ?_)
        have Y : us_Y D A (mW ad cI cZ (nI 0) n np k V ((upd (us_ck KV V (360 * np) i) ((360 * np) + i) (V i))) I ((upd (us_ck KI I (360 * np) i) ((360 * np) + i) (vp_nar .boolean (I i)))) PN KR KC) s H locs := Y
        rw [us_nb (hI _), us_ck_s, us_ck_s] at Y
        refine lv_iinc (v := (nI (i + 1))) (lv' := [(2, .int (nI (i + 1))), (0, .ref (ad 0)), (1, .int x)]) X.x X.b dM_mark_77 hl (k := 0) rfl (us_inc _) (by decide) rfl (fun ls hl => ?_)
        refine lv_goto (tgt := 28) X.x X.b dM_mark_80 (by decide) ?_
        exact ih (i + 1) H locs ls hp (by omega) Y hl
  refine lv_aload_n X.x X.b dM_mark_0 rfl (lv_at hl 0 rfl) ?_
  refine lv_aload_n X.x X.b dM_mark_1 rfl (lv_at hl 0 rfl) ?_
  refine us_gM X Y 0 rfl 2 (by decide) mB_fl_M_39 rfl dM_mark_2 ?_
  refine lv_bipush (v := nI 20) X.x X.b dM_mark_5 (by decide) ?_
  refine us_cne (tgt := 14) X (by omega) (by omega) dM_mark_7 (by decide) (fun h1 => ?_) (fun h1 => ?_)
  · refine lv_iconst (v := nI 0) X.x X.b dM_mark_14 (by decide) ?_
    refine us_pM X Y 0 rfl 0 (by decide) mB_fl_M_32 rfl rfl rfl (Nat.le_of_ble_eq_true rfl) dM_mark_15 (fun H locs Y => ?_)
    have Y : us_Y D A (mW ad cI cZ (nI 0) n np k V KV I KI PN KR KC) s H locs := Y
    refine lv_aload_n X.x X.b dM_mark_18 rfl (lv_at hl 0 rfl) ?_
    refine us_gM X Y 0 rfl 0 (by decide) mB_fl_M_32 rfl dM_mark_19 ?_
    refine us_eq0 (tgt := 26) X dM_mark_22 (by decide) ?_
    refine lv_iconst (v := nI 0) X.x X.b dM_mark_26 (by decide) ?_
    refine lv_istore_n (lv' := [(2, .int (nI 0)), (0, .ref (ad 0)), (1, .int x)]) X.x X.b dM_mark_27 rfl hl (by decide) rfl (fun ls hl => ?_)
    exact loop 360 0 H locs ls (by omega) rfl (by rw [us_ck_0, us_ck_0]; exact Y) hl
  · refine lv_iconst (v := nI 1) X.x X.b dM_mark_10 (by decide) ?_
    refine lv_goto (tgt := 15) X.x X.b dM_mark_11 (by decide) ?_
    refine us_pM X Y 0 rfl 0 (by decide) mB_fl_M_32 rfl rfl rfl (Nat.le_of_ble_eq_true rfl) dM_mark_15 (fun H locs Y => ?_)
    have Y : us_Y D A (mW ad cI cZ (nI 1) n np k V KV I KI PN KR KC) s H locs := Y
    refine lv_aload_n X.x X.b dM_mark_18 rfl (lv_at hl 0 rfl) ?_
    refine us_gM X Y 0 rfl 0 (by decide) mB_fl_M_32 rfl dM_mark_19 ?_
    refine us_eq1 (tgt := 26) X dM_mark_22 (by decide) ?_
    exact us_vret (u := ((nI 1), n, np, k, V, KV, I, KI, PN, KR, KC)) X Y hr hlk (⟨1, np, nm, sn, sT, sk, Or.inl ⟨rfl, h1, rfl, rfl, rfl, rfl, rfl⟩, rfl, rfl, rfl, rfl, hM⟩) dM_mark_25
set_option maxHeartbeats 4000000 in
set_option maxRecDepth 100000 in
theorem k_M_back (l : Launch) (D : va_G) (ad : Nat → Nat) (cI cZ : ClassId) (sz : Nat) (th : Int32) (n np k : Nat) (V KV I KI PN KR KC : Nat → Int32) (T : us_T) (nm : Nat → Int32) (sn : Nat → Nat) (sT : Nat → us_T) (sk : Nat → Nat) (hM : us_M n T k np nm sn sT sk V KV I KI PN KR KC) (x : Int32) : us_Cv l yM_back cM_back 4 1 22 [.ref (ad 0), .int x] D (tyM cI cZ) (mW ad cI cZ th n np k V KV I KI PN KR KC) sz (fun (u : us_SM) => ∃ cd n' T' k' np', us_bR n T k np nm sn sT sk x cd n' T' k' np' ∧ us_ms u (nI cd) n' T' k' np' nm sn sT sk) (fun (u : us_SM) => mWS ad cI cZ u) := by
  refine us_enter (own := RM) rfl (by decide) (Nat.le_of_ble_eq_true rfl) ?_
  intro p e s m below meth c ls X Y hr hlk hl
  generalize va_A (mW ad cI cZ th n np k V KV I KI PN KR KC) sz = A at X Y ⊢
  have hl : lv_has ls 4 [(0, .ref (ad 0)), (1, .int x)] := hl
  have h1n := hM.1
  have h1p := hM.2.1
  have h1k := hM.2.2.1
  have h4 := hM.2.2.2.1
  have hI := hM.2.2.2.2.1
  have hKI := hM.2.2.2.2.2.1
  have hnm : ∀ q, q < np → PN q = nm q := fun q hq => (hM.2.2.2.2.2.2 q hq).1
  refine lv_aload_n X.x X.b dM_back_0 rfl (lv_at hl 0 rfl) ?_
  refine lv_iload_n X.x X.b dM_back_1 rfl (lv_at hl 1 rfl) ?_
  refine us_vi (rest := []) X Y (k_M_point l D ad cI cZ s.heap.size th n np k V KV I KI PN KR KC x h1p) us_I8 0 rfl rfl cv_M_67 rfl ⟨by decide, by decide⟩ ⟨by decide, by decide⟩ hl.1 rfl (Nat.le_of_ble_eq_true rfl) dM_back_2 (fun rr u H locs g1 Y => ?_)
  have Y : us_Y D A (mW ad cI cZ u n np k V KV I KI PN KR KC) s H locs := Y
  rcases g1 with ⟨pt, hp, rfl, hp2, hp3, rfl⟩ | ⟨rfl, hno, rfl⟩
  · have hlp : us_lp np nm x pt := ⟨hp, (hnm pt hp).symm.trans hp2, fun q h3 h4 => by rw [← hnm q h4]; exact hp3 q h3 h4⟩
    refine lv_istore_n (lv' := [(2, .int (nI pt)), (0, .ref (ad 0)), (1, .int x)]) X.x X.b dM_back_5 rfl hl (by decide) rfl (fun ls hl => ?_)
    refine lv_iload_n X.x X.b dM_back_6 rfl (lv_at hl 0 rfl) ?_
    refine lv_if_ge (tgt := 11) X.x X.b dM_back_7 (by decide) (fun h1 => ?_) (fun h1 => ?_)
    · obtain ⟨-, hb1, eKR, hb2, eKC, -⟩ := hM.2.2.2.2.2.2 pt hp
      have loop : ∀ (d i : Nat) (H : Heap) (locs : List Loc) (ls : Array Slot), i + d = 360 → us_Y D A (mW ad cI cZ (nI 0) n np k (us_cb V KV (360 * pt) i) KV (us_cb I KI (360 * pt) i) KI PN KR KC) s H locs → lv_has ls 4 [(3, .int (nI i)), (2, .int (nI pt)), (0, .ref (ad 0)), (1, .int x)] → W p l e { frames := 1, cells := 0, slots := 0, locals := 22 } s m [.ref (ad 0), .int x].toArray below meth c H locs 0 0 (us_Qv below (fun (u : us_SM) => ∃ cd n' T' k' np', us_bR n T k np nm sn sT sk x cd n' T' k' np' ∧ us_ms u (nI cd) n' T' k' np' nm sn sT sk) D (tyM cI cZ) A (fun (u : us_SM) => mWS ad cI cZ u) [.ref (ad 0), .int x] s) (F0 m 13 ls []) := by
        intro d
        induction d with
        | zero =>
          intro i H locs ls hi Y hl
          have ei : i = 360 := by omega
          subst ei
          refine lv_iload_n X.x X.b dM_back_13 rfl (lv_at hl 0 rfl) ?_
          refine lv_sipush (v := nI 360) X.x X.b dM_back_14 (by decide) ?_
          refine us_cge (tgt := 62) X (by decide) (by decide) dM_back_17 (by decide) (fun _ => ?_) (fun h0 => absurd h0 (by decide))
          refine lv_aload_n X.x X.b dM_back_62 rfl (lv_at hl 2 rfl) ?_
          refine lv_aload_n X.x X.b dM_back_63 rfl (lv_at hl 2 rfl) ?_
          refine us_gM X Y 0 rfl 9 (by decide) mB_fl_M_26 rfl dM_back_64 ?_
          refine lv_iload_n X.x X.b dM_back_67 rfl (lv_at hl 1 rfl) ?_
          refine us_ia X Y 6 0 rfl rfl (i := pt) (by omega) (by decide) dM_back_68 ?_
          rw [eKR]
          refine us_pM X Y 0 rfl 1 (by decide) mB_fl_M_36 rfl rfl rfl (Nat.le_of_ble_eq_true rfl) dM_back_69 (fun H locs Y => ?_)
          have Y : us_Y D A (mW ad cI cZ (nI 0) (sn pt) np k ((us_cb V KV (360 * pt) 360)) KV ((us_cb I KI (360 * pt) 360)) KI PN KR KC) s H locs := Y
          refine lv_aload_n X.x X.b dM_back_72 rfl (lv_at hl 2 rfl) ?_
          refine lv_aload_n X.x X.b dM_back_73 rfl (lv_at hl 2 rfl) ?_
          refine us_gM X Y 0 rfl 10 (by decide) mB_fl_M_29 rfl dM_back_74 ?_
          refine lv_iload_n X.x X.b dM_back_77 rfl (lv_at hl 1 rfl) ?_
          refine us_ia X Y 7 0 rfl rfl (i := pt) (by omega) (by decide) dM_back_78 ?_
          rw [eKC]
          refine us_pM X Y 0 rfl 3 (by decide) mB_fl_M_42 rfl rfl rfl (Nat.le_of_ble_eq_true rfl) dM_back_79 (fun H locs Y => ?_)
          have Y : us_Y D A (mW ad cI cZ (nI 0) (sn pt) np (sk pt) ((us_cb V KV (360 * pt) 360)) KV ((us_cb I KI (360 * pt) 360)) KI PN KR KC) s H locs := Y
          refine lv_aload_n X.x X.b dM_back_82 rfl (lv_at hl 2 rfl) ?_
          refine lv_iload_n X.x X.b dM_back_83 rfl (lv_at hl 1 rfl) ?_
          refine lv_iconst (v := nI 1) X.x X.b dM_back_84 (by decide) ?_
          refine us_iadd X dM_back_85 ?_
          refine us_pM X Y 0 rfl 2 (by decide) mB_fl_M_39 rfl rfl rfl (Nat.le_of_ble_eq_true rfl) dM_back_86 (fun H locs Y => ?_)
          have Y : us_Y D A (mW ad cI cZ (nI 0) (sn pt) (pt + 1) (sk pt) ((us_cb V KV (360 * pt) 360)) KV ((us_cb I KI (360 * pt) 360)) KI PN KR KC) s H locs := Y
          exact us_vret (u := ((nI 0), (sn pt), (pt + 1), (sk pt), ((us_cb V KV (360 * pt) 360)), KV, ((us_cb I KI (360 * pt) 360)), KI, PN, KR, KC)) X Y hr hlk (⟨0, sn pt, _, _, _, Or.inr ⟨pt, hlp, rfl, rfl, rfl, rfl, rfl⟩, rfl, rfl, rfl, rfl, hM.back hp⟩) dM_back_89
        | succ d ih =>
          intro i H locs ls hi Y hl
          refine lv_iload_n X.x X.b dM_back_13 rfl (lv_at hl 0 rfl) ?_
          refine lv_sipush (v := nI 360) X.x X.b dM_back_14 (by decide) ?_
          refine us_cge (tgt := 62) X (by omega) (by omega) dM_back_17 (by decide) (fun h3 => ?_) (fun h3 => ?_)
          · exact absurd h3 (by omega)
          · refine lv_aload_n X.x X.b dM_back_20 rfl (lv_at hl 2 rfl) ?_
            refine us_gM X Y 0 rfl 4 (by decide) mB_fl_M_9 rfl dM_back_21 ?_
            refine lv_iload_n X.x X.b dM_back_24 rfl (lv_at hl 0 rfl) ?_
            refine lv_aload_n X.x X.b dM_back_25 rfl (lv_at hl 2 rfl) ?_
            refine us_gM X Y 0 rfl 5 (by decide) mB_fl_M_13 rfl dM_back_26 ?_
            refine lv_sipush (v := nI 360) X.x X.b dM_back_29 (by decide) ?_
            refine lv_iload_n X.x X.b dM_back_32 rfl (lv_at hl 1 rfl) ?_
            refine us_imul X dM_back_33 ?_
            refine lv_iload_n X.x X.b dM_back_34 rfl (lv_at hl 0 rfl) ?_
            refine us_iadd X dM_back_35 ?_
            refine us_ia X Y 2 0 rfl rfl (i := (360 * pt) + i) (by omega) (by decide) dM_back_36 ?_
            refine us_is X Y 1 0 rfl rfl (i := i) (by omega) (by decide) dM_back_37 (fun H locs Y => ?_)
            have Y : us_Y D A (mW ad cI cZ (nI 0) n np k ((upd (us_cb V KV (360 * pt) i) i (KV ((360 * pt) + i)))) KV ((us_cb I KI (360 * pt) i)) KI PN KR KC) s H locs := Y
            refine lv_aload_n X.x X.b dM_back_38 rfl (lv_at hl 2 rfl) ?_
            refine us_gM X Y 0 rfl 6 (by decide) mB_fl_M_16 rfl dM_back_39 ?_
            refine lv_iload_n X.x X.b dM_back_42 rfl (lv_at hl 0 rfl) ?_
            refine lv_aload_n X.x X.b dM_back_43 rfl (lv_at hl 2 rfl) ?_
            refine us_gM X Y 0 rfl 7 (by decide) mB_fl_M_20 rfl dM_back_44 ?_
            refine lv_sipush (v := nI 360) X.x X.b dM_back_47 (by decide) ?_
            refine lv_iload_n X.x X.b dM_back_50 rfl (lv_at hl 1 rfl) ?_
            refine us_imul X dM_back_51 ?_
            refine lv_iload_n X.x X.b dM_back_52 rfl (lv_at hl 0 rfl) ?_
            refine us_iadd X dM_back_53 ?_
            refine us_za X Y 4 1 rfl rfl (i := (360 * pt) + i) (by omega) (by decide) dM_back_54 ?_
            refine us_zs X Y 3 1 rfl rfl (i := i) (by omega) (by decide) dM_back_55 (fun H locs Y => ?_)
            have Y : us_Y D A (mW ad cI cZ (nI 0) n np k ((upd (us_cb V KV (360 * pt) i) i (KV ((360 * pt) + i)))) KV ((upd (us_cb I KI (360 * pt) i) i (vp_nar .boolean (KI ((360 * pt) + i))))) KI PN KR KC) s H locs := Y
            rw [us_nb (hKI _), us_cb_s, us_cb_s] at Y
            refine lv_iinc (v := (nI (i + 1))) (lv' := [(3, .int (nI (i + 1))), (2, .int (nI pt)), (0, .ref (ad 0)), (1, .int x)]) X.x X.b dM_back_56 hl (k := 0) rfl (us_inc _) (by decide) rfl (fun ls hl => ?_)
            refine lv_goto (tgt := 13) X.x X.b dM_back_59 (by decide) ?_
            exact ih (i + 1) H locs ls (by omega) Y hl
      refine lv_iconst (v := nI 0) X.x X.b dM_back_11 (by decide) ?_
      refine lv_istore_n (lv' := [(3, .int (nI 0)), (2, .int (nI pt)), (0, .ref (ad 0)), (1, .int x)]) X.x X.b dM_back_12 rfl hl (by decide) rfl (fun ls hl => ?_)
      exact loop 360 0 H locs ls rfl (by rw [us_cb_0, us_cb_0]; exact Y) hl
    · exact absurd (nI_pos' (by omega)) h1
  · refine lv_istore_n (lv' := [(2, .int ((-1 : Int32))), (0, .ref (ad 0)), (1, .int x)]) X.x X.b dM_back_5 rfl hl (by decide) rfl (fun ls hl => ?_)
    refine lv_iload_n X.x X.b dM_back_6 rfl (lv_at hl 0 rfl) ?_
    refine lv_if_ge (tgt := 11) X.x X.b dM_back_7 (by decide) (fun h1 => ?_) (fun h1 => ?_)
    · exact absurd h1 (by decide)
    · exact us_vret (u := ((nI 1), n, np, k, V, KV, I, KI, PN, KR, KC)) X Y hr hlk (⟨1, n, T, k, np, Or.inl ⟨rfl, fun q hq => by rw [← hnm q hq]; exact hno q hq, rfl, rfl, rfl, rfl⟩, rfl, rfl, rfl, rfl, hM⟩) dM_back_10
set_option maxHeartbeats 4000000 in
set_option maxRecDepth 100000 in
theorem k_M_release (l : Launch) (D : va_G) (ad : Nat → Nat) (cI cZ : ClassId) (sz : Nat) (th : Int32) (n np k : Nat) (V KV I KI PN KR KC : Nat → Int32) (T : us_T) (nm : Nat → Int32) (sn : Nat → Nat) (sT : Nat → us_T) (sk : Nat → Nat) (hM : us_M n T k np nm sn sT sk V KV I KI PN KR KC) (x : Int32) : us_Cv l yM_release cM_release 3 1 22 [.ref (ad 0), .int x] D (tyM cI cZ) (mW ad cI cZ th n np k V KV I KI PN KR KC) sz (fun (u : us_SM) => ∃ cd k' np', us_lR k np nm x cd k' np' ∧ us_ms u (nI cd) n T k' np' nm sn sT sk) (fun (u : us_SM) => mWS ad cI cZ u) := by
  refine us_enter (own := RM) rfl (by decide) (Nat.le_of_ble_eq_true rfl) ?_
  intro p e s m below meth c ls X Y hr hlk hl
  generalize va_A (mW ad cI cZ th n np k V KV I KI PN KR KC) sz = A at X Y ⊢
  have hl : lv_has ls 3 [(0, .ref (ad 0)), (1, .int x)] := hl
  have h1n := hM.1
  have h1p := hM.2.1
  have h1k := hM.2.2.1
  have h4 := hM.2.2.2.1
  have hI := hM.2.2.2.2.1
  have hKI := hM.2.2.2.2.2.1
  have hnm : ∀ q, q < np → PN q = nm q := fun q hq => (hM.2.2.2.2.2.2 q hq).1
  refine lv_aload_n X.x X.b dM_release_0 rfl (lv_at hl 0 rfl) ?_
  refine lv_iload_n X.x X.b dM_release_1 rfl (lv_at hl 1 rfl) ?_
  refine us_vi (rest := []) X Y (k_M_point l D ad cI cZ s.heap.size th n np k V KV I KI PN KR KC x h1p) us_I8 0 rfl rfl cv_M_67 rfl ⟨by decide, by decide⟩ ⟨by decide, by decide⟩ hl.1 rfl (Nat.le_of_ble_eq_true rfl) dM_release_2 (fun rr u H locs g1 Y => ?_)
  have Y : us_Y D A (mW ad cI cZ u n np k V KV I KI PN KR KC) s H locs := Y
  rcases g1 with ⟨pt, hp, rfl, hp2, hp3, rfl⟩ | ⟨rfl, hno, rfl⟩
  · have hlp : us_lp np nm x pt := ⟨hp, (hnm pt hp).symm.trans hp2, fun q h3 h4 => by rw [← hnm q h4]; exact hp3 q h3 h4⟩
    refine lv_istore_n (lv' := [(2, .int (nI pt)), (0, .ref (ad 0)), (1, .int x)]) X.x X.b dM_release_5 rfl hl (by decide) rfl (fun ls hl => ?_)
    refine lv_iload_n X.x X.b dM_release_6 rfl (lv_at hl 0 rfl) ?_
    refine lv_if_ge (tgt := 11) X.x X.b dM_release_7 (by decide) (fun h1 => ?_) (fun h1 => ?_)
    · refine lv_aload_n X.x X.b dM_release_11 rfl (lv_at hl 1 rfl) ?_
      refine lv_iload_n X.x X.b dM_release_12 rfl (lv_at hl 0 rfl) ?_
      refine us_pM X Y 0 rfl 2 (by decide) mB_fl_M_39 rfl rfl rfl (Nat.le_of_ble_eq_true rfl) dM_release_13 (fun H locs Y => ?_)
      have Y : us_Y D A (mW ad cI cZ (nI 0) n pt k V KV I KI PN KR KC) s H locs := Y
      refine lv_iload_n X.x X.b dM_release_16 rfl (lv_at hl 0 rfl) ?_
      refine us_zne (tgt := 25) X (by omega) dM_release_17 (by decide) (fun h2 => ?_) (fun h2 => ?_)
      · exact us_vret (u := ((nI 0), n, pt, k, V, KV, I, KI, PN, KR, KC)) X Y hr hlk (⟨0, _, pt, Or.inr ⟨pt, hlp, rfl, rfl, rfl⟩, rfl, rfl, rfl, (if_neg (by omega)).symm, hM.rel hp⟩) dM_release_25
      · refine lv_aload_n X.x X.b dM_release_20 rfl (lv_at hl 1 rfl) ?_
        refine lv_iconst (v := nI 0) X.x X.b dM_release_21 (by decide) ?_
        refine us_pM X Y 0 rfl 3 (by decide) mB_fl_M_42 rfl rfl rfl (Nat.le_of_ble_eq_true rfl) dM_release_22 (fun H locs Y => ?_)
        have Y : us_Y D A (mW ad cI cZ (nI 0) n pt 0 V KV I KI PN KR KC) s H locs := Y
        exact us_vret (u := ((nI 0), n, pt, 0, V, KV, I, KI, PN, KR, KC)) X Y hr hlk (⟨0, _, pt, Or.inr ⟨pt, hlp, rfl, rfl, rfl⟩, rfl, rfl, rfl, (if_pos h2).symm, hM.rel hp⟩) dM_release_25
    · exact absurd (nI_pos' (by omega)) h1
  · refine lv_istore_n (lv' := [(2, .int ((-1 : Int32))), (0, .ref (ad 0)), (1, .int x)]) X.x X.b dM_release_5 rfl hl (by decide) rfl (fun ls hl => ?_)
    refine lv_iload_n X.x X.b dM_release_6 rfl (lv_at hl 0 rfl) ?_
    refine lv_if_ge (tgt := 11) X.x X.b dM_release_7 (by decide) (fun h1 => ?_) (fun h1 => ?_)
    · exact absurd h1 (by decide)
    · exact us_vret (u := ((nI 1), n, np, k, V, KV, I, KI, PN, KR, KC)) X Y hr hlk (⟨1, k, np, Or.inl ⟨rfl, fun q hq => by rw [← hnm q hq]; exact hno q hq, rfl, rfl⟩, rfl, rfl, rfl, rfl, hM⟩) dM_release_10
set_option maxHeartbeats 4000000 in
set_option maxRecDepth 100000 in
theorem k_M_count (l : Launch) (D : va_G) (ad : Nat → Nat) (cI cZ : ClassId) (sz : Nat) (th : Int32) (n np k : Nat) (V KV I KI PN KR KC : Nat → Int32) (T : us_T) (x : Int32) (hn : n ≤ 120) (h4 : us_eq n (us_tm V I) T) : us_Ci l yM_count cM_count 2 (some .int) 1 23 [.ref (ad 0), .int x] D (tyM cI cZ) (mW ad cI cZ th n np k V KV I KI PN KR KC) sz (fun r (_ : Unit) => r = us_cnt n T k np x) (fun _ => mW ad cI cZ (nI 0) n np k V KV I KI PN KR KC) := by
  refine us_enter (own := RM) rfl (by decide) (Nat.le_of_ble_eq_true rfl) ?_
  intro p e s m below meth c ls X Y hr hlk hl
  generalize va_A (mW ad cI cZ th n np k V KV I KI PN KR KC) sz = A at X Y ⊢
  have hl : lv_has ls 2 [(0, .ref (ad 0)), (1, .int x)] := hl
  refine lv_aload_n X.x X.b dM_count_0 rfl (lv_at hl 0 rfl) ?_
  refine lv_iconst (v := nI 0) X.x X.b dM_count_1 (by decide) ?_
  refine us_pM X Y 0 rfl 0 (by decide) mB_fl_M_32 rfl rfl rfl (Nat.le_of_ble_eq_true rfl) dM_count_2 (fun H locs Y => ?_)
  have Y : us_Y D A (mW ad cI cZ (nI 0) n np k V KV I KI PN KR KC) s H locs := Y
  refine lv_iload_n X.x X.b dM_count_5 rfl (lv_at hl 1 rfl) ?_
  rcases us_c5 x with rfl | rfl | rfl | rfl | rfl | h1
  · refine lv_tableIn (x := nI 0) (off := 34) (tgt := 40) X.x X.b dM_count_6 (by decide) (by decide) (by decide) (by decide) ?_
    refine lv_aload_n X.x X.b dM_count_40 rfl (lv_at hl 0 rfl) ?_
    refine us_gM X Y 0 rfl 1 (by decide) mB_fl_M_36 rfl dM_count_41 ?_
    exact us_iret (u := ()) X Y hr hlk ((us_cnt_0 n T k np).symm) dM_count_44
  · refine lv_tableIn (x := nI 1) (off := 39) (tgt := 45) X.x X.b dM_count_6 (by decide) (by decide) (by decide) (by decide) ?_
    refine lv_aload_n X.x X.b dM_count_45 rfl (lv_at hl 0 rfl) ?_
    refine us_gM X Y 0 rfl 2 (by decide) mB_fl_M_39 rfl dM_count_46 ?_
    exact us_iret (u := ()) X Y hr hlk ((us_cnt_1 n T k np).symm) dM_count_49
  · refine lv_tableIn (x := nI 2) (off := 44) (tgt := 50) X.x X.b dM_count_6 (by decide) (by decide) (by decide) (by decide) ?_
    refine lv_aload_n X.x X.b dM_count_50 rfl (lv_at hl 0 rfl) ?_
    refine us_gM X Y 0 rfl 3 (by decide) mB_fl_M_42 rfl dM_count_51 ?_
    exact us_iret (u := ()) X Y hr hlk ((us_cnt_2 n T k np).symm) dM_count_54
  · refine lv_tableIn (x := nI 3) (off := 49) (tgt := 55) X.x X.b dM_count_6 (by decide) (by decide) (by decide) (by decide) ?_
    refine lv_aload_n X.x X.b dM_count_55 rfl (lv_at hl 0 rfl) ?_
    refine lv_iconst (v := nI 1) X.x X.b dM_count_56 (by decide) ?_
    refine us_vi (rest := []) X Y (k_M_nones l D ad cI cZ H.size (nI 0) n np k V KV I KI PN KR KC 1 hn (by decide)) us_I8 0 rfl rfl cv_M_70 rfl ⟨by decide, by decide⟩ ⟨by decide, by decide⟩ hl.1 rfl (Nat.le_of_ble_eq_true rfl) dM_count_57 (fun rr u H locs g1 Y => ?_)
    have Y : us_Y D A (mW ad cI cZ (nI 0) n np k V KV I KI PN KR KC) s H locs := Y
    exact us_iret (u := ()) X Y hr hlk (by rw [g1, us_cn_eq (by decide) h4]; exact (us_cnt_3 n T k np).symm) dM_count_60
  · refine lv_tableIn (x := nI 4) (off := 55) (tgt := 61) X.x X.b dM_count_6 (by decide) (by decide) (by decide) (by decide) ?_
    refine lv_aload_n X.x X.b dM_count_61 rfl (lv_at hl 0 rfl) ?_
    refine lv_iconst (v := nI 2) X.x X.b dM_count_62 (by decide) ?_
    refine us_vi (rest := []) X Y (k_M_nones l D ad cI cZ H.size (nI 0) n np k V KV I KI PN KR KC 2 hn (by decide)) us_I8 0 rfl rfl cv_M_70 rfl ⟨by decide, by decide⟩ ⟨by decide, by decide⟩ hl.1 rfl (Nat.le_of_ble_eq_true rfl) dM_count_63 (fun rr u H locs g1 Y => ?_)
    have Y : us_Y D A (mW ad cI cZ (nI 0) n np k V KV I KI PN KR KC) s H locs := Y
    exact us_iret (u := ()) X Y hr hlk (by rw [g1, us_cn_eq (by decide) h4]; exact (us_cnt_4 n T k np).symm) dM_count_66
  · refine lv_tableOut (tgt := 67) X.x X.b dM_count_6 h1 (by decide) ?_
    refine lv_iconst (v := (-1 : Int32)) X.x X.b dM_count_67 (by decide) ?_
    exact us_iret (u := ()) X Y hr hlk ((us_cnt_o h1).symm) dM_count_68
end
section
/-! 50.lawrows: rows for the law and its helpers: the long array, the script, worlds put in order. -/
abbrev oW (ad : Nat → Nat) (cJ : ClassId) (O : Nat → Int64) : Nat × va_E := (ad 7, .inl (cJ, 1, .inr (.inl O)))
abbrev tyO (cI cJ : ClassId) : List (ClassId × FieldType) := [(cI, .int), (cJ, .long)]
abbrev tyL (cI cZ cJ : ClassId) : List (ClassId × FieldType) := [(cI, .int), (cZ, .boolean), (cJ, .long)]
abbrev lW (ad md : Nat → Nat) (cI cZ cJ : ClassId) (u : us_SU) (w : us_SM) (O : Nat → Int64) : va_W := oW ad cJ O :: (uWS ad cI u ++ mWS md cI cZ w)
theorem us_bIA : Cond.castable EIA EIA ∈ us_bad := List.mem_cons_self
theorem us_bIS : Cond.castable EIS EIS ∈ us_bad := List.mem_cons_of_mem _ List.mem_cons_self
theorem us_bNS : Cond.castable ENS ENS ∈ us_bad := List.mem_cons_of_mem _ (List.mem_cons_of_mem _ List.mem_cons_self)
theorem us_IO {ad : Nat → Nat} {cI cJ : ClassId} {C PN CA CK CR CB : Nat → Int32} {n np k : Nat} {O : Nat → Int64} : us_I (oW ad cJ O :: uW ad cI C n PN CA np CK CR CB k) (uW ad cI C n PN CA np CK CR CB k) [oW ad cJ O] (tyO cI cJ) (tyU cI) [1, 2, 3, 4, 5, 6, 7] [0] [0] := ⟨rfl, rfl, rfl, rfl, by decide, rfl⟩
section USL
variable {p : Program} {l : Launch} {e : Env} {R : Room} {s : State} {m : MethodId} {args : Array Value} {below : List Frame} {meth : Method} {c : Code} {H : Heap} {locs : List Loc} {cells slots : Nat} {Q : State → Prop}
variable {cc : ByteArray} {nL pc : Nat} {ls : Array Slot} {rest : List Value} {D : va_G} {A : Nat → Prop} {tys : List (ClassId × FieldType)} {ws : va_W} {own : String}
theorem us_Y.perm {ws' : va_W} (Y : us_Y D A ws s H locs) (is : List Nat) (hn : va_nd is = true) (hs : is.map (fun i => ws[i]?) = ws'.map some) : us_Y D A ws' s H locs := ⟨Y.1.sub is (us_fm hs), Y.2.1.sub is hn hs, Y.2.2⟩
theorem us_ls (X : us_X p s m args c cc nL own D tys A) (Y : us_Y D A ws s H locs) {a : Nat} (q0 t0 : Nat) {cA : ClassId} {n : Nat} {f : Nat → Int64} (he : ws[q0]? = some (a, .inl (cA, n, .inr (.inl f)))) (ht : tys[t0]? = some (cA, .long)) {i : Nat} {x : Int64} (hi : i < n) (hn : n < 2 ^ 31) (hdg : decode cc pc = .ok (.lastore, 1))
    (kk : ∀ (H1 : Heap) (locs1 : List Loc), us_Y D A (ws.set q0 (a, .inl (cA, n, .inr (.inl (vp_updL f i x))))) s H1 locs1 → W p l e R s m args below meth c H1 locs1 cells slots Q (F0 m (pc + 1) ls rest)) : W p l e R s m args below meth c H locs cells slots Q (F0 m pc ls (.long x :: .int (nI i) :: .ref a :: rest)) := by
  refine va_last X.x X.b X.2.1 Y.1 Y.2.1 Y.2.2 q0 t0 he ht (vp_in_nI hi hn) hdg (fun H1 locs1 g1 g2 g3 => ?_)
  rw [nI_clamp (by omega)] at g1 g2
  exact kk H1 locs1 ⟨g1, g2, g3⟩
theorem us_ll (X : us_X p s m args c cc nL own D tys A) (Y : us_Y D A ws s H locs) {a : Nat} (q0 t0 : Nat) {cA : ClassId} {n : Nat} {f : Nat → Int64} (he : ws[q0]? = some (a, .inl (cA, n, .inr (.inl f)))) (ht : tys[t0]? = some (cA, .long)) {i : Nat} (hi : i < n) (hn : n < 2 ^ 31) (hdg : decode cc pc = .ok (.laload, 1))
    (kk : W p l e R s m args below meth c H locs cells slots Q (F0 m (pc + 1) ls (.long (f i) :: rest))) : W p l e R s m args below meth c H locs cells slots Q (F0 m pc ls (.int (nI i) :: .ref a :: rest)) := by
  refine va_lald X.x X.b X.2.1 Y.1 q0 t0 he ht (vp_in_nI hi hn) hdg ?_
  rw [nI_clamp (by omega)]
  exact kk
theorem us_sc (X : us_X p s m args c cc nL own D tys A) (Y : us_Y D A ws s H locs) {b L : Nat} {xs : Nat → Int32} (hX : va_X b L xs s s.heap) (hbl : b < s.heap.size) (hbA : ¬ A b) {i : Nat} (hi : i < L) (hL : L < 2 ^ 31) (hdg : decode cc pc = .ok (.iaload, 1))
    (kk : W p l e R s m args below meth c H locs cells slots Q (F0 m (pc + 1) ls (.int (xs i) :: rest))) : W p l e R s m args below meth c H locs cells slots Q (F0 m pc ls (.int (nI i) :: .ref b :: rest)) := by
  refine va_sld X.x X.b hX hbl hbA Y.2.2 (vp_in_nI hi hL) hdg ?_
  rw [nI_clamp (by omega)]
  exact kk
theorem us_sl (X : us_X p s m args c cc nL own D tys A) (Y : us_Y D A ws s H locs) {b L : Nat} {xs : Nat → Int32} (hX : va_X b L xs s s.heap) (hbl : b < s.heap.size) (hbA : ¬ A b) (hdg : decode cc pc = .ok (.arraylength, 1))
    (kk : W p l e R s m args below meth c H locs cells slots Q (F0 m (pc + 1) ls (.int (nI L) :: rest))) : W p l e R s m args below meth c H locs cells slots Q (F0 m pc ls (.ref b :: rest)) :=
  va_slen X.x X.b hX hbl hbA Y.2.2 hdg kk
/-- two longs that are the same -/
theorem us_lc (X : us_X p s m args c cc nL own D tys A) {x y : Int64} (h : x = y) (hdg : decode cc pc = .ok (.lcmp, 1))
    (kk : W p l e R s m args below meth c H locs cells slots Q (F0 m (pc + 1) ls (.int (nI 0) :: rest))) : W p l e R s m args below meth c H locs cells slots Q (F0 m pc ls (.long y :: .long x :: rest)) := by
  refine W.lcmp X.x X.b hdg ?_
  subst h
  rw [show lg_cmp x x = nI 0 by simp [lg_cmp]; decide]
  exact kk
/-- an object is made -/
theorem us_nU (X : us_X p s m args c cc nL own D tys A) (Y : us_Y D A ws s H locs) {idx : Nat} (hcl : Cond.classLink own idx RU ∈ wB) (hcells : cells + 1 ≤ R.cells) (hslots : slots + 9 ≤ R.slots) (hdg : decode cc pc = .ok (.new idx, 3))
    (kk : ∀ (q : Nat) (H1 : Heap), us_Y D A (ws ++ [(q, .inr (0, [.null, .int 0, .null, .null, .int 0, .null, .null, .null, .int 0]))]) s H1 locs → W p l e R s m args below meth c H1 locs (cells + 1) (slots + 9) Q (F0 m (pc + 3) ls (.ref q :: rest))) : W p l e R s m args below meth c H locs cells slots Q (F0 m pc ls rest) :=
  va_new (C := RU) (T := FU) (N := 9) (ci := 0) X.x X.b X.1.2.2.2.2 uB_U tU tU_ok X.o (X.w hcl) (X.w mB_inst_U) (X.w mB_ini_U) X.2.1 Y.1 Y.2.1 Y.2.2 X.2.2 rfl (by decide +kernel) hcells hslots hdg (fun q H1 hP hD hS => kk q H1 ⟨hP, hD, hS⟩)
theorem us_nM (X : us_X p s m args c cc nL own D tys A) (Y : us_Y D A ws s H locs) {idx : Nat} (hcl : Cond.classLink own idx RM ∈ wB) (hcells : cells + 1 ≤ R.cells) (hslots : slots + 11 ≤ R.slots) (hdg : decode cc pc = .ok (.new idx, 3))
    (kk : ∀ (q : Nat) (H1 : Heap), us_Y D A (ws ++ [(q, .inr (1, [.int 0, .int 0, .int 0, .int 0, .null, .null, .null, .null, .null, .null, .null]))]) s H1 locs → W p l e R s m args below meth c H1 locs (cells + 1) (slots + 11) Q (F0 m (pc + 3) ls (.ref q :: rest))) : W p l e R s m args below meth c H locs cells slots Q (F0 m pc ls rest) :=
  va_new (C := RM) (T := FM) (N := 11) (ci := 1) X.x X.b X.1.2.2.2.2 uB_M tM tM_ok X.o (X.w hcl) (X.w mB_inst_M) (X.w mB_ini_M) X.2.1 Y.1 Y.2.1 Y.2.2 X.2.2 rfl (by decide +kernel) hcells hslots hdg (fun q H1 hP hD hS => kk q H1 ⟨hP, hD, hS⟩)
/-- .. and its constructor is called -/
theorem us_ini (X : us_X p s m args c cc nL own D tys A) (Y : us_Y D A ws s H locs) {y : MethodName} {bytes : ByteArray} {fr lo mc ms b : Nat} {wc wr : va_W} {S : Type} {post : S → Prop} {ty : S → List (ClassId × FieldType)} {wf : S → va_W}
    (hM : Met l y (.code y bytes 1 none :: wB) { frames := fr, cells := mc, slots := ms, locals := lo } (va_Pc [.ref b] (us_P D [] wc H.size)) (va_Qv post (fun u t => us_Z D (ty u) (va_A wc H.size) (wf u) t) (va_A wc H.size)) mc ms (va_A wc H.size)) {isC isR : List Nat} (hI : us_I ws wc wr tys [] isC isR [])
    {idx : Nat} (h1 : Cond.methodLink own idx y ∈ wB) (h2 : Cond.instanceMethod y ∈ wB) (h3 : Cond.initialized y.cls ∈ wB) (h4 : Cond.code y bytes 1 none ∈ wB) (hy : y.name = "<init>") (hd : y.cls ≠ "java/lang/invoke/MethodHandle" ∧ y.cls ≠ "java/lang/invoke/VarHandle" ∧ (parseMethodDescriptor y.desc).map (fun d => d.parameters.length) = some 0) (hRm : fr + 1 ≤ R.frames ∧ 8 + (1 + 11) + lo ≤ R.locals) (hf : cells + mc ≤ R.cells ∧ slots + ms ≤ R.slots) (hsz : ls.size = nL) (hrest : (rest.map fun v => v.category).sum ≤ 8) (hdg : decode cc pc = .ok (.invokespecial idx, 3))
    (kk : ∀ (u : S) (H1 : Heap) (locs1 : List Loc), post u → us_X p s m args c cc nL own D (tys ++ ty u) A → us_Y D A (wr ++ wf u) s H1 locs1 → W p l e R s m args below meth c H1 locs1 (cells + mc) (slots + ms) Q (F0 m (pc + 3) ls rest)) : W p l e R s m args below meth c H locs cells slots Q (F0 m pc ls (.ref b :: rest)) := by
  obtain ⟨hC, hR, hnC, hnR, hdis, hT⟩ := hI
  have hFc := va_free (wc := wc) Y.2.1 Y.2.2 X.2.2 isC hC
  have hPc : va_P D usCl wc H := Y.1.sub isC (us_fm hC)
  have hDc := Y.2.1.sub (ws' := wc) isC hnC hC
  have hKc : va_K D usCl [] s := X.2.1.sub [] hT
  refine va_callv (va_runI (As := []) (rest := rest) X.1 hM (cwI 0 X.1.2.2.2.2 (wB_gd h4) rfl rfl rfl (X.w h3) (X.w h1) (X.w h2) hy hd hRm) ⟨us_blind, fun U hU hW => ⟨rfl, by rw [hU], by rw [hU]; exact hPc, va_K.moved hW.alike hKc, hDc.weaken (fun _ _ _ _ => trivial)⟩⟩ rfl rfl hsz rfl (lv_room hrest) hdg hf) Y.2.2 (fun q _ h => hFc q h) hFc (fun u t H1 locs1 ht hvm hw hB hz1 hk1 hS => ?_)
  obtain ⟨hP1, hK1, hD1⟩ := hB
  rw [ht] at hP1
  obtain ⟨hP, hD⟩ := va_join (wc := wc) (wr := wr) (w1 := wf u) Y.1 Y.2.1 isC isR hC hR hnR hdis hk1 hFc hP1 hD1
  exact kk u H1 locs1 hw ⟨X.1, X.2.1.app (va_K.moved hvm.symm hK1), X.2.2⟩ ⟨hP, hD, hS⟩
end USL
/-- the script's end -/
theorem us_gt5 {i L : Nat} (hi : i < 2 ^ 30) (hL : L < 2 ^ 30) : nI L - nI 5 < nI i ↔ L < i + 5 := by
  rw [Int32.lt_iff_toInt_lt, pk_sub_toInt hL (by decide), nI_toInt (by omega)]
  omega
/-- both sides hold one state -/
def us_LI (u : us_SU) (w : us_SM) : Prop := ∃ th n T k np nm sn sT sk, us_us u n T k np nm sn sT sk ∧ us_ms w th n T k np nm sn sT sk
theorem us_LI.elim {u : us_SU} {w : us_SM} (hI : us_LI u w) {P : us_SU → us_SM → Prop} (h : ∀ (th : Int32) (n : Nat) (T : us_T) (k np : Nat) (nm : Nat → Int32) (sn : Nat → Nat) (sT : Nat → us_T) (sk : Nat → Nat) (C PN CA CK CR CB V KV I KI PM KR KC : Nat → Int32), us_U n T k np nm sn sT sk C PN CA CK CR CB → us_M n T k np nm sn sT sk V KV I KI PM KR KC → P (n, np, k, C, PN, CA, CK, CR, CB) (th, n, np, k, V, KV, I, KI, PM, KR, KC)) : P u w := by
  obtain ⟨th, n, T, k, np, nm, sn, sT, sk, ⟨e1, e2, e3, hU⟩, ⟨f1, f2, f3, f4, hM⟩⟩ := hI
  obtain ⟨u1, u2, u3, C, PN, CA, CK, CR, CB⟩ := u
  obtain ⟨w1, w2, w3, w4, V, KV, I, KI, PM, KR, KC⟩ := w
  have e1 : u1 = n := e1
  have e2 : u2 = np := e2
  have e3 : u3 = k := e3
  have f2 : w2 = n := f2
  have f3 : w3 = np := f3
  have f4 : w4 = k := f4
  rw [e1, e2, e3, f2, f3, f4]
  exact h w1 n T k np nm sn sT sk C PN CA CK CR CB V KV I KI PM KR KC hU hM
section USI
variable {ad md : Nat → Nat} {cI cZ cJ : ClassId} {u : us_SU} {w : us_SM} {O : Nat → Int64}
theorem us_Lo : us_I (lW ad md cI cZ cJ u w O) (oW ad cJ O :: uWS ad cI u) (mWS md cI cZ w) (tyL cI cZ cJ) (tyO cI cJ) [0, 1, 2, 3, 4, 5, 6, 7] [8, 9, 10, 11, 12, 13, 14, 15] [0, 2] := ⟨rfl, rfl, rfl, rfl, by decide, rfl⟩
theorem us_Lu : us_I (lW ad md cI cZ cJ u w O) (uWS ad cI u) (oW ad cJ O :: mWS md cI cZ w) (tyL cI cZ cJ) (tyU cI) [1, 2, 3, 4, 5, 6, 7] [0, 8, 9, 10, 11, 12, 13, 14, 15] [0] := ⟨rfl, rfl, rfl, rfl, by decide, rfl⟩
theorem us_Lm : us_I (lW ad md cI cZ cJ u w O) (mWS md cI cZ w) (oW ad cJ O :: uWS ad cI u) (tyL cI cZ cJ) (tyM cI cZ) [8, 9, 10, 11, 12, 13, 14, 15] [0, 1, 2, 3, 4, 5, 6, 7] [0, 1] := ⟨rfl, rfl, rfl, rfl, by decide, rfl⟩
end USI
theorem us_yy {x y z : Int32} (h : (y = nI 1 ∧ ¬ x = 0) ∨ (y = nI 0 ∧ x = 0)) (g : (z = nI 1 ∧ ¬ x = 0) ∨ (z = nI 0 ∧ x = 0)) : z = y := by
  rcases h with ⟨h1, h2⟩ | ⟨h1, h2⟩ <;> rcases g with ⟨g1, g2⟩ | ⟨g1, g2⟩
  · rw [h1, g1]
  · exact absurd g2 h2
  · exact absurd h2 g2
  · rw [h1, g1]
theorem us_iR.cd {n : Nat} {T : us_T} {k np : Nat} {a b c has : Int32} {c1 : Nat} {a1 : Int32} {n1 : Nat} {T1 : us_T} {k1 : Nat} (h : us_iR n T k np a b c has c1 a1 n1 T1 k1) : c1 < 4 := by
  rcases h with ⟨h, _⟩ | ⟨h, _⟩ | ⟨h, _⟩ <;> omega
theorem us_aR.cd {n : Nat} {T : us_T} {k np : Nat} {co v : Int32} {c1 : Nat} {a1 : Int32} {n1 : Nat} {T1 : us_T} {k1 : Nat} (h : us_aR n T k np co v c1 a1 n1 T1 k1) : c1 < 4 := by
  rcases h with ⟨h, _⟩ | ⟨_, _, _, ⟨h, _⟩ | ⟨h, _⟩⟩ <;> omega
theorem us_fR.cd {n : Nat} {T : us_T} {co v : Int32} {c1 : Nat} {a1 : Int32} (h : us_fR n T co v c1 a1) : c1 < 4 := by
  rcases h with ⟨h, _⟩ | ⟨_, _, _, h, _⟩ <;> omega
theorem us_vR.cd {n : Nat} {T : us_T} {r co : Int32} {c1 : Nat} {a1 : Int32} (h : us_vR n T r co c1 a1) : c1 < 4 := by
  rcases h with ⟨h, _⟩ | ⟨_, _, _, ⟨h, _⟩ | ⟨_, _, _, _, h⟩⟩ <;> omega
end
section
/-! 51.help (laid by wip/whole/gen/help.py): the law's helpers: what a call throws, as a number. -/
set_option maxHeartbeats 4000000 in
set_option maxRecDepth 100000 in
theorem k_L_insert (l : Launch) (D : va_G) (ad : Nat → Nat) (cI : ClassId) (sz : Nat) (C PN CA CK CR CB : Nat → Int32) (n np k : Nat) (cJ : ClassId) (O : Nat → Int64) (T : us_T) (nm : Nat → Int32) (sn : Nat → Nat) (sT : Nat → us_T) (sk : Nat → Nat) (hU : us_U n T k np nm sn sT sk C PN CA CK CR CB) (hl9 : l.stackTraces = false) (va vb vc vh : Int32) : us_Hi l yL_insert cL_insert 7 [(0, 14, 17, 13), (0, 14, 21, 15)] 7 126 [.ref (ad 0), .int va, .int vb, .int vc, .int vh, .ref (ad 7)] D (tyO cI cJ) (oW ad cJ O :: uW ad cI C n PN CA np CK CR CB k) sz (fun r (u : us_SU × (Nat → Int64)) => ∃ cd ans n' T' k', r = nI cd ∧ us_iR n T k np va vb vc vh cd ans n' T' k' ∧ us_us u.1 n' T' k' np nm sn sT sk ∧ (cd = 0 → u.2 0 = ans.toInt64)) (fun (u : us_SU × (Nat → Int64)) => oW ad cJ u.2 :: uWS ad cI u.1) := by
  refine us_enterH (own := RL) rfl (by decide) (Nat.le_of_ble_eq_true rfl) ?_
  intro p e s m below meth c ls X Y hE htab hr hlk hl
  generalize va_A (oW ad cJ O :: uW ad cI C n PN CA np CK CR CB k) sz = A at X Y hE ⊢
  have hl : lv_has ls 7 [(0, .ref (ad 0)), (1, .int va), (2, .int vb), (3, .int vc), (4, .int vh), (5, .ref (ad 7))] := hl
  refine lv_aload X.x X.b dL_insert_0 (lv_at hl 5 rfl) ?_
  refine lv_iconst (v := nI 0) X.x X.b dL_insert_2 (by decide) ?_
  refine lv_aload_n X.x X.b dL_insert_3 rfl (lv_at hl 0 rfl) ?_
  refine lv_iload_n X.x X.b dL_insert_4 rfl (lv_at hl 1 rfl) ?_
  refine lv_iload_n X.x X.b dL_insert_5 rfl (lv_at hl 2 rfl) ?_
  refine lv_iload_n X.x X.b dL_insert_6 rfl (lv_at hl 3 rfl) ?_
  refine lv_iload X.x X.b dL_insert_7 (lv_at hl 4 rfl) ?_
  refine us_xi (rest := [.int (nI 0), .ref (ad 7)]) X Y hE (k_U_insert l D ad cI s.heap.size C PN CA CK CR CB n np k T nm sn sT sk hU hl9 va vb vc vh) us_IO 0 rfl rfl cv_L_7 rfl ⟨by decide, by decide⟩ ⟨by decide, by decide⟩ hl.1 rfl (Nat.le_of_ble_eq_true rfl) dL_insert_9 (fun E ce q9 H locs hpx Y hce hcv hcl => ?_) (fun rr u H locs hw Y => ?_)
  · have Y : us_Y D A (oW ad cJ O :: uW ad cI C n PN CA np CK CR CB k) s H locs := Y
    rcases hpx with ⟨rfl, hR⟩ | ⟨rfl, hR⟩
    · refine vx_catch (own := RL) (name := EIA) X.o [] ⟨0, 14, 17, 13⟩ [⟨0, 14, 21, 15⟩] (by rw [htab]; rfl) (fun z hz => nomatch hz) (by decide) (by decide) (X.w mB_cl_L_13) (va_Nw.use rfl (hE.1 _ us_bIA)) hce hcv hcl ?_
      refine lv_astore (lv' := [(6, .ref q9), (0, .ref (ad 0)), (1, .int va), (2, .int vb), (3, .int vc), (4, .int vh), (5, .ref (ad 7))]) X.x X.b dL_insert_17 hl (by decide) rfl (fun ls hl => ?_)
      refine lv_iconst (v := nI 1) X.x X.b dL_insert_19 (by decide) ?_
      exact us_iret (u := ((n, np, k, C, PN, CA, CK, CR, CB), O)) X Y hr hlk ⟨1, 0, n, T, k, rfl, hR, ⟨rfl, rfl, rfl, hU⟩, fun z => absurd z (by decide)⟩ dL_insert_20
    · refine vx_catch (own := RL) (name := EIS) X.o [⟨0, 14, 17, 13⟩] ⟨0, 14, 21, 15⟩ [] (by rw [htab]; rfl) (fun z hz => by cases List.mem_singleton.mp hz; exact Or.inr ⟨by decide, EIA, X.w mB_cl_L_13, hE.2.1.1⟩) (by decide) (by decide) (X.w mB_cl_L_15) (va_Nw.use rfl (hE.1 _ us_bIS)) hce hcv hcl ?_
      refine lv_astore (lv' := [(6, .ref q9), (0, .ref (ad 0)), (1, .int va), (2, .int vb), (3, .int vc), (4, .int vh), (5, .ref (ad 7))]) X.x X.b dL_insert_21 hl (by decide) rfl (fun ls hl => ?_)
      refine lv_iconst (v := nI 2) X.x X.b dL_insert_23 (by decide) ?_
      exact us_iret (u := ((n, np, k, C, PN, CA, CK, CR, CB), O)) X Y hr hlk ⟨2, 0, n, T, k, rfl, hR, ⟨rfl, rfl, rfl, hU⟩, fun z => absurd z (by decide)⟩ dL_insert_24
  · obtain ⟨n', T', k', hR, hu⟩ := hw
    have Y : us_Y D A (oW ad cJ O :: uWS ad cI u) s H locs := Y
    refine lv_i2l (v := rr.toInt64) X.x X.b dL_insert_12 rfl ?_
    refine us_ls X Y 0 1 rfl rfl (i := 0) (by decide) (by decide) dL_insert_13 (fun H locs Y => ?_)
    have Y : us_Y D A (oW ad cJ (vp_updL O 0 rr.toInt64) :: uWS ad cI u) s H locs := Y
    refine lv_goto (tgt := 25) X.x X.b dL_insert_14 (by decide) ?_
    refine lv_iconst (v := nI 0) X.x X.b dL_insert_25 (by decide) ?_
    exact us_iret (u := (u, vp_updL O 0 rr.toInt64)) X Y hr hlk ⟨0, rr, n', T', k', rfl, hR, hu, fun _ => pk_uLs (f := O) (k := 0) (x := rr.toInt64)⟩ dL_insert_26
set_option maxHeartbeats 4000000 in
set_option maxRecDepth 100000 in
theorem k_L_set (l : Launch) (D : va_G) (ad : Nat → Nat) (cI : ClassId) (sz : Nat) (C PN CA CK CR CB : Nat → Int32) (n np k : Nat) (T : us_T) (nm : Nat → Int32) (sn : Nat → Nat) (sT : Nat → us_T) (sk : Nat → Nat) (hU : us_U n T k np nm sn sT sk C PN CA CK CR CB) (hl9 : l.stackTraces = false) (vr vco vv vz : Int32) : us_Hi l yL_set cL_set 6 [(0, 9, 12, 13), (0, 9, 16, 15), (0, 9, 20, 21)] 7 126 [.ref (ad 0), .int vr, .int vco, .int vv, .int vz] D (tyU cI) (uW ad cI C n PN CA np CK CR CB k) sz (fun r (u : us_SU) => ∃ cd T' k', r = nI cd ∧ us_sR n T k np vr vco vv vz cd T' k' ∧ us_us u n T' k' np nm sn sT sk) (fun (u : us_SU) => uWS ad cI u) := by
  refine us_enterH (own := RL) rfl (by decide) (Nat.le_of_ble_eq_true rfl) ?_
  intro p e s m below meth c ls X Y hE htab hr hlk hl
  generalize va_A (uW ad cI C n PN CA np CK CR CB k) sz = A at X Y hE ⊢
  have hl : lv_has ls 6 [(0, .ref (ad 0)), (1, .int vr), (2, .int vco), (3, .int vv), (4, .int vz)] := hl
  refine lv_aload_n X.x X.b dL_set_0 rfl (lv_at hl 0 rfl) ?_
  refine lv_iload_n X.x X.b dL_set_1 rfl (lv_at hl 1 rfl) ?_
  refine lv_iload_n X.x X.b dL_set_2 rfl (lv_at hl 2 rfl) ?_
  refine lv_iload_n X.x X.b dL_set_3 rfl (lv_at hl 3 rfl) ?_
  refine lv_iload X.x X.b dL_set_4 (lv_at hl 4 rfl) ?_
  refine us_xv (rest := []) X Y hE (k_U_set l D ad cI s.heap.size C PN CA CK CR CB n np k T nm sn sT sk hU hl9 vr vco vv vz) us_I7 0 rfl rfl cv_L_17 rfl ⟨by decide, by decide⟩ ⟨by decide, by decide⟩ hl.1 rfl (Nat.le_of_ble_eq_true rfl) dL_set_6 (fun E ce q9 H locs hpx Y hce hcv hcl => ?_) (fun u H locs hw Y => ?_)
  · have Y : us_Y D A (uW ad cI C n PN CA np CK CR CB k) s H locs := Y
    rcases hpx with ⟨rfl, hR⟩ | ⟨rfl, hR⟩ | ⟨rfl, hR⟩
    · refine vx_catch (own := RL) (name := EIA) X.o [] ⟨0, 9, 12, 13⟩ [⟨0, 9, 16, 15⟩, ⟨0, 9, 20, 21⟩] (by rw [htab]; rfl) (fun z hz => nomatch hz) (by decide) (by decide) (X.w mB_cl_L_13) (va_Nw.use rfl (hE.1 _ us_bIA)) hce hcv hcl ?_
      refine lv_astore (lv' := [(5, .ref q9), (0, .ref (ad 0)), (1, .int vr), (2, .int vco), (3, .int vv), (4, .int vz)]) X.x X.b dL_set_12 hl (by decide) rfl (fun ls hl => ?_)
      refine lv_iconst (v := nI 1) X.x X.b dL_set_14 (by decide) ?_
      exact us_iret (u := (n, np, k, C, PN, CA, CK, CR, CB)) X Y hr hlk ⟨1, T, k, rfl, hR, ⟨rfl, rfl, rfl, hU⟩⟩ dL_set_15
    · refine vx_catch (own := RL) (name := EIS) X.o [⟨0, 9, 12, 13⟩] ⟨0, 9, 16, 15⟩ [⟨0, 9, 20, 21⟩] (by rw [htab]; rfl) (fun z hz => by cases List.mem_singleton.mp hz; exact Or.inr ⟨by decide, EIA, X.w mB_cl_L_13, hE.2.1.1⟩) (by decide) (by decide) (X.w mB_cl_L_15) (va_Nw.use rfl (hE.1 _ us_bIS)) hce hcv hcl ?_
      refine lv_astore (lv' := [(5, .ref q9), (0, .ref (ad 0)), (1, .int vr), (2, .int vco), (3, .int vv), (4, .int vz)]) X.x X.b dL_set_16 hl (by decide) rfl (fun ls hl => ?_)
      refine lv_iconst (v := nI 2) X.x X.b dL_set_18 (by decide) ?_
      exact us_iret (u := (n, np, k, C, PN, CA, CK, CR, CB)) X Y hr hlk ⟨2, T, k, rfl, hR, ⟨rfl, rfl, rfl, hU⟩⟩ dL_set_19
    · refine vx_catch (own := RL) (name := ENS) X.o [⟨0, 9, 12, 13⟩, ⟨0, 9, 16, 15⟩] ⟨0, 9, 20, 21⟩ [] (by rw [htab]; rfl) (fun z hz => by rcases List.mem_cons.mp hz with rfl | hz; exact Or.inr ⟨by decide, EIA, X.w mB_cl_L_13, hE.2.1.2.1⟩; cases List.mem_singleton.mp hz; exact Or.inr ⟨by decide, EIS, X.w mB_cl_L_15, hE.2.1.2.2⟩) (by decide) (by decide) (X.w mB_cl_L_21) (va_Nw.use rfl (hE.1 _ us_bNS)) hce hcv hcl ?_
      refine lv_astore (lv' := [(5, .ref q9), (0, .ref (ad 0)), (1, .int vr), (2, .int vco), (3, .int vv), (4, .int vz)]) X.x X.b dL_set_20 hl (by decide) rfl (fun ls hl => ?_)
      refine lv_iconst (v := nI 3) X.x X.b dL_set_22 (by decide) ?_
      exact us_iret (u := (n, np, k, C, PN, CA, CK, CR, CB)) X Y hr hlk ⟨3, T, k, rfl, hR, ⟨rfl, rfl, rfl, hU⟩⟩ dL_set_23
  · obtain ⟨T', k', hR, hu⟩ := hw
    have Y : us_Y D A (uWS ad cI u) s H locs := Y
    refine lv_goto (tgt := 24) X.x X.b dL_set_9 (by decide) ?_
    refine lv_iconst (v := nI 0) X.x X.b dL_set_24 (by decide) ?_
    exact us_iret (u := u) X Y hr hlk ⟨0, T', k', rfl, hR, hu⟩ dL_set_25
set_option maxHeartbeats 4000000 in
set_option maxRecDepth 100000 in
theorem k_L_remove (l : Launch) (D : va_G) (ad : Nat → Nat) (cI : ClassId) (sz : Nat) (C PN CA CK CR CB : Nat → Int32) (n np k : Nat) (T : us_T) (nm : Nat → Int32) (sn : Nat → Nat) (sT : Nat → us_T) (sk : Nat → Nat) (hU : us_U n T k np nm sn sT sk C PN CA CK CR CB) (hl9 : l.stackTraces = false) (vr : Int32) : us_Hi l yL_remove cL_remove 3 [(0, 5, 8, 15), (0, 5, 11, 21)] 7 126 [.ref (ad 0), .int vr] D (tyU cI) (uW ad cI C n PN CA np CK CR CB k) sz (fun r (u : us_SU) => ∃ cd n' T' k', r = nI cd ∧ us_rR n T k np vr cd n' T' k' ∧ us_us u n' T' k' np nm sn sT sk) (fun (u : us_SU) => uWS ad cI u) := by
  refine us_enterH (own := RL) rfl (by decide) (Nat.le_of_ble_eq_true rfl) ?_
  intro p e s m below meth c ls X Y hE htab hr hlk hl
  generalize va_A (uW ad cI C n PN CA np CK CR CB k) sz = A at X Y hE ⊢
  have hl : lv_has ls 3 [(0, .ref (ad 0)), (1, .int vr)] := hl
  refine lv_aload_n X.x X.b dL_remove_0 rfl (lv_at hl 0 rfl) ?_
  refine lv_iload_n X.x X.b dL_remove_1 rfl (lv_at hl 1 rfl) ?_
  refine us_xv (rest := []) X Y hE (k_U_remove l D ad cI s.heap.size C PN CA CK CR CB n np k T nm sn sT sk hU hl9 vr) us_I7 0 rfl rfl cv_L_23 rfl ⟨by decide, by decide⟩ ⟨by decide, by decide⟩ hl.1 rfl (Nat.le_of_ble_eq_true rfl) dL_remove_2 (fun E ce q9 H locs hpx Y hce hcv hcl => ?_) (fun u H locs hw Y => ?_)
  · have Y : us_Y D A (uW ad cI C n PN CA np CK CR CB k) s H locs := Y
    rcases hpx with ⟨rfl, hR⟩ | ⟨rfl, hR⟩
    · refine vx_catch (own := RL) (name := EIS) X.o [] ⟨0, 5, 8, 15⟩ [⟨0, 5, 11, 21⟩] (by rw [htab]; rfl) (fun z hz => nomatch hz) (by decide) (by decide) (X.w mB_cl_L_15) (va_Nw.use rfl (hE.1 _ us_bIS)) hce hcv hcl ?_
      refine lv_astore_n (lv' := [(2, .ref q9), (0, .ref (ad 0)), (1, .int vr)]) X.x X.b dL_remove_8 rfl hl (by decide) rfl (fun ls hl => ?_)
      refine lv_iconst (v := nI 1) X.x X.b dL_remove_9 (by decide) ?_
      exact us_iret (u := (n, np, k, C, PN, CA, CK, CR, CB)) X Y hr hlk ⟨1, n, T, k, rfl, hR, ⟨rfl, rfl, rfl, hU⟩⟩ dL_remove_10
    · refine vx_catch (own := RL) (name := ENS) X.o [⟨0, 5, 8, 15⟩] ⟨0, 5, 11, 21⟩ [] (by rw [htab]; rfl) (fun z hz => by cases List.mem_singleton.mp hz; exact Or.inr ⟨by decide, EIS, X.w mB_cl_L_15, hE.2.1.2.2⟩) (by decide) (by decide) (X.w mB_cl_L_21) (va_Nw.use rfl (hE.1 _ us_bNS)) hce hcv hcl ?_
      refine lv_astore_n (lv' := [(2, .ref q9), (0, .ref (ad 0)), (1, .int vr)]) X.x X.b dL_remove_11 rfl hl (by decide) rfl (fun ls hl => ?_)
      refine lv_iconst (v := nI 2) X.x X.b dL_remove_12 (by decide) ?_
      exact us_iret (u := (n, np, k, C, PN, CA, CK, CR, CB)) X Y hr hlk ⟨2, n, T, k, rfl, hR, ⟨rfl, rfl, rfl, hU⟩⟩ dL_remove_13
  · obtain ⟨n', T', k', hR, hu⟩ := hw
    have Y : us_Y D A (uWS ad cI u) s H locs := Y
    refine lv_goto (tgt := 14) X.x X.b dL_remove_5 (by decide) ?_
    refine lv_iconst (v := nI 0) X.x X.b dL_remove_14 (by decide) ?_
    exact us_iret (u := u) X Y hr hlk ⟨0, n', T', k', rfl, hR, hu⟩ dL_remove_15
set_option maxHeartbeats 4000000 in
set_option maxRecDepth 100000 in
theorem k_L_removeAll (l : Launch) (D : va_G) (ad : Nat → Nat) (cI : ClassId) (sz : Nat) (C PN CA CK CR CB : Nat → Int32) (n np k : Nat) (cJ : ClassId) (O : Nat → Int64) (T : us_T) (nm : Nat → Int32) (sn : Nat → Nat) (sT : Nat → us_T) (sk : Nat → Nat) (hU : us_U n T k np nm sn sT sk C PN CA CK CR CB) (hl9 : l.stackTraces = false) (vco vv : Int32) : us_Hi l yL_removeAll cL_removeAll 5 [(0, 10, 13, 13), (0, 10, 17, 15)] 7 126 [.ref (ad 0), .int vco, .int vv, .ref (ad 7)] D (tyO cI cJ) (oW ad cJ O :: uW ad cI C n PN CA np CK CR CB k) sz (fun r (u : us_SU × (Nat → Int64)) => ∃ cd ans n' T' k', r = nI cd ∧ us_aR n T k np vco vv cd ans n' T' k' ∧ us_us u.1 n' T' k' np nm sn sT sk ∧ (cd = 0 → u.2 0 = ans.toInt64)) (fun (u : us_SU × (Nat → Int64)) => oW ad cJ u.2 :: uWS ad cI u.1) := by
  refine us_enterH (own := RL) rfl (by decide) (Nat.le_of_ble_eq_true rfl) ?_
  intro p e s m below meth c ls X Y hE htab hr hlk hl
  generalize va_A (oW ad cJ O :: uW ad cI C n PN CA np CK CR CB k) sz = A at X Y hE ⊢
  have hl : lv_has ls 5 [(0, .ref (ad 0)), (1, .int vco), (2, .int vv), (3, .ref (ad 7))] := hl
  refine lv_aload_n X.x X.b dL_removeAll_0 rfl (lv_at hl 3 rfl) ?_
  refine lv_iconst (v := nI 0) X.x X.b dL_removeAll_1 (by decide) ?_
  refine lv_aload_n X.x X.b dL_removeAll_2 rfl (lv_at hl 0 rfl) ?_
  refine lv_iload_n X.x X.b dL_removeAll_3 rfl (lv_at hl 1 rfl) ?_
  refine lv_iload_n X.x X.b dL_removeAll_4 rfl (lv_at hl 2 rfl) ?_
  refine us_xi (rest := [.int (nI 0), .ref (ad 7)]) X Y hE (k_U_removeAll l D ad cI s.heap.size C PN CA CK CR CB n np k T nm sn sT sk hU hl9 vco vv) us_IO 0 rfl rfl cv_L_27 rfl ⟨by decide, by decide⟩ ⟨by decide, by decide⟩ hl.1 rfl (Nat.le_of_ble_eq_true rfl) dL_removeAll_5 (fun E ce q9 H locs hpx Y hce hcv hcl => ?_) (fun rr u H locs hw Y => ?_)
  · have Y : us_Y D A (oW ad cJ O :: uW ad cI C n PN CA np CK CR CB k) s H locs := Y
    rcases hpx with ⟨rfl, hR⟩ | ⟨rfl, hR⟩
    · refine vx_catch (own := RL) (name := EIA) X.o [] ⟨0, 10, 13, 13⟩ [⟨0, 10, 17, 15⟩] (by rw [htab]; rfl) (fun z hz => nomatch hz) (by decide) (by decide) (X.w mB_cl_L_13) (va_Nw.use rfl (hE.1 _ us_bIA)) hce hcv hcl ?_
      refine lv_astore (lv' := [(4, .ref q9), (0, .ref (ad 0)), (1, .int vco), (2, .int vv), (3, .ref (ad 7))]) X.x X.b dL_removeAll_13 hl (by decide) rfl (fun ls hl => ?_)
      refine lv_iconst (v := nI 1) X.x X.b dL_removeAll_15 (by decide) ?_
      exact us_iret (u := ((n, np, k, C, PN, CA, CK, CR, CB), O)) X Y hr hlk ⟨1, 0, n, T, k, rfl, hR, ⟨rfl, rfl, rfl, hU⟩, fun z => absurd z (by decide)⟩ dL_removeAll_16
    · refine vx_catch (own := RL) (name := EIS) X.o [⟨0, 10, 13, 13⟩] ⟨0, 10, 17, 15⟩ [] (by rw [htab]; rfl) (fun z hz => by cases List.mem_singleton.mp hz; exact Or.inr ⟨by decide, EIA, X.w mB_cl_L_13, hE.2.1.1⟩) (by decide) (by decide) (X.w mB_cl_L_15) (va_Nw.use rfl (hE.1 _ us_bIS)) hce hcv hcl ?_
      refine lv_astore (lv' := [(4, .ref q9), (0, .ref (ad 0)), (1, .int vco), (2, .int vv), (3, .ref (ad 7))]) X.x X.b dL_removeAll_17 hl (by decide) rfl (fun ls hl => ?_)
      refine lv_iconst (v := nI 2) X.x X.b dL_removeAll_19 (by decide) ?_
      exact us_iret (u := ((n, np, k, C, PN, CA, CK, CR, CB), O)) X Y hr hlk ⟨2, 0, n, T, k, rfl, hR, ⟨rfl, rfl, rfl, hU⟩, fun z => absurd z (by decide)⟩ dL_removeAll_20
  · obtain ⟨n', T', k', hR, hu⟩ := hw
    have Y : us_Y D A (oW ad cJ O :: uWS ad cI u) s H locs := Y
    refine lv_i2l (v := rr.toInt64) X.x X.b dL_removeAll_8 rfl ?_
    refine us_ls X Y 0 1 rfl rfl (i := 0) (by decide) (by decide) dL_removeAll_9 (fun H locs Y => ?_)
    have Y : us_Y D A (oW ad cJ (vp_updL O 0 rr.toInt64) :: uWS ad cI u) s H locs := Y
    refine lv_goto (tgt := 21) X.x X.b dL_removeAll_10 (by decide) ?_
    refine lv_iconst (v := nI 0) X.x X.b dL_removeAll_21 (by decide) ?_
    exact us_iret (u := (u, vp_updL O 0 rr.toInt64)) X Y hr hlk ⟨0, rr, n', T', k', rfl, hR, hu, fun _ => pk_uLs (f := O) (k := 0) (x := rr.toInt64)⟩ dL_removeAll_22
set_option maxHeartbeats 4000000 in
set_option maxRecDepth 100000 in
theorem k_L_find (l : Launch) (D : va_G) (ad : Nat → Nat) (cI : ClassId) (sz : Nat) (C PN CA CK CR CB : Nat → Int32) (n np k : Nat) (cJ : ClassId) (O : Nat → Int64) (T : us_T) (nm : Nat → Int32) (sn : Nat → Nat) (sT : Nat → us_T) (sk : Nat → Nat) (hU : us_U n T k np nm sn sT sk C PN CA CK CR CB) (hl9 : l.stackTraces = false) (vco vv : Int32) : us_Hi l yL_find cL_find 5 [(0, 10, 13, 13)] 7 126 [.ref (ad 0), .int vco, .int vv, .ref (ad 7)] D (tyO cI cJ) (oW ad cJ O :: uW ad cI C n PN CA np CK CR CB k) sz (fun r (u : us_SU × (Nat → Int64)) => ∃ cd ans, r = nI cd ∧ us_fR n T vco vv cd ans ∧ us_us u.1 n T k np nm sn sT sk ∧ (cd = 0 → u.2 0 = ans.toInt64)) (fun (u : us_SU × (Nat → Int64)) => oW ad cJ u.2 :: uWS ad cI u.1) := by
  refine us_enterH (own := RL) rfl (by decide) (Nat.le_of_ble_eq_true rfl) ?_
  intro p e s m below meth c ls X Y hE htab hr hlk hl
  generalize va_A (oW ad cJ O :: uW ad cI C n PN CA np CK CR CB k) sz = A at X Y hE ⊢
  have hl : lv_has ls 5 [(0, .ref (ad 0)), (1, .int vco), (2, .int vv), (3, .ref (ad 7))] := hl
  refine lv_aload_n X.x X.b dL_find_0 rfl (lv_at hl 3 rfl) ?_
  refine lv_iconst (v := nI 0) X.x X.b dL_find_1 (by decide) ?_
  refine lv_aload_n X.x X.b dL_find_2 rfl (lv_at hl 0 rfl) ?_
  refine lv_iload_n X.x X.b dL_find_3 rfl (lv_at hl 1 rfl) ?_
  refine lv_iload_n X.x X.b dL_find_4 rfl (lv_at hl 2 rfl) ?_
  refine us_xi (rest := [.int (nI 0), .ref (ad 7)]) X Y hE (k_U_find l D ad cI s.heap.size C PN CA CK CR CB n np k T nm sn sT sk hU hl9 vco vv) us_IO 0 rfl rfl cv_L_31 rfl ⟨by decide, by decide⟩ ⟨by decide, by decide⟩ hl.1 rfl (Nat.le_of_ble_eq_true rfl) dL_find_5 (fun E ce q9 H locs hpx Y hce hcv hcl => ?_) (fun rr u H locs hw Y => ?_)
  · have Y : us_Y D A (oW ad cJ O :: uW ad cI C n PN CA np CK CR CB k) s H locs := Y
    obtain ⟨rfl, hR⟩ := hpx
    refine vx_catch (own := RL) (name := EIA) X.o [] ⟨0, 10, 13, 13⟩ [] (by rw [htab]; rfl) (fun z hz => nomatch hz) (by decide) (by decide) (X.w mB_cl_L_13) (va_Nw.use rfl (hE.1 _ us_bIA)) hce hcv hcl ?_
    refine lv_astore (lv' := [(4, .ref q9), (0, .ref (ad 0)), (1, .int vco), (2, .int vv), (3, .ref (ad 7))]) X.x X.b dL_find_13 hl (by decide) rfl (fun ls hl => ?_)
    refine lv_iconst (v := nI 1) X.x X.b dL_find_15 (by decide) ?_
    exact us_iret (u := ((n, np, k, C, PN, CA, CK, CR, CB), O)) X Y hr hlk ⟨1, 0, rfl, hR, ⟨rfl, rfl, rfl, hU⟩, fun z => absurd z (by decide)⟩ dL_find_16
  · obtain ⟨hR, hu⟩ := hw
    have Y : us_Y D A (oW ad cJ O :: uWS ad cI u) s H locs := Y
    refine lv_i2l (v := rr.toInt64) X.x X.b dL_find_8 rfl ?_
    refine us_ls X Y 0 1 rfl rfl (i := 0) (by decide) (by decide) dL_find_9 (fun H locs Y => ?_)
    have Y : us_Y D A (oW ad cJ (vp_updL O 0 rr.toInt64) :: uWS ad cI u) s H locs := Y
    refine lv_goto (tgt := 17) X.x X.b dL_find_10 (by decide) ?_
    refine lv_iconst (v := nI 0) X.x X.b dL_find_17 (by decide) ?_
    exact us_iret (u := (u, vp_updL O 0 rr.toInt64)) X Y hr hlk ⟨0, rr, rfl, hR, hu, fun _ => pk_uLs (f := O) (k := 0) (x := rr.toInt64)⟩ dL_find_18
set_option maxHeartbeats 4000000 in
set_option maxRecDepth 100000 in
theorem k_L_value (l : Launch) (D : va_G) (ad : Nat → Nat) (cI : ClassId) (sz : Nat) (C PN CA CK CR CB : Nat → Int32) (n np k : Nat) (cJ : ClassId) (O : Nat → Int64) (T : us_T) (nm : Nat → Int32) (sn : Nat → Nat) (sT : Nat → us_T) (sk : Nat → Nat) (hU : us_U n T k np nm sn sT sk C PN CA CK CR CB) (hl9 : l.stackTraces = false) (vr vco : Int32) : us_Hi l yL_value cL_value 5 [(0, 10, 13, 13), (0, 10, 17, 21)] 7 126 [.ref (ad 0), .int vr, .int vco, .ref (ad 7)] D (tyO cI cJ) (oW ad cJ O :: uW ad cI C n PN CA np CK CR CB k) sz (fun r (u : us_SU × (Nat → Int64)) => ∃ cd ans, r = nI cd ∧ us_vR n T vr vco cd ans ∧ us_us u.1 n T k np nm sn sT sk ∧ (cd = 0 → u.2 0 = ans.toInt64)) (fun (u : us_SU × (Nat → Int64)) => oW ad cJ u.2 :: uWS ad cI u.1) := by
  refine us_enterH (own := RL) rfl (by decide) (Nat.le_of_ble_eq_true rfl) ?_
  intro p e s m below meth c ls X Y hE htab hr hlk hl
  generalize va_A (oW ad cJ O :: uW ad cI C n PN CA np CK CR CB k) sz = A at X Y hE ⊢
  have hl : lv_has ls 5 [(0, .ref (ad 0)), (1, .int vr), (2, .int vco), (3, .ref (ad 7))] := hl
  refine lv_aload_n X.x X.b dL_value_0 rfl (lv_at hl 3 rfl) ?_
  refine lv_iconst (v := nI 0) X.x X.b dL_value_1 (by decide) ?_
  refine lv_aload_n X.x X.b dL_value_2 rfl (lv_at hl 0 rfl) ?_
  refine lv_iload_n X.x X.b dL_value_3 rfl (lv_at hl 1 rfl) ?_
  refine lv_iload_n X.x X.b dL_value_4 rfl (lv_at hl 2 rfl) ?_
  refine us_xi (rest := [.int (nI 0), .ref (ad 7)]) X Y hE (k_U_value l D ad cI s.heap.size C PN CA CK CR CB n np k T nm sn sT sk hU hl9 vr vco) us_IO 0 rfl rfl cv_L_34 rfl ⟨by decide, by decide⟩ ⟨by decide, by decide⟩ hl.1 rfl (Nat.le_of_ble_eq_true rfl) dL_value_5 (fun E ce q9 H locs hpx Y hce hcv hcl => ?_) (fun rr u H locs hw Y => ?_)
  · have Y : us_Y D A (oW ad cJ O :: uW ad cI C n PN CA np CK CR CB k) s H locs := Y
    rcases hpx with ⟨rfl, hR⟩ | ⟨rfl, hR⟩
    · refine vx_catch (own := RL) (name := EIA) X.o [] ⟨0, 10, 13, 13⟩ [⟨0, 10, 17, 21⟩] (by rw [htab]; rfl) (fun z hz => nomatch hz) (by decide) (by decide) (X.w mB_cl_L_13) (va_Nw.use rfl (hE.1 _ us_bIA)) hce hcv hcl ?_
      refine lv_astore (lv' := [(4, .ref q9), (0, .ref (ad 0)), (1, .int vr), (2, .int vco), (3, .ref (ad 7))]) X.x X.b dL_value_13 hl (by decide) rfl (fun ls hl => ?_)
      refine lv_iconst (v := nI 1) X.x X.b dL_value_15 (by decide) ?_
      exact us_iret (u := ((n, np, k, C, PN, CA, CK, CR, CB), O)) X Y hr hlk ⟨1, 0, rfl, hR, ⟨rfl, rfl, rfl, hU⟩, fun z => absurd z (by decide)⟩ dL_value_16
    · refine vx_catch (own := RL) (name := ENS) X.o [⟨0, 10, 13, 13⟩] ⟨0, 10, 17, 21⟩ [] (by rw [htab]; rfl) (fun z hz => by cases List.mem_singleton.mp hz; exact Or.inr ⟨by decide, EIA, X.w mB_cl_L_13, hE.2.1.2.1⟩) (by decide) (by decide) (X.w mB_cl_L_21) (va_Nw.use rfl (hE.1 _ us_bNS)) hce hcv hcl ?_
      refine lv_astore (lv' := [(4, .ref q9), (0, .ref (ad 0)), (1, .int vr), (2, .int vco), (3, .ref (ad 7))]) X.x X.b dL_value_17 hl (by decide) rfl (fun ls hl => ?_)
      refine lv_iconst (v := nI 2) X.x X.b dL_value_19 (by decide) ?_
      exact us_iret (u := ((n, np, k, C, PN, CA, CK, CR, CB), O)) X Y hr hlk ⟨2, 0, rfl, hR, ⟨rfl, rfl, rfl, hU⟩, fun z => absurd z (by decide)⟩ dL_value_20
  · obtain ⟨hR, hu⟩ := hw
    have Y : us_Y D A (oW ad cJ O :: uWS ad cI u) s H locs := Y
    refine lv_i2l (v := rr.toInt64) X.x X.b dL_value_8 rfl ?_
    refine us_ls X Y 0 1 rfl rfl (i := 0) (by decide) (by decide) dL_value_9 (fun H locs Y => ?_)
    have Y : us_Y D A (oW ad cJ (vp_updL O 0 rr.toInt64) :: uWS ad cI u) s H locs := Y
    refine lv_goto (tgt := 21) X.x X.b dL_value_10 (by decide) ?_
    refine lv_iconst (v := nI 0) X.x X.b dL_value_21 (by decide) ?_
    exact us_iret (u := (u, vp_updL O 0 rr.toInt64)) X Y hr hlk ⟨0, rr, rfl, hR, hu, fun _ => pk_uLs (f := O) (k := 0) (x := rr.toInt64)⟩ dL_value_22
set_option maxHeartbeats 4000000 in
set_option maxRecDepth 100000 in
theorem k_L_mark (l : Launch) (D : va_G) (ad : Nat → Nat) (cI : ClassId) (sz : Nat) (C PN CA CK CR CB : Nat → Int32) (n np k : Nat) (T : us_T) (nm : Nat → Int32) (sn : Nat → Nat) (sT : Nat → us_T) (sk : Nat → Nat) (hU : us_U n T k np nm sn sT sk C PN CA CK CR CB) (hl9 : l.stackTraces = false) (x : Int32) : us_Hi l yL_mark cL_mark 3 [(0, 5, 8, 15)] 7 126 [.ref (ad 0), .int x] D (tyU cI) (uW ad cI C n PN CA np CK CR CB k) sz (fun r (u : us_SU) => ∃ cd np' nm' sn' sT' sk', r = nI cd ∧ us_mR n T k np nm sn sT sk x cd np' nm' sn' sT' sk' ∧ us_us u n T k np' nm' sn' sT' sk') (fun (u : us_SU) => uWS ad cI u) := by
  refine us_enterH (own := RL) rfl (by decide) (Nat.le_of_ble_eq_true rfl) ?_
  intro p e s m below meth c ls X Y hE htab hr hlk hl
  generalize va_A (uW ad cI C n PN CA np CK CR CB k) sz = A at X Y hE ⊢
  have hl : lv_has ls 3 [(0, .ref (ad 0)), (1, .int x)] := hl
  refine lv_aload_n X.x X.b dL_mark_0 rfl (lv_at hl 0 rfl) ?_
  refine lv_iload_n X.x X.b dL_mark_1 rfl (lv_at hl 1 rfl) ?_
  refine us_xv (rest := []) X Y hE (k_U_mark l D ad cI s.heap.size C PN CA CK CR CB n np k T nm sn sT sk hU hl9 x) us_I7 0 rfl rfl cv_L_37 rfl ⟨by decide, by decide⟩ ⟨by decide, by decide⟩ hl.1 rfl (Nat.le_of_ble_eq_true rfl) dL_mark_2 (fun E ce q9 H locs hpx Y hce hcv hcl => ?_) (fun u H locs hw Y => ?_)
  · have Y : us_Y D A (uW ad cI C n PN CA np CK CR CB k) s H locs := Y
    obtain ⟨rfl, hR⟩ := hpx
    refine vx_catch (own := RL) (name := EIS) X.o [] ⟨0, 5, 8, 15⟩ [] (by rw [htab]; rfl) (fun z hz => nomatch hz) (by decide) (by decide) (X.w mB_cl_L_15) (va_Nw.use rfl (hE.1 _ us_bIS)) hce hcv hcl ?_
    refine lv_astore_n (lv' := [(2, .ref q9), (0, .ref (ad 0)), (1, .int x)]) X.x X.b dL_mark_8 rfl hl (by decide) rfl (fun ls hl => ?_)
    refine lv_iconst (v := nI 1) X.x X.b dL_mark_9 (by decide) ?_
    exact us_iret (u := (n, np, k, C, PN, CA, CK, CR, CB)) X Y hr hlk ⟨1, np, nm, sn, sT, sk, rfl, hR, ⟨rfl, rfl, rfl, hU⟩⟩ dL_mark_10
  · obtain ⟨np', nm', sn', sT', sk', hR, hu⟩ := hw
    have Y : us_Y D A (uWS ad cI u) s H locs := Y
    refine lv_goto (tgt := 11) X.x X.b dL_mark_5 (by decide) ?_
    refine lv_iconst (v := nI 0) X.x X.b dL_mark_11 (by decide) ?_
    exact us_iret (u := u) X Y hr hlk ⟨0, np', nm', sn', sT', sk', rfl, hR, hu⟩ dL_mark_12
set_option maxHeartbeats 4000000 in
set_option maxRecDepth 100000 in
theorem k_L_back (l : Launch) (D : va_G) (ad : Nat → Nat) (cI : ClassId) (sz : Nat) (C PN CA CK CR CB : Nat → Int32) (n np k : Nat) (T : us_T) (nm : Nat → Int32) (sn : Nat → Nat) (sT : Nat → us_T) (sk : Nat → Nat) (hU : us_U n T k np nm sn sT sk C PN CA CK CR CB) (hl9 : l.stackTraces = false) (x : Int32) : us_Hi l yL_back cL_back 3 [(0, 5, 8, 21)] 7 126 [.ref (ad 0), .int x] D (tyU cI) (uW ad cI C n PN CA np CK CR CB k) sz (fun r (u : us_SU) => ∃ cd n' T' k' np', r = nI cd ∧ us_bR n T k np nm sn sT sk x cd n' T' k' np' ∧ us_us u n' T' k' np' nm sn sT sk) (fun (u : us_SU) => uWS ad cI u) := by
  refine us_enterH (own := RL) rfl (by decide) (Nat.le_of_ble_eq_true rfl) ?_
  intro p e s m below meth c ls X Y hE htab hr hlk hl
  generalize va_A (uW ad cI C n PN CA np CK CR CB k) sz = A at X Y hE ⊢
  have hl : lv_has ls 3 [(0, .ref (ad 0)), (1, .int x)] := hl
  refine lv_aload_n X.x X.b dL_back_0 rfl (lv_at hl 0 rfl) ?_
  refine lv_iload_n X.x X.b dL_back_1 rfl (lv_at hl 1 rfl) ?_
  refine us_xv (rest := []) X Y hE (k_U_back l D ad cI s.heap.size C PN CA CK CR CB n np k T nm sn sT sk hU hl9 x) us_I7 0 rfl rfl cv_L_40 rfl ⟨by decide, by decide⟩ ⟨by decide, by decide⟩ hl.1 rfl (Nat.le_of_ble_eq_true rfl) dL_back_2 (fun E ce q9 H locs hpx Y hce hcv hcl => ?_) (fun u H locs hw Y => ?_)
  · have Y : us_Y D A (uW ad cI C n PN CA np CK CR CB k) s H locs := Y
    obtain ⟨rfl, hR⟩ := hpx
    refine vx_catch (own := RL) (name := ENS) X.o [] ⟨0, 5, 8, 21⟩ [] (by rw [htab]; rfl) (fun z hz => nomatch hz) (by decide) (by decide) (X.w mB_cl_L_21) (va_Nw.use rfl (hE.1 _ us_bNS)) hce hcv hcl ?_
    refine lv_astore_n (lv' := [(2, .ref q9), (0, .ref (ad 0)), (1, .int x)]) X.x X.b dL_back_8 rfl hl (by decide) rfl (fun ls hl => ?_)
    refine lv_iconst (v := nI 1) X.x X.b dL_back_9 (by decide) ?_
    exact us_iret (u := (n, np, k, C, PN, CA, CK, CR, CB)) X Y hr hlk ⟨1, n, T, k, np, rfl, hR, ⟨rfl, rfl, rfl, hU⟩⟩ dL_back_10
  · obtain ⟨n', T', k', np', hR, hu⟩ := hw
    have Y : us_Y D A (uWS ad cI u) s H locs := Y
    refine lv_goto (tgt := 11) X.x X.b dL_back_5 (by decide) ?_
    refine lv_iconst (v := nI 0) X.x X.b dL_back_11 (by decide) ?_
    exact us_iret (u := u) X Y hr hlk ⟨0, n', T', k', np', rfl, hR, hu⟩ dL_back_12
set_option maxHeartbeats 4000000 in
set_option maxRecDepth 100000 in
theorem k_L_release (l : Launch) (D : va_G) (ad : Nat → Nat) (cI : ClassId) (sz : Nat) (C PN CA CK CR CB : Nat → Int32) (n np k : Nat) (T : us_T) (nm : Nat → Int32) (sn : Nat → Nat) (sT : Nat → us_T) (sk : Nat → Nat) (hU : us_U n T k np nm sn sT sk C PN CA CK CR CB) (hl9 : l.stackTraces = false) (x : Int32) : us_Hi l yL_release cL_release 3 [(0, 5, 8, 21)] 7 126 [.ref (ad 0), .int x] D (tyU cI) (uW ad cI C n PN CA np CK CR CB k) sz (fun r (u : us_SU) => ∃ cd k' np', r = nI cd ∧ us_lR k np nm x cd k' np' ∧ us_us u n T k' np' nm sn sT sk) (fun (u : us_SU) => uWS ad cI u) := by
  refine us_enterH (own := RL) rfl (by decide) (Nat.le_of_ble_eq_true rfl) ?_
  intro p e s m below meth c ls X Y hE htab hr hlk hl
  generalize va_A (uW ad cI C n PN CA np CK CR CB k) sz = A at X Y hE ⊢
  have hl : lv_has ls 3 [(0, .ref (ad 0)), (1, .int x)] := hl
  refine lv_aload_n X.x X.b dL_release_0 rfl (lv_at hl 0 rfl) ?_
  refine lv_iload_n X.x X.b dL_release_1 rfl (lv_at hl 1 rfl) ?_
  refine us_xv (rest := []) X Y hE (k_U_release l D ad cI s.heap.size C PN CA CK CR CB n np k T nm sn sT sk hU hl9 x) us_I7 0 rfl rfl cv_L_43 rfl ⟨by decide, by decide⟩ ⟨by decide, by decide⟩ hl.1 rfl (Nat.le_of_ble_eq_true rfl) dL_release_2 (fun E ce q9 H locs hpx Y hce hcv hcl => ?_) (fun u H locs hw Y => ?_)
  · have Y : us_Y D A (uW ad cI C n PN CA np CK CR CB k) s H locs := Y
    obtain ⟨rfl, hR⟩ := hpx
    refine vx_catch (own := RL) (name := ENS) X.o [] ⟨0, 5, 8, 21⟩ [] (by rw [htab]; rfl) (fun z hz => nomatch hz) (by decide) (by decide) (X.w mB_cl_L_21) (va_Nw.use rfl (hE.1 _ us_bNS)) hce hcv hcl ?_
    refine lv_astore_n (lv' := [(2, .ref q9), (0, .ref (ad 0)), (1, .int x)]) X.x X.b dL_release_8 rfl hl (by decide) rfl (fun ls hl => ?_)
    refine lv_iconst (v := nI 1) X.x X.b dL_release_9 (by decide) ?_
    exact us_iret (u := (n, np, k, C, PN, CA, CK, CR, CB)) X Y hr hlk ⟨1, k, np, rfl, hR, ⟨rfl, rfl, rfl, hU⟩⟩ dL_release_10
  · obtain ⟨k', np', hR, hu⟩ := hw
    have Y : us_Y D A (uWS ad cI u) s H locs := Y
    refine lv_goto (tgt := 11) X.x X.b dL_release_5 (by decide) ?_
    refine lv_iconst (v := nI 0) X.x X.b dL_release_11 (by decide) ?_
    exact us_iret (u := u) X Y hr hlk ⟨0, k', np', rfl, hR, hu⟩ dL_release_12
end
section
/-! THE CLAIM OUT OF ONE WALK OF THE LAW'S BODY. Your part is whole_start (and what it stands on); all else here is the same for every law, but numbers. -/
def R_law : String := "UndoShelfLaw"
def lw_P (b : Addr) (xs : List Int32) (args : Array Value) (s : State) : Prop := args = #[.ref b] ∧ s.IntsAt b xs ∧ xs.length ≤ 2560 ∧ (Jvm.Cond.and given_1 narrow_1).before args s = true
def lw_Q (_ : Array Value) (s : State) (o : Outcome) (t : State) : Prop := o = .returned (some (.int 1)) ∧ Framed s o t [] 1055 25209
def lw_Z (below : List Frame) (a : Array Value) (s : State) : State → Prop := fun t => ∃ o, t.status = .running ∧ Ended t below o ∧ lw_Q a s o t
/-- the law's own end, with 1 on the stack, nothing written that was there before, its room as the claim has it -/
theorem lw_ret {p : Program} {l : Launch} {e : Env} {s : State} {m : MethodId} {below : List Frame} {meth : Method} {c : Code} {b : Nat} (hx : p.tables.exec = Jvm.exec) (hb : c.code = code) (hr : meth.sig.returnType = ret) (hlocks : meth.locks = false) {pc : Nat} {H : Heap} {ls : Array Slot} (hdg : decode code pc = .ok (.ireturn, 1)) : W p l e room_1 s m #[Value.ref b] below meth c H [] 1055 25209 (lw_Z below #[Value.ref b] s) (F0 m pc ls [.int 1]) := by
  intro T hT X
  obtain ⟨fs, hret, hrun, hended, hW, hframe⟩ := X.leave (v := some (.int 1)) (hlocks := hlocks) (fun h => by rw [hr] at h; cases h)
  have hmeth' : T.vm.method? m = some meth := X.method'
  refine ⟨T.setFrames fs, ?_, .returned (some (.int 1)), hrun, hended, rfl, ⟨_, rfl⟩, hW, hframe⟩
  jvm_step X.here [X.here.top, hx, hb, hdg, hmeth', hr, ret, narrow_b1]
  (try refine ⟨rfl, ?_⟩); (try refine ⟨rfl, ?_⟩)
  first | (intro acts; rw [hret _ acts rfl rfl rfl]) | rw [hret _ _ rfl rfl rfl]
  exact Steps.refl _
/-- what holds at the law's entry: the machine, the code, the tables' words (any of lw_tbl by 'hts w (by decide +kernel)'), the script of L ints xs at the cell b, what the Statement gives of the start (any of its parts by flat_of_before) -/
def lw_At (p : Program) (s : State) (m : MethodId) (meth : Method) (c : Code) (b L : Nat) (xs : Nat → Int32) : Prop :=
  p.tables.exec = Jvm.exec ∧ c.code = code ∧ meth.sig.returnType = ret ∧ c.maxLocals = 7 ∧ s.vm.findClass R_law = some m.cls ∧ (∀ w ∈ lw_tbl, w.before #[Value.ref b] s = true) ∧ va_X b L xs s s.heap ∧ b < s.heap.size ∧ meth.locks = false ∧ (Jvm.Cond.and given_1 narrow_1).before #[Value.ref b] s = true
end
section
/-! 60.law (laid by wip/whole/gen/law.py): one turn of the law, case by case. -/
/-! what the law's calls of its helpers need of the words -/
theorem sw_insert : us_SW 50 6 yL_insert cL_insert 7 [(0, 14, 17, 13), (0, 14, 21, 15)] := ⟨mB_ml_L_50, mB_st_L_insert, mB_ini_L, mB_code_L_insert, by decide +kernel⟩
theorem sw_set : us_SW 60 5 yL_set cL_set 6 [(0, 9, 12, 13), (0, 9, 16, 15), (0, 9, 20, 21)] := ⟨mB_ml_L_60, mB_st_L_set, mB_ini_L, mB_code_L_set, by decide +kernel⟩
theorem sw_remove : us_SW 64 2 yL_remove cL_remove 3 [(0, 5, 8, 15), (0, 5, 11, 21)] := ⟨mB_ml_L_64, mB_st_L_remove, mB_ini_L, mB_code_L_remove, by decide +kernel⟩
theorem sw_removeAll : us_SW 68 4 yL_removeAll cL_removeAll 5 [(0, 10, 13, 13), (0, 10, 17, 15)] := ⟨mB_ml_L_68, mB_st_L_removeAll, mB_ini_L, mB_code_L_removeAll, by decide +kernel⟩
theorem sw_find : us_SW 72 4 yL_find cL_find 5 [(0, 10, 13, 13)] := ⟨mB_ml_L_72, mB_st_L_find, mB_ini_L, mB_code_L_find, by decide +kernel⟩
theorem sw_value : us_SW 75 4 yL_value cL_value 5 [(0, 10, 13, 13), (0, 10, 17, 21)] := ⟨mB_ml_L_75, mB_st_L_value, mB_ini_L, mB_code_L_value, by decide +kernel⟩
theorem sw_mark : us_SW 78 2 yL_mark cL_mark 3 [(0, 5, 8, 15)] := ⟨mB_ml_L_78, mB_st_L_mark, mB_ini_L, mB_code_L_mark, by decide +kernel⟩
theorem sw_back : us_SW 81 2 yL_back cL_back 3 [(0, 5, 8, 21)] := ⟨mB_ml_L_81, mB_st_L_back, mB_ini_L, mB_code_L_back, by decide +kernel⟩
theorem sw_release : us_SW 84 2 yL_release cL_release 3 [(0, 5, 8, 21)] := ⟨mB_ml_L_84, mB_st_L_release, mB_ini_L, mB_code_L_release, by decide +kernel⟩
section USW
variable {p : Program} {l : Launch} {e : Env} {s : State} {m : MethodId} {below : List Frame} {meth : Method} {c : Code} {H : Heap} {locs : List Loc} {cells slots : Nat} {Q : State → Prop} {ls : Array Slot} {D : va_G} {A : Nat → Prop} {b L i : Nat} {xs : Nat → Int32} {ad md : Nat → Nat} {cI cZ cJ : ClassId}
variable {th : Int32} {n : Nat} {T : us_T} {k np : Nat} {nm : Nat → Int32} {sn : Nat → Nat} {sT : Nat → us_T} {sk : Nat → Nat} {C PN CA CK CR CB V KV I KI PM KR KC : Nat → Int32} {O : Nat → Int64}
set_option maxHeartbeats 4000000 in
set_option maxRecDepth 100000 in
theorem law_c0 (X : us_X p s m #[Value.ref b] c code 7 RL D (tyL cI cZ cJ) A) (hE : us_E A s) (hl9 : l.stackTraces = false) (hX : va_X b L xs s s.heap) (hbl : b < s.heap.size) (hbA : ¬ A b) (hL : L ≤ 2560) (hi : i + 5 ≤ L) (hc : cells + 1 ≤ 1055) (hs : slots + 6 ≤ 25209) (hU : us_U n T k np nm sn sT sk C PN CA CK CR CB) (hM : us_M n T k np nm sn sT sk V KV I KI PM KR KC) (Y : us_Y D A (lW ad md cI cZ cJ (n, np, k, C, PN, CA, CK, CR, CB) (th, n, np, k, V, KV, I, KI, PM, KR, KC) O) s H locs) (hl : lv_has ls 7 [(4, .int (nI i)), (3, .ref (ad 7)), (2, .ref (md 0)), (1, .ref (ad 0)), (0, .ref b)]) (kk : ∀ (u : us_SU) (w : us_SM) (O : Nat → Int64) (H : Heap) (locs : List Loc) (ls : Array Slot), us_LI u w → us_Y D A (lW ad md cI cZ cJ u w O) s H locs → lv_has ls 7 [(4, .int (nI i)), (3, .ref (ad 7)), (2, .ref (md 0)), (1, .ref (ad 0)), (0, .ref b)] → W p l e room_1 s m #[Value.ref b] below meth c H locs (cells + 1) (slots + 6) Q (F0 m 645 ls [])) : W p l e room_1 s m #[Value.ref b] below meth c H locs cells slots Q (F0 m 92 ls []) := by
  have hL31 : L < 2 ^ 31 := by omega
  refine lv_aload_n X.x X.b dL_law_92 rfl (lv_at hl 3 rfl) ?_
  refine lv_aload_n X.x X.b dL_law_93 rfl (lv_at hl 4 rfl) ?_
  refine lv_iload X.x X.b dL_law_94 (lv_at hl 0 rfl) ?_
  refine lv_iconst (v := nI 1) X.x X.b dL_law_96 (by decide) ?_
  refine us_iadd X dL_law_97 ?_
  refine us_sc X Y hX hbl hbA (i := i + 1) (by omega) (by omega) dL_law_98 ?_
  refine lv_aload_n X.x X.b dL_law_99 rfl (lv_at hl 4 rfl) ?_
  refine lv_iload X.x X.b dL_law_100 (lv_at hl 0 rfl) ?_
  refine lv_iconst (v := nI 2) X.x X.b dL_law_102 (by decide) ?_
  refine us_iadd X dL_law_103 ?_
  refine us_sc X Y hX hbl hbA (i := i + 2) (by omega) (by omega) dL_law_104 ?_
  refine lv_aload_n X.x X.b dL_law_105 rfl (lv_at hl 4 rfl) ?_
  refine lv_iload X.x X.b dL_law_106 (lv_at hl 0 rfl) ?_
  refine lv_iconst (v := nI 3) X.x X.b dL_law_108 (by decide) ?_
  refine us_iadd X dL_law_109 ?_
  refine us_sc X Y hX hbl hbA (i := i + 3) (by omega) (by omega) dL_law_110 ?_
  refine lv_aload_n X.x X.b dL_law_111 rfl (lv_at hl 4 rfl) ?_
  refine lv_iload X.x X.b dL_law_112 (lv_at hl 0 rfl) ?_
  refine lv_iconst (v := nI 4) X.x X.b dL_law_114 (by decide) ?_
  refine us_iadd X dL_law_115 ?_
  refine us_sc X Y hX hbl hbA (i := i + 4) (by omega) (by omega) dL_law_116 ?_
  refine lv_aload_n X.x X.b dL_law_117 rfl (lv_at hl 1 rfl) ?_
  refine us_hi (rest := []) X Y hE (k_L_insert l D ad cI H.size C PN CA CK CR CB n np k cJ O T nm sn sT sk hU hl9 (xs (i + 1)) (xs (i + 2)) (xs (i + 3)) (xs (i + 4))) us_Lo sw_insert rfl ⟨by decide, by decide⟩ ⟨hc, hs⟩ hl.1 rfl (Nat.le_of_ble_eq_true rfl) dL_law_118 (fun rr u H locs hw Y => ?_)
  obtain ⟨cd, ans, n', T', k', rfl, hR, hu, hO⟩ := hw
  have Y : us_Y D A (lW ad md cI cZ cJ u.1 (th, n, np, k, V, KV, I, KI, PM, KR, KC) u.2) s H locs := Y.perm [8, 9, 10, 11, 12, 13, 14, 15, 0, 1, 2, 3, 4, 5, 6, 7] rfl rfl
  refine lv_istore (lv' := [(5, .int (nI cd)), (4, .int (nI i)), (3, .ref (ad 7)), (2, .ref (md 0)), (1, .ref (ad 0)), (0, .ref b)]) X.x X.b dL_law_121 hl (by decide) rfl (fun ls hl => ?_)
  refine lv_aload_n X.x X.b dL_law_123 rfl (lv_at hl 3 rfl) ?_
  refine lv_aload_n X.x X.b dL_law_124 rfl (lv_at hl 5 rfl) ?_
  refine lv_iload X.x X.b dL_law_125 (lv_at hl 1 rfl) ?_
  refine lv_iconst (v := nI 1) X.x X.b dL_law_127 (by decide) ?_
  refine us_iadd X dL_law_128 ?_
  refine us_sc X Y hX hbl hbA (i := i + 1) (by omega) (by omega) dL_law_129 ?_
  refine lv_aload_n X.x X.b dL_law_130 rfl (lv_at hl 5 rfl) ?_
  refine lv_iload X.x X.b dL_law_131 (lv_at hl 1 rfl) ?_
  refine lv_iconst (v := nI 2) X.x X.b dL_law_133 (by decide) ?_
  refine us_iadd X dL_law_134 ?_
  refine us_sc X Y hX hbl hbA (i := i + 2) (by omega) (by omega) dL_law_135 ?_
  refine lv_aload_n X.x X.b dL_law_136 rfl (lv_at hl 5 rfl) ?_
  refine lv_iload X.x X.b dL_law_137 (lv_at hl 1 rfl) ?_
  refine lv_iconst (v := nI 3) X.x X.b dL_law_139 (by decide) ?_
  refine us_iadd X dL_law_140 ?_
  refine us_sc X Y hX hbl hbA (i := i + 3) (by omega) (by omega) dL_law_141 ?_
  refine lv_aload_n X.x X.b dL_law_142 rfl (lv_at hl 5 rfl) ?_
  refine lv_iload X.x X.b dL_law_143 (lv_at hl 1 rfl) ?_
  refine lv_iconst (v := nI 4) X.x X.b dL_law_145 (by decide) ?_
  refine us_iadd X dL_law_146 ?_
  refine us_sc X Y hX hbl hbA (i := i + 4) (by omega) (by omega) dL_law_147 ?_
  refine us_vi (rest := []) X Y (k_M_insert l D md cI cZ H.size th n np k V KV I KI PM KR KC T nm sn sT sk hM (xs (i + 1)) (xs (i + 2)) (xs (i + 3)) (xs (i + 4))) us_Lm 0 rfl rfl cv_L_55 rfl ⟨by decide, by decide⟩ ⟨hc, hs⟩ hl.1 rfl (Nat.le_of_ble_eq_true rfl) dL_law_148 (fun r2 w H locs hw Y => ?_)
  obtain ⟨cd2, n2, T2, k2, hR2, hw2⟩ := hw
  have Y : us_Y D A (lW ad md cI cZ cJ u.1 w u.2) s H locs := Y
  obtain ⟨ec, ea, e0, e1, e2⟩ := hR.one hR2
  rw [← ec] at hw2
  rw [← e0] at hw2
  rw [← e1] at hw2
  rw [← e2] at hw2
  refine lv_istore (lv' := [(6, .int r2), (5, .int (nI cd)), (4, .int (nI i)), (3, .ref (ad 7)), (2, .ref (md 0)), (1, .ref (ad 0)), (0, .ref b)]) X.x X.b dL_law_151 hl (by decide) rfl (fun ls hl => ?_)
  refine lv_aload_n X.x X.b dL_law_153 rfl (lv_at hl 4 rfl) ?_
  refine us_vi (rest := []) X Y (k_M_thrown l D md cI cZ H.size w.1 w.2.1 w.2.2.1 w.2.2.2.1 w.2.2.2.2.1 w.2.2.2.2.2.1 w.2.2.2.2.2.2.1 w.2.2.2.2.2.2.2.1 w.2.2.2.2.2.2.2.2.1 w.2.2.2.2.2.2.2.2.2.1 w.2.2.2.2.2.2.2.2.2.2) us_Lm 0 rfl rfl cv_L_56 rfl ⟨by decide, by decide⟩ ⟨hc, hs⟩ hl.1 rfl (Nat.le_of_ble_eq_true rfl) dL_law_154 (fun r3 _ H locs h3 Y => ?_)
  rw [hw2.1] at h3
  subst h3
  have Y : us_Y D A (lW ad md cI cZ cJ u.1 w u.2) s H locs := Y
  refine lv_iload X.x X.b dL_law_157 (lv_at hl 1 rfl) ?_
  refine lv_icmp_eq (tgt := 164) X.x X.b dL_law_159 (by decide) (fun _ => ?_) (fun h0 => absurd rfl h0)
  refine lv_iload X.x X.b dL_law_164 (lv_at hl 1 rfl) ?_
  refine lv_if_ne (tgt := 181) X.x X.b dL_law_166 (by decide) (fun h0 => ?_) (fun h0 => ?_)
  · refine lv_goto (tgt := 645) X.x X.b dL_law_181 (by decide) ?_
    exact kk u.1 w u.2 H locs ls ⟨nI cd, n', T', k', np, nm, sn, sT, sk, hu, hw2⟩ Y (lv_sub hl [2, 3, 4, 5, 6] rfl)
  · have hcd : cd = 0 := us_nI (by have := hR.cd; omega) (by decide) (h0.trans nI_0.symm)
    refine lv_aload_n X.x X.b dL_law_169 rfl (lv_at hl 3 rfl) ?_
    refine lv_iconst (v := nI 0) X.x X.b dL_law_170 (by decide) ?_
    refine us_ll X Y 0 2 rfl rfl (i := 0) (by decide) (by decide) dL_law_171 ?_
    refine lv_iload X.x X.b dL_law_172 (lv_at hl 0 rfl) ?_
    refine lv_i2l (v := r2.toInt64) X.x X.b dL_law_174 rfl ?_
    refine us_lc X (by rw [hO hcd, ea hcd]) dL_law_175 ?_
    refine us_eq0 (tgt := 181) X dL_law_176 (by decide) ?_
    refine lv_goto (tgt := 645) X.x X.b dL_law_181 (by decide) ?_
    exact kk u.1 w u.2 H locs ls ⟨nI cd, n', T', k', np, nm, sn, sT, sk, hu, hw2⟩ Y (lv_sub hl [2, 3, 4, 5, 6] rfl)
set_option maxHeartbeats 4000000 in
set_option maxRecDepth 100000 in
theorem law_c1 (X : us_X p s m #[Value.ref b] c code 7 RL D (tyL cI cZ cJ) A) (hE : us_E A s) (hl9 : l.stackTraces = false) (hX : va_X b L xs s s.heap) (hbl : b < s.heap.size) (hbA : ¬ A b) (hL : L ≤ 2560) (hi : i + 5 ≤ L) (hc : cells + 1 ≤ 1055) (hs : slots + 6 ≤ 25209) (hU : us_U n T k np nm sn sT sk C PN CA CK CR CB) (hM : us_M n T k np nm sn sT sk V KV I KI PM KR KC) (Y : us_Y D A (lW ad md cI cZ cJ (n, np, k, C, PN, CA, CK, CR, CB) (th, n, np, k, V, KV, I, KI, PM, KR, KC) O) s H locs) (hl : lv_has ls 7 [(4, .int (nI i)), (3, .ref (ad 7)), (2, .ref (md 0)), (1, .ref (ad 0)), (0, .ref b)]) (kk : ∀ (u : us_SU) (w : us_SM) (O : Nat → Int64) (H : Heap) (locs : List Loc) (ls : Array Slot), us_LI u w → us_Y D A (lW ad md cI cZ cJ u w O) s H locs → lv_has ls 7 [(4, .int (nI i)), (3, .ref (ad 7)), (2, .ref (md 0)), (1, .ref (ad 0)), (0, .ref b)] → W p l e room_1 s m #[Value.ref b] below meth c H locs (cells + 1) (slots + 6) Q (F0 m 645 ls [])) : W p l e room_1 s m #[Value.ref b] below meth c H locs cells slots Q (F0 m 184 ls []) := by
  have hL31 : L < 2 ^ 31 := by omega
  refine lv_aload_n X.x X.b dL_law_184 rfl (lv_at hl 3 rfl) ?_
  refine lv_aload_n X.x X.b dL_law_185 rfl (lv_at hl 4 rfl) ?_
  refine lv_iload X.x X.b dL_law_186 (lv_at hl 0 rfl) ?_
  refine lv_iconst (v := nI 1) X.x X.b dL_law_188 (by decide) ?_
  refine us_iadd X dL_law_189 ?_
  refine us_sc X Y hX hbl hbA (i := i + 1) (by omega) (by omega) dL_law_190 ?_
  refine lv_aload_n X.x X.b dL_law_191 rfl (lv_at hl 4 rfl) ?_
  refine lv_iload X.x X.b dL_law_192 (lv_at hl 0 rfl) ?_
  refine lv_iconst (v := nI 2) X.x X.b dL_law_194 (by decide) ?_
  refine us_iadd X dL_law_195 ?_
  refine us_sc X Y hX hbl hbA (i := i + 2) (by omega) (by omega) dL_law_196 ?_
  refine lv_aload_n X.x X.b dL_law_197 rfl (lv_at hl 4 rfl) ?_
  refine lv_iload X.x X.b dL_law_198 (lv_at hl 0 rfl) ?_
  refine lv_iconst (v := nI 3) X.x X.b dL_law_200 (by decide) ?_
  refine us_iadd X dL_law_201 ?_
  refine us_sc X Y hX hbl hbA (i := i + 3) (by omega) (by omega) dL_law_202 ?_
  refine lv_aload_n X.x X.b dL_law_203 rfl (lv_at hl 4 rfl) ?_
  refine lv_iload X.x X.b dL_law_204 (lv_at hl 0 rfl) ?_
  refine lv_iconst (v := nI 4) X.x X.b dL_law_206 (by decide) ?_
  refine us_iadd X dL_law_207 ?_
  refine us_sc X Y hX hbl hbA (i := i + 4) (by omega) (by omega) dL_law_208 ?_
  refine us_beq (t := 216) X dL_law_209 (by decide) dL_law_212 dL_law_213 (by decide) dL_law_216 (fun y1 hy1 => ?_)
  refine us_hi (rest := []) X Y hE (k_L_set l D ad cI H.size C PN CA CK CR CB n np k T nm sn sT sk hU hl9 (xs (i + 1)) (xs (i + 2)) (xs (i + 3)) y1) us_Lu sw_set rfl ⟨by decide, by decide⟩ ⟨hc, hs⟩ hl.1 rfl (Nat.le_of_ble_eq_true rfl) dL_law_217 (fun rr u H locs hw Y => ?_)
  obtain ⟨cd, T', k', rfl, hR, hu⟩ := hw
  have Y : us_Y D A (lW ad md cI cZ cJ u (th, n, np, k, V, KV, I, KI, PM, KR, KC) O) s H locs := Y.perm [0, 9, 10, 11, 12, 13, 14, 15, 1, 2, 3, 4, 5, 6, 7, 8] rfl rfl
  refine lv_istore (lv' := [(5, .int (nI cd)), (4, .int (nI i)), (3, .ref (ad 7)), (2, .ref (md 0)), (1, .ref (ad 0)), (0, .ref b)]) X.x X.b dL_law_220 hl (by decide) rfl (fun ls hl => ?_)
  refine lv_aload_n X.x X.b dL_law_222 rfl (lv_at hl 3 rfl) ?_
  refine lv_aload_n X.x X.b dL_law_223 rfl (lv_at hl 5 rfl) ?_
  refine lv_iload X.x X.b dL_law_224 (lv_at hl 1 rfl) ?_
  refine lv_iconst (v := nI 1) X.x X.b dL_law_226 (by decide) ?_
  refine us_iadd X dL_law_227 ?_
  refine us_sc X Y hX hbl hbA (i := i + 1) (by omega) (by omega) dL_law_228 ?_
  refine lv_aload_n X.x X.b dL_law_229 rfl (lv_at hl 5 rfl) ?_
  refine lv_iload X.x X.b dL_law_230 (lv_at hl 1 rfl) ?_
  refine lv_iconst (v := nI 2) X.x X.b dL_law_232 (by decide) ?_
  refine us_iadd X dL_law_233 ?_
  refine us_sc X Y hX hbl hbA (i := i + 2) (by omega) (by omega) dL_law_234 ?_
  refine lv_aload_n X.x X.b dL_law_235 rfl (lv_at hl 5 rfl) ?_
  refine lv_iload X.x X.b dL_law_236 (lv_at hl 1 rfl) ?_
  refine lv_iconst (v := nI 3) X.x X.b dL_law_238 (by decide) ?_
  refine us_iadd X dL_law_239 ?_
  refine us_sc X Y hX hbl hbA (i := i + 3) (by omega) (by omega) dL_law_240 ?_
  refine lv_aload_n X.x X.b dL_law_241 rfl (lv_at hl 5 rfl) ?_
  refine lv_iload X.x X.b dL_law_242 (lv_at hl 1 rfl) ?_
  refine lv_iconst (v := nI 4) X.x X.b dL_law_244 (by decide) ?_
  refine us_iadd X dL_law_245 ?_
  refine us_sc X Y hX hbl hbA (i := i + 4) (by omega) (by omega) dL_law_246 ?_
  refine us_beq (t := 254) X dL_law_247 (by decide) dL_law_250 dL_law_251 (by decide) dL_law_254 (fun y2 hy2 => ?_)
  have ey := us_yy hy1 hy2
  subst ey
  refine us_vv (rest := []) X Y (k_M_set l D md cI cZ H.size th n np k V KV I KI PM KR KC T nm sn sT sk hM (xs (i + 1)) (xs (i + 2)) (xs (i + 3)) _) us_Lm 0 rfl rfl cv_L_63 rfl ⟨by decide, by decide⟩ ⟨hc, hs⟩ hl.1 rfl (Nat.le_of_ble_eq_true rfl) dL_law_255 (fun w H locs hw Y => ?_)
  obtain ⟨cd2, T2, k2, hR2, hw2⟩ := hw
  have Y : us_Y D A (lW ad md cI cZ cJ u w O) s H locs := Y
  obtain ⟨ec, e0, e1⟩ := hR.one hU.1 hR2
  rw [← ec] at hw2
  rw [← e0] at hw2
  rw [← e1] at hw2
  refine lv_aload_n X.x X.b dL_law_258 rfl (lv_at hl 3 rfl) ?_
  refine us_vi (rest := []) X Y (k_M_thrown l D md cI cZ H.size w.1 w.2.1 w.2.2.1 w.2.2.2.1 w.2.2.2.2.1 w.2.2.2.2.2.1 w.2.2.2.2.2.2.1 w.2.2.2.2.2.2.2.1 w.2.2.2.2.2.2.2.2.1 w.2.2.2.2.2.2.2.2.2.1 w.2.2.2.2.2.2.2.2.2.2) us_Lm 0 rfl rfl cv_L_56 rfl ⟨by decide, by decide⟩ ⟨hc, hs⟩ hl.1 rfl (Nat.le_of_ble_eq_true rfl) dL_law_259 (fun r3 _ H locs h3 Y => ?_)
  rw [hw2.1] at h3
  subst h3
  have Y : us_Y D A (lW ad md cI cZ cJ u w O) s H locs := Y
  refine lv_iload X.x X.b dL_law_262 (lv_at hl 0 rfl) ?_
  refine lv_icmp_eq (tgt := 269) X.x X.b dL_law_264 (by decide) (fun _ => ?_) (fun h0 => absurd rfl h0)
  refine lv_goto (tgt := 645) X.x X.b dL_law_269 (by decide) ?_
  exact kk u w O H locs ls ⟨nI cd, n, T', k', np, nm, sn, sT, sk, hu, hw2⟩ Y (lv_sub hl [1, 2, 3, 4, 5] rfl)
set_option maxHeartbeats 4000000 in
set_option maxRecDepth 100000 in
theorem law_c2 (X : us_X p s m #[Value.ref b] c code 7 RL D (tyL cI cZ cJ) A) (hE : us_E A s) (hl9 : l.stackTraces = false) (hX : va_X b L xs s s.heap) (hbl : b < s.heap.size) (hbA : ¬ A b) (hL : L ≤ 2560) (hi : i + 5 ≤ L) (hc : cells + 1 ≤ 1055) (hs : slots + 6 ≤ 25209) (hU : us_U n T k np nm sn sT sk C PN CA CK CR CB) (hM : us_M n T k np nm sn sT sk V KV I KI PM KR KC) (Y : us_Y D A (lW ad md cI cZ cJ (n, np, k, C, PN, CA, CK, CR, CB) (th, n, np, k, V, KV, I, KI, PM, KR, KC) O) s H locs) (hl : lv_has ls 7 [(4, .int (nI i)), (3, .ref (ad 7)), (2, .ref (md 0)), (1, .ref (ad 0)), (0, .ref b)]) (kk : ∀ (u : us_SU) (w : us_SM) (O : Nat → Int64) (H : Heap) (locs : List Loc) (ls : Array Slot), us_LI u w → us_Y D A (lW ad md cI cZ cJ u w O) s H locs → lv_has ls 7 [(4, .int (nI i)), (3, .ref (ad 7)), (2, .ref (md 0)), (1, .ref (ad 0)), (0, .ref b)] → W p l e room_1 s m #[Value.ref b] below meth c H locs (cells + 1) (slots + 6) Q (F0 m 645 ls [])) : W p l e room_1 s m #[Value.ref b] below meth c H locs cells slots Q (F0 m 272 ls []) := by
  have hL31 : L < 2 ^ 31 := by omega
  refine lv_aload_n X.x X.b dL_law_272 rfl (lv_at hl 3 rfl) ?_
  refine lv_aload_n X.x X.b dL_law_273 rfl (lv_at hl 4 rfl) ?_
  refine lv_iload X.x X.b dL_law_274 (lv_at hl 0 rfl) ?_
  refine lv_iconst (v := nI 1) X.x X.b dL_law_276 (by decide) ?_
  refine us_iadd X dL_law_277 ?_
  refine us_sc X Y hX hbl hbA (i := i + 1) (by omega) (by omega) dL_law_278 ?_
  refine us_hi (rest := []) X Y hE (k_L_remove l D ad cI H.size C PN CA CK CR CB n np k T nm sn sT sk hU hl9 (xs (i + 1))) us_Lu sw_remove rfl ⟨by decide, by decide⟩ ⟨hc, hs⟩ hl.1 rfl (Nat.le_of_ble_eq_true rfl) dL_law_279 (fun rr u H locs hw Y => ?_)
  obtain ⟨cd, n', T', k', rfl, hR, hu⟩ := hw
  have Y : us_Y D A (lW ad md cI cZ cJ u (th, n, np, k, V, KV, I, KI, PM, KR, KC) O) s H locs := Y.perm [0, 9, 10, 11, 12, 13, 14, 15, 1, 2, 3, 4, 5, 6, 7, 8] rfl rfl
  refine lv_istore (lv' := [(5, .int (nI cd)), (4, .int (nI i)), (3, .ref (ad 7)), (2, .ref (md 0)), (1, .ref (ad 0)), (0, .ref b)]) X.x X.b dL_law_282 hl (by decide) rfl (fun ls hl => ?_)
  refine lv_aload_n X.x X.b dL_law_284 rfl (lv_at hl 3 rfl) ?_
  refine lv_aload_n X.x X.b dL_law_285 rfl (lv_at hl 5 rfl) ?_
  refine lv_iload X.x X.b dL_law_286 (lv_at hl 1 rfl) ?_
  refine lv_iconst (v := nI 1) X.x X.b dL_law_288 (by decide) ?_
  refine us_iadd X dL_law_289 ?_
  refine us_sc X Y hX hbl hbA (i := i + 1) (by omega) (by omega) dL_law_290 ?_
  refine us_vv (rest := []) X Y (k_M_remove l D md cI cZ H.size th n np k V KV I KI PM KR KC T nm sn sT sk hM (xs (i + 1))) us_Lm 0 rfl rfl cv_L_67 rfl ⟨by decide, by decide⟩ ⟨hc, hs⟩ hl.1 rfl (Nat.le_of_ble_eq_true rfl) dL_law_291 (fun w H locs hw Y => ?_)
  obtain ⟨cd2, n2, T2, k2, hR2, hw2⟩ := hw
  have Y : us_Y D A (lW ad md cI cZ cJ u w O) s H locs := Y
  obtain ⟨ec, e0, e1, e2⟩ := hR.one hU.1 hR2
  rw [← ec] at hw2
  rw [← e0] at hw2
  rw [← e1] at hw2
  rw [← e2] at hw2
  refine lv_aload_n X.x X.b dL_law_294 rfl (lv_at hl 3 rfl) ?_
  refine us_vi (rest := []) X Y (k_M_thrown l D md cI cZ H.size w.1 w.2.1 w.2.2.1 w.2.2.2.1 w.2.2.2.2.1 w.2.2.2.2.2.1 w.2.2.2.2.2.2.1 w.2.2.2.2.2.2.2.1 w.2.2.2.2.2.2.2.2.1 w.2.2.2.2.2.2.2.2.2.1 w.2.2.2.2.2.2.2.2.2.2) us_Lm 0 rfl rfl cv_L_56 rfl ⟨by decide, by decide⟩ ⟨hc, hs⟩ hl.1 rfl (Nat.le_of_ble_eq_true rfl) dL_law_295 (fun r3 _ H locs h3 Y => ?_)
  rw [hw2.1] at h3
  subst h3
  have Y : us_Y D A (lW ad md cI cZ cJ u w O) s H locs := Y
  refine lv_iload X.x X.b dL_law_298 (lv_at hl 0 rfl) ?_
  refine lv_icmp_eq (tgt := 305) X.x X.b dL_law_300 (by decide) (fun _ => ?_) (fun h0 => absurd rfl h0)
  refine lv_goto (tgt := 645) X.x X.b dL_law_305 (by decide) ?_
  exact kk u w O H locs ls ⟨nI cd, n', T', k', np, nm, sn, sT, sk, hu, hw2⟩ Y (lv_sub hl [1, 2, 3, 4, 5] rfl)
set_option maxHeartbeats 4000000 in
set_option maxRecDepth 100000 in
theorem law_c3 (X : us_X p s m #[Value.ref b] c code 7 RL D (tyL cI cZ cJ) A) (hE : us_E A s) (hl9 : l.stackTraces = false) (hX : va_X b L xs s s.heap) (hbl : b < s.heap.size) (hbA : ¬ A b) (hL : L ≤ 2560) (hi : i + 5 ≤ L) (hc : cells + 1 ≤ 1055) (hs : slots + 6 ≤ 25209) (hU : us_U n T k np nm sn sT sk C PN CA CK CR CB) (hM : us_M n T k np nm sn sT sk V KV I KI PM KR KC) (Y : us_Y D A (lW ad md cI cZ cJ (n, np, k, C, PN, CA, CK, CR, CB) (th, n, np, k, V, KV, I, KI, PM, KR, KC) O) s H locs) (hl : lv_has ls 7 [(4, .int (nI i)), (3, .ref (ad 7)), (2, .ref (md 0)), (1, .ref (ad 0)), (0, .ref b)]) (kk : ∀ (u : us_SU) (w : us_SM) (O : Nat → Int64) (H : Heap) (locs : List Loc) (ls : Array Slot), us_LI u w → us_Y D A (lW ad md cI cZ cJ u w O) s H locs → lv_has ls 7 [(4, .int (nI i)), (3, .ref (ad 7)), (2, .ref (md 0)), (1, .ref (ad 0)), (0, .ref b)] → W p l e room_1 s m #[Value.ref b] below meth c H locs (cells + 1) (slots + 6) Q (F0 m 645 ls [])) : W p l e room_1 s m #[Value.ref b] below meth c H locs cells slots Q (F0 m 308 ls []) := by
  have hL31 : L < 2 ^ 31 := by omega
  refine lv_aload_n X.x X.b dL_law_308 rfl (lv_at hl 3 rfl) ?_
  refine lv_aload_n X.x X.b dL_law_309 rfl (lv_at hl 4 rfl) ?_
  refine lv_iload X.x X.b dL_law_310 (lv_at hl 0 rfl) ?_
  refine lv_iconst (v := nI 1) X.x X.b dL_law_312 (by decide) ?_
  refine us_iadd X dL_law_313 ?_
  refine us_sc X Y hX hbl hbA (i := i + 1) (by omega) (by omega) dL_law_314 ?_
  refine lv_aload_n X.x X.b dL_law_315 rfl (lv_at hl 4 rfl) ?_
  refine lv_iload X.x X.b dL_law_316 (lv_at hl 0 rfl) ?_
  refine lv_iconst (v := nI 2) X.x X.b dL_law_318 (by decide) ?_
  refine us_iadd X dL_law_319 ?_
  refine us_sc X Y hX hbl hbA (i := i + 2) (by omega) (by omega) dL_law_320 ?_
  refine lv_aload_n X.x X.b dL_law_321 rfl (lv_at hl 1 rfl) ?_
  refine us_hi (rest := []) X Y hE (k_L_removeAll l D ad cI H.size C PN CA CK CR CB n np k cJ O T nm sn sT sk hU hl9 (xs (i + 1)) (xs (i + 2))) us_Lo sw_removeAll rfl ⟨by decide, by decide⟩ ⟨hc, hs⟩ hl.1 rfl (Nat.le_of_ble_eq_true rfl) dL_law_322 (fun rr u H locs hw Y => ?_)
  obtain ⟨cd, ans, n', T', k', rfl, hR, hu, hO⟩ := hw
  have Y : us_Y D A (lW ad md cI cZ cJ u.1 (th, n, np, k, V, KV, I, KI, PM, KR, KC) u.2) s H locs := Y.perm [8, 9, 10, 11, 12, 13, 14, 15, 0, 1, 2, 3, 4, 5, 6, 7] rfl rfl
  refine lv_istore (lv' := [(5, .int (nI cd)), (4, .int (nI i)), (3, .ref (ad 7)), (2, .ref (md 0)), (1, .ref (ad 0)), (0, .ref b)]) X.x X.b dL_law_325 hl (by decide) rfl (fun ls hl => ?_)
  refine lv_aload_n X.x X.b dL_law_327 rfl (lv_at hl 3 rfl) ?_
  refine lv_aload_n X.x X.b dL_law_328 rfl (lv_at hl 5 rfl) ?_
  refine lv_iload X.x X.b dL_law_329 (lv_at hl 1 rfl) ?_
  refine lv_iconst (v := nI 1) X.x X.b dL_law_331 (by decide) ?_
  refine us_iadd X dL_law_332 ?_
  refine us_sc X Y hX hbl hbA (i := i + 1) (by omega) (by omega) dL_law_333 ?_
  refine lv_aload_n X.x X.b dL_law_334 rfl (lv_at hl 5 rfl) ?_
  refine lv_iload X.x X.b dL_law_335 (lv_at hl 1 rfl) ?_
  refine lv_iconst (v := nI 2) X.x X.b dL_law_337 (by decide) ?_
  refine us_iadd X dL_law_338 ?_
  refine us_sc X Y hX hbl hbA (i := i + 2) (by omega) (by omega) dL_law_339 ?_
  refine us_vi (rest := []) X Y (k_M_removeAll l D md cI cZ H.size th n np k V KV I KI PM KR KC T nm sn sT sk hM (xs (i + 1)) (xs (i + 2))) us_Lm 0 rfl rfl cv_L_71 rfl ⟨by decide, by decide⟩ ⟨hc, hs⟩ hl.1 rfl (Nat.le_of_ble_eq_true rfl) dL_law_340 (fun r2 w H locs hw Y => ?_)
  obtain ⟨cd2, n2, T2, k2, hR2, hw2⟩ := hw
  have Y : us_Y D A (lW ad md cI cZ cJ u.1 w u.2) s H locs := Y
  obtain ⟨ec, ea, e0, e1, e2⟩ := hR.one hR2
  rw [← ec] at hw2
  rw [← e0] at hw2
  rw [← e1] at hw2
  rw [← e2] at hw2
  refine lv_istore (lv' := [(6, .int r2), (5, .int (nI cd)), (4, .int (nI i)), (3, .ref (ad 7)), (2, .ref (md 0)), (1, .ref (ad 0)), (0, .ref b)]) X.x X.b dL_law_343 hl (by decide) rfl (fun ls hl => ?_)
  refine lv_aload_n X.x X.b dL_law_345 rfl (lv_at hl 4 rfl) ?_
  refine us_vi (rest := []) X Y (k_M_thrown l D md cI cZ H.size w.1 w.2.1 w.2.2.1 w.2.2.2.1 w.2.2.2.2.1 w.2.2.2.2.2.1 w.2.2.2.2.2.2.1 w.2.2.2.2.2.2.2.1 w.2.2.2.2.2.2.2.2.1 w.2.2.2.2.2.2.2.2.2.1 w.2.2.2.2.2.2.2.2.2.2) us_Lm 0 rfl rfl cv_L_56 rfl ⟨by decide, by decide⟩ ⟨hc, hs⟩ hl.1 rfl (Nat.le_of_ble_eq_true rfl) dL_law_346 (fun r3 _ H locs h3 Y => ?_)
  rw [hw2.1] at h3
  subst h3
  have Y : us_Y D A (lW ad md cI cZ cJ u.1 w u.2) s H locs := Y
  refine lv_iload X.x X.b dL_law_349 (lv_at hl 1 rfl) ?_
  refine lv_icmp_eq (tgt := 356) X.x X.b dL_law_351 (by decide) (fun _ => ?_) (fun h0 => absurd rfl h0)
  refine lv_iload X.x X.b dL_law_356 (lv_at hl 1 rfl) ?_
  refine lv_if_ne (tgt := 373) X.x X.b dL_law_358 (by decide) (fun h0 => ?_) (fun h0 => ?_)
  · refine lv_goto (tgt := 645) X.x X.b dL_law_373 (by decide) ?_
    exact kk u.1 w u.2 H locs ls ⟨nI cd, n', T', k', np, nm, sn, sT, sk, hu, hw2⟩ Y (lv_sub hl [2, 3, 4, 5, 6] rfl)
  · have hcd : cd = 0 := us_nI (by have := hR.cd; omega) (by decide) (h0.trans nI_0.symm)
    refine lv_aload_n X.x X.b dL_law_361 rfl (lv_at hl 3 rfl) ?_
    refine lv_iconst (v := nI 0) X.x X.b dL_law_362 (by decide) ?_
    refine us_ll X Y 0 2 rfl rfl (i := 0) (by decide) (by decide) dL_law_363 ?_
    refine lv_iload X.x X.b dL_law_364 (lv_at hl 0 rfl) ?_
    refine lv_i2l (v := r2.toInt64) X.x X.b dL_law_366 rfl ?_
    refine us_lc X (by rw [hO hcd, ea hcd]) dL_law_367 ?_
    refine us_eq0 (tgt := 373) X dL_law_368 (by decide) ?_
    refine lv_goto (tgt := 645) X.x X.b dL_law_373 (by decide) ?_
    exact kk u.1 w u.2 H locs ls ⟨nI cd, n', T', k', np, nm, sn, sT, sk, hu, hw2⟩ Y (lv_sub hl [2, 3, 4, 5, 6] rfl)
set_option maxHeartbeats 4000000 in
set_option maxRecDepth 100000 in
theorem law_c4 (X : us_X p s m #[Value.ref b] c code 7 RL D (tyL cI cZ cJ) A) (hE : us_E A s) (hl9 : l.stackTraces = false) (hX : va_X b L xs s s.heap) (hbl : b < s.heap.size) (hbA : ¬ A b) (hL : L ≤ 2560) (hi : i + 5 ≤ L) (hc : cells + 1 ≤ 1055) (hs : slots + 6 ≤ 25209) (hU : us_U n T k np nm sn sT sk C PN CA CK CR CB) (hM : us_M n T k np nm sn sT sk V KV I KI PM KR KC) (Y : us_Y D A (lW ad md cI cZ cJ (n, np, k, C, PN, CA, CK, CR, CB) (th, n, np, k, V, KV, I, KI, PM, KR, KC) O) s H locs) (hl : lv_has ls 7 [(4, .int (nI i)), (3, .ref (ad 7)), (2, .ref (md 0)), (1, .ref (ad 0)), (0, .ref b)]) (kk : ∀ (u : us_SU) (w : us_SM) (O : Nat → Int64) (H : Heap) (locs : List Loc) (ls : Array Slot), us_LI u w → us_Y D A (lW ad md cI cZ cJ u w O) s H locs → lv_has ls 7 [(4, .int (nI i)), (3, .ref (ad 7)), (2, .ref (md 0)), (1, .ref (ad 0)), (0, .ref b)] → W p l e room_1 s m #[Value.ref b] below meth c H locs (cells + 1) (slots + 6) Q (F0 m 645 ls [])) : W p l e room_1 s m #[Value.ref b] below meth c H locs cells slots Q (F0 m 376 ls []) := by
  have hL31 : L < 2 ^ 31 := by omega
  refine lv_aload_n X.x X.b dL_law_376 rfl (lv_at hl 3 rfl) ?_
  refine lv_aload_n X.x X.b dL_law_377 rfl (lv_at hl 4 rfl) ?_
  refine lv_iload X.x X.b dL_law_378 (lv_at hl 0 rfl) ?_
  refine lv_iconst (v := nI 1) X.x X.b dL_law_380 (by decide) ?_
  refine us_iadd X dL_law_381 ?_
  refine us_sc X Y hX hbl hbA (i := i + 1) (by omega) (by omega) dL_law_382 ?_
  refine lv_aload_n X.x X.b dL_law_383 rfl (lv_at hl 4 rfl) ?_
  refine lv_iload X.x X.b dL_law_384 (lv_at hl 0 rfl) ?_
  refine lv_iconst (v := nI 2) X.x X.b dL_law_386 (by decide) ?_
  refine us_iadd X dL_law_387 ?_
  refine us_sc X Y hX hbl hbA (i := i + 2) (by omega) (by omega) dL_law_388 ?_
  refine lv_aload_n X.x X.b dL_law_389 rfl (lv_at hl 1 rfl) ?_
  refine us_hi (rest := []) X Y hE (k_L_find l D ad cI H.size C PN CA CK CR CB n np k cJ O T nm sn sT sk hU hl9 (xs (i + 1)) (xs (i + 2))) us_Lo sw_find rfl ⟨by decide, by decide⟩ ⟨hc, hs⟩ hl.1 rfl (Nat.le_of_ble_eq_true rfl) dL_law_390 (fun rr u H locs hw Y => ?_)
  obtain ⟨cd, ans, rfl, hR, hu, hO⟩ := hw
  have Y : us_Y D A (lW ad md cI cZ cJ u.1 (th, n, np, k, V, KV, I, KI, PM, KR, KC) u.2) s H locs := Y.perm [8, 9, 10, 11, 12, 13, 14, 15, 0, 1, 2, 3, 4, 5, 6, 7] rfl rfl
  refine lv_istore (lv' := [(5, .int (nI cd)), (4, .int (nI i)), (3, .ref (ad 7)), (2, .ref (md 0)), (1, .ref (ad 0)), (0, .ref b)]) X.x X.b dL_law_393 hl (by decide) rfl (fun ls hl => ?_)
  refine lv_aload_n X.x X.b dL_law_395 rfl (lv_at hl 3 rfl) ?_
  refine lv_aload_n X.x X.b dL_law_396 rfl (lv_at hl 5 rfl) ?_
  refine lv_iload X.x X.b dL_law_397 (lv_at hl 1 rfl) ?_
  refine lv_iconst (v := nI 1) X.x X.b dL_law_399 (by decide) ?_
  refine us_iadd X dL_law_400 ?_
  refine us_sc X Y hX hbl hbA (i := i + 1) (by omega) (by omega) dL_law_401 ?_
  refine lv_aload_n X.x X.b dL_law_402 rfl (lv_at hl 5 rfl) ?_
  refine lv_iload X.x X.b dL_law_403 (lv_at hl 1 rfl) ?_
  refine lv_iconst (v := nI 2) X.x X.b dL_law_405 (by decide) ?_
  refine us_iadd X dL_law_406 ?_
  refine us_sc X Y hX hbl hbA (i := i + 2) (by omega) (by omega) dL_law_407 ?_
  refine us_vi (rest := []) X Y (k_M_find l D md cI cZ H.size th n np k V KV I KI PM KR KC T nm sn sT sk hM (xs (i + 1)) (xs (i + 2))) us_Lm 0 rfl rfl cv_L_74 rfl ⟨by decide, by decide⟩ ⟨hc, hs⟩ hl.1 rfl (Nat.le_of_ble_eq_true rfl) dL_law_408 (fun r2 w H locs hw Y => ?_)
  obtain ⟨cd2, hR2, hw2⟩ := hw
  have Y : us_Y D A (lW ad md cI cZ cJ u.1 w u.2) s H locs := Y
  obtain ⟨ec, ea⟩ := hR.one hR2
  rw [← ec] at hw2
  refine lv_istore (lv' := [(6, .int r2), (5, .int (nI cd)), (4, .int (nI i)), (3, .ref (ad 7)), (2, .ref (md 0)), (1, .ref (ad 0)), (0, .ref b)]) X.x X.b dL_law_411 hl (by decide) rfl (fun ls hl => ?_)
  refine lv_aload_n X.x X.b dL_law_413 rfl (lv_at hl 4 rfl) ?_
  refine us_vi (rest := []) X Y (k_M_thrown l D md cI cZ H.size w.1 w.2.1 w.2.2.1 w.2.2.2.1 w.2.2.2.2.1 w.2.2.2.2.2.1 w.2.2.2.2.2.2.1 w.2.2.2.2.2.2.2.1 w.2.2.2.2.2.2.2.2.1 w.2.2.2.2.2.2.2.2.2.1 w.2.2.2.2.2.2.2.2.2.2) us_Lm 0 rfl rfl cv_L_56 rfl ⟨by decide, by decide⟩ ⟨hc, hs⟩ hl.1 rfl (Nat.le_of_ble_eq_true rfl) dL_law_414 (fun r3 _ H locs h3 Y => ?_)
  rw [hw2.1] at h3
  subst h3
  have Y : us_Y D A (lW ad md cI cZ cJ u.1 w u.2) s H locs := Y
  refine lv_iload X.x X.b dL_law_417 (lv_at hl 1 rfl) ?_
  refine lv_icmp_eq (tgt := 424) X.x X.b dL_law_419 (by decide) (fun _ => ?_) (fun h0 => absurd rfl h0)
  refine lv_iload X.x X.b dL_law_424 (lv_at hl 1 rfl) ?_
  refine lv_if_ne (tgt := 441) X.x X.b dL_law_426 (by decide) (fun h0 => ?_) (fun h0 => ?_)
  · refine lv_goto (tgt := 645) X.x X.b dL_law_441 (by decide) ?_
    exact kk u.1 w u.2 H locs ls ⟨nI cd, n, T, k, np, nm, sn, sT, sk, hu, hw2⟩ Y (lv_sub hl [2, 3, 4, 5, 6] rfl)
  · have hcd : cd = 0 := us_nI (by have := hR.cd; omega) (by decide) (h0.trans nI_0.symm)
    refine lv_aload_n X.x X.b dL_law_429 rfl (lv_at hl 3 rfl) ?_
    refine lv_iconst (v := nI 0) X.x X.b dL_law_430 (by decide) ?_
    refine us_ll X Y 0 2 rfl rfl (i := 0) (by decide) (by decide) dL_law_431 ?_
    refine lv_iload X.x X.b dL_law_432 (lv_at hl 0 rfl) ?_
    refine lv_i2l (v := r2.toInt64) X.x X.b dL_law_434 rfl ?_
    refine us_lc X (by rw [hO hcd, ea hcd]) dL_law_435 ?_
    refine us_eq0 (tgt := 441) X dL_law_436 (by decide) ?_
    refine lv_goto (tgt := 645) X.x X.b dL_law_441 (by decide) ?_
    exact kk u.1 w u.2 H locs ls ⟨nI cd, n, T, k, np, nm, sn, sT, sk, hu, hw2⟩ Y (lv_sub hl [2, 3, 4, 5, 6] rfl)
set_option maxHeartbeats 4000000 in
set_option maxRecDepth 100000 in
theorem law_c5 (X : us_X p s m #[Value.ref b] c code 7 RL D (tyL cI cZ cJ) A) (hE : us_E A s) (hl9 : l.stackTraces = false) (hX : va_X b L xs s s.heap) (hbl : b < s.heap.size) (hbA : ¬ A b) (hL : L ≤ 2560) (hi : i + 5 ≤ L) (hc : cells + 1 ≤ 1055) (hs : slots + 6 ≤ 25209) (hU : us_U n T k np nm sn sT sk C PN CA CK CR CB) (hM : us_M n T k np nm sn sT sk V KV I KI PM KR KC) (Y : us_Y D A (lW ad md cI cZ cJ (n, np, k, C, PN, CA, CK, CR, CB) (th, n, np, k, V, KV, I, KI, PM, KR, KC) O) s H locs) (hl : lv_has ls 7 [(4, .int (nI i)), (3, .ref (ad 7)), (2, .ref (md 0)), (1, .ref (ad 0)), (0, .ref b)]) (kk : ∀ (u : us_SU) (w : us_SM) (O : Nat → Int64) (H : Heap) (locs : List Loc) (ls : Array Slot), us_LI u w → us_Y D A (lW ad md cI cZ cJ u w O) s H locs → lv_has ls 7 [(4, .int (nI i)), (3, .ref (ad 7)), (2, .ref (md 0)), (1, .ref (ad 0)), (0, .ref b)] → W p l e room_1 s m #[Value.ref b] below meth c H locs (cells + 1) (slots + 6) Q (F0 m 645 ls [])) : W p l e room_1 s m #[Value.ref b] below meth c H locs cells slots Q (F0 m 444 ls []) := by
  have hL31 : L < 2 ^ 31 := by omega
  refine lv_aload_n X.x X.b dL_law_444 rfl (lv_at hl 3 rfl) ?_
  refine lv_aload_n X.x X.b dL_law_445 rfl (lv_at hl 4 rfl) ?_
  refine lv_iload X.x X.b dL_law_446 (lv_at hl 0 rfl) ?_
  refine lv_iconst (v := nI 1) X.x X.b dL_law_448 (by decide) ?_
  refine us_iadd X dL_law_449 ?_
  refine us_sc X Y hX hbl hbA (i := i + 1) (by omega) (by omega) dL_law_450 ?_
  refine lv_aload_n X.x X.b dL_law_451 rfl (lv_at hl 4 rfl) ?_
  refine lv_iload X.x X.b dL_law_452 (lv_at hl 0 rfl) ?_
  refine lv_iconst (v := nI 2) X.x X.b dL_law_454 (by decide) ?_
  refine us_iadd X dL_law_455 ?_
  refine us_sc X Y hX hbl hbA (i := i + 2) (by omega) (by omega) dL_law_456 ?_
  refine lv_aload_n X.x X.b dL_law_457 rfl (lv_at hl 1 rfl) ?_
  refine us_hi (rest := []) X Y hE (k_L_value l D ad cI H.size C PN CA CK CR CB n np k cJ O T nm sn sT sk hU hl9 (xs (i + 1)) (xs (i + 2))) us_Lo sw_value rfl ⟨by decide, by decide⟩ ⟨hc, hs⟩ hl.1 rfl (Nat.le_of_ble_eq_true rfl) dL_law_458 (fun rr u H locs hw Y => ?_)
  obtain ⟨cd, ans, rfl, hR, hu, hO⟩ := hw
  have Y : us_Y D A (lW ad md cI cZ cJ u.1 (th, n, np, k, V, KV, I, KI, PM, KR, KC) u.2) s H locs := Y.perm [8, 9, 10, 11, 12, 13, 14, 15, 0, 1, 2, 3, 4, 5, 6, 7] rfl rfl
  refine lv_istore (lv' := [(5, .int (nI cd)), (4, .int (nI i)), (3, .ref (ad 7)), (2, .ref (md 0)), (1, .ref (ad 0)), (0, .ref b)]) X.x X.b dL_law_461 hl (by decide) rfl (fun ls hl => ?_)
  refine lv_aload_n X.x X.b dL_law_463 rfl (lv_at hl 3 rfl) ?_
  refine lv_aload_n X.x X.b dL_law_464 rfl (lv_at hl 5 rfl) ?_
  refine lv_iload X.x X.b dL_law_465 (lv_at hl 1 rfl) ?_
  refine lv_iconst (v := nI 1) X.x X.b dL_law_467 (by decide) ?_
  refine us_iadd X dL_law_468 ?_
  refine us_sc X Y hX hbl hbA (i := i + 1) (by omega) (by omega) dL_law_469 ?_
  refine lv_aload_n X.x X.b dL_law_470 rfl (lv_at hl 5 rfl) ?_
  refine lv_iload X.x X.b dL_law_471 (lv_at hl 1 rfl) ?_
  refine lv_iconst (v := nI 2) X.x X.b dL_law_473 (by decide) ?_
  refine us_iadd X dL_law_474 ?_
  refine us_sc X Y hX hbl hbA (i := i + 2) (by omega) (by omega) dL_law_475 ?_
  refine us_vi (rest := []) X Y (k_M_value l D md cI cZ H.size th n np k V KV I KI PM KR KC T nm sn sT sk hM (xs (i + 1)) (xs (i + 2))) us_Lm 0 rfl rfl cv_L_77 rfl ⟨by decide, by decide⟩ ⟨hc, hs⟩ hl.1 rfl (Nat.le_of_ble_eq_true rfl) dL_law_476 (fun r2 w H locs hw Y => ?_)
  obtain ⟨cd2, hR2, hw2⟩ := hw
  have Y : us_Y D A (lW ad md cI cZ cJ u.1 w u.2) s H locs := Y
  obtain ⟨ec, ea⟩ := hR.one hU.1 hR2
  rw [← ec] at hw2
  refine lv_istore (lv' := [(6, .int r2), (5, .int (nI cd)), (4, .int (nI i)), (3, .ref (ad 7)), (2, .ref (md 0)), (1, .ref (ad 0)), (0, .ref b)]) X.x X.b dL_law_479 hl (by decide) rfl (fun ls hl => ?_)
  refine lv_aload_n X.x X.b dL_law_481 rfl (lv_at hl 4 rfl) ?_
  refine us_vi (rest := []) X Y (k_M_thrown l D md cI cZ H.size w.1 w.2.1 w.2.2.1 w.2.2.2.1 w.2.2.2.2.1 w.2.2.2.2.2.1 w.2.2.2.2.2.2.1 w.2.2.2.2.2.2.2.1 w.2.2.2.2.2.2.2.2.1 w.2.2.2.2.2.2.2.2.2.1 w.2.2.2.2.2.2.2.2.2.2) us_Lm 0 rfl rfl cv_L_56 rfl ⟨by decide, by decide⟩ ⟨hc, hs⟩ hl.1 rfl (Nat.le_of_ble_eq_true rfl) dL_law_482 (fun r3 _ H locs h3 Y => ?_)
  rw [hw2.1] at h3
  subst h3
  have Y : us_Y D A (lW ad md cI cZ cJ u.1 w u.2) s H locs := Y
  refine lv_iload X.x X.b dL_law_485 (lv_at hl 1 rfl) ?_
  refine lv_icmp_eq (tgt := 492) X.x X.b dL_law_487 (by decide) (fun _ => ?_) (fun h0 => absurd rfl h0)
  refine lv_iload X.x X.b dL_law_492 (lv_at hl 1 rfl) ?_
  refine lv_if_ne (tgt := 509) X.x X.b dL_law_494 (by decide) (fun h0 => ?_) (fun h0 => ?_)
  · refine lv_goto (tgt := 645) X.x X.b dL_law_509 (by decide) ?_
    exact kk u.1 w u.2 H locs ls ⟨nI cd, n, T, k, np, nm, sn, sT, sk, hu, hw2⟩ Y (lv_sub hl [2, 3, 4, 5, 6] rfl)
  · have hcd : cd = 0 := us_nI (by have := hR.cd; omega) (by decide) (h0.trans nI_0.symm)
    refine lv_aload_n X.x X.b dL_law_497 rfl (lv_at hl 3 rfl) ?_
    refine lv_iconst (v := nI 0) X.x X.b dL_law_498 (by decide) ?_
    refine us_ll X Y 0 2 rfl rfl (i := 0) (by decide) (by decide) dL_law_499 ?_
    refine lv_iload X.x X.b dL_law_500 (lv_at hl 0 rfl) ?_
    refine lv_i2l (v := r2.toInt64) X.x X.b dL_law_502 rfl ?_
    refine us_lc X (by rw [hO hcd, ea hcd]) dL_law_503 ?_
    refine us_eq0 (tgt := 509) X dL_law_504 (by decide) ?_
    refine lv_goto (tgt := 645) X.x X.b dL_law_509 (by decide) ?_
    exact kk u.1 w u.2 H locs ls ⟨nI cd, n, T, k, np, nm, sn, sT, sk, hu, hw2⟩ Y (lv_sub hl [2, 3, 4, 5, 6] rfl)
set_option maxHeartbeats 4000000 in
set_option maxRecDepth 100000 in
theorem law_c6 (X : us_X p s m #[Value.ref b] c code 7 RL D (tyL cI cZ cJ) A) (hE : us_E A s) (hl9 : l.stackTraces = false) (hX : va_X b L xs s s.heap) (hbl : b < s.heap.size) (hbA : ¬ A b) (hL : L ≤ 2560) (hi : i + 5 ≤ L) (hc : cells + 1 ≤ 1055) (hs : slots + 6 ≤ 25209) (hU : us_U n T k np nm sn sT sk C PN CA CK CR CB) (hM : us_M n T k np nm sn sT sk V KV I KI PM KR KC) (Y : us_Y D A (lW ad md cI cZ cJ (n, np, k, C, PN, CA, CK, CR, CB) (th, n, np, k, V, KV, I, KI, PM, KR, KC) O) s H locs) (hl : lv_has ls 7 [(4, .int (nI i)), (3, .ref (ad 7)), (2, .ref (md 0)), (1, .ref (ad 0)), (0, .ref b)]) (kk : ∀ (u : us_SU) (w : us_SM) (O : Nat → Int64) (H : Heap) (locs : List Loc) (ls : Array Slot), us_LI u w → us_Y D A (lW ad md cI cZ cJ u w O) s H locs → lv_has ls 7 [(4, .int (nI i)), (3, .ref (ad 7)), (2, .ref (md 0)), (1, .ref (ad 0)), (0, .ref b)] → W p l e room_1 s m #[Value.ref b] below meth c H locs (cells + 1) (slots + 6) Q (F0 m 645 ls [])) : W p l e room_1 s m #[Value.ref b] below meth c H locs cells slots Q (F0 m 512 ls []) := by
  have hL31 : L < 2 ^ 31 := by omega
  refine lv_aload_n X.x X.b dL_law_512 rfl (lv_at hl 3 rfl) ?_
  refine lv_aload_n X.x X.b dL_law_513 rfl (lv_at hl 4 rfl) ?_
  refine lv_iload X.x X.b dL_law_514 (lv_at hl 0 rfl) ?_
  refine lv_iconst (v := nI 1) X.x X.b dL_law_516 (by decide) ?_
  refine us_iadd X dL_law_517 ?_
  refine us_sc X Y hX hbl hbA (i := i + 1) (by omega) (by omega) dL_law_518 ?_
  refine us_hi (rest := []) X Y hE (k_L_mark l D ad cI H.size C PN CA CK CR CB n np k T nm sn sT sk hU hl9 (xs (i + 1))) us_Lu sw_mark rfl ⟨by decide, by decide⟩ ⟨hc, hs⟩ hl.1 rfl (Nat.le_of_ble_eq_true rfl) dL_law_519 (fun rr u H locs hw Y => ?_)
  obtain ⟨cd, np', nm', sn', sT', sk', rfl, hR, hu⟩ := hw
  have Y : us_Y D A (lW ad md cI cZ cJ u (th, n, np, k, V, KV, I, KI, PM, KR, KC) O) s H locs := Y.perm [0, 9, 10, 11, 12, 13, 14, 15, 1, 2, 3, 4, 5, 6, 7, 8] rfl rfl
  refine lv_istore (lv' := [(5, .int (nI cd)), (4, .int (nI i)), (3, .ref (ad 7)), (2, .ref (md 0)), (1, .ref (ad 0)), (0, .ref b)]) X.x X.b dL_law_522 hl (by decide) rfl (fun ls hl => ?_)
  refine lv_aload_n X.x X.b dL_law_524 rfl (lv_at hl 3 rfl) ?_
  refine lv_aload_n X.x X.b dL_law_525 rfl (lv_at hl 5 rfl) ?_
  refine lv_iload X.x X.b dL_law_526 (lv_at hl 1 rfl) ?_
  refine lv_iconst (v := nI 1) X.x X.b dL_law_528 (by decide) ?_
  refine us_iadd X dL_law_529 ?_
  refine us_sc X Y hX hbl hbA (i := i + 1) (by omega) (by omega) dL_law_530 ?_
  refine us_vv (rest := []) X Y (k_M_mark l D md cI cZ H.size th n np k V KV I KI PM KR KC T nm sn sT sk hM (xs (i + 1))) us_Lm 0 rfl rfl cv_L_80 rfl ⟨by decide, by decide⟩ ⟨hc, hs⟩ hl.1 rfl (Nat.le_of_ble_eq_true rfl) dL_law_531 (fun w H locs hw Y => ?_)
  obtain ⟨cd2, np2, nm2, sn2, sT2, sk2, hR2, hw2⟩ := hw
  have Y : us_Y D A (lW ad md cI cZ cJ u w O) s H locs := Y
  obtain ⟨ec, e0, e1, e2, e3, e4⟩ := hR.one hR2
  rw [← ec] at hw2
  rw [← e0] at hw2
  rw [← e1] at hw2
  rw [← e2] at hw2
  rw [← e3] at hw2
  rw [← e4] at hw2
  refine lv_aload_n X.x X.b dL_law_534 rfl (lv_at hl 3 rfl) ?_
  refine us_vi (rest := []) X Y (k_M_thrown l D md cI cZ H.size w.1 w.2.1 w.2.2.1 w.2.2.2.1 w.2.2.2.2.1 w.2.2.2.2.2.1 w.2.2.2.2.2.2.1 w.2.2.2.2.2.2.2.1 w.2.2.2.2.2.2.2.2.1 w.2.2.2.2.2.2.2.2.2.1 w.2.2.2.2.2.2.2.2.2.2) us_Lm 0 rfl rfl cv_L_56 rfl ⟨by decide, by decide⟩ ⟨hc, hs⟩ hl.1 rfl (Nat.le_of_ble_eq_true rfl) dL_law_535 (fun r3 _ H locs h3 Y => ?_)
  rw [hw2.1] at h3
  subst h3
  have Y : us_Y D A (lW ad md cI cZ cJ u w O) s H locs := Y
  refine lv_iload X.x X.b dL_law_538 (lv_at hl 0 rfl) ?_
  refine lv_icmp_eq (tgt := 545) X.x X.b dL_law_540 (by decide) (fun _ => ?_) (fun h0 => absurd rfl h0)
  refine lv_goto (tgt := 645) X.x X.b dL_law_545 (by decide) ?_
  exact kk u w O H locs ls ⟨nI cd, n, T, k, np', nm', sn', sT', sk', hu, hw2⟩ Y (lv_sub hl [1, 2, 3, 4, 5] rfl)
set_option maxHeartbeats 4000000 in
set_option maxRecDepth 100000 in
theorem law_c7 (X : us_X p s m #[Value.ref b] c code 7 RL D (tyL cI cZ cJ) A) (hE : us_E A s) (hl9 : l.stackTraces = false) (hX : va_X b L xs s s.heap) (hbl : b < s.heap.size) (hbA : ¬ A b) (hL : L ≤ 2560) (hi : i + 5 ≤ L) (hc : cells + 1 ≤ 1055) (hs : slots + 6 ≤ 25209) (hU : us_U n T k np nm sn sT sk C PN CA CK CR CB) (hM : us_M n T k np nm sn sT sk V KV I KI PM KR KC) (Y : us_Y D A (lW ad md cI cZ cJ (n, np, k, C, PN, CA, CK, CR, CB) (th, n, np, k, V, KV, I, KI, PM, KR, KC) O) s H locs) (hl : lv_has ls 7 [(4, .int (nI i)), (3, .ref (ad 7)), (2, .ref (md 0)), (1, .ref (ad 0)), (0, .ref b)]) (kk : ∀ (u : us_SU) (w : us_SM) (O : Nat → Int64) (H : Heap) (locs : List Loc) (ls : Array Slot), us_LI u w → us_Y D A (lW ad md cI cZ cJ u w O) s H locs → lv_has ls 7 [(4, .int (nI i)), (3, .ref (ad 7)), (2, .ref (md 0)), (1, .ref (ad 0)), (0, .ref b)] → W p l e room_1 s m #[Value.ref b] below meth c H locs (cells + 1) (slots + 6) Q (F0 m 645 ls [])) : W p l e room_1 s m #[Value.ref b] below meth c H locs cells slots Q (F0 m 548 ls []) := by
  have hL31 : L < 2 ^ 31 := by omega
  refine lv_aload_n X.x X.b dL_law_548 rfl (lv_at hl 3 rfl) ?_
  refine lv_aload_n X.x X.b dL_law_549 rfl (lv_at hl 4 rfl) ?_
  refine lv_iload X.x X.b dL_law_550 (lv_at hl 0 rfl) ?_
  refine lv_iconst (v := nI 1) X.x X.b dL_law_552 (by decide) ?_
  refine us_iadd X dL_law_553 ?_
  refine us_sc X Y hX hbl hbA (i := i + 1) (by omega) (by omega) dL_law_554 ?_
  refine us_hi (rest := []) X Y hE (k_L_back l D ad cI H.size C PN CA CK CR CB n np k T nm sn sT sk hU hl9 (xs (i + 1))) us_Lu sw_back rfl ⟨by decide, by decide⟩ ⟨hc, hs⟩ hl.1 rfl (Nat.le_of_ble_eq_true rfl) dL_law_555 (fun rr u H locs hw Y => ?_)
  obtain ⟨cd, n', T', k', np', rfl, hR, hu⟩ := hw
  have Y : us_Y D A (lW ad md cI cZ cJ u (th, n, np, k, V, KV, I, KI, PM, KR, KC) O) s H locs := Y.perm [0, 9, 10, 11, 12, 13, 14, 15, 1, 2, 3, 4, 5, 6, 7, 8] rfl rfl
  refine lv_istore (lv' := [(5, .int (nI cd)), (4, .int (nI i)), (3, .ref (ad 7)), (2, .ref (md 0)), (1, .ref (ad 0)), (0, .ref b)]) X.x X.b dL_law_558 hl (by decide) rfl (fun ls hl => ?_)
  refine lv_aload_n X.x X.b dL_law_560 rfl (lv_at hl 3 rfl) ?_
  refine lv_aload_n X.x X.b dL_law_561 rfl (lv_at hl 5 rfl) ?_
  refine lv_iload X.x X.b dL_law_562 (lv_at hl 1 rfl) ?_
  refine lv_iconst (v := nI 1) X.x X.b dL_law_564 (by decide) ?_
  refine us_iadd X dL_law_565 ?_
  refine us_sc X Y hX hbl hbA (i := i + 1) (by omega) (by omega) dL_law_566 ?_
  refine us_vv (rest := []) X Y (k_M_back l D md cI cZ H.size th n np k V KV I KI PM KR KC T nm sn sT sk hM (xs (i + 1))) us_Lm 0 rfl rfl cv_L_83 rfl ⟨by decide, by decide⟩ ⟨hc, hs⟩ hl.1 rfl (Nat.le_of_ble_eq_true rfl) dL_law_567 (fun w H locs hw Y => ?_)
  obtain ⟨cd2, n2, T2, k2, np2, hR2, hw2⟩ := hw
  have Y : us_Y D A (lW ad md cI cZ cJ u w O) s H locs := Y
  obtain ⟨ec, e0, e1, e2, e3⟩ := hR.one hR2
  rw [← ec] at hw2
  rw [← e0] at hw2
  rw [← e1] at hw2
  rw [← e2] at hw2
  rw [← e3] at hw2
  refine lv_aload_n X.x X.b dL_law_570 rfl (lv_at hl 3 rfl) ?_
  refine us_vi (rest := []) X Y (k_M_thrown l D md cI cZ H.size w.1 w.2.1 w.2.2.1 w.2.2.2.1 w.2.2.2.2.1 w.2.2.2.2.2.1 w.2.2.2.2.2.2.1 w.2.2.2.2.2.2.2.1 w.2.2.2.2.2.2.2.2.1 w.2.2.2.2.2.2.2.2.2.1 w.2.2.2.2.2.2.2.2.2.2) us_Lm 0 rfl rfl cv_L_56 rfl ⟨by decide, by decide⟩ ⟨hc, hs⟩ hl.1 rfl (Nat.le_of_ble_eq_true rfl) dL_law_571 (fun r3 _ H locs h3 Y => ?_)
  rw [hw2.1] at h3
  subst h3
  have Y : us_Y D A (lW ad md cI cZ cJ u w O) s H locs := Y
  refine lv_iload X.x X.b dL_law_574 (lv_at hl 0 rfl) ?_
  refine lv_icmp_eq (tgt := 581) X.x X.b dL_law_576 (by decide) (fun _ => ?_) (fun h0 => absurd rfl h0)
  refine lv_goto (tgt := 645) X.x X.b dL_law_581 (by decide) ?_
  exact kk u w O H locs ls ⟨nI cd, n', T', k', np', nm, sn, sT, sk, hu, hw2⟩ Y (lv_sub hl [1, 2, 3, 4, 5] rfl)
set_option maxHeartbeats 4000000 in
set_option maxRecDepth 100000 in
theorem law_c8 (X : us_X p s m #[Value.ref b] c code 7 RL D (tyL cI cZ cJ) A) (hE : us_E A s) (hl9 : l.stackTraces = false) (hX : va_X b L xs s s.heap) (hbl : b < s.heap.size) (hbA : ¬ A b) (hL : L ≤ 2560) (hi : i + 5 ≤ L) (hc : cells + 1 ≤ 1055) (hs : slots + 6 ≤ 25209) (hU : us_U n T k np nm sn sT sk C PN CA CK CR CB) (hM : us_M n T k np nm sn sT sk V KV I KI PM KR KC) (Y : us_Y D A (lW ad md cI cZ cJ (n, np, k, C, PN, CA, CK, CR, CB) (th, n, np, k, V, KV, I, KI, PM, KR, KC) O) s H locs) (hl : lv_has ls 7 [(4, .int (nI i)), (3, .ref (ad 7)), (2, .ref (md 0)), (1, .ref (ad 0)), (0, .ref b)]) (kk : ∀ (u : us_SU) (w : us_SM) (O : Nat → Int64) (H : Heap) (locs : List Loc) (ls : Array Slot), us_LI u w → us_Y D A (lW ad md cI cZ cJ u w O) s H locs → lv_has ls 7 [(4, .int (nI i)), (3, .ref (ad 7)), (2, .ref (md 0)), (1, .ref (ad 0)), (0, .ref b)] → W p l e room_1 s m #[Value.ref b] below meth c H locs (cells + 1) (slots + 6) Q (F0 m 645 ls [])) : W p l e room_1 s m #[Value.ref b] below meth c H locs cells slots Q (F0 m 584 ls []) := by
  have hL31 : L < 2 ^ 31 := by omega
  refine lv_aload_n X.x X.b dL_law_584 rfl (lv_at hl 3 rfl) ?_
  refine lv_aload_n X.x X.b dL_law_585 rfl (lv_at hl 4 rfl) ?_
  refine lv_iload X.x X.b dL_law_586 (lv_at hl 0 rfl) ?_
  refine lv_iconst (v := nI 1) X.x X.b dL_law_588 (by decide) ?_
  refine us_iadd X dL_law_589 ?_
  refine us_sc X Y hX hbl hbA (i := i + 1) (by omega) (by omega) dL_law_590 ?_
  refine us_hi (rest := []) X Y hE (k_L_release l D ad cI H.size C PN CA CK CR CB n np k T nm sn sT sk hU hl9 (xs (i + 1))) us_Lu sw_release rfl ⟨by decide, by decide⟩ ⟨hc, hs⟩ hl.1 rfl (Nat.le_of_ble_eq_true rfl) dL_law_591 (fun rr u H locs hw Y => ?_)
  obtain ⟨cd, k', np', rfl, hR, hu⟩ := hw
  have Y : us_Y D A (lW ad md cI cZ cJ u (th, n, np, k, V, KV, I, KI, PM, KR, KC) O) s H locs := Y.perm [0, 9, 10, 11, 12, 13, 14, 15, 1, 2, 3, 4, 5, 6, 7, 8] rfl rfl
  refine lv_istore (lv' := [(5, .int (nI cd)), (4, .int (nI i)), (3, .ref (ad 7)), (2, .ref (md 0)), (1, .ref (ad 0)), (0, .ref b)]) X.x X.b dL_law_594 hl (by decide) rfl (fun ls hl => ?_)
  refine lv_aload_n X.x X.b dL_law_596 rfl (lv_at hl 3 rfl) ?_
  refine lv_aload_n X.x X.b dL_law_597 rfl (lv_at hl 5 rfl) ?_
  refine lv_iload X.x X.b dL_law_598 (lv_at hl 1 rfl) ?_
  refine lv_iconst (v := nI 1) X.x X.b dL_law_600 (by decide) ?_
  refine us_iadd X dL_law_601 ?_
  refine us_sc X Y hX hbl hbA (i := i + 1) (by omega) (by omega) dL_law_602 ?_
  refine us_vv (rest := []) X Y (k_M_release l D md cI cZ H.size th n np k V KV I KI PM KR KC T nm sn sT sk hM (xs (i + 1))) us_Lm 0 rfl rfl cv_L_86 rfl ⟨by decide, by decide⟩ ⟨hc, hs⟩ hl.1 rfl (Nat.le_of_ble_eq_true rfl) dL_law_603 (fun w H locs hw Y => ?_)
  obtain ⟨cd2, k2, np2, hR2, hw2⟩ := hw
  have Y : us_Y D A (lW ad md cI cZ cJ u w O) s H locs := Y
  obtain ⟨ec, e0, e1⟩ := hR.one hR2
  rw [← ec] at hw2
  rw [← e0] at hw2
  rw [← e1] at hw2
  refine lv_aload_n X.x X.b dL_law_606 rfl (lv_at hl 3 rfl) ?_
  refine us_vi (rest := []) X Y (k_M_thrown l D md cI cZ H.size w.1 w.2.1 w.2.2.1 w.2.2.2.1 w.2.2.2.2.1 w.2.2.2.2.2.1 w.2.2.2.2.2.2.1 w.2.2.2.2.2.2.2.1 w.2.2.2.2.2.2.2.2.1 w.2.2.2.2.2.2.2.2.2.1 w.2.2.2.2.2.2.2.2.2.2) us_Lm 0 rfl rfl cv_L_56 rfl ⟨by decide, by decide⟩ ⟨hc, hs⟩ hl.1 rfl (Nat.le_of_ble_eq_true rfl) dL_law_607 (fun r3 _ H locs h3 Y => ?_)
  rw [hw2.1] at h3
  subst h3
  have Y : us_Y D A (lW ad md cI cZ cJ u w O) s H locs := Y
  refine lv_iload X.x X.b dL_law_610 (lv_at hl 0 rfl) ?_
  refine lv_icmp_eq (tgt := 617) X.x X.b dL_law_612 (by decide) (fun _ => ?_) (fun h0 => absurd rfl h0)
  refine lv_goto (tgt := 645) X.x X.b dL_law_617 (by decide) ?_
  exact kk u w O H locs ls ⟨nI cd, n, T, k', np', nm, sn, sT, sk, hu, hw2⟩ Y (lv_sub hl [1, 2, 3, 4, 5] rfl)
set_option maxHeartbeats 4000000 in
set_option maxRecDepth 100000 in
theorem law_c9 (X : us_X p s m #[Value.ref b] c code 7 RL D (tyL cI cZ cJ) A) (hE : us_E A s) (hl9 : l.stackTraces = false) (hX : va_X b L xs s s.heap) (hbl : b < s.heap.size) (hbA : ¬ A b) (hL : L ≤ 2560) (hi : i + 5 ≤ L) (hc : cells + 1 ≤ 1055) (hs : slots + 6 ≤ 25209) (hU : us_U n T k np nm sn sT sk C PN CA CK CR CB) (hM : us_M n T k np nm sn sT sk V KV I KI PM KR KC) (Y : us_Y D A (lW ad md cI cZ cJ (n, np, k, C, PN, CA, CK, CR, CB) (th, n, np, k, V, KV, I, KI, PM, KR, KC) O) s H locs) (hl : lv_has ls 7 [(4, .int (nI i)), (3, .ref (ad 7)), (2, .ref (md 0)), (1, .ref (ad 0)), (0, .ref b)]) (kk : ∀ (u : us_SU) (w : us_SM) (O : Nat → Int64) (H : Heap) (locs : List Loc) (ls : Array Slot), us_LI u w → us_Y D A (lW ad md cI cZ cJ u w O) s H locs → lv_has ls 7 [(4, .int (nI i)), (3, .ref (ad 7)), (2, .ref (md 0)), (1, .ref (ad 0)), (0, .ref b)] → W p l e room_1 s m #[Value.ref b] below meth c H locs (cells + 1) (slots + 6) Q (F0 m 645 ls [])) : W p l e room_1 s m #[Value.ref b] below meth c H locs cells slots Q (F0 m 620 ls []) := by
  have hL31 : L < 2 ^ 31 := by omega
  refine lv_aload_n X.x X.b dL_law_620 rfl (lv_at hl 3 rfl) ?_
  refine lv_aload_n X.x X.b dL_law_621 rfl (lv_at hl 4 rfl) ?_
  refine lv_iload X.x X.b dL_law_622 (lv_at hl 0 rfl) ?_
  refine lv_iconst (v := nI 1) X.x X.b dL_law_624 (by decide) ?_
  refine us_iadd X dL_law_625 ?_
  refine us_sc X Y hX hbl hbA (i := i + 1) (by omega) (by omega) dL_law_626 ?_
  refine us_vi (rest := []) X Y (k_U_count l D ad cI H.size C PN CA CK CR CB n np k T (xs (i + 1)) hU.1 hU.2.2.2.2.1) us_Lu 0 rfl rfl cv_L_87 rfl ⟨by decide, by decide⟩ ⟨Nat.le_of_succ_le hc, Nat.le_trans (Nat.le_add_right _ 6) hs⟩ hl.1 rfl (Nat.le_of_ble_eq_true rfl) dL_law_627 (fun rr _ H locs h1 Y => ?_)
  have Y : us_Y D A (lW ad md cI cZ cJ (n, np, k, C, PN, CA, CK, CR, CB) (th, n, np, k, V, KV, I, KI, PM, KR, KC) O) s H locs := Y.perm [0, 9, 10, 11, 12, 13, 14, 15, 1, 2, 3, 4, 5, 6, 7, 8] rfl rfl
  refine lv_aload_n X.x X.b dL_law_630 rfl (lv_at hl 2 rfl) ?_
  refine lv_aload_n X.x X.b dL_law_631 rfl (lv_at hl 4 rfl) ?_
  refine lv_iload X.x X.b dL_law_632 (lv_at hl 0 rfl) ?_
  refine lv_iconst (v := nI 1) X.x X.b dL_law_634 (by decide) ?_
  refine us_iadd X dL_law_635 ?_
  refine us_sc X Y hX hbl hbA (i := i + 1) (by omega) (by omega) dL_law_636 ?_
  refine us_vi (rest := [.int rr]) X Y (k_M_count l D md cI cZ H.size th n np k V KV I KI PM KR KC T (xs (i + 1)) hM.1 hM.2.2.2.1) us_Lm 0 rfl rfl cv_L_91 rfl ⟨by decide, by decide⟩ ⟨Nat.le_of_succ_le hc, Nat.le_trans (Nat.le_add_right _ 6) hs⟩ hl.1 rfl (Nat.le_of_ble_eq_true rfl) dL_law_637 (fun r2 _ H locs h2 Y => ?_)
  have Y : us_Y D A (lW ad md cI cZ cJ (n, np, k, C, PN, CA, CK, CR, CB) (nI 0, n, np, k, V, KV, I, KI, PM, KR, KC) O) s H locs := Y
  refine lv_icmp_eq (tgt := 645) X.x X.b dL_law_640 (by decide) (fun _ => ?_) (fun h0 => absurd (h1.trans h2.symm) h0)
  refine W.widen (k := cells + 1) (n := slots + 6) (by omega) (by omega) ?_
  exact kk _ _ O H locs ls ⟨nI 0, n, T, k, np, nm, sn, sT, sk, ⟨rfl, rfl, rfl, hU⟩, ⟨rfl, rfl, rfl, rfl, hM⟩⟩ Y hl
end USW
end
section
/-! 61.start: the law's loop, and its start. -/
section USF
variable {p : Program} {l : Launch} {e : Env} {s : State} {m : MethodId} {below : List Frame} {meth : Method} {c : Code} {H : Heap} {locs : List Loc} {cells slots : Nat} {Q : State → Prop} {ls : Array Slot} {D : va_G} {A : Nat → Prop} {b L i : Nat} {xs : Nat → Int32} {ad md : Nat → Nat} {cI cZ cJ : ClassId}
theorem law_turn (X : us_X p s m #[Value.ref b] c code 7 RL D (tyL cI cZ cJ) A) (hE : us_E A s) (hl9 : l.stackTraces = false) (hX : va_X b L xs s s.heap) (hbl : b < s.heap.size) (hbA : ¬ A b) (hL : L ≤ 2560) (hi : i + 5 ≤ L) (hc : cells + 1 ≤ 1055) (hs : slots + 6 ≤ 25209) {u : us_SU} {w : us_SM} {O : Nat → Int64} (hI : us_LI u w) (Y : us_Y D A (lW ad md cI cZ cJ u w O) s H locs) (hl : lv_has ls 7 [(4, .int (nI i)), (3, .ref (ad 7)), (2, .ref (md 0)), (1, .ref (ad 0)), (0, .ref b)])
    (kk : ∀ (u : us_SU) (w : us_SM) (O : Nat → Int64) (H : Heap) (locs : List Loc) (ls : Array Slot), us_LI u w → us_Y D A (lW ad md cI cZ cJ u w O) s H locs → lv_has ls 7 [(4, .int (nI i)), (3, .ref (ad 7)), (2, .ref (md 0)), (1, .ref (ad 0)), (0, .ref b)] → W p l e room_1 s m #[Value.ref b] below meth c H locs (cells + 1) (slots + 6) Q (F0 m 645 ls [])) :
    W p l e room_1 s m #[Value.ref b] below meth c H locs cells slots Q (F0 m 32 ls []) := by
  obtain ⟨j, hj, ej⟩ := pk_andE (xs i) (m := 15) 4 (by decide)
  refine lv_aload_n X.x X.b dL_law_32 rfl (lv_at hl 4 rfl) ?_
  refine lv_iload X.x X.b dL_law_33 (lv_at hl 0 rfl) ?_
  refine us_sc X Y hX hbl hbA (i := i) (by omega) (by omega) dL_law_35 ?_
  refine lv_bipush (v := (15 : Int32)) X.x X.b dL_law_36 (by decide) ?_
  refine lv_iand X.x X.b dL_law_38 ?_
  rw [ej]
  have hj : j < 16 := hj
  by_cases h9 : 9 < j
  · refine lv_tableOut X.x X.b dL_law_39 (Or.inr (by rw [nI_toInt (by omega)]; omega)) (tgt := 645) (by decide) ?_
    exact W.widen (k := cells + 1) (n := slots + 6) (by omega) (by omega) (kk u w O H locs ls hI Y hl)
  · revert Y
    refine hI.elim (P := fun u w => us_Y D A (lW ad md cI cZ cJ u w O) s H locs → W p l e room_1 s m #[Value.ref b] below meth c H locs cells slots Q (F0 m 39 ls [.int (nI j)])) ?_
    intro th n T k np nm sn sT sk C PN CA CK CR CB V KV I KI PM KR KC hU hM Y
    rcases (show j = 0 ∨ j = 1 ∨ j = 2 ∨ j = 3 ∨ j = 4 ∨ j = 5 ∨ j = 6 ∨ j = 7 ∨ j = 8 ∨ j = 9 by omega) with h | h | h | h | h | h | h | h | h | h <;> subst h
    · exact lv_tableIn (x := nI 0) (off := 92 - 39) (tgt := 92) X.x X.b dL_law_39 (by decide) (by decide) (by decide) (by decide) (law_c0 X hE hl9 hX hbl hbA hL hi hc hs hU hM Y hl kk)
    · exact lv_tableIn (x := nI 1) (off := 184 - 39) (tgt := 184) X.x X.b dL_law_39 (by decide) (by decide) (by decide) (by decide) (law_c1 X hE hl9 hX hbl hbA hL hi hc hs hU hM Y hl kk)
    · exact lv_tableIn (x := nI 2) (off := 272 - 39) (tgt := 272) X.x X.b dL_law_39 (by decide) (by decide) (by decide) (by decide) (law_c2 X hE hl9 hX hbl hbA hL hi hc hs hU hM Y hl kk)
    · exact lv_tableIn (x := nI 3) (off := 308 - 39) (tgt := 308) X.x X.b dL_law_39 (by decide) (by decide) (by decide) (by decide) (law_c3 X hE hl9 hX hbl hbA hL hi hc hs hU hM Y hl kk)
    · exact lv_tableIn (x := nI 4) (off := 376 - 39) (tgt := 376) X.x X.b dL_law_39 (by decide) (by decide) (by decide) (by decide) (law_c4 X hE hl9 hX hbl hbA hL hi hc hs hU hM Y hl kk)
    · exact lv_tableIn (x := nI 5) (off := 444 - 39) (tgt := 444) X.x X.b dL_law_39 (by decide) (by decide) (by decide) (by decide) (law_c5 X hE hl9 hX hbl hbA hL hi hc hs hU hM Y hl kk)
    · exact lv_tableIn (x := nI 6) (off := 512 - 39) (tgt := 512) X.x X.b dL_law_39 (by decide) (by decide) (by decide) (by decide) (law_c6 X hE hl9 hX hbl hbA hL hi hc hs hU hM Y hl kk)
    · exact lv_tableIn (x := nI 7) (off := 548 - 39) (tgt := 548) X.x X.b dL_law_39 (by decide) (by decide) (by decide) (by decide) (law_c7 X hE hl9 hX hbl hbA hL hi hc hs hU hM Y hl kk)
    · exact lv_tableIn (x := nI 8) (off := 584 - 39) (tgt := 584) X.x X.b dL_law_39 (by decide) (by decide) (by decide) (by decide) (law_c8 X hE hl9 hX hbl hbA hL hi hc hs hU hM Y hl kk)
    · exact lv_tableIn (x := nI 9) (off := 620 - 39) (tgt := 620) X.x X.b dL_law_39 (by decide) (by decide) (by decide) (by decide) (law_c9 X hE hl9 hX hbl hbA hL hi hc hs hU hM Y hl kk)
theorem law_head (X : us_X p s m #[Value.ref b] c code 7 RL D (tyL cI cZ cJ) A) (hX : va_X b L xs s s.heap) (hbl : b < s.heap.size) (hbA : ¬ A b) (hL : L ≤ 2560) (hi : i ≤ 2560) {ws : va_W} (Y : us_Y D A ws s H locs) (hl : lv_has ls 7 [(4, .int (nI i)), (3, .ref (ad 7)), (2, .ref (md 0)), (1, .ref (ad 0)), (0, .ref b)])
    (k1 : L < i + 5 → W p l e room_1 s m #[Value.ref b] below meth c H locs cells slots Q (F0 m 651 ls [])) (k2 : i + 5 ≤ L → W p l e room_1 s m #[Value.ref b] below meth c H locs cells slots Q (F0 m 32 ls [])) : W p l e room_1 s m #[Value.ref b] below meth c H locs cells slots Q (F0 m 23 ls []) := by
  refine lv_iload X.x X.b dL_law_23 (lv_at hl 0 rfl) ?_
  refine lv_aload_n X.x X.b dL_law_25 rfl (lv_at hl 4 rfl) ?_
  refine us_sl X Y hX hbl hbA dL_law_26 ?_
  refine lv_iconst (v := nI 5) X.x X.b dL_law_27 (by decide) ?_
  refine lv_isub X.x X.b dL_law_28 ?_
  exact lv_icmp_gt X.x X.b dL_law_29 (tgt := 651) (by decide) (fun h => k1 ((us_gt5 (by omega) (by omega)).mp h)) (fun h => k2 (Nat.not_lt.mp (fun z => h ((us_gt5 (by omega) (by omega)).mpr z))))
theorem law_out (X : us_X p s m #[Value.ref b] c code 7 RL D (tyL cI cZ cJ) (fun q => s.heap.size ≤ q)) (hr : meth.sig.returnType = ret) (hlk : meth.locks = false) {ws : va_W} (Y : us_Y D (fun q => s.heap.size ≤ q) ws s H locs) (hc : cells ≤ 1055) (hs : slots ≤ 25209) :
    W p l e room_1 s m #[Value.ref b] below meth c H locs cells slots (lw_Z below #[Value.ref b] s) (F0 m 651 ls []) := by
  refine lv_iconst (v := (1 : Int32)) X.x X.b dL_law_651 (by decide) ?_
  refine va_forget Y.2.2.2.2 ?_
  refine W.widen (k := 1055) (n := 25209) hc hs ?_
  exact lw_ret X.x X.b hr hlk dL_law_652
theorem law_loop (X : us_X p s m #[Value.ref b] c code 7 RL D (tyL cI cZ cJ) (fun q => s.heap.size ≤ q)) (hE : us_E (fun q => s.heap.size ≤ q) s) (hl9 : l.stackTraces = false) (hX : va_X b L xs s s.heap) (hbl : b < s.heap.size) (hL : L ≤ 2560) (hr : meth.sig.returnType = ret) (hlk : meth.locks = false) :
    ∀ (d t : Nat), t + d = 512 → ∀ (u : us_SU) (w : us_SM) (O : Nat → Int64) (H : Heap) (locs : List Loc) (ls : Array Slot), us_LI u w → us_Y D (fun q => s.heap.size ≤ q) (lW ad md cI cZ cJ u w O) s H locs → lv_has ls 7 [(4, .int (nI (5 * t))), (3, .ref (ad 7)), (2, .ref (md 0)), (1, .ref (ad 0)), (0, .ref b)] →
      W p l e room_1 s m #[Value.ref b] below meth c H locs (16 + t) (16927 + 6 * t) (lw_Z below #[Value.ref b] s) (F0 m 23 ls []) := by
  have hbA : ¬ s.heap.size ≤ b := Nat.not_le.mpr hbl
  intro d
  induction d with
  | zero =>
    intro t ht u w O H locs ls hI Y hl
    exact law_head X hX hbl hbA hL (by omega) Y hl (fun _ => law_out X hr hlk Y (by omega) (by omega)) (fun h => absurd h (by omega))
  | succ d ih =>
    intro t ht u w O H locs ls hI Y hl
    refine law_head X hX hbl hbA hL (by omega) Y hl (fun _ => law_out X hr hlk Y (by omega) (by omega)) (fun h => ?_)
    refine law_turn X hE hl9 hX hbl hbA hL h (by omega) (by omega) hI Y hl (fun u w O H locs ls hI Y hl => ?_)
    refine lv_iinc (v := nI (5 * t + 5)) (lv' := [(4, .int (nI (5 * t + 5))), (3, .ref (ad 7)), (2, .ref (md 0)), (1, .ref (ad 0)), (0, .ref b)]) X.x X.b dL_law_645 hl (k := 0) rfl (us_inc5 _) (by decide) rfl (fun ls hl => ?_)
    refine lv_goto X.x X.b dL_law_648 (tgt := 23) (by decide) ?_
    refine W.widen (k := 16 + (t + 1)) (n := 16927 + 6 * (t + 1)) (by omega) (by omega) ?_
    exact ih (t + 1) (by omega) u w O H locs ls hI Y hl
end USF
def us_a7 (ad : Nat → Nat) (q : Nat) : Nat → Nat := fun i => match i with
  | 7 => q
  | i => ad i
theorem us_L0 : us_LI (0, 0, 0, fun _ => 0, fun _ => 0, fun _ => 0, fun _ => 0, fun _ => 0, fun _ => 0) (nI 0, 0, 0, 0, fun _ => 0, fun _ => 0, fun _ => 0, fun _ => 0, fun _ => 0, fun _ => 0, fun _ => 0) :=
  ⟨nI 0, 0, fun _ _ => none, 0, 0, fun _ => 0, fun _ => 0, fun _ _ _ => none, fun _ => 0, ⟨rfl, rfl, rfl, us_U.zero (by decide) (fun r _ h _ => absurd h (Nat.not_lt_zero r))⟩, ⟨rfl, rfl, rfl, rfl, by decide, by decide, by decide, fun r _ h _ => absurd h (Nat.not_lt_zero r), fun _ => Or.inl rfl, fun _ => Or.inl rfl, fun q h => absurd h (Nat.not_lt_zero q)⟩⟩
theorem us_Es {s : State} {b : Nat} (hts : ∀ w ∈ lw_tbl, w.before #[Value.ref b] s = true) (hgv : (Jvm.Cond.and given_1 narrow_1).before #[Value.ref b] s = true) : us_E (fun q => s.heap.size ≤ q) s := by
  have hs := flat_of_before _ hgv
  have hA : ∀ a : Nat, a < s.heap.size → ¬ s.heap.size ≤ a := fun a h => Nat.not_le.mpr h
  refine ⟨fun w hw => va_Nw.of (us_bad_t w hw) (hts w ((by decide +kernel : ∀ w ∈ us_bad, w ∈ lw_tbl) w hw)), ⟨va_Nc.of (hs (.not (.castable EIS EIA)) (by decide +kernel)), va_Nc.of (hs (.not (.castable ENS EIA)) (by decide +kernel)), va_Nc.of (hs (.not (.castable ENS EIS)) (by decide +kernel))⟩, ?_, ?_⟩
  · exact vx_Zqof (hts (.laysStatic Bundle.tN "UNASSIGNED_STACK" Bundle.steD) (by decide +kernel)) (hts (.initialized Bundle.tN) (by decide +kernel)) (hs (.isRef (.static Bundle.tN "UNASSIGNED_STACK" Bundle.steD)) (by decide +kernel)) hA
  · exact vx_Zqof (hts (.laysStatic Bundle.tN "SUPPRESSED_SENTINEL" Bundle.listD) (by decide +kernel)) (hts (.initialized Bundle.tN) (by decide +kernel)) (hs (.isRef (.static Bundle.tN "SUPPRESSED_SENTINEL" Bundle.listD)) (by decide +kernel)) hA
set_option maxHeartbeats 4000000 in
/-- from the entry, for every script of at most 2560 ints, the law comes to its end with true -/
theorem whole_start {p : Program} {e : Env} {s : State} {m : MethodId} {below : List Frame} {meth : Method} {c : Code} (l : Launch) (hl9 : l.stackTraces = false) {b L : Nat} {xs : Nat → Int32} (hL : L ≤ 2560) (C0 : lw_At p s m meth c b L xs) : W p l e room_1 s m #[Value.ref b] below meth c s.heap [] 0 0 (lw_Z below #[Value.ref b] s) (entryFrame m ([Value.ref b] : List Value).toArray 7) := by
  obtain ⟨hx, hb, hr, hml, hown, hts, hX, hbl, hlk, hgv⟩ := C0
  have hE := us_Es hts hgv
  have htB : ∀ w ∈ wB, w.before #[Value.ref b] s = true := fun w h => hts w (List.mem_filter.mp h).1
  obtain ⟨kU, iU, hKU⟩ := u_known (C := RU) (T := FU) (N := 9) htB uB_U (htB _ mB_inst_U)
  obtain ⟨kM, iM, hKM⟩ := u_known (C := RM) (T := FM) (N := 11) htB uB_M (htB _ mB_inst_M)
  obtain ⟨D, hD⟩ : ∃ D : va_G, D = (fun c => if c = 0 then kU else kM, fun c => if c = 0 then iU else iM) := ⟨_, rfl⟩
  have hK : va_K D usCl [] s := by
    refine ⟨fun c q hq => ?_, fun k q hk => nomatch hk⟩
    subst hD
    have hlt : c < 2 := (List.getElem?_eq_some_iff.mp hq).1
    rcases (show c = 0 ∨ c = 1 by omega) with h | h <;> subst h <;> cases hq
    · exact hKU
    · exact hKM
  have X : us_X p s m #[Value.ref b] c code 7 RL D [] (fun q => s.heap.size ≤ q) := ⟨⟨hx, hb, hml, hown, htB⟩, hK, fun _ h => h⟩
  have Y : us_Y D (fun q => s.heap.size ≤ q) [] s s.heap [] := ⟨fun _ _ h => (nomatch h), ⟨fun _ _ _ _ h => (nomatch h), fun _ _ h => (nomatch h)⟩, va_S.rf⟩
  have hl := lv_entry [.ref b] (n := 7) (Nat.le_of_ble_eq_true rfl)
  rw [lg_entry_eq]
  generalize (lg_sl [.ref b] ++ List.replicate (7 - (lg_sl [.ref b]).length) Slot.unset).toArray = ls at hl ⊢
  have hl : lv_has ls 7 [(0, .ref b)] := hl
  refine us_nU X Y mB_cl_L_8 (by decide) (by decide) dL_law_0 (fun q0 H Y => ?_)
  have Y : us_Y D (fun q => s.heap.size ≤ q) [(q0, .inr (0, [.null, .int 0, .null, .null, .int 0, .null, .null, .null, .int 0]))] s H [] := Y
  refine lv_dup X.x X.b dL_law_3 rfl ?_
  refine us_ini (wr := []) (rest := [.ref q0]) X Y (k_U_init l D q0 H.size) (isC := [0]) (isR := []) ⟨rfl, rfl, rfl, rfl, fun _ h => (nomatch h), rfl⟩ mB_ml_L_46 mB_im_U_init mB_ini_U mB_code_U_init rfl (by decide +kernel) ⟨by decide, by decide⟩ ⟨by decide, by decide⟩ hl.1 (Nat.le_of_ble_eq_true rfl) dL_law_4 (fun u H locs hu X1 Y1 => ?_)
  obtain ⟨ad, cI⟩ := u
  have hu : ad 0 = q0 := hu
  subst hu
  have X : us_X p s m #[Value.ref b] c code 7 RL D (tyU cI) (fun q => s.heap.size ≤ q) := X1
  have Y : us_Y D (fun q => s.heap.size ≤ q) (uW ad cI (fun _ => 0) 0 (fun _ => 0) (fun _ => 0) 0 (fun _ => 0) (fun _ => 0) (fun _ => 0) 0) s H locs := Y1
  refine lv_astore_n (lv' := [(1, .ref (ad 0)), (0, .ref b)]) X.x X.b dL_law_7 rfl hl (by decide) rfl (fun ls hl => ?_)
  refine us_nM X Y mB_cl_L_47 (by decide) (by decide) dL_law_8 (fun q1 H Y => ?_)
  have Y : us_Y D (fun q => s.heap.size ≤ q) (uW ad cI (fun _ => 0) 0 (fun _ => 0) (fun _ => 0) 0 (fun _ => 0) (fun _ => 0) (fun _ => 0) 0 ++ [(q1, .inr (1, [.int 0, .int 0, .int 0, .int 0, .null, .null, .null, .null, .null, .null, .null]))]) s H locs := Y
  refine lv_dup X.x X.b dL_law_11 rfl ?_
  refine us_ini (wr := uW ad cI (fun _ => 0) 0 (fun _ => 0) (fun _ => 0) 0 (fun _ => 0) (fun _ => 0) (fun _ => 0) 0) (rest := [.ref q1]) X Y (k_M_init l D q1 H.size) (isC := [7]) (isR := [0, 1, 2, 3, 4, 5, 6]) ⟨rfl, rfl, rfl, rfl, by decide, rfl⟩ mB_ml_L_49 mB_im_M_init mB_ini_M mB_code_M_init rfl (by decide +kernel) ⟨by decide, by decide⟩ ⟨by decide, by decide⟩ hl.1 (Nat.le_of_ble_eq_true rfl) dL_law_12 (fun w H locs hw X2 Y2 => ?_)
  obtain ⟨md, cI2, cZ⟩ := w
  have hw : md 0 = q1 := hw
  subst hw
  have ec : cI2 = cI := us_ria (X2.2.1.2 1 (cI2, .int) rfl).2 (X2.2.1.2 0 (cI, .int) rfl).2
  subst ec
  have X : us_X p s m #[Value.ref b] c code 7 RL D (tyM cI2 cZ) (fun q => s.heap.size ≤ q) := ⟨X2.1, X2.2.1.sub [0, 2] rfl, X2.2.2⟩
  refine lv_astore_n (lv' := [(2, .ref (md 0)), (1, .ref (ad 0)), (0, .ref b)]) X.x X.b dL_law_15 rfl hl (by decide) rfl (fun ls hl => ?_)
  refine lv_iconst (v := nI 1) X.x X.b dL_law_16 (by decide) ?_
  refine us_newl (N := 1) X Y2 mB_arr_long (by decide) (by decide) (by decide) (by decide) dL_law_17 (fun q2 cJ H X Y => ?_)
  have X : us_X p s m #[Value.ref b] c code 7 RL D (tyL cI2 cZ cJ) (fun q => s.heap.size ≤ q) := X
  have Y : us_Y D (fun q => s.heap.size ≤ q) (lW (us_a7 ad q2) md cI2 cZ cJ (0, 0, 0, fun _ => 0, fun _ => 0, fun _ => 0, fun _ => 0, fun _ => 0, fun _ => 0) (nI 0, 0, 0, 0, fun _ => 0, fun _ => 0, fun _ => 0, fun _ => 0, fun _ => 0, fun _ => 0, fun _ => 0) (fun _ => 0)) s H locs := Y.perm [15, 0, 1, 2, 3, 4, 5, 6, 7, 8, 9, 10, 11, 12, 13, 14] rfl rfl
  refine lv_astore_n (lv' := [(3, .ref q2), (2, .ref (md 0)), (1, .ref (ad 0)), (0, .ref b)]) X.x X.b dL_law_19 rfl hl (by decide) rfl (fun ls hl => ?_)
  refine lv_iconst (v := nI 0) X.x X.b dL_law_20 (by decide) ?_
  refine lv_istore (lv' := [(4, .int (nI 0)), (3, .ref q2), (2, .ref (md 0)), (1, .ref (ad 0)), (0, .ref b)]) X.x X.b dL_law_21 hl (by decide) rfl (fun ls hl => ?_)
  refine W.widen (k := 16 + 0) (n := 16927 + 6 * 0) (by decide) (by decide) ?_
  exact law_loop (ad := us_a7 ad q2) X hE hl9 hX hbl hL hr hlk 512 0 rfl _ _ _ H locs ls us_L0 Y hl
end
section
set_option maxHeartbeats 4000000 in
theorem lw_walk (l : Launch) (hl9 : l.stackTraces = false) (b : Addr) (xs : List Int32) : MetFree l x (headSpec (Jvm.Cond.code x code maxLocals ret :: tables_1) room_1) (lw_P b xs) (fun _ _ _ _ _ => True) lw_Q := by
  refine MetFree.of_bodyS (code := code) (maxLocals := maxLocals) (ret := ret) (by decide) ?_ ?_
  · intro args s m h hn
    obtain ⟨meth, c, h1, h2, h3, h4, h5, h6, -, -⟩ := Cond.code_spec hn (atoms_spec (ws := Jvm.Cond.code x code maxLocals ret :: tables_1) h _ List.mem_cons_self)
    exact ⟨meth, c, h1, h2, h3, h4, h5, h6⟩
  · intro p e s m args below meth c s₁ B hml0 hP _
    obtain ⟨rfl, hx, hbd, hgv⟩ := hP
    obtain ⟨scr, harrAt, hlist, hof, hsmall⟩ := hx
    obtain ⟨hcb, hkn, -, -⟩ := State.arrayAt?_spec harrAt
    have hown : s.vm.findClass R_law = some m.cls := findClass_of_methodNamed B.named
    have hts0 : ∀ c ∈ (Jvm.Cond.code x code maxLocals ret :: tables_1), c.before #[Value.ref b] s = true := atoms_spec (ws := Jvm.Cond.code x code maxLocals ret :: tables_1) B.pre
    have hts : ∀ w ∈ lw_tbl, w.before #[Value.ref b] s = true := k2_hts_sels lw_privs (fun w hw => hts0 w (List.mem_cons_of_mem _ hw)) lw_privs_ok
    have hml : c.maxLocals = 7 := B.maxLocals_eq (hts0 _ List.mem_cons_self)
    have X₀ : Stand p l e room_1 s m #[Value.ref b] below meth c s₁ [] 0 0 := Stand.of_body B
    have hh0 : s₁.heap = s.heap := by rw [B.state]; rfl
    have hsz : scr.slots.size = xs.length := by rw [← Array.length_toList, hlist, List.length_map]
    have hval : ∀ j : Nat, j < xs.length → scr.slots[j]? = some (.int (xs.getD j 0)) := fun j hj => by
      rw [← Array.getElem?_toList, hlist]
      simp [hj]
    have hbl : b < s.heap.size := (Array.getElem?_eq_some_iff.mp hcb).1
    have hX : va_X b xs.length (fun j => xs.getD j 0) s s.heap := ⟨scr, hcb, hof, hkn, hsz, hval⟩
    have K : W p l e room_1 s m #[Value.ref b] below meth c s₁.heap [] 0 0 (lw_Z below #[Value.ref b] s) (entryFrame m ([Value.ref b] : List Value).toArray 7) := by
      rw [hh0]
      exact whole_start l hl9 hbd ⟨B.exec, B.bytes, B.returns, hml, hown, hts, hX, hbl, B.notSynchronized, hgv⟩
    obtain ⟨t, a1, o, b1, b2, b3⟩ := K s₁ rfl X₀
    exact ⟨t, o, a1, b1, b2, b3⟩
theorem lw_pre_spec {args : Array Value} {s : State} (h : (Jvm.Cond.and given_1 narrow_1).before args s = true) (hr : rest_1_c.before args s = true) : ∃ (b : Addr) (xs : List Int32), lw_P b xs args s := by
  have hs := flat_of_before _ h
  have hq := flat_of_before _ hr
  have hc : (Cond.count 1).before args s = true := hs _ (by decide +kernel)
  have harr : (Cond.arrayOf (.arg 0) .int).before args s = true := hs _ (by decide +kernel)
  have hle : (Cond.le (.length (.arg 0)) (.int 2560)).before args s = true := hs _ (by decide +kernel)
  have hlen : (Cond.isInt (.length (.arg 0))).before args s = true := hq _ (by decide +kernel)
  have hall : (Cond.all (.arg 0) (.isInt (.elem (.arg 0) (.index 0)))).before args s = true := hq _ (by decide +kernel)
  obtain ⟨b, xs, hb, hx⟩ := State.ints_of_pre rfl harr hlen hall
  have hsm : xs.length < 2 ^ 31 := hx.choose_spec.2.2.2
  have hev : (Term.length (.arg 0)).eval args s none [] s = some (.int xs.length.toInt32) := hx.length_eval hb
  have hv := Cond.le_ints hev (show (Term.int 2560).eval args s none [] s = some (.int 2560) from rfl)
  have hd : xs.length.toInt32 ≤ 2560 := by
    simpa [Cond.before, Cond.holds, hv] using hle
  have hN : xs.length ≤ 2560 := (Int32.ofNat_le_ofNat hsm (by decide)).mp (show Int32.ofNat xs.length ≤ Int32.ofNat 2560 from hd)
  exact ⟨b, xs, Cond.one_arg hc (show args[0]? = some (.ref b) from hb), hx, hN, h⟩
theorem lw_comes (l : Launch) (hl9 : l.stackTraces = false) : Comes l x (Jvm.Cond.code x code maxLocals ret :: tables_1) room_1 (fun tb e args s => Calls_1 tb e args s ∧ rest_1 tb e args s ∧ Pre_1 tb e args s)
    (fun _ _ args s o t => lw_Q args s o t) := by
  intro p e ha hc hk s m args below hf hfit hheap happ hpre
  obtain ⟨b, xs, hP⟩ := lw_pre_spec hpre.2.2 hpre.2.1
  obtain ⟨k, o, h1, h2, h3, hQ⟩ := lw_walk l hl9 b xs p e ha hc hk s m args below hf ((Spec.applies_iff_loose hf).mp happ).1 hP trivial
  exact ⟨k, o, h1, h2, h3, hQ⟩
theorem lw_frame {s t : State} {o : Outcome} {args : Array Value} (h : Framed s o t [] 1055 25209) :
    Framed s o t (fieldLocs frame_1_writes args s ++ arrayLocs frame_1_arrays args s ++ staticLocs frame_1_statics s) 1055 25209 := h
theorem lw_limb (L : Cond) (hL : ∀ (args : Array Value) (s t : State), L.after args s (.returned (some (.int 1))) t = true) :
    ArmFor flags0 classFile x code maxLocals ret World_1 tables_1 room_1 Calls_1 rest_1 Pre_1
      (fun tb e a s o t => postC L tb e a s o t ∧ Framed s o t (fieldLocs frame_1_writes a s ++ arrayLocs frame_1_arrays a s ++ staticLocs frame_1_statics s) 1055 25209) := by
  intro l hfl _ _ p e ha hc hk s m args below hf hfit hheap happ hpre
  have hl9 : l.stackTraces = false := by unfold Launch.stackTraces; rw [hfl]; decide +kernel
  obtain ⟨k, o, h1, h2, h3, rfl, hF⟩ := lw_comes l hl9 p e ha hc hk s m args below hf hfit hheap happ hpre
  exact ⟨k, _, h1, h2, h3, hL args s _, lw_frame hF⟩
theorem i_vc : Claimed_1_1 ∧ Claimed_1_2 := ⟨lw_limb limb_1_1 (fun args s t => by simp [limb_1_1, Cond.after, Cond.holds, Cond.value]), lw_limb limb_1_2 (fun args s t => Cond.after_iff.mpr (by
  first | (rw [show limb_1_2 = Cond.eq .result (.int 1) from rfl, Cond.eq_ints (x := 1) (y := 1) rfl rfl]; simp; done) | (simp [limb_1_2, Cond.value, Term.eval]; done)))⟩
end
