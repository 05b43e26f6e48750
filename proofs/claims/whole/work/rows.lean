section
/-- a private method of a class that the tables say can be made, by its rows of tables_1 -/
def lw_okq (q : MethodName × Nat) : Prop := (q.1.cls ≠ "java/lang/invoke/MethodHandle" ∧ q.1.cls ≠ "java/lang/invoke/VarHandle") ∧ Cond.instantiable q.1.cls q.2 ∈ tables_1 ∧ Cond.privateMethod q.1 ∈ tables_1 ∧ Cond.instanceMethod q.1 ∈ tables_1
theorem lw_p0 : lw_okq (⟨"java/lang/Throwable", "fillInStackTrace", "(I)Ljava/lang/Throwable;"⟩, 6) := ⟨⟨by decide +kernel, by decide +kernel⟩, List.mem_of_getElem? (i := 161) (by decide +kernel), List.mem_of_getElem? (i := 159) (by decide +kernel), List.mem_of_getElem? (i := 160) (by decide +kernel)⟩
theorem lw_p1 : lw_okq (⟨"WarTable", "checkUnit", "(I)V"⟩, 7) := ⟨⟨by decide +kernel, by decide +kernel⟩, List.mem_of_getElem? (i := 14) (by decide +kernel), List.mem_of_getElem? (i := 296) (by decide +kernel), List.mem_of_getElem? (i := 297) (by decide +kernel)⟩
theorem lw_p2 : lw_okq (⟨"WarTable", "playFrom", "(I)V"⟩, 7) := ⟨⟨by decide +kernel, by decide +kernel⟩, List.mem_of_getElem? (i := 14) (by decide +kernel), List.mem_of_getElem? (i := 337) (by decide +kernel), List.mem_of_getElem? (i := 338) (by decide +kernel)⟩
theorem lw_p3 : lw_okq (⟨"WarTable", "suppliedUnits", "(II)I"⟩, 7) := ⟨⟨by decide +kernel, by decide +kernel⟩, List.mem_of_getElem? (i := 14) (by decide +kernel), List.mem_of_getElem? (i := 342) (by decide +kernel), List.mem_of_getElem? (i := 343) (by decide +kernel)⟩
theorem lw_p4 : lw_okq (⟨"WarTable", "suppliedTowns", "(IIII)I"⟩, 7) := ⟨⟨by decide +kernel, by decide +kernel⟩, List.mem_of_getElem? (i := 14) (by decide +kernel), List.mem_of_getElem? (i := 346) (by decide +kernel), List.mem_of_getElem? (i := 347) (by decide +kernel)⟩
theorem lw_p5 : lw_okq (⟨"WarTable", "goers", "(III)I"⟩, 7) := ⟨⟨by decide +kernel, by decide +kernel⟩, List.mem_of_getElem? (i := 14) (by decide +kernel), List.mem_of_getElem? (i := 356) (by decide +kernel), List.mem_of_getElem? (i := 357) (by decide +kernel)⟩
theorem lw_p6 : lw_okq (⟨"WarTable", "march", "(II)V"⟩, 7) := ⟨⟨by decide +kernel, by decide +kernel⟩, List.mem_of_getElem? (i := 14) (by decide +kernel), List.mem_of_getElem? (i := 361) (by decide +kernel), List.mem_of_getElem? (i := 362) (by decide +kernel)⟩
theorem lw_p7 : lw_okq (⟨"WarTable", "isMetOnRoad", "(III)Z"⟩, 7) := ⟨⟨by decide +kernel, by decide +kernel⟩, List.mem_of_getElem? (i := 14) (by decide +kernel), List.mem_of_getElem? (i := 365) (by decide +kernel), List.mem_of_getElem? (i := 366) (by decide +kernel)⟩
theorem lw_p8 : lw_okq (⟨"WarTable", "fightEverywhere", "(II)V"⟩, 7) := ⟨⟨by decide +kernel, by decide +kernel⟩, List.mem_of_getElem? (i := 14) (by decide +kernel), List.mem_of_getElem? (i := 374) (by decide +kernel), List.mem_of_getElem? (i := 375) (by decide +kernel)⟩
theorem lw_p9 : lw_okq (⟨"WarTable", "fight", "(III)V"⟩, 7) := ⟨⟨by decide +kernel, by decide +kernel⟩, List.mem_of_getElem? (i := 14) (by decide +kernel), List.mem_of_getElem? (i := 378) (by decide +kernel), List.mem_of_getElem? (i := 379) (by decide +kernel)⟩
theorem lw_p10 : lw_okq (⟨"WarTable", "sumInFight", "(IIII)I"⟩, 7) := ⟨⟨by decide +kernel, by decide +kernel⟩, List.mem_of_getElem? (i := 14) (by decide +kernel), List.mem_of_getElem? (i := 382) (by decide +kernel), List.mem_of_getElem? (i := 383) (by decide +kernel)⟩
theorem lw_p11 : lw_okq (⟨"WarTable", "unitsInSight", "(I)I"⟩, 7) := ⟨⟨by decide +kernel, by decide +kernel⟩, List.mem_of_getElem? (i := 14) (by decide +kernel), List.mem_of_getElem? (i := 389) (by decide +kernel), List.mem_of_getElem? (i := 390) (by decide +kernel)⟩
theorem lw_p12 : lw_okq (⟨"WarTable", "checkTurn", "(I)V"⟩, 7) := ⟨⟨by decide +kernel, by decide +kernel⟩, List.mem_of_getElem? (i := 14) (by decide +kernel), List.mem_of_getElem? (i := 404) (by decide +kernel), List.mem_of_getElem? (i := 405) (by decide +kernel)⟩
theorem lw_p13 : lw_okq (⟨"WarTableModel", "fails", "(I)I"⟩, 22) := ⟨⟨by decide +kernel, by decide +kernel⟩, List.mem_of_getElem? (i := 504) (by decide +kernel), List.mem_of_getElem? (i := 591) (by decide +kernel), List.mem_of_getElem? (i := 592) (by decide +kernel)⟩
theorem lw_p14 : lw_okq (⟨"WarTableModel", "take", "(I)V"⟩, 22) := ⟨⟨by decide +kernel, by decide +kernel⟩, List.mem_of_getElem? (i := 504) (by decide +kernel), List.mem_of_getElem? (i := 603) (by decide +kernel), List.mem_of_getElem? (i := 604) (by decide +kernel)⟩
theorem lw_p15 : lw_okq (⟨"WarTableModel", "isHeld", "(II)Z"⟩, 22) := ⟨⟨by decide +kernel, by decide +kernel⟩, List.mem_of_getElem? (i := 504) (by decide +kernel), List.mem_of_getElem? (i := 607) (by decide +kernel), List.mem_of_getElem? (i := 608) (by decide +kernel)⟩
def lw_privs_1 : List (MethodName × Nat) := [(⟨"java/lang/Throwable", "fillInStackTrace", "(I)Ljava/lang/Throwable;"⟩, 6), (⟨"WarTable", "checkUnit", "(I)V"⟩, 7), (⟨"WarTable", "playFrom", "(I)V"⟩, 7), (⟨"WarTable", "suppliedUnits", "(II)I"⟩, 7), (⟨"WarTable", "suppliedTowns", "(IIII)I"⟩, 7), (⟨"WarTable", "goers", "(III)I"⟩, 7), (⟨"WarTable", "march", "(II)V"⟩, 7), (⟨"WarTable", "isMetOnRoad", "(III)Z"⟩, 7), (⟨"WarTable", "fightEverywhere", "(II)V"⟩, 7), (⟨"WarTable", "fight", "(III)V"⟩, 7), (⟨"WarTable", "sumInFight", "(IIII)I"⟩, 7), (⟨"WarTable", "unitsInSight", "(I)I"⟩, 7), (⟨"WarTable", "checkTurn", "(I)V"⟩, 7), (⟨"WarTableModel", "fails", "(I)I"⟩, 22), (⟨"WarTableModel", "take", "(I)V"⟩, 22), (⟨"WarTableModel", "isHeld", "(II)Z"⟩, 22)]
theorem lw_r1 : ∀ q ∈ lw_privs_1, lw_okq q := List.forall_mem_cons.mpr ⟨lw_p0, List.forall_mem_cons.mpr ⟨lw_p1, List.forall_mem_cons.mpr ⟨lw_p2, List.forall_mem_cons.mpr ⟨lw_p3, List.forall_mem_cons.mpr ⟨lw_p4, List.forall_mem_cons.mpr ⟨lw_p5, List.forall_mem_cons.mpr ⟨lw_p6, List.forall_mem_cons.mpr ⟨lw_p7, List.forall_mem_cons.mpr ⟨lw_p8, List.forall_mem_cons.mpr ⟨lw_p9, List.forall_mem_cons.mpr ⟨lw_p10, List.forall_mem_cons.mpr ⟨lw_p11, List.forall_mem_cons.mpr ⟨lw_p12, List.forall_mem_cons.mpr ⟨lw_p13, List.forall_mem_cons.mpr ⟨lw_p14, List.forall_mem_cons.mpr ⟨lw_p15, fun _ h => absurd h List.not_mem_nil⟩⟩⟩⟩⟩⟩⟩⟩⟩⟩⟩⟩⟩⟩⟩⟩
theorem lw_p16 : lw_okq (⟨"WarTableModel", "isUnit", "(I)Z"⟩, 22) := ⟨⟨by decide +kernel, by decide +kernel⟩, List.mem_of_getElem? (i := 504) (by decide +kernel), List.mem_of_getElem? (i := 615) (by decide +kernel), List.mem_of_getElem? (i := 616) (by decide +kernel)⟩
theorem lw_p17 : lw_okq (⟨"WarTableModel", "playTurn", "(I)V"⟩, 22) := ⟨⟨by decide +kernel, by decide +kernel⟩, List.mem_of_getElem? (i := 504) (by decide +kernel), List.mem_of_getElem? (i := 623) (by decide +kernel), List.mem_of_getElem? (i := 624) (by decide +kernel)⟩
theorem lw_p18 : lw_okq (⟨"WarTableModel", "supplyOf", "(II)I"⟩, 22) := ⟨⟨by decide +kernel, by decide +kernel⟩, List.mem_of_getElem? (i := 504) (by decide +kernel), List.mem_of_getElem? (i := 627) (by decide +kernel), List.mem_of_getElem? (i := 628) (by decide +kernel)⟩
theorem lw_p19 : lw_okq (⟨"WarTableModel", "isOpen", "(III)Z"⟩, 22) := ⟨⟨by decide +kernel, by decide +kernel⟩, List.mem_of_getElem? (i := 504) (by decide +kernel), List.mem_of_getElem? (i := 631) (by decide +kernel), List.mem_of_getElem? (i := 632) (by decide +kernel)⟩
theorem lw_p20 : lw_okq (⟨"WarTableModel", "march", "(I)V"⟩, 22) := ⟨⟨by decide +kernel, by decide +kernel⟩, List.mem_of_getElem? (i := 504) (by decide +kernel), List.mem_of_getElem? (i := 635) (by decide +kernel), List.mem_of_getElem? (i := 636) (by decide +kernel)⟩
theorem lw_p21 : lw_okq (⟨"WarTableModel", "fight", "(I)V"⟩, 22) := ⟨⟨by decide +kernel, by decide +kernel⟩, List.mem_of_getElem? (i := 504) (by decide +kernel), List.mem_of_getElem? (i := 639) (by decide +kernel), List.mem_of_getElem? (i := 640) (by decide +kernel)⟩
theorem lw_p22 : lw_okq (⟨"WarTableModel", "sumIn", "(II)I"⟩, 22) := ⟨⟨by decide +kernel, by decide +kernel⟩, List.mem_of_getElem? (i := 504) (by decide +kernel), List.mem_of_getElem? (i := 643) (by decide +kernel), List.mem_of_getElem? (i := 644) (by decide +kernel)⟩
theorem lw_p23 : lw_okq (⟨"WarTableModel", "sees", "(II)Z"⟩, 22) := ⟨⟨by decide +kernel, by decide +kernel⟩, List.mem_of_getElem? (i := 504) (by decide +kernel), List.mem_of_getElem? (i := 647) (by decide +kernel), List.mem_of_getElem? (i := 648) (by decide +kernel)⟩
theorem lw_p24 : lw_okq (⟨"WarTableModel", "lostBy", "(I)I"⟩, 22) := ⟨⟨by decide +kernel, by decide +kernel⟩, List.mem_of_getElem? (i := 504) (by decide +kernel), List.mem_of_getElem? (i := 651) (by decide +kernel), List.mem_of_getElem? (i := 652) (by decide +kernel)⟩
theorem lw_p25 : lw_okq (⟨"WarTableModel", "again", "(II)I"⟩, 22) := ⟨⟨by decide +kernel, by decide +kernel⟩, List.mem_of_getElem? (i := 504) (by decide +kernel), List.mem_of_getElem? (i := 663) (by decide +kernel), List.mem_of_getElem? (i := 664) (by decide +kernel)⟩
def lw_privs_2 : List (MethodName × Nat) := [(⟨"WarTableModel", "isUnit", "(I)Z"⟩, 22), (⟨"WarTableModel", "playTurn", "(I)V"⟩, 22), (⟨"WarTableModel", "supplyOf", "(II)I"⟩, 22), (⟨"WarTableModel", "isOpen", "(III)Z"⟩, 22), (⟨"WarTableModel", "march", "(I)V"⟩, 22), (⟨"WarTableModel", "fight", "(I)V"⟩, 22), (⟨"WarTableModel", "sumIn", "(II)I"⟩, 22), (⟨"WarTableModel", "sees", "(II)Z"⟩, 22), (⟨"WarTableModel", "lostBy", "(I)I"⟩, 22), (⟨"WarTableModel", "again", "(II)I"⟩, 22)]
theorem lw_r2 : ∀ q ∈ lw_privs_2, lw_okq q := List.forall_mem_cons.mpr ⟨lw_p16, List.forall_mem_cons.mpr ⟨lw_p17, List.forall_mem_cons.mpr ⟨lw_p18, List.forall_mem_cons.mpr ⟨lw_p19, List.forall_mem_cons.mpr ⟨lw_p20, List.forall_mem_cons.mpr ⟨lw_p21, List.forall_mem_cons.mpr ⟨lw_p22, List.forall_mem_cons.mpr ⟨lw_p23, List.forall_mem_cons.mpr ⟨lw_p24, List.forall_mem_cons.mpr ⟨lw_p25, fun _ h => absurd h List.not_mem_nil⟩⟩⟩⟩⟩⟩⟩⟩⟩⟩
def lw_privs : List (MethodName × Nat) := lw_privs_1 ++ (lw_privs_2)
def lw_tbl : List Cond := k2_sels lw_privs ++ tables_1
theorem lw_privs_ok : ∀ q ∈ lw_privs, lw_okq q := by
  show ∀ q ∈ lw_privs_1 ++ (lw_privs_2), lw_okq q
  exact List.forall_mem_append.mpr ⟨lw_r1, lw_r2⟩
end
section
/-! ===== BEGIN words of one list among another's, by their places ===== -/
theorem goodIn_r {big : List Cond} (ws : List Cond) (ps : List Nat) (hp : ws = ps.filterMap (fun i => big[i]?)) (h : ws.all goodWord = true) : GoodIn big ws := by
  intro w hw
  have h1 := List.all_eq_true.mp h w hw
  rw [hp] at hw
  obtain ⟨i, -, hi⟩ := List.mem_filterMap.mp hw
  have hm : w ∈ big := by first | exact List.mem_of_getElem? hi | exact List.getElem?_mem hi
  exact ⟨hm, good_of_word h1⟩
theorem goodIn_app {big a b : List Cond} (ha : GoodIn big a) (hb : GoodIn big b) : GoodIn big (a ++ b) := fun w h => (List.mem_append.mp h).elim (ha w) (hb w)
theorem goodIn_ca {big a b : List Cond} {c : Cond} (ha : GoodIn big (c :: a)) (hb : GoodIn big b) : GoodIn big (c :: (a ++ b)) := fun w h => (List.mem_cons.mp h).elim (fun e => ha w (List.mem_cons.mpr (Or.inl e))) (fun h => (List.mem_append.mp h).elim (fun h => ha w (List.mem_cons.mpr (Or.inr h))) (hb w))
theorem goodIn_sub {big ws : List Cond} (hm : ∀ w ∈ ws, w ∈ big) (h : ws.all goodWord = true) : GoodIn big ws := fun w hw => ⟨hm w hw, good_of_word (List.all_eq_true.mp h w hw)⟩
/-! ===== END ===== -/

/-! ===== BEGIN exceptions that leave a method, and their catching by the caller (launches without stack traces) ===== -/
section VXA
/-! The laws vx_back, vx_callV, vx_callS, vx_callSW, vx_throw0, vx_throwS follow proofs of the library, with one case more: JvmDerived/Free/Laws.lean (Back.of_free), Shelf42/LK1.lean (callV, callS), Shelf/KitTraced.lean (throwNew0V, throwNewS). -/
/-- where a method has thrown q: the class by its name, the cell, what was written, the world -/
def vx_T (XC : String → State → State → Prop) (st : State) (q : Addr) (t : State) (mc ms : Nat) (free : Addr → Prop) : Prop :=
  ∃ (E : String) (ce : Cell) (L : List Loc), XC E st t ∧ t.heap[q]? = some ce ∧ ce.vm = .none ∧ st.vm.findClass E = some ce.cls ∧ st.WarmedH t.vm ∧ st.sameButNew ({ t with vm := st.vm } : State) L mc ms ∧ ∀ z ∈ L, free z.base
def vx_Q (Qc : Array Value → State → Outcome → State → Prop) (XC : String → State → State → Prop) (mc ms : Nat) (free : Addr → Prop) : Array Value → State → Outcome → State → Prop := fun a st o t =>
  (Qc a st o t ∧ ∃ L, FrameEnd st o t L mc ms ∧ ∀ q ∈ L, free q.base) ∨ ∃ q, o = .threw q ∧ vx_T XC st q t mc ms free
/-- a callee that returns or throws -/
def vx_Met (l : Launch) (y : MethodName) (ws : List Cond) (rm : Room) (Pc : Array Value → State → Prop) (Qc : Array Value → State → Outcome → State → Prop) (XC : String → State → State → Prop) (mc ms : Nat) (free : Addr → Prop) : Prop :=
  MetFree l y (headSpec ws rm) Pc (fun _ _ _ _ _ => True) (vx_Q Qc XC mc ms free)
def vx_Post (XC : String → State → State → Prop) (mc ms : Nat) (free : Addr → Prop) : Pt → Array Value → Addr → Pt → Prop := fun A a q B =>
  ∃ (g : JFrame) (mk : MethodId) (t : State) (L : List Loc) (E : String) (ce : Cell), B.U.heap = t.heap ∧ B.U.vm = t.vm ∧ XC E (A.U.calling g mk a) t ∧ t.heap[q]? = some ce ∧ ce.vm = .none ∧ A.U.vm.findClass E = some ce.cls ∧ B.locs = A.locs ++ L ∧ (∀ z ∈ L, free z.base) ∧ B.cells = A.cells + mc ∧ B.slots = A.slots + ms
def vx_Back (l : Launch) (R : Room) (p : Program) (e : Env) (below : List Frame) (s : State) (sargs : Array Value) (y : MethodName) (len W9 : Nat)
    (Pre : Pt → Array Value → Prop) (Post : Pt → Array Value → Option Value → Pt → Prop) (PostX : Pt → Array Value → Addr → Pt → Prop) : Prop :=
  ∀ (m : MethodId) (meth : Method) (c : Code) (A : Pt) (g : JFrame) (ig : Instr) (mk : MethodId) (a : Array Value),
    Stand p l e R s m sargs below meth c A.U A.locs A.cells A.slots → g.method = m → g.locals.size = c.maxLocals → decode c.code g.pc = .ok (ig, len) →
    2 * g.monitorRoom + (g.stack.map fun v => v.category).sum ≤ W9 → A.U.methodNamed? y = some mk → Pre A a →
    (∃ (v : Option Value) (B : Pt), Stand p l e R s m sargs below meth c B.U B.locs B.cells B.slots ∧ Post A a v B ∧
      Steps p.tables e below (doInvoke e (A.U.setTop g) [] mk a).1 (B.U.setTop { g with pc := g.pc + len, stack := v.toList ++ g.stack })) ∨
    (∃ (q : Addr) (B : Pt), Stand p l e R s m sargs below meth c B.U B.locs B.cells B.slots ∧ PostX A a q B ∧
      Steps p.tables e below (doInvoke e (A.U.setTop g) [] mk a).1 ((B.U.setTop g).pushFrame (.throwing q)))
section Payer
variable {l : Launch} {R : Room} {p : Program} {e : Env} {below : List Frame} {s : State} {sargs : Array Value} {y : MethodName} {len W9 : Nat}
theorem vx_back {ws : List Cond} {rm : Room} {Pc : Array Value → State → Prop} {Qc : Array Value → State → Outcome → State → Prop} {XC : String → State → State → Prop} {mc ms : Nat} {free : Addr → Prop} {bytes : ByteArray} {maxL : Nat} {ret : Option FieldType}
    (hM : vx_Met l y ws rm Pc Qc XC mc ms free) (hblind : FrameBlind Pc) (hrc : rm.cells = mc) (hrs : rm.slots = ms)
    (hframes : rm.frames + 1 ≤ R.frames) (hlocals : W9 + (maxL + 11) + rm.locals ≤ R.locals)
    (hws : ∀ w ∈ ws, ∀ a' U, s.WarmedH U.vm → w.before a' U = true) (hcode : Cond.code y bytes maxL ret ∈ ws) (hinit : ∀ a' U, s.WarmedH U.vm → (Cond.initialized y.cls).before a' U = true) :
    vx_Back l R p e below s sargs y len W9 (PreOf R mc ms Pc) (PostOf Qc mc ms free) (vx_Post XC mc ms free) := by
  intro m meth c A g ig mk a X hg hsize hdg hW hn hp
  have h1 : (headSpec ws rm).pre.before a A.U = true := atoms_intro fun w hw => hws w hw _ _ X.warmed
  have h2 : (Cond.code y bytes maxL ret).before a A.U = true := hws _ hcode _ _ X.warmed
  have h3 : (Cond.initialized y.cls).before a A.U = true := hinit _ _ X.warmed
  have h4 : A.cells + (headSpec ws rm).room.cells ≤ R.cells := by rw [show (headSpec ws rm).room.cells = mc from hrc]; exact hp.1
  have h5 : A.slots + (headSpec ws rm).room.slots ≤ R.slots := by rw [show (headSpec ws rm).room.slots = ms from hrs]; exact hp.2.1
  have hPc : Pc a (A.U.calling g mk a) := hblind _ _ _ _ hp.2.2
  obtain ⟨U, Ls, c0, s0⟩ := A
  dsimp only [Pt.U, Pt.locs, Pt.cells, Pt.slots] at h1 h2 h3 h4 h5 X hn hPc ⊢
  obtain ⟨methY, cY, hmY, hcY, -, hlY, -, -, -, -⟩ := Cond.code_spec hn h2
  obtain ⟨kY, hkY, -⟩ := className_of_methodNamed hn
  have hinitY : kY.init = .initialized := Cond.initialized_spec (findClass_of_methodNamed hn) hkY h3
  have h : At U g.method c below := by rw [hg]; exact X.here
  have hlocals9 : W9 + (maxL + 11) + (headSpec ws rm).room.locals ≤ R.locals := hlocals
  have happ : (headSpec ws rm).appliesLoose y e.platform (U.calling g mk a) = true :=
    Spec.appliesLoose_calling (g := g) h hdg hn hkY hinitY
      (X.room_calling (g := g) (R' := (headSpec ws rm).room) hsize hmY hcY hframes (by rw [hlY]; omega) h4 h5) h1
  obtain ⟨mid, hmid⟩ := h.above
  have hfr : (U.setTop g).frames = (.java g :: mid) ++ below := by rw [State.frames_setTop' g h.top, hmid]; rfl
  obtain ⟨o, s₂, hsteps, -, hend, hq⟩ := Steps.callFree hM p X.admits X.cas X.clock (acts := []) hfr happ hPc trivial
  have hq' : vx_Q Qc XC mc ms free a (U.calling g mk a) o s₂ := hq
  rw [State.frames_setTop' g h.top] at hend
  obtain ⟨g₀, hg0⟩ := Option.isSome_iff_exists.mp h.top
  obtain ⟨r, hr⟩ := State.topJava?_eq_some.mp hg0
  have hr' : (({ U with heap := s₂.heap, slotsUsed := s₂.slotsUsed } : State).setVm s₂.vm).frames = .java g₀ :: r := hr
  rcases hq' with ⟨hqc, L, hfe, hL⟩ | ⟨q, rfl, E, ce, L, hx, hce, hcv, hcl, hW₂, hsm, hL⟩
  · obtain ⟨⟨v, rfl⟩, hW₂, e2, q2, q3, q4, q5, q6⟩ := id hfe
    have e3 : s₂ = ({ (U.calling g mk a).setFrames s₂.frames with heap := s₂.heap, slotsUsed := s₂.slotsUsed } : State).setVm s₂.vm := by
      have : s₂ = ({ s₂ with vm := (U.calling g mk a).vm } : State).setVm s₂.vm := rfl
      rw [e2] at this
      exact this
    obtain ⟨c₂, i₂, len₂, hc₂, hd₂, hf₂⟩ := hend
    have hW' : U.WarmedH s₂.vm := hW₂
    have hcc : c₂ = c := by
      have h1 : s₂.code? g.method = U.code? g.method := by
        rw [State.code?_eq, State.code?_eq, hW'.alike.method?]
      exact Option.some.inj (hc₂.symm.trans (h1.trans h.code))
    subst hcc
    have hlen : len₂ = len := by rw [hdg] at hd₂; cases hd₂; rfl
    subst hlen
    have hs₂ : s₂ = (({ U with heap := s₂.heap, slotsUsed := s₂.slotsUsed } : State).setVm s₂.vm).setTop { g with pc := g.pc + len₂, stack := v.toList ++ g.stack } := by
      refine e3.trans ?_
      rw [hf₂, State.calling_eq h.top, State.setFrames_setFrames, State.setTop_of_frames _ hr', hr]
      rfl
    have hsame : U.sameButNew ({ U with heap := s₂.heap, slotsUsed := s₂.slotsUsed } : State) L mc ms := by
      refine ⟨?_, q2, q3, q4, q5, q6⟩
      obtain ⟨t, ht, -⟩ := State.frames_cons hr
      show ({ U with heap := s₂.heap, slotsUsed := s₂.slotsUsed } : State) = { U.setFrames U.frames with heap := s₂.heap, slotsUsed := s₂.slotsUsed }
      rw [State.setFrames_self ht]
    subst hg
    refine Or.inl ⟨v, ⟨(({ U with heap := s₂.heap, slotsUsed := s₂.slotsUsed } : State).setVm s₂.vm), Ls ++ L, c0 + mc, s0 + ms⟩,
      ⟨X.admits, X.cas, X.clock, X.frames, X.room, X.hears, X.method, X.code, (X.here.setHeapUsed s₂.heap s₂.slotsUsed).setVm hW'.alike, X.tail, State.WarmedH.trans X.warmed hW', X.limits, X.bytes, X.same.trans (hsame.setVm s.vm)⟩,
      ⟨g, mk, s₂, L, rfl, rfl, hqc, rfl, hL, rfl, rfl⟩, ?_⟩
    show Steps p.tables e below _ ((({ U with heap := s₂.heap, slotsUsed := s₂.slotsUsed } : State).setVm s₂.vm).setTop { g with pc := g.pc + len₂, stack := v.toList ++ g.stack })
    rw [← hs₂]
    exact hsteps
  · obtain ⟨e2, q2, q3, q4, q5, q6⟩ := id hsm
    have e3 : s₂ = ({ (U.calling g mk a).setFrames s₂.frames with heap := s₂.heap, slotsUsed := s₂.slotsUsed } : State).setVm s₂.vm := by
      have : s₂ = ({ s₂ with vm := (U.calling g mk a).vm } : State).setVm s₂.vm := rfl
      rw [e2] at this
      exact this
    have hf₂ : s₂.frames = .throwing q :: .java g :: U.frames.tail := hend
    have hW' : U.WarmedH s₂.vm := hW₂
    have hs₂ : s₂ = ((({ U with heap := s₂.heap, slotsUsed := s₂.slotsUsed } : State).setVm s₂.vm).setTop g).pushFrame (.throwing q) := by
      refine e3.trans ?_
      rw [hf₂, State.calling_eq h.top, State.setFrames_setFrames, State.pushFrame, State.frames_setTop _ hr', State.setTop_of_frames _ hr', State.setFrames_setFrames, hr]
      rfl
    have hsame : U.sameButNew ({ U with heap := s₂.heap, slotsUsed := s₂.slotsUsed } : State) L mc ms := by
      refine ⟨?_, q2, q3, q4, q5, q6⟩
      obtain ⟨t, ht, -⟩ := State.frames_cons hr
      show ({ U with heap := s₂.heap, slotsUsed := s₂.slotsUsed } : State) = { U.setFrames U.frames with heap := s₂.heap, slotsUsed := s₂.slotsUsed }
      rw [State.setFrames_self ht]
    subst hg
    refine Or.inr ⟨q, ⟨(({ U with heap := s₂.heap, slotsUsed := s₂.slotsUsed } : State).setVm s₂.vm), Ls ++ L, c0 + mc, s0 + ms⟩,
      ⟨X.admits, X.cas, X.clock, X.frames, X.room, X.hears, X.method, X.code, (X.here.setHeapUsed s₂.heap s₂.slotsUsed).setVm hW'.alike, X.tail, State.WarmedH.trans X.warmed hW', X.limits, X.bytes, X.same.trans (hsame.setVm s.vm)⟩,
      ⟨g, mk, s₂, L, E, ce, rfl, rfl, hx, hce, hcv, hcl, rfl, hL, rfl, rfl⟩, ?_⟩
    show Steps p.tables e below _ (((({ U with heap := s₂.heap, slotsUsed := s₂.slotsUsed } : State).setVm s₂.vm).setTop g).pushFrame (.throwing q))
    rw [← hs₂]
    exact hsteps
end Payer
section Calls
variable {p : Program} {l : Launch} {e : Env} {R : Room} {s : State} {m : MethodId} {args : Array Value} {below : List Frame} {meth : Method} {c : Code} {T : State} {locs : List Loc} {cells slots : Nat}
theorem vx_callV (X : Stand p l e R s m args below meth c T locs cells slots) (hexec : p.tables.exec = Jvm.exec) {own C : String} {index : Nat} {y : MethodName} {bytes : ByteArray} {maxL : Nat} {ret : Option FieldType}
    (hown : s.vm.findClass own = some m.cls) (hlink : (Cond.methodLink own index y).before args s = true) (hinst : (Cond.instanceMethod y).before args s = true) (hsel : (Cond.selects C y y).before args s = true)
    (hcode : (Cond.code y bytes maxL ret).before args s = true) (hy : y.cls ≠ "java/lang/invoke/MethodHandle" ∧ y.cls ≠ "java/lang/invoke/VarHandle")
    {W9 : Nat} {Pre : Pt → Array Value → Prop} {Post : Pt → Array Value → Option Value → Pt → Prop} {PostX : Pt → Array Value → Addr → Pt → Prop} (hK : vx_Back l R p e below s args y 3 W9 Pre Post PostX)
    {b : Addr} {cellB : Cell} (hcell : T.heap[b]? = some cellB) (hobj : cellB.vm.isStatics = false) (hcls : s.vm.findClass C = some cellB.cls)
    {g : JFrame} (hg : g.method = m) (hsize : g.locals.size = c.maxLocals) {argsL rest : List Value} (hlen : ∀ sig, parseMethodDescriptor y.desc = some sig → argsL.length = sig.parameters.length)
    (hstack : g.stack = argsL.reverse ++ .ref b :: rest) (hW : 2 * g.monitorRoom + (rest.map fun v => v.category).sum ≤ W9) (hdg : decode c.code g.pc = .ok (.invokevirtual index, 3))
    (hpre : ∀ vm₁, s.WarmedH vm₁ → Pre ⟨T.setVm vm₁, locs, cells, slots⟩ (Value.ref b :: argsL).toArray) :
    (∃ (v : Option Value) (vm₁ : Vm) (B : Pt), s.WarmedH vm₁ ∧ Stand p l e R s m args below meth c B.U B.locs B.cells B.slots ∧ Post ⟨T.setVm vm₁, locs, cells, slots⟩ (Value.ref b :: argsL).toArray v B ∧
      ∀ target, Steps p.tables e below (B.U.setTop { g with pc := g.pc + 3, stack := v.toList ++ rest }) target → Steps p.tables e below (T.setTop g) target) ∨
    (∃ (q : Addr) (vm₁ : Vm) (B : Pt), s.WarmedH vm₁ ∧ Stand p l e R s m args below meth c B.U B.locs B.cells B.slots ∧ PostX ⟨T.setVm vm₁, locs, cells, slots⟩ (Value.ref b :: argsL).toArray q B ∧
      Steps p.tables e below (T.setTop g) ((B.U.setTop { g with stack := rest }).pushFrame (.throwing q))) := by
  obtain ⟨mk, methM, hnamed, hmethM, hstM, habM⟩ := Cond.instanceMethod_spec hinst
  obtain ⟨methM', cM, hmethM', -, -, -, -, -, -, hsigM⟩ := Cond.code_spec hnamed hcode
  cases hmethM.symm.trans hmethM'
  obtain ⟨c2, r2, m2, q1, q2, q3, q4, kP, hkP, hkPi⟩ := Cond.selects_spec hsel
  cases hcls.symm.trans q1
  cases (State.methodFound?_of_named hnamed hy).symm.trans q2
  cases hnamed.symm.trans q3
  have hselP : selectMethod e.platform s.vm cellB.cls mk = .method mk := by rw [Launch.admits_selectMethod X.admits]; exact q4
  obtain ⟨vm₁, X₁, hstep₁⟩ := X.invokevirtual hexec hown hlink hnamed hmethM hstM hkP hkPi hy (a := b) (cell := cellB) hcell
    (fun z h => by rw [h] at hobj; cases hobj) hselP hmethM habM hkP hkPi (g := g) hg (argsL := argsL) (rest := rest) (hlen _ hsigM) hstack hdg
  rcases hK m meth c ⟨T.setVm vm₁, locs, cells, slots⟩ { g with stack := rest } (.invokevirtual index) mk (Value.ref b :: argsL).toArray X₁ hg hsize hdg hW (X₁.named hnamed) (hpre vm₁ X₁.warmed) with ⟨v, B, X', hpost, hsteps⟩ | ⟨q, B, X', hpost, hsteps⟩
  · exact Or.inl ⟨v, vm₁, B, X₁.warmed, X', hpost, fun target h => hstep₁ _ fun acts => by rw [doInvoke_state]; exact hsteps.trans h⟩
  · exact Or.inr ⟨q, vm₁, B, X₁.warmed, X', hpost, hstep₁ _ fun acts => by rw [doInvoke_state]; exact hsteps⟩
theorem vx_callS (X : Stand p l e R s m args below meth c T locs cells slots) (hexec : p.tables.exec = Jvm.exec) {own : String} {index : Nat} {y : MethodName} {bytes : ByteArray} {maxL : Nat} {ret : Option FieldType}
    (hown : s.vm.findClass own = some m.cls) (hlink : (Cond.methodLink own index y).before args s = true) (hstat : (Cond.static y).before args s = true) (hinit : (Cond.initialized y.cls).before args s = true)
    (hcode : (Cond.code y bytes maxL ret).before args s = true) (hy : y.cls ≠ "java/lang/invoke/MethodHandle" ∧ y.cls ≠ "java/lang/invoke/VarHandle")
    {W9 : Nat} {Pre : Pt → Array Value → Prop} {Post : Pt → Array Value → Option Value → Pt → Prop} {PostX : Pt → Array Value → Addr → Pt → Prop} (hK : vx_Back l R p e below s args y 3 W9 Pre Post PostX)
    {g : JFrame} (hg : g.method = m) (hsize : g.locals.size = c.maxLocals) {argsL rest : List Value} (hlen : ∀ sig, parseMethodDescriptor y.desc = some sig → argsL.length = sig.parameters.length)
    (hstack : g.stack = argsL.reverse ++ rest) (hW : 2 * g.monitorRoom + (rest.map fun v => v.category).sum ≤ W9) (hdg : decode c.code g.pc = .ok (.invokestatic index, 3))
    (hpre : ∀ vm₁, s.WarmedH vm₁ → Pre ⟨T.setVm vm₁, locs, cells, slots⟩ argsL.toArray) :
    (∃ (v : Option Value) (vm₁ : Vm) (B : Pt), s.WarmedH vm₁ ∧ Stand p l e R s m args below meth c B.U B.locs B.cells B.slots ∧ Post ⟨T.setVm vm₁, locs, cells, slots⟩ argsL.toArray v B ∧
      ∀ target, Steps p.tables e below (B.U.setTop { g with pc := g.pc + 3, stack := v.toList ++ rest }) target → Steps p.tables e below (T.setTop g) target) ∨
    (∃ (q : Addr) (vm₁ : Vm) (B : Pt), s.WarmedH vm₁ ∧ Stand p l e R s m args below meth c B.U B.locs B.cells B.slots ∧ PostX ⟨T.setVm vm₁, locs, cells, slots⟩ argsL.toArray q B ∧
      Steps p.tables e below (T.setTop g) ((B.U.setTop { g with stack := rest }).pushFrame (.throwing q))) := by
  obtain ⟨mk, hnamed⟩ := Cond.code_named hcode
  obtain ⟨methM, cM, hmethM, -, -, -, -, -, -, hsigM⟩ := Cond.code_spec hnamed hcode
  have hstatic : methM.isStatic = true := Cond.static_spec hnamed hmethM hstat
  obtain ⟨kP, hkP, -⟩ := className_of_methodNamed hnamed
  have hinitP : kP.init = .initialized := Cond.initialized_spec (findClass_of_methodNamed hnamed) hkP hinit
  obtain ⟨vm₁, X₁, hstep₁⟩ := X.invokestatic hexec hown hlink hnamed hmethM hstatic hkP hinitP hy (g := g) hg (argsL := argsL) (rest := rest) (hlen _ hsigM) hstack hdg
  rcases hK m meth c ⟨T.setVm vm₁, locs, cells, slots⟩ { g with stack := rest } (.invokestatic index) mk argsL.toArray X₁ hg hsize hdg hW (X₁.named hnamed) (hpre vm₁ X₁.warmed) with ⟨v, B, X', hpost, hsteps⟩ | ⟨q, B, X', hpost, hsteps⟩
  · exact Or.inl ⟨v, vm₁, B, X₁.warmed, X', hpost, fun target h => hstep₁ _ fun acts => by rw [doInvoke_state]; exact hsteps.trans h⟩
  · exact Or.inr ⟨q, vm₁, B, X₁.warmed, X', hpost, hstep₁ _ fun acts => by rw [doInvoke_state]; exact hsteps⟩
end Calls
theorem vx_cls {s : State} {T : State} {vm₁ : Vm} {E : String} {k : ClassId} (hW : s.WarmedH vm₁) (h : (T.setVm vm₁).vm.findClass E = some k) : s.vm.findClass E = some k := by
  have h1 : vm₁.findClass E = some k := h
  rw [hW.alike.findClass] at h1
  exact h1
/-- the method's frame g, with q thrown over it -/
def vx_W (p : Program) (l : Launch) (e : Env) (R : Room) (s : State) (m : MethodId) (args : Array Value) (below : List Frame) (meth : Method) (c : Code) (H : Heap) (locs : List Loc) (cells slots : Nat) (Q : State → Prop) (g : JFrame) (q : Addr) : Prop :=
  ∀ T : State, T.heap = H → Stand p l e R s m args below meth c T locs cells slots → ∃ t, Steps p.tables e below ((T.setTop g).pushFrame (.throwing q)) t ∧ Q t
def vx_Run (p : Program) (l : Launch) (e : Env) (R : Room) (s : State) (m : MethodId) (args : Array Value) (below : List Frame) (meth : Method) (c : Code) (H : Heap) (locs : List Loc) (cells slots mc ms : Nat) (g : JFrame) (rest : List Value) (Qa : State → Outcome → State → Prop) (XC : String → State → State → Prop) (free : Addr → Prop) : Prop :=
  ∀ T : State, T.heap = H → Stand p l e R s m args below meth c T locs cells slots →
    (∃ (v : Option Value) (st₀ t T' : State) (L : List Loc), st₀.heap = H ∧ Stand p l e R s m args below meth c T' (locs ++ L) (cells + mc) (slots + ms) ∧ (∀ q ∈ L, free q.base) ∧ T'.heap = t.heap ∧ T'.vm = t.vm ∧ Qa st₀ (.returned v) t ∧
      Goes p e below T g T' { g with pc := g.pc + 3, stack := v.toList ++ rest }) ∨
    (∃ (q : Addr) (st₀ t T' : State) (L : List Loc) (E : String) (ce : Cell), st₀.heap = H ∧ Stand p l e R s m args below meth c T' (locs ++ L) (cells + mc) (slots + ms) ∧ (∀ z ∈ L, free z.base) ∧ T'.heap = t.heap ∧ T'.vm = t.vm ∧ XC E st₀ t ∧ t.heap[q]? = some ce ∧ ce.vm = .none ∧ s.vm.findClass E = some ce.cls ∧
      Steps p.tables e below (T.setTop g) ((T'.setTop { g with stack := rest }).pushFrame (.throwing q)))
def vx_X {S : Type} (px : S → Prop) (B : String → S → State → Prop) (A : Nat → Prop) : String → State → State → Prop := fun E st t => ∃ u : S, px u ∧ B E u t ∧ va_F A st t
section Runs
variable {p : Program} {l : Launch} {e : Env} {R : Room} {s : State} {m : MethodId} {args : Array Value} {below : List Frame} {meth : Method} {c : Code} {H : Heap} {locs : List Loc} {cells slots : Nat}
variable {y : MethodName} {bytes cc : ByteArray} {maxL nL mc ms n index : Nat} {ret : Option FieldType} {ws : List Cond} {rm : Room} {Pc : Array Value → State → Prop} {Qc : Array Value → State → Outcome → State → Prop} {XC : String → State → State → Prop} {free : Addr → Prop} {Ts : List Cond} {own C : String} {b : Addr} {As rest : List Value} {g : JFrame}
theorem vx_callBack (cb : CallB R s args own index y bytes maxL ret ws rm mc ms n) (hM : vx_Met l y ws rm Pc Qc XC mc ms free) (hbl : FrameBlind Pc) : vx_Back l R p e below s args y 3 8 (PreOf R mc ms Pc) (PostOf Qc mc ms free) (vx_Post XC mc ms free) := by
  obtain ⟨hrc, hrs, hfr, hlo, hws, hcw, -, hini, -⟩ := cb
  exact vx_back (bytes := bytes) (maxL := maxL) (ret := ret) hM hbl hrc hrs hfr hlo hws hcw (fun a' U hW => word_at hW (Or.inl (by first | rfl | simp [Cond.onTables, Cond.keeps, Cond.steady])) hini)
theorem vx_runV (S : CallFix p m c cc nL s args Ts own) (hM : vx_Met l y ws rm Pc Qc XC mc ms free) (cw : CallW R s args own C index y bytes maxL ret ws rm mc ms n) (hp : PreV s H C b Pc As)
    (hg : g.method = m) (hn : As.length = n) (hsize : g.locals.size = nL) (hstack : g.stack = As.reverse ++ .ref b :: rest) (hW : 2 * g.monitorRoom + (rest.map fun v => v.category).sum ≤ 8) (hdg : decode cc g.pc = .ok (.invokevirtual index, 3)) (hf : cells + mc ≤ R.cells ∧ slots + ms ≤ R.slots) :
    vx_Run p l e R s m args below meth c H locs cells slots mc ms g rest (Qc (Value.ref b :: As).toArray) XC free := by
  have hK : vx_Back l R p e below s args y 3 8 (PreOf R mc ms Pc) (PostOf Qc mc ms free) (vx_Post XC mc ms free) := vx_callBack cw.1 hM hp.1
  obtain ⟨⟨-, -, -, -, -, -, hcode, -, hy, hlen, hl⟩, hin, hse⟩ := cw
  obtain ⟨hx, hb, hml, ho, -⟩ := S
  obtain ⟨-, ⟨cellB, hcB, hoB, hclB⟩, hPc⟩ := hp
  intro T hT X
  rcases vx_callV X hx (C := C) (bytes := bytes) (maxL := maxL) (ret := ret) ho hl hin hse hcode hy hK (by rw [hT]; exact hcB) hoB hclB hg (hsize.trans hml.symm) (argsL := As) (rest := rest) (fun sig h => hn.trans (hlen sig h)) hstack hW (by rw [hb]; exact hdg)
    (fun vm₁ hW₁ => ⟨hf.1, hf.2, hPc (T.setVm vm₁) hT hW₁⟩) with ⟨v, vm₁, ⟨U', l2, c2, s2⟩, hW₁, X', ⟨g', mk, t, L, e1, e2, hq, h1, hL, h2, h3⟩, st⟩ | ⟨q, vm₁, ⟨U', l2, c2, s2⟩, hW₁, X', ⟨g', mk, t, L, E, ce, e1, e2, hq, hce, hcv, hcl, h1, hL, h2, h3⟩, st⟩
  · dsimp only [Pt.U, Pt.locs, Pt.cells, Pt.slots] at X' e1 e2 h1 h2 h3 st
    subst h1; subst h2; subst h3
    exact Or.inl ⟨v, (T.setVm vm₁).calling g' mk (Value.ref b :: As).toArray, t, U', L, hT, X', hL, e1, e2, hq, st⟩
  · dsimp only [Pt.U, Pt.locs, Pt.cells, Pt.slots] at X' e1 e2 h1 h2 h3 st hcl
    subst h1; subst h2; subst h3
    exact Or.inr ⟨q, (T.setVm vm₁).calling g' mk (Value.ref b :: As).toArray, t, U', L, E, ce, hT, X', hL, e1, e2, hq, hce, hcv, vx_cls hW₁ hcl, st⟩
theorem vx_runS (S : CallFix p m c cc nL s args Ts own) (hM : vx_Met l y ws rm Pc Qc XC mc ms free) (cw : CallB R s args own index y bytes maxL ret ws rm mc ms n ∧ (Cond.static y).before args s = true) (hp : PreS s H Pc As)
    (hg : g.method = m) (hn : As.length = n) (hsize : g.locals.size = nL) (hstack : g.stack = As.reverse ++ rest) (hW : 2 * g.monitorRoom + (rest.map fun v => v.category).sum ≤ 8) (hdg : decode cc g.pc = .ok (.invokestatic index, 3)) (hf : cells + mc ≤ R.cells ∧ slots + ms ≤ R.slots) :
    vx_Run p l e R s m args below meth c H locs cells slots mc ms g rest (Qc As.toArray) XC free := by
  have hK : vx_Back l R p e below s args y 3 8 (PreOf R mc ms Pc) (PostOf Qc mc ms free) (vx_Post XC mc ms free) := vx_callBack cw.1 hM hp.1
  obtain ⟨⟨-, -, -, -, -, -, hcode, hini, hy, hlen, hl⟩, hstt⟩ := cw
  obtain ⟨hx, hb, hml, ho, -⟩ := S
  intro T hT X
  rcases vx_callS X hx (bytes := bytes) (maxL := maxL) (ret := ret) ho hl hstt hini hcode hy hK hg (hsize.trans hml.symm) (argsL := As) (rest := rest) (fun sig h => hn.trans (hlen sig h)) hstack hW (by rw [hb]; exact hdg)
    (fun vm₁ hW₁ => ⟨hf.1, hf.2, hp.2 (T.setVm vm₁) hT hW₁⟩) with ⟨v, vm₁, ⟨U', l2, c2, s2⟩, hW₁, X', ⟨g', mk, t, L, e1, e2, hq, h1, hL, h2, h3⟩, st⟩ | ⟨q, vm₁, ⟨U', l2, c2, s2⟩, hW₁, X', ⟨g', mk, t, L, E, ce, e1, e2, hq, hce, hcv, hcl, h1, hL, h2, h3⟩, st⟩
  · dsimp only [Pt.U, Pt.locs, Pt.cells, Pt.slots] at X' e1 e2 h1 h2 h3 st
    subst h1; subst h2; subst h3
    exact Or.inl ⟨v, (T.setVm vm₁).calling g' mk As.toArray, t, U', L, hT, X', hL, e1, e2, hq, st⟩
  · dsimp only [Pt.U, Pt.locs, Pt.cells, Pt.slots] at X' e1 e2 h1 h2 h3 st hcl
    subst h1; subst h2; subst h3
    exact Or.inr ⟨q, (T.setVm vm₁).calling g' mk As.toArray, t, U', L, E, ce, hT, X', hL, e1, e2, hq, hce, hcv, vx_cls hW₁ hcl, st⟩
end Runs
section Rows
variable {p : Program} {l : Launch} {e : Env} {R : Room} {s : State} {m : MethodId} {args : Array Value} {below : List Frame} {meth : Method} {c : Code} {H : Heap} {locs : List Loc} {cells slots : Nat} {Q : State → Prop}
variable {mc ms : Nat} {free : Addr → Prop} {A0 A1 : Nat → Prop} {H0 : Heap} {a : Array Value} {pc : Nat} {ls : Array Slot} {st0 rest : List Value}
theorem vx_keep {st₀ t T' : State} {L : List Loc} (h0 : st₀.heap = H) (e1 : T'.heap = t.heap) (hS : va_S A0 H0 H locs) (hA : ∀ q, q < H.size → A1 q → A0 q) (hf : ∀ q, free q → A0 q) (hL : ∀ q ∈ L, free q.base) (hF : va_F A1 st₀ t) :
    H.size ≤ T'.heap.size ∧ (∀ q : Nat, q < H.size → ¬ A1 q → T'.heap[q]? = H[q]?) ∧ va_S A0 H0 T'.heap (locs ++ L) := by
  obtain ⟨hz, hk⟩ := hF
  rw [h0] at hz hk
  exact ⟨by rw [e1]; exact hz, fun q h1 h2 => by rw [e1]; exact hk q h1 h2,
    ⟨Nat.le_trans hS.1 (by rw [e1]; exact hz), fun q h1 h2 => by rw [e1, hk q (Nat.lt_of_lt_of_le h1 hS.1) (fun z => h2 (hA q (Nat.lt_of_lt_of_le h1 hS.1) z))]; exact hS.2.1 q h1 h2, fun q hq => by
      rcases List.mem_append.mp hq with h | h
      · exact hS.2.2 q h
      · exact hf _ (hL q h)⟩⟩
theorem vx_calli {S SX : Type} {post : Int32 → S → Prop} {px : SX → Prop} {B : S → State → Prop} {BX : String → SX → State → Prop} {AX : Nat → Prop} (hr : vx_Run p l e R s m args below meth c H locs cells slots mc ms (F0 m pc ls st0) rest (va_Qi post B A1 a) (vx_X px BX AX) free) (hS : va_S A0 H0 H locs) (hA : ∀ q, q < H.size → A1 q → A0 q) (hf : ∀ q, free q → A0 q) (hAX : ∀ q, q < H.size → AX q → A0 q)
    (kx : ∀ (E : String) (ce : Cell) (q9 : Addr) (u : SX) (t : State) (H1 : Heap) (locs1 : List Loc), t.heap = H1 → s.vm.Alike t.vm → px u → BX E u t → H.size ≤ H1.size → (∀ q : Nat, q < H.size → ¬ AX q → H1[q]? = H[q]?) → va_S A0 H0 H1 locs1 → H1[q9]? = some ce → ce.vm = .none → s.vm.findClass E = some ce.cls → vx_W p l e R s m args below meth c H1 locs1 (cells + mc) (slots + ms) Q (F0 m pc ls rest) q9)
    (kk : ∀ (r : Int32) (u : S) (t : State) (H1 : Heap) (locs1 : List Loc), t.heap = H1 → s.vm.Alike t.vm → post r u → B u t → H.size ≤ H1.size → (∀ q : Nat, q < H.size → ¬ A1 q → H1[q]? = H[q]?) → va_S A0 H0 H1 locs1 → W p l e R s m args below meth c H1 locs1 (cells + mc) (slots + ms) Q (F0 m (pc + 3) ls (.int r :: rest))) : W p l e R s m args below meth c H locs cells slots Q (F0 m pc ls st0) := by
  intro T hT X
  rcases hr T hT X with ⟨v, st₀, t, T', L, h0, X', hL, e1, e2, ⟨⟨r, u, hv, hp, hb⟩, hF⟩, st⟩ | ⟨q, st₀, t, T', L, E, ce, h0, X', hL, e1, e2, ⟨u, hp, hb, hF⟩, hce, hcv, hcl, st⟩
  · cases hv
    obtain ⟨k1, k2, k3⟩ := vx_keep h0 e1 hS hA hf hL hF
    obtain ⟨t2, a1, b1⟩ := kk r u t T'.heap (locs ++ L) e1.symm (by rw [← e2]; exact X'.warmed.alike) hp hb k1 k2 k3 T' rfl X'
    exact ⟨t2, st t2 a1, b1⟩
  · obtain ⟨k1, k2, k3⟩ := vx_keep h0 e1 hS hAX hf hL hF
    obtain ⟨t2, a1, b1⟩ := kx E ce q u t T'.heap (locs ++ L) e1.symm (by rw [← e2]; exact X'.warmed.alike) hp hb k1 k2 k3 (by rw [e1]; exact hce) hcv hcl T' rfl X'
    exact ⟨t2, st.trans a1, b1⟩
theorem vx_calll {S SX : Type} {post : Int64 → S → Prop} {px : SX → Prop} {B : S → State → Prop} {BX : String → SX → State → Prop} {AX : Nat → Prop} (hr : vx_Run p l e R s m args below meth c H locs cells slots mc ms (F0 m pc ls st0) rest (va_Ql post B A1 a) (vx_X px BX AX) free) (hS : va_S A0 H0 H locs) (hA : ∀ q, q < H.size → A1 q → A0 q) (hf : ∀ q, free q → A0 q) (hAX : ∀ q, q < H.size → AX q → A0 q)
    (kx : ∀ (E : String) (ce : Cell) (q9 : Addr) (u : SX) (t : State) (H1 : Heap) (locs1 : List Loc), t.heap = H1 → s.vm.Alike t.vm → px u → BX E u t → H.size ≤ H1.size → (∀ q : Nat, q < H.size → ¬ AX q → H1[q]? = H[q]?) → va_S A0 H0 H1 locs1 → H1[q9]? = some ce → ce.vm = .none → s.vm.findClass E = some ce.cls → vx_W p l e R s m args below meth c H1 locs1 (cells + mc) (slots + ms) Q (F0 m pc ls rest) q9)
    (kk : ∀ (r : Int64) (u : S) (t : State) (H1 : Heap) (locs1 : List Loc), t.heap = H1 → s.vm.Alike t.vm → post r u → B u t → H.size ≤ H1.size → (∀ q : Nat, q < H.size → ¬ A1 q → H1[q]? = H[q]?) → va_S A0 H0 H1 locs1 → W p l e R s m args below meth c H1 locs1 (cells + mc) (slots + ms) Q (F0 m (pc + 3) ls (.long r :: rest))) : W p l e R s m args below meth c H locs cells slots Q (F0 m pc ls st0) := by
  intro T hT X
  rcases hr T hT X with ⟨v, st₀, t, T', L, h0, X', hL, e1, e2, ⟨⟨r, u, hv, hp, hb⟩, hF⟩, st⟩ | ⟨q, st₀, t, T', L, E, ce, h0, X', hL, e1, e2, ⟨u, hp, hb, hF⟩, hce, hcv, hcl, st⟩
  · cases hv
    obtain ⟨k1, k2, k3⟩ := vx_keep h0 e1 hS hA hf hL hF
    obtain ⟨t2, a1, b1⟩ := kk r u t T'.heap (locs ++ L) e1.symm (by rw [← e2]; exact X'.warmed.alike) hp hb k1 k2 k3 T' rfl X'
    exact ⟨t2, st t2 a1, b1⟩
  · obtain ⟨k1, k2, k3⟩ := vx_keep h0 e1 hS hAX hf hL hF
    obtain ⟨t2, a1, b1⟩ := kx E ce q u t T'.heap (locs ++ L) e1.symm (by rw [← e2]; exact X'.warmed.alike) hp hb k1 k2 k3 (by rw [e1]; exact hce) hcv hcl T' rfl X'
    exact ⟨t2, st.trans a1, b1⟩
theorem vx_callf {S SX : Type} {post : UInt32 → S → Prop} {px : SX → Prop} {B : S → State → Prop} {BX : String → SX → State → Prop} {AX : Nat → Prop} (hr : vx_Run p l e R s m args below meth c H locs cells slots mc ms (F0 m pc ls st0) rest (va_Qf post B A1 a) (vx_X px BX AX) free) (hS : va_S A0 H0 H locs) (hA : ∀ q, q < H.size → A1 q → A0 q) (hf : ∀ q, free q → A0 q) (hAX : ∀ q, q < H.size → AX q → A0 q)
    (kx : ∀ (E : String) (ce : Cell) (q9 : Addr) (u : SX) (t : State) (H1 : Heap) (locs1 : List Loc), t.heap = H1 → s.vm.Alike t.vm → px u → BX E u t → H.size ≤ H1.size → (∀ q : Nat, q < H.size → ¬ AX q → H1[q]? = H[q]?) → va_S A0 H0 H1 locs1 → H1[q9]? = some ce → ce.vm = .none → s.vm.findClass E = some ce.cls → vx_W p l e R s m args below meth c H1 locs1 (cells + mc) (slots + ms) Q (F0 m pc ls rest) q9)
    (kk : ∀ (r : UInt32) (u : S) (t : State) (H1 : Heap) (locs1 : List Loc), t.heap = H1 → s.vm.Alike t.vm → post r u → B u t → H.size ≤ H1.size → (∀ q : Nat, q < H.size → ¬ A1 q → H1[q]? = H[q]?) → va_S A0 H0 H1 locs1 → W p l e R s m args below meth c H1 locs1 (cells + mc) (slots + ms) Q (F0 m (pc + 3) ls (.float r :: rest))) : W p l e R s m args below meth c H locs cells slots Q (F0 m pc ls st0) := by
  intro T hT X
  rcases hr T hT X with ⟨v, st₀, t, T', L, h0, X', hL, e1, e2, ⟨⟨r, u, hv, hp, hb⟩, hF⟩, st⟩ | ⟨q, st₀, t, T', L, E, ce, h0, X', hL, e1, e2, ⟨u, hp, hb, hF⟩, hce, hcv, hcl, st⟩
  · cases hv
    obtain ⟨k1, k2, k3⟩ := vx_keep h0 e1 hS hA hf hL hF
    obtain ⟨t2, a1, b1⟩ := kk r u t T'.heap (locs ++ L) e1.symm (by rw [← e2]; exact X'.warmed.alike) hp hb k1 k2 k3 T' rfl X'
    exact ⟨t2, st t2 a1, b1⟩
  · obtain ⟨k1, k2, k3⟩ := vx_keep h0 e1 hS hAX hf hL hF
    obtain ⟨t2, a1, b1⟩ := kx E ce q u t T'.heap (locs ++ L) e1.symm (by rw [← e2]; exact X'.warmed.alike) hp hb k1 k2 k3 (by rw [e1]; exact hce) hcv hcl T' rfl X'
    exact ⟨t2, st.trans a1, b1⟩
theorem vx_calld {S SX : Type} {post : UInt64 → S → Prop} {px : SX → Prop} {B : S → State → Prop} {BX : String → SX → State → Prop} {AX : Nat → Prop} (hr : vx_Run p l e R s m args below meth c H locs cells slots mc ms (F0 m pc ls st0) rest (va_Qd post B A1 a) (vx_X px BX AX) free) (hS : va_S A0 H0 H locs) (hA : ∀ q, q < H.size → A1 q → A0 q) (hf : ∀ q, free q → A0 q) (hAX : ∀ q, q < H.size → AX q → A0 q)
    (kx : ∀ (E : String) (ce : Cell) (q9 : Addr) (u : SX) (t : State) (H1 : Heap) (locs1 : List Loc), t.heap = H1 → s.vm.Alike t.vm → px u → BX E u t → H.size ≤ H1.size → (∀ q : Nat, q < H.size → ¬ AX q → H1[q]? = H[q]?) → va_S A0 H0 H1 locs1 → H1[q9]? = some ce → ce.vm = .none → s.vm.findClass E = some ce.cls → vx_W p l e R s m args below meth c H1 locs1 (cells + mc) (slots + ms) Q (F0 m pc ls rest) q9)
    (kk : ∀ (r : UInt64) (u : S) (t : State) (H1 : Heap) (locs1 : List Loc), t.heap = H1 → s.vm.Alike t.vm → post r u → B u t → H.size ≤ H1.size → (∀ q : Nat, q < H.size → ¬ A1 q → H1[q]? = H[q]?) → va_S A0 H0 H1 locs1 → W p l e R s m args below meth c H1 locs1 (cells + mc) (slots + ms) Q (F0 m (pc + 3) ls (.double r :: rest))) : W p l e R s m args below meth c H locs cells slots Q (F0 m pc ls st0) := by
  intro T hT X
  rcases hr T hT X with ⟨v, st₀, t, T', L, h0, X', hL, e1, e2, ⟨⟨r, u, hv, hp, hb⟩, hF⟩, st⟩ | ⟨q, st₀, t, T', L, E, ce, h0, X', hL, e1, e2, ⟨u, hp, hb, hF⟩, hce, hcv, hcl, st⟩
  · cases hv
    obtain ⟨k1, k2, k3⟩ := vx_keep h0 e1 hS hA hf hL hF
    obtain ⟨t2, a1, b1⟩ := kk r u t T'.heap (locs ++ L) e1.symm (by rw [← e2]; exact X'.warmed.alike) hp hb k1 k2 k3 T' rfl X'
    exact ⟨t2, st t2 a1, b1⟩
  · obtain ⟨k1, k2, k3⟩ := vx_keep h0 e1 hS hAX hf hL hF
    obtain ⟨t2, a1, b1⟩ := kx E ce q u t T'.heap (locs ++ L) e1.symm (by rw [← e2]; exact X'.warmed.alike) hp hb k1 k2 k3 (by rw [e1]; exact hce) hcv hcl T' rfl X'
    exact ⟨t2, st.trans a1, b1⟩
theorem vx_callv {S SX : Type} {post : S → Prop} {px : SX → Prop} {B : S → State → Prop} {BX : String → SX → State → Prop} {AX : Nat → Prop} (hr : vx_Run p l e R s m args below meth c H locs cells slots mc ms (F0 m pc ls st0) rest (va_Qv post B A1 a) (vx_X px BX AX) free) (hS : va_S A0 H0 H locs) (hA : ∀ q, q < H.size → A1 q → A0 q) (hf : ∀ q, free q → A0 q) (hAX : ∀ q, q < H.size → AX q → A0 q)
    (kx : ∀ (E : String) (ce : Cell) (q9 : Addr) (u : SX) (t : State) (H1 : Heap) (locs1 : List Loc), t.heap = H1 → s.vm.Alike t.vm → px u → BX E u t → H.size ≤ H1.size → (∀ q : Nat, q < H.size → ¬ AX q → H1[q]? = H[q]?) → va_S A0 H0 H1 locs1 → H1[q9]? = some ce → ce.vm = .none → s.vm.findClass E = some ce.cls → vx_W p l e R s m args below meth c H1 locs1 (cells + mc) (slots + ms) Q (F0 m pc ls rest) q9)
    (kk : ∀ (u : S) (t : State) (H1 : Heap) (locs1 : List Loc), t.heap = H1 → s.vm.Alike t.vm → post u → B u t → H.size ≤ H1.size → (∀ q : Nat, q < H.size → ¬ A1 q → H1[q]? = H[q]?) → va_S A0 H0 H1 locs1 → W p l e R s m args below meth c H1 locs1 (cells + mc) (slots + ms) Q (F0 m (pc + 3) ls (rest))) : W p l e R s m args below meth c H locs cells slots Q (F0 m pc ls st0) := by
  intro T hT X
  rcases hr T hT X with ⟨v, st₀, t, T', L, h0, X', hL, e1, e2, ⟨⟨u, hv, hp, hb⟩, hF⟩, st⟩ | ⟨q, st₀, t, T', L, E, ce, h0, X', hL, e1, e2, ⟨u, hp, hb, hF⟩, hce, hcv, hcl, st⟩
  · cases hv
    obtain ⟨k1, k2, k3⟩ := vx_keep h0 e1 hS hA hf hL hF
    obtain ⟨t2, a1, b1⟩ := kk u t T'.heap (locs ++ L) e1.symm (by rw [← e2]; exact X'.warmed.alike) hp hb k1 k2 k3 T' rfl X'
    exact ⟨t2, st t2 a1, b1⟩
  · obtain ⟨k1, k2, k3⟩ := vx_keep h0 e1 hS hAX hf hL hF
    obtain ⟨t2, a1, b1⟩ := kx E ce q u t T'.heap (locs ++ L) e1.symm (by rw [← e2]; exact X'.warmed.alike) hp hb k1 k2 k3 (by rw [e1]; exact hce) hcv hcl T' rfl X'
    exact ⟨t2, st.trans a1, b1⟩
/-- caught by the row x of this method's table; the rows ahead don't take it -/
theorem vx_catch {own name : String} {E : String} {ce : Cell} {q : Addr} (hown : s.vm.findClass own = some m.cls) (pre : List ExceptionTableEntry) (x : ExceptionTableEntry) (suf : List ExceptionTableEntry) (hsplit : c.exceptionTable.toList = pre ++ x :: suf)
    (hpass : ∀ z ∈ pre, covers z pc = false ∨ (z.catchType ≠ 0 ∧ ∃ nm : String, (Cond.classLink own z.catchType nm).before args s = true ∧ va_Nc E nm s)) (hx : covers x pc = true) (h0 : x.catchType ≠ 0)
    (hlink : (Cond.classLink own x.catchType name).before args s = true) (hcast : (Cond.castable E name).before args s = true) (hcell : H[q]? = some ce) (hv : ce.vm = .none) (hcl : s.vm.findClass E = some ce.cls)
    (kk : W p l e R s m args below meth c H locs cells slots Q (F0 m x.handlerPc ls [.ref q])) : vx_W p l e R s m args below meth c H locs cells slots Q (F0 m pc ls rest) q := by
  intro T hT X
  have hpl : e.platform.magicAccessors = ({} : Platform).magicAccessors := by rw [X.admits.platform]
  obtain ⟨c3, c4, hc3, hc4, hasg⟩ := Cond.castable_spec hcast
  cases Option.some.inj (hc3.symm.trans hcl)
  obtain ⟨c5, hc5, hcl5⟩ := Cond.classLink_spec hown hlink e.platform hpl
  cases Option.some.inj (hc4.symm.trans hc5)
  obtain ⟨vm', X', st⟩ := X.thenCaughtThrough q (g := F0 m pc ls rest) rfl (Steps.refl _) (by rw [hT]; exact hcell) (by rw [hv]; rfl) (by obtain ⟨k9, h9, -⟩ := Vm.findClass_spec hcl; exact ⟨k9, h9⟩) pre x suf hsplit
    (fun z hz => by
      rcases hpass z hz with h | ⟨hz0, nm, hl1, hn1⟩
      · exact Or.inl h
      · obtain ⟨c6, hc6, hcl6⟩ := Cond.classLink_spec hown hl1 e.platform hpl
        obtain ⟨a8, b8, h1, h2, h3⟩ := hn1
        cases Option.some.inj (h1.symm.trans hcl)
        cases Option.some.inj (h2.symm.trans hc6)
        exact Or.inr ⟨hz0, _, hcl6, h3⟩) hx (Or.inr ⟨h0, c4, hcl5, hasg⟩)
  obtain ⟨t, a1, b1⟩ := kk (T.setVm vm') hT X'
  exact ⟨t, st.trans a1, b1⟩
end Rows
section Ends
variable {p : Program} {l : Launch} {e : Env} {R : Room} {s : State} {m : MethodId} {args : Array Value} {below : List Frame} {meth : Method} {c : Code} {H : Heap} {locs : List Loc} {cells slots : Nat} {Q : State → Prop}
variable {mc ms : Nat} {free : Addr → Prop} {A0 A1 : Nat → Prop} {H0 : Heap} {a : Array Value} {ls : Array Slot} {st0 rest : List Value}
variable {Qc : Array Value → State → Outcome → State → Prop} {XC : String → State → State → Prop}
/-- what a body that may throw owes at its end -/
def vx_MQ (below : List Frame) (Qc : Array Value → State → Outcome → State → Prop) (XC : String → State → State → Prop) (a : Array Value) (s : State) (mc ms : Nat) (free : Addr → Prop) : State → Prop := fun t =>
  ∃ o, t.status = .running ∧ Ended t below o ∧ vx_Q Qc XC mc ms free a s o t
theorem vx_ret {g : JFrame} {mc ms : Nat} (k : W p l e R s m args below meth c H locs cells slots (MQ below Qc args s mc ms free) g) : W p l e R s m args below meth c H locs cells slots (vx_MQ below Qc XC args s mc ms free) g := by
  intro T hT X
  obtain ⟨t, a1, o, b1, b2, b3, b4⟩ := k T hT X
  exact ⟨t, a1, o, b1, b2, Or.inl ⟨b3, b4⟩⟩
/-- not caught here: it goes on to the caller -/
theorem vx_widen {g : JFrame} {q : Addr} {k n : Nat} (h1 : cells ≤ k) (h2 : slots ≤ n) (kk : vx_W p l e R s m args below meth c H locs k n Q g q) : vx_W p l e R s m args below meth c H locs cells slots Q g q := fun T hT X => kk T hT (stand_widen X h1 h2)
theorem vx_out {pc : Nat} {E : String} {ce : Cell} {q : Addr} {mc ms : Nat} (hout : ∀ x ∈ c.exceptionTable.toList, covers x pc = false) (hlocks : meth.locks = false) (hcell : H[q]? = some ce) (hv : ce.vm = .none) (hcl : s.vm.findClass E = some ce.cls)
    (hx : ∀ t : State, t.heap = H → s.vm.Alike t.vm → XC E s t) (hf : ∀ z ∈ locs, free z.base) (hc : cells ≤ mc) (hs : slots ≤ ms) :
    vx_W p l e R s m args below meth c H locs cells slots (vx_MQ below Qc XC args s mc ms free) (F0 m pc ls rest) q := by
  intro T hT X
  obtain ⟨st1, hrun, hend, hW, hsm⟩ := X.leaveThrown q (g := F0 m pc ls rest) rfl rfl rfl hout hlocks
  have hcell9 : (T.setFrames (.throwing q :: below)).heap[q]? = some ce := by
    show T.heap[q]? = some ce
    rw [hT]; exact hcell
  exact ⟨_, st1, .threw q, hrun, hend, Or.inr ⟨q, rfl, E, ce, locs, hx _ hT hW.alike, hcell9, hv, hcl, hW, hsm.mono hc hs, hf⟩⟩
theorem vx_frame {U : State} {k n : Nat} (h : s.sameButNew ({ U with vm := s.vm } : State) locs k n) : s.heap.size ≤ U.heap.size ∧ ∀ q : Nat, q < s.heap.size → (∀ z ∈ locs, z.base ≠ q) → U.heap[q]? = s.heap[q]? := by
  obtain ⟨-, h2, -, -, -, h6⟩ := h
  refine ⟨h2, fun q hq hz => ?_⟩
  obtain ⟨c9, e1, e2, e3, e4⟩ := h6 q _ (Array.getElem?_eq_getElem hq)
  have hs : c9.slots = (s.heap[q]).slots := Array.ext_getElem? fun i => e4 i fun hm => hz _ hm rfl
  have h9 : c9 = s.heap[q] := by
    rw [hs] at e2
    exact e2
  have e5 : U.heap[q]? = some c9 := e1
  rw [e5, h9, Array.getElem?_eq_getElem hq]
/-- the words of a throw but the four that speak of the heap -/
def vx_no (w : Cond) : Bool := decide (w ≠ .isRef (.static Bundle.tN "UNASSIGNED_STACK" Bundle.steD)) && decide (w ≠ .isRef (.static Bundle.tN "SUPPRESSED_SENTINEL" Bundle.listD)) && decide (w ≠ .laysStatic Bundle.tN "UNASSIGNED_STACK" Bundle.steD) && decide (w ≠ .laysStatic Bundle.tN "SUPPRESSED_SENTINEL" Bundle.listD)
def vx_at0 (own : String) (ic : Nat) (X : String) (names : List String) : List Cond := (Bundle.ownAtoms0 own ic X names).filter vx_no
def vx_atS (own : String) (ic : Nat) (X : String) (names : List String) : List Cond := (Bundle.ownAtoms own ic X names).filter vx_no
/-- a word that the tables alone decide, or a good one -/
def vx_ot (w : Cond) : Bool := w.onTables || goodWord w
theorem vx_ot_at {args a' : Array Value} {s U : State} {w : Cond} (hW : s.WarmedH U.vm) (hvm : s.vm = U.vm) (hg : vx_ot w = true) (h : w.before args s = true) : w.before a' U = true := by
  simp only [vx_ot, Bool.or_eq_true] at hg
  rcases hg with hg | hg
  · exact va_tabs hg hvm h
  · exact word_at hW (good_of_word hg) h
/-- a list's words: the good ones out of the method's own list, the others by premises of their own -/
theorem vx_hat {args : Array Value} {s : State} {L B : List Cond} (h1 : ∀ w ∈ L.filter goodWord, w.before args s = true) (h2 : ∀ w ∈ L.filter (fun w => !goodWord w), w ∈ B) (h3 : ∀ w ∈ B, w.before args s = true) : ∀ w ∈ L, w.before args s = true := by
  intro w hw
  by_cases g : goodWord w = true
  · exact h1 w (List.mem_filter.mpr ⟨hw, g⟩)
  · refine h3 w (h2 w (List.mem_filter.mpr ⟨hw, ?_⟩))
    show (!goodWord w) = true
    cases hgw : goodWord w
    · rfl
    · exact absurd hgw g
theorem vx_c {args : Array Value} {s : State} {w : Cond} {B : List Cond} (h : w.before args s = true) (t : ∀ w ∈ B, w.before args s = true) : ∀ w' ∈ w :: B, w'.before args s = true := fun w' h' => (List.mem_cons.mp h').elim (fun e => by rw [e]; exact h) (t w')
theorem vx_n {args : Array Value} {s : State} : ∀ w ∈ ([] : List Cond), w.before args s = true := fun _ h => nomatch h
theorem vx_own {args : Array Value} {s : State} {L : List Cond} (h1 : ∀ w ∈ L.filter vx_no, w.before args s = true)
    (hU : (Cond.isRef (.static Bundle.tN "UNASSIGNED_STACK" Bundle.steD)).before args s = true) (hN : (Cond.isRef (.static Bundle.tN "SUPPRESSED_SENTINEL" Bundle.listD)).before args s = true)
    (lU : (Cond.laysStatic Bundle.tN "UNASSIGNED_STACK" Bundle.steD).before args s = true) (lN : (Cond.laysStatic Bundle.tN "SUPPRESSED_SENTINEL" Bundle.listD).before args s = true) : ∀ w ∈ L, w.before args s = true := by
  intro w hw
  by_cases e1 : w = .isRef (.static Bundle.tN "UNASSIGNED_STACK" Bundle.steD)
  · rw [e1]; exact hU
  · by_cases e2 : w = .isRef (.static Bundle.tN "SUPPRESSED_SENTINEL" Bundle.listD)
    · rw [e2]; exact hN
    · by_cases e3 : w = .laysStatic Bundle.tN "UNASSIGNED_STACK" Bundle.steD
      · rw [e3]; exact lU
      · by_cases e4 : w = .laysStatic Bundle.tN "SUPPRESSED_SENTINEL" Bundle.listD
        · rw [e4]; exact lN
        · exact h1 w (List.mem_filter.mpr ⟨hw, by unfold vx_no; rw [decide_eq_true e1, decide_eq_true e2, decide_eq_true e3, decide_eq_true e4]; rfl⟩)
/-- where a static field lies, its class's statics cell in H -/
def vx_L (C n d : String) (A : Nat → Prop) (U : State) (H : Heap) : Prop := ∃ (c : ClassId) (k : Class) (i : Nat) (f : Field) (a : Nat) (cell : Cell), U.vm.findClass C = some c ∧ U.fieldFound? C n d = some (c, k, i, f) ∧ f.isStatic = true ∧ k.statics = some a ∧ H[a]? = some cell ∧ cell.vm.isStatics = true ∧ cell.cls = c ∧ f.slot < cell.slots.size ∧ k.staticTypes[f.slot]? = some f.type ∧ ¬ A a
theorem vx_L.moved {C n d : String} {A : Nat → Prop} {u U : State} {H : Heap} (hvm : u.vm.Alike U.vm) (h : vx_L C n d A u H) : vx_L C n d A U H := by
  obtain ⟨c, k, i, f, a, cell, h1, h2, h3, h4, h5, h6, h7, h8, h9, h10⟩ := h
  obtain ⟨k', hi', he⟩ := State.fieldFound?_setVm hvm h2
  exact ⟨c, k', i, f, a, cell, by rw [hvm.findClass]; exact h1, hi', h3, by rw [he]; exact h4, h5, h6, h7, h8, by rw [he]; exact h9, h10⟩
theorem vx_L.kept {C n d : String} {A : Nat → Prop} {U : State} {H H1 : Heap} (h : vx_L C n d A U H) (hq : ∀ a : Nat, a < H.size → ¬ A a → H1[a]? = H[a]?) : vx_L C n d A U H1 := by
  obtain ⟨c, k, i, f, a, cell, h1, h2, h3, h4, h5, h6, h7, h8, h9, h10⟩ := h
  exact ⟨c, k, i, f, a, cell, h1, h2, h3, h4, by rw [hq a (Array.getElem?_eq_some_iff.mp h5).1 h10]; exact h5, h6, h7, h8, h9, h10⟩
theorem vx_L.narrow {C n d : String} {A B : Nat → Prop} {U : State} {H : Heap} (h : vx_L C n d A U H) (hAB : ∀ q, B q → A q) : vx_L C n d B U H := by
  obtain ⟨c, k, i, f, a, cell, h1, h2, h3, h4, h5, h6, h7, h8, h9, h10⟩ := h
  exact ⟨c, k, i, f, a, cell, h1, h2, h3, h4, h5, h6, h7, h8, h9, fun z => h10 (hAB _ z)⟩
theorem vx_L.word {C n d : String} {A : Nat → Prop} {s : State} {args : Array Value} (h : vx_L C n d A s s.heap) : (Cond.laysStatic C n d).before args s = true := by
  obtain ⟨c, k, i, f, a, cell, h1, h2, h3, h4, h5, h6, h7, h8, h9, -⟩ := h
  show (Cond.laysStatic C n d).holds args s none s [] = true
  exact Cond.laysStatic_of h1 h2 h3 h4 h5 h6 h7 h8 h9
/-- .. and what it holds: null or some reference -/
def vx_Zq (C n d : String) (A : Nat → Prop) (U : State) (H : Heap) : Prop := va_Zq C n d A U H ∧ vx_L C n d A U H
theorem vx_Zq.moved {C n d : String} {A : Nat → Prop} {u U : State} {H : Heap} (hvm : u.vm.Alike U.vm) (h : vx_Zq C n d A u H) : vx_Zq C n d A U H := ⟨va_Zq.moved hvm h.1, vx_L.moved hvm h.2⟩
theorem vx_Zq.kept {C n d : String} {A : Nat → Prop} {U : State} {H H1 : Heap} (h : vx_Zq C n d A U H) (hq : ∀ a : Nat, a < H.size → ¬ A a → H1[a]? = H[a]?) : vx_Zq C n d A U H1 := ⟨va_Zq.kept h.1 hq, vx_L.kept h.2 hq⟩
theorem vx_Zq.narrow {C n d : String} {A B : Nat → Prop} {U : State} {H : Heap} (h : vx_Zq C n d A U H) (hAB : ∀ q, B q → A q) : vx_Zq C n d B U H := ⟨va_Zq.narrow h.1 hAB, vx_L.narrow h.2 hAB⟩
theorem vx_Zqof {args : Array Value} {s : State} {C n d : String} {A : Nat → Prop} (hl : (Cond.laysStatic C n d).before args s = true) (hini : (Cond.initialized C).before args s = true) (h : (Cond.isRef (.static C n d)).before args s = true) (hA : ∀ a : Nat, a < s.heap.size → ¬ A a) : vx_Zq C n d A s s.heap := by
  refine ⟨va_Zqof hl hini h hA, ?_⟩
  obtain ⟨c, k, i, f, a, cell, h1, h2, h3, h4, h5, h6, h7, h8, h9⟩ := Cond.laysStatic_spec hl
  exact ⟨c, k, i, f, a, cell, h1, h2, h3, h4, h5, h6, h7, h8, h9, hA a (Array.getElem?_eq_some_iff.mp h5).1⟩
theorem vx_isRef {C n d : String} {v : Value} {A : Nat → Prop} {s : State} {args : Array Value} (h : va_Z C n d v A s s.heap) (hv : v.isRef = true) : (Cond.isRef (.static C n d)).before args s = true := by
  obtain ⟨cf, kf, fi, f, a, cell, h1, h2, h3, h4, h5, h6, h7, -⟩ := h
  have he : (Term.static C n d).eval args s none [] s = some v := by
    simp [Term.eval, State.fieldNamed?, h1, h2, h4, h5, h6, h7]
  simp only [Cond.before, Cond.holds, Cond.value, he]
  cases v <;> simp_all [Value.isRef]
theorem vx_isRefq {C n d : String} {A : Nat → Prop} {s : State} {args : Array Value} (h : va_Zq C n d A s s.heap) : (Cond.isRef (.static C n d)).before args s = true := by
  rcases h with h | ⟨t, h⟩
  · exact vx_isRef h rfl
  · exact vx_isRef h rfl
/-- the same frame, seen from here: as if the method were called anew in this heap -/
theorem vx_rebase {T : State} (X : Stand p l e R s m args below meth c T locs cells slots) {R' : Room} (hf : R'.frames ≤ R.frames) (hl : R'.locals ≤ R.locals) (hc : cells + R'.cells ≤ R.cells) (hs : slots + R'.slots ≤ R.slots) :
    Stand p l e R' ((T.setVm s.vm).setFrames (.invoking m args :: below)) m args below meth c T [] 0 0 := by
  have htop : (T.setVm s.vm).topJava?.isSome := X.here.top
  have hF : ((T.setVm s.vm).setFrames (.invoking m args :: below)).frames = .invoking m args :: below := State.frames_setFrames _ (State.cur_lt_of_top htop)
  obtain ⟨g₀, hg0⟩ := Option.isSome_iff_exists.mp htop
  obtain ⟨r, hr⟩ := State.topJava?_eq_some.mp hg0
  have hl9 : e.platform.stackLimits (T.setVm s.vm).me = e.platform.stackLimits s.me := X.limits
  have hb9 : (T.setVm s.vm).me.stackBytes = s.me.stackBytes := X.bytes
  refine ⟨X.admits, X.cas, X.clock, hF, ?_, X.hears, X.method, X.code, X.here, X.tail, X.warmed, ?_, ?_, ?_⟩
  · have h := X.room
    have hU : ((T.setVm s.vm).setFrames (.invoking m args :: below)).localsInUse = s.localsInUse := by
      rw [State.localsInUse_invoking hF (meth := meth) (c := c) X.method X.code, State.localsInUse_invoking X.frames X.method X.code]
    simp only [State.hasRoom, Bool.and_eq_true, decide_eq_true_eq] at h ⊢
    obtain ⟨⟨⟨⟨h1, h2, h3, h4, h5, h6⟩, h7⟩, h8⟩, h9⟩ := h
    rw [X.frames, List.length_cons] at h2 h3
    have q1 := X.heapSize
    have q2 := X.used
    simp only [hF, hU, List.length_cons, State.stackLimits_setFrames, State.stackBytes_setFrames, hl9, hb9]
    refine ⟨⟨⟨⟨by omega, by omega, by omega, by omega, by omega, h6⟩, ?_⟩, ?_⟩, X.book⟩
    · show T.heap.size + R'.cells ≤ e.platform.maxCells
      omega
    · show T.slotsUsed + R'.slots ≤ e.platform.maxSlots
      omega
  · rw [State.stackLimits_setFrames]; rfl
  · rw [State.stackBytes_setFrames]; rfl
  · refine ⟨?_, Nat.le_refl _, Nat.le_refl _, ?_, ?_, fun a c9 h9 => ⟨c9, h9, rfl, rfl, fun _ _ => rfl⟩⟩
    · obtain ⟨t, ht, -⟩ := State.frames_cons hr
      show T.setVm s.vm = { ((T.setVm s.vm).setFrames (.invoking m args :: below)).setFrames (T.setVm s.vm).frames with heap := T.heap, slotsUsed := T.slotsUsed }
      rw [State.setFrames_setFrames, State.setFrames_self ht]
      rfl
    · show T.slotsUsed = T.slotsUsed + ((T.heap.toList.drop T.heap.size).map (·.slots.size)).sum
      rw [List.drop_eq_nil_of_le (Nat.le_of_eq Array.length_toList)]
      rfl
    · show ((T.heap.toList.drop T.heap.size).map (·.slots.size)).sum ≤ 0
      rw [List.drop_eq_nil_of_le (Nat.le_of_eq Array.length_toList)]
      exact Nat.le_refl _
/-- 'throw new E()': new; dup; invokespecial; athrow -/
theorem vx_throw0 {cc : ByteArray} {pc : Nat} (hexec : p.tables.exec = Jvm.exec) (hb : c.code = cc) (hl : l.stackTraces = false) {own cls : String} {names : List String} {ik ic mc ms : Nat} {A : Nat → Prop}
    (hown : s.vm.findClass own = some m.cls) (hcls : Bundle.fit cls = true) (hnames : ∀ n ∈ names, Bundle.fit n = true)
    (hk : (Cond.classLink own ik cls).before args s = true) (hini : (Cond.initialized cls).before args s = true) (hat : ∀ w ∈ vx_at0 own ic cls names, w.before args s = true)
    (hgood : ∀ w ∈ Cond.classLink own ik cls :: Cond.initialized cls :: vx_at0 own ic cls names, vx_ot w = true)
    (hU : vx_Zq Bundle.tN "UNASSIGNED_STACK" Bundle.steD A s s.heap) (hN : vx_Zq Bundle.tN "SUPPRESSED_SENTINEL" Bundle.listD A s s.heap) (hS : va_S A s.heap H locs) (hsize : ls.size = c.maxLocals)
    (d0 : decode cc pc = .ok (.new ik, 3)) (d3 : decode cc (pc + 3) = .ok (.dup, 1)) (d4 : decode cc (pc + 4) = .ok (.invokespecial ic, 3)) (d7 : decode cc (pc + 7) = .ok (.athrow, 1))
    (hout : ∀ x ∈ c.exceptionTable.toList, covers x (pc + 7) = false)
    (hRframes : names.length + 3 < R.frames) (hRlocals : (rest.map fun v => v.category).sum + (13 * (names.length + 1) + 42) ≤ R.locals) (hRcells : cells + 1 ≤ R.cells) (hRslots : slots + 6 ≤ R.slots) (hlocks : meth.locks = false)
    (hx : ∀ t : State, s.vm.Alike t.vm → H.size ≤ t.heap.size → (∀ q : Nat, q < H.size → t.heap[q]? = H[q]?) → XC cls s t)
    (hf : ∀ z ∈ locs, free z.base) (hc : cells + 1 ≤ mc) (hs : slots + 6 ≤ ms) :
    W p l e R s m args below meth c H locs cells slots (vx_MQ below Qc XC args s mc ms free) (F0 m pc ls rest) := by
  intro T hT X
  have htr : e.platform.stackTraces = false := (show e.platform.stackTraces = l.stackTraces by rw [X.admits.platform]).trans hl
  have Y := vx_rebase X (R' := { frames := R.frames, locals := R.locals, cells := 1, slots := 6 }) (Nat.le_refl _) (Nat.le_refl _) hRcells hRslots
  obtain ⟨s', hA⟩ : ∃ z, z = (T.setVm s.vm).setFrames (.invoking m args :: below) := ⟨_, rfl⟩
  rw [← hA] at Y
  have hvm : s'.vm = s.vm := by rw [hA]; rfl
  have hhp : s'.heap = H := by rw [hA]; exact hT
  have hW0 : s.WarmedH s'.vm := by rw [hvm]; exact State.WarmedH.refl s
  have hat' : ∀ w ∈ vx_at0 own ic cls names, w.before args s' = true := fun w hw => vx_ot_at hW0 hvm.symm (hgood w (List.mem_cons_of_mem _ (List.mem_cons_of_mem _ hw))) (hat w hw)
  have hk' : (Cond.classLink own ik cls).before args s' = true := vx_ot_at hW0 hvm.symm (hgood _ List.mem_cons_self) hk
  have hini' : (Cond.initialized cls).before args s' = true := vx_ot_at hW0 hvm.symm (hgood _ (List.mem_cons_of_mem _ List.mem_cons_self)) hini
  have hU' : vx_Zq Bundle.tN "UNASSIGNED_STACK" Bundle.steD A s' s'.heap := by rw [hhp]; exact vx_Zq.moved hW0.alike (hU.kept hS.2.1)
  have hN' : vx_Zq Bundle.tN "SUPPRESSED_SENTINEL" Bundle.listD A s' s'.heap := by rw [hhp]; exact vx_Zq.moved hW0.alike (hN.kept hS.2.1)
  have h : ∀ w ∈ Bundle.ownAtoms0 own ic cls names, w.before args s' = true := vx_own hat' (vx_isRefq hU'.1) (vx_isRefq hN'.1) hU'.2.word hN'.2.word
  have hown' : s'.vm.findClass own = some m.cls := by rw [hvm]; exact hown
  have hins : (Cond.instantiable cls 6).before args s' = true := h _ (by simp [Bundle.ownAtoms0])
  obtain ⟨vm₁, cX, kX, hfX, hkX, -, -, X₁, st1⟩ := Y.newCold hexec (own := own) (C := cls) (index := ik) (n := 6) hown' hk' hins hini'
    (g := F0 m pc ls rest) rfl (by rw [hb]; exact d0) (Nat.le_refl _) (Nat.le_refl _)
  generalize hT1 : (T.setVm vm₁).pushCell { cls := cX, slots := kX.instanceTypes.map defaultValue, vm := .none } = T1 at X₁ st1
  have hcat : (Value.ref T.heap.size).category = 1 := rfl
  have hcellA : T1.heap[T.heap.size]? = some (freshCell cX kX) := by rw [← hT1]; exact State.heap_pushCell_size _ _
  have d3' : decode c.code (pc + 3) = .ok (.dup, 1) := by rw [hb]; exact d3
  obtain ⟨U, hsteps, hrun, hend, hW, hsame, ce, hce, hO⟩ := X₁.ctorThrow0 hexec htr (own := own) (cls := cls) (names := names) (ic := ic) hown' hcls hnames h (fun x hx => nomatch hx) hfX hkX hcellA (by rw [hhp, hT]; exact Nat.le_refl _)
    (g := { method := m, pc := pc + 4, locals := ls, stack := .ref T.heap.size :: .ref T.heap.size :: rest, locked := none }) rfl hsize rfl rfl (rest := rest) rfl
    (by rw [hb]; exact d4) (by rw [hb]; exact d7) hout hRframes (by simp only [List.map_cons, List.sum_cons, hcat]; omega) hlocks
  obtain ⟨f1, f2⟩ := vx_frame hsame
  rw [hhp] at f1 f2
  have hWs : s.WarmedH U.vm := State.WarmedH.trans hW0 hW
  have hcl : s.vm.findClass cls = some ce.cls := by
    have h9 := hO.cls
    rw [hvm] at h9
    exact h9
  have hall : s.sameButNew ({ U with vm := s.vm } : State) locs mc ms := by
    subst hA
    obtain ⟨e1, e2⟩ := hsame
    rw [State.setFrames_setFrames] at e1
    have h2 : (T.setVm s.vm).sameButNew ({ U with vm := s.vm } : State) [] (0 + 1) (0 + 6) := ⟨e1, e2⟩
    have h3 := X.same.trans h2
    rw [List.append_nil] at h3
    exact h3.mono hc hs
  refine ⟨U, ?_, .threw T.heap.size, hrun, hend, Or.inr ⟨T.heap.size, rfl, cls, ce, locs, hx U hWs.alike f1 (fun q hq => f2 q hq (fun z hz => nomatch hz)), hce, hO.vm, hcl, hWs, hall, hf⟩⟩
  refine st1 _ ?_
  show Steps p.tables e below (T1.setTop { method := m, pc := pc + 3, locals := ls, stack := .ref T.heap.size :: rest, locked := none }) _
  jvm_step X₁.here [X₁.here.top, hexec, d3', Value.category]
  exact hsteps
/-- 'throw new E("text")': new; dup; ldc; invokespecial; athrow -/
theorem vx_throwS {cc : ByteArray} {pc : Nat} (hexec : p.tables.exec = Jvm.exec) (hb : c.code = cc) (hl : l.stackTraces = false) {own cls text : String} {names : List String} {ik is ic mc ms sa : Nat} {A : Nat → Prop}
    (hown : s.vm.findClass own = some m.cls) (hcls : Bundle.fit cls = true) (hnames : ∀ n ∈ names, Bundle.fit n = true)
    (hk : (Cond.classLink own ik cls).before args s = true) (hini : (Cond.initialized cls).before args s = true) (hstr : vk_R own is text sa s) (hat : ∀ w ∈ vx_atS own ic cls names, w.before args s = true)
    (hgood : ∀ w ∈ Cond.classLink own ik cls :: Cond.initialized cls :: vx_atS own ic cls names, vx_ot w = true)
    (hU : vx_Zq Bundle.tN "UNASSIGNED_STACK" Bundle.steD A s s.heap) (hN : vx_Zq Bundle.tN "SUPPRESSED_SENTINEL" Bundle.listD A s s.heap) (hS : va_S A s.heap H locs) (hsize : ls.size = c.maxLocals)
    (d0 : decode cc pc = .ok (.new ik, 3)) (d3 : decode cc (pc + 3) = .ok (.dup, 1)) (d4 : decode cc (pc + 4) = .ok (.ldc is, 2)) (d6 : decode cc (pc + 6) = .ok (.invokespecial ic, 3)) (d9 : decode cc (pc + 9) = .ok (.athrow, 1))
    (hout : ∀ x ∈ c.exceptionTable.toList, covers x (pc + 9) = false)
    (hRframes : names.length + 3 < R.frames) (hRlocals : (rest.map fun v => v.category).sum + (13 * (names.length + 1) + 43) ≤ R.locals) (hRcells : cells + 1 ≤ R.cells) (hRslots : slots + 6 ≤ R.slots) (hlocks : meth.locks = false)
    (hx : ∀ t : State, s.vm.Alike t.vm → H.size ≤ t.heap.size → (∀ q : Nat, q < H.size → t.heap[q]? = H[q]?) → XC cls s t)
    (hf : ∀ z ∈ locs, free z.base) (hc : cells + 1 ≤ mc) (hs : slots + 6 ≤ ms) :
    W p l e R s m args below meth c H locs cells slots (vx_MQ below Qc XC args s mc ms free) (F0 m pc ls rest) := by
  intro T hT X
  have htr : e.platform.stackTraces = false := (show e.platform.stackTraces = l.stackTraces by rw [X.admits.platform]).trans hl
  have Y := vx_rebase X (R' := { frames := R.frames, locals := R.locals, cells := 1, slots := 6 }) (Nat.le_refl _) (Nat.le_refl _) hRcells hRslots
  obtain ⟨s', hA⟩ : ∃ z, z = (T.setVm s.vm).setFrames (.invoking m args :: below) := ⟨_, rfl⟩
  rw [← hA] at Y
  have hvm : s'.vm = s.vm := by rw [hA]; rfl
  have hhp : s'.heap = H := by rw [hA]; exact hT
  have hW0 : s.WarmedH s'.vm := by rw [hvm]; exact State.WarmedH.refl s
  have hat' : ∀ w ∈ vx_atS own ic cls names, w.before args s' = true := fun w hw => vx_ot_at hW0 hvm.symm (hgood w (List.mem_cons_of_mem _ (List.mem_cons_of_mem _ hw))) (hat w hw)
  have hk' : (Cond.classLink own ik cls).before args s' = true := vx_ot_at hW0 hvm.symm (hgood _ List.mem_cons_self) hk
  have hini' : (Cond.initialized cls).before args s' = true := vx_ot_at hW0 hvm.symm (hgood _ (List.mem_cons_of_mem _ List.mem_cons_self)) hini
  have hU' : vx_Zq Bundle.tN "UNASSIGNED_STACK" Bundle.steD A s' s'.heap := by rw [hhp]; exact vx_Zq.moved hW0.alike (hU.kept hS.2.1)
  have hN' : vx_Zq Bundle.tN "SUPPRESSED_SENTINEL" Bundle.listD A s' s'.heap := by rw [hhp]; exact vx_Zq.moved hW0.alike (hN.kept hS.2.1)
  have h : ∀ w ∈ Bundle.ownAtoms own ic cls names, w.before args s' = true := vx_own hat' (vx_isRefq hU'.1) (vx_isRefq hN'.1) hU'.2.word hN'.2.word
  have hown' : s'.vm.findClass own = some m.cls := by rw [hvm]; exact hown
  have hins : (Cond.instantiable cls 6).before args s' = true := h _ (by simp [Bundle.ownAtoms])
  obtain ⟨vm₁, cX, kX, hfX, hkX, -, -, X₁, st1⟩ := Y.newCold hexec (own := own) (C := cls) (index := ik) (n := 6) hown' hk' hins hini'
    (g := F0 m pc ls rest) rfl (by rw [hb]; exact d0) (Nat.le_refl _) (Nat.le_refl _)
  generalize hT1 : (T.setVm vm₁).pushCell { cls := cX, slots := kX.instanceTypes.map defaultValue, vm := .none } = T1 at X₁ st1
  have hcat : (Value.ref T.heap.size).category = 1 := rfl
  have hcellA : T1.heap[T.heap.size]? = some (freshCell cX kX) := by rw [← hT1]; exact State.heap_pushCell_size _ _
  have d3' : decode c.code (pc + 3) = .ok (.dup, 1) := by rw [hb]; exact d3
  have d4' : decode c.code (pc + 4) = .ok (.ldc is, 2) := by rw [hb]; exact d4
  have hstr' : vk_R own is text sa s' := vk_R.warm hW0 hstr
  obtain ⟨U, hsteps, hrun, hend, hW, hsame, ce, hce, hO⟩ := X₁.ctorThrowS hexec htr (own := own) (cls := cls) (names := names) (ic := ic) hown' hcls hnames h (fun x hx => nomatch hx) hfX hkX hcellA (by rw [hhp, hT]; exact Nat.le_refl _) (msg := .ref sa) rfl
    (g := { method := m, pc := pc + 6, locals := ls, stack := .ref sa :: .ref T.heap.size :: .ref T.heap.size :: rest, locked := none }) rfl hsize rfl rfl (rest := rest) rfl
    (by rw [hb]; exact d6) (by rw [hb]; exact d9) hout hRframes (by simp only [List.map_cons, List.sum_cons, hcat]; omega) hlocks
  obtain ⟨f1, f2⟩ := vx_frame hsame
  rw [hhp] at f1 f2
  have hWs : s.WarmedH U.vm := State.WarmedH.trans hW0 hW
  have hcl : s.vm.findClass cls = some ce.cls := by
    have h9 := hO.cls
    rw [hvm] at h9
    exact h9
  have hall : s.sameButNew ({ U with vm := s.vm } : State) locs mc ms := by
    subst hA
    obtain ⟨e1, e2⟩ := hsame
    rw [State.setFrames_setFrames] at e1
    have h2 : (T.setVm s.vm).sameButNew ({ U with vm := s.vm } : State) [] (0 + 1) (0 + 6) := ⟨e1, e2⟩
    have h3 := X.same.trans h2
    rw [List.append_nil] at h3
    exact h3.mono hc hs
  refine ⟨U, ?_, .threw T.heap.size, hrun, hend, Or.inr ⟨T.heap.size, rfl, cls, ce, locs, hx U hWs.alike f1 (fun q hq => f2 q hq (fun z hz => nomatch hz)), hce, hO.vm, hcl, hWs, hall, hf⟩⟩
  refine st1 _ ?_
  show Steps p.tables e below (T1.setTop { method := m, pc := pc + 3, locals := ls, stack := .ref T.heap.size :: rest, locked := none }) _
  jvm_step X₁.here [X₁.here.top, hexec, d3', Value.category]
  exact X₁.ldcString hexec (own := own) (text := text) (index := is) (a := sa) hown' hstr'.1 hstr'.2
    (g := { method := m, pc := pc + 4, locals := ls, stack := .ref T.heap.size :: .ref T.heap.size :: rest, locked := none }) rfl d4' _ hsteps
/-- 'throw new E("text")', the text by a wide index -/
theorem vx_throwSW {cc : ByteArray} {pc : Nat} (hexec : p.tables.exec = Jvm.exec) (hb : c.code = cc) (hl : l.stackTraces = false) {own cls text : String} {names : List String} {ik is ic mc ms sa : Nat} {A : Nat → Prop}
    (hown : s.vm.findClass own = some m.cls) (hcls : Bundle.fit cls = true) (hnames : ∀ n ∈ names, Bundle.fit n = true)
    (hk : (Cond.classLink own ik cls).before args s = true) (hini : (Cond.initialized cls).before args s = true) (hstr : vk_R own is text sa s) (hat : ∀ w ∈ vx_atS own ic cls names, w.before args s = true)
    (hgood : ∀ w ∈ Cond.classLink own ik cls :: Cond.initialized cls :: vx_atS own ic cls names, vx_ot w = true)
    (hU : vx_Zq Bundle.tN "UNASSIGNED_STACK" Bundle.steD A s s.heap) (hN : vx_Zq Bundle.tN "SUPPRESSED_SENTINEL" Bundle.listD A s s.heap) (hS : va_S A s.heap H locs) (hsize : ls.size = c.maxLocals)
    (d0 : decode cc pc = .ok (.new ik, 3)) (d3 : decode cc (pc + 3) = .ok (.dup, 1)) (d4 : decode cc (pc + 4) = .ok (.ldc_w is, 3)) (d7 : decode cc (pc + 7) = .ok (.invokespecial ic, 3)) (d10 : decode cc (pc + 10) = .ok (.athrow, 1))
    (hout : ∀ x ∈ c.exceptionTable.toList, covers x (pc + 10) = false)
    (hRframes : names.length + 3 < R.frames) (hRlocals : (rest.map fun v => v.category).sum + (13 * (names.length + 1) + 43) ≤ R.locals) (hRcells : cells + 1 ≤ R.cells) (hRslots : slots + 6 ≤ R.slots) (hlocks : meth.locks = false)
    (hx : ∀ t : State, s.vm.Alike t.vm → H.size ≤ t.heap.size → (∀ q : Nat, q < H.size → t.heap[q]? = H[q]?) → XC cls s t)
    (hf : ∀ z ∈ locs, free z.base) (hc : cells + 1 ≤ mc) (hs : slots + 6 ≤ ms) :
    W p l e R s m args below meth c H locs cells slots (vx_MQ below Qc XC args s mc ms free) (F0 m pc ls rest) := by
  intro T hT X
  have htr : e.platform.stackTraces = false := (show e.platform.stackTraces = l.stackTraces by rw [X.admits.platform]).trans hl
  have Y := vx_rebase X (R' := { frames := R.frames, locals := R.locals, cells := 1, slots := 6 }) (Nat.le_refl _) (Nat.le_refl _) hRcells hRslots
  obtain ⟨s', hA⟩ : ∃ z, z = (T.setVm s.vm).setFrames (.invoking m args :: below) := ⟨_, rfl⟩
  rw [← hA] at Y
  have hvm : s'.vm = s.vm := by rw [hA]; rfl
  have hhp : s'.heap = H := by rw [hA]; exact hT
  have hW0 : s.WarmedH s'.vm := by rw [hvm]; exact State.WarmedH.refl s
  have hat' : ∀ w ∈ vx_atS own ic cls names, w.before args s' = true := fun w hw => vx_ot_at hW0 hvm.symm (hgood w (List.mem_cons_of_mem _ (List.mem_cons_of_mem _ hw))) (hat w hw)
  have hk' : (Cond.classLink own ik cls).before args s' = true := vx_ot_at hW0 hvm.symm (hgood _ List.mem_cons_self) hk
  have hini' : (Cond.initialized cls).before args s' = true := vx_ot_at hW0 hvm.symm (hgood _ (List.mem_cons_of_mem _ List.mem_cons_self)) hini
  have hU' : vx_Zq Bundle.tN "UNASSIGNED_STACK" Bundle.steD A s' s'.heap := by rw [hhp]; exact vx_Zq.moved hW0.alike (hU.kept hS.2.1)
  have hN' : vx_Zq Bundle.tN "SUPPRESSED_SENTINEL" Bundle.listD A s' s'.heap := by rw [hhp]; exact vx_Zq.moved hW0.alike (hN.kept hS.2.1)
  have h : ∀ w ∈ Bundle.ownAtoms own ic cls names, w.before args s' = true := vx_own hat' (vx_isRefq hU'.1) (vx_isRefq hN'.1) hU'.2.word hN'.2.word
  have hown' : s'.vm.findClass own = some m.cls := by rw [hvm]; exact hown
  have hins : (Cond.instantiable cls 6).before args s' = true := h _ (by simp [Bundle.ownAtoms])
  obtain ⟨vm₁, cX, kX, hfX, hkX, -, -, X₁, st1⟩ := Y.newCold hexec (own := own) (C := cls) (index := ik) (n := 6) hown' hk' hins hini'
    (g := F0 m pc ls rest) rfl (by rw [hb]; exact d0) (Nat.le_refl _) (Nat.le_refl _)
  generalize hT1 : (T.setVm vm₁).pushCell { cls := cX, slots := kX.instanceTypes.map defaultValue, vm := .none } = T1 at X₁ st1
  have hcat : (Value.ref T.heap.size).category = 1 := rfl
  have hcellA : T1.heap[T.heap.size]? = some (freshCell cX kX) := by rw [← hT1]; exact State.heap_pushCell_size _ _
  have d3' : decode c.code (pc + 3) = .ok (.dup, 1) := by rw [hb]; exact d3
  have d4' : decode c.code (pc + 4) = .ok (.ldc_w is, 3) := by rw [hb]; exact d4
  have hstr' : vk_R own is text sa s' := vk_R.warm hW0 hstr
  obtain ⟨U, hsteps, hrun, hend, hW, hsame, ce, hce, hO⟩ := X₁.ctorThrowS hexec htr (own := own) (cls := cls) (names := names) (ic := ic) hown' hcls hnames h (fun x hx => nomatch hx) hfX hkX hcellA (by rw [hhp, hT]; exact Nat.le_refl _) (msg := .ref sa) rfl
    (g := { method := m, pc := pc + 7, locals := ls, stack := .ref sa :: .ref T.heap.size :: .ref T.heap.size :: rest, locked := none }) rfl hsize rfl rfl (rest := rest) rfl
    (by rw [hb]; exact d7) (by rw [hb]; exact d10) hout hRframes (by simp only [List.map_cons, List.sum_cons, hcat]; omega) hlocks
  obtain ⟨f1, f2⟩ := vx_frame hsame
  rw [hhp] at f1 f2
  have hWs : s.WarmedH U.vm := State.WarmedH.trans hW0 hW
  have hcl : s.vm.findClass cls = some ce.cls := by
    have h9 := hO.cls
    rw [hvm] at h9
    exact h9
  have hall : s.sameButNew ({ U with vm := s.vm } : State) locs mc ms := by
    subst hA
    obtain ⟨e1, e2⟩ := hsame
    rw [State.setFrames_setFrames] at e1
    have h2 : (T.setVm s.vm).sameButNew ({ U with vm := s.vm } : State) [] (0 + 1) (0 + 6) := ⟨e1, e2⟩
    have h3 := X.same.trans h2
    rw [List.append_nil] at h3
    exact h3.mono hc hs
  refine ⟨U, ?_, .threw T.heap.size, hrun, hend, Or.inr ⟨T.heap.size, rfl, cls, ce, locs, hx U hWs.alike f1 (fun q hq => f2 q hq (fun z hz => nomatch hz)), hce, hO.vm, hcl, hWs, hall, hf⟩⟩
  refine st1 _ ?_
  show Steps p.tables e below (T1.setTop { method := m, pc := pc + 3, locals := ls, stack := .ref T.heap.size :: rest, locked := none }) _
  jvm_step X₁.here [X₁.here.top, hexec, d3', Value.category]
  exact X₁.ldcStringW hexec (own := own) (text := text) (index := is) (a := sa) hown' hstr'.1 hstr'.2
    (g := { method := m, pc := pc + 4, locals := ls, stack := .ref T.heap.size :: .ref T.heap.size :: rest, locked := none }) rfl d4' _ hsteps
end Ends
section Bodies
variable {l : Launch}
theorem vx_ofW {y : MethodName} {ws ws' : List Cond} {rm : Room} {Pc : Array Value → State → Prop} {Qc : Array Value → State → Outcome → State → Prop} {XC : String → State → State → Prop} {mc ms : Nat} {free : Addr → Prop} {cc : ByteArray} {maxL : Nat} {ret : Option FieldType}
    (hy : plainName y.cls = true) (hw : ws = Cond.code y cc maxL ret :: ws')
    (body : ∀ p e s m args below meth c s₁, BodyLoose p l y (headSpec ws rm) cc maxL ret e s m args below meth c s₁ → c.maxLocals = maxL → (∀ x ∈ c.exceptionTable.toList, False) → Pc args s →
      W p l e (headSpec ws rm).room s m args below meth c s.heap [] 0 0 (vx_MQ below Qc XC args s mc ms free) (entryFrame m args maxL)) : vx_Met l y ws rm Pc Qc XC mc ms free := by
  refine MetFree.of_bodyS (code := cc) (maxLocals := maxL) (ret := ret) hy ?_ ?_
  · intro args s m h hn
    obtain ⟨meth, c, h1, h2, h3, h4, h5, h6, -, -⟩ := Cond.code_spec hn (atoms_spec (ws := ws) h _ (by rw [hw]; exact List.mem_cons_self))
    exact ⟨meth, c, h1, h2, h3, h4, h5, h6⟩
  · intro p e s m args below meth c s₁ B hml hP _
    have hh0 : s₁.heap = s.heap := by rw [B.state]; rfl
    have ht : ∀ x ∈ c.exceptionTable.toList, False := by
      obtain ⟨meth9, c9, h1, h2, -, -, -, -, h7, -⟩ := Cond.code_spec B.named (atoms_spec (ws := ws) B.pre _ (by rw [hw]; exact List.mem_cons_self))
      cases Option.some.inj (h1.symm.trans B.method)
      cases Option.some.inj (h2.symm.trans (Stand.of_body B).code)
      intro x hx
      rw [Array.isEmpty_iff.mp h7] at hx
      cases hx
    obtain ⟨t, a1, o, b1, b2, b3⟩ := body p e s m args below meth c s₁ B hml ht hP s₁ hh0 (Stand.of_body B)
    exact ⟨t, o, a1, b1, b2, b3⟩
/-- the table of a body with handlers -/
theorem vx_table {p : Program} {x y : MethodName} {S : Spec} {cc bytes : ByteArray} {maxL maxL' : Nat} {ret ret' : Option FieldType} {e : Env} {s s₁ : State} {m : MethodId} {args : Array Value} {below : List Frame} {meth : Method} {c : Code} {hh : List (Nat × Nat × Nat × Nat)}
    (B : BodyLoose p l y S cc maxL ret e s m args below meth c s₁) (h : (Cond.codeWith y bytes maxL' ret' hh).before args s = true) : c.exceptionTable.toList = tableOf hh := by
  obtain ⟨m9, meth9, c9, hn9, h1, h2, -, -, h6, -⟩ := Cond.codeWith_spec h
  cases Option.some.inj (hn9.symm.trans B.named)
  cases Option.some.inj (h1.symm.trans B.method)
  cases Option.some.inj (h2.symm.trans (Stand.of_body B).code)
  rw [← h6, table_eq]
end Bodies
end VXA
/-! ===== END ===== -/
/-! ===== BEGIN a static call of a method with an exception table ===== -/
section VXS
variable {p : Program} {l : Launch} {e : Env} {R : Room} {s : State} {m : MethodId} {args : Array Value} {below : List Frame} {meth : Method} {c : Code} {T : State} {H : Heap} {locs : List Loc} {cells slots : Nat}
abbrev vx_CSW (R : Room) (s : State) (args : Array Value) (own : String) (index : Nat) (y : MethodName) (bytes : ByteArray) (maxL : Nat) (ret : Option FieldType) (hh : List (Nat × Nat × Nat × Nat)) (ws : List Cond) (rm : Room) (mc ms n : Nat) : Prop :=
  (rm.cells = mc ∧ rm.slots = ms ∧ rm.frames + 1 ≤ R.frames ∧ 8 + (maxL + 11) + rm.locals ≤ R.locals ∧ (∀ w ∈ ws, ∀ (a' : Array Value) (U : State), s.WarmedH U.vm → w.before a' U = true) ∧ Cond.codeWith y bytes maxL ret hh ∈ ws) ∧
  (Cond.codeWith y bytes maxL ret hh).before args s = true ∧ (Cond.initialized y.cls).before args s = true ∧ (y.cls ≠ "java/lang/invoke/MethodHandle" ∧ y.cls ≠ "java/lang/invoke/VarHandle") ∧
  (∀ sig, parseMethodDescriptor y.desc = some sig → n = sig.parameters.length) ∧ (Cond.methodLink own index y).before args s = true ∧ (Cond.static y).before args s = true
theorem vx_cwSW {own : String} {index maxL mc ms : Nat} {y : MethodName} {bytes : ByteArray} {ret : Option FieldType} {hh : List (Nat × Nat × Nat × Nat)} {Ts ws ws' : List Cond} {rm : Room} (n : Nat) (ht : ∀ w ∈ Ts, w.before args s = true) (hT : GoodIn Ts (va_wsS own index y ws)) (hw : ws = Cond.codeWith y bytes maxL ret hh :: ws') (hrc : rm.cells = mc) (hrs : rm.slots = ms)
    (hd : y.cls ≠ "java/lang/invoke/MethodHandle" ∧ y.cls ≠ "java/lang/invoke/VarHandle" ∧ (parseMethodDescriptor y.desc).map (fun d => d.parameters.length) = some n) (hR : rm.frames + 1 ≤ R.frames ∧ 8 + (maxL + 11) + rm.locals ≤ R.locals) :
    vx_CSW R s args own index y bytes maxL ret hh ws rm mc ms n := by
  have ok : ∀ w ∈ va_wsS own index y ws, w.before args s = true := fun w h => ht w (hT w h).1
  have hG : GoodIn Ts ws := fun w h => hT w (by unfold va_wsS; exact List.mem_append_right _ h)
  have hc : Cond.codeWith y bytes maxL ret hh ∈ ws := by rw [hw]; exact List.mem_cons_self
  refine ⟨⟨hrc, hrs, hR.1, hR.2, pay_in ht hG, hc⟩, ht _ (hG _ hc).1, ok _ (by simp [va_wsS]), ⟨hd.1, hd.2.1⟩, fun sig h => ?_, ok _ (by simp [va_wsS]), ok _ (by simp [va_wsS])⟩
  have h2 := hd.2.2
  rw [h] at h2
  exact (Option.some.inj h2).symm
theorem vx_callSW (X : Stand p l e R s m args below meth c T locs cells slots) (hexec : p.tables.exec = Jvm.exec) {own : String} {index : Nat} {y : MethodName} {bytes : ByteArray} {maxL : Nat} {ret : Option FieldType} {hh : List (Nat × Nat × Nat × Nat)}
    (hown : s.vm.findClass own = some m.cls) (hlink : (Cond.methodLink own index y).before args s = true) (hstat : (Cond.static y).before args s = true) (hinit : (Cond.initialized y.cls).before args s = true)
    (hcode : (Cond.codeWith y bytes maxL ret hh).before args s = true) (hy : y.cls ≠ "java/lang/invoke/MethodHandle" ∧ y.cls ≠ "java/lang/invoke/VarHandle")
    {W9 : Nat} {Pre : Pt → Array Value → Prop} {Post : Pt → Array Value → Option Value → Pt → Prop} (hK : Back l R p e below s args y 3 W9 Pre Post)
    {g : JFrame} (hg : g.method = m) (hsize : g.locals.size = c.maxLocals) {argsL rest : List Value} (hlen : ∀ sig, parseMethodDescriptor y.desc = some sig → argsL.length = sig.parameters.length)
    (hstack : g.stack = argsL.reverse ++ rest) (hW : 2 * g.monitorRoom + (rest.map fun v => v.category).sum ≤ W9) (hdg : decode c.code g.pc = .ok (.invokestatic index, 3))
    (hpre : ∀ vm₁, s.WarmedH vm₁ → Pre ⟨T.setVm vm₁, locs, cells, slots⟩ argsL.toArray) :
    ∃ (v : Option Value) (vm₁ : Vm) (B : Pt), s.WarmedH vm₁ ∧ Stand p l e R s m args below meth c B.U B.locs B.cells B.slots ∧ Post ⟨T.setVm vm₁, locs, cells, slots⟩ argsL.toArray v B ∧
      ∀ target, Steps p.tables e below (B.U.setTop { g with pc := g.pc + 3, stack := v.toList ++ rest }) target → Steps p.tables e below (T.setTop g) target := by
  obtain ⟨mk, methM, cM, hnamed, hmethM, -, -, -, -, -, -, hsigM⟩ := Cond.codeWith_spec hcode
  have hstatic : methM.isStatic = true := Cond.static_spec hnamed hmethM hstat
  obtain ⟨kP, hkP, -⟩ := className_of_methodNamed hnamed
  have hinitP : kP.init = .initialized := Cond.initialized_spec (findClass_of_methodNamed hnamed) hkP hinit
  obtain ⟨vm₁, X₁, hstep₁⟩ := X.invokestatic hexec hown hlink hnamed hmethM hstatic hkP hinitP hy (g := g) hg (argsL := argsL) (rest := rest) (hlen _ hsigM) hstack hdg
  obtain ⟨v, B, X', hpost, hsteps⟩ := hK m meth c ⟨T.setVm vm₁, locs, cells, slots⟩ { g with stack := rest } (.invokestatic index) mk argsL.toArray X₁ hg hsize hdg hW (X₁.named hnamed) (hpre vm₁ X₁.warmed)
  exact ⟨v, vm₁, B, X₁.warmed, X', hpost, fun target h => hstep₁ _ fun acts => by rw [doInvoke_state]; exact hsteps.trans h⟩
theorem vx_runSW {y : MethodName} {bytes cc : ByteArray} {maxL nL mc ms n index : Nat} {ret : Option FieldType} {hh : List (Nat × Nat × Nat × Nat)} {ws : List Cond} {rm : Room} {Pc : Array Value → State → Prop} {Qc : Array Value → State → Outcome → State → Prop} {free : Addr → Prop} {Ts : List Cond} {own : String} {As rest : List Value} {g : JFrame}
    (S : CallFix p m c cc nL s args Ts own) (hM : Met l y ws rm Pc Qc mc ms free) (cw : vx_CSW R s args own index y bytes maxL ret hh ws rm mc ms n) (hp : PreS s H Pc As)
    (hg : g.method = m) (hn : As.length = n) (hsize : g.locals.size = nL) (hstack : g.stack = As.reverse ++ rest) (hW : 2 * g.monitorRoom + (rest.map fun v => v.category).sum ≤ 8) (hdg : decode cc g.pc = .ok (.invokestatic index, 3)) (hf : cells + mc ≤ R.cells ∧ slots + ms ≤ R.slots) :
    va_Run p l e R s m args below meth c H locs cells slots mc ms g rest (Qc As.toArray) (free) := by
  obtain ⟨⟨hrc, hrs, hfr, hlo, hws, hcw⟩, hcode, hini, hy, hlen, hl, hstt⟩ := cw
  have hK : Back l R p e below s args y 3 8 (PreOf R mc ms Pc) (PostOf Qc mc ms free) := va_backW (hh := hh) (bytes := bytes) (maxL := maxL) (ret := ret) hM hp.1 hrc hrs hfr hlo hws hcw (fun a' U hW => word_at hW (Or.inl (by first | rfl | simp [Cond.onTables, Cond.keeps, Cond.steady])) hini)
  obtain ⟨hx, hb, hml, ho, -⟩ := S
  intro T hT X
  obtain ⟨v, vm₁, ⟨U', l2, c2, s2⟩, hW₁, X', ⟨g', mk, t, L, e1, e2, hq, h1, hL, h2, h3⟩, st⟩ := vx_callSW X hx (hh := hh) (bytes := bytes) (maxL := maxL) (ret := ret) ho hl hstt hini hcode hy hK hg (hsize.trans hml.symm) (argsL := As) (rest := rest) (fun sig h => hn.trans (hlen sig h)) hstack hW (by rw [hb]; exact hdg)
    (fun vm₁ hW₁ => ⟨hf.1, hf.2, hp.2 (T.setVm vm₁) hT hW₁⟩)
  dsimp only [Pt.U, Pt.locs, Pt.cells, Pt.slots] at X' e1 e2 h1 h2 h3 st
  subst h1; subst h2; subst h3
  exact ⟨v, (T.setVm vm₁).calling g' mk As.toArray, t, U', L, hT, X', hL, e1, e2, hq, st⟩
/-- not caught here, past rows that name other classes: it goes on to the caller -/
theorem vx_outP {p : Program} {l : Launch} {e : Env} {R : Room} {s : State} {m : MethodId} {args : Array Value} {below : List Frame} {meth : Method} {c : Code} {H : Heap} {locs : List Loc} {cells slots : Nat} {free : Addr → Prop} {ls : Array Slot} {rest : List Value} {Qc : Array Value → State → Outcome → State → Prop} {XC : String → State → State → Prop}
    {pc : Nat} {own E : String} {ce : Cell} {q : Addr} {mc ms : Nat} (hown : s.vm.findClass own = some m.cls) (hlocks : meth.locks = false)
    (hpass : ∀ z ∈ c.exceptionTable.toList, covers z pc = false ∨ (z.catchType ≠ 0 ∧ ∃ nm : String, (Cond.classLink own z.catchType nm).before args s = true ∧ va_Nc E nm s)) (hcell : H[q]? = some ce) (hv : ce.vm = .none) (hcl : s.vm.findClass E = some ce.cls)
    (hx : ∀ t : State, t.heap = H → s.vm.Alike t.vm → XC E s t) (hf : ∀ z ∈ locs, free z.base) (hc : cells ≤ mc) (hs : slots ≤ ms) :
    vx_W p l e R s m args below meth c H locs cells slots (vx_MQ below Qc XC args s mc ms free) (F0 m pc ls rest) q := by
  intro T hT X
  have hpl : e.platform.magicAccessors = ({} : Platform).magicAccessors := by rw [X.admits.platform]
  obtain ⟨vm', hW', X', st⟩ := X.outThrough hlocks q (g := F0 m pc ls rest) rfl rfl rfl (cell := ce) (by rw [hT]; exact hcell) (by rw [hv]; rfl)
    (by obtain ⟨k9, h9, -⟩ := Vm.findClass_spec hcl; exact ⟨k9, h9⟩) (fun z hz => by
      rcases hpass z hz with h | ⟨hz0, nm, hl1, hn1⟩
      · exact Or.inl h
      · obtain ⟨c6, hc6, hcl6⟩ := Cond.classLink_spec hown hl1 e.platform hpl
        obtain ⟨a8, b8, h1, h2, h3⟩ := hn1
        cases Option.some.inj (h1.symm.trans hcl)
        cases Option.some.inj (h2.symm.trans hc6)
        exact Or.inr ⟨hz0, _, hcl6, h3⟩)
  obtain ⟨g₀, hfr⟩ := X'.frames_eq
  have hcell9 : ((T.setVm vm').setFrames (.throwing q :: below)).heap[q]? = some ce := by
    show T.heap[q]? = some ce
    rw [hT]; exact hcell
  have hend : Ended ((T.setVm vm').setFrames (.throwing q :: below)) below (.threw q) := State.frames_setFrames _ (State.cur_lt_of_frames hfr)
  refine ⟨(T.setVm vm').setFrames (.throwing q :: below), ?_, .threw q, X'.here.running, hend, Or.inr ⟨q, rfl, E, ce, locs, hx _ hT (X'.ends _).1.alike, hcell9, hv, hcl, (X'.ends _).1, (X'.ends _).2.mono hc hs, hf⟩⟩
  rw [X.pushThrowing_eq]
  exact st
/-- a thing of a world lies in the heap -/
theorem vx_lt {D : va_G} {cl : List vw_C} {ws : va_W} {H1 : Heap} (h : va_P D cl ws H1) {k : Nat} {q : Nat × va_E} (hk : ws[k]? = some q) : q.1 < H1.size := (h k q hk).lt
end VXS
/-! ===== END ===== -/
/-! ===== BEGIN methods with a table of their own: called by a name, returning or throwing ===== -/
section VXH
/-! vx_backW, vx_callVX, vx_callSX, vx_callVW, vx_runVW, vx_runVX, vx_runSX, vx_ofWH follow the same proofs as their sisters above (Free/Laws.lean, Shelf42/LK1.lean); vx_outP calls Shelf42/NT130.lean (outThrough). -/
section
variable {l : Launch} {R : Room} {p : Program} {e : Env} {below : List Frame} {s : State} {sargs : Array Value} {y : MethodName} {len W9 : Nat}
theorem vx_backW {ws : List Cond} {rm : Room} {Pc : Array Value → State → Prop} {Qc : Array Value → State → Outcome → State → Prop} {XC : String → State → State → Prop} {mc ms : Nat} {free : Addr → Prop} {bytes : ByteArray} {maxL : Nat} {ret : Option FieldType} {hh : List (Nat × Nat × Nat × Nat)}
    (hM : vx_Met l y ws rm Pc Qc XC mc ms free) (hblind : FrameBlind Pc) (hrc : rm.cells = mc) (hrs : rm.slots = ms)
    (hframes : rm.frames + 1 ≤ R.frames) (hlocals : W9 + (maxL + 11) + rm.locals ≤ R.locals)
    (hws : ∀ w ∈ ws, ∀ a' U, s.WarmedH U.vm → w.before a' U = true) (hcode : Cond.codeWith y bytes maxL ret hh ∈ ws) (hinit : ∀ a' U, s.WarmedH U.vm → (Cond.initialized y.cls).before a' U = true) :
    vx_Back l R p e below s sargs y len W9 (PreOf R mc ms Pc) (PostOf Qc mc ms free) (vx_Post XC mc ms free) := by
  intro m meth c A g ig mk a X hg hsize hdg hW hn hp
  have h1 : (headSpec ws rm).pre.before a A.U = true := atoms_intro fun w hw => hws w hw _ _ X.warmed
  have h2 : (Cond.codeWith y bytes maxL ret hh).before a A.U = true := hws _ hcode _ _ X.warmed
  have h3 : (Cond.initialized y.cls).before a A.U = true := hinit _ _ X.warmed
  have h4 : A.cells + (headSpec ws rm).room.cells ≤ R.cells := by rw [show (headSpec ws rm).room.cells = mc from hrc]; exact hp.1
  have h5 : A.slots + (headSpec ws rm).room.slots ≤ R.slots := by rw [show (headSpec ws rm).room.slots = ms from hrs]; exact hp.2.1
  have hPc : Pc a (A.U.calling g mk a) := hblind _ _ _ _ hp.2.2
  obtain ⟨U, Ls, c0, s0⟩ := A
  dsimp only [Pt.U, Pt.locs, Pt.cells, Pt.slots] at h1 h2 h3 h4 h5 X hn hPc ⊢
  obtain ⟨m9, methY, cY, hn9, hmY, hcY, -, hlY, -⟩ := Cond.codeWith_spec h2
  cases Option.some.inj (hn9.symm.trans hn)
  obtain ⟨kY, hkY, -⟩ := className_of_methodNamed hn
  have hinitY : kY.init = .initialized := Cond.initialized_spec (findClass_of_methodNamed hn) hkY h3
  have h : At U g.method c below := by rw [hg]; exact X.here
  have hlocals9 : W9 + (maxL + 11) + (headSpec ws rm).room.locals ≤ R.locals := hlocals
  have happ : (headSpec ws rm).appliesLoose y e.platform (U.calling g mk a) = true :=
    Spec.appliesLoose_calling (g := g) h hdg hn hkY hinitY
      (X.room_calling (g := g) (R' := (headSpec ws rm).room) hsize hmY hcY hframes (by rw [hlY]; omega) h4 h5) h1
  obtain ⟨mid, hmid⟩ := h.above
  have hfr : (U.setTop g).frames = (.java g :: mid) ++ below := by rw [State.frames_setTop' g h.top, hmid]; rfl
  obtain ⟨o, s₂, hsteps, -, hend, hq⟩ := Steps.callFree hM p X.admits X.cas X.clock (acts := []) hfr happ hPc trivial
  have hq' : vx_Q Qc XC mc ms free a (U.calling g mk a) o s₂ := hq
  rw [State.frames_setTop' g h.top] at hend
  obtain ⟨g₀, hg0⟩ := Option.isSome_iff_exists.mp h.top
  obtain ⟨r, hr⟩ := State.topJava?_eq_some.mp hg0
  have hr' : (({ U with heap := s₂.heap, slotsUsed := s₂.slotsUsed } : State).setVm s₂.vm).frames = .java g₀ :: r := hr
  rcases hq' with ⟨hqc, L, hfe, hL⟩ | ⟨q, rfl, E, ce, L, hx, hce, hcv, hcl, hW₂, hsm, hL⟩
  · obtain ⟨⟨v, rfl⟩, hW₂, e2, q2, q3, q4, q5, q6⟩ := id hfe
    have e3 : s₂ = ({ (U.calling g mk a).setFrames s₂.frames with heap := s₂.heap, slotsUsed := s₂.slotsUsed } : State).setVm s₂.vm := by
      have : s₂ = ({ s₂ with vm := (U.calling g mk a).vm } : State).setVm s₂.vm := rfl
      rw [e2] at this
      exact this
    obtain ⟨c₂, i₂, len₂, hc₂, hd₂, hf₂⟩ := hend
    have hW' : U.WarmedH s₂.vm := hW₂
    have hcc : c₂ = c := by
      have h1 : s₂.code? g.method = U.code? g.method := by
        rw [State.code?_eq, State.code?_eq, hW'.alike.method?]
      exact Option.some.inj (hc₂.symm.trans (h1.trans h.code))
    subst hcc
    have hlen : len₂ = len := by rw [hdg] at hd₂; cases hd₂; rfl
    subst hlen
    have hs₂ : s₂ = (({ U with heap := s₂.heap, slotsUsed := s₂.slotsUsed } : State).setVm s₂.vm).setTop { g with pc := g.pc + len₂, stack := v.toList ++ g.stack } := by
      refine e3.trans ?_
      rw [hf₂, State.calling_eq h.top, State.setFrames_setFrames, State.setTop_of_frames _ hr', hr]
      rfl
    have hsame : U.sameButNew ({ U with heap := s₂.heap, slotsUsed := s₂.slotsUsed } : State) L mc ms := by
      refine ⟨?_, q2, q3, q4, q5, q6⟩
      obtain ⟨t, ht, -⟩ := State.frames_cons hr
      show ({ U with heap := s₂.heap, slotsUsed := s₂.slotsUsed } : State) = { U.setFrames U.frames with heap := s₂.heap, slotsUsed := s₂.slotsUsed }
      rw [State.setFrames_self ht]
    subst hg
    refine Or.inl ⟨v, ⟨(({ U with heap := s₂.heap, slotsUsed := s₂.slotsUsed } : State).setVm s₂.vm), Ls ++ L, c0 + mc, s0 + ms⟩,
      ⟨X.admits, X.cas, X.clock, X.frames, X.room, X.hears, X.method, X.code, (X.here.setHeapUsed s₂.heap s₂.slotsUsed).setVm hW'.alike, X.tail, State.WarmedH.trans X.warmed hW', X.limits, X.bytes, X.same.trans (hsame.setVm s.vm)⟩,
      ⟨g, mk, s₂, L, rfl, rfl, hqc, rfl, hL, rfl, rfl⟩, ?_⟩
    show Steps p.tables e below _ ((({ U with heap := s₂.heap, slotsUsed := s₂.slotsUsed } : State).setVm s₂.vm).setTop { g with pc := g.pc + len₂, stack := v.toList ++ g.stack })
    rw [← hs₂]
    exact hsteps
  · obtain ⟨e2, q2, q3, q4, q5, q6⟩ := id hsm
    have e3 : s₂ = ({ (U.calling g mk a).setFrames s₂.frames with heap := s₂.heap, slotsUsed := s₂.slotsUsed } : State).setVm s₂.vm := by
      have : s₂ = ({ s₂ with vm := (U.calling g mk a).vm } : State).setVm s₂.vm := rfl
      rw [e2] at this
      exact this
    have hf₂ : s₂.frames = .throwing q :: .java g :: U.frames.tail := hend
    have hW' : U.WarmedH s₂.vm := hW₂
    have hs₂ : s₂ = ((({ U with heap := s₂.heap, slotsUsed := s₂.slotsUsed } : State).setVm s₂.vm).setTop g).pushFrame (.throwing q) := by
      refine e3.trans ?_
      rw [hf₂, State.calling_eq h.top, State.setFrames_setFrames, State.pushFrame, State.frames_setTop _ hr', State.setTop_of_frames _ hr', State.setFrames_setFrames, hr]
      rfl
    have hsame : U.sameButNew ({ U with heap := s₂.heap, slotsUsed := s₂.slotsUsed } : State) L mc ms := by
      refine ⟨?_, q2, q3, q4, q5, q6⟩
      obtain ⟨t, ht, -⟩ := State.frames_cons hr
      show ({ U with heap := s₂.heap, slotsUsed := s₂.slotsUsed } : State) = { U.setFrames U.frames with heap := s₂.heap, slotsUsed := s₂.slotsUsed }
      rw [State.setFrames_self ht]
    subst hg
    refine Or.inr ⟨q, ⟨(({ U with heap := s₂.heap, slotsUsed := s₂.slotsUsed } : State).setVm s₂.vm), Ls ++ L, c0 + mc, s0 + ms⟩,
      ⟨X.admits, X.cas, X.clock, X.frames, X.room, X.hears, X.method, X.code, (X.here.setHeapUsed s₂.heap s₂.slotsUsed).setVm hW'.alike, X.tail, State.WarmedH.trans X.warmed hW', X.limits, X.bytes, X.same.trans (hsame.setVm s.vm)⟩,
      ⟨g, mk, s₂, L, E, ce, rfl, rfl, hx, hce, hcv, hcl, rfl, hL, rfl, rfl⟩, ?_⟩
    show Steps p.tables e below _ (((({ U with heap := s₂.heap, slotsUsed := s₂.slotsUsed } : State).setVm s₂.vm).setTop g).pushFrame (.throwing q))
    rw [← hs₂]
    exact hsteps
end
variable {p : Program} {l : Launch} {e : Env} {R : Room} {s : State} {m : MethodId} {args : Array Value} {below : List Frame} {meth : Method} {c : Code} {T : State} {H : Heap} {locs : List Loc} {cells slots : Nat}
theorem vx_callVX (X : Stand p l e R s m args below meth c T locs cells slots) (hexec : p.tables.exec = Jvm.exec) {own C : String} {index : Nat} {y : MethodName} {bytes : ByteArray} {maxL : Nat} {ret : Option FieldType} {hh : List (Nat × Nat × Nat × Nat)}
    (hown : s.vm.findClass own = some m.cls) (hlink : (Cond.methodLink own index y).before args s = true) (hinst : (Cond.instanceMethod y).before args s = true) (hsel : (Cond.selects C y y).before args s = true)
    (hcode : (Cond.codeWith y bytes maxL ret hh).before args s = true) (hy : y.cls ≠ "java/lang/invoke/MethodHandle" ∧ y.cls ≠ "java/lang/invoke/VarHandle")
    {W9 : Nat} {Pre : Pt → Array Value → Prop} {Post : Pt → Array Value → Option Value → Pt → Prop} {PostX : Pt → Array Value → Addr → Pt → Prop} (hK : vx_Back l R p e below s args y 3 W9 Pre Post PostX)
    {b : Addr} {cellB : Cell} (hcell : T.heap[b]? = some cellB) (hobj : cellB.vm.isStatics = false) (hcls : s.vm.findClass C = some cellB.cls)
    {g : JFrame} (hg : g.method = m) (hsize : g.locals.size = c.maxLocals) {argsL rest : List Value} (hlen : ∀ sig, parseMethodDescriptor y.desc = some sig → argsL.length = sig.parameters.length)
    (hstack : g.stack = argsL.reverse ++ .ref b :: rest) (hW : 2 * g.monitorRoom + (rest.map fun v => v.category).sum ≤ W9) (hdg : decode c.code g.pc = .ok (.invokevirtual index, 3))
    (hpre : ∀ vm₁, s.WarmedH vm₁ → Pre ⟨T.setVm vm₁, locs, cells, slots⟩ (Value.ref b :: argsL).toArray) :
    (∃ (v : Option Value) (vm₁ : Vm) (B : Pt), s.WarmedH vm₁ ∧ Stand p l e R s m args below meth c B.U B.locs B.cells B.slots ∧ Post ⟨T.setVm vm₁, locs, cells, slots⟩ (Value.ref b :: argsL).toArray v B ∧
      ∀ target, Steps p.tables e below (B.U.setTop { g with pc := g.pc + 3, stack := v.toList ++ rest }) target → Steps p.tables e below (T.setTop g) target) ∨
    (∃ (q : Addr) (vm₁ : Vm) (B : Pt), s.WarmedH vm₁ ∧ Stand p l e R s m args below meth c B.U B.locs B.cells B.slots ∧ PostX ⟨T.setVm vm₁, locs, cells, slots⟩ (Value.ref b :: argsL).toArray q B ∧
      Steps p.tables e below (T.setTop g) ((B.U.setTop { g with stack := rest }).pushFrame (.throwing q))) := by
  obtain ⟨mk, methM, hnamed, hmethM, hstM, habM⟩ := Cond.instanceMethod_spec hinst
  obtain ⟨m8, methM', cM, hn8, hmethM', -, -, -, -, -, -, hsigM⟩ := Cond.codeWith_spec hcode
  cases Option.some.inj (hn8.symm.trans hnamed)
  cases hmethM.symm.trans hmethM'
  obtain ⟨c2, r2, m2, q1, q2, q3, q4, kP, hkP, hkPi⟩ := Cond.selects_spec hsel
  cases hcls.symm.trans q1
  cases (State.methodFound?_of_named hnamed hy).symm.trans q2
  cases hnamed.symm.trans q3
  have hselP : selectMethod e.platform s.vm cellB.cls mk = .method mk := by rw [Launch.admits_selectMethod X.admits]; exact q4
  obtain ⟨vm₁, X₁, hstep₁⟩ := X.invokevirtual hexec hown hlink hnamed hmethM hstM hkP hkPi hy (a := b) (cell := cellB) hcell
    (fun z h => by rw [h] at hobj; cases hobj) hselP hmethM habM hkP hkPi (g := g) hg (argsL := argsL) (rest := rest) (hlen _ hsigM) hstack hdg
  rcases hK m meth c ⟨T.setVm vm₁, locs, cells, slots⟩ { g with stack := rest } (.invokevirtual index) mk (Value.ref b :: argsL).toArray X₁ hg hsize hdg hW (X₁.named hnamed) (hpre vm₁ X₁.warmed) with ⟨v, B, X', hpost, hsteps⟩ | ⟨q, B, X', hpost, hsteps⟩
  · exact Or.inl ⟨v, vm₁, B, X₁.warmed, X', hpost, fun target h => hstep₁ _ fun acts => by rw [doInvoke_state]; exact hsteps.trans h⟩
  · exact Or.inr ⟨q, vm₁, B, X₁.warmed, X', hpost, hstep₁ _ fun acts => by rw [doInvoke_state]; exact hsteps⟩
theorem vx_callSX (X : Stand p l e R s m args below meth c T locs cells slots) (hexec : p.tables.exec = Jvm.exec) {own : String} {index : Nat} {y : MethodName} {bytes : ByteArray} {maxL : Nat} {ret : Option FieldType} {hh : List (Nat × Nat × Nat × Nat)}
    (hown : s.vm.findClass own = some m.cls) (hlink : (Cond.methodLink own index y).before args s = true) (hstat : (Cond.static y).before args s = true) (hinit : (Cond.initialized y.cls).before args s = true)
    (hcode : (Cond.codeWith y bytes maxL ret hh).before args s = true) (hy : y.cls ≠ "java/lang/invoke/MethodHandle" ∧ y.cls ≠ "java/lang/invoke/VarHandle")
    {W9 : Nat} {Pre : Pt → Array Value → Prop} {Post : Pt → Array Value → Option Value → Pt → Prop} {PostX : Pt → Array Value → Addr → Pt → Prop} (hK : vx_Back l R p e below s args y 3 W9 Pre Post PostX)
    {g : JFrame} (hg : g.method = m) (hsize : g.locals.size = c.maxLocals) {argsL rest : List Value} (hlen : ∀ sig, parseMethodDescriptor y.desc = some sig → argsL.length = sig.parameters.length)
    (hstack : g.stack = argsL.reverse ++ rest) (hW : 2 * g.monitorRoom + (rest.map fun v => v.category).sum ≤ W9) (hdg : decode c.code g.pc = .ok (.invokestatic index, 3))
    (hpre : ∀ vm₁, s.WarmedH vm₁ → Pre ⟨T.setVm vm₁, locs, cells, slots⟩ argsL.toArray) :
    (∃ (v : Option Value) (vm₁ : Vm) (B : Pt), s.WarmedH vm₁ ∧ Stand p l e R s m args below meth c B.U B.locs B.cells B.slots ∧ Post ⟨T.setVm vm₁, locs, cells, slots⟩ argsL.toArray v B ∧
      ∀ target, Steps p.tables e below (B.U.setTop { g with pc := g.pc + 3, stack := v.toList ++ rest }) target → Steps p.tables e below (T.setTop g) target) ∨
    (∃ (q : Addr) (vm₁ : Vm) (B : Pt), s.WarmedH vm₁ ∧ Stand p l e R s m args below meth c B.U B.locs B.cells B.slots ∧ PostX ⟨T.setVm vm₁, locs, cells, slots⟩ argsL.toArray q B ∧
      Steps p.tables e below (T.setTop g) ((B.U.setTop { g with stack := rest }).pushFrame (.throwing q))) := by
  obtain ⟨mk, methM, cM, hnamed, hmethM, -, -, -, -, -, -, hsigM⟩ := Cond.codeWith_spec hcode
  have hstatic : methM.isStatic = true := Cond.static_spec hnamed hmethM hstat
  obtain ⟨kP, hkP, -⟩ := className_of_methodNamed hnamed
  have hinitP : kP.init = .initialized := Cond.initialized_spec (findClass_of_methodNamed hnamed) hkP hinit
  obtain ⟨vm₁, X₁, hstep₁⟩ := X.invokestatic hexec hown hlink hnamed hmethM hstatic hkP hinitP hy (g := g) hg (argsL := argsL) (rest := rest) (hlen _ hsigM) hstack hdg
  rcases hK m meth c ⟨T.setVm vm₁, locs, cells, slots⟩ { g with stack := rest } (.invokestatic index) mk argsL.toArray X₁ hg hsize hdg hW (X₁.named hnamed) (hpre vm₁ X₁.warmed) with ⟨v, B, X', hpost, hsteps⟩ | ⟨q, B, X', hpost, hsteps⟩
  · exact Or.inl ⟨v, vm₁, B, X₁.warmed, X', hpost, fun target h => hstep₁ _ fun acts => by rw [doInvoke_state]; exact hsteps.trans h⟩
  · exact Or.inr ⟨q, vm₁, B, X₁.warmed, X', hpost, hstep₁ _ fun acts => by rw [doInvoke_state]; exact hsteps⟩
theorem vx_callVW (X : Stand p l e R s m args below meth c T locs cells slots) (hexec : p.tables.exec = Jvm.exec) {own C : String} {index : Nat} {y : MethodName} {bytes : ByteArray} {maxL : Nat} {ret : Option FieldType} {hh : List (Nat × Nat × Nat × Nat)}
    (hown : s.vm.findClass own = some m.cls) (hlink : (Cond.methodLink own index y).before args s = true) (hinst : (Cond.instanceMethod y).before args s = true) (hsel : (Cond.selects C y y).before args s = true)
    (hcode : (Cond.codeWith y bytes maxL ret hh).before args s = true) (hy : y.cls ≠ "java/lang/invoke/MethodHandle" ∧ y.cls ≠ "java/lang/invoke/VarHandle")
    {W9 : Nat} {Pre : Pt → Array Value → Prop} {Post : Pt → Array Value → Option Value → Pt → Prop} (hK : Back l R p e below s args y 3 W9 Pre Post)
    {b : Addr} {cellB : Cell} (hcell : T.heap[b]? = some cellB) (hobj : cellB.vm.isStatics = false) (hcls : s.vm.findClass C = some cellB.cls)
    {g : JFrame} (hg : g.method = m) (hsize : g.locals.size = c.maxLocals) {argsL rest : List Value} (hlen : ∀ sig, parseMethodDescriptor y.desc = some sig → argsL.length = sig.parameters.length)
    (hstack : g.stack = argsL.reverse ++ .ref b :: rest) (hW : 2 * g.monitorRoom + (rest.map fun v => v.category).sum ≤ W9) (hdg : decode c.code g.pc = .ok (.invokevirtual index, 3))
    (hpre : ∀ vm₁, s.WarmedH vm₁ → Pre ⟨T.setVm vm₁, locs, cells, slots⟩ (Value.ref b :: argsL).toArray) :
    ∃ (v : Option Value) (vm₁ : Vm) (B : Pt), s.WarmedH vm₁ ∧ Stand p l e R s m args below meth c B.U B.locs B.cells B.slots ∧ Post ⟨T.setVm vm₁, locs, cells, slots⟩ (Value.ref b :: argsL).toArray v B ∧
      ∀ target, Steps p.tables e below (B.U.setTop { g with pc := g.pc + 3, stack := v.toList ++ rest }) target → Steps p.tables e below (T.setTop g) target := by
  obtain ⟨mk, methM, hnamed, hmethM, hstM, habM⟩ := Cond.instanceMethod_spec hinst
  obtain ⟨m8, methM', cM, hn8, hmethM', -, -, -, -, -, -, hsigM⟩ := Cond.codeWith_spec hcode
  cases Option.some.inj (hn8.symm.trans hnamed)
  cases hmethM.symm.trans hmethM'
  obtain ⟨c2, r2, m2, q1, q2, q3, q4, kP, hkP, hkPi⟩ := Cond.selects_spec hsel
  cases hcls.symm.trans q1
  cases (State.methodFound?_of_named hnamed hy).symm.trans q2
  cases hnamed.symm.trans q3
  have hselP : selectMethod e.platform s.vm cellB.cls mk = .method mk := by rw [Launch.admits_selectMethod X.admits]; exact q4
  obtain ⟨vm₁, X₁, hstep₁⟩ := X.invokevirtual hexec hown hlink hnamed hmethM hstM hkP hkPi hy (a := b) (cell := cellB) hcell
    (fun z h => by rw [h] at hobj; cases hobj) hselP hmethM habM hkP hkPi (g := g) hg (argsL := argsL) (rest := rest) (hlen _ hsigM) hstack hdg
  obtain ⟨v, B, X', hpost, hsteps⟩ := hK m meth c ⟨T.setVm vm₁, locs, cells, slots⟩ { g with stack := rest } (.invokevirtual index) mk (Value.ref b :: argsL).toArray X₁ hg hsize hdg hW (X₁.named hnamed) (hpre vm₁ X₁.warmed)
  exact ⟨v, vm₁, B, X₁.warmed, X', hpost, fun target h => hstep₁ _ fun acts => by rw [doInvoke_state]; exact hsteps.trans h⟩
abbrev vx_CVW (R : Room) (s : State) (args : Array Value) (own C : String) (index : Nat) (y : MethodName) (bytes : ByteArray) (maxL : Nat) (ret : Option FieldType) (hh : List (Nat × Nat × Nat × Nat)) (ws : List Cond) (rm : Room) (mc ms n : Nat) : Prop :=
  (rm.cells = mc ∧ rm.slots = ms ∧ rm.frames + 1 ≤ R.frames ∧ 8 + (maxL + 11) + rm.locals ≤ R.locals ∧ (∀ w ∈ ws, ∀ (a' : Array Value) (U : State), s.WarmedH U.vm → w.before a' U = true) ∧ Cond.codeWith y bytes maxL ret hh ∈ ws) ∧
  (Cond.codeWith y bytes maxL ret hh).before args s = true ∧ (Cond.initialized y.cls).before args s = true ∧ (y.cls ≠ "java/lang/invoke/MethodHandle" ∧ y.cls ≠ "java/lang/invoke/VarHandle") ∧
  (∀ sig, parseMethodDescriptor y.desc = some sig → n = sig.parameters.length) ∧ (Cond.methodLink own index y).before args s = true ∧ (Cond.instanceMethod y).before args s = true ∧ (Cond.selects C y y).before args s = true
theorem vx_cwVW {own C : String} {index maxL mc ms : Nat} {y : MethodName} {bytes : ByteArray} {ret : Option FieldType} {hh : List (Nat × Nat × Nat × Nat)} {Ts ws ws' : List Cond} {rm : Room} (n : Nat) (ht : ∀ w ∈ Ts, w.before args s = true) (hT : GoodIn Ts (wsV own index C y ws)) (hw : ws = Cond.codeWith y bytes maxL ret hh :: ws') (hrc : rm.cells = mc) (hrs : rm.slots = ms)
    (hd : y.cls = C ∧ y.cls ≠ "java/lang/invoke/MethodHandle" ∧ y.cls ≠ "java/lang/invoke/VarHandle" ∧ (parseMethodDescriptor y.desc).map (fun d => d.parameters.length) = some n) (hR : rm.frames + 1 ≤ R.frames ∧ 8 + (maxL + 11) + rm.locals ≤ R.locals) :
    vx_CVW R s args own C index y bytes maxL ret hh ws rm mc ms n := by
  obtain ⟨hC, hd⟩ := hd
  subst hC
  have ok : ∀ w ∈ wsV own index y.cls y ws, w.before args s = true := fun w h => ht w (hT w h).1
  have hG : GoodIn Ts ws := fun w h => hT w (by unfold wsV; exact List.mem_append_right _ h)
  have hc : Cond.codeWith y bytes maxL ret hh ∈ ws := by rw [hw]; exact List.mem_cons_self
  refine ⟨⟨hrc, hrs, hR.1, hR.2, pay_in ht hG, hc⟩, ht _ (hG _ hc).1, ok _ (by simp [wsV]), ⟨hd.1, hd.2.1⟩, fun sig h => ?_, ok _ (by simp [wsV]), ok _ (by simp [wsV]), ok _ (by simp [wsV])⟩
  have h2 := hd.2.2
  rw [h] at h2
  exact (Option.some.inj h2).symm
theorem vx_runVW {y : MethodName} {bytes cc : ByteArray} {maxL nL mc ms n index : Nat} {ret : Option FieldType} {hh : List (Nat × Nat × Nat × Nat)} {ws : List Cond} {rm : Room} {Pc : Array Value → State → Prop} {Qc : Array Value → State → Outcome → State → Prop} {free : Addr → Prop} {Ts : List Cond} {own C : String} {b : Addr} {As rest : List Value} {g : JFrame}
    (S : CallFix p m c cc nL s args Ts own) (hM : Met l y ws rm Pc Qc mc ms free) (cw : vx_CVW R s args own C index y bytes maxL ret hh ws rm mc ms n) (hp : PreV s H C b Pc As)
    (hg : g.method = m) (hn : As.length = n) (hsize : g.locals.size = nL) (hstack : g.stack = As.reverse ++ .ref b :: rest) (hW : 2 * g.monitorRoom + (rest.map fun v => v.category).sum ≤ 8) (hdg : decode cc g.pc = .ok (.invokevirtual index, 3)) (hf : cells + mc ≤ R.cells ∧ slots + ms ≤ R.slots) :
    va_Run p l e R s m args below meth c H locs cells slots mc ms g rest (Qc (Value.ref b :: As).toArray) free := by
  obtain ⟨⟨hrc, hrs, hfr, hlo, hws, hcw⟩, hcode, hini, hy, hlen, hl, hin, hse⟩ := cw
  have hK : Back l R p e below s args y 3 8 (PreOf R mc ms Pc) (PostOf Qc mc ms free) := va_backW (hh := hh) (bytes := bytes) (maxL := maxL) (ret := ret) hM hp.1 hrc hrs hfr hlo hws hcw (fun a' U hW => word_at hW (Or.inl (by first | rfl | simp [Cond.onTables, Cond.keeps, Cond.steady])) hini)
  obtain ⟨hx, hb, hml, ho, -⟩ := S
  obtain ⟨-, ⟨cellB, hcB, hoB, hclB⟩, hPc⟩ := hp
  intro T hT X
  obtain ⟨v, vm₁, ⟨U', l2, c2, s2⟩, hW₁, X', ⟨g', mk, t, L, e1, e2, hq, h1, hL, h2, h3⟩, st⟩ := vx_callVW X hx (C := C) (hh := hh) (bytes := bytes) (maxL := maxL) (ret := ret) ho hl hin hse hcode hy hK (by rw [hT]; exact hcB) hoB hclB hg (hsize.trans hml.symm) (argsL := As) (rest := rest) (fun sig h => hn.trans (hlen sig h)) hstack hW (by rw [hb]; exact hdg)
    (fun vm₁ hW₁ => ⟨hf.1, hf.2, hPc (T.setVm vm₁) hT hW₁⟩)
  dsimp only [Pt.U, Pt.locs, Pt.cells, Pt.slots] at X' e1 e2 h1 h2 h3 st
  subst h1; subst h2; subst h3
  exact ⟨v, (T.setVm vm₁).calling g' mk (Value.ref b :: As).toArray, t, U', L, hT, X', hL, e1, e2, hq, st⟩
section
variable {y : MethodName} {bytes cc : ByteArray} {maxL nL mc ms n index : Nat} {ret : Option FieldType} {ws : List Cond} {rm : Room} {Pc : Array Value → State → Prop} {Qc : Array Value → State → Outcome → State → Prop} {XC : String → State → State → Prop} {free : Addr → Prop} {Ts : List Cond} {own C : String} {b : Addr} {As rest : List Value} {g : JFrame}
theorem vx_runVX {hh : List (Nat × Nat × Nat × Nat)} (S : CallFix p m c cc nL s args Ts own) (hM : vx_Met l y ws rm Pc Qc XC mc ms free) (cw : vx_CVW R s args own C index y bytes maxL ret hh ws rm mc ms n) (hp : PreV s H C b Pc As)
    (hg : g.method = m) (hn : As.length = n) (hsize : g.locals.size = nL) (hstack : g.stack = As.reverse ++ .ref b :: rest) (hW : 2 * g.monitorRoom + (rest.map fun v => v.category).sum ≤ 8) (hdg : decode cc g.pc = .ok (.invokevirtual index, 3)) (hf : cells + mc ≤ R.cells ∧ slots + ms ≤ R.slots) :
    vx_Run p l e R s m args below meth c H locs cells slots mc ms g rest (Qc (Value.ref b :: As).toArray) XC free := by
  obtain ⟨⟨hrc, hrs, hfr, hlo, hws, hcw⟩, hcode, hini, hy, hlen, hl, hin, hse⟩ := cw
  have hK : vx_Back l R p e below s args y 3 8 (PreOf R mc ms Pc) (PostOf Qc mc ms free) (vx_Post XC mc ms free) := vx_backW (hh := hh) (bytes := bytes) (maxL := maxL) (ret := ret) hM hp.1 hrc hrs hfr hlo hws hcw (fun a' U hW => word_at hW (Or.inl (by first | rfl | simp [Cond.onTables, Cond.keeps, Cond.steady])) hini)
  obtain ⟨hx, hb, hml, ho, -⟩ := S
  obtain ⟨-, ⟨cellB, hcB, hoB, hclB⟩, hPc⟩ := hp
  intro T hT X
  rcases vx_callVX X hx (C := C) (hh := hh) (bytes := bytes) (maxL := maxL) (ret := ret) ho hl hin hse hcode hy hK (by rw [hT]; exact hcB) hoB hclB hg (hsize.trans hml.symm) (argsL := As) (rest := rest) (fun sig h => hn.trans (hlen sig h)) hstack hW (by rw [hb]; exact hdg)
    (fun vm₁ hW₁ => ⟨hf.1, hf.2, hPc (T.setVm vm₁) hT hW₁⟩) with ⟨v, vm₁, ⟨U', l2, c2, s2⟩, hW₁, X', ⟨g', mk, t, L, e1, e2, hq, h1, hL, h2, h3⟩, st⟩ | ⟨q, vm₁, ⟨U', l2, c2, s2⟩, hW₁, X', ⟨g', mk, t, L, E, ce, e1, e2, hq, hce, hcv, hcl, h1, hL, h2, h3⟩, st⟩
  · dsimp only [Pt.U, Pt.locs, Pt.cells, Pt.slots] at X' e1 e2 h1 h2 h3 st
    subst h1; subst h2; subst h3
    exact Or.inl ⟨v, (T.setVm vm₁).calling g' mk (Value.ref b :: As).toArray, t, U', L, hT, X', hL, e1, e2, hq, st⟩
  · dsimp only [Pt.U, Pt.locs, Pt.cells, Pt.slots] at X' e1 e2 h1 h2 h3 st hcl
    subst h1; subst h2; subst h3
    exact Or.inr ⟨q, (T.setVm vm₁).calling g' mk (Value.ref b :: As).toArray, t, U', L, E, ce, hT, X', hL, e1, e2, hq, hce, hcv, vx_cls hW₁ hcl, st⟩
theorem vx_runSX {hh : List (Nat × Nat × Nat × Nat)} (S : CallFix p m c cc nL s args Ts own) (hM : vx_Met l y ws rm Pc Qc XC mc ms free) (cw : vx_CSW R s args own index y bytes maxL ret hh ws rm mc ms n) (hp : PreS s H Pc As)
    (hg : g.method = m) (hn : As.length = n) (hsize : g.locals.size = nL) (hstack : g.stack = As.reverse ++ rest) (hW : 2 * g.monitorRoom + (rest.map fun v => v.category).sum ≤ 8) (hdg : decode cc g.pc = .ok (.invokestatic index, 3)) (hf : cells + mc ≤ R.cells ∧ slots + ms ≤ R.slots) :
    vx_Run p l e R s m args below meth c H locs cells slots mc ms g rest (Qc As.toArray) XC free := by
  obtain ⟨⟨hrc, hrs, hfr, hlo, hws, hcw⟩, hcode, hini, hy, hlen, hl, hstt⟩ := cw
  have hK : vx_Back l R p e below s args y 3 8 (PreOf R mc ms Pc) (PostOf Qc mc ms free) (vx_Post XC mc ms free) := vx_backW (hh := hh) (bytes := bytes) (maxL := maxL) (ret := ret) hM hp.1 hrc hrs hfr hlo hws hcw (fun a' U hW => word_at hW (Or.inl (by first | rfl | simp [Cond.onTables, Cond.keeps, Cond.steady])) hini)
  obtain ⟨hx, hb, hml, ho, -⟩ := S
  intro T hT X
  rcases vx_callSX X hx (hh := hh) (bytes := bytes) (maxL := maxL) (ret := ret) ho hl hstt hini hcode hy hK hg (hsize.trans hml.symm) (argsL := As) (rest := rest) (fun sig h => hn.trans (hlen sig h)) hstack hW (by rw [hb]; exact hdg)
    (fun vm₁ hW₁ => ⟨hf.1, hf.2, hp.2 (T.setVm vm₁) hT hW₁⟩) with ⟨v, vm₁, ⟨U', l2, c2, s2⟩, hW₁, X', ⟨g', mk, t, L, e1, e2, hq, h1, hL, h2, h3⟩, st⟩ | ⟨q, vm₁, ⟨U', l2, c2, s2⟩, hW₁, X', ⟨g', mk, t, L, E, ce, e1, e2, hq, hce, hcv, hcl, h1, hL, h2, h3⟩, st⟩
  · dsimp only [Pt.U, Pt.locs, Pt.cells, Pt.slots] at X' e1 e2 h1 h2 h3 st
    subst h1; subst h2; subst h3
    exact Or.inl ⟨v, (T.setVm vm₁).calling g' mk As.toArray, t, U', L, hT, X', hL, e1, e2, hq, st⟩
  · dsimp only [Pt.U, Pt.locs, Pt.cells, Pt.slots] at X' e1 e2 h1 h2 h3 st hcl
    subst h1; subst h2; subst h3
    exact Or.inr ⟨q, (T.setVm vm₁).calling g' mk As.toArray, t, U', L, E, ce, hT, X', hL, e1, e2, hq, hce, hcv, vx_cls hW₁ hcl, st⟩
end
end VXH
theorem vx_ofWH {l : Launch} {y : MethodName} {ws ws' : List Cond} {rm : Room} {Pc : Array Value → State → Prop} {Qc : Array Value → State → Outcome → State → Prop} {XC : String → State → State → Prop} {mc ms : Nat} {free : Addr → Prop} {cc : ByteArray} {maxL : Nat} {ret : Option FieldType} {hh : List (Nat × Nat × Nat × Nat)}
    (hy : plainName y.cls = true) (hw : ws = Cond.codeWith y cc maxL ret hh :: ws')
    (body : ∀ p e s m args below meth c s₁, BodyLoose p l y (headSpec ws rm) cc maxL ret e s m args below meth c s₁ → c.maxLocals = maxL → Pc args s →
      W p l e (headSpec ws rm).room s m args below meth c s.heap [] 0 0 (vx_MQ below Qc XC args s mc ms free) (entryFrame m args maxL)) : vx_Met l y ws rm Pc Qc XC mc ms free := by
  refine MetFree.of_bodyS (code := cc) (maxLocals := maxL) (ret := ret) hy ?_ ?_
  · intro args s m h hn
    obtain ⟨m9, meth, c, hn9, h1, h2, h3, h4, -, h5, h6, -⟩ := Cond.codeWith_spec (atoms_spec (ws := ws) h _ (by rw [hw]; exact List.mem_cons_self))
    cases hn.symm.trans hn9
    exact ⟨meth, c, h1, h2, h3, h4, h5, h6⟩
  · intro p e s m args below meth c s₁ B hml hP _
    have hh0 : s₁.heap = s.heap := by rw [B.state]; rfl
    obtain ⟨t, a1, o, b1, b2, b3⟩ := body p e s m args below meth c s₁ B hml hP s₁ hh0 (Stand.of_body B)
    exact ⟨t, o, a1, b1, b2, b3⟩
/-! ===== END ===== -/
end
section
/-! ===== BEGIN printed: names, fields, word lists, decode rows ===== -/
def RX0 : String := "WarTable$RoadMap"
def TX0 : u_T := fun k => match k with
  | 0 => ("WarTable$RoadMap", "nextOverPaved", "[I", true)
  | 1 => ("WarTable$RoadMap", "nextOverUnpaved", "[I", true)
  | _ => ("WarTable$RoadMap", "roads", "I", false)
def tyX0 : Nat → FieldType := fun k => match k with
  | 0 => .array .int
  | 1 => .array .int
  | _ => .int
abbrev wsX00 : List Cond := u_ws RX0 TX0 3
theorem nmX0 : ∀ a, a < 3 → ∀ b, b < 3 → a ≠ b → (TX0 a).2.1 ≠ (TX0 b).2.1 := by decide +kernel
theorem tyX0_ok : ∀ k, k < 3 → parseFieldDescriptor (TX0 k).2.2.1 = some (tyX0 k) := by decide +kernel
abbrev cX0_init : ByteArray := prog_2_method_1_code
def yX0_init : MethodName := ⟨RX0, "<init>", "()V"⟩
abbrev cX0_roads : ByteArray := prog_2_method_2_code
def yX0_roads : MethodName := ⟨RX0, "roads", "()I"⟩
abbrev cX0_joins : ByteArray := prog_2_method_3_code
def yX0_joins : MethodName := ⟨RX0, "joins", "(II)Z"⟩
abbrev cX0_join : ByteArray := prog_2_method_4_code
def yX0_join : MethodName := ⟨RX0, "join", "(IIZ)V"⟩
abbrev cX0_nextOverOpen : ByteArray := prog_2_method_5_code
def yX0_nextOverOpen : MethodName := ⟨RX0, "nextOverOpen", "(II)I"⟩
abbrev cX0_widened : ByteArray := prog_2_method_6_code
def yX0_widened : MethodName := ⟨RX0, "widened", "(II)I"⟩
def RX1 : String := "WarTable$Rulings"
def TX1 : u_T := fun k => match k with
  | 0 => ("WarTable$Rulings", "turns", "[I", true)
  | 1 => ("WarTable$Rulings", "weathersBefore", "[I", true)
  | _ => ("WarTable$Rulings", "count", "I", false)
def tyX1 : Nat → FieldType := fun k => match k with
  | 0 => .array .int
  | 1 => .array .int
  | _ => .int
abbrev wsX10 : List Cond := u_ws RX1 TX1 3
theorem nmX1 : ∀ a, a < 3 → ∀ b, b < 3 → a ≠ b → (TX1 a).2.1 ≠ (TX1 b).2.1 := by decide +kernel
theorem tyX1_ok : ∀ k, k < 3 → parseFieldDescriptor (TX1 k).2.2.1 = some (tyX1 k) := by decide +kernel
abbrev cX1_init : ByteArray := prog_3_method_1_code
def yX1_init : MethodName := ⟨RX1, "<init>", "()V"⟩
abbrev cX1_count : ByteArray := prog_3_method_2_code
def yX1_count : MethodName := ⟨RX1, "count", "()I"⟩
abbrev cX1_isFull : ByteArray := prog_3_method_3_code
def yX1_isFull : MethodName := ⟨RX1, "isFull", "()Z"⟩
abbrev cX1_push : ByteArray := prog_3_method_4_code
def yX1_push : MethodName := ⟨RX1, "push", "(II)V"⟩
abbrev cX1_pop : ByteArray := prog_3_method_5_code
def yX1_pop : MethodName := ⟨RX1, "pop", "()V"⟩
abbrev cX1_lastTurn : ByteArray := prog_3_method_6_code
def yX1_lastTurn : MethodName := ⟨RX1, "lastTurn", "()I"⟩
abbrev cX1_lastWeatherBefore : ByteArray := prog_3_method_7_code
def yX1_lastWeatherBefore : MethodName := ⟨RX1, "lastWeatherBefore", "()I"⟩
def RX2 : String := "WarTable$Units"
def TX2 : u_T := fun k => match k with
  | 0 => ("WarTable$Units", "sides", "[I", true)
  | 1 => ("WarTable$Units", "towns", "[I", true)
  | 2 => ("WarTable$Units", "strengths", "[I", true)
  | 3 => ("WarTable$Units", "orders", "[I", true)
  | _ => ("WarTable$Units", "count", "I", false)
def tyX2 : Nat → FieldType := fun k => match k with
  | 0 => .array .int
  | 1 => .array .int
  | 2 => .array .int
  | 3 => .array .int
  | _ => .int
abbrev wsX20 : List Cond := u_ws RX2 TX2 5
theorem nmX2 : ∀ a, a < 5 → ∀ b, b < 5 → a ≠ b → (TX2 a).2.1 ≠ (TX2 b).2.1 := by decide +kernel
theorem tyX2_ok : ∀ k, k < 5 → parseFieldDescriptor (TX2 k).2.2.1 = some (tyX2 k) := by decide +kernel
abbrev cX2_init : ByteArray := prog_4_method_1_code
def yX2_init : MethodName := ⟨RX2, "<init>", "()V"⟩
abbrev cX2_count : ByteArray := prog_4_method_2_code
def yX2_count : MethodName := ⟨RX2, "count", "()I"⟩
abbrev cX2_add : ByteArray := prog_4_method_3_code
def yX2_add : MethodName := ⟨RX2, "add", "(III)I"⟩
abbrev cX2_sideOf : ByteArray := prog_4_method_4_code
def yX2_sideOf : MethodName := ⟨RX2, "sideOf", "(I)I"⟩
abbrev cX2_townAt : ByteArray := prog_4_method_5_code
def yX2_townAt : MethodName := ⟨RX2, "townAt", "(II)I"⟩
abbrev cX2_strengthAt : ByteArray := prog_4_method_6_code
def yX2_strengthAt : MethodName := ⟨RX2, "strengthAt", "(II)I"⟩
abbrev cX2_orderFor : ByteArray := prog_4_method_7_code
def yX2_orderFor : MethodName := ⟨RX2, "orderFor", "(II)I"⟩
abbrev cX2_giveOrder : ByteArray := prog_4_method_8_code
def yX2_giveOrder : MethodName := ⟨RX2, "giveOrder", "(III)V"⟩
abbrev cX2_place : ByteArray := prog_4_method_9_code
def yX2_place : MethodName := ⟨RX2, "place", "(IIII)V"⟩
abbrev cX2_copyMoment : ByteArray := prog_4_method_10_code
def yX2_copyMoment : MethodName := ⟨RX2, "copyMoment", "(II)V"⟩
abbrev cX2_differing : ByteArray := prog_4_method_11_code
def yX2_differing : MethodName := ⟨RX2, "differing", "(II)I"⟩
abbrev cX2_livingAt : ByteArray := prog_4_method_12_code
def yX2_livingAt : MethodName := ⟨RX2, "livingAt", "(I)I"⟩
abbrev cX2_townsHeld : ByteArray := prog_4_method_13_code
def yX2_townsHeld : MethodName := ⟨RX2, "townsHeld", "(II)I"⟩
abbrev cX2_isKept : ByteArray := prog_4_method_14_code
def yX2_isKept : MethodName := ⟨RX2, "isKept", "(II)Z"⟩
abbrev cX2_index : ByteArray := prog_4_method_15_code
def yX2_index : MethodName := ⟨RX2, "index", "(II)I"⟩
def RX3 : String := "WarTable"
def TX3 : u_T := fun k => match k with
  | 0 => ("WarTable", "map", "LWarTable$RoadMap;", true)
  | 1 => ("WarTable", "depots", "[I", true)
  | 2 => ("WarTable", "units", "LWarTable$Units;", true)
  | 3 => ("WarTable", "weathers", "[I", true)
  | 4 => ("WarTable", "seen", "[I", true)
  | 5 => ("WarTable", "standing", "LWarTable$Rulings;", true)
  | _ => ("WarTable", "turns", "I", false)
def tyX3 : Nat → FieldType := fun k => match k with
  | 0 => .object "WarTable$RoadMap"
  | 1 => .array .int
  | 2 => .object "WarTable$Units"
  | 3 => .array .int
  | 4 => .array .int
  | 5 => .object "WarTable$Rulings"
  | _ => .int
abbrev wsX30 : List Cond := u_ws RX3 TX3 7
theorem nmX3 : ∀ a, a < 7 → ∀ b, b < 7 → a ≠ b → (TX3 a).2.1 ≠ (TX3 b).2.1 := by decide +kernel
theorem tyX3_ok : ∀ k, k < 7 → parseFieldDescriptor (TX3 k).2.2.1 = some (tyX3 k) := by decide +kernel
abbrev cX3_init : ByteArray := prog_1_method_1_code
def yX3_init : MethodName := ⟨RX3, "<init>", "()V"⟩
abbrev cX3_addRoad : ByteArray := prog_1_method_2_code
def yX3_addRoad : MethodName := ⟨RX3, "addRoad", "(IIZ)I"⟩
abbrev cX3_setDepot : ByteArray := prog_1_method_3_code
def yX3_setDepot : MethodName := ⟨RX3, "setDepot", "(II)I"⟩
abbrev cX3_addUnit : ByteArray := prog_1_method_4_code
def yX3_addUnit : MethodName := ⟨RX3, "addUnit", "(III)I"⟩
abbrev cX3_order : ByteArray := prog_1_method_5_code
def yX3_order : MethodName := ⟨RX3, "order", "(II)I"⟩
abbrev cX3_play : ByteArray := prog_1_method_6_code
def yX3_play : MethodName := ⟨RX3, "play", "(I)I"⟩
abbrev cX3_played : ByteArray := prog_1_method_7_code
def yX3_played : MethodName := ⟨RX3, "played", "()I"⟩
abbrev cX3_rule : ByteArray := prog_1_method_8_code
def yX3_rule : MethodName := ⟨RX3, "rule", "(II)I"⟩
abbrev cX3_appeal : ByteArray := prog_1_method_9_code
def yX3_appeal : MethodName := ⟨RX3, "appeal", "()I"⟩
abbrev cX3_townOf : ByteArray := prog_1_method_10_code
def yX3_townOf : MethodName := ⟨RX3, "townOf", "(I)I"⟩
abbrev cX3_strength : ByteArray := prog_1_method_11_code
def yX3_strength : MethodName := ⟨RX3, "strength", "(I)I"⟩
abbrev cX3_supply : ByteArray := prog_1_method_12_code
def yX3_supply : MethodName := ⟨RX3, "supply", "(II)I"⟩
abbrev cX3_townAfter : ByteArray := prog_1_method_13_code
def yX3_townAfter : MethodName := ⟨RX3, "townAfter", "(II)I"⟩
abbrev cX3_reported : ByteArray := prog_1_method_14_code
def yX3_reported : MethodName := ⟨RX3, "reported", "(II)I"⟩
abbrev cX3_force : ByteArray := prog_1_method_15_code
def yX3_force : MethodName := ⟨RX3, "force", "(I)I"⟩
abbrev cX3_weather : ByteArray := prog_1_method_16_code
def yX3_weather : MethodName := ⟨RX3, "weather", "(I)I"⟩
abbrev cX3_rulings : ByteArray := prog_1_method_17_code
def yX3_rulings : MethodName := ⟨RX3, "rulings", "()I"⟩
abbrev cX3_checkSide : ByteArray := prog_1_method_18_code
def yX3_checkSide : MethodName := ⟨RX3, "checkSide", "(I)V"⟩
abbrev cX3_checkWeather : ByteArray := prog_1_method_19_code
def yX3_checkWeather : MethodName := ⟨RX3, "checkWeather", "(I)V"⟩
abbrev cX3_checkUnit : ByteArray := prog_1_method_20_code
def yX3_checkUnit : MethodName := ⟨RX3, "checkUnit", "(I)V"⟩
abbrev cX3_checkTurn : ByteArray := prog_1_method_21_code
def yX3_checkTurn : MethodName := ⟨RX3, "checkTurn", "(I)V"⟩
abbrev cX3_playFrom : ByteArray := prog_1_method_22_code
def yX3_playFrom : MethodName := ⟨RX3, "playFrom", "(I)V"⟩
abbrev cX3_suppliedTowns : ByteArray := prog_1_method_23_code
def yX3_suppliedTowns : MethodName := ⟨RX3, "suppliedTowns", "(IIII)I"⟩
abbrev cX3_suppliedUnits : ByteArray := prog_1_method_24_code
def yX3_suppliedUnits : MethodName := ⟨RX3, "suppliedUnits", "(II)I"⟩
abbrev cX3_goers : ByteArray := prog_1_method_25_code
def yX3_goers : MethodName := ⟨RX3, "goers", "(III)I"⟩
abbrev cX3_march : ByteArray := prog_1_method_26_code
def yX3_march : MethodName := ⟨RX3, "march", "(II)V"⟩
abbrev cX3_isMetOnRoad : ByteArray := prog_1_method_27_code
def yX3_isMetOnRoad : MethodName := ⟨RX3, "isMetOnRoad", "(III)Z"⟩
abbrev cX3_fightEverywhere : ByteArray := prog_1_method_28_code
def yX3_fightEverywhere : MethodName := ⟨RX3, "fightEverywhere", "(II)V"⟩
abbrev cX3_fight : ByteArray := prog_1_method_29_code
def yX3_fight : MethodName := ⟨RX3, "fight", "(III)V"⟩
abbrev cX3_sumInFight : ByteArray := prog_1_method_30_code
def yX3_sumInFight : MethodName := ⟨RX3, "sumInFight", "(IIII)I"⟩
abbrev cX3_loss : ByteArray := prog_1_method_31_code
def yX3_loss : MethodName := ⟨RX3, "loss", "(II)I"⟩
abbrev cX3_unitsInSight : ByteArray := prog_1_method_32_code
def yX3_unitsInSight : MethodName := ⟨RX3, "unitsInSight", "(I)I"⟩
abbrev cX3_below : ByteArray := prog_1_method_33_code
def yX3_below : MethodName := ⟨RX3, "below", "(II)Z"⟩
abbrev cX3_opponent : ByteArray := prog_1_method_34_code
def yX3_opponent : MethodName := ⟨RX3, "opponent", "(I)I"⟩
abbrev cX3_bit : ByteArray := prog_1_method_35_code
def yX3_bit : MethodName := ⟨RX3, "bit", "(I)I"⟩
abbrev cX3_has : ByteArray := prog_1_method_36_code
def yX3_has : MethodName := ⟨RX3, "has", "(II)Z"⟩
def RX4 : String := "WarTableModel"
def TX4 : u_T := fun k => match k with
  | 0 => ("WarTableModel", "paved", "[I", true)
  | 1 => ("WarTableModel", "roads", "I", false)
  | 2 => ("WarTableModel", "depots", "[I", true)
  | 3 => ("WarTableModel", "sides", "[I", true)
  | 4 => ("WarTableModel", "many", "I", false)
  | 5 => ("WarTableModel", "towns", "[I", true)
  | 6 => ("WarTableModel", "strengths", "[I", true)
  | 7 => ("WarTableModel", "orders", "[I", true)
  | 8 => ("WarTableModel", "next", "[I", true)
  | 9 => ("WarTableModel", "weathers", "[I", true)
  | 10 => ("WarTableModel", "seen", "[I", true)
  | 11 => ("WarTableModel", "turns", "I", false)
  | 12 => ("WarTableModel", "ruled", "[I", true)
  | 13 => ("WarTableModel", "before", "[I", true)
  | 14 => ("WarTableModel", "rulingsNow", "I", false)
  | 15 => ("WarTableModel", "place", "[I", true)
  | 16 => ("WarTableModel", "force", "[I", true)
  | 17 => ("WarTableModel", "supplied", "[I", true)
  | 18 => ("WarTableModel", "goal", "[I", true)
  | 19 => ("WarTableModel", "far", "[I", true)
  | 20 => ("WarTableModel", "had", "[I", true)
  | _ => ("WarTableModel", "thrown", "I", false)
def tyX4 : Nat → FieldType := fun k => match k with
  | 0 => .array .int
  | 1 => .int
  | 2 => .array .int
  | 3 => .array .int
  | 4 => .int
  | 5 => .array .int
  | 6 => .array .int
  | 7 => .array .int
  | 8 => .array .int
  | 9 => .array .int
  | 10 => .array .int
  | 11 => .int
  | 12 => .array .int
  | 13 => .array .int
  | 14 => .int
  | 15 => .array .int
  | 16 => .array .int
  | 17 => .array .int
  | 18 => .array .int
  | 19 => .array .int
  | 20 => .array .int
  | _ => .int
abbrev wsX40 : List Cond := u_ws RX4 TX4 22
theorem nmX4 : ∀ a, a < 22 → ∀ b, b < 22 → a ≠ b → (TX4 a).2.1 ≠ (TX4 b).2.1 := by decide +kernel
theorem tyX4_ok : ∀ k, k < 22 → parseFieldDescriptor (TX4 k).2.2.1 = some (tyX4 k) := by decide +kernel
abbrev cX4_init : ByteArray := prog_6_method_1_code
def yX4_init : MethodName := ⟨RX4, "<init>", "()V"⟩
abbrev cX4_thrown : ByteArray := prog_6_method_2_code
def yX4_thrown : MethodName := ⟨RX4, "thrown", "()I"⟩
abbrev cX4_fails : ByteArray := prog_6_method_3_code
def yX4_fails : MethodName := ⟨RX4, "fails", "(I)I"⟩
abbrev cX4_in : ByteArray := prog_6_method_4_code
def yX4_in : MethodName := ⟨RX4, "in", "(III)Z"⟩
abbrev cX4_isTown : ByteArray := prog_6_method_5_code
def yX4_isTown : MethodName := ⟨RX4, "isTown", "(I)Z"⟩
abbrev cX4_isUnit : ByteArray := prog_6_method_6_code
def yX4_isUnit : MethodName := ⟨RX4, "isUnit", "(I)Z"⟩
abbrev cX4_addRoad : ByteArray := prog_6_method_7_code
def yX4_addRoad : MethodName := ⟨RX4, "addRoad", "(IIZ)I"⟩
abbrev cX4_setDepot : ByteArray := prog_6_method_8_code
def yX4_setDepot : MethodName := ⟨RX4, "setDepot", "(II)I"⟩
abbrev cX4_isHeld : ByteArray := prog_6_method_9_code
def yX4_isHeld : MethodName := ⟨RX4, "isHeld", "(II)Z"⟩
abbrev cX4_take : ByteArray := prog_6_method_10_code
def yX4_take : MethodName := ⟨RX4, "take", "(I)V"⟩
abbrev cX4_addUnit : ByteArray := prog_6_method_11_code
def yX4_addUnit : MethodName := ⟨RX4, "addUnit", "(III)I"⟩
abbrev cX4_order : ByteArray := prog_6_method_12_code
def yX4_order : MethodName := ⟨RX4, "order", "(II)I"⟩
abbrev cX4_isOpen : ByteArray := prog_6_method_13_code
def yX4_isOpen : MethodName := ⟨RX4, "isOpen", "(III)Z"⟩
abbrev cX4_supplyOf : ByteArray := prog_6_method_14_code
def yX4_supplyOf : MethodName := ⟨RX4, "supplyOf", "(II)I"⟩
abbrev cX4_march : ByteArray := prog_6_method_15_code
def yX4_march : MethodName := ⟨RX4, "march", "(I)V"⟩
abbrev cX4_sumIn : ByteArray := prog_6_method_16_code
def yX4_sumIn : MethodName := ⟨RX4, "sumIn", "(II)I"⟩
abbrev cX4_fight : ByteArray := prog_6_method_17_code
def yX4_fight : MethodName := ⟨RX4, "fight", "(I)V"⟩
abbrev cX4_sees : ByteArray := prog_6_method_18_code
def yX4_sees : MethodName := ⟨RX4, "sees", "(II)Z"⟩
abbrev cX4_playTurn : ByteArray := prog_6_method_19_code
def yX4_playTurn : MethodName := ⟨RX4, "playTurn", "(I)V"⟩
abbrev cX4_lostBy : ByteArray := prog_6_method_20_code
def yX4_lostBy : MethodName := ⟨RX4, "lostBy", "(I)I"⟩
abbrev cX4_play : ByteArray := prog_6_method_21_code
def yX4_play : MethodName := ⟨RX4, "play", "(I)I"⟩
abbrev cX4_played : ByteArray := prog_6_method_22_code
def yX4_played : MethodName := ⟨RX4, "played", "()I"⟩
abbrev cX4_again : ByteArray := prog_6_method_23_code
def yX4_again : MethodName := ⟨RX4, "again", "(II)I"⟩
abbrev cX4_rule : ByteArray := prog_6_method_24_code
def yX4_rule : MethodName := ⟨RX4, "rule", "(II)I"⟩
abbrev cX4_appeal : ByteArray := prog_6_method_25_code
def yX4_appeal : MethodName := ⟨RX4, "appeal", "()I"⟩
abbrev cX4_townOf : ByteArray := prog_6_method_26_code
def yX4_townOf : MethodName := ⟨RX4, "townOf", "(I)I"⟩
abbrev cX4_strength : ByteArray := prog_6_method_27_code
def yX4_strength : MethodName := ⟨RX4, "strength", "(I)I"⟩
abbrev cX4_supply : ByteArray := prog_6_method_28_code
def yX4_supply : MethodName := ⟨RX4, "supply", "(II)I"⟩
abbrev cX4_townAfter : ByteArray := prog_6_method_29_code
def yX4_townAfter : MethodName := ⟨RX4, "townAfter", "(II)I"⟩
abbrev cX4_reported : ByteArray := prog_6_method_30_code
def yX4_reported : MethodName := ⟨RX4, "reported", "(II)I"⟩
abbrev cX4_force : ByteArray := prog_6_method_31_code
def yX4_force : MethodName := ⟨RX4, "force", "(I)I"⟩
abbrev cX4_weather : ByteArray := prog_6_method_32_code
def yX4_weather : MethodName := ⟨RX4, "weather", "(I)I"⟩
abbrev cX4_rulings : ByteArray := prog_6_method_33_code
def yX4_rulings : MethodName := ⟨RX4, "rulings", "()I"⟩
def RJ9 : String := "java/lang/Math"
def TJ9 : u_T := fun k => match k with
  | _ => ("", "", "", false)
def tyJ9 : Nat → FieldType := fun k => match k with
  | _ => .int
abbrev wsJ90 : List Cond := u_ws RJ9 TJ9 0
theorem nmJ9 : ∀ a, a < 0 → ∀ b, b < 0 → a ≠ b → (TJ9 a).2.1 ≠ (TJ9 b).2.1 := by decide +kernel
theorem tyJ9_ok : ∀ k, k < 0 → parseFieldDescriptor (TJ9 k).2.2.1 = some (tyJ9 k) := by decide +kernel
abbrev cJ9_max_7cf53 : ByteArray := prog_11_method_65_code
def yJ9_max_7cf53 : MethodName := ⟨RJ9, "max", "(II)I"⟩
abbrev cJ9_min_7cf53 : ByteArray := prog_11_method_69_code
def yJ9_min_7cf53 : MethodName := ⟨RJ9, "min", "(II)I"⟩
def RJ0 : String := "java/lang/String"
def TJ0 : u_T := fun k => match k with
  | _ => ("", "", "", false)
def tyJ0 : Nat → FieldType := fun k => match k with
  | _ => .int
abbrev wsJ00 : List Cond := u_ws RJ0 TJ0 0
theorem nmJ0 : ∀ a, a < 0 → ∀ b, b < 0 → a ≠ b → (TJ0 a).2.1 ≠ (TJ0 b).2.1 := by decide +kernel
theorem tyJ0_ok : ∀ k, k < 0 → parseFieldDescriptor (TJ0 k).2.2.1 = some (tyJ0 k) := by decide +kernel
def RL : String := "WarTableLaw"
abbrev cL_addRoad : ByteArray := method_3_code
def yL_addRoad : MethodName := ⟨RL, "addRoad", "(LWarTable;IIZ[J)I"⟩
abbrev cL_setDepot : ByteArray := method_4_code
def yL_setDepot : MethodName := ⟨RL, "setDepot", "(LWarTable;II[J)I"⟩
abbrev cL_addUnit : ByteArray := method_5_code
def yL_addUnit : MethodName := ⟨RL, "addUnit", "(LWarTable;III[J)I"⟩
abbrev cL_order : ByteArray := method_6_code
def yL_order : MethodName := ⟨RL, "order", "(LWarTable;II[J)I"⟩
abbrev cL_play : ByteArray := method_7_code
def yL_play : MethodName := ⟨RL, "play", "(LWarTable;I[J)I"⟩
abbrev cL_rule : ByteArray := method_8_code
def yL_rule : MethodName := ⟨RL, "rule", "(LWarTable;II[J)I"⟩
abbrev cL_appeal : ByteArray := method_9_code
def yL_appeal : MethodName := ⟨RL, "appeal", "(LWarTable;[J)I"⟩
abbrev cL_townOf : ByteArray := method_10_code
def yL_townOf : MethodName := ⟨RL, "townOf", "(LWarTable;I[J)I"⟩
abbrev cL_strength : ByteArray := method_11_code
def yL_strength : MethodName := ⟨RL, "strength", "(LWarTable;I[J)I"⟩
abbrev cL_supply : ByteArray := method_12_code
def yL_supply : MethodName := ⟨RL, "supply", "(LWarTable;II[J)I"⟩
abbrev cL_townAfter : ByteArray := method_13_code
def yL_townAfter : MethodName := ⟨RL, "townAfter", "(LWarTable;II[J)I"⟩
abbrev cL_reported : ByteArray := method_14_code
def yL_reported : MethodName := ⟨RL, "reported", "(LWarTable;II[J)I"⟩
abbrev cL_force : ByteArray := method_15_code
def yL_force : MethodName := ⟨RL, "force", "(LWarTable;I[J)I"⟩
abbrev cL_weather : ByteArray := method_16_code
def yL_weather : MethodName := ⟨RL, "weather", "(LWarTable;I[J)I"⟩
abbrev cL_law : ByteArray := code
def yL_law : MethodName := ⟨RL, "law", "([I)Z"⟩
def wsX0_init : List Cond := .code yX0_init cX0_init 1 none :: ([.methodLink RX0 3 objectInit, .instanceMethod objectInit, .code objectInit ⟨#[0xb1]⟩ 1 none, .arrayClass .int, .fieldLink RX0 9 "WarTable$RoadMap" "nextOverPaved" "[I", .fieldLink RX0 15 "WarTable$RoadMap" "nextOverUnpaved" "[I", .fieldLink RX0 18 "WarTable$RoadMap" "roads" "I"] ++ wsX00)
def wsX0_roads : List Cond := .code yX0_roads cX0_roads 1 (some .int) :: ([.fieldLink RX0 18 "WarTable$RoadMap" "roads" "I"] ++ wsX00)
def wsX3_below : List Cond := .code yX3_below cX3_below 2 (some .boolean) :: ([])
def wsX0_nextOverOpen : List Cond := .code yX0_nextOverOpen cX0_nextOverOpen 3 (some .int) :: ([.fieldLink RX0 9 "WarTable$RoadMap" "nextOverPaved" "[I", .fieldLink RX0 15 "WarTable$RoadMap" "nextOverUnpaved" "[I", .static yX3_below, .initialized RX3, .code yX3_below cX3_below 2 (some .boolean)] ++ wsX00)
def wsX3_bit : List Cond := .code yX3_bit cX3_bit 1 (some .int) :: ([])
def wsX3_has : List Cond := .code yX3_has cX3_has 2 (some .boolean) :: ([.methodLink RX3 202 yX3_bit, .static yX3_bit, .initialized RX3, .code yX3_bit cX3_bit 1 (some .int)])
def wsX0_joins : List Cond := .code yX0_joins cX0_joins 3 (some .boolean) :: ([.methodLink RX0 22 yX0_nextOverOpen, .instanceMethod yX0_nextOverOpen, .selects RX0 yX0_nextOverOpen yX0_nextOverOpen, .initialized RX0, .code yX0_nextOverOpen cX0_nextOverOpen 3 (some .int), .fieldLink RX0 9 "WarTable$RoadMap" "nextOverPaved" "[I", .fieldLink RX0 15 "WarTable$RoadMap" "nextOverUnpaved" "[I", .static yX3_below, .initialized RX3, .code yX3_below cX3_below 2 (some .boolean), .static yX3_has, .code yX3_has cX3_has 2 (some .boolean), .methodLink RX3 202 yX3_bit, .static yX3_bit, .code yX3_bit cX3_bit 1 (some .int)] ++ wsX00)
def wsX0_join : List Cond := .code yX0_join cX0_join 5 none :: ([.fieldLink RX0 9 "WarTable$RoadMap" "nextOverPaved" "[I", .fieldLink RX0 15 "WarTable$RoadMap" "nextOverUnpaved" "[I", .fieldLink RX0 18 "WarTable$RoadMap" "roads" "I", .static yX3_below, .initialized RX3, .code yX3_below cX3_below 2 (some .boolean), .static yX3_bit, .code yX3_bit cX3_bit 1 (some .int)] ++ wsX00)
def wsX0_widened : List Cond := .code yX0_widened cX0_widened 5 (some .int) :: ([.static yX3_has, .initialized RX3, .code yX3_has cX3_has 2 (some .boolean), .methodLink RX3 202 yX3_bit, .static yX3_bit, .code yX3_bit cX3_bit 1 (some .int), .methodLink RX0 22 yX0_nextOverOpen, .instanceMethod yX0_nextOverOpen, .selects RX0 yX0_nextOverOpen yX0_nextOverOpen, .initialized RX0, .code yX0_nextOverOpen cX0_nextOverOpen 3 (some .int), .fieldLink RX0 9 "WarTable$RoadMap" "nextOverPaved" "[I", .fieldLink RX0 15 "WarTable$RoadMap" "nextOverUnpaved" "[I", .static yX3_below, .code yX3_below cX3_below 2 (some .boolean)] ++ wsX00)
def wsX1_init : List Cond := .code yX1_init cX1_init 1 none :: ([.methodLink RX1 3 objectInit, .instanceMethod objectInit, .code objectInit ⟨#[0xb1]⟩ 1 none, .arrayClass .int, .fieldLink RX1 9 "WarTable$Rulings" "turns" "[I", .fieldLink RX1 15 "WarTable$Rulings" "weathersBefore" "[I", .fieldLink RX1 18 "WarTable$Rulings" "count" "I"] ++ wsX10)
def wsX1_count : List Cond := .code yX1_count cX1_count 1 (some .int) :: ([.fieldLink RX1 18 "WarTable$Rulings" "count" "I"] ++ wsX10)
def wsX1_isFull : List Cond := .code yX1_isFull cX1_isFull 1 (some .boolean) :: ([.fieldLink RX1 18 "WarTable$Rulings" "count" "I"] ++ wsX10)
def wsX1_push : List Cond := .code yX1_push cX1_push 3 none :: ([.fieldLink RX1 18 "WarTable$Rulings" "count" "I", .fieldLink RX1 9 "WarTable$Rulings" "turns" "[I", .fieldLink RX1 15 "WarTable$Rulings" "weathersBefore" "[I", .static yX3_below, .initialized RX3, .code yX3_below cX3_below 2 (some .boolean)] ++ wsX10)
def wsX1_pop : List Cond := .code yX1_pop cX1_pop 1 none :: ([.fieldLink RX1 18 "WarTable$Rulings" "count" "I"] ++ wsX10)
def wsX1_lastTurn : List Cond := .code yX1_lastTurn cX1_lastTurn 1 (some .int) :: ([.fieldLink RX1 18 "WarTable$Rulings" "count" "I", .fieldLink RX1 9 "WarTable$Rulings" "turns" "[I", .static yX3_below, .initialized RX3, .code yX3_below cX3_below 2 (some .boolean)] ++ wsX10)
def wsX1_lastWeatherBefore : List Cond := .code yX1_lastWeatherBefore cX1_lastWeatherBefore 1 (some .int) :: ([.fieldLink RX1 18 "WarTable$Rulings" "count" "I", .fieldLink RX1 15 "WarTable$Rulings" "weathersBefore" "[I", .static yX3_below, .initialized RX3, .code yX3_below cX3_below 2 (some .boolean)] ++ wsX10)
def wsX2_init : List Cond := .code yX2_init cX2_init 1 none :: ([.methodLink RX2 3 objectInit, .instanceMethod objectInit, .code objectInit ⟨#[0xb1]⟩ 1 none, .arrayClass .int, .fieldLink RX2 9 "WarTable$Units" "sides" "[I", .fieldLink RX2 15 "WarTable$Units" "towns" "[I", .fieldLink RX2 18 "WarTable$Units" "strengths" "[I", .fieldLink RX2 21 "WarTable$Units" "orders" "[I", .fieldLink RX2 24 "WarTable$Units" "count" "I"] ++ wsX20)
def wsX2_count : List Cond := .code yX2_count cX2_count 1 (some .int) :: ([.fieldLink RX2 24 "WarTable$Units" "count" "I"] ++ wsX20)
def wsX2_isKept : List Cond := .code yX2_isKept cX2_isKept 2 (some .boolean) :: ([])
def wsX2_index : List Cond := .code yX2_index cX2_index 2 (some .int) :: ([])
def wsX2_place : List Cond := .code yX2_place cX2_place 5 none :: ([.fieldLink RX2 15 "WarTable$Units" "towns" "[I", .fieldLink RX2 18 "WarTable$Units" "strengths" "[I", .methodLink RX2 43 Lib.Math.max.name, .static Lib.Math.max.name, .initialized "java/lang/Math", .code Lib.Math.max.name Lib.Math.max.code 2 (some .int), .methodLink RX2 36 yX2_isKept, .static yX2_isKept, .initialized RX2, .code yX2_isKept cX2_isKept 2 (some .boolean), .methodLink RX2 39 yX2_index, .static yX2_index, .code yX2_index cX2_index 2 (some .int)] ++ wsX20)
def wsX2_add : List Cond := .code yX2_add cX2_add 5 (some .int) :: ([.fieldLink RX2 24 "WarTable$Units" "count" "I", .fieldLink RX2 9 "WarTable$Units" "sides" "[I", .static yX3_below, .initialized RX3, .code yX3_below cX3_below 2 (some .boolean), .methodLink RX2 32 yX2_place, .instanceMethod yX2_place, .selects RX2 yX2_place yX2_place, .initialized RX2, .code yX2_place cX2_place 5 none, .fieldLink RX2 15 "WarTable$Units" "towns" "[I", .fieldLink RX2 18 "WarTable$Units" "strengths" "[I", .methodLink RX2 43 Lib.Math.max.name, .static Lib.Math.max.name, .initialized "java/lang/Math", .code Lib.Math.max.name Lib.Math.max.code 2 (some .int), .methodLink RX2 36 yX2_isKept, .static yX2_isKept, .code yX2_isKept cX2_isKept 2 (some .boolean), .methodLink RX2 39 yX2_index, .static yX2_index, .code yX2_index cX2_index 2 (some .int)] ++ wsX20)
def wsX2_sideOf : List Cond := .code yX2_sideOf cX2_sideOf 2 (some .int) :: ([.fieldLink RX2 9 "WarTable$Units" "sides" "[I", .static yX3_below, .initialized RX3, .code yX3_below cX3_below 2 (some .boolean)] ++ wsX20)
def wsX2_townAt : List Cond := .code yX2_townAt cX2_townAt 3 (some .int) :: ([.fieldLink RX2 15 "WarTable$Units" "towns" "[I", .methodLink RX2 36 yX2_isKept, .static yX2_isKept, .initialized RX2, .code yX2_isKept cX2_isKept 2 (some .boolean), .methodLink RX2 39 yX2_index, .static yX2_index, .code yX2_index cX2_index 2 (some .int)] ++ wsX20)
def wsX2_strengthAt : List Cond := .code yX2_strengthAt cX2_strengthAt 3 (some .int) :: ([.fieldLink RX2 18 "WarTable$Units" "strengths" "[I", .methodLink RX2 36 yX2_isKept, .static yX2_isKept, .initialized RX2, .code yX2_isKept cX2_isKept 2 (some .boolean), .methodLink RX2 39 yX2_index, .static yX2_index, .code yX2_index cX2_index 2 (some .int)] ++ wsX20)
def wsX2_orderFor : List Cond := .code yX2_orderFor cX2_orderFor 3 (some .int) :: ([.fieldLink RX2 21 "WarTable$Units" "orders" "[I", .methodLink RX2 36 yX2_isKept, .static yX2_isKept, .initialized RX2, .code yX2_isKept cX2_isKept 2 (some .boolean), .methodLink RX2 39 yX2_index, .static yX2_index, .code yX2_index cX2_index 2 (some .int)] ++ wsX20)
def wsX2_giveOrder : List Cond := .code yX2_giveOrder cX2_giveOrder 4 none :: ([.fieldLink RX2 21 "WarTable$Units" "orders" "[I", .methodLink RX2 36 yX2_isKept, .static yX2_isKept, .initialized RX2, .code yX2_isKept cX2_isKept 2 (some .boolean), .methodLink RX2 39 yX2_index, .static yX2_index, .code yX2_index cX2_index 2 (some .int)] ++ wsX20)
def wsX2_copyMoment_r1 : List Cond := [Cond.fieldLink RX2 24 "WarTable$Units" "count" "I", Cond.methodLink RX2 48 yX2_townAt, Cond.instanceMethod yX2_townAt, Cond.selects RX2 yX2_townAt yX2_townAt, Cond.initialized RX2, Cond.code yX2_townAt cX2_townAt 3 (some .int), Cond.fieldLink RX2 15 "WarTable$Units" "towns" "[I", Cond.methodLink RX2 36 yX2_isKept, Cond.static yX2_isKept, Cond.code yX2_isKept cX2_isKept 2 (some .boolean), Cond.methodLink RX2 39 yX2_index, Cond.static yX2_index, Cond.code yX2_index cX2_index 2 (some .int), Cond.methodLink RX2 51 yX2_strengthAt, Cond.instanceMethod yX2_strengthAt, Cond.selects RX2 yX2_strengthAt yX2_strengthAt, Cond.code yX2_strengthAt cX2_strengthAt 3 (some .int), Cond.fieldLink RX2 18 "WarTable$Units" "strengths" "[I", Cond.methodLink RX2 32 yX2_place, Cond.instanceMethod yX2_place, Cond.selects RX2 yX2_place yX2_place, Cond.code yX2_place cX2_place 5 none, Cond.methodLink RX2 43 Lib.Math.max.name, Cond.static Lib.Math.max.name]
def wsX2_copyMoment_r2 : List Cond := [Cond.initialized "java/lang/Math", Cond.code Lib.Math.max.name Lib.Math.max.code 2 (some .int)]
def wsX2_copyMoment : List Cond := .code yX2_copyMoment cX2_copyMoment 4 none :: ((wsX2_copyMoment_r1 ++ wsX2_copyMoment_r2) ++ wsX20)
def wsX2_differing : List Cond := .code yX2_differing cX2_differing 5 (some .int) :: ([.fieldLink RX2 24 "WarTable$Units" "count" "I", .methodLink RX2 48 yX2_townAt, .instanceMethod yX2_townAt, .selects RX2 yX2_townAt yX2_townAt, .initialized RX2, .code yX2_townAt cX2_townAt 3 (some .int), .fieldLink RX2 15 "WarTable$Units" "towns" "[I", .methodLink RX2 36 yX2_isKept, .static yX2_isKept, .code yX2_isKept cX2_isKept 2 (some .boolean), .methodLink RX2 39 yX2_index, .static yX2_index, .code yX2_index cX2_index 2 (some .int), .methodLink RX2 51 yX2_strengthAt, .instanceMethod yX2_strengthAt, .selects RX2 yX2_strengthAt yX2_strengthAt, .code yX2_strengthAt cX2_strengthAt 3 (some .int), .fieldLink RX2 18 "WarTable$Units" "strengths" "[I"] ++ wsX20)
def wsX2_livingAt : List Cond := .code yX2_livingAt cX2_livingAt 4 (some .int) :: ([.fieldLink RX2 24 "WarTable$Units" "count" "I", .methodLink RX2 48 yX2_townAt, .instanceMethod yX2_townAt, .selects RX2 yX2_townAt yX2_townAt, .initialized RX2, .code yX2_townAt cX2_townAt 3 (some .int), .fieldLink RX2 15 "WarTable$Units" "towns" "[I", .methodLink RX2 36 yX2_isKept, .static yX2_isKept, .code yX2_isKept cX2_isKept 2 (some .boolean), .methodLink RX2 39 yX2_index, .static yX2_index, .code yX2_index cX2_index 2 (some .int)] ++ wsX20)
def wsX2_townsHeld : List Cond := .code yX2_townsHeld cX2_townsHeld 6 (some .int) :: ([.fieldLink RX2 24 "WarTable$Units" "count" "I", .methodLink RX2 48 yX2_townAt, .instanceMethod yX2_townAt, .selects RX2 yX2_townAt yX2_townAt, .initialized RX2, .code yX2_townAt cX2_townAt 3 (some .int), .fieldLink RX2 15 "WarTable$Units" "towns" "[I", .methodLink RX2 36 yX2_isKept, .static yX2_isKept, .code yX2_isKept cX2_isKept 2 (some .boolean), .methodLink RX2 39 yX2_index, .static yX2_index, .code yX2_index cX2_index 2 (some .int), .methodLink RX2 54 yX2_sideOf, .instanceMethod yX2_sideOf, .selects RX2 yX2_sideOf yX2_sideOf, .code yX2_sideOf cX2_sideOf 2 (some .int), .fieldLink RX2 9 "WarTable$Units" "sides" "[I", .static yX3_below, .initialized RX3, .code yX3_below cX3_below 2 (some .boolean), .static yX3_bit, .code yX3_bit cX3_bit 1 (some .int)] ++ wsX20)
def wsX3_init_r1 : List Cond := [Cond.methodLink RX3 3 objectInit, Cond.instanceMethod objectInit, Cond.code objectInit ⟨#[0xb1]⟩ 1 none, Cond.classLink RX3 9 RX0, Cond.instantiable RX0 3, Cond.initialized RX0, Cond.fieldLink RX3 12 "WarTable" "map" "LWarTable$RoadMap;", Cond.arrayClass .int, Cond.fieldLink RX3 16 "WarTable" "depots" "[I", Cond.classLink RX3 20 RX2, Cond.instantiable RX2 5, Cond.initialized RX2, Cond.fieldLink RX3 23 "WarTable" "units" "LWarTable$Units;", Cond.fieldLink RX3 27 "WarTable" "weathers" "[I", Cond.fieldLink RX3 30 "WarTable" "seen" "[I", Cond.classLink RX3 33 RX1, Cond.instantiable RX1 3, Cond.initialized RX1, Cond.fieldLink RX3 36 "WarTable" "standing" "LWarTable$Rulings;", Cond.fieldLink RX3 40 "WarTable" "turns" "I", Cond.instanceMethod yX0_init, Cond.code yX0_init cX0_init 1 none, Cond.methodLink RX0 3 objectInit, Cond.fieldLink RX0 9 "WarTable$RoadMap" "nextOverPaved" "[I"]
def wsX3_init_r2 : List Cond := [Cond.fieldLink RX0 15 "WarTable$RoadMap" "nextOverUnpaved" "[I", Cond.fieldLink RX0 18 "WarTable$RoadMap" "roads" "I", Cond.instanceMethod yX2_init, Cond.code yX2_init cX2_init 1 none, Cond.methodLink RX2 3 objectInit, Cond.fieldLink RX2 9 "WarTable$Units" "sides" "[I", Cond.fieldLink RX2 15 "WarTable$Units" "towns" "[I", Cond.fieldLink RX2 18 "WarTable$Units" "strengths" "[I", Cond.fieldLink RX2 21 "WarTable$Units" "orders" "[I", Cond.fieldLink RX2 24 "WarTable$Units" "count" "I", Cond.instanceMethod yX1_init, Cond.code yX1_init cX1_init 1 none, Cond.methodLink RX1 3 objectInit, Cond.fieldLink RX1 9 "WarTable$Rulings" "turns" "[I", Cond.fieldLink RX1 15 "WarTable$Rulings" "weathersBefore" "[I", Cond.fieldLink RX1 18 "WarTable$Rulings" "count" "I"]
def wsX3_init : List Cond := .code yX3_init cX3_init 1 none :: ((wsX3_init_r1 ++ wsX3_init_r2) ++ wsX00 ++ wsX30 ++ wsX20 ++ wsX10)
def wsX3_addRoad_r1 : List Cond := [Cond.classLink RX3 48 "java/lang/IllegalArgumentException", Cond.initialized "java/lang/IllegalArgumentException", Cond.classLink RX3 62 "java/lang/IllegalStateException", Cond.initialized "java/lang/IllegalStateException", Cond.fieldLink RX3 40 "WarTable" "turns" "I", Cond.fieldLink RX3 12 "WarTable" "map" "LWarTable$RoadMap;", Cond.methodLink RX3 44 yX3_below, Cond.static yX3_below, Cond.initialized RX3, Cond.code yX3_below cX3_below 2 (some .boolean), Cond.methodLink RX3 55 yX0_joins, Cond.instanceMethod yX0_joins, Cond.selects RX0 yX0_joins yX0_joins, Cond.initialized RX0, Cond.code yX0_joins cX0_joins 3 (some .boolean), Cond.methodLink RX0 22 yX0_nextOverOpen, Cond.instanceMethod yX0_nextOverOpen, Cond.selects RX0 yX0_nextOverOpen yX0_nextOverOpen, Cond.code yX0_nextOverOpen cX0_nextOverOpen 3 (some .int), Cond.fieldLink RX0 9 "WarTable$RoadMap" "nextOverPaved" "[I", Cond.fieldLink RX0 15 "WarTable$RoadMap" "nextOverUnpaved" "[I", Cond.static yX3_has, Cond.code yX3_has cX3_has 2 (some .boolean), Cond.methodLink RX3 202 yX3_bit]
def wsX3_addRoad_r2 : List Cond := [Cond.static yX3_bit, Cond.code yX3_bit cX3_bit 1 (some .int), Cond.methodLink RX3 58 yX0_roads, Cond.instanceMethod yX0_roads, Cond.selects RX0 yX0_roads yX0_roads, Cond.code yX0_roads cX0_roads 1 (some .int), Cond.fieldLink RX0 18 "WarTable$RoadMap" "roads" "I", Cond.methodLink RX3 67 yX0_join, Cond.instanceMethod yX0_join, Cond.selects RX0 yX0_join yX0_join, Cond.code yX0_join cX0_join 5 none]
def wsX3_addRoad : List Cond := .code yX3_addRoad cX3_addRoad 4 (some .int) :: ((wsX3_addRoad_r1 ++ wsX3_addRoad_r2) ++ wsX30 ++ wsX00 ++ (vx_atS RX3 52 "java/lang/IllegalArgumentException" ["java/lang/RuntimeException", "java/lang/Exception"]).filter goodWord ++ (vx_atS RX3 66 "java/lang/IllegalStateException" ["java/lang/RuntimeException", "java/lang/Exception"]).filter goodWord)
def wsX3_setDepot : List Cond := .code yX3_setDepot cX3_setDepot 4 (some .int) :: ([.classLink RX3 48 "java/lang/IllegalArgumentException", .initialized "java/lang/IllegalArgumentException", .classLink RX3 62 "java/lang/IllegalStateException", .initialized "java/lang/IllegalStateException", .fieldLink RX3 40 "WarTable" "turns" "I", .fieldLink RX3 16 "WarTable" "depots" "[I", .methodLink RX3 44 yX3_below, .static yX3_below, .initialized RX3, .code yX3_below cX3_below 2 (some .boolean)] ++ wsX30 ++ (vx_atS RX3 52 "java/lang/IllegalArgumentException" ["java/lang/RuntimeException", "java/lang/Exception"]).filter goodWord ++ (vx_atS RX3 66 "java/lang/IllegalStateException" ["java/lang/RuntimeException", "java/lang/Exception"]).filter goodWord)
def wsX3_opponent : List Cond := .code yX3_opponent cX3_opponent 1 (some .int) :: ([])
def wsX3_addUnit_r1 : List Cond := [Cond.classLink RX3 48 "java/lang/IllegalArgumentException", Cond.initialized "java/lang/IllegalArgumentException", Cond.classLink RX3 62 "java/lang/IllegalStateException", Cond.initialized "java/lang/IllegalStateException", Cond.fieldLink RX3 40 "WarTable" "turns" "I", Cond.fieldLink RX3 23 "WarTable" "units" "LWarTable$Units;", Cond.methodLink RX3 44 yX3_below, Cond.static yX3_below, Cond.initialized RX3, Cond.code yX3_below cX3_below 2 (some .boolean), Cond.methodLink RX3 77 yX3_opponent, Cond.static yX3_opponent, Cond.code yX3_opponent cX3_opponent 1 (some .int), Cond.methodLink RX3 81 yX2_townsHeld, Cond.instanceMethod yX2_townsHeld, Cond.selects RX2 yX2_townsHeld yX2_townsHeld, Cond.initialized RX2, Cond.code yX2_townsHeld cX2_townsHeld 6 (some .int), Cond.fieldLink RX2 24 "WarTable$Units" "count" "I", Cond.methodLink RX2 48 yX2_townAt, Cond.instanceMethod yX2_townAt, Cond.selects RX2 yX2_townAt yX2_townAt, Cond.code yX2_townAt cX2_townAt 3 (some .int), Cond.fieldLink RX2 15 "WarTable$Units" "towns" "[I"]
def wsX3_addUnit_r2 : List Cond := [Cond.methodLink RX2 36 yX2_isKept, Cond.static yX2_isKept, Cond.code yX2_isKept cX2_isKept 2 (some .boolean), Cond.methodLink RX2 39 yX2_index, Cond.static yX2_index, Cond.code yX2_index cX2_index 2 (some .int), Cond.methodLink RX2 54 yX2_sideOf, Cond.instanceMethod yX2_sideOf, Cond.selects RX2 yX2_sideOf yX2_sideOf, Cond.code yX2_sideOf cX2_sideOf 2 (some .int), Cond.fieldLink RX2 9 "WarTable$Units" "sides" "[I", Cond.static yX3_bit, Cond.code yX3_bit cX3_bit 1 (some .int), Cond.methodLink RX3 85 yX3_has, Cond.static yX3_has, Cond.code yX3_has cX3_has 2 (some .boolean), Cond.methodLink RX3 202 yX3_bit, Cond.methodLink RX3 88 yX2_count, Cond.instanceMethod yX2_count, Cond.selects RX2 yX2_count yX2_count, Cond.code yX2_count cX2_count 1 (some .int), Cond.methodLink RX3 93 yX2_add, Cond.instanceMethod yX2_add, Cond.selects RX2 yX2_add yX2_add]
def wsX3_addUnit_r3 : List Cond := [Cond.code yX2_add cX2_add 5 (some .int), Cond.methodLink RX2 32 yX2_place, Cond.instanceMethod yX2_place, Cond.selects RX2 yX2_place yX2_place, Cond.code yX2_place cX2_place 5 none, Cond.fieldLink RX2 18 "WarTable$Units" "strengths" "[I", Cond.methodLink RX2 43 Lib.Math.max.name, Cond.static Lib.Math.max.name, Cond.initialized "java/lang/Math", Cond.code Lib.Math.max.name Lib.Math.max.code 2 (some .int)]
def wsX3_addUnit : List Cond := .code yX3_addUnit cX3_addUnit 4 (some .int) :: ((wsX3_addUnit_r1 ++ (wsX3_addUnit_r2 ++ wsX3_addUnit_r3)) ++ wsX30 ++ wsX20 ++ (vx_atS RX3 52 "java/lang/IllegalArgumentException" ["java/lang/RuntimeException", "java/lang/Exception"]).filter goodWord ++ (vx_atS RX3 66 "java/lang/IllegalStateException" ["java/lang/RuntimeException", "java/lang/Exception"]).filter goodWord)
def wsX3_checkUnit : List Cond := .code yX3_checkUnit cX3_checkUnit 2 none :: ([.classLink RX3 165 "java/lang/IndexOutOfBoundsException", .initialized "java/lang/IndexOutOfBoundsException", .fieldLink RX3 23 "WarTable" "units" "LWarTable$Units;", .methodLink RX3 88 yX2_count, .instanceMethod yX2_count, .selects RX2 yX2_count yX2_count, .initialized RX2, .code yX2_count cX2_count 1 (some .int), .fieldLink RX2 24 "WarTable$Units" "count" "I", .methodLink RX3 44 yX3_below, .static yX3_below, .initialized RX3, .code yX3_below cX3_below 2 (some .boolean)] ++ wsX30 ++ wsX20 ++ (vx_atS RX3 169 "java/lang/IndexOutOfBoundsException" ["java/lang/RuntimeException", "java/lang/Exception"]).filter goodWord)
def wsX3_order_r1 : List Cond := [Cond.classLink RX3 48 "java/lang/IllegalArgumentException", Cond.initialized "java/lang/IllegalArgumentException", Cond.fieldLink RX3 23 "WarTable" "units" "LWarTable$Units;", Cond.fieldLink RX3 40 "WarTable" "turns" "I", Cond.methodLink RX3 97 yX3_checkUnit, Cond.instanceMethod yX3_checkUnit, Cond.selects RX3 yX3_checkUnit yX3_checkUnit, Cond.initialized RX3, Cond.code yX3_checkUnit cX3_checkUnit 2 none, Cond.classLink RX3 165 "java/lang/IndexOutOfBoundsException", Cond.initialized "java/lang/IndexOutOfBoundsException", Cond.methodLink RX3 88 yX2_count, Cond.instanceMethod yX2_count, Cond.selects RX2 yX2_count yX2_count, Cond.initialized RX2, Cond.code yX2_count cX2_count 1 (some .int), Cond.fieldLink RX2 24 "WarTable$Units" "count" "I", Cond.methodLink RX3 44 yX3_below, Cond.static yX3_below, Cond.code yX3_below cX3_below 2 (some .boolean), Cond.methodLink RX3 103 yX2_orderFor, Cond.instanceMethod yX2_orderFor, Cond.selects RX2 yX2_orderFor yX2_orderFor, Cond.code yX2_orderFor cX2_orderFor 3 (some .int)]
def wsX3_order_r2 : List Cond := [Cond.fieldLink RX2 21 "WarTable$Units" "orders" "[I", Cond.methodLink RX2 36 yX2_isKept, Cond.static yX2_isKept, Cond.code yX2_isKept cX2_isKept 2 (some .boolean), Cond.methodLink RX2 39 yX2_index, Cond.static yX2_index, Cond.code yX2_index cX2_index 2 (some .int), Cond.methodLink RX3 106 yX2_giveOrder, Cond.instanceMethod yX2_giveOrder, Cond.selects RX2 yX2_giveOrder yX2_giveOrder, Cond.code yX2_giveOrder cX2_giveOrder 4 none]
def wsX3_order : List Cond := .code yX3_order cX3_order 4 (some .int) :: ((wsX3_order_r1 ++ wsX3_order_r2) ++ wsX30 ++ wsX20 ++ (vx_atS RX3 52 "java/lang/IllegalArgumentException" ["java/lang/RuntimeException", "java/lang/Exception"]).filter goodWord ++ (vx_atS RX3 169 "java/lang/IndexOutOfBoundsException" ["java/lang/RuntimeException", "java/lang/Exception"]).filter goodWord)
def wsX3_checkWeather : List Cond := .code yX3_checkWeather cX3_checkWeather 1 none :: ([.classLink RX3 48 "java/lang/IllegalArgumentException", .initialized "java/lang/IllegalArgumentException", .methodLink RX3 44 yX3_below, .static yX3_below, .initialized RX3, .code yX3_below cX3_below 2 (some .boolean)] ++ (vx_atS RX3 52 "java/lang/IllegalArgumentException" ["java/lang/RuntimeException", "java/lang/Exception"]).filter goodWord)
def wsX3_suppliedTowns_r1 : List Cond := [Cond.fieldLink RX3 23 "WarTable" "units" "LWarTable$Units;", Cond.fieldLink RX3 16 "WarTable" "depots" "[I", Cond.fieldLink RX3 12 "WarTable" "map" "LWarTable$RoadMap;", Cond.methodLink RX3 44 yX3_below, Cond.static yX3_below, Cond.initialized RX3, Cond.code yX3_below cX3_below 2 (some .boolean), Cond.methodLink RX3 77 yX3_opponent, Cond.static yX3_opponent, Cond.code yX3_opponent cX3_opponent 1 (some .int), Cond.methodLink RX3 81 yX2_townsHeld, Cond.instanceMethod yX2_townsHeld, Cond.selects RX2 yX2_townsHeld yX2_townsHeld, Cond.initialized RX2, Cond.code yX2_townsHeld cX2_townsHeld 6 (some .int), Cond.fieldLink RX2 24 "WarTable$Units" "count" "I", Cond.methodLink RX2 48 yX2_townAt, Cond.instanceMethod yX2_townAt, Cond.selects RX2 yX2_townAt yX2_townAt, Cond.code yX2_townAt cX2_townAt 3 (some .int), Cond.fieldLink RX2 15 "WarTable$Units" "towns" "[I", Cond.methodLink RX2 36 yX2_isKept, Cond.static yX2_isKept, Cond.code yX2_isKept cX2_isKept 2 (some .boolean)]
def wsX3_suppliedTowns_r2 : List Cond := [Cond.methodLink RX2 39 yX2_index, Cond.static yX2_index, Cond.code yX2_index cX2_index 2 (some .int), Cond.methodLink RX2 54 yX2_sideOf, Cond.instanceMethod yX2_sideOf, Cond.selects RX2 yX2_sideOf yX2_sideOf, Cond.code yX2_sideOf cX2_sideOf 2 (some .int), Cond.fieldLink RX2 9 "WarTable$Units" "sides" "[I", Cond.static yX3_bit, Cond.code yX3_bit cX3_bit 1 (some .int), Cond.methodLink RX3 202 yX3_bit, Cond.methodLink RX3 205 yX0_widened, Cond.instanceMethod yX0_widened, Cond.selects RX0 yX0_widened yX0_widened, Cond.initialized RX0, Cond.code yX0_widened cX0_widened 5 (some .int), Cond.static yX3_has, Cond.code yX3_has cX3_has 2 (some .boolean), Cond.methodLink RX0 22 yX0_nextOverOpen, Cond.instanceMethod yX0_nextOverOpen, Cond.selects RX0 yX0_nextOverOpen yX0_nextOverOpen, Cond.code yX0_nextOverOpen cX0_nextOverOpen 3 (some .int), Cond.fieldLink RX0 9 "WarTable$RoadMap" "nextOverPaved" "[I", Cond.fieldLink RX0 15 "WarTable$RoadMap" "nextOverUnpaved" "[I"]
def wsX3_suppliedTowns : List Cond := .code yX3_suppliedTowns cX3_suppliedTowns 8 (some .int) :: ((wsX3_suppliedTowns_r1 ++ wsX3_suppliedTowns_r2) ++ wsX30 ++ wsX20 ++ wsX00)
def wsX3_suppliedUnits_r1 : List Cond := [Cond.fieldLink RX3 23 "WarTable" "units" "LWarTable$Units;", Cond.methodLink RX3 158 yX3_suppliedTowns, Cond.instanceMethod yX3_suppliedTowns, Cond.selects RX3 yX3_suppliedTowns yX3_suppliedTowns, Cond.initialized RX3, Cond.code yX3_suppliedTowns cX3_suppliedTowns 8 (some .int), Cond.fieldLink RX3 16 "WarTable" "depots" "[I", Cond.fieldLink RX3 12 "WarTable" "map" "LWarTable$RoadMap;", Cond.methodLink RX3 44 yX3_below, Cond.static yX3_below, Cond.code yX3_below cX3_below 2 (some .boolean), Cond.methodLink RX3 77 yX3_opponent, Cond.static yX3_opponent, Cond.code yX3_opponent cX3_opponent 1 (some .int), Cond.methodLink RX3 81 yX2_townsHeld, Cond.instanceMethod yX2_townsHeld, Cond.selects RX2 yX2_townsHeld yX2_townsHeld, Cond.initialized RX2, Cond.code yX2_townsHeld cX2_townsHeld 6 (some .int), Cond.fieldLink RX2 24 "WarTable$Units" "count" "I", Cond.methodLink RX2 48 yX2_townAt, Cond.instanceMethod yX2_townAt, Cond.selects RX2 yX2_townAt yX2_townAt, Cond.code yX2_townAt cX2_townAt 3 (some .int)]
def wsX3_suppliedUnits_r2 : List Cond := [Cond.fieldLink RX2 15 "WarTable$Units" "towns" "[I", Cond.methodLink RX2 36 yX2_isKept, Cond.static yX2_isKept, Cond.code yX2_isKept cX2_isKept 2 (some .boolean), Cond.methodLink RX2 39 yX2_index, Cond.static yX2_index, Cond.code yX2_index cX2_index 2 (some .int), Cond.methodLink RX2 54 yX2_sideOf, Cond.instanceMethod yX2_sideOf, Cond.selects RX2 yX2_sideOf yX2_sideOf, Cond.code yX2_sideOf cX2_sideOf 2 (some .int), Cond.fieldLink RX2 9 "WarTable$Units" "sides" "[I", Cond.static yX3_bit, Cond.code yX3_bit cX3_bit 1 (some .int), Cond.methodLink RX3 202 yX3_bit, Cond.methodLink RX3 205 yX0_widened, Cond.instanceMethod yX0_widened, Cond.selects RX0 yX0_widened yX0_widened, Cond.initialized RX0, Cond.code yX0_widened cX0_widened 5 (some .int), Cond.static yX3_has, Cond.code yX3_has cX3_has 2 (some .boolean), Cond.methodLink RX0 22 yX0_nextOverOpen, Cond.instanceMethod yX0_nextOverOpen]
def wsX3_suppliedUnits_r3 : List Cond := [Cond.selects RX0 yX0_nextOverOpen yX0_nextOverOpen, Cond.code yX0_nextOverOpen cX0_nextOverOpen 3 (some .int), Cond.fieldLink RX0 9 "WarTable$RoadMap" "nextOverPaved" "[I", Cond.fieldLink RX0 15 "WarTable$RoadMap" "nextOverUnpaved" "[I", Cond.methodLink RX3 88 yX2_count, Cond.instanceMethod yX2_count, Cond.selects RX2 yX2_count yX2_count, Cond.code yX2_count cX2_count 1 (some .int), Cond.methodLink RX3 155 yX2_sideOf, Cond.methodLink RX3 149 yX2_townAt, Cond.methodLink RX3 85 yX3_has]
def wsX3_suppliedUnits : List Cond := .code yX3_suppliedUnits cX3_suppliedUnits 7 (some .int) :: ((wsX3_suppliedUnits_r1 ++ (wsX3_suppliedUnits_r2 ++ wsX3_suppliedUnits_r3)) ++ wsX30 ++ wsX20 ++ wsX00)
def wsX3_goers_r1 : List Cond := [Cond.fieldLink RX3 23 "WarTable" "units" "LWarTable$Units;", Cond.fieldLink RX3 12 "WarTable" "map" "LWarTable$RoadMap;", Cond.methodLink RX3 88 yX2_count, Cond.instanceMethod yX2_count, Cond.selects RX2 yX2_count yX2_count, Cond.initialized RX2, Cond.code yX2_count cX2_count 1 (some .int), Cond.fieldLink RX2 24 "WarTable$Units" "count" "I", Cond.methodLink RX3 149 yX2_townAt, Cond.instanceMethod yX2_townAt, Cond.selects RX2 yX2_townAt yX2_townAt, Cond.code yX2_townAt cX2_townAt 3 (some .int), Cond.fieldLink RX2 15 "WarTable$Units" "towns" "[I", Cond.methodLink RX2 36 yX2_isKept, Cond.static yX2_isKept, Cond.code yX2_isKept cX2_isKept 2 (some .boolean), Cond.methodLink RX2 39 yX2_index, Cond.static yX2_index, Cond.code yX2_index cX2_index 2 (some .int), Cond.methodLink RX3 208 yX0_nextOverOpen, Cond.instanceMethod yX0_nextOverOpen, Cond.selects RX0 yX0_nextOverOpen yX0_nextOverOpen, Cond.initialized RX0, Cond.code yX0_nextOverOpen cX0_nextOverOpen 3 (some .int)]
def wsX3_goers_r2 : List Cond := [Cond.fieldLink RX0 9 "WarTable$RoadMap" "nextOverPaved" "[I", Cond.fieldLink RX0 15 "WarTable$RoadMap" "nextOverUnpaved" "[I", Cond.static yX3_below, Cond.initialized RX3, Cond.code yX3_below cX3_below 2 (some .boolean), Cond.methodLink RX3 85 yX3_has, Cond.static yX3_has, Cond.code yX3_has cX3_has 2 (some .boolean), Cond.methodLink RX3 202 yX3_bit, Cond.static yX3_bit, Cond.code yX3_bit cX3_bit 1 (some .int), Cond.methodLink RX3 103 yX2_orderFor, Cond.instanceMethod yX2_orderFor, Cond.selects RX2 yX2_orderFor yX2_orderFor, Cond.code yX2_orderFor cX2_orderFor 3 (some .int), Cond.fieldLink RX2 21 "WarTable$Units" "orders" "[I"]
def wsX3_goers : List Cond := .code yX3_goers cX3_goers 7 (some .int) :: ((wsX3_goers_r1 ++ wsX3_goers_r2) ++ wsX30 ++ wsX20 ++ wsX00)
def wsX3_isMetOnRoad_r1 : List Cond := [Cond.fieldLink RX3 23 "WarTable" "units" "LWarTable$Units;", Cond.methodLink RX3 88 yX2_count, Cond.instanceMethod yX2_count, Cond.selects RX2 yX2_count yX2_count, Cond.initialized RX2, Cond.code yX2_count cX2_count 1 (some .int), Cond.fieldLink RX2 24 "WarTable$Units" "count" "I", Cond.methodLink RX3 85 yX3_has, Cond.static yX3_has, Cond.initialized RX3, Cond.code yX3_has cX3_has 2 (some .boolean), Cond.methodLink RX3 202 yX3_bit, Cond.static yX3_bit, Cond.code yX3_bit cX3_bit 1 (some .int), Cond.methodLink RX3 155 yX2_sideOf, Cond.instanceMethod yX2_sideOf, Cond.selects RX2 yX2_sideOf yX2_sideOf, Cond.code yX2_sideOf cX2_sideOf 2 (some .int), Cond.fieldLink RX2 9 "WarTable$Units" "sides" "[I", Cond.static yX3_below, Cond.code yX3_below cX3_below 2 (some .boolean), Cond.methodLink RX3 149 yX2_townAt, Cond.instanceMethod yX2_townAt, Cond.selects RX2 yX2_townAt yX2_townAt]
def wsX3_isMetOnRoad_r2 : List Cond := [Cond.code yX2_townAt cX2_townAt 3 (some .int), Cond.fieldLink RX2 15 "WarTable$Units" "towns" "[I", Cond.methodLink RX2 36 yX2_isKept, Cond.static yX2_isKept, Cond.code yX2_isKept cX2_isKept 2 (some .boolean), Cond.methodLink RX2 39 yX2_index, Cond.static yX2_index, Cond.code yX2_index cX2_index 2 (some .int), Cond.methodLink RX3 103 yX2_orderFor, Cond.instanceMethod yX2_orderFor, Cond.selects RX2 yX2_orderFor yX2_orderFor, Cond.code yX2_orderFor cX2_orderFor 3 (some .int), Cond.fieldLink RX2 21 "WarTable$Units" "orders" "[I"]
def wsX3_isMetOnRoad : List Cond := .code yX3_isMetOnRoad cX3_isMetOnRoad 5 (some .boolean) :: ((wsX3_isMetOnRoad_r1 ++ wsX3_isMetOnRoad_r2) ++ wsX30 ++ wsX20)
def wsX3_march_r1 : List Cond := [Cond.fieldLink RX3 23 "WarTable" "units" "LWarTable$Units;", Cond.methodLink RX3 88 yX2_count, Cond.instanceMethod yX2_count, Cond.selects RX2 yX2_count yX2_count, Cond.initialized RX2, Cond.code yX2_count cX2_count 1 (some .int), Cond.fieldLink RX2 24 "WarTable$Units" "count" "I", Cond.methodLink RX3 85 yX3_has, Cond.static yX3_has, Cond.initialized RX3, Cond.code yX3_has cX3_has 2 (some .boolean), Cond.methodLink RX3 202 yX3_bit, Cond.static yX3_bit, Cond.code yX3_bit cX3_bit 1 (some .int), Cond.methodLink RX3 211 yX3_isMetOnRoad, Cond.instanceMethod yX3_isMetOnRoad, Cond.selects RX3 yX3_isMetOnRoad yX3_isMetOnRoad, Cond.code yX3_isMetOnRoad cX3_isMetOnRoad 5 (some .boolean), Cond.methodLink RX3 155 yX2_sideOf, Cond.instanceMethod yX2_sideOf, Cond.selects RX2 yX2_sideOf yX2_sideOf, Cond.code yX2_sideOf cX2_sideOf 2 (some .int), Cond.fieldLink RX2 9 "WarTable$Units" "sides" "[I", Cond.static yX3_below]
def wsX3_march_r2 : List Cond := [Cond.code yX3_below cX3_below 2 (some .boolean), Cond.methodLink RX3 149 yX2_townAt, Cond.instanceMethod yX2_townAt, Cond.selects RX2 yX2_townAt yX2_townAt, Cond.code yX2_townAt cX2_townAt 3 (some .int), Cond.fieldLink RX2 15 "WarTable$Units" "towns" "[I", Cond.methodLink RX2 36 yX2_isKept, Cond.static yX2_isKept, Cond.code yX2_isKept cX2_isKept 2 (some .boolean), Cond.methodLink RX2 39 yX2_index, Cond.static yX2_index, Cond.code yX2_index cX2_index 2 (some .int), Cond.methodLink RX3 103 yX2_orderFor, Cond.instanceMethod yX2_orderFor, Cond.selects RX2 yX2_orderFor yX2_orderFor, Cond.code yX2_orderFor cX2_orderFor 3 (some .int), Cond.fieldLink RX2 21 "WarTable$Units" "orders" "[I", Cond.methodLink RX3 152 yX2_strengthAt, Cond.instanceMethod yX2_strengthAt, Cond.selects RX2 yX2_strengthAt yX2_strengthAt, Cond.code yX2_strengthAt cX2_strengthAt 3 (some .int), Cond.fieldLink RX2 18 "WarTable$Units" "strengths" "[I", Cond.methodLink RX3 215 yX2_place, Cond.instanceMethod yX2_place]
def wsX3_march_r3 : List Cond := [Cond.selects RX2 yX2_place yX2_place, Cond.code yX2_place cX2_place 5 none, Cond.methodLink RX2 43 Lib.Math.max.name, Cond.static Lib.Math.max.name, Cond.initialized "java/lang/Math", Cond.code Lib.Math.max.name Lib.Math.max.code 2 (some .int)]
def wsX3_march : List Cond := .code yX3_march cX3_march 6 none :: ((wsX3_march_r1 ++ (wsX3_march_r2 ++ wsX3_march_r3)) ++ wsX30 ++ wsX20)
def wsX3_sumInFight_r1 : List Cond := [Cond.fieldLink RX3 23 "WarTable" "units" "LWarTable$Units;", Cond.methodLink RX3 88 yX2_count, Cond.instanceMethod yX2_count, Cond.selects RX2 yX2_count yX2_count, Cond.initialized RX2, Cond.code yX2_count cX2_count 1 (some .int), Cond.fieldLink RX2 24 "WarTable$Units" "count" "I", Cond.methodLink RX3 155 yX2_sideOf, Cond.instanceMethod yX2_sideOf, Cond.selects RX2 yX2_sideOf yX2_sideOf, Cond.code yX2_sideOf cX2_sideOf 2 (some .int), Cond.fieldLink RX2 9 "WarTable$Units" "sides" "[I", Cond.static yX3_below, Cond.initialized RX3, Cond.code yX3_below cX3_below 2 (some .boolean), Cond.methodLink RX3 149 yX2_townAt, Cond.instanceMethod yX2_townAt, Cond.selects RX2 yX2_townAt yX2_townAt, Cond.code yX2_townAt cX2_townAt 3 (some .int), Cond.fieldLink RX2 15 "WarTable$Units" "towns" "[I", Cond.methodLink RX2 36 yX2_isKept, Cond.static yX2_isKept, Cond.code yX2_isKept cX2_isKept 2 (some .boolean), Cond.methodLink RX2 39 yX2_index]
def wsX3_sumInFight_r2 : List Cond := [Cond.static yX2_index, Cond.code yX2_index cX2_index 2 (some .int), Cond.methodLink RX3 152 yX2_strengthAt, Cond.instanceMethod yX2_strengthAt, Cond.selects RX2 yX2_strengthAt yX2_strengthAt, Cond.code yX2_strengthAt cX2_strengthAt 3 (some .int), Cond.fieldLink RX2 18 "WarTable$Units" "strengths" "[I", Cond.methodLink RX3 85 yX3_has, Cond.static yX3_has, Cond.code yX3_has cX3_has 2 (some .boolean), Cond.methodLink RX3 202 yX3_bit, Cond.static yX3_bit, Cond.code yX3_bit cX3_bit 1 (some .int)]
def wsX3_sumInFight : List Cond := .code yX3_sumInFight cX3_sumInFight 8 (some .int) :: ((wsX3_sumInFight_r1 ++ wsX3_sumInFight_r2) ++ wsX30 ++ wsX20)
def wsX3_loss : List Cond := .code yX3_loss cX3_loss 2 (some .int) :: ([])
def wsX3_fight_r1 : List Cond := [Cond.fieldLink RX3 23 "WarTable" "units" "LWarTable$Units;", Cond.methodLink RX3 222 yX3_sumInFight, Cond.instanceMethod yX3_sumInFight, Cond.selects RX3 yX3_sumInFight yX3_sumInFight, Cond.initialized RX3, Cond.code yX3_sumInFight cX3_sumInFight 8 (some .int), Cond.methodLink RX3 88 yX2_count, Cond.instanceMethod yX2_count, Cond.selects RX2 yX2_count yX2_count, Cond.initialized RX2, Cond.code yX2_count cX2_count 1 (some .int), Cond.fieldLink RX2 24 "WarTable$Units" "count" "I", Cond.methodLink RX3 155 yX2_sideOf, Cond.instanceMethod yX2_sideOf, Cond.selects RX2 yX2_sideOf yX2_sideOf, Cond.code yX2_sideOf cX2_sideOf 2 (some .int), Cond.fieldLink RX2 9 "WarTable$Units" "sides" "[I", Cond.static yX3_below, Cond.code yX3_below cX3_below 2 (some .boolean), Cond.methodLink RX3 149 yX2_townAt, Cond.instanceMethod yX2_townAt, Cond.selects RX2 yX2_townAt yX2_townAt, Cond.code yX2_townAt cX2_townAt 3 (some .int), Cond.fieldLink RX2 15 "WarTable$Units" "towns" "[I"]
def wsX3_fight_r2 : List Cond := [Cond.methodLink RX2 36 yX2_isKept, Cond.static yX2_isKept, Cond.code yX2_isKept cX2_isKept 2 (some .boolean), Cond.methodLink RX2 39 yX2_index, Cond.static yX2_index, Cond.code yX2_index cX2_index 2 (some .int), Cond.methodLink RX3 152 yX2_strengthAt, Cond.instanceMethod yX2_strengthAt, Cond.selects RX2 yX2_strengthAt yX2_strengthAt, Cond.code yX2_strengthAt cX2_strengthAt 3 (some .int), Cond.fieldLink RX2 18 "WarTable$Units" "strengths" "[I", Cond.methodLink RX3 85 yX3_has, Cond.static yX3_has, Cond.code yX3_has cX3_has 2 (some .boolean), Cond.methodLink RX3 202 yX3_bit, Cond.static yX3_bit, Cond.code yX3_bit cX3_bit 1 (some .int), Cond.methodLink RX3 225 yX3_loss, Cond.static yX3_loss, Cond.code yX3_loss cX3_loss 2 (some .int), Cond.methodLink RX3 215 yX2_place, Cond.instanceMethod yX2_place, Cond.selects RX2 yX2_place yX2_place, Cond.code yX2_place cX2_place 5 none]
def wsX3_fight_r3 : List Cond := [Cond.methodLink RX2 43 Lib.Math.max.name, Cond.static Lib.Math.max.name, Cond.initialized "java/lang/Math", Cond.code Lib.Math.max.name Lib.Math.max.code 2 (some .int)]
def wsX3_fight : List Cond := .code yX3_fight cX3_fight 8 none :: ((wsX3_fight_r1 ++ (wsX3_fight_r2 ++ wsX3_fight_r3)) ++ wsX30 ++ wsX20)
def wsX3_fightEverywhere_r1 : List Cond := [Cond.fieldLink RX3 23 "WarTable" "units" "LWarTable$Units;", Cond.methodLink RX3 81 yX2_townsHeld, Cond.instanceMethod yX2_townsHeld, Cond.selects RX2 yX2_townsHeld yX2_townsHeld, Cond.initialized RX2, Cond.code yX2_townsHeld cX2_townsHeld 6 (some .int), Cond.fieldLink RX2 24 "WarTable$Units" "count" "I", Cond.methodLink RX2 48 yX2_townAt, Cond.instanceMethod yX2_townAt, Cond.selects RX2 yX2_townAt yX2_townAt, Cond.code yX2_townAt cX2_townAt 3 (some .int), Cond.fieldLink RX2 15 "WarTable$Units" "towns" "[I", Cond.methodLink RX2 36 yX2_isKept, Cond.static yX2_isKept, Cond.code yX2_isKept cX2_isKept 2 (some .boolean), Cond.methodLink RX2 39 yX2_index, Cond.static yX2_index, Cond.code yX2_index cX2_index 2 (some .int), Cond.methodLink RX2 54 yX2_sideOf, Cond.instanceMethod yX2_sideOf, Cond.selects RX2 yX2_sideOf yX2_sideOf, Cond.code yX2_sideOf cX2_sideOf 2 (some .int), Cond.fieldLink RX2 9 "WarTable$Units" "sides" "[I", Cond.static yX3_below]
def wsX3_fightEverywhere_r2 : List Cond := [Cond.initialized RX3, Cond.code yX3_below cX3_below 2 (some .boolean), Cond.static yX3_bit, Cond.code yX3_bit cX3_bit 1 (some .int), Cond.methodLink RX3 85 yX3_has, Cond.static yX3_has, Cond.code yX3_has cX3_has 2 (some .boolean), Cond.methodLink RX3 202 yX3_bit, Cond.methodLink RX3 219 yX3_fight, Cond.instanceMethod yX3_fight, Cond.selects RX3 yX3_fight yX3_fight, Cond.code yX3_fight cX3_fight 8 none, Cond.methodLink RX3 222 yX3_sumInFight, Cond.instanceMethod yX3_sumInFight, Cond.selects RX3 yX3_sumInFight yX3_sumInFight, Cond.code yX3_sumInFight cX3_sumInFight 8 (some .int), Cond.methodLink RX3 88 yX2_count, Cond.instanceMethod yX2_count, Cond.selects RX2 yX2_count yX2_count, Cond.code yX2_count cX2_count 1 (some .int), Cond.methodLink RX3 155 yX2_sideOf, Cond.methodLink RX3 149 yX2_townAt, Cond.methodLink RX3 152 yX2_strengthAt, Cond.instanceMethod yX2_strengthAt]
def wsX3_fightEverywhere_r3 : List Cond := [Cond.selects RX2 yX2_strengthAt yX2_strengthAt, Cond.code yX2_strengthAt cX2_strengthAt 3 (some .int), Cond.fieldLink RX2 18 "WarTable$Units" "strengths" "[I", Cond.methodLink RX3 225 yX3_loss, Cond.static yX3_loss, Cond.code yX3_loss cX3_loss 2 (some .int), Cond.methodLink RX3 215 yX2_place, Cond.instanceMethod yX2_place, Cond.selects RX2 yX2_place yX2_place, Cond.code yX2_place cX2_place 5 none, Cond.methodLink RX2 43 Lib.Math.max.name, Cond.static Lib.Math.max.name, Cond.initialized "java/lang/Math", Cond.code Lib.Math.max.name Lib.Math.max.code 2 (some .int)]
def wsX3_fightEverywhere : List Cond := .code yX3_fightEverywhere cX3_fightEverywhere 5 none :: ((wsX3_fightEverywhere_r1 ++ (wsX3_fightEverywhere_r2 ++ wsX3_fightEverywhere_r3)) ++ wsX30 ++ wsX20)
def wsX3_unitsInSight_r1 : List Cond := [Cond.fieldLink RX3 12 "WarTable" "map" "LWarTable$RoadMap;", Cond.fieldLink RX3 23 "WarTable" "units" "LWarTable$Units;", Cond.methodLink RX3 81 yX2_townsHeld, Cond.instanceMethod yX2_townsHeld, Cond.selects RX2 yX2_townsHeld yX2_townsHeld, Cond.initialized RX2, Cond.code yX2_townsHeld cX2_townsHeld 6 (some .int), Cond.fieldLink RX2 24 "WarTable$Units" "count" "I", Cond.methodLink RX2 48 yX2_townAt, Cond.instanceMethod yX2_townAt, Cond.selects RX2 yX2_townAt yX2_townAt, Cond.code yX2_townAt cX2_townAt 3 (some .int), Cond.fieldLink RX2 15 "WarTable$Units" "towns" "[I", Cond.methodLink RX2 36 yX2_isKept, Cond.static yX2_isKept, Cond.code yX2_isKept cX2_isKept 2 (some .boolean), Cond.methodLink RX2 39 yX2_index, Cond.static yX2_index, Cond.code yX2_index cX2_index 2 (some .int), Cond.methodLink RX2 54 yX2_sideOf, Cond.instanceMethod yX2_sideOf, Cond.selects RX2 yX2_sideOf yX2_sideOf, Cond.code yX2_sideOf cX2_sideOf 2 (some .int), Cond.fieldLink RX2 9 "WarTable$Units" "sides" "[I"]
def wsX3_unitsInSight_r2 : List Cond := [Cond.static yX3_below, Cond.initialized RX3, Cond.code yX3_below cX3_below 2 (some .boolean), Cond.static yX3_bit, Cond.code yX3_bit cX3_bit 1 (some .int), Cond.methodLink RX3 205 yX0_widened, Cond.instanceMethod yX0_widened, Cond.selects RX0 yX0_widened yX0_widened, Cond.initialized RX0, Cond.code yX0_widened cX0_widened 5 (some .int), Cond.static yX3_has, Cond.code yX3_has cX3_has 2 (some .boolean), Cond.methodLink RX3 202 yX3_bit, Cond.methodLink RX0 22 yX0_nextOverOpen, Cond.instanceMethod yX0_nextOverOpen, Cond.selects RX0 yX0_nextOverOpen yX0_nextOverOpen, Cond.code yX0_nextOverOpen cX0_nextOverOpen 3 (some .int), Cond.fieldLink RX0 9 "WarTable$RoadMap" "nextOverPaved" "[I", Cond.fieldLink RX0 15 "WarTable$RoadMap" "nextOverUnpaved" "[I", Cond.methodLink RX3 88 yX2_count, Cond.instanceMethod yX2_count, Cond.selects RX2 yX2_count yX2_count, Cond.code yX2_count cX2_count 1 (some .int), Cond.methodLink RX3 155 yX2_sideOf]
def wsX3_unitsInSight_r3 : List Cond := [Cond.methodLink RX3 149 yX2_townAt, Cond.methodLink RX3 85 yX3_has]
def wsX3_unitsInSight : List Cond := .code yX3_unitsInSight cX3_unitsInSight 6 (some .int) :: ((wsX3_unitsInSight_r1 ++ (wsX3_unitsInSight_r2 ++ wsX3_unitsInSight_r3)) ++ wsX30 ++ wsX20 ++ wsX00)
def wsX3_playFrom_r1 : List Cond := [Cond.methodLink RX3 184 Lib.Math.max.name, Cond.static Lib.Math.max.name, Cond.initialized "java/lang/Math", Cond.code Lib.Math.max.name Lib.Math.max.code 2 (some .int), Cond.fieldLink RX3 40 "WarTable" "turns" "I", Cond.fieldLink RX3 27 "WarTable" "weathers" "[I", Cond.fieldLink RX3 30 "WarTable" "seen" "[I", Cond.methodLink RX3 187 yX3_suppliedUnits, Cond.instanceMethod yX3_suppliedUnits, Cond.selects RX3 yX3_suppliedUnits yX3_suppliedUnits, Cond.initialized RX3, Cond.code yX3_suppliedUnits cX3_suppliedUnits 7 (some .int), Cond.fieldLink RX3 23 "WarTable" "units" "LWarTable$Units;", Cond.methodLink RX3 158 yX3_suppliedTowns, Cond.instanceMethod yX3_suppliedTowns, Cond.selects RX3 yX3_suppliedTowns yX3_suppliedTowns, Cond.code yX3_suppliedTowns cX3_suppliedTowns 8 (some .int), Cond.fieldLink RX3 16 "WarTable" "depots" "[I", Cond.fieldLink RX3 12 "WarTable" "map" "LWarTable$RoadMap;", Cond.methodLink RX3 44 yX3_below, Cond.static yX3_below, Cond.code yX3_below cX3_below 2 (some .boolean), Cond.methodLink RX3 77 yX3_opponent, Cond.static yX3_opponent]
def wsX3_playFrom_r2 : List Cond := [Cond.code yX3_opponent cX3_opponent 1 (some .int), Cond.methodLink RX3 81 yX2_townsHeld, Cond.instanceMethod yX2_townsHeld, Cond.selects RX2 yX2_townsHeld yX2_townsHeld, Cond.initialized RX2, Cond.code yX2_townsHeld cX2_townsHeld 6 (some .int), Cond.fieldLink RX2 24 "WarTable$Units" "count" "I", Cond.methodLink RX2 48 yX2_townAt, Cond.instanceMethod yX2_townAt, Cond.selects RX2 yX2_townAt yX2_townAt, Cond.code yX2_townAt cX2_townAt 3 (some .int), Cond.fieldLink RX2 15 "WarTable$Units" "towns" "[I", Cond.methodLink RX2 36 yX2_isKept, Cond.static yX2_isKept, Cond.code yX2_isKept cX2_isKept 2 (some .boolean), Cond.methodLink RX2 39 yX2_index, Cond.static yX2_index, Cond.code yX2_index cX2_index 2 (some .int), Cond.methodLink RX2 54 yX2_sideOf, Cond.instanceMethod yX2_sideOf, Cond.selects RX2 yX2_sideOf yX2_sideOf, Cond.code yX2_sideOf cX2_sideOf 2 (some .int), Cond.fieldLink RX2 9 "WarTable$Units" "sides" "[I", Cond.static yX3_bit]
def wsX3_playFrom_r3 : List Cond := [Cond.code yX3_bit cX3_bit 1 (some .int), Cond.methodLink RX3 202 yX3_bit, Cond.methodLink RX3 205 yX0_widened, Cond.instanceMethod yX0_widened, Cond.selects RX0 yX0_widened yX0_widened, Cond.initialized RX0, Cond.code yX0_widened cX0_widened 5 (some .int), Cond.static yX3_has, Cond.code yX3_has cX3_has 2 (some .boolean), Cond.methodLink RX0 22 yX0_nextOverOpen, Cond.instanceMethod yX0_nextOverOpen, Cond.selects RX0 yX0_nextOverOpen yX0_nextOverOpen, Cond.code yX0_nextOverOpen cX0_nextOverOpen 3 (some .int), Cond.fieldLink RX0 9 "WarTable$RoadMap" "nextOverPaved" "[I", Cond.fieldLink RX0 15 "WarTable$RoadMap" "nextOverUnpaved" "[I", Cond.methodLink RX3 88 yX2_count, Cond.instanceMethod yX2_count, Cond.selects RX2 yX2_count yX2_count, Cond.code yX2_count cX2_count 1 (some .int), Cond.methodLink RX3 155 yX2_sideOf, Cond.methodLink RX3 149 yX2_townAt, Cond.methodLink RX3 85 yX3_has, Cond.methodLink RX3 190 yX3_goers, Cond.instanceMethod yX3_goers]
def wsX3_playFrom_r4 : List Cond := [Cond.selects RX3 yX3_goers yX3_goers, Cond.code yX3_goers cX3_goers 7 (some .int), Cond.methodLink RX3 208 yX0_nextOverOpen, Cond.methodLink RX3 103 yX2_orderFor, Cond.instanceMethod yX2_orderFor, Cond.selects RX2 yX2_orderFor yX2_orderFor, Cond.code yX2_orderFor cX2_orderFor 3 (some .int), Cond.fieldLink RX2 21 "WarTable$Units" "orders" "[I", Cond.methodLink RX3 193 yX3_march, Cond.instanceMethod yX3_march, Cond.selects RX3 yX3_march yX3_march, Cond.code yX3_march cX3_march 6 none, Cond.methodLink RX3 211 yX3_isMetOnRoad, Cond.instanceMethod yX3_isMetOnRoad, Cond.selects RX3 yX3_isMetOnRoad yX3_isMetOnRoad, Cond.code yX3_isMetOnRoad cX3_isMetOnRoad 5 (some .boolean), Cond.methodLink RX3 152 yX2_strengthAt, Cond.instanceMethod yX2_strengthAt, Cond.selects RX2 yX2_strengthAt yX2_strengthAt, Cond.code yX2_strengthAt cX2_strengthAt 3 (some .int), Cond.fieldLink RX2 18 "WarTable$Units" "strengths" "[I", Cond.methodLink RX3 215 yX2_place, Cond.instanceMethod yX2_place, Cond.selects RX2 yX2_place yX2_place]
def wsX3_playFrom_r5 : List Cond := [Cond.code yX2_place cX2_place 5 none, Cond.methodLink RX2 43 Lib.Math.max.name, Cond.methodLink RX3 196 yX3_fightEverywhere, Cond.instanceMethod yX3_fightEverywhere, Cond.selects RX3 yX3_fightEverywhere yX3_fightEverywhere, Cond.code yX3_fightEverywhere cX3_fightEverywhere 5 none, Cond.methodLink RX3 219 yX3_fight, Cond.instanceMethod yX3_fight, Cond.selects RX3 yX3_fight yX3_fight, Cond.code yX3_fight cX3_fight 8 none, Cond.methodLink RX3 222 yX3_sumInFight, Cond.instanceMethod yX3_sumInFight, Cond.selects RX3 yX3_sumInFight yX3_sumInFight, Cond.code yX3_sumInFight cX3_sumInFight 8 (some .int), Cond.methodLink RX3 225 yX3_loss, Cond.static yX3_loss, Cond.code yX3_loss cX3_loss 2 (some .int), Cond.methodLink RX3 199 yX3_unitsInSight, Cond.instanceMethod yX3_unitsInSight, Cond.selects RX3 yX3_unitsInSight yX3_unitsInSight, Cond.code yX3_unitsInSight cX3_unitsInSight 6 (some .int)]
def wsX3_playFrom : List Cond := .code yX3_playFrom cX3_playFrom 5 none :: ((wsX3_playFrom_r1 ++ (wsX3_playFrom_r2 ++ (wsX3_playFrom_r3 ++ (wsX3_playFrom_r4 ++ wsX3_playFrom_r5)))) ++ wsX30 ++ wsX20 ++ wsX00)
def wsX3_play_r1 : List Cond := [Cond.classLink RX3 62 "java/lang/IllegalStateException", Cond.initialized "java/lang/IllegalStateException", Cond.fieldLink RX3 40 "WarTable" "turns" "I", Cond.fieldLink RX3 27 "WarTable" "weathers" "[I", Cond.fieldLink RX3 23 "WarTable" "units" "LWarTable$Units;", Cond.methodLink RX3 110 yX3_checkWeather, Cond.static yX3_checkWeather, Cond.initialized RX3, Cond.code yX3_checkWeather cX3_checkWeather 1 none, Cond.classLink RX3 48 "java/lang/IllegalArgumentException", Cond.initialized "java/lang/IllegalArgumentException", Cond.methodLink RX3 44 yX3_below, Cond.static yX3_below, Cond.code yX3_below cX3_below 2 (some .boolean), Cond.methodLink RX3 115 yX3_playFrom, Cond.instanceMethod yX3_playFrom, Cond.selects RX3 yX3_playFrom yX3_playFrom, Cond.code yX3_playFrom cX3_playFrom 5 none, Cond.methodLink RX3 184 Lib.Math.max.name, Cond.static Lib.Math.max.name, Cond.initialized "java/lang/Math", Cond.code Lib.Math.max.name Lib.Math.max.code 2 (some .int), Cond.fieldLink RX3 30 "WarTable" "seen" "[I", Cond.methodLink RX3 187 yX3_suppliedUnits]
def wsX3_play_r2 : List Cond := [Cond.instanceMethod yX3_suppliedUnits, Cond.selects RX3 yX3_suppliedUnits yX3_suppliedUnits, Cond.code yX3_suppliedUnits cX3_suppliedUnits 7 (some .int), Cond.methodLink RX3 158 yX3_suppliedTowns, Cond.instanceMethod yX3_suppliedTowns, Cond.selects RX3 yX3_suppliedTowns yX3_suppliedTowns, Cond.code yX3_suppliedTowns cX3_suppliedTowns 8 (some .int), Cond.fieldLink RX3 16 "WarTable" "depots" "[I", Cond.fieldLink RX3 12 "WarTable" "map" "LWarTable$RoadMap;", Cond.methodLink RX3 77 yX3_opponent, Cond.static yX3_opponent, Cond.code yX3_opponent cX3_opponent 1 (some .int), Cond.methodLink RX3 81 yX2_townsHeld, Cond.instanceMethod yX2_townsHeld, Cond.selects RX2 yX2_townsHeld yX2_townsHeld, Cond.initialized RX2, Cond.code yX2_townsHeld cX2_townsHeld 6 (some .int), Cond.fieldLink RX2 24 "WarTable$Units" "count" "I", Cond.methodLink RX2 48 yX2_townAt, Cond.instanceMethod yX2_townAt, Cond.selects RX2 yX2_townAt yX2_townAt, Cond.code yX2_townAt cX2_townAt 3 (some .int), Cond.fieldLink RX2 15 "WarTable$Units" "towns" "[I", Cond.methodLink RX2 36 yX2_isKept]
def wsX3_play_r3 : List Cond := [Cond.static yX2_isKept, Cond.code yX2_isKept cX2_isKept 2 (some .boolean), Cond.methodLink RX2 39 yX2_index, Cond.static yX2_index, Cond.code yX2_index cX2_index 2 (some .int), Cond.methodLink RX2 54 yX2_sideOf, Cond.instanceMethod yX2_sideOf, Cond.selects RX2 yX2_sideOf yX2_sideOf, Cond.code yX2_sideOf cX2_sideOf 2 (some .int), Cond.fieldLink RX2 9 "WarTable$Units" "sides" "[I", Cond.static yX3_bit, Cond.code yX3_bit cX3_bit 1 (some .int), Cond.methodLink RX3 202 yX3_bit, Cond.methodLink RX3 205 yX0_widened, Cond.instanceMethod yX0_widened, Cond.selects RX0 yX0_widened yX0_widened, Cond.initialized RX0, Cond.code yX0_widened cX0_widened 5 (some .int), Cond.static yX3_has, Cond.code yX3_has cX3_has 2 (some .boolean), Cond.methodLink RX0 22 yX0_nextOverOpen, Cond.instanceMethod yX0_nextOverOpen, Cond.selects RX0 yX0_nextOverOpen yX0_nextOverOpen, Cond.code yX0_nextOverOpen cX0_nextOverOpen 3 (some .int)]
def wsX3_play_r4 : List Cond := [Cond.fieldLink RX0 9 "WarTable$RoadMap" "nextOverPaved" "[I", Cond.fieldLink RX0 15 "WarTable$RoadMap" "nextOverUnpaved" "[I", Cond.methodLink RX3 88 yX2_count, Cond.instanceMethod yX2_count, Cond.selects RX2 yX2_count yX2_count, Cond.code yX2_count cX2_count 1 (some .int), Cond.methodLink RX3 155 yX2_sideOf, Cond.methodLink RX3 149 yX2_townAt, Cond.methodLink RX3 85 yX3_has, Cond.methodLink RX3 190 yX3_goers, Cond.instanceMethod yX3_goers, Cond.selects RX3 yX3_goers yX3_goers, Cond.code yX3_goers cX3_goers 7 (some .int), Cond.methodLink RX3 208 yX0_nextOverOpen, Cond.methodLink RX3 103 yX2_orderFor, Cond.instanceMethod yX2_orderFor, Cond.selects RX2 yX2_orderFor yX2_orderFor, Cond.code yX2_orderFor cX2_orderFor 3 (some .int), Cond.fieldLink RX2 21 "WarTable$Units" "orders" "[I", Cond.methodLink RX3 193 yX3_march, Cond.instanceMethod yX3_march, Cond.selects RX3 yX3_march yX3_march, Cond.code yX3_march cX3_march 6 none, Cond.methodLink RX3 211 yX3_isMetOnRoad]
def wsX3_play_r5 : List Cond := [Cond.instanceMethod yX3_isMetOnRoad, Cond.selects RX3 yX3_isMetOnRoad yX3_isMetOnRoad, Cond.code yX3_isMetOnRoad cX3_isMetOnRoad 5 (some .boolean), Cond.methodLink RX3 152 yX2_strengthAt, Cond.instanceMethod yX2_strengthAt, Cond.selects RX2 yX2_strengthAt yX2_strengthAt, Cond.code yX2_strengthAt cX2_strengthAt 3 (some .int), Cond.fieldLink RX2 18 "WarTable$Units" "strengths" "[I", Cond.methodLink RX3 215 yX2_place, Cond.instanceMethod yX2_place, Cond.selects RX2 yX2_place yX2_place, Cond.code yX2_place cX2_place 5 none, Cond.methodLink RX2 43 Lib.Math.max.name, Cond.methodLink RX3 196 yX3_fightEverywhere, Cond.instanceMethod yX3_fightEverywhere, Cond.selects RX3 yX3_fightEverywhere yX3_fightEverywhere, Cond.code yX3_fightEverywhere cX3_fightEverywhere 5 none, Cond.methodLink RX3 219 yX3_fight, Cond.instanceMethod yX3_fight, Cond.selects RX3 yX3_fight yX3_fight, Cond.code yX3_fight cX3_fight 8 none, Cond.methodLink RX3 222 yX3_sumInFight, Cond.instanceMethod yX3_sumInFight, Cond.selects RX3 yX3_sumInFight yX3_sumInFight]
def wsX3_play_r6 : List Cond := [Cond.code yX3_sumInFight cX3_sumInFight 8 (some .int), Cond.methodLink RX3 225 yX3_loss, Cond.static yX3_loss, Cond.code yX3_loss cX3_loss 2 (some .int), Cond.methodLink RX3 199 yX3_unitsInSight, Cond.instanceMethod yX3_unitsInSight, Cond.selects RX3 yX3_unitsInSight yX3_unitsInSight, Cond.code yX3_unitsInSight cX3_unitsInSight 6 (some .int), Cond.methodLink RX3 118 yX2_livingAt, Cond.instanceMethod yX2_livingAt, Cond.selects RX2 yX2_livingAt yX2_livingAt, Cond.code yX2_livingAt cX2_livingAt 4 (some .int)]
def wsX3_play : List Cond := .code yX3_play cX3_play 3 (some .int) :: ((wsX3_play_r1 ++ (wsX3_play_r2 ++ (wsX3_play_r3 ++ (wsX3_play_r4 ++ (wsX3_play_r5 ++ wsX3_play_r6))))) ++ wsX30 ++ wsX20 ++ wsX00 ++ (vx_atS RX3 66 "java/lang/IllegalStateException" ["java/lang/RuntimeException", "java/lang/Exception"]).filter goodWord ++ (vx_atS RX3 52 "java/lang/IllegalArgumentException" ["java/lang/RuntimeException", "java/lang/Exception"]).filter goodWord)
def wsX3_played : List Cond := .code yX3_played cX3_played 1 (some .int) :: ([.fieldLink RX3 40 "WarTable" "turns" "I"] ++ wsX30)
def wsX3_checkTurn : List Cond := .code yX3_checkTurn cX3_checkTurn 2 none :: ([.classLink RX3 165 "java/lang/IndexOutOfBoundsException", .initialized "java/lang/IndexOutOfBoundsException", .fieldLink RX3 40 "WarTable" "turns" "I", .methodLink RX3 170 Lib.Math.min.name, .static Lib.Math.min.name, .initialized "java/lang/Math", .code Lib.Math.min.name Lib.Math.min.code 2 (some .int), .methodLink RX3 44 yX3_below, .static yX3_below, .initialized RX3, .code yX3_below cX3_below 2 (some .boolean)] ++ wsX30 ++ (vx_atS RX3 169 "java/lang/IndexOutOfBoundsException" ["java/lang/RuntimeException", "java/lang/Exception"]).filter goodWord)
def wsX3_rule_r1 : List Cond := [Cond.fieldLink RX3 36 "WarTable" "standing" "LWarTable$Rulings;", Cond.fieldLink RX3 27 "WarTable" "weathers" "[I", Cond.fieldLink RX3 23 "WarTable" "units" "LWarTable$Units;", Cond.fieldLink RX3 40 "WarTable" "turns" "I", Cond.methodLink RX3 121 yX3_checkTurn, Cond.instanceMethod yX3_checkTurn, Cond.selects RX3 yX3_checkTurn yX3_checkTurn, Cond.initialized RX3, Cond.code yX3_checkTurn cX3_checkTurn 2 none, Cond.classLink RX3 165 "java/lang/IndexOutOfBoundsException", Cond.initialized "java/lang/IndexOutOfBoundsException", Cond.methodLink RX3 170 Lib.Math.min.name, Cond.static Lib.Math.min.name, Cond.initialized "java/lang/Math", Cond.code Lib.Math.min.name Lib.Math.min.code 2 (some .int), Cond.methodLink RX3 44 yX3_below, Cond.static yX3_below, Cond.code yX3_below cX3_below 2 (some .boolean), Cond.methodLink RX3 110 yX3_checkWeather, Cond.static yX3_checkWeather, Cond.code yX3_checkWeather cX3_checkWeather 1 none, Cond.classLink RX3 48 "java/lang/IllegalArgumentException", Cond.initialized "java/lang/IllegalArgumentException", Cond.methodLink RX3 124 yX1_isFull]
def wsX3_rule_r2 : List Cond := [Cond.instanceMethod yX1_isFull, Cond.selects RX1 yX1_isFull yX1_isFull, Cond.initialized RX1, Cond.code yX1_isFull cX1_isFull 1 (some .boolean), Cond.fieldLink RX1 18 "WarTable$Rulings" "count" "I", Cond.methodLink RX3 128 yX1_push, Cond.instanceMethod yX1_push, Cond.selects RX1 yX1_push yX1_push, Cond.code yX1_push cX1_push 3 none, Cond.fieldLink RX1 9 "WarTable$Rulings" "turns" "[I", Cond.fieldLink RX1 15 "WarTable$Rulings" "weathersBefore" "[I", Cond.methodLink RX3 132 yX2_copyMoment, Cond.instanceMethod yX2_copyMoment, Cond.selects RX2 yX2_copyMoment yX2_copyMoment, Cond.initialized RX2, Cond.code yX2_copyMoment cX2_copyMoment 4 none, Cond.fieldLink RX2 24 "WarTable$Units" "count" "I", Cond.methodLink RX2 48 yX2_townAt, Cond.instanceMethod yX2_townAt, Cond.selects RX2 yX2_townAt yX2_townAt, Cond.code yX2_townAt cX2_townAt 3 (some .int), Cond.fieldLink RX2 15 "WarTable$Units" "towns" "[I", Cond.methodLink RX2 36 yX2_isKept, Cond.static yX2_isKept]
def wsX3_rule_r3 : List Cond := [Cond.code yX2_isKept cX2_isKept 2 (some .boolean), Cond.methodLink RX2 39 yX2_index, Cond.static yX2_index, Cond.code yX2_index cX2_index 2 (some .int), Cond.methodLink RX2 51 yX2_strengthAt, Cond.instanceMethod yX2_strengthAt, Cond.selects RX2 yX2_strengthAt yX2_strengthAt, Cond.code yX2_strengthAt cX2_strengthAt 3 (some .int), Cond.fieldLink RX2 18 "WarTable$Units" "strengths" "[I", Cond.methodLink RX2 32 yX2_place, Cond.instanceMethod yX2_place, Cond.selects RX2 yX2_place yX2_place, Cond.code yX2_place cX2_place 5 none, Cond.methodLink RX2 43 Lib.Math.max.name, Cond.static Lib.Math.max.name, Cond.code Lib.Math.max.name Lib.Math.max.code 2 (some .int), Cond.methodLink RX3 115 yX3_playFrom, Cond.instanceMethod yX3_playFrom, Cond.selects RX3 yX3_playFrom yX3_playFrom, Cond.code yX3_playFrom cX3_playFrom 5 none, Cond.methodLink RX3 184 Lib.Math.max.name, Cond.fieldLink RX3 30 "WarTable" "seen" "[I", Cond.methodLink RX3 187 yX3_suppliedUnits, Cond.instanceMethod yX3_suppliedUnits]
def wsX3_rule_r4 : List Cond := [Cond.selects RX3 yX3_suppliedUnits yX3_suppliedUnits, Cond.code yX3_suppliedUnits cX3_suppliedUnits 7 (some .int), Cond.methodLink RX3 158 yX3_suppliedTowns, Cond.instanceMethod yX3_suppliedTowns, Cond.selects RX3 yX3_suppliedTowns yX3_suppliedTowns, Cond.code yX3_suppliedTowns cX3_suppliedTowns 8 (some .int), Cond.fieldLink RX3 16 "WarTable" "depots" "[I", Cond.fieldLink RX3 12 "WarTable" "map" "LWarTable$RoadMap;", Cond.methodLink RX3 77 yX3_opponent, Cond.static yX3_opponent, Cond.code yX3_opponent cX3_opponent 1 (some .int), Cond.methodLink RX3 81 yX2_townsHeld, Cond.instanceMethod yX2_townsHeld, Cond.selects RX2 yX2_townsHeld yX2_townsHeld, Cond.code yX2_townsHeld cX2_townsHeld 6 (some .int), Cond.methodLink RX2 54 yX2_sideOf, Cond.instanceMethod yX2_sideOf, Cond.selects RX2 yX2_sideOf yX2_sideOf, Cond.code yX2_sideOf cX2_sideOf 2 (some .int), Cond.fieldLink RX2 9 "WarTable$Units" "sides" "[I", Cond.static yX3_bit, Cond.code yX3_bit cX3_bit 1 (some .int), Cond.methodLink RX3 202 yX3_bit, Cond.methodLink RX3 205 yX0_widened]
def wsX3_rule_r5 : List Cond := [Cond.instanceMethod yX0_widened, Cond.selects RX0 yX0_widened yX0_widened, Cond.initialized RX0, Cond.code yX0_widened cX0_widened 5 (some .int), Cond.static yX3_has, Cond.code yX3_has cX3_has 2 (some .boolean), Cond.methodLink RX0 22 yX0_nextOverOpen, Cond.instanceMethod yX0_nextOverOpen, Cond.selects RX0 yX0_nextOverOpen yX0_nextOverOpen, Cond.code yX0_nextOverOpen cX0_nextOverOpen 3 (some .int), Cond.fieldLink RX0 9 "WarTable$RoadMap" "nextOverPaved" "[I", Cond.fieldLink RX0 15 "WarTable$RoadMap" "nextOverUnpaved" "[I", Cond.methodLink RX3 88 yX2_count, Cond.instanceMethod yX2_count, Cond.selects RX2 yX2_count yX2_count, Cond.code yX2_count cX2_count 1 (some .int), Cond.methodLink RX3 155 yX2_sideOf, Cond.methodLink RX3 149 yX2_townAt, Cond.methodLink RX3 85 yX3_has, Cond.methodLink RX3 190 yX3_goers, Cond.instanceMethod yX3_goers, Cond.selects RX3 yX3_goers yX3_goers, Cond.code yX3_goers cX3_goers 7 (some .int), Cond.methodLink RX3 208 yX0_nextOverOpen]
def wsX3_rule_r6 : List Cond := [Cond.methodLink RX3 103 yX2_orderFor, Cond.instanceMethod yX2_orderFor, Cond.selects RX2 yX2_orderFor yX2_orderFor, Cond.code yX2_orderFor cX2_orderFor 3 (some .int), Cond.fieldLink RX2 21 "WarTable$Units" "orders" "[I", Cond.methodLink RX3 193 yX3_march, Cond.instanceMethod yX3_march, Cond.selects RX3 yX3_march yX3_march, Cond.code yX3_march cX3_march 6 none, Cond.methodLink RX3 211 yX3_isMetOnRoad, Cond.instanceMethod yX3_isMetOnRoad, Cond.selects RX3 yX3_isMetOnRoad yX3_isMetOnRoad, Cond.code yX3_isMetOnRoad cX3_isMetOnRoad 5 (some .boolean), Cond.methodLink RX3 152 yX2_strengthAt, Cond.methodLink RX3 215 yX2_place, Cond.methodLink RX3 196 yX3_fightEverywhere, Cond.instanceMethod yX3_fightEverywhere, Cond.selects RX3 yX3_fightEverywhere yX3_fightEverywhere, Cond.code yX3_fightEverywhere cX3_fightEverywhere 5 none, Cond.methodLink RX3 219 yX3_fight, Cond.instanceMethod yX3_fight, Cond.selects RX3 yX3_fight yX3_fight, Cond.code yX3_fight cX3_fight 8 none, Cond.methodLink RX3 222 yX3_sumInFight]
def wsX3_rule_r7 : List Cond := [Cond.instanceMethod yX3_sumInFight, Cond.selects RX3 yX3_sumInFight yX3_sumInFight, Cond.code yX3_sumInFight cX3_sumInFight 8 (some .int), Cond.methodLink RX3 225 yX3_loss, Cond.static yX3_loss, Cond.code yX3_loss cX3_loss 2 (some .int), Cond.methodLink RX3 199 yX3_unitsInSight, Cond.instanceMethod yX3_unitsInSight, Cond.selects RX3 yX3_unitsInSight yX3_unitsInSight, Cond.code yX3_unitsInSight cX3_unitsInSight 6 (some .int), Cond.methodLink RX3 135 yX2_differing, Cond.instanceMethod yX2_differing, Cond.selects RX2 yX2_differing yX2_differing, Cond.code yX2_differing cX2_differing 5 (some .int)]
def wsX3_rule : List Cond := .code yX3_rule cX3_rule 3 (some .int) :: ((wsX3_rule_r1 ++ (wsX3_rule_r2 ++ (wsX3_rule_r3 ++ (wsX3_rule_r4 ++ (wsX3_rule_r5 ++ (wsX3_rule_r6 ++ wsX3_rule_r7)))))) ++ wsX30 ++ wsX10 ++ wsX20 ++ wsX00 ++ (vx_atS RX3 169 "java/lang/IndexOutOfBoundsException" ["java/lang/RuntimeException", "java/lang/Exception"]).filter goodWord ++ (vx_atS RX3 52 "java/lang/IllegalArgumentException" ["java/lang/RuntimeException", "java/lang/Exception"]).filter goodWord)
def wsX3_appeal_r1 : List Cond := [Cond.classLink RX3 62 "java/lang/IllegalStateException", Cond.initialized "java/lang/IllegalStateException", Cond.fieldLink RX3 36 "WarTable" "standing" "LWarTable$Rulings;", Cond.fieldLink RX3 27 "WarTable" "weathers" "[I", Cond.methodLink RX3 138 yX1_lastTurn, Cond.instanceMethod yX1_lastTurn, Cond.selects RX1 yX1_lastTurn yX1_lastTurn, Cond.initialized RX1, Cond.code yX1_lastTurn cX1_lastTurn 1 (some .int), Cond.fieldLink RX1 18 "WarTable$Rulings" "count" "I", Cond.fieldLink RX1 9 "WarTable$Rulings" "turns" "[I", Cond.static yX3_below, Cond.initialized RX3, Cond.code yX3_below cX3_below 2 (some .boolean), Cond.methodLink RX3 44 yX3_below, Cond.methodLink RX3 143 yX1_lastWeatherBefore, Cond.instanceMethod yX1_lastWeatherBefore, Cond.selects RX1 yX1_lastWeatherBefore yX1_lastWeatherBefore, Cond.code yX1_lastWeatherBefore cX1_lastWeatherBefore 1 (some .int), Cond.fieldLink RX1 15 "WarTable$Rulings" "weathersBefore" "[I", Cond.methodLink RX3 146 yX1_pop, Cond.instanceMethod yX1_pop, Cond.selects RX1 yX1_pop yX1_pop, Cond.code yX1_pop cX1_pop 1 none]
def wsX3_appeal_r2 : List Cond := [Cond.methodLink RX3 115 yX3_playFrom, Cond.instanceMethod yX3_playFrom, Cond.selects RX3 yX3_playFrom yX3_playFrom, Cond.code yX3_playFrom cX3_playFrom 5 none, Cond.methodLink RX3 184 Lib.Math.max.name, Cond.static Lib.Math.max.name, Cond.initialized "java/lang/Math", Cond.code Lib.Math.max.name Lib.Math.max.code 2 (some .int), Cond.fieldLink RX3 40 "WarTable" "turns" "I", Cond.fieldLink RX3 30 "WarTable" "seen" "[I", Cond.methodLink RX3 187 yX3_suppliedUnits, Cond.instanceMethod yX3_suppliedUnits, Cond.selects RX3 yX3_suppliedUnits yX3_suppliedUnits, Cond.code yX3_suppliedUnits cX3_suppliedUnits 7 (some .int), Cond.fieldLink RX3 23 "WarTable" "units" "LWarTable$Units;", Cond.methodLink RX3 158 yX3_suppliedTowns, Cond.instanceMethod yX3_suppliedTowns, Cond.selects RX3 yX3_suppliedTowns yX3_suppliedTowns, Cond.code yX3_suppliedTowns cX3_suppliedTowns 8 (some .int), Cond.fieldLink RX3 16 "WarTable" "depots" "[I", Cond.fieldLink RX3 12 "WarTable" "map" "LWarTable$RoadMap;", Cond.methodLink RX3 77 yX3_opponent, Cond.static yX3_opponent, Cond.code yX3_opponent cX3_opponent 1 (some .int)]
def wsX3_appeal_r3 : List Cond := [Cond.methodLink RX3 81 yX2_townsHeld, Cond.instanceMethod yX2_townsHeld, Cond.selects RX2 yX2_townsHeld yX2_townsHeld, Cond.initialized RX2, Cond.code yX2_townsHeld cX2_townsHeld 6 (some .int), Cond.fieldLink RX2 24 "WarTable$Units" "count" "I", Cond.methodLink RX2 48 yX2_townAt, Cond.instanceMethod yX2_townAt, Cond.selects RX2 yX2_townAt yX2_townAt, Cond.code yX2_townAt cX2_townAt 3 (some .int), Cond.fieldLink RX2 15 "WarTable$Units" "towns" "[I", Cond.methodLink RX2 36 yX2_isKept, Cond.static yX2_isKept, Cond.code yX2_isKept cX2_isKept 2 (some .boolean), Cond.methodLink RX2 39 yX2_index, Cond.static yX2_index, Cond.code yX2_index cX2_index 2 (some .int), Cond.methodLink RX2 54 yX2_sideOf, Cond.instanceMethod yX2_sideOf, Cond.selects RX2 yX2_sideOf yX2_sideOf, Cond.code yX2_sideOf cX2_sideOf 2 (some .int), Cond.fieldLink RX2 9 "WarTable$Units" "sides" "[I", Cond.static yX3_bit, Cond.code yX3_bit cX3_bit 1 (some .int)]
def wsX3_appeal_r4 : List Cond := [Cond.methodLink RX3 202 yX3_bit, Cond.methodLink RX3 205 yX0_widened, Cond.instanceMethod yX0_widened, Cond.selects RX0 yX0_widened yX0_widened, Cond.initialized RX0, Cond.code yX0_widened cX0_widened 5 (some .int), Cond.static yX3_has, Cond.code yX3_has cX3_has 2 (some .boolean), Cond.methodLink RX0 22 yX0_nextOverOpen, Cond.instanceMethod yX0_nextOverOpen, Cond.selects RX0 yX0_nextOverOpen yX0_nextOverOpen, Cond.code yX0_nextOverOpen cX0_nextOverOpen 3 (some .int), Cond.fieldLink RX0 9 "WarTable$RoadMap" "nextOverPaved" "[I", Cond.fieldLink RX0 15 "WarTable$RoadMap" "nextOverUnpaved" "[I", Cond.methodLink RX3 88 yX2_count, Cond.instanceMethod yX2_count, Cond.selects RX2 yX2_count yX2_count, Cond.code yX2_count cX2_count 1 (some .int), Cond.methodLink RX3 155 yX2_sideOf, Cond.methodLink RX3 149 yX2_townAt, Cond.methodLink RX3 85 yX3_has, Cond.methodLink RX3 190 yX3_goers, Cond.instanceMethod yX3_goers, Cond.selects RX3 yX3_goers yX3_goers]
def wsX3_appeal_r5 : List Cond := [Cond.code yX3_goers cX3_goers 7 (some .int), Cond.methodLink RX3 208 yX0_nextOverOpen, Cond.methodLink RX3 103 yX2_orderFor, Cond.instanceMethod yX2_orderFor, Cond.selects RX2 yX2_orderFor yX2_orderFor, Cond.code yX2_orderFor cX2_orderFor 3 (some .int), Cond.fieldLink RX2 21 "WarTable$Units" "orders" "[I", Cond.methodLink RX3 193 yX3_march, Cond.instanceMethod yX3_march, Cond.selects RX3 yX3_march yX3_march, Cond.code yX3_march cX3_march 6 none, Cond.methodLink RX3 211 yX3_isMetOnRoad, Cond.instanceMethod yX3_isMetOnRoad, Cond.selects RX3 yX3_isMetOnRoad yX3_isMetOnRoad, Cond.code yX3_isMetOnRoad cX3_isMetOnRoad 5 (some .boolean), Cond.methodLink RX3 152 yX2_strengthAt, Cond.instanceMethod yX2_strengthAt, Cond.selects RX2 yX2_strengthAt yX2_strengthAt, Cond.code yX2_strengthAt cX2_strengthAt 3 (some .int), Cond.fieldLink RX2 18 "WarTable$Units" "strengths" "[I", Cond.methodLink RX3 215 yX2_place, Cond.instanceMethod yX2_place, Cond.selects RX2 yX2_place yX2_place, Cond.code yX2_place cX2_place 5 none]
def wsX3_appeal_r6 : List Cond := [Cond.methodLink RX2 43 Lib.Math.max.name, Cond.methodLink RX3 196 yX3_fightEverywhere, Cond.instanceMethod yX3_fightEverywhere, Cond.selects RX3 yX3_fightEverywhere yX3_fightEverywhere, Cond.code yX3_fightEverywhere cX3_fightEverywhere 5 none, Cond.methodLink RX3 219 yX3_fight, Cond.instanceMethod yX3_fight, Cond.selects RX3 yX3_fight yX3_fight, Cond.code yX3_fight cX3_fight 8 none, Cond.methodLink RX3 222 yX3_sumInFight, Cond.instanceMethod yX3_sumInFight, Cond.selects RX3 yX3_sumInFight yX3_sumInFight, Cond.code yX3_sumInFight cX3_sumInFight 8 (some .int), Cond.methodLink RX3 225 yX3_loss, Cond.static yX3_loss, Cond.code yX3_loss cX3_loss 2 (some .int), Cond.methodLink RX3 199 yX3_unitsInSight, Cond.instanceMethod yX3_unitsInSight, Cond.selects RX3 yX3_unitsInSight yX3_unitsInSight, Cond.code yX3_unitsInSight cX3_unitsInSight 6 (some .int)]
def wsX3_appeal : List Cond := .code yX3_appeal cX3_appeal 2 (some .int) :: ((wsX3_appeal_r1 ++ (wsX3_appeal_r2 ++ (wsX3_appeal_r3 ++ (wsX3_appeal_r4 ++ (wsX3_appeal_r5 ++ wsX3_appeal_r6))))) ++ wsX30 ++ wsX10 ++ wsX20 ++ wsX00 ++ (vx_atS RX3 66 "java/lang/IllegalStateException" ["java/lang/RuntimeException", "java/lang/Exception"]).filter goodWord)
def wsX3_townOf_r1 : List Cond := [Cond.fieldLink RX3 23 "WarTable" "units" "LWarTable$Units;", Cond.fieldLink RX3 40 "WarTable" "turns" "I", Cond.methodLink RX3 97 yX3_checkUnit, Cond.instanceMethod yX3_checkUnit, Cond.selects RX3 yX3_checkUnit yX3_checkUnit, Cond.initialized RX3, Cond.code yX3_checkUnit cX3_checkUnit 2 none, Cond.classLink RX3 165 "java/lang/IndexOutOfBoundsException", Cond.initialized "java/lang/IndexOutOfBoundsException", Cond.methodLink RX3 88 yX2_count, Cond.instanceMethod yX2_count, Cond.selects RX2 yX2_count yX2_count, Cond.initialized RX2, Cond.code yX2_count cX2_count 1 (some .int), Cond.fieldLink RX2 24 "WarTable$Units" "count" "I", Cond.methodLink RX3 44 yX3_below, Cond.static yX3_below, Cond.code yX3_below cX3_below 2 (some .boolean), Cond.methodLink RX3 149 yX2_townAt, Cond.instanceMethod yX2_townAt, Cond.selects RX2 yX2_townAt yX2_townAt, Cond.code yX2_townAt cX2_townAt 3 (some .int), Cond.fieldLink RX2 15 "WarTable$Units" "towns" "[I", Cond.methodLink RX2 36 yX2_isKept]
def wsX3_townOf_r2 : List Cond := [Cond.static yX2_isKept, Cond.code yX2_isKept cX2_isKept 2 (some .boolean), Cond.methodLink RX2 39 yX2_index, Cond.static yX2_index, Cond.code yX2_index cX2_index 2 (some .int)]
def wsX3_townOf : List Cond := .code yX3_townOf cX3_townOf 2 (some .int) :: ((wsX3_townOf_r1 ++ wsX3_townOf_r2) ++ wsX30 ++ wsX20 ++ (vx_atS RX3 169 "java/lang/IndexOutOfBoundsException" ["java/lang/RuntimeException", "java/lang/Exception"]).filter goodWord)
def wsX3_strength_r1 : List Cond := [Cond.fieldLink RX3 23 "WarTable" "units" "LWarTable$Units;", Cond.fieldLink RX3 40 "WarTable" "turns" "I", Cond.methodLink RX3 97 yX3_checkUnit, Cond.instanceMethod yX3_checkUnit, Cond.selects RX3 yX3_checkUnit yX3_checkUnit, Cond.initialized RX3, Cond.code yX3_checkUnit cX3_checkUnit 2 none, Cond.classLink RX3 165 "java/lang/IndexOutOfBoundsException", Cond.initialized "java/lang/IndexOutOfBoundsException", Cond.methodLink RX3 88 yX2_count, Cond.instanceMethod yX2_count, Cond.selects RX2 yX2_count yX2_count, Cond.initialized RX2, Cond.code yX2_count cX2_count 1 (some .int), Cond.fieldLink RX2 24 "WarTable$Units" "count" "I", Cond.methodLink RX3 44 yX3_below, Cond.static yX3_below, Cond.code yX3_below cX3_below 2 (some .boolean), Cond.methodLink RX3 152 yX2_strengthAt, Cond.instanceMethod yX2_strengthAt, Cond.selects RX2 yX2_strengthAt yX2_strengthAt, Cond.code yX2_strengthAt cX2_strengthAt 3 (some .int), Cond.fieldLink RX2 18 "WarTable$Units" "strengths" "[I", Cond.methodLink RX2 36 yX2_isKept]
def wsX3_strength_r2 : List Cond := [Cond.static yX2_isKept, Cond.code yX2_isKept cX2_isKept 2 (some .boolean), Cond.methodLink RX2 39 yX2_index, Cond.static yX2_index, Cond.code yX2_index cX2_index 2 (some .int)]
def wsX3_strength : List Cond := .code yX3_strength cX3_strength 2 (some .int) :: ((wsX3_strength_r1 ++ wsX3_strength_r2) ++ wsX30 ++ wsX20 ++ (vx_atS RX3 169 "java/lang/IndexOutOfBoundsException" ["java/lang/RuntimeException", "java/lang/Exception"]).filter goodWord)
def wsX3_supply_r1 : List Cond := [Cond.fieldLink RX3 23 "WarTable" "units" "LWarTable$Units;", Cond.fieldLink RX3 40 "WarTable" "turns" "I", Cond.methodLink RX3 97 yX3_checkUnit, Cond.instanceMethod yX3_checkUnit, Cond.selects RX3 yX3_checkUnit yX3_checkUnit, Cond.initialized RX3, Cond.code yX3_checkUnit cX3_checkUnit 2 none, Cond.classLink RX3 165 "java/lang/IndexOutOfBoundsException", Cond.initialized "java/lang/IndexOutOfBoundsException", Cond.methodLink RX3 88 yX2_count, Cond.instanceMethod yX2_count, Cond.selects RX2 yX2_count yX2_count, Cond.initialized RX2, Cond.code yX2_count cX2_count 1 (some .int), Cond.fieldLink RX2 24 "WarTable$Units" "count" "I", Cond.methodLink RX3 44 yX3_below, Cond.static yX3_below, Cond.code yX3_below cX3_below 2 (some .boolean), Cond.methodLink RX3 110 yX3_checkWeather, Cond.static yX3_checkWeather, Cond.code yX3_checkWeather cX3_checkWeather 1 none, Cond.classLink RX3 48 "java/lang/IllegalArgumentException", Cond.initialized "java/lang/IllegalArgumentException", Cond.methodLink RX3 149 yX2_townAt]
def wsX3_supply_r2 : List Cond := [Cond.instanceMethod yX2_townAt, Cond.selects RX2 yX2_townAt yX2_townAt, Cond.code yX2_townAt cX2_townAt 3 (some .int), Cond.fieldLink RX2 15 "WarTable$Units" "towns" "[I", Cond.methodLink RX2 36 yX2_isKept, Cond.static yX2_isKept, Cond.code yX2_isKept cX2_isKept 2 (some .boolean), Cond.methodLink RX2 39 yX2_index, Cond.static yX2_index, Cond.code yX2_index cX2_index 2 (some .int), Cond.methodLink RX3 155 yX2_sideOf, Cond.instanceMethod yX2_sideOf, Cond.selects RX2 yX2_sideOf yX2_sideOf, Cond.code yX2_sideOf cX2_sideOf 2 (some .int), Cond.fieldLink RX2 9 "WarTable$Units" "sides" "[I", Cond.methodLink RX3 158 yX3_suppliedTowns, Cond.instanceMethod yX3_suppliedTowns, Cond.selects RX3 yX3_suppliedTowns yX3_suppliedTowns, Cond.code yX3_suppliedTowns cX3_suppliedTowns 8 (some .int), Cond.fieldLink RX3 16 "WarTable" "depots" "[I", Cond.fieldLink RX3 12 "WarTable" "map" "LWarTable$RoadMap;", Cond.methodLink RX3 77 yX3_opponent, Cond.static yX3_opponent, Cond.code yX3_opponent cX3_opponent 1 (some .int)]
def wsX3_supply_r3 : List Cond := [Cond.methodLink RX3 81 yX2_townsHeld, Cond.instanceMethod yX2_townsHeld, Cond.selects RX2 yX2_townsHeld yX2_townsHeld, Cond.code yX2_townsHeld cX2_townsHeld 6 (some .int), Cond.methodLink RX2 48 yX2_townAt, Cond.methodLink RX2 54 yX2_sideOf, Cond.static yX3_bit, Cond.code yX3_bit cX3_bit 1 (some .int), Cond.methodLink RX3 202 yX3_bit, Cond.methodLink RX3 205 yX0_widened, Cond.instanceMethod yX0_widened, Cond.selects RX0 yX0_widened yX0_widened, Cond.initialized RX0, Cond.code yX0_widened cX0_widened 5 (some .int), Cond.static yX3_has, Cond.code yX3_has cX3_has 2 (some .boolean), Cond.methodLink RX0 22 yX0_nextOverOpen, Cond.instanceMethod yX0_nextOverOpen, Cond.selects RX0 yX0_nextOverOpen yX0_nextOverOpen, Cond.code yX0_nextOverOpen cX0_nextOverOpen 3 (some .int), Cond.fieldLink RX0 9 "WarTable$RoadMap" "nextOverPaved" "[I", Cond.fieldLink RX0 15 "WarTable$RoadMap" "nextOverUnpaved" "[I", Cond.methodLink RX3 85 yX3_has]
def wsX3_supply : List Cond := .code yX3_supply cX3_supply 5 (some .int) :: ((wsX3_supply_r1 ++ (wsX3_supply_r2 ++ wsX3_supply_r3)) ++ wsX30 ++ wsX20 ++ wsX00 ++ (vx_atS RX3 169 "java/lang/IndexOutOfBoundsException" ["java/lang/RuntimeException", "java/lang/Exception"]).filter goodWord ++ (vx_atS RX3 52 "java/lang/IllegalArgumentException" ["java/lang/RuntimeException", "java/lang/Exception"]).filter goodWord)
def wsX3_townAfter_r1 : List Cond := [Cond.fieldLink RX3 23 "WarTable" "units" "LWarTable$Units;", Cond.methodLink RX3 97 yX3_checkUnit, Cond.instanceMethod yX3_checkUnit, Cond.selects RX3 yX3_checkUnit yX3_checkUnit, Cond.initialized RX3, Cond.code yX3_checkUnit cX3_checkUnit 2 none, Cond.classLink RX3 165 "java/lang/IndexOutOfBoundsException", Cond.initialized "java/lang/IndexOutOfBoundsException", Cond.methodLink RX3 88 yX2_count, Cond.instanceMethod yX2_count, Cond.selects RX2 yX2_count yX2_count, Cond.initialized RX2, Cond.code yX2_count cX2_count 1 (some .int), Cond.fieldLink RX2 24 "WarTable$Units" "count" "I", Cond.methodLink RX3 44 yX3_below, Cond.static yX3_below, Cond.code yX3_below cX3_below 2 (some .boolean), Cond.methodLink RX3 121 yX3_checkTurn, Cond.instanceMethod yX3_checkTurn, Cond.selects RX3 yX3_checkTurn yX3_checkTurn, Cond.code yX3_checkTurn cX3_checkTurn 2 none, Cond.fieldLink RX3 40 "WarTable" "turns" "I", Cond.methodLink RX3 170 Lib.Math.min.name, Cond.static Lib.Math.min.name]
def wsX3_townAfter_r2 : List Cond := [Cond.initialized "java/lang/Math", Cond.code Lib.Math.min.name Lib.Math.min.code 2 (some .int), Cond.methodLink RX3 149 yX2_townAt, Cond.instanceMethod yX2_townAt, Cond.selects RX2 yX2_townAt yX2_townAt, Cond.code yX2_townAt cX2_townAt 3 (some .int), Cond.fieldLink RX2 15 "WarTable$Units" "towns" "[I", Cond.methodLink RX2 36 yX2_isKept, Cond.static yX2_isKept, Cond.code yX2_isKept cX2_isKept 2 (some .boolean), Cond.methodLink RX2 39 yX2_index, Cond.static yX2_index, Cond.code yX2_index cX2_index 2 (some .int)]
def wsX3_townAfter : List Cond := .code yX3_townAfter cX3_townAfter 3 (some .int) :: ((wsX3_townAfter_r1 ++ wsX3_townAfter_r2) ++ wsX30 ++ wsX20 ++ (vx_atS RX3 169 "java/lang/IndexOutOfBoundsException" ["java/lang/RuntimeException", "java/lang/Exception"]).filter goodWord)
def wsX3_checkSide : List Cond := .code yX3_checkSide cX3_checkSide 1 none :: ([.classLink RX3 48 "java/lang/IllegalArgumentException", .initialized "java/lang/IllegalArgumentException", .methodLink RX3 44 yX3_below, .static yX3_below, .initialized RX3, .code yX3_below cX3_below 2 (some .boolean)] ++ (vx_atS RX3 52 "java/lang/IllegalArgumentException" ["java/lang/RuntimeException", "java/lang/Exception"]).filter goodWord)
def wsX3_reported_r1 : List Cond := [Cond.classLink RX3 165 "java/lang/IndexOutOfBoundsException", Cond.initialized "java/lang/IndexOutOfBoundsException", Cond.fieldLink RX3 23 "WarTable" "units" "LWarTable$Units;", Cond.fieldLink RX3 40 "WarTable" "turns" "I", Cond.methodLink RX3 170 Lib.Math.min.name, Cond.static Lib.Math.min.name, Cond.initialized "java/lang/Math", Cond.code Lib.Math.min.name Lib.Math.min.code 2 (some .int), Cond.fieldLink RX3 30 "WarTable" "seen" "[I", Cond.methodLink RX3 162 yX3_checkSide, Cond.static yX3_checkSide, Cond.initialized RX3, Cond.code yX3_checkSide cX3_checkSide 1 none, Cond.classLink RX3 48 "java/lang/IllegalArgumentException", Cond.initialized "java/lang/IllegalArgumentException", Cond.methodLink RX3 44 yX3_below, Cond.static yX3_below, Cond.code yX3_below cX3_below 2 (some .boolean), Cond.methodLink RX3 97 yX3_checkUnit, Cond.instanceMethod yX3_checkUnit, Cond.selects RX3 yX3_checkUnit yX3_checkUnit, Cond.code yX3_checkUnit cX3_checkUnit 2 none, Cond.methodLink RX3 88 yX2_count, Cond.instanceMethod yX2_count]
def wsX3_reported_r2 : List Cond := [Cond.selects RX2 yX2_count yX2_count, Cond.initialized RX2, Cond.code yX2_count cX2_count 1 (some .int), Cond.fieldLink RX2 24 "WarTable$Units" "count" "I", Cond.methodLink RX3 155 yX2_sideOf, Cond.instanceMethod yX2_sideOf, Cond.selects RX2 yX2_sideOf yX2_sideOf, Cond.code yX2_sideOf cX2_sideOf 2 (some .int), Cond.fieldLink RX2 9 "WarTable$Units" "sides" "[I", Cond.methodLink RX3 85 yX3_has, Cond.static yX3_has, Cond.code yX3_has cX3_has 2 (some .boolean), Cond.methodLink RX3 202 yX3_bit, Cond.static yX3_bit, Cond.code yX3_bit cX3_bit 1 (some .int), Cond.methodLink RX3 149 yX2_townAt, Cond.instanceMethod yX2_townAt, Cond.selects RX2 yX2_townAt yX2_townAt, Cond.code yX2_townAt cX2_townAt 3 (some .int), Cond.fieldLink RX2 15 "WarTable$Units" "towns" "[I", Cond.methodLink RX2 36 yX2_isKept, Cond.static yX2_isKept, Cond.code yX2_isKept cX2_isKept 2 (some .boolean), Cond.methodLink RX2 39 yX2_index]
def wsX3_reported_r3 : List Cond := [Cond.static yX2_index, Cond.code yX2_index cX2_index 2 (some .int)]
def wsX3_reported : List Cond := .code yX3_reported cX3_reported 4 (some .int) :: ((wsX3_reported_r1 ++ (wsX3_reported_r2 ++ wsX3_reported_r3)) ++ wsX30 ++ wsX20 ++ (vx_atS RX3 169 "java/lang/IndexOutOfBoundsException" ["java/lang/RuntimeException", "java/lang/Exception"]).filter goodWord ++ (vx_atS RX3 52 "java/lang/IllegalArgumentException" ["java/lang/RuntimeException", "java/lang/Exception"]).filter goodWord)
def wsX3_force_r1 : List Cond := [Cond.fieldLink RX3 23 "WarTable" "units" "LWarTable$Units;", Cond.fieldLink RX3 40 "WarTable" "turns" "I", Cond.methodLink RX3 162 yX3_checkSide, Cond.static yX3_checkSide, Cond.initialized RX3, Cond.code yX3_checkSide cX3_checkSide 1 none, Cond.classLink RX3 48 "java/lang/IllegalArgumentException", Cond.initialized "java/lang/IllegalArgumentException", Cond.methodLink RX3 44 yX3_below, Cond.static yX3_below, Cond.code yX3_below cX3_below 2 (some .boolean), Cond.methodLink RX3 88 yX2_count, Cond.instanceMethod yX2_count, Cond.selects RX2 yX2_count yX2_count, Cond.initialized RX2, Cond.code yX2_count cX2_count 1 (some .int), Cond.fieldLink RX2 24 "WarTable$Units" "count" "I", Cond.methodLink RX3 155 yX2_sideOf, Cond.instanceMethod yX2_sideOf, Cond.selects RX2 yX2_sideOf yX2_sideOf, Cond.code yX2_sideOf cX2_sideOf 2 (some .int), Cond.fieldLink RX2 9 "WarTable$Units" "sides" "[I", Cond.methodLink RX3 152 yX2_strengthAt, Cond.instanceMethod yX2_strengthAt]
def wsX3_force_r2 : List Cond := [Cond.selects RX2 yX2_strengthAt yX2_strengthAt, Cond.code yX2_strengthAt cX2_strengthAt 3 (some .int), Cond.fieldLink RX2 18 "WarTable$Units" "strengths" "[I", Cond.methodLink RX2 36 yX2_isKept, Cond.static yX2_isKept, Cond.code yX2_isKept cX2_isKept 2 (some .boolean), Cond.methodLink RX2 39 yX2_index, Cond.static yX2_index, Cond.code yX2_index cX2_index 2 (some .int)]
def wsX3_force : List Cond := .code yX3_force cX3_force 4 (some .int) :: ((wsX3_force_r1 ++ wsX3_force_r2) ++ wsX30 ++ wsX20 ++ (vx_atS RX3 52 "java/lang/IllegalArgumentException" ["java/lang/RuntimeException", "java/lang/Exception"]).filter goodWord)
def wsX3_weather : List Cond := .code yX3_weather cX3_weather 2 (some .int) :: ([.fieldLink RX3 27 "WarTable" "weathers" "[I", .methodLink RX3 121 yX3_checkTurn, .instanceMethod yX3_checkTurn, .selects RX3 yX3_checkTurn yX3_checkTurn, .initialized RX3, .code yX3_checkTurn cX3_checkTurn 2 none, .classLink RX3 165 "java/lang/IndexOutOfBoundsException", .initialized "java/lang/IndexOutOfBoundsException", .fieldLink RX3 40 "WarTable" "turns" "I", .methodLink RX3 170 Lib.Math.min.name, .static Lib.Math.min.name, .initialized "java/lang/Math", .code Lib.Math.min.name Lib.Math.min.code 2 (some .int), .methodLink RX3 44 yX3_below, .static yX3_below, .code yX3_below cX3_below 2 (some .boolean)] ++ wsX30 ++ (vx_atS RX3 169 "java/lang/IndexOutOfBoundsException" ["java/lang/RuntimeException", "java/lang/Exception"]).filter goodWord)
def wsX3_rulings : List Cond := .code yX3_rulings cX3_rulings 1 (some .int) :: ([.fieldLink RX3 36 "WarTable" "standing" "LWarTable$Rulings;", .methodLink RX3 175 yX1_count, .instanceMethod yX1_count, .selects RX1 yX1_count yX1_count, .initialized RX1, .code yX1_count cX1_count 1 (some .int), .fieldLink RX1 18 "WarTable$Rulings" "count" "I"] ++ wsX30 ++ wsX10)
def wsX4_init : List Cond := .code yX4_init cX4_init 2 none :: ([.methodLink RX4 1 objectInit, .instanceMethod objectInit, .code objectInit ⟨#[0xb1]⟩ 1 none, .arrayClass .int, .fieldLink RX4 7 "WarTableModel" "paved" "[I", .fieldLink RX4 13 "WarTableModel" "depots" "[I", .fieldLink RX4 16 "WarTableModel" "sides" "[I", .fieldLink RX4 19 "WarTableModel" "towns" "[I", .fieldLink RX4 22 "WarTableModel" "strengths" "[I", .fieldLink RX4 25 "WarTableModel" "orders" "[I", .fieldLink RX4 28 "WarTableModel" "next" "[I", .fieldLink RX4 31 "WarTableModel" "weathers" "[I", .fieldLink RX4 34 "WarTableModel" "seen" "[I", .fieldLink RX4 37 "WarTableModel" "ruled" "[I", .fieldLink RX4 40 "WarTableModel" "before" "[I", .fieldLink RX4 43 "WarTableModel" "place" "[I", .fieldLink RX4 46 "WarTableModel" "force" "[I", .fieldLink RX4 49 "WarTableModel" "supplied" "[I", .fieldLink RX4 52 "WarTableModel" "goal" "[I", .fieldLink RX4 55 "WarTableModel" "far" "[I", .fieldLink RX4 58 "WarTableModel" "had" "[I"] ++ wsX40)
def wsX4_thrown : List Cond := .code yX4_thrown cX4_thrown 1 (some .int) :: ([.fieldLink RX4 61 "WarTableModel" "thrown" "I"] ++ wsX40)
def wsX4_fails : List Cond := .code yX4_fails cX4_fails 2 (some .int) :: ([.fieldLink RX4 61 "WarTableModel" "thrown" "I"] ++ wsX40)
def wsX4_in : List Cond := .code yX4_in cX4_in 3 (some .boolean) :: ([])
def wsX4_isTown : List Cond := .code yX4_isTown cX4_isTown 1 (some .boolean) :: ([.methodLink RX4 65 yX4_in, .static yX4_in, .initialized RX4, .code yX4_in cX4_in 3 (some .boolean)])
def wsX4_isUnit : List Cond := .code yX4_isUnit cX4_isUnit 2 (some .boolean) :: ([.fieldLink RX4 69 "WarTableModel" "many" "I", .methodLink RX4 65 yX4_in, .static yX4_in, .initialized RX4, .code yX4_in cX4_in 3 (some .boolean)] ++ wsX40)
def wsX4_addRoad : List Cond := .code yX4_addRoad cX4_addRoad 4 (some .int) :: ([.fieldLink RX4 61 "WarTableModel" "thrown" "I", .fieldLink RX4 80 "WarTableModel" "turns" "I", .fieldLink RX4 7 "WarTableModel" "paved" "[I", .fieldLink RX4 83 "WarTableModel" "roads" "I", .methodLink RX4 72 yX4_isTown, .static yX4_isTown, .initialized RX4, .code yX4_isTown cX4_isTown 1 (some .boolean), .methodLink RX4 65 yX4_in, .static yX4_in, .code yX4_in cX4_in 3 (some .boolean), .methodLink RX4 76 yX4_fails, .instanceMethod yX4_fails, .selects RX4 yX4_fails yX4_fails, .code yX4_fails cX4_fails 2 (some .int)] ++ wsX40)
def wsX4_setDepot : List Cond := .code yX4_setDepot cX4_setDepot 4 (some .int) :: ([.fieldLink RX4 61 "WarTableModel" "thrown" "I", .fieldLink RX4 80 "WarTableModel" "turns" "I", .fieldLink RX4 13 "WarTableModel" "depots" "[I", .methodLink RX4 65 yX4_in, .static yX4_in, .initialized RX4, .code yX4_in cX4_in 3 (some .boolean), .methodLink RX4 72 yX4_isTown, .static yX4_isTown, .code yX4_isTown cX4_isTown 1 (some .boolean), .methodLink RX4 76 yX4_fails, .instanceMethod yX4_fails, .selects RX4 yX4_fails yX4_fails, .code yX4_fails cX4_fails 2 (some .int)] ++ wsX40)
def wsX4_isHeld : List Cond := .code yX4_isHeld cX4_isHeld 4 (some .boolean) :: ([.fieldLink RX4 69 "WarTableModel" "many" "I", .fieldLink RX4 16 "WarTableModel" "sides" "[I", .fieldLink RX4 43 "WarTableModel" "place" "[I"] ++ wsX40)
def wsX4_take : List Cond := .code yX4_take cX4_take 3 none :: ([.fieldLink RX4 69 "WarTableModel" "many" "I", .fieldLink RX4 43 "WarTableModel" "place" "[I", .fieldLink RX4 19 "WarTableModel" "towns" "[I", .fieldLink RX4 46 "WarTableModel" "force" "[I", .fieldLink RX4 22 "WarTableModel" "strengths" "[I"] ++ wsX40)
def wsX4_addUnit_r1 : List Cond := [Cond.fieldLink RX4 61 "WarTableModel" "thrown" "I", Cond.fieldLink RX4 80 "WarTableModel" "turns" "I", Cond.fieldLink RX4 69 "WarTableModel" "many" "I", Cond.fieldLink RX4 16 "WarTableModel" "sides" "[I", Cond.fieldLink RX4 19 "WarTableModel" "towns" "[I", Cond.fieldLink RX4 22 "WarTableModel" "strengths" "[I", Cond.methodLink RX4 65 yX4_in, Cond.static yX4_in, Cond.initialized RX4, Cond.code yX4_in cX4_in 3 (some .boolean), Cond.methodLink RX4 72 yX4_isTown, Cond.static yX4_isTown, Cond.code yX4_isTown cX4_isTown 1 (some .boolean), Cond.methodLink RX4 76 yX4_fails, Cond.instanceMethod yX4_fails, Cond.selects RX4 yX4_fails yX4_fails, Cond.code yX4_fails cX4_fails 2 (some .int), Cond.methodLink RX4 86 yX4_take, Cond.instanceMethod yX4_take, Cond.selects RX4 yX4_take yX4_take, Cond.code yX4_take cX4_take 3 none, Cond.fieldLink RX4 43 "WarTableModel" "place" "[I", Cond.fieldLink RX4 46 "WarTableModel" "force" "[I", Cond.methodLink RX4 90 yX4_isHeld]
def wsX4_addUnit_r2 : List Cond := [Cond.instanceMethod yX4_isHeld, Cond.selects RX4 yX4_isHeld yX4_isHeld, Cond.code yX4_isHeld cX4_isHeld 4 (some .boolean)]
def wsX4_addUnit : List Cond := .code yX4_addUnit cX4_addUnit 4 (some .int) :: ((wsX4_addUnit_r1 ++ wsX4_addUnit_r2) ++ wsX40)
def wsX4_order : List Cond := .code yX4_order cX4_order 4 (some .int) :: ([.fieldLink RX4 61 "WarTableModel" "thrown" "I", .fieldLink RX4 28 "WarTableModel" "next" "[I", .methodLink RX4 94 yX4_isUnit, .instanceMethod yX4_isUnit, .selects RX4 yX4_isUnit yX4_isUnit, .initialized RX4, .code yX4_isUnit cX4_isUnit 2 (some .boolean), .fieldLink RX4 69 "WarTableModel" "many" "I", .methodLink RX4 65 yX4_in, .static yX4_in, .code yX4_in cX4_in 3 (some .boolean), .methodLink RX4 76 yX4_fails, .instanceMethod yX4_fails, .selects RX4 yX4_fails yX4_fails, .code yX4_fails cX4_fails 2 (some .int)] ++ wsX40)
def wsX4_isOpen : List Cond := .code yX4_isOpen cX4_isOpen 5 (some .boolean) :: ([.fieldLink RX4 7 "WarTableModel" "paved" "[I"] ++ wsX40)
def wsX4_supplyOf : List Cond := .code yX4_supplyOf cX4_supplyOf 7 (some .int) :: ([.fieldLink RX4 16 "WarTableModel" "sides" "[I", .fieldLink RX4 55 "WarTableModel" "far" "[I", .fieldLink RX4 43 "WarTableModel" "place" "[I", .fieldLink RX4 13 "WarTableModel" "depots" "[I", .methodLink RX4 90 yX4_isHeld, .instanceMethod yX4_isHeld, .selects RX4 yX4_isHeld yX4_isHeld, .initialized RX4, .code yX4_isHeld cX4_isHeld 4 (some .boolean), .fieldLink RX4 69 "WarTableModel" "many" "I", .methodLink RX4 97 yX4_isOpen, .instanceMethod yX4_isOpen, .selects RX4 yX4_isOpen yX4_isOpen, .code yX4_isOpen cX4_isOpen 5 (some .boolean), .fieldLink RX4 7 "WarTableModel" "paved" "[I"] ++ wsX40)
def wsX4_march : List Cond := .code yX4_march cX4_march 7 none :: ([.fieldLink RX4 69 "WarTableModel" "many" "I", .fieldLink RX4 25 "WarTableModel" "orders" "[I", .fieldLink RX4 43 "WarTableModel" "place" "[I", .fieldLink RX4 49 "WarTableModel" "supplied" "[I", .fieldLink RX4 31 "WarTableModel" "weathers" "[I", .fieldLink RX4 52 "WarTableModel" "goal" "[I", .fieldLink RX4 16 "WarTableModel" "sides" "[I", .methodLink RX4 97 yX4_isOpen, .instanceMethod yX4_isOpen, .selects RX4 yX4_isOpen yX4_isOpen, .initialized RX4, .code yX4_isOpen cX4_isOpen 5 (some .boolean), .fieldLink RX4 7 "WarTableModel" "paved" "[I"] ++ wsX40)
def wsX4_sumIn : List Cond := .code yX4_sumIn cX4_sumIn 6 (some .int) :: ([.fieldLink RX4 69 "WarTableModel" "many" "I", .fieldLink RX4 16 "WarTableModel" "sides" "[I", .fieldLink RX4 43 "WarTableModel" "place" "[I", .fieldLink RX4 49 "WarTableModel" "supplied" "[I", .fieldLink RX4 46 "WarTableModel" "force" "[I"] ++ wsX40)
def wsX4_fight : List Cond := .code yX4_fight cX4_fight 8 none :: ([.fieldLink RX4 69 "WarTableModel" "many" "I", .fieldLink RX4 16 "WarTableModel" "sides" "[I", .fieldLink RX4 43 "WarTableModel" "place" "[I", .fieldLink RX4 46 "WarTableModel" "force" "[I", .methodLink RX4 90 yX4_isHeld, .instanceMethod yX4_isHeld, .selects RX4 yX4_isHeld yX4_isHeld, .initialized RX4, .code yX4_isHeld cX4_isHeld 4 (some .boolean), .methodLink RX4 100 yX4_sumIn, .instanceMethod yX4_sumIn, .selects RX4 yX4_sumIn yX4_sumIn, .code yX4_sumIn cX4_sumIn 6 (some .int), .fieldLink RX4 49 "WarTableModel" "supplied" "[I"] ++ wsX40)
def wsX4_sees : List Cond := .code yX4_sees cX4_sees 4 (some .boolean) :: ([.fieldLink RX4 69 "WarTableModel" "many" "I", .fieldLink RX4 16 "WarTableModel" "sides" "[I", .fieldLink RX4 43 "WarTableModel" "place" "[I", .fieldLink RX4 7 "WarTableModel" "paved" "[I"] ++ wsX40)
def wsX4_playTurn_r1 : List Cond := [Cond.fieldLink RX4 69 "WarTableModel" "many" "I", Cond.fieldLink RX4 49 "WarTableModel" "supplied" "[I", Cond.fieldLink RX4 31 "WarTableModel" "weathers" "[I", Cond.fieldLink RX4 19 "WarTableModel" "towns" "[I", Cond.fieldLink RX4 43 "WarTableModel" "place" "[I", Cond.fieldLink RX4 22 "WarTableModel" "strengths" "[I", Cond.fieldLink RX4 46 "WarTableModel" "force" "[I", Cond.fieldLink RX4 34 "WarTableModel" "seen" "[I", Cond.fieldLink RX4 16 "WarTableModel" "sides" "[I", Cond.methodLink RX4 86 yX4_take, Cond.instanceMethod yX4_take, Cond.selects RX4 yX4_take yX4_take, Cond.initialized RX4, Cond.code yX4_take cX4_take 3 none, Cond.methodLink RX4 104 yX4_supplyOf, Cond.instanceMethod yX4_supplyOf, Cond.selects RX4 yX4_supplyOf yX4_supplyOf, Cond.code yX4_supplyOf cX4_supplyOf 7 (some .int), Cond.fieldLink RX4 55 "WarTableModel" "far" "[I", Cond.fieldLink RX4 13 "WarTableModel" "depots" "[I", Cond.methodLink RX4 90 yX4_isHeld, Cond.instanceMethod yX4_isHeld, Cond.selects RX4 yX4_isHeld yX4_isHeld, Cond.code yX4_isHeld cX4_isHeld 4 (some .boolean)]
def wsX4_playTurn_r2 : List Cond := [Cond.methodLink RX4 97 yX4_isOpen, Cond.instanceMethod yX4_isOpen, Cond.selects RX4 yX4_isOpen yX4_isOpen, Cond.code yX4_isOpen cX4_isOpen 5 (some .boolean), Cond.fieldLink RX4 7 "WarTableModel" "paved" "[I", Cond.methodLink RX4 107 yX4_march, Cond.instanceMethod yX4_march, Cond.selects RX4 yX4_march yX4_march, Cond.code yX4_march cX4_march 7 none, Cond.fieldLink RX4 25 "WarTableModel" "orders" "[I", Cond.fieldLink RX4 52 "WarTableModel" "goal" "[I", Cond.methodLink RX4 110 yX4_fight, Cond.instanceMethod yX4_fight, Cond.selects RX4 yX4_fight yX4_fight, Cond.code yX4_fight cX4_fight 8 none, Cond.methodLink RX4 100 yX4_sumIn, Cond.instanceMethod yX4_sumIn, Cond.selects RX4 yX4_sumIn yX4_sumIn, Cond.code yX4_sumIn cX4_sumIn 6 (some .int), Cond.methodLink RX4 113 yX4_sees, Cond.instanceMethod yX4_sees, Cond.selects RX4 yX4_sees yX4_sees, Cond.code yX4_sees cX4_sees 4 (some .boolean)]
def wsX4_playTurn : List Cond := .code yX4_playTurn cX4_playTurn 3 none :: ((wsX4_playTurn_r1 ++ wsX4_playTurn_r2) ++ wsX40)
def wsX4_lostBy : List Cond := .code yX4_lostBy cX4_lostBy 4 (some .int) :: ([.fieldLink RX4 69 "WarTableModel" "many" "I", .fieldLink RX4 22 "WarTableModel" "strengths" "[I"] ++ wsX40)
def wsX4_play_r1 : List Cond := [Cond.fieldLink RX4 61 "WarTableModel" "thrown" "I", Cond.fieldLink RX4 80 "WarTableModel" "turns" "I", Cond.fieldLink RX4 31 "WarTableModel" "weathers" "[I", Cond.fieldLink RX4 25 "WarTableModel" "orders" "[I", Cond.fieldLink RX4 28 "WarTableModel" "next" "[I", Cond.methodLink RX4 65 yX4_in, Cond.static yX4_in, Cond.initialized RX4, Cond.code yX4_in cX4_in 3 (some .boolean), Cond.methodLink RX4 76 yX4_fails, Cond.instanceMethod yX4_fails, Cond.selects RX4 yX4_fails yX4_fails, Cond.code yX4_fails cX4_fails 2 (some .int), Cond.methodLink RX4 116 yX4_playTurn, Cond.instanceMethod yX4_playTurn, Cond.selects RX4 yX4_playTurn yX4_playTurn, Cond.code yX4_playTurn cX4_playTurn 3 none, Cond.fieldLink RX4 69 "WarTableModel" "many" "I", Cond.fieldLink RX4 49 "WarTableModel" "supplied" "[I", Cond.fieldLink RX4 19 "WarTableModel" "towns" "[I", Cond.fieldLink RX4 43 "WarTableModel" "place" "[I", Cond.fieldLink RX4 22 "WarTableModel" "strengths" "[I", Cond.fieldLink RX4 46 "WarTableModel" "force" "[I", Cond.fieldLink RX4 34 "WarTableModel" "seen" "[I"]
def wsX4_play_r2 : List Cond := [Cond.fieldLink RX4 16 "WarTableModel" "sides" "[I", Cond.methodLink RX4 86 yX4_take, Cond.instanceMethod yX4_take, Cond.selects RX4 yX4_take yX4_take, Cond.code yX4_take cX4_take 3 none, Cond.methodLink RX4 104 yX4_supplyOf, Cond.instanceMethod yX4_supplyOf, Cond.selects RX4 yX4_supplyOf yX4_supplyOf, Cond.code yX4_supplyOf cX4_supplyOf 7 (some .int), Cond.fieldLink RX4 55 "WarTableModel" "far" "[I", Cond.fieldLink RX4 13 "WarTableModel" "depots" "[I", Cond.methodLink RX4 90 yX4_isHeld, Cond.instanceMethod yX4_isHeld, Cond.selects RX4 yX4_isHeld yX4_isHeld, Cond.code yX4_isHeld cX4_isHeld 4 (some .boolean), Cond.methodLink RX4 97 yX4_isOpen, Cond.instanceMethod yX4_isOpen, Cond.selects RX4 yX4_isOpen yX4_isOpen, Cond.code yX4_isOpen cX4_isOpen 5 (some .boolean), Cond.fieldLink RX4 7 "WarTableModel" "paved" "[I", Cond.methodLink RX4 107 yX4_march, Cond.instanceMethod yX4_march, Cond.selects RX4 yX4_march yX4_march, Cond.code yX4_march cX4_march 7 none]
def wsX4_play_r3 : List Cond := [Cond.fieldLink RX4 52 "WarTableModel" "goal" "[I", Cond.methodLink RX4 110 yX4_fight, Cond.instanceMethod yX4_fight, Cond.selects RX4 yX4_fight yX4_fight, Cond.code yX4_fight cX4_fight 8 none, Cond.methodLink RX4 100 yX4_sumIn, Cond.instanceMethod yX4_sumIn, Cond.selects RX4 yX4_sumIn yX4_sumIn, Cond.code yX4_sumIn cX4_sumIn 6 (some .int), Cond.methodLink RX4 113 yX4_sees, Cond.instanceMethod yX4_sees, Cond.selects RX4 yX4_sees yX4_sees, Cond.code yX4_sees cX4_sees 4 (some .boolean), Cond.methodLink RX4 119 yX4_lostBy, Cond.instanceMethod yX4_lostBy, Cond.selects RX4 yX4_lostBy yX4_lostBy, Cond.code yX4_lostBy cX4_lostBy 4 (some .int)]
def wsX4_play : List Cond := .code yX4_play cX4_play 3 (some .int) :: ((wsX4_play_r1 ++ (wsX4_play_r2 ++ wsX4_play_r3)) ++ wsX40)
def wsX4_played : List Cond := .code yX4_played cX4_played 1 (some .int) :: ([.fieldLink RX4 61 "WarTableModel" "thrown" "I", .fieldLink RX4 80 "WarTableModel" "turns" "I"] ++ wsX40)
def wsX4_again_r1 : List Cond := [Cond.fieldLink RX4 31 "WarTableModel" "weathers" "[I", Cond.fieldLink RX4 69 "WarTableModel" "many" "I", Cond.fieldLink RX4 58 "WarTableModel" "had" "[I", Cond.fieldLink RX4 19 "WarTableModel" "towns" "[I", Cond.fieldLink RX4 80 "WarTableModel" "turns" "I", Cond.fieldLink RX4 22 "WarTableModel" "strengths" "[I", Cond.methodLink RX4 116 yX4_playTurn, Cond.instanceMethod yX4_playTurn, Cond.selects RX4 yX4_playTurn yX4_playTurn, Cond.initialized RX4, Cond.code yX4_playTurn cX4_playTurn 3 none, Cond.fieldLink RX4 49 "WarTableModel" "supplied" "[I", Cond.fieldLink RX4 43 "WarTableModel" "place" "[I", Cond.fieldLink RX4 46 "WarTableModel" "force" "[I", Cond.fieldLink RX4 34 "WarTableModel" "seen" "[I", Cond.fieldLink RX4 16 "WarTableModel" "sides" "[I", Cond.methodLink RX4 86 yX4_take, Cond.instanceMethod yX4_take, Cond.selects RX4 yX4_take yX4_take, Cond.code yX4_take cX4_take 3 none, Cond.methodLink RX4 104 yX4_supplyOf, Cond.instanceMethod yX4_supplyOf, Cond.selects RX4 yX4_supplyOf yX4_supplyOf, Cond.code yX4_supplyOf cX4_supplyOf 7 (some .int)]
def wsX4_again_r2 : List Cond := [Cond.fieldLink RX4 55 "WarTableModel" "far" "[I", Cond.fieldLink RX4 13 "WarTableModel" "depots" "[I", Cond.methodLink RX4 90 yX4_isHeld, Cond.instanceMethod yX4_isHeld, Cond.selects RX4 yX4_isHeld yX4_isHeld, Cond.code yX4_isHeld cX4_isHeld 4 (some .boolean), Cond.methodLink RX4 97 yX4_isOpen, Cond.instanceMethod yX4_isOpen, Cond.selects RX4 yX4_isOpen yX4_isOpen, Cond.code yX4_isOpen cX4_isOpen 5 (some .boolean), Cond.fieldLink RX4 7 "WarTableModel" "paved" "[I", Cond.methodLink RX4 107 yX4_march, Cond.instanceMethod yX4_march, Cond.selects RX4 yX4_march yX4_march, Cond.code yX4_march cX4_march 7 none, Cond.fieldLink RX4 25 "WarTableModel" "orders" "[I", Cond.fieldLink RX4 52 "WarTableModel" "goal" "[I", Cond.methodLink RX4 110 yX4_fight, Cond.instanceMethod yX4_fight, Cond.selects RX4 yX4_fight yX4_fight, Cond.code yX4_fight cX4_fight 8 none, Cond.methodLink RX4 100 yX4_sumIn, Cond.instanceMethod yX4_sumIn, Cond.selects RX4 yX4_sumIn yX4_sumIn]
def wsX4_again_r3 : List Cond := [Cond.code yX4_sumIn cX4_sumIn 6 (some .int), Cond.methodLink RX4 113 yX4_sees, Cond.instanceMethod yX4_sees, Cond.selects RX4 yX4_sees yX4_sees, Cond.code yX4_sees cX4_sees 4 (some .boolean)]
def wsX4_again : List Cond := .code yX4_again cX4_again 5 (some .int) :: ((wsX4_again_r1 ++ (wsX4_again_r2 ++ wsX4_again_r3)) ++ wsX40)
def wsX4_rule_r1 : List Cond := [Cond.fieldLink RX4 61 "WarTableModel" "thrown" "I", Cond.fieldLink RX4 80 "WarTableModel" "turns" "I", Cond.fieldLink RX4 37 "WarTableModel" "ruled" "[I", Cond.fieldLink RX4 122 "WarTableModel" "rulingsNow" "I", Cond.fieldLink RX4 40 "WarTableModel" "before" "[I", Cond.fieldLink RX4 31 "WarTableModel" "weathers" "[I", Cond.methodLink RX4 65 yX4_in, Cond.static yX4_in, Cond.initialized RX4, Cond.code yX4_in cX4_in 3 (some .boolean), Cond.methodLink RX4 76 yX4_fails, Cond.instanceMethod yX4_fails, Cond.selects RX4 yX4_fails yX4_fails, Cond.code yX4_fails cX4_fails 2 (some .int), Cond.methodLink RX4 125 yX4_again, Cond.instanceMethod yX4_again, Cond.selects RX4 yX4_again yX4_again, Cond.code yX4_again cX4_again 5 (some .int), Cond.fieldLink RX4 69 "WarTableModel" "many" "I", Cond.fieldLink RX4 58 "WarTableModel" "had" "[I", Cond.fieldLink RX4 19 "WarTableModel" "towns" "[I", Cond.fieldLink RX4 22 "WarTableModel" "strengths" "[I", Cond.methodLink RX4 116 yX4_playTurn, Cond.instanceMethod yX4_playTurn]
def wsX4_rule_r2 : List Cond := [Cond.selects RX4 yX4_playTurn yX4_playTurn, Cond.code yX4_playTurn cX4_playTurn 3 none, Cond.fieldLink RX4 49 "WarTableModel" "supplied" "[I", Cond.fieldLink RX4 43 "WarTableModel" "place" "[I", Cond.fieldLink RX4 46 "WarTableModel" "force" "[I", Cond.fieldLink RX4 34 "WarTableModel" "seen" "[I", Cond.fieldLink RX4 16 "WarTableModel" "sides" "[I", Cond.methodLink RX4 86 yX4_take, Cond.instanceMethod yX4_take, Cond.selects RX4 yX4_take yX4_take, Cond.code yX4_take cX4_take 3 none, Cond.methodLink RX4 104 yX4_supplyOf, Cond.instanceMethod yX4_supplyOf, Cond.selects RX4 yX4_supplyOf yX4_supplyOf, Cond.code yX4_supplyOf cX4_supplyOf 7 (some .int), Cond.fieldLink RX4 55 "WarTableModel" "far" "[I", Cond.fieldLink RX4 13 "WarTableModel" "depots" "[I", Cond.methodLink RX4 90 yX4_isHeld, Cond.instanceMethod yX4_isHeld, Cond.selects RX4 yX4_isHeld yX4_isHeld, Cond.code yX4_isHeld cX4_isHeld 4 (some .boolean), Cond.methodLink RX4 97 yX4_isOpen, Cond.instanceMethod yX4_isOpen, Cond.selects RX4 yX4_isOpen yX4_isOpen]
def wsX4_rule_r3 : List Cond := [Cond.code yX4_isOpen cX4_isOpen 5 (some .boolean), Cond.fieldLink RX4 7 "WarTableModel" "paved" "[I", Cond.methodLink RX4 107 yX4_march, Cond.instanceMethod yX4_march, Cond.selects RX4 yX4_march yX4_march, Cond.code yX4_march cX4_march 7 none, Cond.fieldLink RX4 25 "WarTableModel" "orders" "[I", Cond.fieldLink RX4 52 "WarTableModel" "goal" "[I", Cond.methodLink RX4 110 yX4_fight, Cond.instanceMethod yX4_fight, Cond.selects RX4 yX4_fight yX4_fight, Cond.code yX4_fight cX4_fight 8 none, Cond.methodLink RX4 100 yX4_sumIn, Cond.instanceMethod yX4_sumIn, Cond.selects RX4 yX4_sumIn yX4_sumIn, Cond.code yX4_sumIn cX4_sumIn 6 (some .int), Cond.methodLink RX4 113 yX4_sees, Cond.instanceMethod yX4_sees, Cond.selects RX4 yX4_sees yX4_sees, Cond.code yX4_sees cX4_sees 4 (some .boolean)]
def wsX4_rule : List Cond := .code yX4_rule cX4_rule 3 (some .int) :: ((wsX4_rule_r1 ++ (wsX4_rule_r2 ++ wsX4_rule_r3)) ++ wsX40)
def wsX4_appeal_r1 : List Cond := [Cond.fieldLink RX4 61 "WarTableModel" "thrown" "I", Cond.fieldLink RX4 122 "WarTableModel" "rulingsNow" "I", Cond.fieldLink RX4 37 "WarTableModel" "ruled" "[I", Cond.fieldLink RX4 40 "WarTableModel" "before" "[I", Cond.methodLink RX4 76 yX4_fails, Cond.instanceMethod yX4_fails, Cond.selects RX4 yX4_fails yX4_fails, Cond.initialized RX4, Cond.code yX4_fails cX4_fails 2 (some .int), Cond.methodLink RX4 125 yX4_again, Cond.instanceMethod yX4_again, Cond.selects RX4 yX4_again yX4_again, Cond.code yX4_again cX4_again 5 (some .int), Cond.fieldLink RX4 31 "WarTableModel" "weathers" "[I", Cond.fieldLink RX4 69 "WarTableModel" "many" "I", Cond.fieldLink RX4 58 "WarTableModel" "had" "[I", Cond.fieldLink RX4 19 "WarTableModel" "towns" "[I", Cond.fieldLink RX4 80 "WarTableModel" "turns" "I", Cond.fieldLink RX4 22 "WarTableModel" "strengths" "[I", Cond.methodLink RX4 116 yX4_playTurn, Cond.instanceMethod yX4_playTurn, Cond.selects RX4 yX4_playTurn yX4_playTurn, Cond.code yX4_playTurn cX4_playTurn 3 none, Cond.fieldLink RX4 49 "WarTableModel" "supplied" "[I"]
def wsX4_appeal_r2 : List Cond := [Cond.fieldLink RX4 43 "WarTableModel" "place" "[I", Cond.fieldLink RX4 46 "WarTableModel" "force" "[I", Cond.fieldLink RX4 34 "WarTableModel" "seen" "[I", Cond.fieldLink RX4 16 "WarTableModel" "sides" "[I", Cond.methodLink RX4 86 yX4_take, Cond.instanceMethod yX4_take, Cond.selects RX4 yX4_take yX4_take, Cond.code yX4_take cX4_take 3 none, Cond.methodLink RX4 104 yX4_supplyOf, Cond.instanceMethod yX4_supplyOf, Cond.selects RX4 yX4_supplyOf yX4_supplyOf, Cond.code yX4_supplyOf cX4_supplyOf 7 (some .int), Cond.fieldLink RX4 55 "WarTableModel" "far" "[I", Cond.fieldLink RX4 13 "WarTableModel" "depots" "[I", Cond.methodLink RX4 90 yX4_isHeld, Cond.instanceMethod yX4_isHeld, Cond.selects RX4 yX4_isHeld yX4_isHeld, Cond.code yX4_isHeld cX4_isHeld 4 (some .boolean), Cond.methodLink RX4 97 yX4_isOpen, Cond.instanceMethod yX4_isOpen, Cond.selects RX4 yX4_isOpen yX4_isOpen, Cond.code yX4_isOpen cX4_isOpen 5 (some .boolean), Cond.fieldLink RX4 7 "WarTableModel" "paved" "[I", Cond.methodLink RX4 107 yX4_march]
def wsX4_appeal_r3 : List Cond := [Cond.instanceMethod yX4_march, Cond.selects RX4 yX4_march yX4_march, Cond.code yX4_march cX4_march 7 none, Cond.fieldLink RX4 25 "WarTableModel" "orders" "[I", Cond.fieldLink RX4 52 "WarTableModel" "goal" "[I", Cond.methodLink RX4 110 yX4_fight, Cond.instanceMethod yX4_fight, Cond.selects RX4 yX4_fight yX4_fight, Cond.code yX4_fight cX4_fight 8 none, Cond.methodLink RX4 100 yX4_sumIn, Cond.instanceMethod yX4_sumIn, Cond.selects RX4 yX4_sumIn yX4_sumIn, Cond.code yX4_sumIn cX4_sumIn 6 (some .int), Cond.methodLink RX4 113 yX4_sees, Cond.instanceMethod yX4_sees, Cond.selects RX4 yX4_sees yX4_sees, Cond.code yX4_sees cX4_sees 4 (some .boolean)]
def wsX4_appeal : List Cond := .code yX4_appeal cX4_appeal 1 (some .int) :: ((wsX4_appeal_r1 ++ (wsX4_appeal_r2 ++ wsX4_appeal_r3)) ++ wsX40)
def wsX4_townOf : List Cond := .code yX4_townOf cX4_townOf 2 (some .int) :: ([.fieldLink RX4 61 "WarTableModel" "thrown" "I", .fieldLink RX4 19 "WarTableModel" "towns" "[I", .fieldLink RX4 80 "WarTableModel" "turns" "I", .methodLink RX4 94 yX4_isUnit, .instanceMethod yX4_isUnit, .selects RX4 yX4_isUnit yX4_isUnit, .initialized RX4, .code yX4_isUnit cX4_isUnit 2 (some .boolean), .fieldLink RX4 69 "WarTableModel" "many" "I", .methodLink RX4 65 yX4_in, .static yX4_in, .code yX4_in cX4_in 3 (some .boolean), .methodLink RX4 76 yX4_fails, .instanceMethod yX4_fails, .selects RX4 yX4_fails yX4_fails, .code yX4_fails cX4_fails 2 (some .int)] ++ wsX40)
def wsX4_strength : List Cond := .code yX4_strength cX4_strength 2 (some .int) :: ([.fieldLink RX4 61 "WarTableModel" "thrown" "I", .fieldLink RX4 22 "WarTableModel" "strengths" "[I", .fieldLink RX4 80 "WarTableModel" "turns" "I", .methodLink RX4 94 yX4_isUnit, .instanceMethod yX4_isUnit, .selects RX4 yX4_isUnit yX4_isUnit, .initialized RX4, .code yX4_isUnit cX4_isUnit 2 (some .boolean), .fieldLink RX4 69 "WarTableModel" "many" "I", .methodLink RX4 65 yX4_in, .static yX4_in, .code yX4_in cX4_in 3 (some .boolean), .methodLink RX4 76 yX4_fails, .instanceMethod yX4_fails, .selects RX4 yX4_fails yX4_fails, .code yX4_fails cX4_fails 2 (some .int)] ++ wsX40)
def wsX4_supply_r1 : List Cond := [Cond.fieldLink RX4 61 "WarTableModel" "thrown" "I", Cond.fieldLink RX4 80 "WarTableModel" "turns" "I", Cond.methodLink RX4 94 yX4_isUnit, Cond.instanceMethod yX4_isUnit, Cond.selects RX4 yX4_isUnit yX4_isUnit, Cond.initialized RX4, Cond.code yX4_isUnit cX4_isUnit 2 (some .boolean), Cond.fieldLink RX4 69 "WarTableModel" "many" "I", Cond.methodLink RX4 65 yX4_in, Cond.static yX4_in, Cond.code yX4_in cX4_in 3 (some .boolean), Cond.methodLink RX4 76 yX4_fails, Cond.instanceMethod yX4_fails, Cond.selects RX4 yX4_fails yX4_fails, Cond.code yX4_fails cX4_fails 2 (some .int), Cond.methodLink RX4 86 yX4_take, Cond.instanceMethod yX4_take, Cond.selects RX4 yX4_take yX4_take, Cond.code yX4_take cX4_take 3 none, Cond.fieldLink RX4 43 "WarTableModel" "place" "[I", Cond.fieldLink RX4 19 "WarTableModel" "towns" "[I", Cond.fieldLink RX4 46 "WarTableModel" "force" "[I", Cond.fieldLink RX4 22 "WarTableModel" "strengths" "[I", Cond.methodLink RX4 104 yX4_supplyOf]
def wsX4_supply_r2 : List Cond := [Cond.instanceMethod yX4_supplyOf, Cond.selects RX4 yX4_supplyOf yX4_supplyOf, Cond.code yX4_supplyOf cX4_supplyOf 7 (some .int), Cond.fieldLink RX4 16 "WarTableModel" "sides" "[I", Cond.fieldLink RX4 55 "WarTableModel" "far" "[I", Cond.fieldLink RX4 13 "WarTableModel" "depots" "[I", Cond.methodLink RX4 90 yX4_isHeld, Cond.instanceMethod yX4_isHeld, Cond.selects RX4 yX4_isHeld yX4_isHeld, Cond.code yX4_isHeld cX4_isHeld 4 (some .boolean), Cond.methodLink RX4 97 yX4_isOpen, Cond.instanceMethod yX4_isOpen, Cond.selects RX4 yX4_isOpen yX4_isOpen, Cond.code yX4_isOpen cX4_isOpen 5 (some .boolean), Cond.fieldLink RX4 7 "WarTableModel" "paved" "[I"]
def wsX4_supply : List Cond := .code yX4_supply cX4_supply 3 (some .int) :: ((wsX4_supply_r1 ++ wsX4_supply_r2) ++ wsX40)
def wsX4_townAfter : List Cond := .code yX4_townAfter cX4_townAfter 3 (some .int) :: ([.fieldLink RX4 61 "WarTableModel" "thrown" "I", .fieldLink RX4 80 "WarTableModel" "turns" "I", .fieldLink RX4 19 "WarTableModel" "towns" "[I", .methodLink RX4 94 yX4_isUnit, .instanceMethod yX4_isUnit, .selects RX4 yX4_isUnit yX4_isUnit, .initialized RX4, .code yX4_isUnit cX4_isUnit 2 (some .boolean), .fieldLink RX4 69 "WarTableModel" "many" "I", .methodLink RX4 65 yX4_in, .static yX4_in, .code yX4_in cX4_in 3 (some .boolean), .methodLink RX4 76 yX4_fails, .instanceMethod yX4_fails, .selects RX4 yX4_fails yX4_fails, .code yX4_fails cX4_fails 2 (some .int)] ++ wsX40)
def wsX4_reported : List Cond := .code yX4_reported cX4_reported 4 (some .int) :: ([.fieldLink RX4 61 "WarTableModel" "thrown" "I", .fieldLink RX4 16 "WarTableModel" "sides" "[I", .fieldLink RX4 80 "WarTableModel" "turns" "I", .fieldLink RX4 34 "WarTableModel" "seen" "[I", .methodLink RX4 65 yX4_in, .static yX4_in, .initialized RX4, .code yX4_in cX4_in 3 (some .boolean), .methodLink RX4 76 yX4_fails, .instanceMethod yX4_fails, .selects RX4 yX4_fails yX4_fails, .code yX4_fails cX4_fails 2 (some .int), .methodLink RX4 94 yX4_isUnit, .instanceMethod yX4_isUnit, .selects RX4 yX4_isUnit yX4_isUnit, .code yX4_isUnit cX4_isUnit 2 (some .boolean), .fieldLink RX4 69 "WarTableModel" "many" "I"] ++ wsX40)
def wsX4_force : List Cond := .code yX4_force cX4_force 4 (some .int) :: ([.fieldLink RX4 61 "WarTableModel" "thrown" "I", .fieldLink RX4 69 "WarTableModel" "many" "I", .fieldLink RX4 16 "WarTableModel" "sides" "[I", .fieldLink RX4 22 "WarTableModel" "strengths" "[I", .fieldLink RX4 80 "WarTableModel" "turns" "I", .methodLink RX4 65 yX4_in, .static yX4_in, .initialized RX4, .code yX4_in cX4_in 3 (some .boolean), .methodLink RX4 76 yX4_fails, .instanceMethod yX4_fails, .selects RX4 yX4_fails yX4_fails, .code yX4_fails cX4_fails 2 (some .int)] ++ wsX40)
def wsX4_weather : List Cond := .code yX4_weather cX4_weather 2 (some .int) :: ([.fieldLink RX4 61 "WarTableModel" "thrown" "I", .fieldLink RX4 80 "WarTableModel" "turns" "I", .fieldLink RX4 31 "WarTableModel" "weathers" "[I", .methodLink RX4 65 yX4_in, .static yX4_in, .initialized RX4, .code yX4_in cX4_in 3 (some .boolean), .methodLink RX4 76 yX4_fails, .instanceMethod yX4_fails, .selects RX4 yX4_fails yX4_fails, .code yX4_fails cX4_fails 2 (some .int)] ++ wsX40)
def wsX4_rulings : List Cond := .code yX4_rulings cX4_rulings 1 (some .int) :: ([.fieldLink RX4 61 "WarTableModel" "thrown" "I", .fieldLink RX4 122 "WarTableModel" "rulingsNow" "I"] ++ wsX40)
def wsJ9_max_7cf53 : List Cond := .code yJ9_max_7cf53 cJ9_max_7cf53 2 (some .int) :: ([])
def wsJ9_min_7cf53 : List Cond := .code yJ9_min_7cf53 cJ9_min_7cf53 2 (some .int) :: ([])
def wsL_addRoad_r1 : List Cond := [Cond.classLink RL 13 "java/lang/IllegalArgumentException", Cond.classLink RL 15 "java/lang/IllegalStateException", Cond.methodLink RL 7 yX3_addRoad, Cond.instanceMethod yX3_addRoad, Cond.selects RX3 yX3_addRoad yX3_addRoad, Cond.initialized RX3, Cond.code yX3_addRoad cX3_addRoad 4 (some .int), Cond.classLink RX3 48 "java/lang/IllegalArgumentException", Cond.initialized "java/lang/IllegalArgumentException", Cond.classLink RX3 62 "java/lang/IllegalStateException", Cond.initialized "java/lang/IllegalStateException", Cond.fieldLink RX3 40 "WarTable" "turns" "I", Cond.fieldLink RX3 12 "WarTable" "map" "LWarTable$RoadMap;", Cond.methodLink RX3 44 yX3_below, Cond.static yX3_below, Cond.code yX3_below cX3_below 2 (some .boolean), Cond.methodLink RX3 55 yX0_joins, Cond.instanceMethod yX0_joins, Cond.selects RX0 yX0_joins yX0_joins, Cond.initialized RX0, Cond.code yX0_joins cX0_joins 3 (some .boolean), Cond.methodLink RX0 22 yX0_nextOverOpen, Cond.instanceMethod yX0_nextOverOpen, Cond.selects RX0 yX0_nextOverOpen yX0_nextOverOpen]
def wsL_addRoad_r2 : List Cond := [Cond.code yX0_nextOverOpen cX0_nextOverOpen 3 (some .int), Cond.fieldLink RX0 9 "WarTable$RoadMap" "nextOverPaved" "[I", Cond.fieldLink RX0 15 "WarTable$RoadMap" "nextOverUnpaved" "[I", Cond.static yX3_has, Cond.code yX3_has cX3_has 2 (some .boolean), Cond.methodLink RX3 202 yX3_bit, Cond.static yX3_bit, Cond.code yX3_bit cX3_bit 1 (some .int), Cond.methodLink RX3 58 yX0_roads, Cond.instanceMethod yX0_roads, Cond.selects RX0 yX0_roads yX0_roads, Cond.code yX0_roads cX0_roads 1 (some .int), Cond.fieldLink RX0 18 "WarTable$RoadMap" "roads" "I", Cond.methodLink RX3 67 yX0_join, Cond.instanceMethod yX0_join, Cond.selects RX0 yX0_join yX0_join, Cond.code yX0_join cX0_join 5 none]
def wsL_addRoad : List Cond := .codeWith yL_addRoad cL_addRoad 6 (some .int) [(0, 12, 15, 13), (0, 12, 19, 15)] :: ((wsL_addRoad_r1 ++ wsL_addRoad_r2) ++ wsX30 ++ wsX00 ++ (vx_atS RX3 52 "java/lang/IllegalArgumentException" ["java/lang/RuntimeException", "java/lang/Exception"]).filter goodWord ++ (vx_atS RX3 66 "java/lang/IllegalStateException" ["java/lang/RuntimeException", "java/lang/Exception"]).filter goodWord)
def wsL_setDepot : List Cond := .codeWith yL_setDepot cL_setDepot 5 (some .int) [(0, 10, 13, 13), (0, 10, 17, 15)] :: ([.classLink RL 13 "java/lang/IllegalArgumentException", .classLink RL 15 "java/lang/IllegalStateException", .methodLink RL 17 yX3_setDepot, .instanceMethod yX3_setDepot, .selects RX3 yX3_setDepot yX3_setDepot, .initialized RX3, .code yX3_setDepot cX3_setDepot 4 (some .int), .classLink RX3 48 "java/lang/IllegalArgumentException", .initialized "java/lang/IllegalArgumentException", .classLink RX3 62 "java/lang/IllegalStateException", .initialized "java/lang/IllegalStateException", .fieldLink RX3 40 "WarTable" "turns" "I", .fieldLink RX3 16 "WarTable" "depots" "[I", .methodLink RX3 44 yX3_below, .static yX3_below, .code yX3_below cX3_below 2 (some .boolean)] ++ wsX30 ++ (vx_atS RX3 52 "java/lang/IllegalArgumentException" ["java/lang/RuntimeException", "java/lang/Exception"]).filter goodWord ++ (vx_atS RX3 66 "java/lang/IllegalStateException" ["java/lang/RuntimeException", "java/lang/Exception"]).filter goodWord)
def wsL_addUnit_r1 : List Cond := [Cond.classLink RL 13 "java/lang/IllegalArgumentException", Cond.classLink RL 15 "java/lang/IllegalStateException", Cond.methodLink RL 21 yX3_addUnit, Cond.instanceMethod yX3_addUnit, Cond.selects RX3 yX3_addUnit yX3_addUnit, Cond.initialized RX3, Cond.code yX3_addUnit cX3_addUnit 4 (some .int), Cond.classLink RX3 48 "java/lang/IllegalArgumentException", Cond.initialized "java/lang/IllegalArgumentException", Cond.classLink RX3 62 "java/lang/IllegalStateException", Cond.initialized "java/lang/IllegalStateException", Cond.fieldLink RX3 40 "WarTable" "turns" "I", Cond.fieldLink RX3 23 "WarTable" "units" "LWarTable$Units;", Cond.methodLink RX3 44 yX3_below, Cond.static yX3_below, Cond.code yX3_below cX3_below 2 (some .boolean), Cond.methodLink RX3 77 yX3_opponent, Cond.static yX3_opponent, Cond.code yX3_opponent cX3_opponent 1 (some .int), Cond.methodLink RX3 81 yX2_townsHeld, Cond.instanceMethod yX2_townsHeld, Cond.selects RX2 yX2_townsHeld yX2_townsHeld, Cond.initialized RX2, Cond.code yX2_townsHeld cX2_townsHeld 6 (some .int)]
def wsL_addUnit_r2 : List Cond := [Cond.fieldLink RX2 24 "WarTable$Units" "count" "I", Cond.methodLink RX2 48 yX2_townAt, Cond.instanceMethod yX2_townAt, Cond.selects RX2 yX2_townAt yX2_townAt, Cond.code yX2_townAt cX2_townAt 3 (some .int), Cond.fieldLink RX2 15 "WarTable$Units" "towns" "[I", Cond.methodLink RX2 36 yX2_isKept, Cond.static yX2_isKept, Cond.code yX2_isKept cX2_isKept 2 (some .boolean), Cond.methodLink RX2 39 yX2_index, Cond.static yX2_index, Cond.code yX2_index cX2_index 2 (some .int), Cond.methodLink RX2 54 yX2_sideOf, Cond.instanceMethod yX2_sideOf, Cond.selects RX2 yX2_sideOf yX2_sideOf, Cond.code yX2_sideOf cX2_sideOf 2 (some .int), Cond.fieldLink RX2 9 "WarTable$Units" "sides" "[I", Cond.static yX3_bit, Cond.code yX3_bit cX3_bit 1 (some .int), Cond.methodLink RX3 85 yX3_has, Cond.static yX3_has, Cond.code yX3_has cX3_has 2 (some .boolean), Cond.methodLink RX3 202 yX3_bit, Cond.methodLink RX3 88 yX2_count]
def wsL_addUnit_r3 : List Cond := [Cond.instanceMethod yX2_count, Cond.selects RX2 yX2_count yX2_count, Cond.code yX2_count cX2_count 1 (some .int), Cond.methodLink RX3 93 yX2_add, Cond.instanceMethod yX2_add, Cond.selects RX2 yX2_add yX2_add, Cond.code yX2_add cX2_add 5 (some .int), Cond.methodLink RX2 32 yX2_place, Cond.instanceMethod yX2_place, Cond.selects RX2 yX2_place yX2_place, Cond.code yX2_place cX2_place 5 none, Cond.fieldLink RX2 18 "WarTable$Units" "strengths" "[I", Cond.methodLink RX2 43 Lib.Math.max.name, Cond.static Lib.Math.max.name, Cond.initialized "java/lang/Math", Cond.code Lib.Math.max.name Lib.Math.max.code 2 (some .int)]
def wsL_addUnit : List Cond := .codeWith yL_addUnit cL_addUnit 6 (some .int) [(0, 12, 15, 13), (0, 12, 19, 15)] :: ((wsL_addUnit_r1 ++ (wsL_addUnit_r2 ++ wsL_addUnit_r3)) ++ wsX30 ++ wsX20 ++ (vx_atS RX3 52 "java/lang/IllegalArgumentException" ["java/lang/RuntimeException", "java/lang/Exception"]).filter goodWord ++ (vx_atS RX3 66 "java/lang/IllegalStateException" ["java/lang/RuntimeException", "java/lang/Exception"]).filter goodWord)
def wsL_order_r1 : List Cond := [Cond.classLink RL 28 "java/lang/IndexOutOfBoundsException", Cond.classLink RL 13 "java/lang/IllegalArgumentException", Cond.methodLink RL 25 yX3_order, Cond.instanceMethod yX3_order, Cond.selects RX3 yX3_order yX3_order, Cond.initialized RX3, Cond.code yX3_order cX3_order 4 (some .int), Cond.classLink RX3 48 "java/lang/IllegalArgumentException", Cond.initialized "java/lang/IllegalArgumentException", Cond.fieldLink RX3 23 "WarTable" "units" "LWarTable$Units;", Cond.fieldLink RX3 40 "WarTable" "turns" "I", Cond.methodLink RX3 97 yX3_checkUnit, Cond.instanceMethod yX3_checkUnit, Cond.selects RX3 yX3_checkUnit yX3_checkUnit, Cond.code yX3_checkUnit cX3_checkUnit 2 none, Cond.classLink RX3 165 "java/lang/IndexOutOfBoundsException", Cond.initialized "java/lang/IndexOutOfBoundsException", Cond.methodLink RX3 88 yX2_count, Cond.instanceMethod yX2_count, Cond.selects RX2 yX2_count yX2_count, Cond.initialized RX2, Cond.code yX2_count cX2_count 1 (some .int), Cond.fieldLink RX2 24 "WarTable$Units" "count" "I", Cond.methodLink RX3 44 yX3_below]
def wsL_order_r2 : List Cond := [Cond.static yX3_below, Cond.code yX3_below cX3_below 2 (some .boolean), Cond.methodLink RX3 103 yX2_orderFor, Cond.instanceMethod yX2_orderFor, Cond.selects RX2 yX2_orderFor yX2_orderFor, Cond.code yX2_orderFor cX2_orderFor 3 (some .int), Cond.fieldLink RX2 21 "WarTable$Units" "orders" "[I", Cond.methodLink RX2 36 yX2_isKept, Cond.static yX2_isKept, Cond.code yX2_isKept cX2_isKept 2 (some .boolean), Cond.methodLink RX2 39 yX2_index, Cond.static yX2_index, Cond.code yX2_index cX2_index 2 (some .int), Cond.methodLink RX3 106 yX2_giveOrder, Cond.instanceMethod yX2_giveOrder, Cond.selects RX2 yX2_giveOrder yX2_giveOrder, Cond.code yX2_giveOrder cX2_giveOrder 4 none]
def wsL_order : List Cond := .codeWith yL_order cL_order 5 (some .int) [(0, 10, 13, 28), (0, 10, 17, 13)] :: ((wsL_order_r1 ++ wsL_order_r2) ++ wsX30 ++ wsX20 ++ (vx_atS RX3 52 "java/lang/IllegalArgumentException" ["java/lang/RuntimeException", "java/lang/Exception"]).filter goodWord ++ (vx_atS RX3 169 "java/lang/IndexOutOfBoundsException" ["java/lang/RuntimeException", "java/lang/Exception"]).filter goodWord)
def wsL_play_r1 : List Cond := [Cond.classLink RL 13 "java/lang/IllegalArgumentException", Cond.classLink RL 15 "java/lang/IllegalStateException", Cond.methodLink RL 30 yX3_play, Cond.instanceMethod yX3_play, Cond.selects RX3 yX3_play yX3_play, Cond.initialized RX3, Cond.code yX3_play cX3_play 3 (some .int), Cond.classLink RX3 62 "java/lang/IllegalStateException", Cond.initialized "java/lang/IllegalStateException", Cond.fieldLink RX3 40 "WarTable" "turns" "I", Cond.fieldLink RX3 27 "WarTable" "weathers" "[I", Cond.fieldLink RX3 23 "WarTable" "units" "LWarTable$Units;", Cond.methodLink RX3 110 yX3_checkWeather, Cond.static yX3_checkWeather, Cond.code yX3_checkWeather cX3_checkWeather 1 none, Cond.classLink RX3 48 "java/lang/IllegalArgumentException", Cond.initialized "java/lang/IllegalArgumentException", Cond.methodLink RX3 44 yX3_below, Cond.static yX3_below, Cond.code yX3_below cX3_below 2 (some .boolean), Cond.methodLink RX3 115 yX3_playFrom, Cond.instanceMethod yX3_playFrom, Cond.selects RX3 yX3_playFrom yX3_playFrom, Cond.code yX3_playFrom cX3_playFrom 5 none]
def wsL_play_r2 : List Cond := [Cond.methodLink RX3 184 Lib.Math.max.name, Cond.static Lib.Math.max.name, Cond.initialized "java/lang/Math", Cond.code Lib.Math.max.name Lib.Math.max.code 2 (some .int), Cond.fieldLink RX3 30 "WarTable" "seen" "[I", Cond.methodLink RX3 187 yX3_suppliedUnits, Cond.instanceMethod yX3_suppliedUnits, Cond.selects RX3 yX3_suppliedUnits yX3_suppliedUnits, Cond.code yX3_suppliedUnits cX3_suppliedUnits 7 (some .int), Cond.methodLink RX3 158 yX3_suppliedTowns, Cond.instanceMethod yX3_suppliedTowns, Cond.selects RX3 yX3_suppliedTowns yX3_suppliedTowns, Cond.code yX3_suppliedTowns cX3_suppliedTowns 8 (some .int), Cond.fieldLink RX3 16 "WarTable" "depots" "[I", Cond.fieldLink RX3 12 "WarTable" "map" "LWarTable$RoadMap;", Cond.methodLink RX3 77 yX3_opponent, Cond.static yX3_opponent, Cond.code yX3_opponent cX3_opponent 1 (some .int), Cond.methodLink RX3 81 yX2_townsHeld, Cond.instanceMethod yX2_townsHeld, Cond.selects RX2 yX2_townsHeld yX2_townsHeld, Cond.initialized RX2, Cond.code yX2_townsHeld cX2_townsHeld 6 (some .int), Cond.fieldLink RX2 24 "WarTable$Units" "count" "I"]
def wsL_play_r3 : List Cond := [Cond.methodLink RX2 48 yX2_townAt, Cond.instanceMethod yX2_townAt, Cond.selects RX2 yX2_townAt yX2_townAt, Cond.code yX2_townAt cX2_townAt 3 (some .int), Cond.fieldLink RX2 15 "WarTable$Units" "towns" "[I", Cond.methodLink RX2 36 yX2_isKept, Cond.static yX2_isKept, Cond.code yX2_isKept cX2_isKept 2 (some .boolean), Cond.methodLink RX2 39 yX2_index, Cond.static yX2_index, Cond.code yX2_index cX2_index 2 (some .int), Cond.methodLink RX2 54 yX2_sideOf, Cond.instanceMethod yX2_sideOf, Cond.selects RX2 yX2_sideOf yX2_sideOf, Cond.code yX2_sideOf cX2_sideOf 2 (some .int), Cond.fieldLink RX2 9 "WarTable$Units" "sides" "[I", Cond.static yX3_bit, Cond.code yX3_bit cX3_bit 1 (some .int), Cond.methodLink RX3 202 yX3_bit, Cond.methodLink RX3 205 yX0_widened, Cond.instanceMethod yX0_widened, Cond.selects RX0 yX0_widened yX0_widened, Cond.initialized RX0, Cond.code yX0_widened cX0_widened 5 (some .int)]
def wsL_play_r4 : List Cond := [Cond.static yX3_has, Cond.code yX3_has cX3_has 2 (some .boolean), Cond.methodLink RX0 22 yX0_nextOverOpen, Cond.instanceMethod yX0_nextOverOpen, Cond.selects RX0 yX0_nextOverOpen yX0_nextOverOpen, Cond.code yX0_nextOverOpen cX0_nextOverOpen 3 (some .int), Cond.fieldLink RX0 9 "WarTable$RoadMap" "nextOverPaved" "[I", Cond.fieldLink RX0 15 "WarTable$RoadMap" "nextOverUnpaved" "[I", Cond.methodLink RX3 88 yX2_count, Cond.instanceMethod yX2_count, Cond.selects RX2 yX2_count yX2_count, Cond.code yX2_count cX2_count 1 (some .int), Cond.methodLink RX3 155 yX2_sideOf, Cond.methodLink RX3 149 yX2_townAt, Cond.methodLink RX3 85 yX3_has, Cond.methodLink RX3 190 yX3_goers, Cond.instanceMethod yX3_goers, Cond.selects RX3 yX3_goers yX3_goers, Cond.code yX3_goers cX3_goers 7 (some .int), Cond.methodLink RX3 208 yX0_nextOverOpen, Cond.methodLink RX3 103 yX2_orderFor, Cond.instanceMethod yX2_orderFor, Cond.selects RX2 yX2_orderFor yX2_orderFor, Cond.code yX2_orderFor cX2_orderFor 3 (some .int)]
def wsL_play_r5 : List Cond := [Cond.fieldLink RX2 21 "WarTable$Units" "orders" "[I", Cond.methodLink RX3 193 yX3_march, Cond.instanceMethod yX3_march, Cond.selects RX3 yX3_march yX3_march, Cond.code yX3_march cX3_march 6 none, Cond.methodLink RX3 211 yX3_isMetOnRoad, Cond.instanceMethod yX3_isMetOnRoad, Cond.selects RX3 yX3_isMetOnRoad yX3_isMetOnRoad, Cond.code yX3_isMetOnRoad cX3_isMetOnRoad 5 (some .boolean), Cond.methodLink RX3 152 yX2_strengthAt, Cond.instanceMethod yX2_strengthAt, Cond.selects RX2 yX2_strengthAt yX2_strengthAt, Cond.code yX2_strengthAt cX2_strengthAt 3 (some .int), Cond.fieldLink RX2 18 "WarTable$Units" "strengths" "[I", Cond.methodLink RX3 215 yX2_place, Cond.instanceMethod yX2_place, Cond.selects RX2 yX2_place yX2_place, Cond.code yX2_place cX2_place 5 none, Cond.methodLink RX2 43 Lib.Math.max.name, Cond.methodLink RX3 196 yX3_fightEverywhere, Cond.instanceMethod yX3_fightEverywhere, Cond.selects RX3 yX3_fightEverywhere yX3_fightEverywhere, Cond.code yX3_fightEverywhere cX3_fightEverywhere 5 none, Cond.methodLink RX3 219 yX3_fight]
def wsL_play_r6 : List Cond := [Cond.instanceMethod yX3_fight, Cond.selects RX3 yX3_fight yX3_fight, Cond.code yX3_fight cX3_fight 8 none, Cond.methodLink RX3 222 yX3_sumInFight, Cond.instanceMethod yX3_sumInFight, Cond.selects RX3 yX3_sumInFight yX3_sumInFight, Cond.code yX3_sumInFight cX3_sumInFight 8 (some .int), Cond.methodLink RX3 225 yX3_loss, Cond.static yX3_loss, Cond.code yX3_loss cX3_loss 2 (some .int), Cond.methodLink RX3 199 yX3_unitsInSight, Cond.instanceMethod yX3_unitsInSight, Cond.selects RX3 yX3_unitsInSight yX3_unitsInSight, Cond.code yX3_unitsInSight cX3_unitsInSight 6 (some .int), Cond.methodLink RX3 118 yX2_livingAt, Cond.instanceMethod yX2_livingAt, Cond.selects RX2 yX2_livingAt yX2_livingAt, Cond.code yX2_livingAt cX2_livingAt 4 (some .int)]
def wsL_play : List Cond := .codeWith yL_play cL_play 4 (some .int) [(0, 9, 12, 13), (0, 9, 15, 15)] :: ((wsL_play_r1 ++ (wsL_play_r2 ++ (wsL_play_r3 ++ (wsL_play_r4 ++ (wsL_play_r5 ++ wsL_play_r6))))) ++ wsX30 ++ wsX20 ++ wsX00 ++ (vx_atS RX3 66 "java/lang/IllegalStateException" ["java/lang/RuntimeException", "java/lang/Exception"]).filter goodWord ++ (vx_atS RX3 52 "java/lang/IllegalArgumentException" ["java/lang/RuntimeException", "java/lang/Exception"]).filter goodWord)
def wsL_rule_r1 : List Cond := [Cond.classLink RL 28 "java/lang/IndexOutOfBoundsException", Cond.classLink RL 13 "java/lang/IllegalArgumentException", Cond.methodLink RL 34 yX3_rule, Cond.instanceMethod yX3_rule, Cond.selects RX3 yX3_rule yX3_rule, Cond.initialized RX3, Cond.code yX3_rule cX3_rule 3 (some .int), Cond.fieldLink RX3 36 "WarTable" "standing" "LWarTable$Rulings;", Cond.fieldLink RX3 27 "WarTable" "weathers" "[I", Cond.fieldLink RX3 23 "WarTable" "units" "LWarTable$Units;", Cond.fieldLink RX3 40 "WarTable" "turns" "I", Cond.methodLink RX3 121 yX3_checkTurn, Cond.instanceMethod yX3_checkTurn, Cond.selects RX3 yX3_checkTurn yX3_checkTurn, Cond.code yX3_checkTurn cX3_checkTurn 2 none, Cond.classLink RX3 165 "java/lang/IndexOutOfBoundsException", Cond.initialized "java/lang/IndexOutOfBoundsException", Cond.methodLink RX3 170 Lib.Math.min.name, Cond.static Lib.Math.min.name, Cond.initialized "java/lang/Math", Cond.code Lib.Math.min.name Lib.Math.min.code 2 (some .int), Cond.methodLink RX3 44 yX3_below, Cond.static yX3_below, Cond.code yX3_below cX3_below 2 (some .boolean)]
def wsL_rule_r2 : List Cond := [Cond.methodLink RX3 110 yX3_checkWeather, Cond.static yX3_checkWeather, Cond.code yX3_checkWeather cX3_checkWeather 1 none, Cond.classLink RX3 48 "java/lang/IllegalArgumentException", Cond.initialized "java/lang/IllegalArgumentException", Cond.methodLink RX3 124 yX1_isFull, Cond.instanceMethod yX1_isFull, Cond.selects RX1 yX1_isFull yX1_isFull, Cond.initialized RX1, Cond.code yX1_isFull cX1_isFull 1 (some .boolean), Cond.fieldLink RX1 18 "WarTable$Rulings" "count" "I", Cond.methodLink RX3 128 yX1_push, Cond.instanceMethod yX1_push, Cond.selects RX1 yX1_push yX1_push, Cond.code yX1_push cX1_push 3 none, Cond.fieldLink RX1 9 "WarTable$Rulings" "turns" "[I", Cond.fieldLink RX1 15 "WarTable$Rulings" "weathersBefore" "[I", Cond.methodLink RX3 132 yX2_copyMoment, Cond.instanceMethod yX2_copyMoment, Cond.selects RX2 yX2_copyMoment yX2_copyMoment, Cond.initialized RX2, Cond.code yX2_copyMoment cX2_copyMoment 4 none, Cond.fieldLink RX2 24 "WarTable$Units" "count" "I", Cond.methodLink RX2 48 yX2_townAt]
def wsL_rule_r3 : List Cond := [Cond.instanceMethod yX2_townAt, Cond.selects RX2 yX2_townAt yX2_townAt, Cond.code yX2_townAt cX2_townAt 3 (some .int), Cond.fieldLink RX2 15 "WarTable$Units" "towns" "[I", Cond.methodLink RX2 36 yX2_isKept, Cond.static yX2_isKept, Cond.code yX2_isKept cX2_isKept 2 (some .boolean), Cond.methodLink RX2 39 yX2_index, Cond.static yX2_index, Cond.code yX2_index cX2_index 2 (some .int), Cond.methodLink RX2 51 yX2_strengthAt, Cond.instanceMethod yX2_strengthAt, Cond.selects RX2 yX2_strengthAt yX2_strengthAt, Cond.code yX2_strengthAt cX2_strengthAt 3 (some .int), Cond.fieldLink RX2 18 "WarTable$Units" "strengths" "[I", Cond.methodLink RX2 32 yX2_place, Cond.instanceMethod yX2_place, Cond.selects RX2 yX2_place yX2_place, Cond.code yX2_place cX2_place 5 none, Cond.methodLink RX2 43 Lib.Math.max.name, Cond.static Lib.Math.max.name, Cond.code Lib.Math.max.name Lib.Math.max.code 2 (some .int), Cond.methodLink RX3 115 yX3_playFrom, Cond.instanceMethod yX3_playFrom]
def wsL_rule_r4 : List Cond := [Cond.selects RX3 yX3_playFrom yX3_playFrom, Cond.code yX3_playFrom cX3_playFrom 5 none, Cond.methodLink RX3 184 Lib.Math.max.name, Cond.fieldLink RX3 30 "WarTable" "seen" "[I", Cond.methodLink RX3 187 yX3_suppliedUnits, Cond.instanceMethod yX3_suppliedUnits, Cond.selects RX3 yX3_suppliedUnits yX3_suppliedUnits, Cond.code yX3_suppliedUnits cX3_suppliedUnits 7 (some .int), Cond.methodLink RX3 158 yX3_suppliedTowns, Cond.instanceMethod yX3_suppliedTowns, Cond.selects RX3 yX3_suppliedTowns yX3_suppliedTowns, Cond.code yX3_suppliedTowns cX3_suppliedTowns 8 (some .int), Cond.fieldLink RX3 16 "WarTable" "depots" "[I", Cond.fieldLink RX3 12 "WarTable" "map" "LWarTable$RoadMap;", Cond.methodLink RX3 77 yX3_opponent, Cond.static yX3_opponent, Cond.code yX3_opponent cX3_opponent 1 (some .int), Cond.methodLink RX3 81 yX2_townsHeld, Cond.instanceMethod yX2_townsHeld, Cond.selects RX2 yX2_townsHeld yX2_townsHeld, Cond.code yX2_townsHeld cX2_townsHeld 6 (some .int), Cond.methodLink RX2 54 yX2_sideOf, Cond.instanceMethod yX2_sideOf, Cond.selects RX2 yX2_sideOf yX2_sideOf]
def wsL_rule_r5 : List Cond := [Cond.code yX2_sideOf cX2_sideOf 2 (some .int), Cond.fieldLink RX2 9 "WarTable$Units" "sides" "[I", Cond.static yX3_bit, Cond.code yX3_bit cX3_bit 1 (some .int), Cond.methodLink RX3 202 yX3_bit, Cond.methodLink RX3 205 yX0_widened, Cond.instanceMethod yX0_widened, Cond.selects RX0 yX0_widened yX0_widened, Cond.initialized RX0, Cond.code yX0_widened cX0_widened 5 (some .int), Cond.static yX3_has, Cond.code yX3_has cX3_has 2 (some .boolean), Cond.methodLink RX0 22 yX0_nextOverOpen, Cond.instanceMethod yX0_nextOverOpen, Cond.selects RX0 yX0_nextOverOpen yX0_nextOverOpen, Cond.code yX0_nextOverOpen cX0_nextOverOpen 3 (some .int), Cond.fieldLink RX0 9 "WarTable$RoadMap" "nextOverPaved" "[I", Cond.fieldLink RX0 15 "WarTable$RoadMap" "nextOverUnpaved" "[I", Cond.methodLink RX3 88 yX2_count, Cond.instanceMethod yX2_count, Cond.selects RX2 yX2_count yX2_count, Cond.code yX2_count cX2_count 1 (some .int), Cond.methodLink RX3 155 yX2_sideOf, Cond.methodLink RX3 149 yX2_townAt]
def wsL_rule_r6 : List Cond := [Cond.methodLink RX3 85 yX3_has, Cond.methodLink RX3 190 yX3_goers, Cond.instanceMethod yX3_goers, Cond.selects RX3 yX3_goers yX3_goers, Cond.code yX3_goers cX3_goers 7 (some .int), Cond.methodLink RX3 208 yX0_nextOverOpen, Cond.methodLink RX3 103 yX2_orderFor, Cond.instanceMethod yX2_orderFor, Cond.selects RX2 yX2_orderFor yX2_orderFor, Cond.code yX2_orderFor cX2_orderFor 3 (some .int), Cond.fieldLink RX2 21 "WarTable$Units" "orders" "[I", Cond.methodLink RX3 193 yX3_march, Cond.instanceMethod yX3_march, Cond.selects RX3 yX3_march yX3_march, Cond.code yX3_march cX3_march 6 none, Cond.methodLink RX3 211 yX3_isMetOnRoad, Cond.instanceMethod yX3_isMetOnRoad, Cond.selects RX3 yX3_isMetOnRoad yX3_isMetOnRoad, Cond.code yX3_isMetOnRoad cX3_isMetOnRoad 5 (some .boolean), Cond.methodLink RX3 152 yX2_strengthAt, Cond.methodLink RX3 215 yX2_place, Cond.methodLink RX3 196 yX3_fightEverywhere, Cond.instanceMethod yX3_fightEverywhere, Cond.selects RX3 yX3_fightEverywhere yX3_fightEverywhere]
def wsL_rule_r7 : List Cond := [Cond.code yX3_fightEverywhere cX3_fightEverywhere 5 none, Cond.methodLink RX3 219 yX3_fight, Cond.instanceMethod yX3_fight, Cond.selects RX3 yX3_fight yX3_fight, Cond.code yX3_fight cX3_fight 8 none, Cond.methodLink RX3 222 yX3_sumInFight, Cond.instanceMethod yX3_sumInFight, Cond.selects RX3 yX3_sumInFight yX3_sumInFight, Cond.code yX3_sumInFight cX3_sumInFight 8 (some .int), Cond.methodLink RX3 225 yX3_loss, Cond.static yX3_loss, Cond.code yX3_loss cX3_loss 2 (some .int), Cond.methodLink RX3 199 yX3_unitsInSight, Cond.instanceMethod yX3_unitsInSight, Cond.selects RX3 yX3_unitsInSight yX3_unitsInSight, Cond.code yX3_unitsInSight cX3_unitsInSight 6 (some .int), Cond.methodLink RX3 135 yX2_differing, Cond.instanceMethod yX2_differing, Cond.selects RX2 yX2_differing yX2_differing, Cond.code yX2_differing cX2_differing 5 (some .int)]
def wsL_rule : List Cond := .codeWith yL_rule cL_rule 5 (some .int) [(0, 10, 13, 28), (0, 10, 17, 13)] :: ((wsL_rule_r1 ++ (wsL_rule_r2 ++ (wsL_rule_r3 ++ (wsL_rule_r4 ++ (wsL_rule_r5 ++ (wsL_rule_r6 ++ wsL_rule_r7)))))) ++ wsX30 ++ wsX10 ++ wsX20 ++ wsX00 ++ (vx_atS RX3 169 "java/lang/IndexOutOfBoundsException" ["java/lang/RuntimeException", "java/lang/Exception"]).filter goodWord ++ (vx_atS RX3 52 "java/lang/IllegalArgumentException" ["java/lang/RuntimeException", "java/lang/Exception"]).filter goodWord)
def wsL_appeal_r1 : List Cond := [Cond.classLink RL 15 "java/lang/IllegalStateException", Cond.methodLink RL 37 yX3_appeal, Cond.instanceMethod yX3_appeal, Cond.selects RX3 yX3_appeal yX3_appeal, Cond.initialized RX3, Cond.code yX3_appeal cX3_appeal 2 (some .int), Cond.classLink RX3 62 "java/lang/IllegalStateException", Cond.initialized "java/lang/IllegalStateException", Cond.fieldLink RX3 36 "WarTable" "standing" "LWarTable$Rulings;", Cond.fieldLink RX3 27 "WarTable" "weathers" "[I", Cond.methodLink RX3 138 yX1_lastTurn, Cond.instanceMethod yX1_lastTurn, Cond.selects RX1 yX1_lastTurn yX1_lastTurn, Cond.initialized RX1, Cond.code yX1_lastTurn cX1_lastTurn 1 (some .int), Cond.fieldLink RX1 18 "WarTable$Rulings" "count" "I", Cond.fieldLink RX1 9 "WarTable$Rulings" "turns" "[I", Cond.static yX3_below, Cond.code yX3_below cX3_below 2 (some .boolean), Cond.methodLink RX3 44 yX3_below, Cond.methodLink RX3 143 yX1_lastWeatherBefore, Cond.instanceMethod yX1_lastWeatherBefore, Cond.selects RX1 yX1_lastWeatherBefore yX1_lastWeatherBefore, Cond.code yX1_lastWeatherBefore cX1_lastWeatherBefore 1 (some .int)]
def wsL_appeal_r2 : List Cond := [Cond.fieldLink RX1 15 "WarTable$Rulings" "weathersBefore" "[I", Cond.methodLink RX3 146 yX1_pop, Cond.instanceMethod yX1_pop, Cond.selects RX1 yX1_pop yX1_pop, Cond.code yX1_pop cX1_pop 1 none, Cond.methodLink RX3 115 yX3_playFrom, Cond.instanceMethod yX3_playFrom, Cond.selects RX3 yX3_playFrom yX3_playFrom, Cond.code yX3_playFrom cX3_playFrom 5 none, Cond.methodLink RX3 184 Lib.Math.max.name, Cond.static Lib.Math.max.name, Cond.initialized "java/lang/Math", Cond.code Lib.Math.max.name Lib.Math.max.code 2 (some .int), Cond.fieldLink RX3 40 "WarTable" "turns" "I", Cond.fieldLink RX3 30 "WarTable" "seen" "[I", Cond.methodLink RX3 187 yX3_suppliedUnits, Cond.instanceMethod yX3_suppliedUnits, Cond.selects RX3 yX3_suppliedUnits yX3_suppliedUnits, Cond.code yX3_suppliedUnits cX3_suppliedUnits 7 (some .int), Cond.fieldLink RX3 23 "WarTable" "units" "LWarTable$Units;", Cond.methodLink RX3 158 yX3_suppliedTowns, Cond.instanceMethod yX3_suppliedTowns, Cond.selects RX3 yX3_suppliedTowns yX3_suppliedTowns, Cond.code yX3_suppliedTowns cX3_suppliedTowns 8 (some .int)]
def wsL_appeal_r3 : List Cond := [Cond.fieldLink RX3 16 "WarTable" "depots" "[I", Cond.fieldLink RX3 12 "WarTable" "map" "LWarTable$RoadMap;", Cond.methodLink RX3 77 yX3_opponent, Cond.static yX3_opponent, Cond.code yX3_opponent cX3_opponent 1 (some .int), Cond.methodLink RX3 81 yX2_townsHeld, Cond.instanceMethod yX2_townsHeld, Cond.selects RX2 yX2_townsHeld yX2_townsHeld, Cond.initialized RX2, Cond.code yX2_townsHeld cX2_townsHeld 6 (some .int), Cond.fieldLink RX2 24 "WarTable$Units" "count" "I", Cond.methodLink RX2 48 yX2_townAt, Cond.instanceMethod yX2_townAt, Cond.selects RX2 yX2_townAt yX2_townAt, Cond.code yX2_townAt cX2_townAt 3 (some .int), Cond.fieldLink RX2 15 "WarTable$Units" "towns" "[I", Cond.methodLink RX2 36 yX2_isKept, Cond.static yX2_isKept, Cond.code yX2_isKept cX2_isKept 2 (some .boolean), Cond.methodLink RX2 39 yX2_index, Cond.static yX2_index, Cond.code yX2_index cX2_index 2 (some .int), Cond.methodLink RX2 54 yX2_sideOf, Cond.instanceMethod yX2_sideOf]
def wsL_appeal_r4 : List Cond := [Cond.selects RX2 yX2_sideOf yX2_sideOf, Cond.code yX2_sideOf cX2_sideOf 2 (some .int), Cond.fieldLink RX2 9 "WarTable$Units" "sides" "[I", Cond.static yX3_bit, Cond.code yX3_bit cX3_bit 1 (some .int), Cond.methodLink RX3 202 yX3_bit, Cond.methodLink RX3 205 yX0_widened, Cond.instanceMethod yX0_widened, Cond.selects RX0 yX0_widened yX0_widened, Cond.initialized RX0, Cond.code yX0_widened cX0_widened 5 (some .int), Cond.static yX3_has, Cond.code yX3_has cX3_has 2 (some .boolean), Cond.methodLink RX0 22 yX0_nextOverOpen, Cond.instanceMethod yX0_nextOverOpen, Cond.selects RX0 yX0_nextOverOpen yX0_nextOverOpen, Cond.code yX0_nextOverOpen cX0_nextOverOpen 3 (some .int), Cond.fieldLink RX0 9 "WarTable$RoadMap" "nextOverPaved" "[I", Cond.fieldLink RX0 15 "WarTable$RoadMap" "nextOverUnpaved" "[I", Cond.methodLink RX3 88 yX2_count, Cond.instanceMethod yX2_count, Cond.selects RX2 yX2_count yX2_count, Cond.code yX2_count cX2_count 1 (some .int), Cond.methodLink RX3 155 yX2_sideOf]
def wsL_appeal_r5 : List Cond := [Cond.methodLink RX3 149 yX2_townAt, Cond.methodLink RX3 85 yX3_has, Cond.methodLink RX3 190 yX3_goers, Cond.instanceMethod yX3_goers, Cond.selects RX3 yX3_goers yX3_goers, Cond.code yX3_goers cX3_goers 7 (some .int), Cond.methodLink RX3 208 yX0_nextOverOpen, Cond.methodLink RX3 103 yX2_orderFor, Cond.instanceMethod yX2_orderFor, Cond.selects RX2 yX2_orderFor yX2_orderFor, Cond.code yX2_orderFor cX2_orderFor 3 (some .int), Cond.fieldLink RX2 21 "WarTable$Units" "orders" "[I", Cond.methodLink RX3 193 yX3_march, Cond.instanceMethod yX3_march, Cond.selects RX3 yX3_march yX3_march, Cond.code yX3_march cX3_march 6 none, Cond.methodLink RX3 211 yX3_isMetOnRoad, Cond.instanceMethod yX3_isMetOnRoad, Cond.selects RX3 yX3_isMetOnRoad yX3_isMetOnRoad, Cond.code yX3_isMetOnRoad cX3_isMetOnRoad 5 (some .boolean), Cond.methodLink RX3 152 yX2_strengthAt, Cond.instanceMethod yX2_strengthAt, Cond.selects RX2 yX2_strengthAt yX2_strengthAt, Cond.code yX2_strengthAt cX2_strengthAt 3 (some .int)]
def wsL_appeal_r6 : List Cond := [Cond.fieldLink RX2 18 "WarTable$Units" "strengths" "[I", Cond.methodLink RX3 215 yX2_place, Cond.instanceMethod yX2_place, Cond.selects RX2 yX2_place yX2_place, Cond.code yX2_place cX2_place 5 none, Cond.methodLink RX2 43 Lib.Math.max.name, Cond.methodLink RX3 196 yX3_fightEverywhere, Cond.instanceMethod yX3_fightEverywhere, Cond.selects RX3 yX3_fightEverywhere yX3_fightEverywhere, Cond.code yX3_fightEverywhere cX3_fightEverywhere 5 none, Cond.methodLink RX3 219 yX3_fight, Cond.instanceMethod yX3_fight, Cond.selects RX3 yX3_fight yX3_fight, Cond.code yX3_fight cX3_fight 8 none, Cond.methodLink RX3 222 yX3_sumInFight, Cond.instanceMethod yX3_sumInFight, Cond.selects RX3 yX3_sumInFight yX3_sumInFight, Cond.code yX3_sumInFight cX3_sumInFight 8 (some .int), Cond.methodLink RX3 225 yX3_loss, Cond.static yX3_loss, Cond.code yX3_loss cX3_loss 2 (some .int), Cond.methodLink RX3 199 yX3_unitsInSight, Cond.instanceMethod yX3_unitsInSight, Cond.selects RX3 yX3_unitsInSight yX3_unitsInSight]
def wsL_appeal_r7 : List Cond := [Cond.code yX3_unitsInSight cX3_unitsInSight 6 (some .int)]
def wsL_appeal : List Cond := .codeWith yL_appeal cL_appeal 3 (some .int) [(0, 8, 11, 15)] :: ((wsL_appeal_r1 ++ (wsL_appeal_r2 ++ (wsL_appeal_r3 ++ (wsL_appeal_r4 ++ (wsL_appeal_r5 ++ (wsL_appeal_r6 ++ wsL_appeal_r7)))))) ++ wsX30 ++ wsX10 ++ wsX20 ++ wsX00 ++ (vx_atS RX3 66 "java/lang/IllegalStateException" ["java/lang/RuntimeException", "java/lang/Exception"]).filter goodWord)
def wsL_townOf_r1 : List Cond := [Cond.classLink RL 28 "java/lang/IndexOutOfBoundsException", Cond.methodLink RL 41 yX3_townOf, Cond.instanceMethod yX3_townOf, Cond.selects RX3 yX3_townOf yX3_townOf, Cond.initialized RX3, Cond.code yX3_townOf cX3_townOf 2 (some .int), Cond.fieldLink RX3 23 "WarTable" "units" "LWarTable$Units;", Cond.fieldLink RX3 40 "WarTable" "turns" "I", Cond.methodLink RX3 97 yX3_checkUnit, Cond.instanceMethod yX3_checkUnit, Cond.selects RX3 yX3_checkUnit yX3_checkUnit, Cond.code yX3_checkUnit cX3_checkUnit 2 none, Cond.classLink RX3 165 "java/lang/IndexOutOfBoundsException", Cond.initialized "java/lang/IndexOutOfBoundsException", Cond.methodLink RX3 88 yX2_count, Cond.instanceMethod yX2_count, Cond.selects RX2 yX2_count yX2_count, Cond.initialized RX2, Cond.code yX2_count cX2_count 1 (some .int), Cond.fieldLink RX2 24 "WarTable$Units" "count" "I", Cond.methodLink RX3 44 yX3_below, Cond.static yX3_below, Cond.code yX3_below cX3_below 2 (some .boolean), Cond.methodLink RX3 149 yX2_townAt]
def wsL_townOf_r2 : List Cond := [Cond.instanceMethod yX2_townAt, Cond.selects RX2 yX2_townAt yX2_townAt, Cond.code yX2_townAt cX2_townAt 3 (some .int), Cond.fieldLink RX2 15 "WarTable$Units" "towns" "[I", Cond.methodLink RX2 36 yX2_isKept, Cond.static yX2_isKept, Cond.code yX2_isKept cX2_isKept 2 (some .boolean), Cond.methodLink RX2 39 yX2_index, Cond.static yX2_index, Cond.code yX2_index cX2_index 2 (some .int)]
def wsL_townOf : List Cond := .codeWith yL_townOf cL_townOf 4 (some .int) [(0, 9, 12, 28)] :: ((wsL_townOf_r1 ++ wsL_townOf_r2) ++ wsX30 ++ wsX20 ++ (vx_atS RX3 169 "java/lang/IndexOutOfBoundsException" ["java/lang/RuntimeException", "java/lang/Exception"]).filter goodWord)
def wsL_strength_r1 : List Cond := [Cond.classLink RL 28 "java/lang/IndexOutOfBoundsException", Cond.methodLink RL 44 yX3_strength, Cond.instanceMethod yX3_strength, Cond.selects RX3 yX3_strength yX3_strength, Cond.initialized RX3, Cond.code yX3_strength cX3_strength 2 (some .int), Cond.fieldLink RX3 23 "WarTable" "units" "LWarTable$Units;", Cond.fieldLink RX3 40 "WarTable" "turns" "I", Cond.methodLink RX3 97 yX3_checkUnit, Cond.instanceMethod yX3_checkUnit, Cond.selects RX3 yX3_checkUnit yX3_checkUnit, Cond.code yX3_checkUnit cX3_checkUnit 2 none, Cond.classLink RX3 165 "java/lang/IndexOutOfBoundsException", Cond.initialized "java/lang/IndexOutOfBoundsException", Cond.methodLink RX3 88 yX2_count, Cond.instanceMethod yX2_count, Cond.selects RX2 yX2_count yX2_count, Cond.initialized RX2, Cond.code yX2_count cX2_count 1 (some .int), Cond.fieldLink RX2 24 "WarTable$Units" "count" "I", Cond.methodLink RX3 44 yX3_below, Cond.static yX3_below, Cond.code yX3_below cX3_below 2 (some .boolean), Cond.methodLink RX3 152 yX2_strengthAt]
def wsL_strength_r2 : List Cond := [Cond.instanceMethod yX2_strengthAt, Cond.selects RX2 yX2_strengthAt yX2_strengthAt, Cond.code yX2_strengthAt cX2_strengthAt 3 (some .int), Cond.fieldLink RX2 18 "WarTable$Units" "strengths" "[I", Cond.methodLink RX2 36 yX2_isKept, Cond.static yX2_isKept, Cond.code yX2_isKept cX2_isKept 2 (some .boolean), Cond.methodLink RX2 39 yX2_index, Cond.static yX2_index, Cond.code yX2_index cX2_index 2 (some .int)]
def wsL_strength : List Cond := .codeWith yL_strength cL_strength 4 (some .int) [(0, 9, 12, 28)] :: ((wsL_strength_r1 ++ wsL_strength_r2) ++ wsX30 ++ wsX20 ++ (vx_atS RX3 169 "java/lang/IndexOutOfBoundsException" ["java/lang/RuntimeException", "java/lang/Exception"]).filter goodWord)
def wsL_supply_r1 : List Cond := [Cond.classLink RL 28 "java/lang/IndexOutOfBoundsException", Cond.classLink RL 13 "java/lang/IllegalArgumentException", Cond.methodLink RL 47 yX3_supply, Cond.instanceMethod yX3_supply, Cond.selects RX3 yX3_supply yX3_supply, Cond.initialized RX3, Cond.code yX3_supply cX3_supply 5 (some .int), Cond.fieldLink RX3 23 "WarTable" "units" "LWarTable$Units;", Cond.fieldLink RX3 40 "WarTable" "turns" "I", Cond.methodLink RX3 97 yX3_checkUnit, Cond.instanceMethod yX3_checkUnit, Cond.selects RX3 yX3_checkUnit yX3_checkUnit, Cond.code yX3_checkUnit cX3_checkUnit 2 none, Cond.classLink RX3 165 "java/lang/IndexOutOfBoundsException", Cond.initialized "java/lang/IndexOutOfBoundsException", Cond.methodLink RX3 88 yX2_count, Cond.instanceMethod yX2_count, Cond.selects RX2 yX2_count yX2_count, Cond.initialized RX2, Cond.code yX2_count cX2_count 1 (some .int), Cond.fieldLink RX2 24 "WarTable$Units" "count" "I", Cond.methodLink RX3 44 yX3_below, Cond.static yX3_below, Cond.code yX3_below cX3_below 2 (some .boolean)]
def wsL_supply_r2 : List Cond := [Cond.methodLink RX3 110 yX3_checkWeather, Cond.static yX3_checkWeather, Cond.code yX3_checkWeather cX3_checkWeather 1 none, Cond.classLink RX3 48 "java/lang/IllegalArgumentException", Cond.initialized "java/lang/IllegalArgumentException", Cond.methodLink RX3 149 yX2_townAt, Cond.instanceMethod yX2_townAt, Cond.selects RX2 yX2_townAt yX2_townAt, Cond.code yX2_townAt cX2_townAt 3 (some .int), Cond.fieldLink RX2 15 "WarTable$Units" "towns" "[I", Cond.methodLink RX2 36 yX2_isKept, Cond.static yX2_isKept, Cond.code yX2_isKept cX2_isKept 2 (some .boolean), Cond.methodLink RX2 39 yX2_index, Cond.static yX2_index, Cond.code yX2_index cX2_index 2 (some .int), Cond.methodLink RX3 155 yX2_sideOf, Cond.instanceMethod yX2_sideOf, Cond.selects RX2 yX2_sideOf yX2_sideOf, Cond.code yX2_sideOf cX2_sideOf 2 (some .int), Cond.fieldLink RX2 9 "WarTable$Units" "sides" "[I", Cond.methodLink RX3 158 yX3_suppliedTowns, Cond.instanceMethod yX3_suppliedTowns, Cond.selects RX3 yX3_suppliedTowns yX3_suppliedTowns]
def wsL_supply_r3 : List Cond := [Cond.code yX3_suppliedTowns cX3_suppliedTowns 8 (some .int), Cond.fieldLink RX3 16 "WarTable" "depots" "[I", Cond.fieldLink RX3 12 "WarTable" "map" "LWarTable$RoadMap;", Cond.methodLink RX3 77 yX3_opponent, Cond.static yX3_opponent, Cond.code yX3_opponent cX3_opponent 1 (some .int), Cond.methodLink RX3 81 yX2_townsHeld, Cond.instanceMethod yX2_townsHeld, Cond.selects RX2 yX2_townsHeld yX2_townsHeld, Cond.code yX2_townsHeld cX2_townsHeld 6 (some .int), Cond.methodLink RX2 48 yX2_townAt, Cond.methodLink RX2 54 yX2_sideOf, Cond.static yX3_bit, Cond.code yX3_bit cX3_bit 1 (some .int), Cond.methodLink RX3 202 yX3_bit, Cond.methodLink RX3 205 yX0_widened, Cond.instanceMethod yX0_widened, Cond.selects RX0 yX0_widened yX0_widened, Cond.initialized RX0, Cond.code yX0_widened cX0_widened 5 (some .int), Cond.static yX3_has, Cond.code yX3_has cX3_has 2 (some .boolean), Cond.methodLink RX0 22 yX0_nextOverOpen, Cond.instanceMethod yX0_nextOverOpen]
def wsL_supply_r4 : List Cond := [Cond.selects RX0 yX0_nextOverOpen yX0_nextOverOpen, Cond.code yX0_nextOverOpen cX0_nextOverOpen 3 (some .int), Cond.fieldLink RX0 9 "WarTable$RoadMap" "nextOverPaved" "[I", Cond.fieldLink RX0 15 "WarTable$RoadMap" "nextOverUnpaved" "[I", Cond.methodLink RX3 85 yX3_has]
def wsL_supply : List Cond := .codeWith yL_supply cL_supply 5 (some .int) [(0, 10, 13, 28), (0, 10, 17, 13)] :: ((wsL_supply_r1 ++ (wsL_supply_r2 ++ (wsL_supply_r3 ++ wsL_supply_r4))) ++ wsX30 ++ wsX20 ++ wsX00 ++ (vx_atS RX3 169 "java/lang/IndexOutOfBoundsException" ["java/lang/RuntimeException", "java/lang/Exception"]).filter goodWord ++ (vx_atS RX3 52 "java/lang/IllegalArgumentException" ["java/lang/RuntimeException", "java/lang/Exception"]).filter goodWord)
def wsL_townAfter_r1 : List Cond := [Cond.classLink RL 28 "java/lang/IndexOutOfBoundsException", Cond.methodLink RL 50 yX3_townAfter, Cond.instanceMethod yX3_townAfter, Cond.selects RX3 yX3_townAfter yX3_townAfter, Cond.initialized RX3, Cond.code yX3_townAfter cX3_townAfter 3 (some .int), Cond.fieldLink RX3 23 "WarTable" "units" "LWarTable$Units;", Cond.methodLink RX3 97 yX3_checkUnit, Cond.instanceMethod yX3_checkUnit, Cond.selects RX3 yX3_checkUnit yX3_checkUnit, Cond.code yX3_checkUnit cX3_checkUnit 2 none, Cond.classLink RX3 165 "java/lang/IndexOutOfBoundsException", Cond.initialized "java/lang/IndexOutOfBoundsException", Cond.methodLink RX3 88 yX2_count, Cond.instanceMethod yX2_count, Cond.selects RX2 yX2_count yX2_count, Cond.initialized RX2, Cond.code yX2_count cX2_count 1 (some .int), Cond.fieldLink RX2 24 "WarTable$Units" "count" "I", Cond.methodLink RX3 44 yX3_below, Cond.static yX3_below, Cond.code yX3_below cX3_below 2 (some .boolean), Cond.methodLink RX3 121 yX3_checkTurn, Cond.instanceMethod yX3_checkTurn]
def wsL_townAfter_r2 : List Cond := [Cond.selects RX3 yX3_checkTurn yX3_checkTurn, Cond.code yX3_checkTurn cX3_checkTurn 2 none, Cond.fieldLink RX3 40 "WarTable" "turns" "I", Cond.methodLink RX3 170 Lib.Math.min.name, Cond.static Lib.Math.min.name, Cond.initialized "java/lang/Math", Cond.code Lib.Math.min.name Lib.Math.min.code 2 (some .int), Cond.methodLink RX3 149 yX2_townAt, Cond.instanceMethod yX2_townAt, Cond.selects RX2 yX2_townAt yX2_townAt, Cond.code yX2_townAt cX2_townAt 3 (some .int), Cond.fieldLink RX2 15 "WarTable$Units" "towns" "[I", Cond.methodLink RX2 36 yX2_isKept, Cond.static yX2_isKept, Cond.code yX2_isKept cX2_isKept 2 (some .boolean), Cond.methodLink RX2 39 yX2_index, Cond.static yX2_index, Cond.code yX2_index cX2_index 2 (some .int)]
def wsL_townAfter : List Cond := .codeWith yL_townAfter cL_townAfter 5 (some .int) [(0, 10, 13, 28)] :: ((wsL_townAfter_r1 ++ wsL_townAfter_r2) ++ wsX30 ++ wsX20 ++ (vx_atS RX3 169 "java/lang/IndexOutOfBoundsException" ["java/lang/RuntimeException", "java/lang/Exception"]).filter goodWord)
def wsL_reported_r1 : List Cond := [Cond.classLink RL 13 "java/lang/IllegalArgumentException", Cond.classLink RL 28 "java/lang/IndexOutOfBoundsException", Cond.methodLink RL 53 yX3_reported, Cond.instanceMethod yX3_reported, Cond.selects RX3 yX3_reported yX3_reported, Cond.initialized RX3, Cond.code yX3_reported cX3_reported 4 (some .int), Cond.classLink RX3 165 "java/lang/IndexOutOfBoundsException", Cond.initialized "java/lang/IndexOutOfBoundsException", Cond.fieldLink RX3 23 "WarTable" "units" "LWarTable$Units;", Cond.fieldLink RX3 40 "WarTable" "turns" "I", Cond.methodLink RX3 170 Lib.Math.min.name, Cond.static Lib.Math.min.name, Cond.initialized "java/lang/Math", Cond.code Lib.Math.min.name Lib.Math.min.code 2 (some .int), Cond.fieldLink RX3 30 "WarTable" "seen" "[I", Cond.methodLink RX3 162 yX3_checkSide, Cond.static yX3_checkSide, Cond.code yX3_checkSide cX3_checkSide 1 none, Cond.classLink RX3 48 "java/lang/IllegalArgumentException", Cond.initialized "java/lang/IllegalArgumentException", Cond.methodLink RX3 44 yX3_below, Cond.static yX3_below, Cond.code yX3_below cX3_below 2 (some .boolean)]
def wsL_reported_r2 : List Cond := [Cond.methodLink RX3 97 yX3_checkUnit, Cond.instanceMethod yX3_checkUnit, Cond.selects RX3 yX3_checkUnit yX3_checkUnit, Cond.code yX3_checkUnit cX3_checkUnit 2 none, Cond.methodLink RX3 88 yX2_count, Cond.instanceMethod yX2_count, Cond.selects RX2 yX2_count yX2_count, Cond.initialized RX2, Cond.code yX2_count cX2_count 1 (some .int), Cond.fieldLink RX2 24 "WarTable$Units" "count" "I", Cond.methodLink RX3 155 yX2_sideOf, Cond.instanceMethod yX2_sideOf, Cond.selects RX2 yX2_sideOf yX2_sideOf, Cond.code yX2_sideOf cX2_sideOf 2 (some .int), Cond.fieldLink RX2 9 "WarTable$Units" "sides" "[I", Cond.methodLink RX3 85 yX3_has, Cond.static yX3_has, Cond.code yX3_has cX3_has 2 (some .boolean), Cond.methodLink RX3 202 yX3_bit, Cond.static yX3_bit, Cond.code yX3_bit cX3_bit 1 (some .int), Cond.methodLink RX3 149 yX2_townAt, Cond.instanceMethod yX2_townAt, Cond.selects RX2 yX2_townAt yX2_townAt]
def wsL_reported_r3 : List Cond := [Cond.code yX2_townAt cX2_townAt 3 (some .int), Cond.fieldLink RX2 15 "WarTable$Units" "towns" "[I", Cond.methodLink RX2 36 yX2_isKept, Cond.static yX2_isKept, Cond.code yX2_isKept cX2_isKept 2 (some .boolean), Cond.methodLink RX2 39 yX2_index, Cond.static yX2_index, Cond.code yX2_index cX2_index 2 (some .int)]
def wsL_reported : List Cond := .codeWith yL_reported cL_reported 5 (some .int) [(0, 10, 13, 13), (0, 10, 17, 28)] :: ((wsL_reported_r1 ++ (wsL_reported_r2 ++ wsL_reported_r3)) ++ wsX30 ++ wsX20 ++ (vx_atS RX3 169 "java/lang/IndexOutOfBoundsException" ["java/lang/RuntimeException", "java/lang/Exception"]).filter goodWord ++ (vx_atS RX3 52 "java/lang/IllegalArgumentException" ["java/lang/RuntimeException", "java/lang/Exception"]).filter goodWord)
def wsL_force_r1 : List Cond := [Cond.classLink RL 13 "java/lang/IllegalArgumentException", Cond.methodLink RL 56 yX3_force, Cond.instanceMethod yX3_force, Cond.selects RX3 yX3_force yX3_force, Cond.initialized RX3, Cond.code yX3_force cX3_force 4 (some .int), Cond.fieldLink RX3 23 "WarTable" "units" "LWarTable$Units;", Cond.fieldLink RX3 40 "WarTable" "turns" "I", Cond.methodLink RX3 162 yX3_checkSide, Cond.static yX3_checkSide, Cond.code yX3_checkSide cX3_checkSide 1 none, Cond.classLink RX3 48 "java/lang/IllegalArgumentException", Cond.initialized "java/lang/IllegalArgumentException", Cond.methodLink RX3 44 yX3_below, Cond.static yX3_below, Cond.code yX3_below cX3_below 2 (some .boolean), Cond.methodLink RX3 88 yX2_count, Cond.instanceMethod yX2_count, Cond.selects RX2 yX2_count yX2_count, Cond.initialized RX2, Cond.code yX2_count cX2_count 1 (some .int), Cond.fieldLink RX2 24 "WarTable$Units" "count" "I", Cond.methodLink RX3 155 yX2_sideOf, Cond.instanceMethod yX2_sideOf]
def wsL_force_r2 : List Cond := [Cond.selects RX2 yX2_sideOf yX2_sideOf, Cond.code yX2_sideOf cX2_sideOf 2 (some .int), Cond.fieldLink RX2 9 "WarTable$Units" "sides" "[I", Cond.methodLink RX3 152 yX2_strengthAt, Cond.instanceMethod yX2_strengthAt, Cond.selects RX2 yX2_strengthAt yX2_strengthAt, Cond.code yX2_strengthAt cX2_strengthAt 3 (some .int), Cond.fieldLink RX2 18 "WarTable$Units" "strengths" "[I", Cond.methodLink RX2 36 yX2_isKept, Cond.static yX2_isKept, Cond.code yX2_isKept cX2_isKept 2 (some .boolean), Cond.methodLink RX2 39 yX2_index, Cond.static yX2_index, Cond.code yX2_index cX2_index 2 (some .int)]
def wsL_force : List Cond := .codeWith yL_force cL_force 4 (some .int) [(0, 9, 12, 13)] :: ((wsL_force_r1 ++ wsL_force_r2) ++ wsX30 ++ wsX20 ++ (vx_atS RX3 52 "java/lang/IllegalArgumentException" ["java/lang/RuntimeException", "java/lang/Exception"]).filter goodWord)
def wsL_weather : List Cond := .codeWith yL_weather cL_weather 4 (some .int) [(0, 9, 12, 28)] :: ([.classLink RL 28 "java/lang/IndexOutOfBoundsException", .methodLink RL 59 yX3_weather, .instanceMethod yX3_weather, .selects RX3 yX3_weather yX3_weather, .initialized RX3, .code yX3_weather cX3_weather 2 (some .int), .fieldLink RX3 27 "WarTable" "weathers" "[I", .methodLink RX3 121 yX3_checkTurn, .instanceMethod yX3_checkTurn, .selects RX3 yX3_checkTurn yX3_checkTurn, .code yX3_checkTurn cX3_checkTurn 2 none, .classLink RX3 165 "java/lang/IndexOutOfBoundsException", .initialized "java/lang/IndexOutOfBoundsException", .fieldLink RX3 40 "WarTable" "turns" "I", .methodLink RX3 170 Lib.Math.min.name, .static Lib.Math.min.name, .initialized "java/lang/Math", .code Lib.Math.min.name Lib.Math.min.code 2 (some .int), .methodLink RX3 44 yX3_below, .static yX3_below, .code yX3_below cX3_below 2 (some .boolean)] ++ wsX30 ++ (vx_atS RX3 169 "java/lang/IndexOutOfBoundsException" ["java/lang/RuntimeException", "java/lang/Exception"]).filter goodWord)
def wsL_law0_r1 : List Cond := [Cond.classLink RL 8 RX3, Cond.instantiable RX3 7, Cond.initialized RX3, Cond.classLink RL 63 RX4, Cond.instantiable RX4 22, Cond.initialized RX4, Cond.arrayClass .long, Cond.methodLink RL 62 yX3_init, Cond.instanceMethod yX3_init, Cond.code yX3_init cX3_init 1 none, Cond.methodLink RX3 3 objectInit, Cond.instanceMethod objectInit, Cond.code objectInit ⟨#[0xb1]⟩ 1 none, Cond.classLink RX3 9 RX0, Cond.instantiable RX0 3, Cond.initialized RX0, Cond.fieldLink RX3 12 "WarTable" "map" "LWarTable$RoadMap;", Cond.arrayClass .int, Cond.fieldLink RX3 16 "WarTable" "depots" "[I", Cond.classLink RX3 20 RX2, Cond.instantiable RX2 5, Cond.initialized RX2, Cond.fieldLink RX3 23 "WarTable" "units" "LWarTable$Units;", Cond.fieldLink RX3 27 "WarTable" "weathers" "[I"]
def wsL_law0_r2 : List Cond := [Cond.fieldLink RX3 30 "WarTable" "seen" "[I", Cond.classLink RX3 33 RX1, Cond.instantiable RX1 3, Cond.initialized RX1, Cond.fieldLink RX3 36 "WarTable" "standing" "LWarTable$Rulings;", Cond.fieldLink RX3 40 "WarTable" "turns" "I", Cond.instanceMethod yX0_init, Cond.code yX0_init cX0_init 1 none, Cond.methodLink RX0 3 objectInit, Cond.fieldLink RX0 9 "WarTable$RoadMap" "nextOverPaved" "[I", Cond.fieldLink RX0 15 "WarTable$RoadMap" "nextOverUnpaved" "[I", Cond.fieldLink RX0 18 "WarTable$RoadMap" "roads" "I", Cond.instanceMethod yX2_init, Cond.code yX2_init cX2_init 1 none, Cond.methodLink RX2 3 objectInit, Cond.fieldLink RX2 9 "WarTable$Units" "sides" "[I", Cond.fieldLink RX2 15 "WarTable$Units" "towns" "[I", Cond.fieldLink RX2 18 "WarTable$Units" "strengths" "[I", Cond.fieldLink RX2 21 "WarTable$Units" "orders" "[I", Cond.fieldLink RX2 24 "WarTable$Units" "count" "I", Cond.instanceMethod yX1_init, Cond.code yX1_init cX1_init 1 none, Cond.methodLink RX1 3 objectInit, Cond.fieldLink RX1 9 "WarTable$Rulings" "turns" "[I"]
def wsL_law0_r3 : List Cond := [Cond.fieldLink RX1 15 "WarTable$Rulings" "weathersBefore" "[I", Cond.fieldLink RX1 18 "WarTable$Rulings" "count" "I", Cond.methodLink RL 65 yX4_init, Cond.instanceMethod yX4_init, Cond.code yX4_init cX4_init 2 none, Cond.methodLink RX4 1 objectInit, Cond.fieldLink RX4 7 "WarTableModel" "paved" "[I", Cond.fieldLink RX4 13 "WarTableModel" "depots" "[I", Cond.fieldLink RX4 16 "WarTableModel" "sides" "[I", Cond.fieldLink RX4 19 "WarTableModel" "towns" "[I", Cond.fieldLink RX4 22 "WarTableModel" "strengths" "[I", Cond.fieldLink RX4 25 "WarTableModel" "orders" "[I", Cond.fieldLink RX4 28 "WarTableModel" "next" "[I", Cond.fieldLink RX4 31 "WarTableModel" "weathers" "[I", Cond.fieldLink RX4 34 "WarTableModel" "seen" "[I", Cond.fieldLink RX4 37 "WarTableModel" "ruled" "[I", Cond.fieldLink RX4 40 "WarTableModel" "before" "[I", Cond.fieldLink RX4 43 "WarTableModel" "place" "[I", Cond.fieldLink RX4 46 "WarTableModel" "force" "[I", Cond.fieldLink RX4 49 "WarTableModel" "supplied" "[I", Cond.fieldLink RX4 52 "WarTableModel" "goal" "[I", Cond.fieldLink RX4 55 "WarTableModel" "far" "[I", Cond.fieldLink RX4 58 "WarTableModel" "had" "[I", Cond.methodLink RL 66 yL_addRoad]
def wsL_law0_r4 : List Cond := [Cond.static yL_addRoad, Cond.initialized RL, Cond.codeWith yL_addRoad cL_addRoad 6 (some .int) [(0, 12, 15, 13), (0, 12, 19, 15)], Cond.classLink RL 13 "java/lang/IllegalArgumentException", Cond.classLink RL 15 "java/lang/IllegalStateException", Cond.methodLink RL 7 yX3_addRoad, Cond.instanceMethod yX3_addRoad, Cond.selects RX3 yX3_addRoad yX3_addRoad, Cond.code yX3_addRoad cX3_addRoad 4 (some .int), Cond.classLink RX3 48 "java/lang/IllegalArgumentException", Cond.initialized "java/lang/IllegalArgumentException", Cond.classLink RX3 62 "java/lang/IllegalStateException", Cond.initialized "java/lang/IllegalStateException", Cond.methodLink RX3 44 yX3_below, Cond.static yX3_below, Cond.code yX3_below cX3_below 2 (some .boolean), Cond.methodLink RX3 55 yX0_joins, Cond.instanceMethod yX0_joins, Cond.selects RX0 yX0_joins yX0_joins, Cond.code yX0_joins cX0_joins 3 (some .boolean), Cond.methodLink RX0 22 yX0_nextOverOpen, Cond.instanceMethod yX0_nextOverOpen, Cond.selects RX0 yX0_nextOverOpen yX0_nextOverOpen, Cond.code yX0_nextOverOpen cX0_nextOverOpen 3 (some .int)]
def wsL_law0_r5 : List Cond := [Cond.static yX3_has, Cond.code yX3_has cX3_has 2 (some .boolean), Cond.methodLink RX3 202 yX3_bit, Cond.static yX3_bit, Cond.code yX3_bit cX3_bit 1 (some .int), Cond.methodLink RX3 58 yX0_roads, Cond.instanceMethod yX0_roads, Cond.selects RX0 yX0_roads yX0_roads, Cond.code yX0_roads cX0_roads 1 (some .int), Cond.methodLink RX3 67 yX0_join, Cond.instanceMethod yX0_join, Cond.selects RX0 yX0_join yX0_join, Cond.code yX0_join cX0_join 5 none, Cond.methodLink RL 71 yX4_addRoad, Cond.instanceMethod yX4_addRoad, Cond.selects RX4 yX4_addRoad yX4_addRoad, Cond.code yX4_addRoad cX4_addRoad 4 (some .int), Cond.fieldLink RX4 61 "WarTableModel" "thrown" "I", Cond.fieldLink RX4 80 "WarTableModel" "turns" "I", Cond.fieldLink RX4 83 "WarTableModel" "roads" "I", Cond.methodLink RX4 72 yX4_isTown, Cond.static yX4_isTown, Cond.code yX4_isTown cX4_isTown 1 (some .boolean), Cond.methodLink RX4 65 yX4_in]
def wsL_law0_r6 : List Cond := [Cond.static yX4_in, Cond.code yX4_in cX4_in 3 (some .boolean), Cond.methodLink RX4 76 yX4_fails, Cond.instanceMethod yX4_fails, Cond.selects RX4 yX4_fails yX4_fails, Cond.code yX4_fails cX4_fails 2 (some .int), Cond.methodLink RL 72 yX4_thrown, Cond.instanceMethod yX4_thrown, Cond.selects RX4 yX4_thrown yX4_thrown, Cond.code yX4_thrown cX4_thrown 1 (some .int), Cond.methodLink RL 75 yL_setDepot, Cond.static yL_setDepot, Cond.codeWith yL_setDepot cL_setDepot 5 (some .int) [(0, 10, 13, 13), (0, 10, 17, 15)], Cond.methodLink RL 17 yX3_setDepot, Cond.instanceMethod yX3_setDepot, Cond.selects RX3 yX3_setDepot yX3_setDepot, Cond.code yX3_setDepot cX3_setDepot 4 (some .int), Cond.methodLink RL 78 yX4_setDepot, Cond.instanceMethod yX4_setDepot, Cond.selects RX4 yX4_setDepot yX4_setDepot, Cond.code yX4_setDepot cX4_setDepot 4 (some .int), Cond.methodLink RL 79 yL_addUnit, Cond.static yL_addUnit, Cond.codeWith yL_addUnit cL_addUnit 6 (some .int) [(0, 12, 15, 13), (0, 12, 19, 15)]]
def wsL_law0_r7 : List Cond := [Cond.methodLink RL 21 yX3_addUnit, Cond.instanceMethod yX3_addUnit, Cond.selects RX3 yX3_addUnit yX3_addUnit, Cond.code yX3_addUnit cX3_addUnit 4 (some .int), Cond.methodLink RX3 77 yX3_opponent, Cond.static yX3_opponent, Cond.code yX3_opponent cX3_opponent 1 (some .int), Cond.methodLink RX3 81 yX2_townsHeld, Cond.instanceMethod yX2_townsHeld, Cond.selects RX2 yX2_townsHeld yX2_townsHeld, Cond.code yX2_townsHeld cX2_townsHeld 6 (some .int), Cond.methodLink RX2 48 yX2_townAt, Cond.instanceMethod yX2_townAt, Cond.selects RX2 yX2_townAt yX2_townAt, Cond.code yX2_townAt cX2_townAt 3 (some .int), Cond.methodLink RX2 36 yX2_isKept, Cond.static yX2_isKept, Cond.code yX2_isKept cX2_isKept 2 (some .boolean), Cond.methodLink RX2 39 yX2_index, Cond.static yX2_index, Cond.code yX2_index cX2_index 2 (some .int), Cond.methodLink RX2 54 yX2_sideOf, Cond.instanceMethod yX2_sideOf, Cond.selects RX2 yX2_sideOf yX2_sideOf]
def wsL_law0_r8 : List Cond := [Cond.code yX2_sideOf cX2_sideOf 2 (some .int), Cond.methodLink RX3 85 yX3_has, Cond.methodLink RX3 88 yX2_count, Cond.instanceMethod yX2_count, Cond.selects RX2 yX2_count yX2_count, Cond.code yX2_count cX2_count 1 (some .int), Cond.methodLink RX3 93 yX2_add, Cond.instanceMethod yX2_add, Cond.selects RX2 yX2_add yX2_add, Cond.code yX2_add cX2_add 5 (some .int), Cond.methodLink RX2 32 yX2_place, Cond.instanceMethod yX2_place, Cond.selects RX2 yX2_place yX2_place, Cond.code yX2_place cX2_place 5 none, Cond.methodLink RX2 43 Lib.Math.max.name, Cond.static Lib.Math.max.name, Cond.initialized "java/lang/Math", Cond.code Lib.Math.max.name Lib.Math.max.code 2 (some .int), Cond.methodLink RL 82 yX4_addUnit, Cond.instanceMethod yX4_addUnit, Cond.selects RX4 yX4_addUnit yX4_addUnit, Cond.code yX4_addUnit cX4_addUnit 4 (some .int), Cond.fieldLink RX4 69 "WarTableModel" "many" "I", Cond.methodLink RX4 86 yX4_take]
def wsL_law0_r9 : List Cond := [Cond.instanceMethod yX4_take, Cond.selects RX4 yX4_take yX4_take, Cond.code yX4_take cX4_take 3 none, Cond.methodLink RX4 90 yX4_isHeld, Cond.instanceMethod yX4_isHeld, Cond.selects RX4 yX4_isHeld yX4_isHeld, Cond.code yX4_isHeld cX4_isHeld 4 (some .boolean), Cond.methodLink RL 83 yL_order, Cond.static yL_order, Cond.codeWith yL_order cL_order 5 (some .int) [(0, 10, 13, 28), (0, 10, 17, 13)], Cond.classLink RL 28 "java/lang/IndexOutOfBoundsException", Cond.methodLink RL 25 yX3_order, Cond.instanceMethod yX3_order, Cond.selects RX3 yX3_order yX3_order, Cond.code yX3_order cX3_order 4 (some .int), Cond.methodLink RX3 97 yX3_checkUnit, Cond.instanceMethod yX3_checkUnit, Cond.selects RX3 yX3_checkUnit yX3_checkUnit, Cond.code yX3_checkUnit cX3_checkUnit 2 none, Cond.classLink RX3 165 "java/lang/IndexOutOfBoundsException", Cond.initialized "java/lang/IndexOutOfBoundsException", Cond.methodLink RX3 103 yX2_orderFor, Cond.instanceMethod yX2_orderFor, Cond.selects RX2 yX2_orderFor yX2_orderFor]
def wsL_law0_r10 : List Cond := [Cond.code yX2_orderFor cX2_orderFor 3 (some .int), Cond.methodLink RX3 106 yX2_giveOrder, Cond.instanceMethod yX2_giveOrder, Cond.selects RX2 yX2_giveOrder yX2_giveOrder, Cond.code yX2_giveOrder cX2_giveOrder 4 none, Cond.methodLink RL 85 yX4_order, Cond.instanceMethod yX4_order, Cond.selects RX4 yX4_order yX4_order, Cond.code yX4_order cX4_order 4 (some .int), Cond.methodLink RX4 94 yX4_isUnit, Cond.instanceMethod yX4_isUnit, Cond.selects RX4 yX4_isUnit yX4_isUnit, Cond.code yX4_isUnit cX4_isUnit 2 (some .boolean), Cond.methodLink RL 86 yL_play, Cond.static yL_play, Cond.codeWith yL_play cL_play 4 (some .int) [(0, 9, 12, 13), (0, 9, 15, 15)], Cond.methodLink RL 30 yX3_play, Cond.instanceMethod yX3_play, Cond.selects RX3 yX3_play yX3_play, Cond.code yX3_play cX3_play 3 (some .int), Cond.methodLink RX3 110 yX3_checkWeather, Cond.static yX3_checkWeather, Cond.code yX3_checkWeather cX3_checkWeather 1 none, Cond.methodLink RX3 115 yX3_playFrom]
def wsL_law0_r11 : List Cond := [Cond.instanceMethod yX3_playFrom, Cond.selects RX3 yX3_playFrom yX3_playFrom, Cond.code yX3_playFrom cX3_playFrom 5 none, Cond.methodLink RX3 184 Lib.Math.max.name, Cond.methodLink RX3 187 yX3_suppliedUnits, Cond.instanceMethod yX3_suppliedUnits, Cond.selects RX3 yX3_suppliedUnits yX3_suppliedUnits, Cond.code yX3_suppliedUnits cX3_suppliedUnits 7 (some .int), Cond.methodLink RX3 158 yX3_suppliedTowns, Cond.instanceMethod yX3_suppliedTowns, Cond.selects RX3 yX3_suppliedTowns yX3_suppliedTowns, Cond.code yX3_suppliedTowns cX3_suppliedTowns 8 (some .int), Cond.methodLink RX3 205 yX0_widened, Cond.instanceMethod yX0_widened, Cond.selects RX0 yX0_widened yX0_widened, Cond.code yX0_widened cX0_widened 5 (some .int), Cond.methodLink RX3 155 yX2_sideOf, Cond.methodLink RX3 149 yX2_townAt, Cond.methodLink RX3 190 yX3_goers, Cond.instanceMethod yX3_goers, Cond.selects RX3 yX3_goers yX3_goers, Cond.code yX3_goers cX3_goers 7 (some .int), Cond.methodLink RX3 208 yX0_nextOverOpen, Cond.methodLink RX3 193 yX3_march]
def wsL_law0_r12 : List Cond := [Cond.instanceMethod yX3_march, Cond.selects RX3 yX3_march yX3_march, Cond.code yX3_march cX3_march 6 none, Cond.methodLink RX3 211 yX3_isMetOnRoad, Cond.instanceMethod yX3_isMetOnRoad, Cond.selects RX3 yX3_isMetOnRoad yX3_isMetOnRoad, Cond.code yX3_isMetOnRoad cX3_isMetOnRoad 5 (some .boolean), Cond.methodLink RX3 152 yX2_strengthAt, Cond.instanceMethod yX2_strengthAt, Cond.selects RX2 yX2_strengthAt yX2_strengthAt, Cond.code yX2_strengthAt cX2_strengthAt 3 (some .int), Cond.methodLink RX3 215 yX2_place, Cond.methodLink RX3 196 yX3_fightEverywhere, Cond.instanceMethod yX3_fightEverywhere, Cond.selects RX3 yX3_fightEverywhere yX3_fightEverywhere, Cond.code yX3_fightEverywhere cX3_fightEverywhere 5 none, Cond.methodLink RX3 219 yX3_fight, Cond.instanceMethod yX3_fight, Cond.selects RX3 yX3_fight yX3_fight, Cond.code yX3_fight cX3_fight 8 none, Cond.methodLink RX3 222 yX3_sumInFight, Cond.instanceMethod yX3_sumInFight, Cond.selects RX3 yX3_sumInFight yX3_sumInFight, Cond.code yX3_sumInFight cX3_sumInFight 8 (some .int)]
def wsL_law0_r13 : List Cond := [Cond.methodLink RX3 225 yX3_loss, Cond.static yX3_loss, Cond.code yX3_loss cX3_loss 2 (some .int), Cond.methodLink RX3 199 yX3_unitsInSight, Cond.instanceMethod yX3_unitsInSight, Cond.selects RX3 yX3_unitsInSight yX3_unitsInSight, Cond.code yX3_unitsInSight cX3_unitsInSight 6 (some .int), Cond.methodLink RX3 118 yX2_livingAt, Cond.instanceMethod yX2_livingAt, Cond.selects RX2 yX2_livingAt yX2_livingAt, Cond.code yX2_livingAt cX2_livingAt 4 (some .int), Cond.methodLink RL 89 yX4_play, Cond.instanceMethod yX4_play, Cond.selects RX4 yX4_play yX4_play, Cond.code yX4_play cX4_play 3 (some .int), Cond.methodLink RX4 116 yX4_playTurn, Cond.instanceMethod yX4_playTurn, Cond.selects RX4 yX4_playTurn yX4_playTurn, Cond.code yX4_playTurn cX4_playTurn 3 none, Cond.methodLink RX4 104 yX4_supplyOf, Cond.instanceMethod yX4_supplyOf, Cond.selects RX4 yX4_supplyOf yX4_supplyOf, Cond.code yX4_supplyOf cX4_supplyOf 7 (some .int), Cond.methodLink RX4 97 yX4_isOpen]
def wsL_law0_r14 : List Cond := [Cond.instanceMethod yX4_isOpen, Cond.selects RX4 yX4_isOpen yX4_isOpen, Cond.code yX4_isOpen cX4_isOpen 5 (some .boolean), Cond.methodLink RX4 107 yX4_march, Cond.instanceMethod yX4_march, Cond.selects RX4 yX4_march yX4_march, Cond.code yX4_march cX4_march 7 none, Cond.methodLink RX4 110 yX4_fight, Cond.instanceMethod yX4_fight, Cond.selects RX4 yX4_fight yX4_fight, Cond.code yX4_fight cX4_fight 8 none, Cond.methodLink RX4 100 yX4_sumIn, Cond.instanceMethod yX4_sumIn, Cond.selects RX4 yX4_sumIn yX4_sumIn, Cond.code yX4_sumIn cX4_sumIn 6 (some .int), Cond.methodLink RX4 113 yX4_sees, Cond.instanceMethod yX4_sees, Cond.selects RX4 yX4_sees yX4_sees, Cond.code yX4_sees cX4_sees 4 (some .boolean), Cond.methodLink RX4 119 yX4_lostBy, Cond.instanceMethod yX4_lostBy, Cond.selects RX4 yX4_lostBy yX4_lostBy, Cond.code yX4_lostBy cX4_lostBy 4 (some .int), Cond.methodLink RL 90 yX3_played]
def wsL_law0_r15 : List Cond := [Cond.instanceMethod yX3_played, Cond.selects RX3 yX3_played yX3_played, Cond.code yX3_played cX3_played 1 (some .int), Cond.methodLink RL 93 yX4_played, Cond.instanceMethod yX4_played, Cond.selects RX4 yX4_played yX4_played, Cond.code yX4_played cX4_played 1 (some .int), Cond.methodLink RL 94 yL_rule, Cond.static yL_rule, Cond.codeWith yL_rule cL_rule 5 (some .int) [(0, 10, 13, 28), (0, 10, 17, 13)], Cond.methodLink RL 34 yX3_rule, Cond.instanceMethod yX3_rule, Cond.selects RX3 yX3_rule yX3_rule, Cond.code yX3_rule cX3_rule 3 (some .int), Cond.methodLink RX3 121 yX3_checkTurn, Cond.instanceMethod yX3_checkTurn, Cond.selects RX3 yX3_checkTurn yX3_checkTurn, Cond.code yX3_checkTurn cX3_checkTurn 2 none, Cond.methodLink RX3 170 Lib.Math.min.name, Cond.static Lib.Math.min.name, Cond.code Lib.Math.min.name Lib.Math.min.code 2 (some .int), Cond.methodLink RX3 124 yX1_isFull, Cond.instanceMethod yX1_isFull, Cond.selects RX1 yX1_isFull yX1_isFull]
def wsL_law0_r16 : List Cond := [Cond.code yX1_isFull cX1_isFull 1 (some .boolean), Cond.methodLink RX3 128 yX1_push, Cond.instanceMethod yX1_push, Cond.selects RX1 yX1_push yX1_push, Cond.code yX1_push cX1_push 3 none, Cond.methodLink RX3 132 yX2_copyMoment, Cond.instanceMethod yX2_copyMoment, Cond.selects RX2 yX2_copyMoment yX2_copyMoment, Cond.code yX2_copyMoment cX2_copyMoment 4 none, Cond.methodLink RX2 51 yX2_strengthAt, Cond.methodLink RX3 135 yX2_differing, Cond.instanceMethod yX2_differing, Cond.selects RX2 yX2_differing yX2_differing, Cond.code yX2_differing cX2_differing 5 (some .int), Cond.methodLink RL 96 yX4_rule, Cond.instanceMethod yX4_rule, Cond.selects RX4 yX4_rule yX4_rule, Cond.code yX4_rule cX4_rule 3 (some .int), Cond.fieldLink RX4 122 "WarTableModel" "rulingsNow" "I", Cond.methodLink RX4 125 yX4_again, Cond.instanceMethod yX4_again, Cond.selects RX4 yX4_again yX4_again, Cond.code yX4_again cX4_again 5 (some .int), Cond.methodLink RL 97 yL_appeal]
def wsL_law0_r17 : List Cond := [Cond.static yL_appeal, Cond.codeWith yL_appeal cL_appeal 3 (some .int) [(0, 8, 11, 15)], Cond.methodLink RL 37 yX3_appeal, Cond.instanceMethod yX3_appeal, Cond.selects RX3 yX3_appeal yX3_appeal, Cond.code yX3_appeal cX3_appeal 2 (some .int), Cond.methodLink RX3 138 yX1_lastTurn, Cond.instanceMethod yX1_lastTurn, Cond.selects RX1 yX1_lastTurn yX1_lastTurn, Cond.code yX1_lastTurn cX1_lastTurn 1 (some .int), Cond.methodLink RX3 143 yX1_lastWeatherBefore, Cond.instanceMethod yX1_lastWeatherBefore, Cond.selects RX1 yX1_lastWeatherBefore yX1_lastWeatherBefore, Cond.code yX1_lastWeatherBefore cX1_lastWeatherBefore 1 (some .int), Cond.methodLink RX3 146 yX1_pop, Cond.instanceMethod yX1_pop, Cond.selects RX1 yX1_pop yX1_pop, Cond.code yX1_pop cX1_pop 1 none, Cond.methodLink RL 100 yX4_appeal, Cond.instanceMethod yX4_appeal, Cond.selects RX4 yX4_appeal yX4_appeal, Cond.code yX4_appeal cX4_appeal 1 (some .int), Cond.methodLink RL 101 yL_townOf, Cond.static yL_townOf]
def wsL_law0_r18 : List Cond := [Cond.codeWith yL_townOf cL_townOf 4 (some .int) [(0, 9, 12, 28)], Cond.methodLink RL 41 yX3_townOf, Cond.instanceMethod yX3_townOf, Cond.selects RX3 yX3_townOf yX3_townOf, Cond.code yX3_townOf cX3_townOf 2 (some .int), Cond.methodLink RL 103 yX4_townOf, Cond.instanceMethod yX4_townOf, Cond.selects RX4 yX4_townOf yX4_townOf, Cond.code yX4_townOf cX4_townOf 2 (some .int), Cond.methodLink RL 104 yL_strength, Cond.static yL_strength, Cond.codeWith yL_strength cL_strength 4 (some .int) [(0, 9, 12, 28)], Cond.methodLink RL 44 yX3_strength, Cond.instanceMethod yX3_strength, Cond.selects RX3 yX3_strength yX3_strength, Cond.code yX3_strength cX3_strength 2 (some .int), Cond.methodLink RL 106 yX4_strength, Cond.instanceMethod yX4_strength, Cond.selects RX4 yX4_strength yX4_strength, Cond.code yX4_strength cX4_strength 2 (some .int), Cond.methodLink RL 107 yL_supply, Cond.static yL_supply, Cond.codeWith yL_supply cL_supply 5 (some .int) [(0, 10, 13, 28), (0, 10, 17, 13)], Cond.methodLink RL 47 yX3_supply]
def wsL_law0_r19 : List Cond := [Cond.instanceMethod yX3_supply, Cond.selects RX3 yX3_supply yX3_supply, Cond.code yX3_supply cX3_supply 5 (some .int), Cond.methodLink RL 109 yX4_supply, Cond.instanceMethod yX4_supply, Cond.selects RX4 yX4_supply yX4_supply, Cond.code yX4_supply cX4_supply 3 (some .int), Cond.methodLink RL 110 yL_townAfter, Cond.static yL_townAfter, Cond.codeWith yL_townAfter cL_townAfter 5 (some .int) [(0, 10, 13, 28)], Cond.methodLink RL 50 yX3_townAfter, Cond.instanceMethod yX3_townAfter, Cond.selects RX3 yX3_townAfter yX3_townAfter, Cond.code yX3_townAfter cX3_townAfter 3 (some .int), Cond.methodLink RL 112 yX4_townAfter, Cond.instanceMethod yX4_townAfter, Cond.selects RX4 yX4_townAfter yX4_townAfter, Cond.code yX4_townAfter cX4_townAfter 3 (some .int), Cond.methodLink RL 113 yL_reported, Cond.static yL_reported, Cond.codeWith yL_reported cL_reported 5 (some .int) [(0, 10, 13, 13), (0, 10, 17, 28)], Cond.methodLink RL 53 yX3_reported, Cond.instanceMethod yX3_reported, Cond.selects RX3 yX3_reported yX3_reported]
def wsL_law0_r20 : List Cond := [Cond.code yX3_reported cX3_reported 4 (some .int), Cond.methodLink RX3 162 yX3_checkSide, Cond.static yX3_checkSide, Cond.code yX3_checkSide cX3_checkSide 1 none, Cond.methodLink RL 115 yX4_reported, Cond.instanceMethod yX4_reported, Cond.selects RX4 yX4_reported yX4_reported, Cond.code yX4_reported cX4_reported 4 (some .int), Cond.methodLink RL 116 yL_force, Cond.static yL_force, Cond.codeWith yL_force cL_force 4 (some .int) [(0, 9, 12, 13)], Cond.methodLink RL 56 yX3_force, Cond.instanceMethod yX3_force, Cond.selects RX3 yX3_force yX3_force, Cond.code yX3_force cX3_force 4 (some .int), Cond.methodLink RL 118 yX4_force, Cond.instanceMethod yX4_force, Cond.selects RX4 yX4_force yX4_force, Cond.code yX4_force cX4_force 4 (some .int), Cond.methodLink RL 119 yL_weather, Cond.static yL_weather, Cond.codeWith yL_weather cL_weather 4 (some .int) [(0, 9, 12, 28)], Cond.methodLink RL 59 yX3_weather, Cond.instanceMethod yX3_weather]
def wsL_law0_r21 : List Cond := [Cond.selects RX3 yX3_weather yX3_weather, Cond.code yX3_weather cX3_weather 2 (some .int), Cond.methodLink RL 121 yX4_weather, Cond.instanceMethod yX4_weather, Cond.selects RX4 yX4_weather yX4_weather, Cond.code yX4_weather cX4_weather 2 (some .int), Cond.methodLink RL 122 yX3_rulings, Cond.instanceMethod yX3_rulings, Cond.selects RX3 yX3_rulings yX3_rulings, Cond.code yX3_rulings cX3_rulings 1 (some .int), Cond.methodLink RX3 175 yX1_count, Cond.instanceMethod yX1_count, Cond.selects RX1 yX1_count yX1_count, Cond.code yX1_count cX1_count 1 (some .int), Cond.methodLink RL 125 yX4_rulings, Cond.instanceMethod yX4_rulings, Cond.selects RX4 yX4_rulings yX4_rulings, Cond.code yX4_rulings cX4_rulings 1 (some .int)]
def wsL_law0 : List Cond := (wsL_law0_r1 ++ (wsL_law0_r2 ++ (wsL_law0_r3 ++ (wsL_law0_r4 ++ (wsL_law0_r5 ++ (wsL_law0_r6 ++ (wsL_law0_r7 ++ (wsL_law0_r8 ++ (wsL_law0_r9 ++ (wsL_law0_r10 ++ (wsL_law0_r11 ++ (wsL_law0_r12 ++ (wsL_law0_r13 ++ (wsL_law0_r14 ++ (wsL_law0_r15 ++ (wsL_law0_r16 ++ (wsL_law0_r17 ++ (wsL_law0_r18 ++ (wsL_law0_r19 ++ (wsL_law0_r20 ++ wsL_law0_r21)))))))))))))))))))) ++ wsX30 ++ wsX40 ++ wsX00 ++ wsX20 ++ wsX10 ++ ([] : List Cond)
def wsL_law : List Cond := wsL_law0 ++ (vx_atS RX3 52 "java/lang/IllegalArgumentException" ["java/lang/RuntimeException", "java/lang/Exception"]).filter goodWord ++ (vx_atS RX3 66 "java/lang/IllegalStateException" ["java/lang/RuntimeException", "java/lang/Exception"]).filter goodWord ++ (vx_atS RX3 169 "java/lang/IndexOutOfBoundsException" ["java/lang/RuntimeException", "java/lang/Exception"]).filter goodWord
end
section
set_option maxRecDepth 20000 in
theorem wsL_law0_r1_in : ∀ w ∈ wsL_law0_r1, w ∈ lw_tbl := fun w h => (goodIn_p wsL_law0_r1 [43, 46] (by decide +kernel) (by decide +kernel) w h).1
set_option maxRecDepth 20000 in
theorem wsL_law0_r2_in : ∀ w ∈ wsL_law0_r2, w ∈ lw_tbl := fun w h => (goodIn_p wsL_law0_r2 [51, 68, 90] (by decide +kernel) (by decide +kernel) w h).1
set_option maxRecDepth 20000 in
theorem wsL_law0_r3_in : ∀ w ∈ wsL_law0_r3, w ∈ lw_tbl := fun w h => (goodIn_p wsL_law0_r3 [533] (by decide +kernel) (by decide +kernel) w h).1
set_option maxRecDepth 20000 in
theorem wsL_law0_r4_in : ∀ w ∈ wsL_law0_r4, w ∈ lw_tbl := fun w h => (goodIn_p wsL_law0_r4 [144, 147, 219, 223] (by decide +kernel) (by decide +kernel) w h).1
end
section
set_option maxRecDepth 20000 in
theorem wsL_law0_r5_in : ∀ w ∈ wsL_law0_r5, w ∈ lw_tbl := fun w h => (goodIn_p wsL_law0_r5 [227, 230, 234, 254, 609, 612] (by decide +kernel) (by decide +kernel) w h).1
set_option maxRecDepth 20000 in
theorem wsL_law0_r6_in : ∀ w ∈ wsL_law0_r6, w ∈ lw_tbl := fun w h => (goodIn_p wsL_law0_r6 [615, 619, 605, 262, 623] (by decide +kernel) (by decide +kernel) w h).1
set_option maxRecDepth 20000 in
theorem wsL_law0_r7_in : ∀ w ∈ wsL_law0_r7, w ∈ lw_tbl := fun w h => (goodIn_p wsL_law0_r7 [271, 275, 279, 283, 286, 289] (by decide +kernel) (by decide +kernel) w h).1
set_option maxRecDepth 20000 in
theorem wsL_law0_r8_in : ∀ w ∈ wsL_law0_r8, w ∈ lw_tbl := fun w h => (goodIn_p wsL_law0_r8 [293, 300, 305, 309, 312, 627] (by decide +kernel) (by decide +kernel) w h).1
end
section
set_option maxRecDepth 20000 in
theorem wsL_law0_r9_in : ∀ w ∈ wsL_law0_r9, w ∈ lw_tbl := fun w h => (goodIn_p wsL_law0_r9 [631, 635, 320, 324] (by decide +kernel) (by decide +kernel) w h).1
set_option maxRecDepth 20000 in
theorem wsL_law0_r10_in : ∀ w ∈ wsL_law0_r10, w ∈ lw_tbl := fun w h => (goodIn_p wsL_law0_r10 [345, 349, 639, 643, 356, 359] (by decide +kernel) (by decide +kernel) w h).1
set_option maxRecDepth 20000 in
theorem wsL_law0_r11_in : ∀ w ∈ wsL_law0_r11, w ∈ lw_tbl := fun w h => (goodIn_p wsL_law0_r11 [365, 370, 374, 378, 384] (by decide +kernel) (by decide +kernel) w h).1
set_option maxRecDepth 20000 in
theorem wsL_law0_r12_in : ∀ w ∈ wsL_law0_r12, w ∈ lw_tbl := fun w h => (goodIn_p wsL_law0_r12 [389, 393, 397, 402, 406, 410] (by decide +kernel) (by decide +kernel) w h).1
end
section
set_option maxRecDepth 20000 in
theorem wsL_law0_r13_in : ∀ w ∈ wsL_law0_r13, w ∈ lw_tbl := fun w h => (goodIn_p wsL_law0_r13 [413, 417, 421, 647, 651, 655] (by decide +kernel) (by decide +kernel) w h).1
set_option maxRecDepth 20000 in
theorem wsL_law0_r14_in : ∀ w ∈ wsL_law0_r14, w ∈ lw_tbl := fun w h => (goodIn_p wsL_law0_r14 [659, 663, 667, 671, 675, 679] (by decide +kernel) (by decide +kernel) w h).1
set_option maxRecDepth 20000 in
theorem wsL_law0_r15_in : ∀ w ∈ wsL_law0_r15, w ∈ lw_tbl := fun w h => (goodIn_p wsL_law0_r15 [127, 683, 428, 432, 435] (by decide +kernel) (by decide +kernel) w h).1
set_option maxRecDepth 20000 in
theorem wsL_law0_r16_in : ∀ w ∈ wsL_law0_r16, w ∈ lw_tbl := fun w h => (goodIn_p wsL_law0_r16 [440, 444, 449, 454, 687, 691] (by decide +kernel) (by decide +kernel) w h).1
end
section
set_option maxRecDepth 20000 in
theorem wsL_law0_r17_in : ∀ w ∈ wsL_law0_r17, w ∈ lw_tbl := fun w h => (goodIn_p wsL_law0_r17 [461, 465, 470, 474, 695] (by decide +kernel) (by decide +kernel) w h).1
set_option maxRecDepth 20000 in
theorem wsL_law0_r18_in : ∀ w ∈ wsL_law0_r18, w ∈ lw_tbl := fun w h => (goodIn_p wsL_law0_r18 [481, 699, 488, 703] (by decide +kernel) (by decide +kernel) w h).1
set_option maxRecDepth 20000 in
theorem wsL_law0_r19_in : ∀ w ∈ wsL_law0_r19, w ∈ lw_tbl := fun w h => (goodIn_p wsL_law0_r19 [495, 707, 502, 711] (by decide +kernel) (by decide +kernel) w h).1
set_option maxRecDepth 20000 in
theorem wsL_law0_r20_in : ∀ w ∈ wsL_law0_r20, w ∈ lw_tbl := fun w h => (goodIn_p wsL_law0_r20 [509, 512, 715, 521, 719] (by decide +kernel) (by decide +kernel) w h).1
end
section
set_option maxRecDepth 20000 in
theorem wsL_law0_r21_in : ∀ w ∈ wsL_law0_r21, w ∈ lw_tbl := fun w h => (goodIn_p wsL_law0_r21 [528, 723, 131, 135, 727] (by decide +kernel) (by decide +kernel) w h).1
end
section
set_option maxRecDepth 20000 in
theorem wt_inX30 : ∀ w ∈ wsX30, w ∈ lw_tbl := by decide +kernel
set_option maxRecDepth 20000 in
theorem wt_inX40 : ∀ w ∈ wsX40, w ∈ lw_tbl := by decide +kernel
set_option maxRecDepth 20000 in
theorem wt_inX00 : ∀ w ∈ wsX00, w ∈ lw_tbl := by decide +kernel
set_option maxRecDepth 20000 in
theorem wt_inX20 : ∀ w ∈ wsX20, w ∈ lw_tbl := by decide +kernel
set_option maxRecDepth 20000 in
theorem wt_inX10 : ∀ w ∈ wsX10, w ∈ lw_tbl := by decide +kernel
theorem wsL_law_in0 : ∀ w ∈ wsL_law0, w ∈ lw_tbl := fun w h => (List.mem_append.mp h).elim (fun h => (List.mem_append.mp h).elim (fun h => (List.mem_append.mp h).elim (fun h => (List.mem_append.mp h).elim (fun h => (List.mem_append.mp h).elim (fun h => (List.mem_append.mp h).elim (fun h => (List.mem_append.mp h).elim (fun h => wsL_law0_r1_in w h) (fun h => (List.mem_append.mp h).elim (fun h => wsL_law0_r2_in w h) (fun h => (List.mem_append.mp h).elim (fun h => wsL_law0_r3_in w h) (fun h => (List.mem_append.mp h).elim (fun h => wsL_law0_r4_in w h) (fun h => (List.mem_append.mp h).elim (fun h => wsL_law0_r5_in w h) (fun h => (List.mem_append.mp h).elim (fun h => wsL_law0_r6_in w h) (fun h => (List.mem_append.mp h).elim (fun h => wsL_law0_r7_in w h) (fun h => (List.mem_append.mp h).elim (fun h => wsL_law0_r8_in w h) (fun h => (List.mem_append.mp h).elim (fun h => wsL_law0_r9_in w h) (fun h => (List.mem_append.mp h).elim (fun h => wsL_law0_r10_in w h) (fun h => (List.mem_append.mp h).elim (fun h => wsL_law0_r11_in w h) (fun h => (List.mem_append.mp h).elim (fun h => wsL_law0_r12_in w h) (fun h => (List.mem_append.mp h).elim (fun h => wsL_law0_r13_in w h) (fun h => (List.mem_append.mp h).elim (fun h => wsL_law0_r14_in w h) (fun h => (List.mem_append.mp h).elim (fun h => wsL_law0_r15_in w h) (fun h => (List.mem_append.mp h).elim (fun h => wsL_law0_r16_in w h) (fun h => (List.mem_append.mp h).elim (fun h => wsL_law0_r17_in w h) (fun h => (List.mem_append.mp h).elim (fun h => wsL_law0_r18_in w h) (fun h => (List.mem_append.mp h).elim (fun h => wsL_law0_r19_in w h) (fun h => (List.mem_append.mp h).elim (fun h => wsL_law0_r20_in w h) (fun h => wsL_law0_r21_in w h))))))))))))))))))))) (fun h => wt_inX30 w h)) (fun h => wt_inX40 w h)) (fun h => wt_inX00 w h)) (fun h => wt_inX20 w h)) (fun h => wt_inX10 w h)) (fun h => absurd h List.not_mem_nil)
theorem wsL_law_x0 : ∀ w ∈ (vx_atS RX3 52 "java/lang/IllegalArgumentException" ["java/lang/RuntimeException", "java/lang/Exception"]).filter goodWord, w ∈ lw_tbl := by decide +kernel
theorem wsL_law_x1 : ∀ w ∈ (vx_atS RX3 66 "java/lang/IllegalStateException" ["java/lang/RuntimeException", "java/lang/Exception"]).filter goodWord, w ∈ lw_tbl := by decide +kernel
theorem wsL_law_x2 : ∀ w ∈ (vx_atS RX3 169 "java/lang/IndexOutOfBoundsException" ["java/lang/RuntimeException", "java/lang/Exception"]).filter goodWord, w ∈ lw_tbl := by decide +kernel
theorem wsL_law_in : ∀ w ∈ wsL_law, w ∈ lw_tbl := fun w h => (List.mem_append.mp h).elim (fun h => (List.mem_append.mp h).elim (fun h => (List.mem_append.mp h).elim (fun h => wsL_law_in0 w h) (fun h => wsL_law_x0 w h)) (fun h => wsL_law_x1 w h)) (fun h => wsL_law_x2 w h)
theorem inlX0 : ∀ w ∈ wsX00, w ∈ wsL_law := fun _ h => List.mem_append_left _ (List.mem_append_left _ (List.mem_append_left _ (List.mem_append_left _ (List.mem_append_left _ (List.mem_append_left _ (List.mem_append_right _ h))))))
theorem inX0 : ∀ w ∈ wsX00, w ∈ lw_tbl := fun w h => wsL_law_in w (inlX0 w h)
theorem inlX1 : ∀ w ∈ wsX10, w ∈ wsL_law := fun _ h => List.mem_append_left _ (List.mem_append_left _ (List.mem_append_left _ (List.mem_append_left _ (List.mem_append_right _ h))))
theorem inX1 : ∀ w ∈ wsX10, w ∈ lw_tbl := fun w h => wsL_law_in w (inlX1 w h)
theorem inlX2 : ∀ w ∈ wsX20, w ∈ wsL_law := fun _ h => List.mem_append_left _ (List.mem_append_left _ (List.mem_append_left _ (List.mem_append_left _ (List.mem_append_left _ (List.mem_append_right _ h)))))
theorem inX2 : ∀ w ∈ wsX20, w ∈ lw_tbl := fun w h => wsL_law_in w (inlX2 w h)
theorem inlX3 : ∀ w ∈ wsX30, w ∈ wsL_law := fun _ h => List.mem_append_left _ (List.mem_append_left _ (List.mem_append_left _ (List.mem_append_left _ (List.mem_append_left _ (List.mem_append_left _ (List.mem_append_left _ (List.mem_append_left _ (List.mem_append_right _ h))))))))
theorem inX3 : ∀ w ∈ wsX30, w ∈ lw_tbl := fun w h => wsL_law_in w (inlX3 w h)
theorem inlX4 : ∀ w ∈ wsX40, w ∈ wsL_law := fun _ h => List.mem_append_left _ (List.mem_append_left _ (List.mem_append_left _ (List.mem_append_left _ (List.mem_append_left _ (List.mem_append_left _ (List.mem_append_left _ (List.mem_append_right _ h)))))))
theorem inX4 : ∀ w ∈ wsX40, w ∈ lw_tbl := fun w h => wsL_law_in w (inlX4 w h)
theorem inJ9 : ∀ w ∈ wsJ90, w ∈ lw_tbl := by decide +kernel
theorem inJ0 : ∀ w ∈ wsJ00, w ∈ lw_tbl := by decide +kernel
end
section
theorem dX0_init_0 : decode cX0_init 0 = .ok (.aload_n 0, 1) := by decide +kernel
theorem dX0_init_1 : decode cX0_init 1 = .ok (.invokespecial 3, 3) := by decide +kernel
theorem dX0_init_4 : decode cX0_init 4 = .ok (.aload_n 0, 1) := by decide +kernel
theorem dX0_init_5 : decode cX0_init 5 = .ok (.bipush 10, 2) := by decide +kernel
theorem dX0_init_7 : decode cX0_init 7 = .ok (.newarray .int, 2) := by decide +kernel
theorem dX0_init_9 : decode cX0_init 9 = .ok (.putfield 9, 3) := by decide +kernel
theorem dX0_init_12 : decode cX0_init 12 = .ok (.aload_n 0, 1) := by decide +kernel
theorem dX0_init_13 : decode cX0_init 13 = .ok (.bipush 10, 2) := by decide +kernel
theorem dX0_init_15 : decode cX0_init 15 = .ok (.newarray .int, 2) := by decide +kernel
theorem dX0_init_17 : decode cX0_init 17 = .ok (.putfield 15, 3) := by decide +kernel
theorem dX0_init_20 : decode cX0_init 20 = .ok (.aload_n 0, 1) := by decide +kernel
theorem dX0_init_21 : decode cX0_init 21 = .ok (.iconst 0, 1) := by decide +kernel
theorem dX0_init_22 : decode cX0_init 22 = .ok (.putfield 18, 3) := by decide +kernel
theorem dX0_init_25 : decode cX0_init 25 = .ok (.return_, 1) := by decide +kernel
theorem dX0_roads_0 : decode cX0_roads 0 = .ok (.aload_n 0, 1) := by decide +kernel
theorem dX0_roads_1 : decode cX0_roads 1 = .ok (.getfield 18, 3) := by decide +kernel
theorem dX0_roads_4 : decode cX0_roads 4 = .ok (.ireturn, 1) := by decide +kernel
set_option maxRecDepth 20000 in
theorem ggX0_joins_X0_nextOverOpen : GoodIn wsX0_joins wsX0_nextOverOpen := goodIn_r _ [5, 6, 7, 8, 9, 10, 16, 17, 18] (by decide +kernel) (by decide +kernel)
set_option maxRecDepth 20000 in
theorem gX0_joins_X0_nextOverOpen : GoodIn wsX0_joins (wsV RX0 22 RX0 yX0_nextOverOpen wsX0_nextOverOpen) := goodIn_app (goodIn_of _ (by decide +kernel)) ggX0_joins_X0_nextOverOpen
set_option maxRecDepth 20000 in
theorem ggX0_joins_X3_has : GoodIn wsX0_joins wsX3_has := goodIn_r _ [12, 13, 14, 9, 15] (by decide +kernel) (by decide +kernel)
set_option maxRecDepth 20000 in
theorem gX0_joins_X3_has_n26 : GoodIn wsX0_joins (wsX3_has) := ggX0_joins_X3_has
theorem dX0_joins_0 : decode cX0_joins 0 = .ok (.aload_n 0, 1) := by decide +kernel
theorem dX0_joins_1 : decode cX0_joins 1 = .ok (.iload_n 1, 1) := by decide +kernel
theorem dX0_joins_2 : decode cX0_joins 2 = .ok (.iconst 0, 1) := by decide +kernel
theorem dX0_joins_3 : decode cX0_joins 3 = .ok (.invokevirtual 22, 3) := by decide +kernel
theorem dX0_joins_6 : decode cX0_joins 6 = .ok (.iload_n 2, 1) := by decide +kernel
theorem dX0_joins_7 : decode cX0_joins 7 = .ok (.invokestatic 26, 3) := by decide +kernel
theorem dX0_joins_10 : decode cX0_joins 10 = .ok (.ireturn, 1) := by decide +kernel
set_option maxRecDepth 20000 in
theorem ggX0_join_X3_below : GoodIn wsX0_join wsX3_below := goodIn_r _ [6] (by decide +kernel) (by decide +kernel)
set_option maxRecDepth 20000 in
theorem gX0_join_X3_below_n30 : GoodIn wsX0_join (wsX3_below) := ggX0_join_X3_below
set_option maxRecDepth 20000 in
theorem ggX0_join_X3_bit : GoodIn wsX0_join wsX3_bit := goodIn_r _ [8] (by decide +kernel) (by decide +kernel)
set_option maxRecDepth 20000 in
theorem gX0_join_X3_bit_n33 : GoodIn wsX0_join (wsX3_bit) := ggX0_join_X3_bit
theorem dX0_join_0 : decode cX0_join 0 = .ok (.iload_n 1, 1) := by decide +kernel
theorem dX0_join_1 : decode cX0_join 1 = .ok (.bipush 10, 2) := by decide +kernel
theorem dX0_join_3 : decode cX0_join 3 = .ok (.invokestatic 30, 3) := by decide +kernel
theorem dX0_join_6 : decode cX0_join 6 = .ok (.ifCond .eq 12, 3) := by decide +kernel
theorem dX0_join_9 : decode cX0_join 9 = .ok (.iload_n 2, 1) := by decide +kernel
theorem dX0_join_10 : decode cX0_join 10 = .ok (.bipush 10, 2) := by decide +kernel
theorem dX0_join_12 : decode cX0_join 12 = .ok (.invokestatic 30, 3) := by decide +kernel
theorem dX0_join_15 : decode cX0_join 15 = .ok (.ifCond .ne 4, 3) := by decide +kernel
theorem dX0_join_18 : decode cX0_join 18 = .ok (.return_, 1) := by decide +kernel
theorem dX0_join_19 : decode cX0_join 19 = .ok (.iload_n 3, 1) := by decide +kernel
theorem dX0_join_20 : decode cX0_join 20 = .ok (.ifCond .eq 10, 3) := by decide +kernel
theorem dX0_join_23 : decode cX0_join 23 = .ok (.aload_n 0, 1) := by decide +kernel
theorem dX0_join_24 : decode cX0_join 24 = .ok (.getfield 9, 3) := by decide +kernel
theorem dX0_join_27 : decode cX0_join 27 = .ok (.goto 7, 3) := by decide +kernel
theorem dX0_join_30 : decode cX0_join 30 = .ok (.aload_n 0, 1) := by decide +kernel
theorem dX0_join_31 : decode cX0_join 31 = .ok (.getfield 15, 3) := by decide +kernel
theorem dX0_join_34 : decode cX0_join 34 = .ok (.astore 4, 2) := by decide +kernel
theorem dX0_join_36 : decode cX0_join 36 = .ok (.aload 4, 2) := by decide +kernel
theorem dX0_join_38 : decode cX0_join 38 = .ok (.iload_n 1, 1) := by decide +kernel
theorem dX0_join_39 : decode cX0_join 39 = .ok (.dup2, 1) := by decide +kernel
theorem dX0_join_40 : decode cX0_join 40 = .ok (.iaload, 1) := by decide +kernel
theorem dX0_join_41 : decode cX0_join 41 = .ok (.iload_n 2, 1) := by decide +kernel
theorem dX0_join_42 : decode cX0_join 42 = .ok (.invokestatic 33, 3) := by decide +kernel
theorem dX0_join_45 : decode cX0_join 45 = .ok (.ior, 1) := by decide +kernel
theorem dX0_join_46 : decode cX0_join 46 = .ok (.iastore, 1) := by decide +kernel
theorem dX0_join_47 : decode cX0_join 47 = .ok (.aload 4, 2) := by decide +kernel
theorem dX0_join_49 : decode cX0_join 49 = .ok (.iload_n 2, 1) := by decide +kernel
theorem dX0_join_50 : decode cX0_join 50 = .ok (.dup2, 1) := by decide +kernel
theorem dX0_join_51 : decode cX0_join 51 = .ok (.iaload, 1) := by decide +kernel
theorem dX0_join_52 : decode cX0_join 52 = .ok (.iload_n 1, 1) := by decide +kernel
theorem dX0_join_53 : decode cX0_join 53 = .ok (.invokestatic 33, 3) := by decide +kernel
theorem dX0_join_56 : decode cX0_join 56 = .ok (.ior, 1) := by decide +kernel
theorem dX0_join_57 : decode cX0_join 57 = .ok (.iastore, 1) := by decide +kernel
theorem dX0_join_58 : decode cX0_join 58 = .ok (.aload_n 0, 1) := by decide +kernel
theorem dX0_join_59 : decode cX0_join 59 = .ok (.dup, 1) := by decide +kernel
theorem dX0_join_60 : decode cX0_join 60 = .ok (.getfield 18, 3) := by decide +kernel
theorem dX0_join_63 : decode cX0_join 63 = .ok (.iconst 1, 1) := by decide +kernel
theorem dX0_join_64 : decode cX0_join 64 = .ok (.iadd, 1) := by decide +kernel
theorem dX0_join_65 : decode cX0_join 65 = .ok (.putfield 18, 3) := by decide +kernel
theorem dX0_join_68 : decode cX0_join 68 = .ok (.return_, 1) := by decide +kernel
set_option maxRecDepth 20000 in
theorem ggX0_nextOverOpen_X3_below : GoodIn wsX0_nextOverOpen wsX3_below := goodIn_r _ [5] (by decide +kernel) (by decide +kernel)
set_option maxRecDepth 20000 in
theorem gX0_nextOverOpen_X3_below_n30 : GoodIn wsX0_nextOverOpen (wsX3_below) := ggX0_nextOverOpen_X3_below
theorem dX0_nextOverOpen_0 : decode cX0_nextOverOpen 0 = .ok (.iload_n 1, 1) := by decide +kernel
theorem dX0_nextOverOpen_1 : decode cX0_nextOverOpen 1 = .ok (.bipush 10, 2) := by decide +kernel
theorem dX0_nextOverOpen_3 : decode cX0_nextOverOpen 3 = .ok (.invokestatic 30, 3) := by decide +kernel
theorem dX0_nextOverOpen_6 : decode cX0_nextOverOpen 6 = .ok (.ifCond .eq 8, 3) := by decide +kernel
theorem dX0_nextOverOpen_9 : decode cX0_nextOverOpen 9 = .ok (.iload_n 2, 1) := by decide +kernel
theorem dX0_nextOverOpen_10 : decode cX0_nextOverOpen 10 = .ok (.iconst 2, 1) := by decide +kernel
theorem dX0_nextOverOpen_11 : decode cX0_nextOverOpen 11 = .ok (.if_icmp .ne 5, 3) := by decide +kernel
theorem dX0_nextOverOpen_14 : decode cX0_nextOverOpen 14 = .ok (.iconst 0, 1) := by decide +kernel
theorem dX0_nextOverOpen_15 : decode cX0_nextOverOpen 15 = .ok (.ireturn, 1) := by decide +kernel
theorem dX0_nextOverOpen_16 : decode cX0_nextOverOpen 16 = .ok (.iload_n 2, 1) := by decide +kernel
theorem dX0_nextOverOpen_17 : decode cX0_nextOverOpen 17 = .ok (.iconst 1, 1) := by decide +kernel
theorem dX0_nextOverOpen_18 : decode cX0_nextOverOpen 18 = .ok (.if_icmp .ne 12, 3) := by decide +kernel
theorem dX0_nextOverOpen_21 : decode cX0_nextOverOpen 21 = .ok (.aload_n 0, 1) := by decide +kernel
theorem dX0_nextOverOpen_22 : decode cX0_nextOverOpen 22 = .ok (.getfield 9, 3) := by decide +kernel
theorem dX0_nextOverOpen_25 : decode cX0_nextOverOpen 25 = .ok (.iload_n 1, 1) := by decide +kernel
theorem dX0_nextOverOpen_26 : decode cX0_nextOverOpen 26 = .ok (.iaload, 1) := by decide +kernel
theorem dX0_nextOverOpen_27 : decode cX0_nextOverOpen 27 = .ok (.goto 16, 3) := by decide +kernel
theorem dX0_nextOverOpen_30 : decode cX0_nextOverOpen 30 = .ok (.aload_n 0, 1) := by decide +kernel
theorem dX0_nextOverOpen_31 : decode cX0_nextOverOpen 31 = .ok (.getfield 9, 3) := by decide +kernel
theorem dX0_nextOverOpen_34 : decode cX0_nextOverOpen 34 = .ok (.iload_n 1, 1) := by decide +kernel
theorem dX0_nextOverOpen_35 : decode cX0_nextOverOpen 35 = .ok (.iaload, 1) := by decide +kernel
theorem dX0_nextOverOpen_36 : decode cX0_nextOverOpen 36 = .ok (.aload_n 0, 1) := by decide +kernel
theorem dX0_nextOverOpen_37 : decode cX0_nextOverOpen 37 = .ok (.getfield 15, 3) := by decide +kernel
theorem dX0_nextOverOpen_40 : decode cX0_nextOverOpen 40 = .ok (.iload_n 1, 1) := by decide +kernel
theorem dX0_nextOverOpen_41 : decode cX0_nextOverOpen 41 = .ok (.iaload, 1) := by decide +kernel
theorem dX0_nextOverOpen_42 : decode cX0_nextOverOpen 42 = .ok (.ior, 1) := by decide +kernel
theorem dX0_nextOverOpen_43 : decode cX0_nextOverOpen 43 = .ok (.ireturn, 1) := by decide +kernel
set_option maxRecDepth 20000 in
theorem ggX0_widened_X3_has : GoodIn wsX0_widened wsX3_has := goodIn_r _ [3, 4, 5, 2, 6] (by decide +kernel) (by decide +kernel)
set_option maxRecDepth 20000 in
theorem gX0_widened_X3_has_n26 : GoodIn wsX0_widened (wsX3_has) := ggX0_widened_X3_has
set_option maxRecDepth 20000 in
theorem ggX0_widened_X0_nextOverOpen : GoodIn wsX0_widened wsX0_nextOverOpen := goodIn_r _ [11, 12, 13, 14, 2, 15, 16, 17, 18] (by decide +kernel) (by decide +kernel)
set_option maxRecDepth 20000 in
theorem gX0_widened_X0_nextOverOpen : GoodIn wsX0_widened (wsV RX0 22 RX0 yX0_nextOverOpen wsX0_nextOverOpen) := goodIn_app (goodIn_of _ (by decide +kernel)) ggX0_widened_X0_nextOverOpen
theorem dX0_widened_0 : decode cX0_widened 0 = .ok (.iload_n 1, 1) := by decide +kernel
theorem dX0_widened_1 : decode cX0_widened 1 = .ok (.istore_n 3, 1) := by decide +kernel
theorem dX0_widened_2 : decode cX0_widened 2 = .ok (.iconst 0, 1) := by decide +kernel
theorem dX0_widened_3 : decode cX0_widened 3 = .ok (.istore 4, 2) := by decide +kernel
theorem dX0_widened_5 : decode cX0_widened 5 = .ok (.iload 4, 2) := by decide +kernel
theorem dX0_widened_7 : decode cX0_widened 7 = .ok (.bipush 10, 2) := by decide +kernel
theorem dX0_widened_9 : decode cX0_widened 9 = .ok (.if_icmp .ge 28, 3) := by decide +kernel
theorem dX0_widened_12 : decode cX0_widened 12 = .ok (.iload_n 1, 1) := by decide +kernel
theorem dX0_widened_13 : decode cX0_widened 13 = .ok (.iload 4, 2) := by decide +kernel
theorem dX0_widened_15 : decode cX0_widened 15 = .ok (.invokestatic 26, 3) := by decide +kernel
theorem dX0_widened_18 : decode cX0_widened 18 = .ok (.ifCond .eq 13, 3) := by decide +kernel
theorem dX0_widened_21 : decode cX0_widened 21 = .ok (.iload_n 3, 1) := by decide +kernel
theorem dX0_widened_22 : decode cX0_widened 22 = .ok (.aload_n 0, 1) := by decide +kernel
theorem dX0_widened_23 : decode cX0_widened 23 = .ok (.iload 4, 2) := by decide +kernel
theorem dX0_widened_25 : decode cX0_widened 25 = .ok (.iload_n 2, 1) := by decide +kernel
theorem dX0_widened_26 : decode cX0_widened 26 = .ok (.invokevirtual 22, 3) := by decide +kernel
theorem dX0_widened_29 : decode cX0_widened 29 = .ok (.ior, 1) := by decide +kernel
theorem dX0_widened_30 : decode cX0_widened 30 = .ok (.istore_n 3, 1) := by decide +kernel
theorem dX0_widened_31 : decode cX0_widened 31 = .ok (.iinc 4 1, 3) := by decide +kernel
theorem dX0_widened_34 : decode cX0_widened 34 = .ok (.goto (-29), 3) := by decide +kernel
theorem dX0_widened_37 : decode cX0_widened 37 = .ok (.iload_n 3, 1) := by decide +kernel
theorem dX0_widened_38 : decode cX0_widened 38 = .ok (.ireturn, 1) := by decide +kernel
theorem dX1_init_0 : decode cX1_init 0 = .ok (.aload_n 0, 1) := by decide +kernel
theorem dX1_init_1 : decode cX1_init 1 = .ok (.invokespecial 3, 3) := by decide +kernel
theorem dX1_init_4 : decode cX1_init 4 = .ok (.aload_n 0, 1) := by decide +kernel
theorem dX1_init_5 : decode cX1_init 5 = .ok (.sipush 512, 3) := by decide +kernel
theorem dX1_init_8 : decode cX1_init 8 = .ok (.newarray .int, 2) := by decide +kernel
theorem dX1_init_10 : decode cX1_init 10 = .ok (.putfield 9, 3) := by decide +kernel
theorem dX1_init_13 : decode cX1_init 13 = .ok (.aload_n 0, 1) := by decide +kernel
theorem dX1_init_14 : decode cX1_init 14 = .ok (.sipush 512, 3) := by decide +kernel
theorem dX1_init_17 : decode cX1_init 17 = .ok (.newarray .int, 2) := by decide +kernel
theorem dX1_init_19 : decode cX1_init 19 = .ok (.putfield 15, 3) := by decide +kernel
theorem dX1_init_22 : decode cX1_init 22 = .ok (.aload_n 0, 1) := by decide +kernel
theorem dX1_init_23 : decode cX1_init 23 = .ok (.iconst 0, 1) := by decide +kernel
theorem dX1_init_24 : decode cX1_init 24 = .ok (.putfield 18, 3) := by decide +kernel
theorem dX1_init_27 : decode cX1_init 27 = .ok (.return_, 1) := by decide +kernel
theorem dX1_count_0 : decode cX1_count 0 = .ok (.aload_n 0, 1) := by decide +kernel
theorem dX1_count_1 : decode cX1_count 1 = .ok (.getfield 18, 3) := by decide +kernel
theorem dX1_count_4 : decode cX1_count 4 = .ok (.ireturn, 1) := by decide +kernel
theorem dX1_isFull_0 : decode cX1_isFull 0 = .ok (.aload_n 0, 1) := by decide +kernel
theorem dX1_isFull_1 : decode cX1_isFull 1 = .ok (.getfield 18, 3) := by decide +kernel
theorem dX1_isFull_4 : decode cX1_isFull 4 = .ok (.sipush 512, 3) := by decide +kernel
theorem dX1_isFull_7 : decode cX1_isFull 7 = .ok (.if_icmp .lt 7, 3) := by decide +kernel
theorem dX1_isFull_10 : decode cX1_isFull 10 = .ok (.iconst 1, 1) := by decide +kernel
theorem dX1_isFull_11 : decode cX1_isFull 11 = .ok (.goto 4, 3) := by decide +kernel
theorem dX1_isFull_14 : decode cX1_isFull 14 = .ok (.iconst 0, 1) := by decide +kernel
theorem dX1_isFull_15 : decode cX1_isFull 15 = .ok (.ireturn, 1) := by decide +kernel
set_option maxRecDepth 20000 in
theorem ggX1_push_X3_below : GoodIn wsX1_push wsX3_below := goodIn_r _ [6] (by decide +kernel) (by decide +kernel)
set_option maxRecDepth 20000 in
theorem gX1_push_X3_below_n22 : GoodIn wsX1_push (wsX3_below) := ggX1_push_X3_below
theorem dX1_push_0 : decode cX1_push 0 = .ok (.aload_n 0, 1) := by decide +kernel
theorem dX1_push_1 : decode cX1_push 1 = .ok (.getfield 18, 3) := by decide +kernel
theorem dX1_push_4 : decode cX1_push 4 = .ok (.sipush 512, 3) := by decide +kernel
theorem dX1_push_7 : decode cX1_push 7 = .ok (.invokestatic 22, 3) := by decide +kernel
theorem dX1_push_10 : decode cX1_push 10 = .ok (.ifCond .eq 33, 3) := by decide +kernel
theorem dX1_push_13 : decode cX1_push 13 = .ok (.aload_n 0, 1) := by decide +kernel
theorem dX1_push_14 : decode cX1_push 14 = .ok (.getfield 9, 3) := by decide +kernel
theorem dX1_push_17 : decode cX1_push 17 = .ok (.aload_n 0, 1) := by decide +kernel
theorem dX1_push_18 : decode cX1_push 18 = .ok (.getfield 18, 3) := by decide +kernel
theorem dX1_push_21 : decode cX1_push 21 = .ok (.iload_n 1, 1) := by decide +kernel
theorem dX1_push_22 : decode cX1_push 22 = .ok (.iastore, 1) := by decide +kernel
theorem dX1_push_23 : decode cX1_push 23 = .ok (.aload_n 0, 1) := by decide +kernel
theorem dX1_push_24 : decode cX1_push 24 = .ok (.getfield 15, 3) := by decide +kernel
theorem dX1_push_27 : decode cX1_push 27 = .ok (.aload_n 0, 1) := by decide +kernel
theorem dX1_push_28 : decode cX1_push 28 = .ok (.getfield 18, 3) := by decide +kernel
theorem dX1_push_31 : decode cX1_push 31 = .ok (.iload_n 2, 1) := by decide +kernel
theorem dX1_push_32 : decode cX1_push 32 = .ok (.iastore, 1) := by decide +kernel
theorem dX1_push_33 : decode cX1_push 33 = .ok (.aload_n 0, 1) := by decide +kernel
theorem dX1_push_34 : decode cX1_push 34 = .ok (.dup, 1) := by decide +kernel
theorem dX1_push_35 : decode cX1_push 35 = .ok (.getfield 18, 3) := by decide +kernel
theorem dX1_push_38 : decode cX1_push 38 = .ok (.iconst 1, 1) := by decide +kernel
theorem dX1_push_39 : decode cX1_push 39 = .ok (.iadd, 1) := by decide +kernel
theorem dX1_push_40 : decode cX1_push 40 = .ok (.putfield 18, 3) := by decide +kernel
theorem dX1_push_43 : decode cX1_push 43 = .ok (.return_, 1) := by decide +kernel
theorem dX1_pop_0 : decode cX1_pop 0 = .ok (.aload_n 0, 1) := by decide +kernel
theorem dX1_pop_1 : decode cX1_pop 1 = .ok (.getfield 18, 3) := by decide +kernel
theorem dX1_pop_4 : decode cX1_pop 4 = .ok (.ifCond .le 13, 3) := by decide +kernel
theorem dX1_pop_7 : decode cX1_pop 7 = .ok (.aload_n 0, 1) := by decide +kernel
theorem dX1_pop_8 : decode cX1_pop 8 = .ok (.dup, 1) := by decide +kernel
theorem dX1_pop_9 : decode cX1_pop 9 = .ok (.getfield 18, 3) := by decide +kernel
theorem dX1_pop_12 : decode cX1_pop 12 = .ok (.iconst 1, 1) := by decide +kernel
theorem dX1_pop_13 : decode cX1_pop 13 = .ok (.isub, 1) := by decide +kernel
theorem dX1_pop_14 : decode cX1_pop 14 = .ok (.putfield 18, 3) := by decide +kernel
theorem dX1_pop_17 : decode cX1_pop 17 = .ok (.return_, 1) := by decide +kernel
set_option maxRecDepth 20000 in
theorem ggX1_lastTurn_X3_below : GoodIn wsX1_lastTurn wsX3_below := goodIn_r _ [5] (by decide +kernel) (by decide +kernel)
set_option maxRecDepth 20000 in
theorem gX1_lastTurn_X3_below_n22 : GoodIn wsX1_lastTurn (wsX3_below) := ggX1_lastTurn_X3_below
theorem dX1_lastTurn_0 : decode cX1_lastTurn 0 = .ok (.aload_n 0, 1) := by decide +kernel
theorem dX1_lastTurn_1 : decode cX1_lastTurn 1 = .ok (.getfield 18, 3) := by decide +kernel
theorem dX1_lastTurn_4 : decode cX1_lastTurn 4 = .ok (.iconst 1, 1) := by decide +kernel
theorem dX1_lastTurn_5 : decode cX1_lastTurn 5 = .ok (.isub, 1) := by decide +kernel
theorem dX1_lastTurn_6 : decode cX1_lastTurn 6 = .ok (.sipush 512, 3) := by decide +kernel
theorem dX1_lastTurn_9 : decode cX1_lastTurn 9 = .ok (.invokestatic 22, 3) := by decide +kernel
theorem dX1_lastTurn_12 : decode cX1_lastTurn 12 = .ok (.ifCond .eq 17, 3) := by decide +kernel
theorem dX1_lastTurn_15 : decode cX1_lastTurn 15 = .ok (.aload_n 0, 1) := by decide +kernel
theorem dX1_lastTurn_16 : decode cX1_lastTurn 16 = .ok (.getfield 9, 3) := by decide +kernel
theorem dX1_lastTurn_19 : decode cX1_lastTurn 19 = .ok (.aload_n 0, 1) := by decide +kernel
theorem dX1_lastTurn_20 : decode cX1_lastTurn 20 = .ok (.getfield 18, 3) := by decide +kernel
theorem dX1_lastTurn_23 : decode cX1_lastTurn 23 = .ok (.iconst 1, 1) := by decide +kernel
theorem dX1_lastTurn_24 : decode cX1_lastTurn 24 = .ok (.isub, 1) := by decide +kernel
theorem dX1_lastTurn_25 : decode cX1_lastTurn 25 = .ok (.iaload, 1) := by decide +kernel
theorem dX1_lastTurn_26 : decode cX1_lastTurn 26 = .ok (.goto 4, 3) := by decide +kernel
theorem dX1_lastTurn_29 : decode cX1_lastTurn 29 = .ok (.iconst (-1), 1) := by decide +kernel
theorem dX1_lastTurn_30 : decode cX1_lastTurn 30 = .ok (.ireturn, 1) := by decide +kernel
set_option maxRecDepth 20000 in
theorem ggX1_lastWeatherBefore_X3_below : GoodIn wsX1_lastWeatherBefore wsX3_below := goodIn_r _ [5] (by decide +kernel) (by decide +kernel)
set_option maxRecDepth 20000 in
theorem gX1_lastWeatherBefore_X3_below_n22 : GoodIn wsX1_lastWeatherBefore (wsX3_below) := ggX1_lastWeatherBefore_X3_below
theorem dX1_lastWeatherBefore_0 : decode cX1_lastWeatherBefore 0 = .ok (.aload_n 0, 1) := by decide +kernel
theorem dX1_lastWeatherBefore_1 : decode cX1_lastWeatherBefore 1 = .ok (.getfield 18, 3) := by decide +kernel
theorem dX1_lastWeatherBefore_4 : decode cX1_lastWeatherBefore 4 = .ok (.iconst 1, 1) := by decide +kernel
theorem dX1_lastWeatherBefore_5 : decode cX1_lastWeatherBefore 5 = .ok (.isub, 1) := by decide +kernel
theorem dX1_lastWeatherBefore_6 : decode cX1_lastWeatherBefore 6 = .ok (.sipush 512, 3) := by decide +kernel
theorem dX1_lastWeatherBefore_9 : decode cX1_lastWeatherBefore 9 = .ok (.invokestatic 22, 3) := by decide +kernel
theorem dX1_lastWeatherBefore_12 : decode cX1_lastWeatherBefore 12 = .ok (.ifCond .eq 17, 3) := by decide +kernel
theorem dX1_lastWeatherBefore_15 : decode cX1_lastWeatherBefore 15 = .ok (.aload_n 0, 1) := by decide +kernel
theorem dX1_lastWeatherBefore_16 : decode cX1_lastWeatherBefore 16 = .ok (.getfield 15, 3) := by decide +kernel
theorem dX1_lastWeatherBefore_19 : decode cX1_lastWeatherBefore 19 = .ok (.aload_n 0, 1) := by decide +kernel
theorem dX1_lastWeatherBefore_20 : decode cX1_lastWeatherBefore 20 = .ok (.getfield 18, 3) := by decide +kernel
theorem dX1_lastWeatherBefore_23 : decode cX1_lastWeatherBefore 23 = .ok (.iconst 1, 1) := by decide +kernel
theorem dX1_lastWeatherBefore_24 : decode cX1_lastWeatherBefore 24 = .ok (.isub, 1) := by decide +kernel
theorem dX1_lastWeatherBefore_25 : decode cX1_lastWeatherBefore 25 = .ok (.iaload, 1) := by decide +kernel
theorem dX1_lastWeatherBefore_26 : decode cX1_lastWeatherBefore 26 = .ok (.goto 4, 3) := by decide +kernel
theorem dX1_lastWeatherBefore_29 : decode cX1_lastWeatherBefore 29 = .ok (.iconst 0, 1) := by decide +kernel
theorem dX1_lastWeatherBefore_30 : decode cX1_lastWeatherBefore 30 = .ok (.ireturn, 1) := by decide +kernel
theorem dX2_init_0 : decode cX2_init 0 = .ok (.aload_n 0, 1) := by decide +kernel
theorem dX2_init_1 : decode cX2_init 1 = .ok (.invokespecial 3, 3) := by decide +kernel
theorem dX2_init_4 : decode cX2_init 4 = .ok (.aload_n 0, 1) := by decide +kernel
theorem dX2_init_5 : decode cX2_init 5 = .ok (.bipush 12, 2) := by decide +kernel
theorem dX2_init_7 : decode cX2_init 7 = .ok (.newarray .int, 2) := by decide +kernel
theorem dX2_init_9 : decode cX2_init 9 = .ok (.putfield 9, 3) := by decide +kernel
theorem dX2_init_12 : decode cX2_init 12 = .ok (.aload_n 0, 1) := by decide +kernel
theorem dX2_init_13 : decode cX2_init 13 = .ok (.sipush 264, 3) := by decide +kernel
theorem dX2_init_16 : decode cX2_init 16 = .ok (.newarray .int, 2) := by decide +kernel
theorem dX2_init_18 : decode cX2_init 18 = .ok (.putfield 15, 3) := by decide +kernel
theorem dX2_init_21 : decode cX2_init 21 = .ok (.aload_n 0, 1) := by decide +kernel
theorem dX2_init_22 : decode cX2_init 22 = .ok (.sipush 264, 3) := by decide +kernel
theorem dX2_init_25 : decode cX2_init 25 = .ok (.newarray .int, 2) := by decide +kernel
theorem dX2_init_27 : decode cX2_init 27 = .ok (.putfield 18, 3) := by decide +kernel
theorem dX2_init_30 : decode cX2_init 30 = .ok (.aload_n 0, 1) := by decide +kernel
theorem dX2_init_31 : decode cX2_init 31 = .ok (.sipush 264, 3) := by decide +kernel
theorem dX2_init_34 : decode cX2_init 34 = .ok (.newarray .int, 2) := by decide +kernel
theorem dX2_init_36 : decode cX2_init 36 = .ok (.putfield 21, 3) := by decide +kernel
theorem dX2_init_39 : decode cX2_init 39 = .ok (.aload_n 0, 1) := by decide +kernel
theorem dX2_init_40 : decode cX2_init 40 = .ok (.iconst 0, 1) := by decide +kernel
theorem dX2_init_41 : decode cX2_init 41 = .ok (.putfield 24, 3) := by decide +kernel
theorem dX2_init_44 : decode cX2_init 44 = .ok (.return_, 1) := by decide +kernel
theorem dX2_count_0 : decode cX2_count 0 = .ok (.aload_n 0, 1) := by decide +kernel
theorem dX2_count_1 : decode cX2_count 1 = .ok (.getfield 24, 3) := by decide +kernel
theorem dX2_count_4 : decode cX2_count 4 = .ok (.ireturn, 1) := by decide +kernel
set_option maxRecDepth 20000 in
theorem ggX2_add_X3_below : GoodIn wsX2_add wsX3_below := goodIn_r _ [5] (by decide +kernel) (by decide +kernel)
set_option maxRecDepth 20000 in
theorem gX2_add_X3_below_n28 : GoodIn wsX2_add (wsX3_below) := ggX2_add_X3_below
set_option maxRecDepth 20000 in
theorem ggX2_add_X2_place : GoodIn wsX2_add wsX2_place := goodIn_r _ [10, 11, 12, 13, 14, 15, 16, 17, 18, 9, 19, 20, 21, 22, 23, 24, 25, 26, 27] (by decide +kernel) (by decide +kernel)
set_option maxRecDepth 20000 in
theorem gX2_add_X2_place : GoodIn wsX2_add (wsV RX2 32 RX2 yX2_place wsX2_place) := goodIn_app (goodIn_of _ (by decide +kernel)) ggX2_add_X2_place
theorem dX2_add_0 : decode cX2_add 0 = .ok (.aload_n 0, 1) := by decide +kernel
theorem dX2_add_1 : decode cX2_add 1 = .ok (.getfield 24, 3) := by decide +kernel
theorem dX2_add_4 : decode cX2_add 4 = .ok (.istore 4, 2) := by decide +kernel
theorem dX2_add_6 : decode cX2_add 6 = .ok (.iload 4, 2) := by decide +kernel
theorem dX2_add_8 : decode cX2_add 8 = .ok (.bipush 12, 2) := by decide +kernel
theorem dX2_add_10 : decode cX2_add 10 = .ok (.invokestatic 28, 3) := by decide +kernel
theorem dX2_add_13 : decode cX2_add 13 = .ok (.ifCond .ne 5, 3) := by decide +kernel
theorem dX2_add_16 : decode cX2_add 16 = .ok (.iconst (-1), 1) := by decide +kernel
theorem dX2_add_17 : decode cX2_add 17 = .ok (.ireturn, 1) := by decide +kernel
theorem dX2_add_18 : decode cX2_add 18 = .ok (.aload_n 0, 1) := by decide +kernel
theorem dX2_add_19 : decode cX2_add 19 = .ok (.getfield 9, 3) := by decide +kernel
theorem dX2_add_22 : decode cX2_add 22 = .ok (.iload 4, 2) := by decide +kernel
theorem dX2_add_24 : decode cX2_add 24 = .ok (.iload_n 1, 1) := by decide +kernel
theorem dX2_add_25 : decode cX2_add 25 = .ok (.iastore, 1) := by decide +kernel
theorem dX2_add_26 : decode cX2_add 26 = .ok (.aload_n 0, 1) := by decide +kernel
theorem dX2_add_27 : decode cX2_add 27 = .ok (.iload 4, 2) := by decide +kernel
theorem dX2_add_29 : decode cX2_add 29 = .ok (.iconst 1, 1) := by decide +kernel
theorem dX2_add_30 : decode cX2_add 30 = .ok (.iadd, 1) := by decide +kernel
theorem dX2_add_31 : decode cX2_add 31 = .ok (.putfield 24, 3) := by decide +kernel
theorem dX2_add_34 : decode cX2_add 34 = .ok (.aload_n 0, 1) := by decide +kernel
theorem dX2_add_35 : decode cX2_add 35 = .ok (.iconst 0, 1) := by decide +kernel
theorem dX2_add_36 : decode cX2_add 36 = .ok (.iload 4, 2) := by decide +kernel
theorem dX2_add_38 : decode cX2_add 38 = .ok (.iload_n 2, 1) := by decide +kernel
theorem dX2_add_39 : decode cX2_add 39 = .ok (.iload_n 3, 1) := by decide +kernel
theorem dX2_add_40 : decode cX2_add 40 = .ok (.invokevirtual 32, 3) := by decide +kernel
theorem dX2_add_43 : decode cX2_add 43 = .ok (.iload 4, 2) := by decide +kernel
theorem dX2_add_45 : decode cX2_add 45 = .ok (.ireturn, 1) := by decide +kernel
set_option maxRecDepth 20000 in
theorem ggX2_sideOf_X3_below : GoodIn wsX2_sideOf wsX3_below := goodIn_r _ [4] (by decide +kernel) (by decide +kernel)
set_option maxRecDepth 20000 in
theorem gX2_sideOf_X3_below_n28 : GoodIn wsX2_sideOf (wsX3_below) := ggX2_sideOf_X3_below
theorem dX2_sideOf_0 : decode cX2_sideOf 0 = .ok (.iload_n 1, 1) := by decide +kernel
theorem dX2_sideOf_1 : decode cX2_sideOf 1 = .ok (.bipush 12, 2) := by decide +kernel
theorem dX2_sideOf_3 : decode cX2_sideOf 3 = .ok (.invokestatic 28, 3) := by decide +kernel
theorem dX2_sideOf_6 : decode cX2_sideOf 6 = .ok (.ifCond .eq 12, 3) := by decide +kernel
theorem dX2_sideOf_9 : decode cX2_sideOf 9 = .ok (.aload_n 0, 1) := by decide +kernel
theorem dX2_sideOf_10 : decode cX2_sideOf 10 = .ok (.getfield 9, 3) := by decide +kernel
theorem dX2_sideOf_13 : decode cX2_sideOf 13 = .ok (.iload_n 1, 1) := by decide +kernel
theorem dX2_sideOf_14 : decode cX2_sideOf 14 = .ok (.iaload, 1) := by decide +kernel
theorem dX2_sideOf_15 : decode cX2_sideOf 15 = .ok (.goto 4, 3) := by decide +kernel
theorem dX2_sideOf_18 : decode cX2_sideOf 18 = .ok (.iconst (-1), 1) := by decide +kernel
theorem dX2_sideOf_19 : decode cX2_sideOf 19 = .ok (.ireturn, 1) := by decide +kernel
set_option maxRecDepth 20000 in
theorem ggX2_townAt_X2_isKept : GoodIn wsX2_townAt wsX2_isKept := goodIn_r _ [5] (by decide +kernel) (by decide +kernel)
set_option maxRecDepth 20000 in
theorem gX2_townAt_X2_isKept : GoodIn wsX2_townAt (va_wsS RX2 36 yX2_isKept wsX2_isKept) := goodIn_app (goodIn_of _ (by decide +kernel)) ggX2_townAt_X2_isKept
set_option maxRecDepth 20000 in
theorem ggX2_townAt_X2_index : GoodIn wsX2_townAt wsX2_index := goodIn_r _ [8] (by decide +kernel) (by decide +kernel)
set_option maxRecDepth 20000 in
theorem gX2_townAt_X2_index : GoodIn wsX2_townAt (va_wsS RX2 39 yX2_index wsX2_index) := goodIn_app (goodIn_of _ (by decide +kernel)) ggX2_townAt_X2_index
theorem dX2_townAt_0 : decode cX2_townAt 0 = .ok (.iload_n 1, 1) := by decide +kernel
theorem dX2_townAt_1 : decode cX2_townAt 1 = .ok (.iload_n 2, 1) := by decide +kernel
theorem dX2_townAt_2 : decode cX2_townAt 2 = .ok (.invokestatic 36, 3) := by decide +kernel
theorem dX2_townAt_5 : decode cX2_townAt 5 = .ok (.ifCond .eq 16, 3) := by decide +kernel
theorem dX2_townAt_8 : decode cX2_townAt 8 = .ok (.aload_n 0, 1) := by decide +kernel
theorem dX2_townAt_9 : decode cX2_townAt 9 = .ok (.getfield 15, 3) := by decide +kernel
theorem dX2_townAt_12 : decode cX2_townAt 12 = .ok (.iload_n 1, 1) := by decide +kernel
theorem dX2_townAt_13 : decode cX2_townAt 13 = .ok (.iload_n 2, 1) := by decide +kernel
theorem dX2_townAt_14 : decode cX2_townAt 14 = .ok (.invokestatic 39, 3) := by decide +kernel
theorem dX2_townAt_17 : decode cX2_townAt 17 = .ok (.iaload, 1) := by decide +kernel
theorem dX2_townAt_18 : decode cX2_townAt 18 = .ok (.goto 4, 3) := by decide +kernel
theorem dX2_townAt_21 : decode cX2_townAt 21 = .ok (.iconst (-1), 1) := by decide +kernel
theorem dX2_townAt_22 : decode cX2_townAt 22 = .ok (.ireturn, 1) := by decide +kernel
set_option maxRecDepth 20000 in
theorem ggX2_strengthAt_X2_isKept : GoodIn wsX2_strengthAt wsX2_isKept := goodIn_r _ [5] (by decide +kernel) (by decide +kernel)
set_option maxRecDepth 20000 in
theorem gX2_strengthAt_X2_isKept : GoodIn wsX2_strengthAt (va_wsS RX2 36 yX2_isKept wsX2_isKept) := goodIn_app (goodIn_of _ (by decide +kernel)) ggX2_strengthAt_X2_isKept
set_option maxRecDepth 20000 in
theorem ggX2_strengthAt_X2_index : GoodIn wsX2_strengthAt wsX2_index := goodIn_r _ [8] (by decide +kernel) (by decide +kernel)
set_option maxRecDepth 20000 in
theorem gX2_strengthAt_X2_index : GoodIn wsX2_strengthAt (va_wsS RX2 39 yX2_index wsX2_index) := goodIn_app (goodIn_of _ (by decide +kernel)) ggX2_strengthAt_X2_index
theorem dX2_strengthAt_0 : decode cX2_strengthAt 0 = .ok (.iload_n 1, 1) := by decide +kernel
theorem dX2_strengthAt_1 : decode cX2_strengthAt 1 = .ok (.iload_n 2, 1) := by decide +kernel
theorem dX2_strengthAt_2 : decode cX2_strengthAt 2 = .ok (.invokestatic 36, 3) := by decide +kernel
theorem dX2_strengthAt_5 : decode cX2_strengthAt 5 = .ok (.ifCond .eq 16, 3) := by decide +kernel
theorem dX2_strengthAt_8 : decode cX2_strengthAt 8 = .ok (.aload_n 0, 1) := by decide +kernel
theorem dX2_strengthAt_9 : decode cX2_strengthAt 9 = .ok (.getfield 18, 3) := by decide +kernel
theorem dX2_strengthAt_12 : decode cX2_strengthAt 12 = .ok (.iload_n 1, 1) := by decide +kernel
theorem dX2_strengthAt_13 : decode cX2_strengthAt 13 = .ok (.iload_n 2, 1) := by decide +kernel
theorem dX2_strengthAt_14 : decode cX2_strengthAt 14 = .ok (.invokestatic 39, 3) := by decide +kernel
theorem dX2_strengthAt_17 : decode cX2_strengthAt 17 = .ok (.iaload, 1) := by decide +kernel
theorem dX2_strengthAt_18 : decode cX2_strengthAt 18 = .ok (.goto 4, 3) := by decide +kernel
theorem dX2_strengthAt_21 : decode cX2_strengthAt 21 = .ok (.iconst 0, 1) := by decide +kernel
theorem dX2_strengthAt_22 : decode cX2_strengthAt 22 = .ok (.ireturn, 1) := by decide +kernel
set_option maxRecDepth 20000 in
theorem ggX2_orderFor_X2_isKept : GoodIn wsX2_orderFor wsX2_isKept := goodIn_r _ [5] (by decide +kernel) (by decide +kernel)
set_option maxRecDepth 20000 in
theorem gX2_orderFor_X2_isKept : GoodIn wsX2_orderFor (va_wsS RX2 36 yX2_isKept wsX2_isKept) := goodIn_app (goodIn_of _ (by decide +kernel)) ggX2_orderFor_X2_isKept
set_option maxRecDepth 20000 in
theorem ggX2_orderFor_X2_index : GoodIn wsX2_orderFor wsX2_index := goodIn_r _ [8] (by decide +kernel) (by decide +kernel)
set_option maxRecDepth 20000 in
theorem gX2_orderFor_X2_index : GoodIn wsX2_orderFor (va_wsS RX2 39 yX2_index wsX2_index) := goodIn_app (goodIn_of _ (by decide +kernel)) ggX2_orderFor_X2_index
theorem dX2_orderFor_0 : decode cX2_orderFor 0 = .ok (.iload_n 1, 1) := by decide +kernel
theorem dX2_orderFor_1 : decode cX2_orderFor 1 = .ok (.iload_n 2, 1) := by decide +kernel
theorem dX2_orderFor_2 : decode cX2_orderFor 2 = .ok (.invokestatic 36, 3) := by decide +kernel
theorem dX2_orderFor_5 : decode cX2_orderFor 5 = .ok (.ifCond .eq 18, 3) := by decide +kernel
theorem dX2_orderFor_8 : decode cX2_orderFor 8 = .ok (.aload_n 0, 1) := by decide +kernel
theorem dX2_orderFor_9 : decode cX2_orderFor 9 = .ok (.getfield 21, 3) := by decide +kernel
theorem dX2_orderFor_12 : decode cX2_orderFor 12 = .ok (.iload_n 1, 1) := by decide +kernel
theorem dX2_orderFor_13 : decode cX2_orderFor 13 = .ok (.iload_n 2, 1) := by decide +kernel
theorem dX2_orderFor_14 : decode cX2_orderFor 14 = .ok (.invokestatic 39, 3) := by decide +kernel
theorem dX2_orderFor_17 : decode cX2_orderFor 17 = .ok (.iaload, 1) := by decide +kernel
theorem dX2_orderFor_18 : decode cX2_orderFor 18 = .ok (.iconst 1, 1) := by decide +kernel
theorem dX2_orderFor_19 : decode cX2_orderFor 19 = .ok (.isub, 1) := by decide +kernel
theorem dX2_orderFor_20 : decode cX2_orderFor 20 = .ok (.goto 4, 3) := by decide +kernel
theorem dX2_orderFor_23 : decode cX2_orderFor 23 = .ok (.iconst (-1), 1) := by decide +kernel
theorem dX2_orderFor_24 : decode cX2_orderFor 24 = .ok (.ireturn, 1) := by decide +kernel
set_option maxRecDepth 20000 in
theorem ggX2_giveOrder_X2_isKept : GoodIn wsX2_giveOrder wsX2_isKept := goodIn_r _ [5] (by decide +kernel) (by decide +kernel)
set_option maxRecDepth 20000 in
theorem gX2_giveOrder_X2_isKept : GoodIn wsX2_giveOrder (va_wsS RX2 36 yX2_isKept wsX2_isKept) := goodIn_app (goodIn_of _ (by decide +kernel)) ggX2_giveOrder_X2_isKept
set_option maxRecDepth 20000 in
theorem ggX2_giveOrder_X2_index : GoodIn wsX2_giveOrder wsX2_index := goodIn_r _ [8] (by decide +kernel) (by decide +kernel)
set_option maxRecDepth 20000 in
theorem gX2_giveOrder_X2_index : GoodIn wsX2_giveOrder (va_wsS RX2 39 yX2_index wsX2_index) := goodIn_app (goodIn_of _ (by decide +kernel)) ggX2_giveOrder_X2_index
theorem dX2_giveOrder_0 : decode cX2_giveOrder 0 = .ok (.iload_n 1, 1) := by decide +kernel
theorem dX2_giveOrder_1 : decode cX2_giveOrder 1 = .ok (.iload_n 2, 1) := by decide +kernel
theorem dX2_giveOrder_2 : decode cX2_giveOrder 2 = .ok (.invokestatic 36, 3) := by decide +kernel
theorem dX2_giveOrder_5 : decode cX2_giveOrder 5 = .ok (.ifCond .eq 16, 3) := by decide +kernel
theorem dX2_giveOrder_8 : decode cX2_giveOrder 8 = .ok (.aload_n 0, 1) := by decide +kernel
theorem dX2_giveOrder_9 : decode cX2_giveOrder 9 = .ok (.getfield 21, 3) := by decide +kernel
theorem dX2_giveOrder_12 : decode cX2_giveOrder 12 = .ok (.iload_n 1, 1) := by decide +kernel
theorem dX2_giveOrder_13 : decode cX2_giveOrder 13 = .ok (.iload_n 2, 1) := by decide +kernel
theorem dX2_giveOrder_14 : decode cX2_giveOrder 14 = .ok (.invokestatic 39, 3) := by decide +kernel
theorem dX2_giveOrder_17 : decode cX2_giveOrder 17 = .ok (.iload_n 3, 1) := by decide +kernel
theorem dX2_giveOrder_18 : decode cX2_giveOrder 18 = .ok (.iconst 1, 1) := by decide +kernel
theorem dX2_giveOrder_19 : decode cX2_giveOrder 19 = .ok (.iadd, 1) := by decide +kernel
theorem dX2_giveOrder_20 : decode cX2_giveOrder 20 = .ok (.iastore, 1) := by decide +kernel
theorem dX2_giveOrder_21 : decode cX2_giveOrder 21 = .ok (.return_, 1) := by decide +kernel
set_option maxRecDepth 20000 in
theorem ggX2_place_X2_isKept : GoodIn wsX2_place wsX2_isKept := goodIn_r _ [10] (by decide +kernel) (by decide +kernel)
set_option maxRecDepth 20000 in
theorem gX2_place_X2_isKept : GoodIn wsX2_place (va_wsS RX2 36 yX2_isKept wsX2_isKept) := goodIn_app (goodIn_of _ (by decide +kernel)) ggX2_place_X2_isKept
set_option maxRecDepth 20000 in
theorem ggX2_place_X2_index : GoodIn wsX2_place wsX2_index := goodIn_r _ [13] (by decide +kernel) (by decide +kernel)
set_option maxRecDepth 20000 in
theorem gX2_place_X2_index : GoodIn wsX2_place (va_wsS RX2 39 yX2_index wsX2_index) := goodIn_app (goodIn_of _ (by decide +kernel)) ggX2_place_X2_index
theorem dX2_place_0 : decode cX2_place 0 = .ok (.iload_n 1, 1) := by decide +kernel
theorem dX2_place_1 : decode cX2_place 1 = .ok (.iload_n 2, 1) := by decide +kernel
theorem dX2_place_2 : decode cX2_place 2 = .ok (.invokestatic 36, 3) := by decide +kernel
theorem dX2_place_5 : decode cX2_place 5 = .ok (.ifCond .eq 39, 3) := by decide +kernel
theorem dX2_place_8 : decode cX2_place 8 = .ok (.aload_n 0, 1) := by decide +kernel
theorem dX2_place_9 : decode cX2_place 9 = .ok (.getfield 15, 3) := by decide +kernel
theorem dX2_place_12 : decode cX2_place 12 = .ok (.iload_n 1, 1) := by decide +kernel
theorem dX2_place_13 : decode cX2_place 13 = .ok (.iload_n 2, 1) := by decide +kernel
theorem dX2_place_14 : decode cX2_place 14 = .ok (.invokestatic 39, 3) := by decide +kernel
theorem dX2_place_17 : decode cX2_place 17 = .ok (.iload 4, 2) := by decide +kernel
theorem dX2_place_19 : decode cX2_place 19 = .ok (.ifCond .le 7, 3) := by decide +kernel
theorem dX2_place_22 : decode cX2_place 22 = .ok (.iload_n 3, 1) := by decide +kernel
theorem dX2_place_23 : decode cX2_place 23 = .ok (.goto 4, 3) := by decide +kernel
theorem dX2_place_26 : decode cX2_place 26 = .ok (.iconst (-1), 1) := by decide +kernel
theorem dX2_place_27 : decode cX2_place 27 = .ok (.iastore, 1) := by decide +kernel
theorem dX2_place_28 : decode cX2_place 28 = .ok (.aload_n 0, 1) := by decide +kernel
theorem dX2_place_29 : decode cX2_place 29 = .ok (.getfield 18, 3) := by decide +kernel
theorem dX2_place_32 : decode cX2_place 32 = .ok (.iload_n 1, 1) := by decide +kernel
theorem dX2_place_33 : decode cX2_place 33 = .ok (.iload_n 2, 1) := by decide +kernel
theorem dX2_place_34 : decode cX2_place 34 = .ok (.invokestatic 39, 3) := by decide +kernel
theorem dX2_place_37 : decode cX2_place 37 = .ok (.iload 4, 2) := by decide +kernel
theorem dX2_place_39 : decode cX2_place 39 = .ok (.iconst 0, 1) := by decide +kernel
theorem dX2_place_40 : decode cX2_place 40 = .ok (.invokestatic 43, 3) := by decide +kernel
theorem dX2_place_43 : decode cX2_place 43 = .ok (.iastore, 1) := by decide +kernel
theorem dX2_place_44 : decode cX2_place 44 = .ok (.return_, 1) := by decide +kernel
set_option maxRecDepth 20000 in
theorem ggX2_copyMoment_X2_townAt : GoodIn wsX2_copyMoment wsX2_townAt := goodIn_r _ [6, 7, 8, 9, 5, 10, 11, 12, 13, 27, 28, 29, 30, 31] (by decide +kernel) (by decide +kernel)
set_option maxRecDepth 20000 in
theorem gX2_copyMoment_X2_townAt : GoodIn wsX2_copyMoment (wsV RX2 48 RX2 yX2_townAt wsX2_townAt) := goodIn_app (goodIn_of _ (by decide +kernel)) ggX2_copyMoment_X2_townAt
set_option maxRecDepth 20000 in
theorem ggX2_copyMoment_X2_strengthAt : GoodIn wsX2_copyMoment wsX2_strengthAt := goodIn_r _ [17, 18, 8, 9, 5, 10, 11, 12, 13, 27, 28, 29, 30, 31] (by decide +kernel) (by decide +kernel)
set_option maxRecDepth 20000 in
theorem gX2_copyMoment_X2_strengthAt : GoodIn wsX2_copyMoment (wsV RX2 51 RX2 yX2_strengthAt wsX2_strengthAt) := goodIn_app (goodIn_of _ (by decide +kernel)) ggX2_copyMoment_X2_strengthAt
set_option maxRecDepth 20000 in
theorem ggX2_copyMoment_X2_place : GoodIn wsX2_copyMoment wsX2_place := goodIn_r _ [22, 7, 18, 23, 24, 25, 26, 8, 9, 5, 10, 11, 12, 13, 27, 28, 29, 30, 31] (by decide +kernel) (by decide +kernel)
set_option maxRecDepth 20000 in
theorem gX2_copyMoment_X2_place : GoodIn wsX2_copyMoment (wsV RX2 32 RX2 yX2_place wsX2_place) := goodIn_app (goodIn_of _ (by decide +kernel)) ggX2_copyMoment_X2_place
theorem dX2_copyMoment_0 : decode cX2_copyMoment 0 = .ok (.iconst 0, 1) := by decide +kernel
theorem dX2_copyMoment_1 : decode cX2_copyMoment 1 = .ok (.istore_n 3, 1) := by decide +kernel
theorem dX2_copyMoment_2 : decode cX2_copyMoment 2 = .ok (.iload_n 3, 1) := by decide +kernel
theorem dX2_copyMoment_3 : decode cX2_copyMoment 3 = .ok (.aload_n 0, 1) := by decide +kernel
theorem dX2_copyMoment_4 : decode cX2_copyMoment 4 = .ok (.getfield 24, 3) := by decide +kernel
theorem dX2_copyMoment_7 : decode cX2_copyMoment 7 = .ok (.if_icmp .ge 27, 3) := by decide +kernel
theorem dX2_copyMoment_10 : decode cX2_copyMoment 10 = .ok (.aload_n 0, 1) := by decide +kernel
theorem dX2_copyMoment_11 : decode cX2_copyMoment 11 = .ok (.iload_n 2, 1) := by decide +kernel
theorem dX2_copyMoment_12 : decode cX2_copyMoment 12 = .ok (.iload_n 3, 1) := by decide +kernel
theorem dX2_copyMoment_13 : decode cX2_copyMoment 13 = .ok (.aload_n 0, 1) := by decide +kernel
theorem dX2_copyMoment_14 : decode cX2_copyMoment 14 = .ok (.iload_n 1, 1) := by decide +kernel
theorem dX2_copyMoment_15 : decode cX2_copyMoment 15 = .ok (.iload_n 3, 1) := by decide +kernel
theorem dX2_copyMoment_16 : decode cX2_copyMoment 16 = .ok (.invokevirtual 48, 3) := by decide +kernel
theorem dX2_copyMoment_19 : decode cX2_copyMoment 19 = .ok (.aload_n 0, 1) := by decide +kernel
theorem dX2_copyMoment_20 : decode cX2_copyMoment 20 = .ok (.iload_n 1, 1) := by decide +kernel
theorem dX2_copyMoment_21 : decode cX2_copyMoment 21 = .ok (.iload_n 3, 1) := by decide +kernel
theorem dX2_copyMoment_22 : decode cX2_copyMoment 22 = .ok (.invokevirtual 51, 3) := by decide +kernel
theorem dX2_copyMoment_25 : decode cX2_copyMoment 25 = .ok (.invokevirtual 32, 3) := by decide +kernel
theorem dX2_copyMoment_28 : decode cX2_copyMoment 28 = .ok (.iinc 3 1, 3) := by decide +kernel
theorem dX2_copyMoment_31 : decode cX2_copyMoment 31 = .ok (.goto (-29), 3) := by decide +kernel
theorem dX2_copyMoment_34 : decode cX2_copyMoment 34 = .ok (.return_, 1) := by decide +kernel
set_option maxRecDepth 20000 in
theorem ggX2_differing_X2_townAt : GoodIn wsX2_differing wsX2_townAt := goodIn_r _ [6, 7, 8, 9, 5, 10, 11, 12, 13, 19, 20, 21, 22, 23] (by decide +kernel) (by decide +kernel)
set_option maxRecDepth 20000 in
theorem gX2_differing_X2_townAt : GoodIn wsX2_differing (wsV RX2 48 RX2 yX2_townAt wsX2_townAt) := goodIn_app (goodIn_of _ (by decide +kernel)) ggX2_differing_X2_townAt
set_option maxRecDepth 20000 in
theorem ggX2_differing_X2_strengthAt : GoodIn wsX2_differing wsX2_strengthAt := goodIn_r _ [17, 18, 8, 9, 5, 10, 11, 12, 13, 19, 20, 21, 22, 23] (by decide +kernel) (by decide +kernel)
set_option maxRecDepth 20000 in
theorem gX2_differing_X2_strengthAt : GoodIn wsX2_differing (wsV RX2 51 RX2 yX2_strengthAt wsX2_strengthAt) := goodIn_app (goodIn_of _ (by decide +kernel)) ggX2_differing_X2_strengthAt
theorem dX2_differing_0 : decode cX2_differing 0 = .ok (.iconst 0, 1) := by decide +kernel
theorem dX2_differing_1 : decode cX2_differing 1 = .ok (.istore_n 3, 1) := by decide +kernel
theorem dX2_differing_2 : decode cX2_differing 2 = .ok (.iconst 0, 1) := by decide +kernel
theorem dX2_differing_3 : decode cX2_differing 3 = .ok (.istore 4, 2) := by decide +kernel
theorem dX2_differing_5 : decode cX2_differing 5 = .ok (.iload 4, 2) := by decide +kernel
theorem dX2_differing_7 : decode cX2_differing 7 = .ok (.aload_n 0, 1) := by decide +kernel
theorem dX2_differing_8 : decode cX2_differing 8 = .ok (.getfield 24, 3) := by decide +kernel
theorem dX2_differing_11 : decode cX2_differing 11 = .ok (.if_icmp .ge 46, 3) := by decide +kernel
theorem dX2_differing_14 : decode cX2_differing 14 = .ok (.aload_n 0, 1) := by decide +kernel
theorem dX2_differing_15 : decode cX2_differing 15 = .ok (.iload_n 1, 1) := by decide +kernel
theorem dX2_differing_16 : decode cX2_differing 16 = .ok (.iload 4, 2) := by decide +kernel
theorem dX2_differing_18 : decode cX2_differing 18 = .ok (.invokevirtual 48, 3) := by decide +kernel
theorem dX2_differing_21 : decode cX2_differing 21 = .ok (.aload_n 0, 1) := by decide +kernel
theorem dX2_differing_22 : decode cX2_differing 22 = .ok (.iload_n 2, 1) := by decide +kernel
theorem dX2_differing_23 : decode cX2_differing 23 = .ok (.iload 4, 2) := by decide +kernel
theorem dX2_differing_25 : decode cX2_differing 25 = .ok (.invokevirtual 48, 3) := by decide +kernel
theorem dX2_differing_28 : decode cX2_differing 28 = .ok (.if_icmp .ne 20, 3) := by decide +kernel
theorem dX2_differing_31 : decode cX2_differing 31 = .ok (.aload_n 0, 1) := by decide +kernel
theorem dX2_differing_32 : decode cX2_differing 32 = .ok (.iload_n 1, 1) := by decide +kernel
theorem dX2_differing_33 : decode cX2_differing 33 = .ok (.iload 4, 2) := by decide +kernel
theorem dX2_differing_35 : decode cX2_differing 35 = .ok (.invokevirtual 51, 3) := by decide +kernel
theorem dX2_differing_38 : decode cX2_differing 38 = .ok (.aload_n 0, 1) := by decide +kernel
theorem dX2_differing_39 : decode cX2_differing 39 = .ok (.iload_n 2, 1) := by decide +kernel
theorem dX2_differing_40 : decode cX2_differing 40 = .ok (.iload 4, 2) := by decide +kernel
theorem dX2_differing_42 : decode cX2_differing 42 = .ok (.invokevirtual 51, 3) := by decide +kernel
theorem dX2_differing_45 : decode cX2_differing 45 = .ok (.if_icmp .eq 6, 3) := by decide +kernel
theorem dX2_differing_48 : decode cX2_differing 48 = .ok (.iinc 3 1, 3) := by decide +kernel
theorem dX2_differing_51 : decode cX2_differing 51 = .ok (.iinc 4 1, 3) := by decide +kernel
theorem dX2_differing_54 : decode cX2_differing 54 = .ok (.goto (-49), 3) := by decide +kernel
theorem dX2_differing_57 : decode cX2_differing 57 = .ok (.iload_n 3, 1) := by decide +kernel
theorem dX2_differing_58 : decode cX2_differing 58 = .ok (.ireturn, 1) := by decide +kernel
set_option maxRecDepth 20000 in
theorem ggX2_livingAt_X2_townAt : GoodIn wsX2_livingAt wsX2_townAt := goodIn_r _ [6, 7, 8, 9, 5, 10, 11, 12, 13, 14, 15, 16, 17, 18] (by decide +kernel) (by decide +kernel)
set_option maxRecDepth 20000 in
theorem gX2_livingAt_X2_townAt : GoodIn wsX2_livingAt (wsV RX2 48 RX2 yX2_townAt wsX2_townAt) := goodIn_app (goodIn_of _ (by decide +kernel)) ggX2_livingAt_X2_townAt
theorem dX2_livingAt_0 : decode cX2_livingAt 0 = .ok (.iconst 0, 1) := by decide +kernel
theorem dX2_livingAt_1 : decode cX2_livingAt 1 = .ok (.istore_n 2, 1) := by decide +kernel
theorem dX2_livingAt_2 : decode cX2_livingAt 2 = .ok (.iconst 0, 1) := by decide +kernel
theorem dX2_livingAt_3 : decode cX2_livingAt 3 = .ok (.istore_n 3, 1) := by decide +kernel
theorem dX2_livingAt_4 : decode cX2_livingAt 4 = .ok (.iload_n 3, 1) := by decide +kernel
theorem dX2_livingAt_5 : decode cX2_livingAt 5 = .ok (.aload_n 0, 1) := by decide +kernel
theorem dX2_livingAt_6 : decode cX2_livingAt 6 = .ok (.getfield 24, 3) := by decide +kernel
theorem dX2_livingAt_9 : decode cX2_livingAt 9 = .ok (.if_icmp .ge 22, 3) := by decide +kernel
theorem dX2_livingAt_12 : decode cX2_livingAt 12 = .ok (.aload_n 0, 1) := by decide +kernel
theorem dX2_livingAt_13 : decode cX2_livingAt 13 = .ok (.iload_n 1, 1) := by decide +kernel
theorem dX2_livingAt_14 : decode cX2_livingAt 14 = .ok (.iload_n 3, 1) := by decide +kernel
theorem dX2_livingAt_15 : decode cX2_livingAt 15 = .ok (.invokevirtual 48, 3) := by decide +kernel
theorem dX2_livingAt_18 : decode cX2_livingAt 18 = .ok (.iconst (-1), 1) := by decide +kernel
theorem dX2_livingAt_19 : decode cX2_livingAt 19 = .ok (.if_icmp .eq 6, 3) := by decide +kernel
theorem dX2_livingAt_22 : decode cX2_livingAt 22 = .ok (.iinc 2 1, 3) := by decide +kernel
theorem dX2_livingAt_25 : decode cX2_livingAt 25 = .ok (.iinc 3 1, 3) := by decide +kernel
theorem dX2_livingAt_28 : decode cX2_livingAt 28 = .ok (.goto (-24), 3) := by decide +kernel
theorem dX2_livingAt_31 : decode cX2_livingAt 31 = .ok (.iload_n 2, 1) := by decide +kernel
theorem dX2_livingAt_32 : decode cX2_livingAt 32 = .ok (.ireturn, 1) := by decide +kernel
set_option maxRecDepth 20000 in
theorem ggX2_townsHeld_X2_townAt : GoodIn wsX2_townsHeld wsX2_townAt := goodIn_r _ [6, 7, 8, 9, 5, 10, 11, 12, 13, 24, 25, 26, 27, 28] (by decide +kernel) (by decide +kernel)
set_option maxRecDepth 20000 in
theorem gX2_townsHeld_X2_townAt : GoodIn wsX2_townsHeld (wsV RX2 48 RX2 yX2_townAt wsX2_townAt) := goodIn_app (goodIn_of _ (by decide +kernel)) ggX2_townsHeld_X2_townAt
set_option maxRecDepth 20000 in
theorem ggX2_townsHeld_X2_sideOf : GoodIn wsX2_townsHeld wsX2_sideOf := goodIn_r _ [17, 18, 19, 20, 21, 24, 25, 26, 27, 28] (by decide +kernel) (by decide +kernel)
set_option maxRecDepth 20000 in
theorem gX2_townsHeld_X2_sideOf : GoodIn wsX2_townsHeld (wsV RX2 54 RX2 yX2_sideOf wsX2_sideOf) := goodIn_app (goodIn_of _ (by decide +kernel)) ggX2_townsHeld_X2_sideOf
set_option maxRecDepth 20000 in
theorem ggX2_townsHeld_X3_bit : GoodIn wsX2_townsHeld wsX3_bit := goodIn_r _ [23] (by decide +kernel) (by decide +kernel)
set_option maxRecDepth 20000 in
theorem gX2_townsHeld_X3_bit_n58 : GoodIn wsX2_townsHeld (wsX3_bit) := ggX2_townsHeld_X3_bit
theorem dX2_townsHeld_0 : decode cX2_townsHeld 0 = .ok (.iconst 0, 1) := by decide +kernel
theorem dX2_townsHeld_1 : decode cX2_townsHeld 1 = .ok (.istore_n 3, 1) := by decide +kernel
theorem dX2_townsHeld_2 : decode cX2_townsHeld 2 = .ok (.iconst 0, 1) := by decide +kernel
theorem dX2_townsHeld_3 : decode cX2_townsHeld 3 = .ok (.istore 4, 2) := by decide +kernel
theorem dX2_townsHeld_5 : decode cX2_townsHeld 5 = .ok (.iload 4, 2) := by decide +kernel
theorem dX2_townsHeld_7 : decode cX2_townsHeld 7 = .ok (.aload_n 0, 1) := by decide +kernel
theorem dX2_townsHeld_8 : decode cX2_townsHeld 8 = .ok (.getfield 24, 3) := by decide +kernel
theorem dX2_townsHeld_11 : decode cX2_townsHeld 11 = .ok (.if_icmp .ge 42, 3) := by decide +kernel
theorem dX2_townsHeld_14 : decode cX2_townsHeld 14 = .ok (.aload_n 0, 1) := by decide +kernel
theorem dX2_townsHeld_15 : decode cX2_townsHeld 15 = .ok (.iload_n 1, 1) := by decide +kernel
theorem dX2_townsHeld_16 : decode cX2_townsHeld 16 = .ok (.iload 4, 2) := by decide +kernel
theorem dX2_townsHeld_18 : decode cX2_townsHeld 18 = .ok (.invokevirtual 48, 3) := by decide +kernel
theorem dX2_townsHeld_21 : decode cX2_townsHeld 21 = .ok (.istore 5, 2) := by decide +kernel
theorem dX2_townsHeld_23 : decode cX2_townsHeld 23 = .ok (.aload_n 0, 1) := by decide +kernel
theorem dX2_townsHeld_24 : decode cX2_townsHeld 24 = .ok (.iload 4, 2) := by decide +kernel
theorem dX2_townsHeld_26 : decode cX2_townsHeld 26 = .ok (.invokevirtual 54, 3) := by decide +kernel
theorem dX2_townsHeld_29 : decode cX2_townsHeld 29 = .ok (.iload_n 2, 1) := by decide +kernel
theorem dX2_townsHeld_30 : decode cX2_townsHeld 30 = .ok (.if_icmp .ne 17, 3) := by decide +kernel
theorem dX2_townsHeld_33 : decode cX2_townsHeld 33 = .ok (.iload 5, 2) := by decide +kernel
theorem dX2_townsHeld_35 : decode cX2_townsHeld 35 = .ok (.iconst (-1), 1) := by decide +kernel
theorem dX2_townsHeld_36 : decode cX2_townsHeld 36 = .ok (.if_icmp .eq 11, 3) := by decide +kernel
theorem dX2_townsHeld_39 : decode cX2_townsHeld 39 = .ok (.iload_n 3, 1) := by decide +kernel
theorem dX2_townsHeld_40 : decode cX2_townsHeld 40 = .ok (.iload 5, 2) := by decide +kernel
theorem dX2_townsHeld_42 : decode cX2_townsHeld 42 = .ok (.invokestatic 58, 3) := by decide +kernel
theorem dX2_townsHeld_45 : decode cX2_townsHeld 45 = .ok (.ior, 1) := by decide +kernel
theorem dX2_townsHeld_46 : decode cX2_townsHeld 46 = .ok (.istore_n 3, 1) := by decide +kernel
theorem dX2_townsHeld_47 : decode cX2_townsHeld 47 = .ok (.iinc 4 1, 3) := by decide +kernel
theorem dX2_townsHeld_50 : decode cX2_townsHeld 50 = .ok (.goto (-45), 3) := by decide +kernel
theorem dX2_townsHeld_53 : decode cX2_townsHeld 53 = .ok (.iload_n 3, 1) := by decide +kernel
theorem dX2_townsHeld_54 : decode cX2_townsHeld 54 = .ok (.ireturn, 1) := by decide +kernel
theorem dX2_isKept_0 : decode cX2_isKept 0 = .ok (.iload_n 0, 1) := by decide +kernel
theorem dX2_isKept_1 : decode cX2_isKept 1 = .ok (.ifCond .lt 23, 3) := by decide +kernel
theorem dX2_isKept_4 : decode cX2_isKept 4 = .ok (.iload_n 0, 1) := by decide +kernel
theorem dX2_isKept_5 : decode cX2_isKept 5 = .ok (.bipush 22, 2) := by decide +kernel
theorem dX2_isKept_7 : decode cX2_isKept 7 = .ok (.if_icmp .ge 17, 3) := by decide +kernel
theorem dX2_isKept_10 : decode cX2_isKept 10 = .ok (.iload_n 1, 1) := by decide +kernel
theorem dX2_isKept_11 : decode cX2_isKept 11 = .ok (.ifCond .lt 13, 3) := by decide +kernel
theorem dX2_isKept_14 : decode cX2_isKept 14 = .ok (.iload_n 1, 1) := by decide +kernel
theorem dX2_isKept_15 : decode cX2_isKept 15 = .ok (.bipush 12, 2) := by decide +kernel
theorem dX2_isKept_17 : decode cX2_isKept 17 = .ok (.if_icmp .ge 7, 3) := by decide +kernel
theorem dX2_isKept_20 : decode cX2_isKept 20 = .ok (.iconst 1, 1) := by decide +kernel
theorem dX2_isKept_21 : decode cX2_isKept 21 = .ok (.goto 4, 3) := by decide +kernel
theorem dX2_isKept_24 : decode cX2_isKept 24 = .ok (.iconst 0, 1) := by decide +kernel
theorem dX2_isKept_25 : decode cX2_isKept 25 = .ok (.ireturn, 1) := by decide +kernel
theorem dX2_index_0 : decode cX2_index 0 = .ok (.iload_n 0, 1) := by decide +kernel
theorem dX2_index_1 : decode cX2_index 1 = .ok (.bipush 12, 2) := by decide +kernel
theorem dX2_index_3 : decode cX2_index 3 = .ok (.imul, 1) := by decide +kernel
theorem dX2_index_4 : decode cX2_index 4 = .ok (.iload_n 1, 1) := by decide +kernel
theorem dX2_index_5 : decode cX2_index 5 = .ok (.iadd, 1) := by decide +kernel
theorem dX2_index_6 : decode cX2_index 6 = .ok (.ireturn, 1) := by decide +kernel
end
section
set_option maxRecDepth 20000 in
theorem ggX3_init_X0_init : GoodIn wsX3_init wsX0_init := goodIn_r _ [22, 23, 2, 3, 8, 24, 25, 26, 41, 42, 43] (by decide +kernel) (by decide +kernel)
set_option maxRecDepth 20000 in
theorem gX3_init_X0_init_n11 : GoodIn wsX3_init (wsX0_init) := ggX3_init_X0_init
set_option maxRecDepth 20000 in
theorem ggX3_init_X2_init : GoodIn wsX3_init wsX2_init := goodIn_r _ [28, 29, 2, 3, 8, 30, 31, 32, 33, 34, 51, 52, 53, 54, 55] (by decide +kernel) (by decide +kernel)
set_option maxRecDepth 20000 in
theorem gX3_init_X2_init_n22 : GoodIn wsX3_init (wsX2_init) := ggX3_init_X2_init
set_option maxRecDepth 20000 in
theorem ggX3_init_X1_init : GoodIn wsX3_init wsX1_init := goodIn_r _ [36, 37, 2, 3, 8, 38, 39, 40, 56, 57, 58] (by decide +kernel) (by decide +kernel)
set_option maxRecDepth 20000 in
theorem gX3_init_X1_init_n35 : GoodIn wsX3_init (wsX1_init) := ggX3_init_X1_init
theorem dX3_init_0 : decode cX3_init 0 = .ok (.aload_n 0, 1) := by decide +kernel
theorem dX3_init_1 : decode cX3_init 1 = .ok (.invokespecial 3, 3) := by decide +kernel
theorem dX3_init_4 : decode cX3_init 4 = .ok (.aload_n 0, 1) := by decide +kernel
theorem dX3_init_5 : decode cX3_init 5 = .ok (.new 9, 3) := by decide +kernel
theorem dX3_init_8 : decode cX3_init 8 = .ok (.dup, 1) := by decide +kernel
theorem dX3_init_9 : decode cX3_init 9 = .ok (.invokespecial 11, 3) := by decide +kernel
theorem dX3_init_12 : decode cX3_init 12 = .ok (.putfield 12, 3) := by decide +kernel
theorem dX3_init_15 : decode cX3_init 15 = .ok (.aload_n 0, 1) := by decide +kernel
theorem dX3_init_16 : decode cX3_init 16 = .ok (.iconst 2, 1) := by decide +kernel
theorem dX3_init_17 : decode cX3_init 17 = .ok (.newarray .int, 2) := by decide +kernel
theorem dX3_init_19 : decode cX3_init 19 = .ok (.putfield 16, 3) := by decide +kernel
theorem dX3_init_22 : decode cX3_init 22 = .ok (.aload_n 0, 1) := by decide +kernel
theorem dX3_init_23 : decode cX3_init 23 = .ok (.new 20, 3) := by decide +kernel
theorem dX3_init_26 : decode cX3_init 26 = .ok (.dup, 1) := by decide +kernel
theorem dX3_init_27 : decode cX3_init 27 = .ok (.invokespecial 22, 3) := by decide +kernel
theorem dX3_init_30 : decode cX3_init 30 = .ok (.putfield 23, 3) := by decide +kernel
theorem dX3_init_33 : decode cX3_init 33 = .ok (.aload_n 0, 1) := by decide +kernel
theorem dX3_init_34 : decode cX3_init 34 = .ok (.bipush 20, 2) := by decide +kernel
theorem dX3_init_36 : decode cX3_init 36 = .ok (.newarray .int, 2) := by decide +kernel
theorem dX3_init_38 : decode cX3_init 38 = .ok (.putfield 27, 3) := by decide +kernel
theorem dX3_init_41 : decode cX3_init 41 = .ok (.aload_n 0, 1) := by decide +kernel
theorem dX3_init_42 : decode cX3_init 42 = .ok (.bipush 20, 2) := by decide +kernel
theorem dX3_init_44 : decode cX3_init 44 = .ok (.newarray .int, 2) := by decide +kernel
theorem dX3_init_46 : decode cX3_init 46 = .ok (.putfield 30, 3) := by decide +kernel
theorem dX3_init_49 : decode cX3_init 49 = .ok (.aload_n 0, 1) := by decide +kernel
theorem dX3_init_50 : decode cX3_init 50 = .ok (.new 33, 3) := by decide +kernel
theorem dX3_init_53 : decode cX3_init 53 = .ok (.dup, 1) := by decide +kernel
theorem dX3_init_54 : decode cX3_init 54 = .ok (.invokespecial 35, 3) := by decide +kernel
theorem dX3_init_57 : decode cX3_init 57 = .ok (.putfield 36, 3) := by decide +kernel
theorem dX3_init_60 : decode cX3_init 60 = .ok (.aload_n 0, 1) := by decide +kernel
theorem dX3_init_61 : decode cX3_init 61 = .ok (.iconst 0, 1) := by decide +kernel
theorem dX3_init_62 : decode cX3_init 62 = .ok (.putfield 40, 3) := by decide +kernel
theorem dX3_init_65 : decode cX3_init 65 = .ok (.aload_n 0, 1) := by decide +kernel
theorem dX3_init_66 : decode cX3_init 66 = .ok (.getfield 16, 3) := by decide +kernel
theorem dX3_init_69 : decode cX3_init 69 = .ok (.iconst 1, 1) := by decide +kernel
theorem dX3_init_70 : decode cX3_init 70 = .ok (.bipush 9, 2) := by decide +kernel
theorem dX3_init_72 : decode cX3_init 72 = .ok (.iastore, 1) := by decide +kernel
theorem dX3_init_73 : decode cX3_init 73 = .ok (.return_, 1) := by decide +kernel
set_option maxRecDepth 20000 in
theorem ggX3_addRoad_X3_below : GoodIn wsX3_addRoad wsX3_below := goodIn_r _ [10] (by decide +kernel) (by decide +kernel)
set_option maxRecDepth 20000 in
theorem gX3_addRoad_X3_below : GoodIn wsX3_addRoad (va_wsS RX3 44 yX3_below wsX3_below) := goodIn_app (goodIn_of _ (by decide +kernel)) ggX3_addRoad_X3_below
set_option maxRecDepth 20000 in
theorem ggX3_addRoad_X0_joins : GoodIn wsX3_addRoad wsX0_joins := goodIn_r _ [15, 16, 17, 18, 14, 19, 20, 21, 8, 9, 10, 22, 23, 24, 25, 26, 43, 44, 45] (by decide +kernel) (by decide +kernel)
set_option maxRecDepth 20000 in
theorem gX3_addRoad_X0_joins : GoodIn wsX3_addRoad (wsV RX3 55 RX0 yX0_joins wsX0_joins) := goodIn_app (goodIn_of _ (by decide +kernel)) ggX3_addRoad_X0_joins
set_option maxRecDepth 20000 in
theorem ggX3_addRoad_X0_roads : GoodIn wsX3_addRoad wsX0_roads := goodIn_r _ [30, 31, 43, 44, 45] (by decide +kernel) (by decide +kernel)
set_option maxRecDepth 20000 in
theorem gX3_addRoad_X0_roads : GoodIn wsX3_addRoad (wsV RX3 58 RX0 yX0_roads wsX0_roads) := goodIn_app (goodIn_of _ (by decide +kernel)) ggX3_addRoad_X0_roads
set_option maxRecDepth 20000 in
theorem ggX3_addRoad_X0_join : GoodIn wsX3_addRoad wsX0_join := goodIn_r _ [35, 20, 21, 31, 8, 9, 10, 25, 26, 43, 44, 45] (by decide +kernel) (by decide +kernel)
set_option maxRecDepth 20000 in
theorem gX3_addRoad_X0_join : GoodIn wsX3_addRoad (wsV RX3 67 RX0 yX0_join wsX0_join) := goodIn_app (goodIn_of _ (by decide +kernel)) ggX3_addRoad_X0_join
theorem dX3_addRoad_0 : decode cX3_addRoad 0 = .ok (.iload_n 1, 1) := by decide +kernel
theorem dX3_addRoad_1 : decode cX3_addRoad 1 = .ok (.bipush 10, 2) := by decide +kernel
theorem dX3_addRoad_3 : decode cX3_addRoad 3 = .ok (.invokestatic 44, 3) := by decide +kernel
theorem dX3_addRoad_6 : decode cX3_addRoad 6 = .ok (.ifCond .eq 17, 3) := by decide +kernel
theorem dX3_addRoad_9 : decode cX3_addRoad 9 = .ok (.iload_n 2, 1) := by decide +kernel
theorem dX3_addRoad_10 : decode cX3_addRoad 10 = .ok (.bipush 10, 2) := by decide +kernel
theorem dX3_addRoad_12 : decode cX3_addRoad 12 = .ok (.invokestatic 44, 3) := by decide +kernel
theorem dX3_addRoad_15 : decode cX3_addRoad 15 = .ok (.ifCond .eq 8, 3) := by decide +kernel
theorem dX3_addRoad_18 : decode cX3_addRoad 18 = .ok (.iload_n 1, 1) := by decide +kernel
theorem dX3_addRoad_19 : decode cX3_addRoad 19 = .ok (.iload_n 2, 1) := by decide +kernel
theorem dX3_addRoad_20 : decode cX3_addRoad 20 = .ok (.if_icmp .ne 13, 3) := by decide +kernel
theorem dX3_addRoad_23 : decode cX3_addRoad 23 = .ok (.new 48, 3) := by decide +kernel
theorem dX3_addRoad_26 : decode cX3_addRoad 26 = .ok (.dup, 1) := by decide +kernel
theorem dX3_addRoad_27 : decode cX3_addRoad 27 = .ok (.ldc 50, 2) := by decide +kernel
theorem dX3_addRoad_29 : decode cX3_addRoad 29 = .ok (.invokespecial 52, 3) := by decide +kernel
theorem dX3_addRoad_32 : decode cX3_addRoad 32 = .ok (.athrow, 1) := by decide +kernel
theorem dX3_addRoad_33 : decode cX3_addRoad 33 = .ok (.aload_n 0, 1) := by decide +kernel
theorem dX3_addRoad_34 : decode cX3_addRoad 34 = .ok (.getfield 40, 3) := by decide +kernel
theorem dX3_addRoad_37 : decode cX3_addRoad 37 = .ok (.ifCond .gt 27, 3) := by decide +kernel
theorem dX3_addRoad_40 : decode cX3_addRoad 40 = .ok (.aload_n 0, 1) := by decide +kernel
theorem dX3_addRoad_41 : decode cX3_addRoad 41 = .ok (.getfield 12, 3) := by decide +kernel
theorem dX3_addRoad_44 : decode cX3_addRoad 44 = .ok (.iload_n 1, 1) := by decide +kernel
theorem dX3_addRoad_45 : decode cX3_addRoad 45 = .ok (.iload_n 2, 1) := by decide +kernel
theorem dX3_addRoad_46 : decode cX3_addRoad 46 = .ok (.invokevirtual 55, 3) := by decide +kernel
theorem dX3_addRoad_49 : decode cX3_addRoad 49 = .ok (.ifCond .ne 15, 3) := by decide +kernel
theorem dX3_addRoad_52 : decode cX3_addRoad 52 = .ok (.aload_n 0, 1) := by decide +kernel
theorem dX3_addRoad_53 : decode cX3_addRoad 53 = .ok (.getfield 12, 3) := by decide +kernel
theorem dX3_addRoad_56 : decode cX3_addRoad 56 = .ok (.invokevirtual 58, 3) := by decide +kernel
theorem dX3_addRoad_59 : decode cX3_addRoad 59 = .ok (.bipush 15, 2) := by decide +kernel
theorem dX3_addRoad_61 : decode cX3_addRoad 61 = .ok (.if_icmp .lt 13, 3) := by decide +kernel
theorem dX3_addRoad_64 : decode cX3_addRoad 64 = .ok (.new 62, 3) := by decide +kernel
theorem dX3_addRoad_67 : decode cX3_addRoad 67 = .ok (.dup, 1) := by decide +kernel
theorem dX3_addRoad_68 : decode cX3_addRoad 68 = .ok (.ldc 64, 2) := by decide +kernel
theorem dX3_addRoad_70 : decode cX3_addRoad 70 = .ok (.invokespecial 66, 3) := by decide +kernel
theorem dX3_addRoad_73 : decode cX3_addRoad 73 = .ok (.athrow, 1) := by decide +kernel
theorem dX3_addRoad_74 : decode cX3_addRoad 74 = .ok (.aload_n 0, 1) := by decide +kernel
theorem dX3_addRoad_75 : decode cX3_addRoad 75 = .ok (.getfield 12, 3) := by decide +kernel
theorem dX3_addRoad_78 : decode cX3_addRoad 78 = .ok (.iload_n 1, 1) := by decide +kernel
theorem dX3_addRoad_79 : decode cX3_addRoad 79 = .ok (.iload_n 2, 1) := by decide +kernel
theorem dX3_addRoad_80 : decode cX3_addRoad 80 = .ok (.iload_n 3, 1) := by decide +kernel
theorem dX3_addRoad_81 : decode cX3_addRoad 81 = .ok (.invokevirtual 67, 3) := by decide +kernel
theorem dX3_addRoad_84 : decode cX3_addRoad 84 = .ok (.aload_n 0, 1) := by decide +kernel
theorem dX3_addRoad_85 : decode cX3_addRoad 85 = .ok (.getfield 12, 3) := by decide +kernel
theorem dX3_addRoad_88 : decode cX3_addRoad 88 = .ok (.invokevirtual 58, 3) := by decide +kernel
theorem dX3_addRoad_91 : decode cX3_addRoad 91 = .ok (.ireturn, 1) := by decide +kernel
set_option maxRecDepth 20000 in
theorem ggX3_setDepot_X3_below : GoodIn wsX3_setDepot wsX3_below := goodIn_r _ [10] (by decide +kernel) (by decide +kernel)
set_option maxRecDepth 20000 in
theorem gX3_setDepot_X3_below : GoodIn wsX3_setDepot (va_wsS RX3 44 yX3_below wsX3_below) := goodIn_app (goodIn_of _ (by decide +kernel)) ggX3_setDepot_X3_below
theorem dX3_setDepot_0 : decode cX3_setDepot 0 = .ok (.iload_n 1, 1) := by decide +kernel
theorem dX3_setDepot_1 : decode cX3_setDepot 1 = .ok (.iconst 2, 1) := by decide +kernel
theorem dX3_setDepot_2 : decode cX3_setDepot 2 = .ok (.invokestatic 44, 3) := by decide +kernel
theorem dX3_setDepot_5 : decode cX3_setDepot 5 = .ok (.ifCond .eq 12, 3) := by decide +kernel
theorem dX3_setDepot_8 : decode cX3_setDepot 8 = .ok (.iload_n 2, 1) := by decide +kernel
theorem dX3_setDepot_9 : decode cX3_setDepot 9 = .ok (.bipush 10, 2) := by decide +kernel
theorem dX3_setDepot_11 : decode cX3_setDepot 11 = .ok (.invokestatic 44, 3) := by decide +kernel
theorem dX3_setDepot_14 : decode cX3_setDepot 14 = .ok (.ifCond .ne 13, 3) := by decide +kernel
theorem dX3_setDepot_17 : decode cX3_setDepot 17 = .ok (.new 48, 3) := by decide +kernel
theorem dX3_setDepot_20 : decode cX3_setDepot 20 = .ok (.dup, 1) := by decide +kernel
theorem dX3_setDepot_21 : decode cX3_setDepot 21 = .ok (.ldc 71, 2) := by decide +kernel
theorem dX3_setDepot_23 : decode cX3_setDepot 23 = .ok (.invokespecial 52, 3) := by decide +kernel
theorem dX3_setDepot_26 : decode cX3_setDepot 26 = .ok (.athrow, 1) := by decide +kernel
theorem dX3_setDepot_27 : decode cX3_setDepot 27 = .ok (.aload_n 0, 1) := by decide +kernel
theorem dX3_setDepot_28 : decode cX3_setDepot 28 = .ok (.getfield 40, 3) := by decide +kernel
theorem dX3_setDepot_31 : decode cX3_setDepot 31 = .ok (.ifCond .le 13, 3) := by decide +kernel
theorem dX3_setDepot_34 : decode cX3_setDepot 34 = .ok (.new 62, 3) := by decide +kernel
theorem dX3_setDepot_37 : decode cX3_setDepot 37 = .ok (.dup, 1) := by decide +kernel
theorem dX3_setDepot_38 : decode cX3_setDepot 38 = .ok (.ldc 73, 2) := by decide +kernel
theorem dX3_setDepot_40 : decode cX3_setDepot 40 = .ok (.invokespecial 66, 3) := by decide +kernel
theorem dX3_setDepot_43 : decode cX3_setDepot 43 = .ok (.athrow, 1) := by decide +kernel
theorem dX3_setDepot_44 : decode cX3_setDepot 44 = .ok (.aload_n 0, 1) := by decide +kernel
theorem dX3_setDepot_45 : decode cX3_setDepot 45 = .ok (.getfield 16, 3) := by decide +kernel
theorem dX3_setDepot_48 : decode cX3_setDepot 48 = .ok (.iload_n 1, 1) := by decide +kernel
theorem dX3_setDepot_49 : decode cX3_setDepot 49 = .ok (.iaload, 1) := by decide +kernel
theorem dX3_setDepot_50 : decode cX3_setDepot 50 = .ok (.istore_n 3, 1) := by decide +kernel
theorem dX3_setDepot_51 : decode cX3_setDepot 51 = .ok (.aload_n 0, 1) := by decide +kernel
theorem dX3_setDepot_52 : decode cX3_setDepot 52 = .ok (.getfield 16, 3) := by decide +kernel
theorem dX3_setDepot_55 : decode cX3_setDepot 55 = .ok (.iload_n 1, 1) := by decide +kernel
theorem dX3_setDepot_56 : decode cX3_setDepot 56 = .ok (.iload_n 2, 1) := by decide +kernel
theorem dX3_setDepot_57 : decode cX3_setDepot 57 = .ok (.iastore, 1) := by decide +kernel
theorem dX3_setDepot_58 : decode cX3_setDepot 58 = .ok (.iload_n 3, 1) := by decide +kernel
theorem dX3_setDepot_59 : decode cX3_setDepot 59 = .ok (.ireturn, 1) := by decide +kernel
set_option maxRecDepth 20000 in
theorem ggX3_addUnit_X3_below : GoodIn wsX3_addUnit wsX3_below := goodIn_r _ [10] (by decide +kernel) (by decide +kernel)
set_option maxRecDepth 20000 in
theorem gX3_addUnit_X3_below : GoodIn wsX3_addUnit (va_wsS RX3 44 yX3_below wsX3_below) := goodIn_app (goodIn_of _ (by decide +kernel)) ggX3_addUnit_X3_below
set_option maxRecDepth 20000 in
theorem ggX3_addUnit_X3_opponent : GoodIn wsX3_addUnit wsX3_opponent := goodIn_r _ [13] (by decide +kernel) (by decide +kernel)
set_option maxRecDepth 20000 in
theorem gX3_addUnit_X3_opponent : GoodIn wsX3_addUnit (va_wsS RX3 77 yX3_opponent wsX3_opponent) := goodIn_app (goodIn_of _ (by decide +kernel)) ggX3_addUnit_X3_opponent
set_option maxRecDepth 20000 in
theorem ggX3_addUnit_X2_townsHeld : GoodIn wsX3_addUnit wsX2_townsHeld := goodIn_r _ [18, 19, 20, 21, 22, 17, 23, 24, 25, 26, 27, 28, 29, 30, 31, 32, 33, 34, 35, 8, 9, 10, 36, 37, 66, 67, 68, 69, 70] (by decide +kernel) (by decide +kernel)
set_option maxRecDepth 20000 in
theorem gX3_addUnit_X2_townsHeld : GoodIn wsX3_addUnit (wsV RX3 81 RX2 yX2_townsHeld wsX2_townsHeld) := goodIn_app (goodIn_of _ (by decide +kernel)) ggX3_addUnit_X2_townsHeld
set_option maxRecDepth 20000 in
theorem ggX3_addUnit_X3_has : GoodIn wsX3_addUnit wsX3_has := goodIn_r _ [40, 41, 36, 9, 37] (by decide +kernel) (by decide +kernel)
set_option maxRecDepth 20000 in
theorem gX3_addUnit_X3_has : GoodIn wsX3_addUnit (va_wsS RX3 85 yX3_has wsX3_has) := goodIn_app (goodIn_of _ (by decide +kernel)) ggX3_addUnit_X3_has
set_option maxRecDepth 20000 in
theorem ggX3_addUnit_X2_count : GoodIn wsX3_addUnit wsX2_count := goodIn_r _ [45, 19, 66, 67, 68, 69, 70] (by decide +kernel) (by decide +kernel)
set_option maxRecDepth 20000 in
theorem gX3_addUnit_X2_count : GoodIn wsX3_addUnit (wsV RX3 88 RX2 yX2_count wsX2_count) := goodIn_app (goodIn_of _ (by decide +kernel)) ggX3_addUnit_X2_count
set_option maxRecDepth 20000 in
theorem ggX3_addUnit_X2_add : GoodIn wsX3_addUnit wsX2_add := goodIn_r _ [49, 19, 35, 8, 9, 10, 50, 51, 52, 17, 53, 24, 54, 55, 56, 57, 58, 25, 26, 27, 28, 29, 30, 66, 67, 68, 69, 70] (by decide +kernel) (by decide +kernel)
set_option maxRecDepth 20000 in
theorem gX3_addUnit_X2_add : GoodIn wsX3_addUnit (wsV RX3 93 RX2 yX2_add wsX2_add) := goodIn_app (goodIn_of _ (by decide +kernel)) ggX3_addUnit_X2_add
theorem dX3_addUnit_0 : decode cX3_addUnit 0 = .ok (.iload_n 1, 1) := by decide +kernel
theorem dX3_addUnit_1 : decode cX3_addUnit 1 = .ok (.iconst 2, 1) := by decide +kernel
theorem dX3_addUnit_2 : decode cX3_addUnit 2 = .ok (.invokestatic 44, 3) := by decide +kernel
theorem dX3_addUnit_5 : decode cX3_addUnit 5 = .ok (.ifCond .eq 23, 3) := by decide +kernel
theorem dX3_addUnit_8 : decode cX3_addUnit 8 = .ok (.iload_n 2, 1) := by decide +kernel
theorem dX3_addUnit_9 : decode cX3_addUnit 9 = .ok (.bipush 10, 2) := by decide +kernel
theorem dX3_addUnit_11 : decode cX3_addUnit 11 = .ok (.invokestatic 44, 3) := by decide +kernel
theorem dX3_addUnit_14 : decode cX3_addUnit 14 = .ok (.ifCond .eq 14, 3) := by decide +kernel
theorem dX3_addUnit_17 : decode cX3_addUnit 17 = .ok (.iload_n 3, 1) := by decide +kernel
theorem dX3_addUnit_18 : decode cX3_addUnit 18 = .ok (.iconst 1, 1) := by decide +kernel
theorem dX3_addUnit_19 : decode cX3_addUnit 19 = .ok (.if_icmp .lt 9, 3) := by decide +kernel
theorem dX3_addUnit_22 : decode cX3_addUnit 22 = .ok (.iload_n 3, 1) := by decide +kernel
theorem dX3_addUnit_23 : decode cX3_addUnit 23 = .ok (.bipush 9, 2) := by decide +kernel
theorem dX3_addUnit_25 : decode cX3_addUnit 25 = .ok (.if_icmp .le 13, 3) := by decide +kernel
theorem dX3_addUnit_28 : decode cX3_addUnit 28 = .ok (.new 48, 3) := by decide +kernel
theorem dX3_addUnit_31 : decode cX3_addUnit 31 = .ok (.dup, 1) := by decide +kernel
theorem dX3_addUnit_32 : decode cX3_addUnit 32 = .ok (.ldc 75, 2) := by decide +kernel
theorem dX3_addUnit_34 : decode cX3_addUnit 34 = .ok (.invokespecial 52, 3) := by decide +kernel
theorem dX3_addUnit_37 : decode cX3_addUnit 37 = .ok (.athrow, 1) := by decide +kernel
theorem dX3_addUnit_38 : decode cX3_addUnit 38 = .ok (.aload_n 0, 1) := by decide +kernel
theorem dX3_addUnit_39 : decode cX3_addUnit 39 = .ok (.getfield 40, 3) := by decide +kernel
theorem dX3_addUnit_42 : decode cX3_addUnit 42 = .ok (.ifCond .gt 37, 3) := by decide +kernel
theorem dX3_addUnit_45 : decode cX3_addUnit 45 = .ok (.aload_n 0, 1) := by decide +kernel
theorem dX3_addUnit_46 : decode cX3_addUnit 46 = .ok (.getfield 23, 3) := by decide +kernel
theorem dX3_addUnit_49 : decode cX3_addUnit 49 = .ok (.aload_n 0, 1) := by decide +kernel
theorem dX3_addUnit_50 : decode cX3_addUnit 50 = .ok (.getfield 40, 3) := by decide +kernel
theorem dX3_addUnit_53 : decode cX3_addUnit 53 = .ok (.iload_n 1, 1) := by decide +kernel
theorem dX3_addUnit_54 : decode cX3_addUnit 54 = .ok (.invokestatic 77, 3) := by decide +kernel
theorem dX3_addUnit_57 : decode cX3_addUnit 57 = .ok (.invokevirtual 81, 3) := by decide +kernel
theorem dX3_addUnit_60 : decode cX3_addUnit 60 = .ok (.iload_n 2, 1) := by decide +kernel
theorem dX3_addUnit_61 : decode cX3_addUnit 61 = .ok (.invokestatic 85, 3) := by decide +kernel
theorem dX3_addUnit_64 : decode cX3_addUnit 64 = .ok (.ifCond .ne 15, 3) := by decide +kernel
theorem dX3_addUnit_67 : decode cX3_addUnit 67 = .ok (.aload_n 0, 1) := by decide +kernel
theorem dX3_addUnit_68 : decode cX3_addUnit 68 = .ok (.getfield 23, 3) := by decide +kernel
theorem dX3_addUnit_71 : decode cX3_addUnit 71 = .ok (.invokevirtual 88, 3) := by decide +kernel
theorem dX3_addUnit_74 : decode cX3_addUnit 74 = .ok (.bipush 12, 2) := by decide +kernel
theorem dX3_addUnit_76 : decode cX3_addUnit 76 = .ok (.if_icmp .lt 13, 3) := by decide +kernel
theorem dX3_addUnit_79 : decode cX3_addUnit 79 = .ok (.new 62, 3) := by decide +kernel
theorem dX3_addUnit_82 : decode cX3_addUnit 82 = .ok (.dup, 1) := by decide +kernel
theorem dX3_addUnit_83 : decode cX3_addUnit 83 = .ok (.ldc 91, 2) := by decide +kernel
theorem dX3_addUnit_85 : decode cX3_addUnit 85 = .ok (.invokespecial 66, 3) := by decide +kernel
theorem dX3_addUnit_88 : decode cX3_addUnit 88 = .ok (.athrow, 1) := by decide +kernel
theorem dX3_addUnit_89 : decode cX3_addUnit 89 = .ok (.aload_n 0, 1) := by decide +kernel
theorem dX3_addUnit_90 : decode cX3_addUnit 90 = .ok (.getfield 23, 3) := by decide +kernel
theorem dX3_addUnit_93 : decode cX3_addUnit 93 = .ok (.iload_n 1, 1) := by decide +kernel
theorem dX3_addUnit_94 : decode cX3_addUnit 94 = .ok (.iload_n 2, 1) := by decide +kernel
theorem dX3_addUnit_95 : decode cX3_addUnit 95 = .ok (.iload_n 3, 1) := by decide +kernel
theorem dX3_addUnit_96 : decode cX3_addUnit 96 = .ok (.invokevirtual 93, 3) := by decide +kernel
theorem dX3_addUnit_99 : decode cX3_addUnit 99 = .ok (.ireturn, 1) := by decide +kernel
set_option maxRecDepth 20000 in
theorem ggX3_order_X3_checkUnit : GoodIn wsX3_order wsX3_checkUnit := goodIn_ca (goodIn_r _ [9, 10, 11, 3, 12, 13, 14, 15, 16, 17, 18, 19, 8, 20, 36, 37, 38, 39, 40, 41, 42, 43, 44, 45, 46, 47] (by decide +kernel) (by decide +kernel)) (goodIn_sub (fun _ h => List.mem_cons_of_mem _ (List.mem_append_right _ h)) (by decide +kernel))
set_option maxRecDepth 20000 in
theorem gX3_order_X3_checkUnit : GoodIn wsX3_order (wsV RX3 97 RX3 yX3_checkUnit wsX3_checkUnit) := goodIn_app (goodIn_of _ (by decide +kernel)) ggX3_order_X3_checkUnit
set_option maxRecDepth 20000 in
theorem ggX3_order_X3_below : GoodIn wsX3_order wsX3_below := goodIn_r _ [20] (by decide +kernel) (by decide +kernel)
set_option maxRecDepth 20000 in
theorem gX3_order_X3_below : GoodIn wsX3_order (va_wsS RX3 44 yX3_below wsX3_below) := goodIn_app (goodIn_of _ (by decide +kernel)) ggX3_order_X3_below
set_option maxRecDepth 20000 in
theorem ggX3_order_X2_orderFor : GoodIn wsX3_order wsX2_orderFor := goodIn_r _ [24, 25, 26, 27, 15, 28, 29, 30, 31, 43, 44, 45, 46, 47] (by decide +kernel) (by decide +kernel)
set_option maxRecDepth 20000 in
theorem gX3_order_X2_orderFor : GoodIn wsX3_order (wsV RX3 103 RX2 yX2_orderFor wsX2_orderFor) := goodIn_app (goodIn_of _ (by decide +kernel)) ggX3_order_X2_orderFor
set_option maxRecDepth 20000 in
theorem ggX3_order_X2_giveOrder : GoodIn wsX3_order wsX2_giveOrder := goodIn_r _ [35, 25, 26, 27, 15, 28, 29, 30, 31, 43, 44, 45, 46, 47] (by decide +kernel) (by decide +kernel)
set_option maxRecDepth 20000 in
theorem gX3_order_X2_giveOrder : GoodIn wsX3_order (wsV RX3 106 RX2 yX2_giveOrder wsX2_giveOrder) := goodIn_app (goodIn_of _ (by decide +kernel)) ggX3_order_X2_giveOrder
theorem dX3_order_0 : decode cX3_order 0 = .ok (.aload_n 0, 1) := by decide +kernel
theorem dX3_order_1 : decode cX3_order 1 = .ok (.iload_n 1, 1) := by decide +kernel
theorem dX3_order_2 : decode cX3_order 2 = .ok (.invokevirtual 97, 3) := by decide +kernel
theorem dX3_order_5 : decode cX3_order 5 = .ok (.iload_n 2, 1) := by decide +kernel
theorem dX3_order_6 : decode cX3_order 6 = .ok (.iconst (-1), 1) := by decide +kernel
theorem dX3_order_7 : decode cX3_order 7 = .ok (.if_icmp .eq 22, 3) := by decide +kernel
theorem dX3_order_10 : decode cX3_order 10 = .ok (.iload_n 2, 1) := by decide +kernel
theorem dX3_order_11 : decode cX3_order 11 = .ok (.bipush 10, 2) := by decide +kernel
theorem dX3_order_13 : decode cX3_order 13 = .ok (.invokestatic 44, 3) := by decide +kernel
theorem dX3_order_16 : decode cX3_order 16 = .ok (.ifCond .ne 13, 3) := by decide +kernel
theorem dX3_order_19 : decode cX3_order 19 = .ok (.new 48, 3) := by decide +kernel
theorem dX3_order_22 : decode cX3_order 22 = .ok (.dup, 1) := by decide +kernel
theorem dX3_order_23 : decode cX3_order 23 = .ok (.ldc 101, 2) := by decide +kernel
theorem dX3_order_25 : decode cX3_order 25 = .ok (.invokespecial 52, 3) := by decide +kernel
theorem dX3_order_28 : decode cX3_order 28 = .ok (.athrow, 1) := by decide +kernel
theorem dX3_order_29 : decode cX3_order 29 = .ok (.aload_n 0, 1) := by decide +kernel
theorem dX3_order_30 : decode cX3_order 30 = .ok (.getfield 23, 3) := by decide +kernel
theorem dX3_order_33 : decode cX3_order 33 = .ok (.aload_n 0, 1) := by decide +kernel
theorem dX3_order_34 : decode cX3_order 34 = .ok (.getfield 40, 3) := by decide +kernel
theorem dX3_order_37 : decode cX3_order 37 = .ok (.iload_n 1, 1) := by decide +kernel
theorem dX3_order_38 : decode cX3_order 38 = .ok (.invokevirtual 103, 3) := by decide +kernel
theorem dX3_order_41 : decode cX3_order 41 = .ok (.istore_n 3, 1) := by decide +kernel
theorem dX3_order_42 : decode cX3_order 42 = .ok (.aload_n 0, 1) := by decide +kernel
theorem dX3_order_43 : decode cX3_order 43 = .ok (.getfield 23, 3) := by decide +kernel
theorem dX3_order_46 : decode cX3_order 46 = .ok (.aload_n 0, 1) := by decide +kernel
theorem dX3_order_47 : decode cX3_order 47 = .ok (.getfield 40, 3) := by decide +kernel
theorem dX3_order_50 : decode cX3_order 50 = .ok (.iload_n 1, 1) := by decide +kernel
theorem dX3_order_51 : decode cX3_order 51 = .ok (.iload_n 2, 1) := by decide +kernel
theorem dX3_order_52 : decode cX3_order 52 = .ok (.invokevirtual 106, 3) := by decide +kernel
theorem dX3_order_55 : decode cX3_order 55 = .ok (.iload_n 3, 1) := by decide +kernel
theorem dX3_order_56 : decode cX3_order 56 = .ok (.ireturn, 1) := by decide +kernel
set_option maxRecDepth 20000 in
theorem ggX3_play_X3_checkWeather : GoodIn wsX3_play wsX3_checkWeather := goodIn_ca (goodIn_r _ [9, 10, 11, 12, 13, 8, 14] (by decide +kernel) (by decide +kernel)) (goodIn_sub (fun _ h => List.mem_cons_of_mem _ (List.mem_append_right _ h)) (by decide +kernel))
set_option maxRecDepth 20000 in
theorem gX3_play_X3_checkWeather : GoodIn wsX3_play (va_wsS RX3 110 yX3_checkWeather wsX3_checkWeather) := goodIn_app (goodIn_of _ (by decide +kernel)) ggX3_play_X3_checkWeather
set_option maxRecDepth 20000 in
theorem ggX3_play_X3_below : GoodIn wsX3_play wsX3_below := goodIn_r _ [14] (by decide +kernel) (by decide +kernel)
set_option maxRecDepth 20000 in
theorem gX3_play_X3_below : GoodIn wsX3_play (va_wsS RX3 44 yX3_below wsX3_below) := goodIn_app (goodIn_of _ (by decide +kernel)) ggX3_play_X3_below
set_option maxRecDepth 20000 in
theorem ggX3_play_X3_playFrom : GoodIn wsX3_play wsX3_playFrom := goodIn_r _ [18, 19, 20, 21, 22, 3, 4, 23, 24, 25, 26, 8, 27, 5, 28, 29, 30, 31, 32, 33, 12, 13, 14, 34, 35, 36, 37, 38, 39, 40, 41, 42, 43, 44, 45, 46, 47, 48, 49, 50, 51, 52, 53, 54, 55, 56, 57, 58, 59, 60, 61, 62, 63, 64, 65, 66, 67, 68, 69, 70, 71, 72, 73, 74, 75, 76, 77, 78, 79, 80, 81, 82, 83, 84, 85, 86, 87, 88, 89, 90, 91, 92, 93, 94, 95, 96, 97, 98, 99, 100, 101, 102, 103, 104, 105, 106, 107, 108, 109, 110, 111, 112, 113, 114, 115, 116, 117, 118, 119, 120, 121, 122, 123, 124, 125, 126, 127, 128, 133, 134, 135, 136, 137, 138, 139, 140, 141, 142, 143, 144, 145, 146, 147] (by decide +kernel) (by decide +kernel)
set_option maxRecDepth 20000 in
theorem gX3_play_X3_playFrom : GoodIn wsX3_play (wsV RX3 115 RX3 yX3_playFrom wsX3_playFrom) := goodIn_app (goodIn_of _ (by decide +kernel)) ggX3_play_X3_playFrom
set_option maxRecDepth 20000 in
theorem ggX3_play_X2_livingAt : GoodIn wsX3_play wsX2_livingAt := goodIn_r _ [132, 42, 43, 44, 45, 40, 46, 47, 48, 49, 50, 51, 52, 53, 140, 141, 142, 143, 144] (by decide +kernel) (by decide +kernel)
set_option maxRecDepth 20000 in
theorem gX3_play_X2_livingAt : GoodIn wsX3_play (wsV RX3 118 RX2 yX2_livingAt wsX2_livingAt) := goodIn_app (goodIn_of _ (by decide +kernel)) ggX3_play_X2_livingAt
theorem dX3_play_0 : decode cX3_play 0 = .ok (.iload_n 1, 1) := by decide +kernel
theorem dX3_play_1 : decode cX3_play 1 = .ok (.invokestatic 110, 3) := by decide +kernel
theorem dX3_play_4 : decode cX3_play 4 = .ok (.aload_n 0, 1) := by decide +kernel
theorem dX3_play_5 : decode cX3_play 5 = .ok (.getfield 40, 3) := by decide +kernel
theorem dX3_play_8 : decode cX3_play 8 = .ok (.bipush 20, 2) := by decide +kernel
theorem dX3_play_10 : decode cX3_play 10 = .ok (.invokestatic 44, 3) := by decide +kernel
theorem dX3_play_13 : decode cX3_play 13 = .ok (.ifCond .ne 13, 3) := by decide +kernel
theorem dX3_play_16 : decode cX3_play 16 = .ok (.new 62, 3) := by decide +kernel
theorem dX3_play_19 : decode cX3_play 19 = .ok (.dup, 1) := by decide +kernel
theorem dX3_play_20 : decode cX3_play 20 = .ok (.ldc 113, 2) := by decide +kernel
theorem dX3_play_22 : decode cX3_play 22 = .ok (.invokespecial 66, 3) := by decide +kernel
theorem dX3_play_25 : decode cX3_play 25 = .ok (.athrow, 1) := by decide +kernel
theorem dX3_play_26 : decode cX3_play 26 = .ok (.aload_n 0, 1) := by decide +kernel
theorem dX3_play_27 : decode cX3_play 27 = .ok (.getfield 40, 3) := by decide +kernel
theorem dX3_play_30 : decode cX3_play 30 = .ok (.istore_n 2, 1) := by decide +kernel
theorem dX3_play_31 : decode cX3_play 31 = .ok (.aload_n 0, 1) := by decide +kernel
theorem dX3_play_32 : decode cX3_play 32 = .ok (.getfield 27, 3) := by decide +kernel
theorem dX3_play_35 : decode cX3_play 35 = .ok (.iload_n 2, 1) := by decide +kernel
theorem dX3_play_36 : decode cX3_play 36 = .ok (.iload_n 1, 1) := by decide +kernel
theorem dX3_play_37 : decode cX3_play 37 = .ok (.iastore, 1) := by decide +kernel
theorem dX3_play_38 : decode cX3_play 38 = .ok (.aload_n 0, 1) := by decide +kernel
theorem dX3_play_39 : decode cX3_play 39 = .ok (.iload_n 2, 1) := by decide +kernel
theorem dX3_play_40 : decode cX3_play 40 = .ok (.iconst 1, 1) := by decide +kernel
theorem dX3_play_41 : decode cX3_play 41 = .ok (.iadd, 1) := by decide +kernel
theorem dX3_play_42 : decode cX3_play 42 = .ok (.putfield 40, 3) := by decide +kernel
theorem dX3_play_45 : decode cX3_play 45 = .ok (.aload_n 0, 1) := by decide +kernel
theorem dX3_play_46 : decode cX3_play 46 = .ok (.iload_n 2, 1) := by decide +kernel
theorem dX3_play_47 : decode cX3_play 47 = .ok (.invokevirtual 115, 3) := by decide +kernel
theorem dX3_play_50 : decode cX3_play 50 = .ok (.aload_n 0, 1) := by decide +kernel
theorem dX3_play_51 : decode cX3_play 51 = .ok (.getfield 23, 3) := by decide +kernel
theorem dX3_play_54 : decode cX3_play 54 = .ok (.iload_n 2, 1) := by decide +kernel
theorem dX3_play_55 : decode cX3_play 55 = .ok (.invokevirtual 118, 3) := by decide +kernel
theorem dX3_play_58 : decode cX3_play 58 = .ok (.aload_n 0, 1) := by decide +kernel
theorem dX3_play_59 : decode cX3_play 59 = .ok (.getfield 23, 3) := by decide +kernel
theorem dX3_play_62 : decode cX3_play 62 = .ok (.iload_n 2, 1) := by decide +kernel
theorem dX3_play_63 : decode cX3_play 63 = .ok (.iconst 1, 1) := by decide +kernel
theorem dX3_play_64 : decode cX3_play 64 = .ok (.iadd, 1) := by decide +kernel
theorem dX3_play_65 : decode cX3_play 65 = .ok (.invokevirtual 118, 3) := by decide +kernel
theorem dX3_play_68 : decode cX3_play 68 = .ok (.isub, 1) := by decide +kernel
theorem dX3_play_69 : decode cX3_play 69 = .ok (.ireturn, 1) := by decide +kernel
theorem dX3_played_0 : decode cX3_played 0 = .ok (.aload_n 0, 1) := by decide +kernel
theorem dX3_played_1 : decode cX3_played 1 = .ok (.getfield 40, 3) := by decide +kernel
theorem dX3_played_4 : decode cX3_played 4 = .ok (.ireturn, 1) := by decide +kernel
set_option maxRecDepth 20000 in
theorem ggX3_rule_X3_checkTurn : GoodIn wsX3_rule wsX3_checkTurn := goodIn_ca (goodIn_r _ [9, 10, 11, 4, 12, 13, 14, 15, 16, 17, 8, 18, 159, 160, 161, 162, 163, 164, 165] (by decide +kernel) (by decide +kernel)) (goodIn_sub (fun _ h => List.mem_cons_of_mem _ (List.mem_append_left _ (List.mem_append_right _ h))) (by decide +kernel))
set_option maxRecDepth 20000 in
theorem gX3_rule_X3_checkTurn : GoodIn wsX3_rule (wsV RX3 121 RX3 yX3_checkTurn wsX3_checkTurn) := goodIn_app (goodIn_of _ (by decide +kernel)) ggX3_rule_X3_checkTurn
set_option maxRecDepth 20000 in
theorem ggX3_rule_X3_checkWeather : GoodIn wsX3_rule wsX3_checkWeather := goodIn_ca (goodIn_r _ [21, 22, 23, 16, 17, 8, 18] (by decide +kernel) (by decide +kernel)) (goodIn_sub (fun _ h => List.mem_cons_of_mem _ (List.mem_append_right _ h)) (by decide +kernel))
set_option maxRecDepth 20000 in
theorem gX3_rule_X3_checkWeather : GoodIn wsX3_rule (va_wsS RX3 110 yX3_checkWeather wsX3_checkWeather) := goodIn_app (goodIn_of _ (by decide +kernel)) ggX3_rule_X3_checkWeather
set_option maxRecDepth 20000 in
theorem ggX3_rule_X1_isFull : GoodIn wsX3_rule wsX1_isFull := goodIn_r _ [28, 29, 166, 167, 168] (by decide +kernel) (by decide +kernel)
set_option maxRecDepth 20000 in
theorem gX3_rule_X1_isFull : GoodIn wsX3_rule (wsV RX3 124 RX1 yX1_isFull wsX1_isFull) := goodIn_app (goodIn_of _ (by decide +kernel)) ggX3_rule_X1_isFull
set_option maxRecDepth 20000 in
theorem ggX3_rule_X1_push : GoodIn wsX3_rule wsX1_push := goodIn_r _ [33, 29, 34, 35, 17, 8, 18, 166, 167, 168] (by decide +kernel) (by decide +kernel)
set_option maxRecDepth 20000 in
theorem gX3_rule_X1_push : GoodIn wsX3_rule (wsV RX3 128 RX1 yX1_push wsX1_push) := goodIn_app (goodIn_of _ (by decide +kernel)) ggX3_rule_X1_push
set_option maxRecDepth 20000 in
theorem ggX3_rule_X2_copyMoment : GoodIn wsX3_rule wsX2_copyMoment := goodIn_r _ [40, 41, 42, 43, 44, 39, 45, 46, 47, 48, 49, 50, 51, 52, 53, 54, 55, 56, 57, 58, 59, 60, 61, 62, 63, 14, 64, 169, 170, 171, 172, 173] (by decide +kernel) (by decide +kernel)
set_option maxRecDepth 20000 in
theorem gX3_rule_X2_copyMoment : GoodIn wsX3_rule (wsV RX3 132 RX2 yX2_copyMoment wsX2_copyMoment) := goodIn_app (goodIn_of _ (by decide +kernel)) ggX3_rule_X2_copyMoment
set_option maxRecDepth 20000 in
theorem ggX3_rule_X3_playFrom : GoodIn wsX3_rule wsX3_playFrom := goodIn_r _ [68, 69, 63, 14, 64, 4, 2, 70, 71, 72, 73, 8, 74, 3, 75, 76, 77, 78, 79, 80, 16, 17, 18, 81, 82, 83, 84, 85, 86, 39, 87, 41, 42, 43, 44, 45, 46, 47, 48, 49, 50, 51, 52, 88, 89, 90, 91, 92, 93, 94, 95, 96, 97, 98, 99, 100, 101, 102, 103, 104, 105, 106, 107, 108, 109, 110, 111, 112, 113, 114, 115, 116, 117, 118, 119, 120, 121, 122, 123, 124, 125, 126, 127, 128, 129, 130, 131, 132, 133, 134, 54, 55, 56, 57, 135, 59, 60, 61, 62, 136, 137, 138, 139, 140, 141, 142, 143, 144, 145, 146, 147, 148, 149, 150, 151, 152, 153, 154, 159, 160, 161, 162, 163, 164, 165, 169, 170, 171, 172, 173, 174, 175, 176] (by decide +kernel) (by decide +kernel)
set_option maxRecDepth 20000 in
theorem gX3_rule_X3_playFrom : GoodIn wsX3_rule (wsV RX3 115 RX3 yX3_playFrom wsX3_playFrom) := goodIn_app (goodIn_of _ (by decide +kernel)) ggX3_rule_X3_playFrom
set_option maxRecDepth 20000 in
theorem ggX3_rule_X2_differing : GoodIn wsX3_rule wsX2_differing := goodIn_r _ [158, 41, 42, 43, 44, 39, 45, 46, 47, 48, 49, 50, 51, 52, 53, 54, 55, 56, 57, 169, 170, 171, 172, 173] (by decide +kernel) (by decide +kernel)
set_option maxRecDepth 20000 in
theorem gX3_rule_X2_differing : GoodIn wsX3_rule (wsV RX3 135 RX2 yX2_differing wsX2_differing) := goodIn_app (goodIn_of _ (by decide +kernel)) ggX3_rule_X2_differing
theorem dX3_rule_0 : decode cX3_rule 0 = .ok (.aload_n 0, 1) := by decide +kernel
theorem dX3_rule_1 : decode cX3_rule 1 = .ok (.iload_n 1, 1) := by decide +kernel
theorem dX3_rule_2 : decode cX3_rule 2 = .ok (.invokevirtual 121, 3) := by decide +kernel
theorem dX3_rule_5 : decode cX3_rule 5 = .ok (.iload_n 2, 1) := by decide +kernel
theorem dX3_rule_6 : decode cX3_rule 6 = .ok (.invokestatic 110, 3) := by decide +kernel
theorem dX3_rule_9 : decode cX3_rule 9 = .ok (.aload_n 0, 1) := by decide +kernel
theorem dX3_rule_10 : decode cX3_rule 10 = .ok (.getfield 36, 3) := by decide +kernel
theorem dX3_rule_13 : decode cX3_rule 13 = .ok (.invokevirtual 124, 3) := by decide +kernel
theorem dX3_rule_16 : decode cX3_rule 16 = .ok (.ifCond .eq 5, 3) := by decide +kernel
theorem dX3_rule_19 : decode cX3_rule 19 = .ok (.iconst 0, 1) := by decide +kernel
theorem dX3_rule_20 : decode cX3_rule 20 = .ok (.ireturn, 1) := by decide +kernel
theorem dX3_rule_21 : decode cX3_rule 21 = .ok (.aload_n 0, 1) := by decide +kernel
theorem dX3_rule_22 : decode cX3_rule 22 = .ok (.getfield 36, 3) := by decide +kernel
theorem dX3_rule_25 : decode cX3_rule 25 = .ok (.iload_n 1, 1) := by decide +kernel
theorem dX3_rule_26 : decode cX3_rule 26 = .ok (.aload_n 0, 1) := by decide +kernel
theorem dX3_rule_27 : decode cX3_rule 27 = .ok (.getfield 27, 3) := by decide +kernel
theorem dX3_rule_30 : decode cX3_rule 30 = .ok (.iload_n 1, 1) := by decide +kernel
theorem dX3_rule_31 : decode cX3_rule 31 = .ok (.iaload, 1) := by decide +kernel
theorem dX3_rule_32 : decode cX3_rule 32 = .ok (.invokevirtual 128, 3) := by decide +kernel
theorem dX3_rule_35 : decode cX3_rule 35 = .ok (.aload_n 0, 1) := by decide +kernel
theorem dX3_rule_36 : decode cX3_rule 36 = .ok (.getfield 23, 3) := by decide +kernel
theorem dX3_rule_39 : decode cX3_rule 39 = .ok (.aload_n 0, 1) := by decide +kernel
theorem dX3_rule_40 : decode cX3_rule 40 = .ok (.getfield 40, 3) := by decide +kernel
theorem dX3_rule_43 : decode cX3_rule 43 = .ok (.bipush 21, 2) := by decide +kernel
theorem dX3_rule_45 : decode cX3_rule 45 = .ok (.invokevirtual 132, 3) := by decide +kernel
theorem dX3_rule_48 : decode cX3_rule 48 = .ok (.aload_n 0, 1) := by decide +kernel
theorem dX3_rule_49 : decode cX3_rule 49 = .ok (.getfield 27, 3) := by decide +kernel
theorem dX3_rule_52 : decode cX3_rule 52 = .ok (.iload_n 1, 1) := by decide +kernel
theorem dX3_rule_53 : decode cX3_rule 53 = .ok (.iload_n 2, 1) := by decide +kernel
theorem dX3_rule_54 : decode cX3_rule 54 = .ok (.iastore, 1) := by decide +kernel
theorem dX3_rule_55 : decode cX3_rule 55 = .ok (.aload_n 0, 1) := by decide +kernel
theorem dX3_rule_56 : decode cX3_rule 56 = .ok (.iload_n 1, 1) := by decide +kernel
theorem dX3_rule_57 : decode cX3_rule 57 = .ok (.invokevirtual 115, 3) := by decide +kernel
theorem dX3_rule_60 : decode cX3_rule 60 = .ok (.aload_n 0, 1) := by decide +kernel
theorem dX3_rule_61 : decode cX3_rule 61 = .ok (.getfield 23, 3) := by decide +kernel
theorem dX3_rule_64 : decode cX3_rule 64 = .ok (.bipush 21, 2) := by decide +kernel
theorem dX3_rule_66 : decode cX3_rule 66 = .ok (.aload_n 0, 1) := by decide +kernel
theorem dX3_rule_67 : decode cX3_rule 67 = .ok (.getfield 40, 3) := by decide +kernel
theorem dX3_rule_70 : decode cX3_rule 70 = .ok (.invokevirtual 135, 3) := by decide +kernel
theorem dX3_rule_73 : decode cX3_rule 73 = .ok (.ireturn, 1) := by decide +kernel
set_option maxRecDepth 20000 in
theorem ggX3_appeal_X1_lastTurn : GoodIn wsX3_appeal wsX1_lastTurn := goodIn_r _ [9, 10, 11, 12, 13, 14, 148, 149, 150] (by decide +kernel) (by decide +kernel)
set_option maxRecDepth 20000 in
theorem gX3_appeal_X1_lastTurn : GoodIn wsX3_appeal (wsV RX3 138 RX1 yX1_lastTurn wsX1_lastTurn) := goodIn_app (goodIn_of _ (by decide +kernel)) ggX3_appeal_X1_lastTurn
set_option maxRecDepth 20000 in
theorem ggX3_appeal_X3_below : GoodIn wsX3_appeal wsX3_below := goodIn_r _ [14] (by decide +kernel) (by decide +kernel)
set_option maxRecDepth 20000 in
theorem gX3_appeal_X3_below : GoodIn wsX3_appeal (va_wsS RX3 44 yX3_below wsX3_below) := goodIn_app (goodIn_of _ (by decide +kernel)) ggX3_appeal_X3_below
set_option maxRecDepth 20000 in
theorem ggX3_appeal_X1_lastWeatherBefore : GoodIn wsX3_appeal wsX1_lastWeatherBefore := goodIn_r _ [19, 10, 20, 12, 13, 14, 148, 149, 150] (by decide +kernel) (by decide +kernel)
set_option maxRecDepth 20000 in
theorem gX3_appeal_X1_lastWeatherBefore : GoodIn wsX3_appeal (wsV RX3 143 RX1 yX1_lastWeatherBefore wsX1_lastWeatherBefore) := goodIn_app (goodIn_of _ (by decide +kernel)) ggX3_appeal_X1_lastWeatherBefore
set_option maxRecDepth 20000 in
theorem ggX3_appeal_X1_pop : GoodIn wsX3_appeal wsX1_pop := goodIn_r _ [24, 10, 148, 149, 150] (by decide +kernel) (by decide +kernel)
set_option maxRecDepth 20000 in
theorem gX3_appeal_X1_pop : GoodIn wsX3_appeal (wsV RX3 146 RX1 yX1_pop wsX1_pop) := goodIn_app (goodIn_of _ (by decide +kernel)) ggX3_appeal_X1_pop
set_option maxRecDepth 20000 in
theorem ggX3_appeal_X3_playFrom : GoodIn wsX3_appeal wsX3_playFrom := goodIn_r _ [28, 29, 30, 31, 32, 33, 4, 34, 35, 36, 37, 13, 38, 39, 40, 41, 42, 43, 44, 45, 15, 12, 14, 46, 47, 48, 49, 50, 51, 52, 53, 54, 55, 56, 57, 58, 59, 60, 61, 62, 63, 64, 65, 66, 67, 68, 69, 70, 71, 72, 73, 74, 75, 76, 77, 78, 79, 80, 81, 82, 83, 84, 85, 86, 87, 88, 89, 90, 91, 92, 93, 94, 95, 96, 97, 98, 99, 100, 101, 102, 103, 104, 105, 106, 107, 108, 109, 110, 111, 112, 113, 114, 115, 116, 117, 118, 119, 120, 121, 122, 123, 124, 125, 126, 127, 128, 129, 130, 131, 132, 133, 134, 135, 136, 137, 138, 139, 140, 141, 142, 143, 144, 145, 146, 147, 151, 152, 153, 154, 155, 156, 157, 158] (by decide +kernel) (by decide +kernel)
set_option maxRecDepth 20000 in
theorem gX3_appeal_X3_playFrom : GoodIn wsX3_appeal (wsV RX3 115 RX3 yX3_playFrom wsX3_playFrom) := goodIn_app (goodIn_of _ (by decide +kernel)) ggX3_appeal_X3_playFrom
theorem dX3_appeal_0 : decode cX3_appeal 0 = .ok (.aload_n 0, 1) := by decide +kernel
theorem dX3_appeal_1 : decode cX3_appeal 1 = .ok (.getfield 36, 3) := by decide +kernel
theorem dX3_appeal_4 : decode cX3_appeal 4 = .ok (.invokevirtual 138, 3) := by decide +kernel
theorem dX3_appeal_7 : decode cX3_appeal 7 = .ok (.istore_n 1, 1) := by decide +kernel
theorem dX3_appeal_8 : decode cX3_appeal 8 = .ok (.iload_n 1, 1) := by decide +kernel
theorem dX3_appeal_9 : decode cX3_appeal 9 = .ok (.bipush 20, 2) := by decide +kernel
theorem dX3_appeal_11 : decode cX3_appeal 11 = .ok (.invokestatic 44, 3) := by decide +kernel
theorem dX3_appeal_14 : decode cX3_appeal 14 = .ok (.ifCond .ne 13, 3) := by decide +kernel
theorem dX3_appeal_17 : decode cX3_appeal 17 = .ok (.new 62, 3) := by decide +kernel
theorem dX3_appeal_20 : decode cX3_appeal 20 = .ok (.dup, 1) := by decide +kernel
theorem dX3_appeal_21 : decode cX3_appeal 21 = .ok (.ldc 141, 2) := by decide +kernel
theorem dX3_appeal_23 : decode cX3_appeal 23 = .ok (.invokespecial 66, 3) := by decide +kernel
theorem dX3_appeal_26 : decode cX3_appeal 26 = .ok (.athrow, 1) := by decide +kernel
theorem dX3_appeal_27 : decode cX3_appeal 27 = .ok (.aload_n 0, 1) := by decide +kernel
theorem dX3_appeal_28 : decode cX3_appeal 28 = .ok (.getfield 27, 3) := by decide +kernel
theorem dX3_appeal_31 : decode cX3_appeal 31 = .ok (.iload_n 1, 1) := by decide +kernel
theorem dX3_appeal_32 : decode cX3_appeal 32 = .ok (.aload_n 0, 1) := by decide +kernel
theorem dX3_appeal_33 : decode cX3_appeal 33 = .ok (.getfield 36, 3) := by decide +kernel
theorem dX3_appeal_36 : decode cX3_appeal 36 = .ok (.invokevirtual 143, 3) := by decide +kernel
theorem dX3_appeal_39 : decode cX3_appeal 39 = .ok (.iastore, 1) := by decide +kernel
theorem dX3_appeal_40 : decode cX3_appeal 40 = .ok (.aload_n 0, 1) := by decide +kernel
theorem dX3_appeal_41 : decode cX3_appeal 41 = .ok (.getfield 36, 3) := by decide +kernel
theorem dX3_appeal_44 : decode cX3_appeal 44 = .ok (.invokevirtual 146, 3) := by decide +kernel
theorem dX3_appeal_47 : decode cX3_appeal 47 = .ok (.aload_n 0, 1) := by decide +kernel
theorem dX3_appeal_48 : decode cX3_appeal 48 = .ok (.iload_n 1, 1) := by decide +kernel
theorem dX3_appeal_49 : decode cX3_appeal 49 = .ok (.invokevirtual 115, 3) := by decide +kernel
theorem dX3_appeal_52 : decode cX3_appeal 52 = .ok (.iload_n 1, 1) := by decide +kernel
theorem dX3_appeal_53 : decode cX3_appeal 53 = .ok (.ireturn, 1) := by decide +kernel
set_option maxRecDepth 20000 in
theorem ggX3_townOf_X3_checkUnit : GoodIn wsX3_townOf wsX3_checkUnit := goodIn_ca (goodIn_r _ [7, 8, 9, 1, 10, 11, 12, 13, 14, 15, 16, 17, 6, 18, 30, 31, 32, 33, 34, 35, 36, 37, 38, 39, 40, 41] (by decide +kernel) (by decide +kernel)) (goodIn_sub (fun _ h => List.mem_cons_of_mem _ (List.mem_append_right _ h)) (by decide +kernel))
set_option maxRecDepth 20000 in
theorem gX3_townOf_X3_checkUnit : GoodIn wsX3_townOf (wsV RX3 97 RX3 yX3_checkUnit wsX3_checkUnit) := goodIn_app (goodIn_of _ (by decide +kernel)) ggX3_townOf_X3_checkUnit
set_option maxRecDepth 20000 in
theorem ggX3_townOf_X2_townAt : GoodIn wsX3_townOf wsX2_townAt := goodIn_r _ [22, 23, 24, 25, 13, 26, 27, 28, 29, 37, 38, 39, 40, 41] (by decide +kernel) (by decide +kernel)
set_option maxRecDepth 20000 in
theorem gX3_townOf_X2_townAt : GoodIn wsX3_townOf (wsV RX3 149 RX2 yX2_townAt wsX2_townAt) := goodIn_app (goodIn_of _ (by decide +kernel)) ggX3_townOf_X2_townAt
theorem dX3_townOf_0 : decode cX3_townOf 0 = .ok (.aload_n 0, 1) := by decide +kernel
theorem dX3_townOf_1 : decode cX3_townOf 1 = .ok (.iload_n 1, 1) := by decide +kernel
theorem dX3_townOf_2 : decode cX3_townOf 2 = .ok (.invokevirtual 97, 3) := by decide +kernel
theorem dX3_townOf_5 : decode cX3_townOf 5 = .ok (.aload_n 0, 1) := by decide +kernel
theorem dX3_townOf_6 : decode cX3_townOf 6 = .ok (.getfield 23, 3) := by decide +kernel
theorem dX3_townOf_9 : decode cX3_townOf 9 = .ok (.aload_n 0, 1) := by decide +kernel
theorem dX3_townOf_10 : decode cX3_townOf 10 = .ok (.getfield 40, 3) := by decide +kernel
theorem dX3_townOf_13 : decode cX3_townOf 13 = .ok (.iload_n 1, 1) := by decide +kernel
theorem dX3_townOf_14 : decode cX3_townOf 14 = .ok (.invokevirtual 149, 3) := by decide +kernel
theorem dX3_townOf_17 : decode cX3_townOf 17 = .ok (.ireturn, 1) := by decide +kernel
set_option maxRecDepth 20000 in
theorem ggX3_strength_X3_checkUnit : GoodIn wsX3_strength wsX3_checkUnit := goodIn_ca (goodIn_r _ [7, 8, 9, 1, 10, 11, 12, 13, 14, 15, 16, 17, 6, 18, 30, 31, 32, 33, 34, 35, 36, 37, 38, 39, 40, 41] (by decide +kernel) (by decide +kernel)) (goodIn_sub (fun _ h => List.mem_cons_of_mem _ (List.mem_append_right _ h)) (by decide +kernel))
set_option maxRecDepth 20000 in
theorem gX3_strength_X3_checkUnit : GoodIn wsX3_strength (wsV RX3 97 RX3 yX3_checkUnit wsX3_checkUnit) := goodIn_app (goodIn_of _ (by decide +kernel)) ggX3_strength_X3_checkUnit
set_option maxRecDepth 20000 in
theorem ggX3_strength_X2_strengthAt : GoodIn wsX3_strength wsX2_strengthAt := goodIn_r _ [22, 23, 24, 25, 13, 26, 27, 28, 29, 37, 38, 39, 40, 41] (by decide +kernel) (by decide +kernel)
set_option maxRecDepth 20000 in
theorem gX3_strength_X2_strengthAt : GoodIn wsX3_strength (wsV RX3 152 RX2 yX2_strengthAt wsX2_strengthAt) := goodIn_app (goodIn_of _ (by decide +kernel)) ggX3_strength_X2_strengthAt
theorem dX3_strength_0 : decode cX3_strength 0 = .ok (.aload_n 0, 1) := by decide +kernel
theorem dX3_strength_1 : decode cX3_strength 1 = .ok (.iload_n 1, 1) := by decide +kernel
theorem dX3_strength_2 : decode cX3_strength 2 = .ok (.invokevirtual 97, 3) := by decide +kernel
theorem dX3_strength_5 : decode cX3_strength 5 = .ok (.aload_n 0, 1) := by decide +kernel
theorem dX3_strength_6 : decode cX3_strength 6 = .ok (.getfield 23, 3) := by decide +kernel
theorem dX3_strength_9 : decode cX3_strength 9 = .ok (.aload_n 0, 1) := by decide +kernel
theorem dX3_strength_10 : decode cX3_strength 10 = .ok (.getfield 40, 3) := by decide +kernel
theorem dX3_strength_13 : decode cX3_strength 13 = .ok (.iload_n 1, 1) := by decide +kernel
theorem dX3_strength_14 : decode cX3_strength 14 = .ok (.invokevirtual 152, 3) := by decide +kernel
theorem dX3_strength_17 : decode cX3_strength 17 = .ok (.ireturn, 1) := by decide +kernel
set_option maxRecDepth 20000 in
theorem ggX3_supply_X3_checkUnit : GoodIn wsX3_supply wsX3_checkUnit := goodIn_ca (goodIn_r _ [7, 8, 9, 1, 10, 11, 12, 13, 14, 15, 16, 17, 6, 18, 72, 73, 74, 75, 76, 77, 78, 79, 80, 81, 82, 83] (by decide +kernel) (by decide +kernel)) (goodIn_sub (fun _ h => List.mem_cons_of_mem _ (List.mem_append_left _ (List.mem_append_right _ h))) (by decide +kernel))
set_option maxRecDepth 20000 in
theorem gX3_supply_X3_checkUnit : GoodIn wsX3_supply (wsV RX3 97 RX3 yX3_checkUnit wsX3_checkUnit) := goodIn_app (goodIn_of _ (by decide +kernel)) ggX3_supply_X3_checkUnit
set_option maxRecDepth 20000 in
theorem ggX3_supply_X3_checkWeather : GoodIn wsX3_supply wsX3_checkWeather := goodIn_ca (goodIn_r _ [21, 22, 23, 16, 17, 6, 18] (by decide +kernel) (by decide +kernel)) (goodIn_sub (fun _ h => List.mem_cons_of_mem _ (List.mem_append_right _ h)) (by decide +kernel))
set_option maxRecDepth 20000 in
theorem gX3_supply_X3_checkWeather : GoodIn wsX3_supply (va_wsS RX3 110 yX3_checkWeather wsX3_checkWeather) := goodIn_app (goodIn_of _ (by decide +kernel)) ggX3_supply_X3_checkWeather
set_option maxRecDepth 20000 in
theorem ggX3_supply_X2_townAt : GoodIn wsX3_supply wsX2_townAt := goodIn_r _ [27, 28, 29, 30, 13, 31, 32, 33, 34, 79, 80, 81, 82, 83] (by decide +kernel) (by decide +kernel)
set_option maxRecDepth 20000 in
theorem gX3_supply_X2_townAt : GoodIn wsX3_supply (wsV RX3 149 RX2 yX2_townAt wsX2_townAt) := goodIn_app (goodIn_of _ (by decide +kernel)) ggX3_supply_X2_townAt
set_option maxRecDepth 20000 in
theorem ggX3_supply_X2_sideOf : GoodIn wsX3_supply wsX2_sideOf := goodIn_r _ [38, 39, 17, 6, 18, 79, 80, 81, 82, 83] (by decide +kernel) (by decide +kernel)
set_option maxRecDepth 20000 in
theorem gX3_supply_X2_sideOf : GoodIn wsX3_supply (wsV RX3 155 RX2 yX2_sideOf wsX2_sideOf) := goodIn_app (goodIn_of _ (by decide +kernel)) ggX3_supply_X2_sideOf
set_option maxRecDepth 20000 in
theorem ggX3_supply_X3_suppliedTowns : GoodIn wsX3_supply wsX3_suppliedTowns := goodIn_r _ [43, 1, 44, 45, 16, 17, 6, 18, 46, 47, 48, 49, 50, 51, 13, 52, 15, 53, 25, 26, 27, 28, 29, 30, 31, 32, 33, 34, 54, 36, 37, 38, 39, 55, 56, 57, 58, 59, 60, 61, 62, 63, 64, 65, 66, 67, 68, 69, 70, 72, 73, 74, 75, 76, 77, 78, 79, 80, 81, 82, 83, 84, 85, 86] (by decide +kernel) (by decide +kernel)
set_option maxRecDepth 20000 in
theorem gX3_supply_X3_suppliedTowns : GoodIn wsX3_supply (wsV RX3 158 RX3 yX3_suppliedTowns wsX3_suppliedTowns) := goodIn_app (goodIn_of _ (by decide +kernel)) ggX3_supply_X3_suppliedTowns
set_option maxRecDepth 20000 in
theorem ggX3_supply_X3_has : GoodIn wsX3_supply wsX3_has := goodIn_r _ [64, 57, 55, 6, 56] (by decide +kernel) (by decide +kernel)
set_option maxRecDepth 20000 in
theorem gX3_supply_X3_has : GoodIn wsX3_supply (va_wsS RX3 85 yX3_has wsX3_has) := goodIn_app (goodIn_of _ (by decide +kernel)) ggX3_supply_X3_has
theorem dX3_supply_0 : decode cX3_supply 0 = .ok (.aload_n 0, 1) := by decide +kernel
theorem dX3_supply_1 : decode cX3_supply 1 = .ok (.iload_n 1, 1) := by decide +kernel
theorem dX3_supply_2 : decode cX3_supply 2 = .ok (.invokevirtual 97, 3) := by decide +kernel
theorem dX3_supply_5 : decode cX3_supply 5 = .ok (.iload_n 2, 1) := by decide +kernel
theorem dX3_supply_6 : decode cX3_supply 6 = .ok (.invokestatic 110, 3) := by decide +kernel
theorem dX3_supply_9 : decode cX3_supply 9 = .ok (.aload_n 0, 1) := by decide +kernel
theorem dX3_supply_10 : decode cX3_supply 10 = .ok (.getfield 23, 3) := by decide +kernel
theorem dX3_supply_13 : decode cX3_supply 13 = .ok (.aload_n 0, 1) := by decide +kernel
theorem dX3_supply_14 : decode cX3_supply 14 = .ok (.getfield 40, 3) := by decide +kernel
theorem dX3_supply_17 : decode cX3_supply 17 = .ok (.iload_n 1, 1) := by decide +kernel
theorem dX3_supply_18 : decode cX3_supply 18 = .ok (.invokevirtual 149, 3) := by decide +kernel
theorem dX3_supply_21 : decode cX3_supply 21 = .ok (.istore_n 3, 1) := by decide +kernel
theorem dX3_supply_22 : decode cX3_supply 22 = .ok (.iconst 0, 1) := by decide +kernel
theorem dX3_supply_23 : decode cX3_supply 23 = .ok (.istore 4, 2) := by decide +kernel
theorem dX3_supply_25 : decode cX3_supply 25 = .ok (.iload 4, 2) := by decide +kernel
theorem dX3_supply_27 : decode cX3_supply 27 = .ok (.iconst 4, 1) := by decide +kernel
theorem dX3_supply_28 : decode cX3_supply 28 = .ok (.if_icmp .gt 38, 3) := by decide +kernel
theorem dX3_supply_31 : decode cX3_supply 31 = .ok (.aload_n 0, 1) := by decide +kernel
theorem dX3_supply_32 : decode cX3_supply 32 = .ok (.aload_n 0, 1) := by decide +kernel
theorem dX3_supply_33 : decode cX3_supply 33 = .ok (.getfield 40, 3) := by decide +kernel
theorem dX3_supply_36 : decode cX3_supply 36 = .ok (.aload_n 0, 1) := by decide +kernel
theorem dX3_supply_37 : decode cX3_supply 37 = .ok (.getfield 23, 3) := by decide +kernel
theorem dX3_supply_40 : decode cX3_supply 40 = .ok (.iload_n 1, 1) := by decide +kernel
theorem dX3_supply_41 : decode cX3_supply 41 = .ok (.invokevirtual 155, 3) := by decide +kernel
theorem dX3_supply_44 : decode cX3_supply 44 = .ok (.iload_n 2, 1) := by decide +kernel
theorem dX3_supply_45 : decode cX3_supply 45 = .ok (.iload 4, 2) := by decide +kernel
theorem dX3_supply_47 : decode cX3_supply 47 = .ok (.invokevirtual 158, 3) := by decide +kernel
theorem dX3_supply_50 : decode cX3_supply 50 = .ok (.iload_n 3, 1) := by decide +kernel
theorem dX3_supply_51 : decode cX3_supply 51 = .ok (.invokestatic 85, 3) := by decide +kernel
theorem dX3_supply_54 : decode cX3_supply 54 = .ok (.ifCond .eq 6, 3) := by decide +kernel
theorem dX3_supply_57 : decode cX3_supply 57 = .ok (.iload 4, 2) := by decide +kernel
theorem dX3_supply_59 : decode cX3_supply 59 = .ok (.ireturn, 1) := by decide +kernel
theorem dX3_supply_60 : decode cX3_supply 60 = .ok (.iinc 4 1, 3) := by decide +kernel
theorem dX3_supply_63 : decode cX3_supply 63 = .ok (.goto (-38), 3) := by decide +kernel
theorem dX3_supply_66 : decode cX3_supply 66 = .ok (.iconst (-1), 1) := by decide +kernel
theorem dX3_supply_67 : decode cX3_supply 67 = .ok (.ireturn, 1) := by decide +kernel
set_option maxRecDepth 20000 in
theorem ggX3_townAfter_X3_checkUnit : GoodIn wsX3_townAfter wsX3_checkUnit := goodIn_ca (goodIn_r _ [6, 7, 8, 1, 9, 10, 11, 12, 13, 14, 15, 16, 5, 17, 38, 39, 40, 41, 42, 43, 44, 45, 46, 47, 48, 49] (by decide +kernel) (by decide +kernel)) (goodIn_sub (fun _ h => List.mem_cons_of_mem _ (List.mem_append_right _ h)) (by decide +kernel))
set_option maxRecDepth 20000 in
theorem gX3_townAfter_X3_checkUnit : GoodIn wsX3_townAfter (wsV RX3 97 RX3 yX3_checkUnit wsX3_checkUnit) := goodIn_app (goodIn_of _ (by decide +kernel)) ggX3_townAfter_X3_checkUnit
set_option maxRecDepth 20000 in
theorem ggX3_townAfter_X3_checkTurn : GoodIn wsX3_townAfter wsX3_checkTurn := goodIn_ca (goodIn_r _ [21, 7, 8, 22, 23, 24, 25, 26, 15, 16, 5, 17, 38, 39, 40, 41, 42, 43, 44] (by decide +kernel) (by decide +kernel)) (goodIn_sub (fun _ h => List.mem_cons_of_mem _ (List.mem_append_right _ h)) (by decide +kernel))
set_option maxRecDepth 20000 in
theorem gX3_townAfter_X3_checkTurn : GoodIn wsX3_townAfter (wsV RX3 121 RX3 yX3_checkTurn wsX3_checkTurn) := goodIn_app (goodIn_of _ (by decide +kernel)) ggX3_townAfter_X3_checkTurn
set_option maxRecDepth 20000 in
theorem ggX3_townAfter_X2_townAt : GoodIn wsX3_townAfter wsX2_townAt := goodIn_r _ [30, 31, 32, 33, 12, 34, 35, 36, 37, 45, 46, 47, 48, 49] (by decide +kernel) (by decide +kernel)
set_option maxRecDepth 20000 in
theorem gX3_townAfter_X2_townAt : GoodIn wsX3_townAfter (wsV RX3 149 RX2 yX2_townAt wsX2_townAt) := goodIn_app (goodIn_of _ (by decide +kernel)) ggX3_townAfter_X2_townAt
theorem dX3_townAfter_0 : decode cX3_townAfter 0 = .ok (.aload_n 0, 1) := by decide +kernel
theorem dX3_townAfter_1 : decode cX3_townAfter 1 = .ok (.iload_n 1, 1) := by decide +kernel
theorem dX3_townAfter_2 : decode cX3_townAfter 2 = .ok (.invokevirtual 97, 3) := by decide +kernel
theorem dX3_townAfter_5 : decode cX3_townAfter 5 = .ok (.aload_n 0, 1) := by decide +kernel
theorem dX3_townAfter_6 : decode cX3_townAfter 6 = .ok (.iload_n 2, 1) := by decide +kernel
theorem dX3_townAfter_7 : decode cX3_townAfter 7 = .ok (.invokevirtual 121, 3) := by decide +kernel
theorem dX3_townAfter_10 : decode cX3_townAfter 10 = .ok (.aload_n 0, 1) := by decide +kernel
theorem dX3_townAfter_11 : decode cX3_townAfter 11 = .ok (.getfield 23, 3) := by decide +kernel
theorem dX3_townAfter_14 : decode cX3_townAfter 14 = .ok (.iload_n 2, 1) := by decide +kernel
theorem dX3_townAfter_15 : decode cX3_townAfter 15 = .ok (.iconst 1, 1) := by decide +kernel
theorem dX3_townAfter_16 : decode cX3_townAfter 16 = .ok (.iadd, 1) := by decide +kernel
theorem dX3_townAfter_17 : decode cX3_townAfter 17 = .ok (.iload_n 1, 1) := by decide +kernel
theorem dX3_townAfter_18 : decode cX3_townAfter 18 = .ok (.invokevirtual 149, 3) := by decide +kernel
theorem dX3_townAfter_21 : decode cX3_townAfter 21 = .ok (.ireturn, 1) := by decide +kernel
set_option maxRecDepth 20000 in
theorem ggX3_reported_X3_checkSide : GoodIn wsX3_reported wsX3_checkSide := goodIn_ca (goodIn_r _ [13, 14, 15, 16, 17, 12, 18] (by decide +kernel) (by decide +kernel)) (goodIn_sub (fun _ h => List.mem_cons_of_mem _ (List.mem_append_right _ h)) (by decide +kernel))
set_option maxRecDepth 20000 in
theorem gX3_reported_X3_checkSide : GoodIn wsX3_reported (va_wsS RX3 162 yX3_checkSide wsX3_checkSide) := goodIn_app (goodIn_of _ (by decide +kernel)) ggX3_reported_X3_checkSide
set_option maxRecDepth 20000 in
theorem ggX3_reported_X3_checkUnit : GoodIn wsX3_reported wsX3_checkUnit := goodIn_ca (goodIn_r _ [22, 1, 2, 3, 23, 24, 25, 26, 27, 28, 16, 17, 12, 18, 51, 52, 53, 54, 55, 56, 57, 58, 59, 60, 61, 62] (by decide +kernel) (by decide +kernel)) (goodIn_sub (fun _ h => List.mem_cons_of_mem _ (List.mem_append_left _ (List.mem_append_right _ h))) (by decide +kernel))
set_option maxRecDepth 20000 in
theorem gX3_reported_X3_checkUnit : GoodIn wsX3_reported (wsV RX3 97 RX3 yX3_checkUnit wsX3_checkUnit) := goodIn_app (goodIn_of _ (by decide +kernel)) ggX3_reported_X3_checkUnit
set_option maxRecDepth 20000 in
theorem ggX3_reported_X2_sideOf : GoodIn wsX3_reported wsX2_sideOf := goodIn_r _ [32, 33, 17, 12, 18, 58, 59, 60, 61, 62] (by decide +kernel) (by decide +kernel)
set_option maxRecDepth 20000 in
theorem gX3_reported_X2_sideOf : GoodIn wsX3_reported (wsV RX3 155 RX2 yX2_sideOf wsX2_sideOf) := goodIn_app (goodIn_of _ (by decide +kernel)) ggX3_reported_X2_sideOf
set_option maxRecDepth 20000 in
theorem ggX3_reported_X3_has : GoodIn wsX3_reported wsX3_has := goodIn_r _ [36, 37, 38, 12, 39] (by decide +kernel) (by decide +kernel)
set_option maxRecDepth 20000 in
theorem gX3_reported_X3_has : GoodIn wsX3_reported (va_wsS RX3 85 yX3_has wsX3_has) := goodIn_app (goodIn_of _ (by decide +kernel)) ggX3_reported_X3_has
set_option maxRecDepth 20000 in
theorem ggX3_reported_X2_townAt : GoodIn wsX3_reported wsX2_townAt := goodIn_r _ [43, 44, 45, 46, 26, 47, 48, 49, 50, 58, 59, 60, 61, 62] (by decide +kernel) (by decide +kernel)
set_option maxRecDepth 20000 in
theorem gX3_reported_X2_townAt : GoodIn wsX3_reported (wsV RX3 149 RX2 yX2_townAt wsX2_townAt) := goodIn_app (goodIn_of _ (by decide +kernel)) ggX3_reported_X2_townAt
theorem dX3_reported_0 : decode cX3_reported 0 = .ok (.iload_n 1, 1) := by decide +kernel
theorem dX3_reported_1 : decode cX3_reported 1 = .ok (.invokestatic 162, 3) := by decide +kernel
theorem dX3_reported_4 : decode cX3_reported 4 = .ok (.aload_n 0, 1) := by decide +kernel
theorem dX3_reported_5 : decode cX3_reported 5 = .ok (.iload_n 2, 1) := by decide +kernel
theorem dX3_reported_6 : decode cX3_reported 6 = .ok (.invokevirtual 97, 3) := by decide +kernel
theorem dX3_reported_9 : decode cX3_reported 9 = .ok (.aload_n 0, 1) := by decide +kernel
theorem dX3_reported_10 : decode cX3_reported 10 = .ok (.getfield 23, 3) := by decide +kernel
theorem dX3_reported_13 : decode cX3_reported 13 = .ok (.iload_n 2, 1) := by decide +kernel
theorem dX3_reported_14 : decode cX3_reported 14 = .ok (.invokevirtual 155, 3) := by decide +kernel
theorem dX3_reported_17 : decode cX3_reported 17 = .ok (.iload_n 1, 1) := by decide +kernel
theorem dX3_reported_18 : decode cX3_reported 18 = .ok (.if_icmp .ne 13, 3) := by decide +kernel
theorem dX3_reported_21 : decode cX3_reported 21 = .ok (.new 165, 3) := by decide +kernel
theorem dX3_reported_24 : decode cX3_reported 24 = .ok (.dup, 1) := by decide +kernel
theorem dX3_reported_25 : decode cX3_reported 25 = .ok (.ldc 167, 2) := by decide +kernel
theorem dX3_reported_27 : decode cX3_reported 27 = .ok (.invokespecial 169, 3) := by decide +kernel
theorem dX3_reported_30 : decode cX3_reported 30 = .ok (.athrow, 1) := by decide +kernel
theorem dX3_reported_31 : decode cX3_reported 31 = .ok (.aload_n 0, 1) := by decide +kernel
theorem dX3_reported_32 : decode cX3_reported 32 = .ok (.getfield 40, 3) := by decide +kernel
theorem dX3_reported_35 : decode cX3_reported 35 = .ok (.bipush 20, 2) := by decide +kernel
theorem dX3_reported_37 : decode cX3_reported 37 = .ok (.invokestatic 170, 3) := by decide +kernel
theorem dX3_reported_40 : decode cX3_reported 40 = .ok (.iconst 1, 1) := by decide +kernel
theorem dX3_reported_41 : decode cX3_reported 41 = .ok (.isub, 1) := by decide +kernel
theorem dX3_reported_42 : decode cX3_reported 42 = .ok (.iconst 2, 1) := by decide +kernel
theorem dX3_reported_43 : decode cX3_reported 43 = .ok (.isub, 1) := by decide +kernel
theorem dX3_reported_44 : decode cX3_reported 44 = .ok (.istore_n 3, 1) := by decide +kernel
theorem dX3_reported_45 : decode cX3_reported 45 = .ok (.iload_n 3, 1) := by decide +kernel
theorem dX3_reported_46 : decode cX3_reported 46 = .ok (.ifCond .lt 34, 3) := by decide +kernel
theorem dX3_reported_49 : decode cX3_reported 49 = .ok (.aload_n 0, 1) := by decide +kernel
theorem dX3_reported_50 : decode cX3_reported 50 = .ok (.getfield 30, 3) := by decide +kernel
theorem dX3_reported_53 : decode cX3_reported 53 = .ok (.iload_n 3, 1) := by decide +kernel
theorem dX3_reported_54 : decode cX3_reported 54 = .ok (.iaload, 1) := by decide +kernel
theorem dX3_reported_55 : decode cX3_reported 55 = .ok (.iload_n 2, 1) := by decide +kernel
theorem dX3_reported_56 : decode cX3_reported 56 = .ok (.invokestatic 85, 3) := by decide +kernel
theorem dX3_reported_59 : decode cX3_reported 59 = .ok (.ifCond .eq 15, 3) := by decide +kernel
theorem dX3_reported_62 : decode cX3_reported 62 = .ok (.aload_n 0, 1) := by decide +kernel
theorem dX3_reported_63 : decode cX3_reported 63 = .ok (.getfield 23, 3) := by decide +kernel
theorem dX3_reported_66 : decode cX3_reported 66 = .ok (.iload_n 3, 1) := by decide +kernel
theorem dX3_reported_67 : decode cX3_reported 67 = .ok (.iconst 1, 1) := by decide +kernel
theorem dX3_reported_68 : decode cX3_reported 68 = .ok (.iadd, 1) := by decide +kernel
theorem dX3_reported_69 : decode cX3_reported 69 = .ok (.iload_n 2, 1) := by decide +kernel
theorem dX3_reported_70 : decode cX3_reported 70 = .ok (.invokevirtual 149, 3) := by decide +kernel
theorem dX3_reported_73 : decode cX3_reported 73 = .ok (.ireturn, 1) := by decide +kernel
theorem dX3_reported_74 : decode cX3_reported 74 = .ok (.iinc 3 (-1), 3) := by decide +kernel
theorem dX3_reported_77 : decode cX3_reported 77 = .ok (.goto (-32), 3) := by decide +kernel
theorem dX3_reported_80 : decode cX3_reported 80 = .ok (.iconst (-1), 1) := by decide +kernel
theorem dX3_reported_81 : decode cX3_reported 81 = .ok (.ireturn, 1) := by decide +kernel
set_option maxRecDepth 20000 in
theorem ggX3_force_X3_checkSide : GoodIn wsX3_force wsX3_checkSide := goodIn_ca (goodIn_r _ [6, 7, 8, 9, 10, 5, 11] (by decide +kernel) (by decide +kernel)) (goodIn_sub (fun _ h => List.mem_cons_of_mem _ (List.mem_append_right _ h)) (by decide +kernel))
set_option maxRecDepth 20000 in
theorem gX3_force_X3_checkSide : GoodIn wsX3_force (va_wsS RX3 162 yX3_checkSide wsX3_checkSide) := goodIn_app (goodIn_of _ (by decide +kernel)) ggX3_force_X3_checkSide
set_option maxRecDepth 20000 in
theorem ggX3_force_X2_count : GoodIn wsX3_force wsX2_count := goodIn_r _ [16, 17, 41, 42, 43, 44, 45] (by decide +kernel) (by decide +kernel)
set_option maxRecDepth 20000 in
theorem gX3_force_X2_count : GoodIn wsX3_force (wsV RX3 88 RX2 yX2_count wsX2_count) := goodIn_app (goodIn_of _ (by decide +kernel)) ggX3_force_X2_count
set_option maxRecDepth 20000 in
theorem ggX3_force_X2_sideOf : GoodIn wsX3_force wsX2_sideOf := goodIn_r _ [21, 22, 10, 5, 11, 41, 42, 43, 44, 45] (by decide +kernel) (by decide +kernel)
set_option maxRecDepth 20000 in
theorem gX3_force_X2_sideOf : GoodIn wsX3_force (wsV RX3 155 RX2 yX2_sideOf wsX2_sideOf) := goodIn_app (goodIn_of _ (by decide +kernel)) ggX3_force_X2_sideOf
set_option maxRecDepth 20000 in
theorem ggX3_force_X2_strengthAt : GoodIn wsX3_force wsX2_strengthAt := goodIn_r _ [26, 27, 28, 29, 15, 30, 31, 32, 33, 41, 42, 43, 44, 45] (by decide +kernel) (by decide +kernel)
set_option maxRecDepth 20000 in
theorem gX3_force_X2_strengthAt : GoodIn wsX3_force (wsV RX3 152 RX2 yX2_strengthAt wsX2_strengthAt) := goodIn_app (goodIn_of _ (by decide +kernel)) ggX3_force_X2_strengthAt
theorem dX3_force_0 : decode cX3_force 0 = .ok (.iload_n 1, 1) := by decide +kernel
theorem dX3_force_1 : decode cX3_force 1 = .ok (.invokestatic 162, 3) := by decide +kernel
theorem dX3_force_4 : decode cX3_force 4 = .ok (.iconst 0, 1) := by decide +kernel
theorem dX3_force_5 : decode cX3_force 5 = .ok (.istore_n 2, 1) := by decide +kernel
theorem dX3_force_6 : decode cX3_force 6 = .ok (.iconst 0, 1) := by decide +kernel
theorem dX3_force_7 : decode cX3_force 7 = .ok (.istore_n 3, 1) := by decide +kernel
theorem dX3_force_8 : decode cX3_force 8 = .ok (.iload_n 3, 1) := by decide +kernel
theorem dX3_force_9 : decode cX3_force 9 = .ok (.aload_n 0, 1) := by decide +kernel
theorem dX3_force_10 : decode cX3_force 10 = .ok (.getfield 23, 3) := by decide +kernel
theorem dX3_force_13 : decode cX3_force 13 = .ok (.invokevirtual 88, 3) := by decide +kernel
theorem dX3_force_16 : decode cX3_force 16 = .ok (.if_icmp .ge 36, 3) := by decide +kernel
theorem dX3_force_19 : decode cX3_force 19 = .ok (.aload_n 0, 1) := by decide +kernel
theorem dX3_force_20 : decode cX3_force 20 = .ok (.getfield 23, 3) := by decide +kernel
theorem dX3_force_23 : decode cX3_force 23 = .ok (.iload_n 3, 1) := by decide +kernel
theorem dX3_force_24 : decode cX3_force 24 = .ok (.invokevirtual 155, 3) := by decide +kernel
theorem dX3_force_27 : decode cX3_force 27 = .ok (.iload_n 1, 1) := by decide +kernel
theorem dX3_force_28 : decode cX3_force 28 = .ok (.if_icmp .ne 18, 3) := by decide +kernel
theorem dX3_force_31 : decode cX3_force 31 = .ok (.iload_n 2, 1) := by decide +kernel
theorem dX3_force_32 : decode cX3_force 32 = .ok (.aload_n 0, 1) := by decide +kernel
theorem dX3_force_33 : decode cX3_force 33 = .ok (.getfield 23, 3) := by decide +kernel
theorem dX3_force_36 : decode cX3_force 36 = .ok (.aload_n 0, 1) := by decide +kernel
theorem dX3_force_37 : decode cX3_force 37 = .ok (.getfield 40, 3) := by decide +kernel
theorem dX3_force_40 : decode cX3_force 40 = .ok (.iload_n 3, 1) := by decide +kernel
theorem dX3_force_41 : decode cX3_force 41 = .ok (.invokevirtual 152, 3) := by decide +kernel
theorem dX3_force_44 : decode cX3_force 44 = .ok (.iadd, 1) := by decide +kernel
theorem dX3_force_45 : decode cX3_force 45 = .ok (.istore_n 2, 1) := by decide +kernel
theorem dX3_force_46 : decode cX3_force 46 = .ok (.iinc 3 1, 3) := by decide +kernel
theorem dX3_force_49 : decode cX3_force 49 = .ok (.goto (-41), 3) := by decide +kernel
theorem dX3_force_52 : decode cX3_force 52 = .ok (.iload_n 2, 1) := by decide +kernel
theorem dX3_force_53 : decode cX3_force 53 = .ok (.ireturn, 1) := by decide +kernel
set_option maxRecDepth 20000 in
theorem ggX3_weather_X3_checkTurn : GoodIn wsX3_weather wsX3_checkTurn := goodIn_ca (goodIn_r _ [6, 7, 8, 9, 10, 11, 12, 13, 14, 15, 5, 16, 17, 18, 19, 20, 21, 22, 23] (by decide +kernel) (by decide +kernel)) (goodIn_sub (fun _ h => List.mem_cons_of_mem _ (List.mem_append_right _ h)) (by decide +kernel))
set_option maxRecDepth 20000 in
theorem gX3_weather_X3_checkTurn : GoodIn wsX3_weather (wsV RX3 121 RX3 yX3_checkTurn wsX3_checkTurn) := goodIn_app (goodIn_of _ (by decide +kernel)) ggX3_weather_X3_checkTurn
theorem dX3_weather_0 : decode cX3_weather 0 = .ok (.aload_n 0, 1) := by decide +kernel
theorem dX3_weather_1 : decode cX3_weather 1 = .ok (.iload_n 1, 1) := by decide +kernel
theorem dX3_weather_2 : decode cX3_weather 2 = .ok (.invokevirtual 121, 3) := by decide +kernel
theorem dX3_weather_5 : decode cX3_weather 5 = .ok (.aload_n 0, 1) := by decide +kernel
theorem dX3_weather_6 : decode cX3_weather 6 = .ok (.getfield 27, 3) := by decide +kernel
theorem dX3_weather_9 : decode cX3_weather 9 = .ok (.iload_n 1, 1) := by decide +kernel
theorem dX3_weather_10 : decode cX3_weather 10 = .ok (.iaload, 1) := by decide +kernel
theorem dX3_weather_11 : decode cX3_weather 11 = .ok (.ireturn, 1) := by decide +kernel
set_option maxRecDepth 20000 in
theorem ggX3_rulings_X1_count : GoodIn wsX3_rulings wsX1_count := goodIn_r _ [6, 7, 15, 16, 17] (by decide +kernel) (by decide +kernel)
set_option maxRecDepth 20000 in
theorem gX3_rulings_X1_count : GoodIn wsX3_rulings (wsV RX3 175 RX1 yX1_count wsX1_count) := goodIn_app (goodIn_of _ (by decide +kernel)) ggX3_rulings_X1_count
theorem dX3_rulings_0 : decode cX3_rulings 0 = .ok (.aload_n 0, 1) := by decide +kernel
theorem dX3_rulings_1 : decode cX3_rulings 1 = .ok (.getfield 36, 3) := by decide +kernel
theorem dX3_rulings_4 : decode cX3_rulings 4 = .ok (.invokevirtual 175, 3) := by decide +kernel
theorem dX3_rulings_7 : decode cX3_rulings 7 = .ok (.ireturn, 1) := by decide +kernel
set_option maxRecDepth 20000 in
theorem ggX3_checkSide_X3_below : GoodIn wsX3_checkSide wsX3_below := goodIn_r _ [6] (by decide +kernel) (by decide +kernel)
set_option maxRecDepth 20000 in
theorem gX3_checkSide_X3_below : GoodIn wsX3_checkSide (va_wsS RX3 44 yX3_below wsX3_below) := goodIn_app (goodIn_of _ (by decide +kernel)) ggX3_checkSide_X3_below
theorem dX3_checkSide_0 : decode cX3_checkSide 0 = .ok (.iload_n 0, 1) := by decide +kernel
theorem dX3_checkSide_1 : decode cX3_checkSide 1 = .ok (.iconst 2, 1) := by decide +kernel
theorem dX3_checkSide_2 : decode cX3_checkSide 2 = .ok (.invokestatic 44, 3) := by decide +kernel
theorem dX3_checkSide_5 : decode cX3_checkSide 5 = .ok (.ifCond .ne 13, 3) := by decide +kernel
theorem dX3_checkSide_8 : decode cX3_checkSide 8 = .ok (.new 48, 3) := by decide +kernel
theorem dX3_checkSide_11 : decode cX3_checkSide 11 = .ok (.dup, 1) := by decide +kernel
theorem dX3_checkSide_12 : decode cX3_checkSide 12 = .ok (.ldc 176, 2) := by decide +kernel
theorem dX3_checkSide_14 : decode cX3_checkSide 14 = .ok (.invokespecial 52, 3) := by decide +kernel
theorem dX3_checkSide_17 : decode cX3_checkSide 17 = .ok (.athrow, 1) := by decide +kernel
theorem dX3_checkSide_18 : decode cX3_checkSide 18 = .ok (.return_, 1) := by decide +kernel
set_option maxRecDepth 20000 in
theorem ggX3_checkWeather_X3_below : GoodIn wsX3_checkWeather wsX3_below := goodIn_r _ [6] (by decide +kernel) (by decide +kernel)
set_option maxRecDepth 20000 in
theorem gX3_checkWeather_X3_below : GoodIn wsX3_checkWeather (va_wsS RX3 44 yX3_below wsX3_below) := goodIn_app (goodIn_of _ (by decide +kernel)) ggX3_checkWeather_X3_below
theorem dX3_checkWeather_0 : decode cX3_checkWeather 0 = .ok (.iload_n 0, 1) := by decide +kernel
theorem dX3_checkWeather_1 : decode cX3_checkWeather 1 = .ok (.iconst 3, 1) := by decide +kernel
theorem dX3_checkWeather_2 : decode cX3_checkWeather 2 = .ok (.invokestatic 44, 3) := by decide +kernel
theorem dX3_checkWeather_5 : decode cX3_checkWeather 5 = .ok (.ifCond .ne 13, 3) := by decide +kernel
theorem dX3_checkWeather_8 : decode cX3_checkWeather 8 = .ok (.new 48, 3) := by decide +kernel
theorem dX3_checkWeather_11 : decode cX3_checkWeather 11 = .ok (.dup, 1) := by decide +kernel
theorem dX3_checkWeather_12 : decode cX3_checkWeather 12 = .ok (.ldc 178, 2) := by decide +kernel
theorem dX3_checkWeather_14 : decode cX3_checkWeather 14 = .ok (.invokespecial 52, 3) := by decide +kernel
theorem dX3_checkWeather_17 : decode cX3_checkWeather 17 = .ok (.athrow, 1) := by decide +kernel
theorem dX3_checkWeather_18 : decode cX3_checkWeather 18 = .ok (.return_, 1) := by decide +kernel
set_option maxRecDepth 20000 in
theorem ggX3_checkUnit_X2_count : GoodIn wsX3_checkUnit wsX2_count := goodIn_r _ [8, 9, 21, 22, 23, 24, 25] (by decide +kernel) (by decide +kernel)
set_option maxRecDepth 20000 in
theorem gX3_checkUnit_X2_count : GoodIn wsX3_checkUnit (wsV RX3 88 RX2 yX2_count wsX2_count) := goodIn_app (goodIn_of _ (by decide +kernel)) ggX3_checkUnit_X2_count
set_option maxRecDepth 20000 in
theorem ggX3_checkUnit_X3_below : GoodIn wsX3_checkUnit wsX3_below := goodIn_r _ [13] (by decide +kernel) (by decide +kernel)
set_option maxRecDepth 20000 in
theorem gX3_checkUnit_X3_below : GoodIn wsX3_checkUnit (va_wsS RX3 44 yX3_below wsX3_below) := goodIn_app (goodIn_of _ (by decide +kernel)) ggX3_checkUnit_X3_below
theorem dX3_checkUnit_0 : decode cX3_checkUnit 0 = .ok (.iload_n 1, 1) := by decide +kernel
theorem dX3_checkUnit_1 : decode cX3_checkUnit 1 = .ok (.aload_n 0, 1) := by decide +kernel
theorem dX3_checkUnit_2 : decode cX3_checkUnit 2 = .ok (.getfield 23, 3) := by decide +kernel
theorem dX3_checkUnit_5 : decode cX3_checkUnit 5 = .ok (.invokevirtual 88, 3) := by decide +kernel
theorem dX3_checkUnit_8 : decode cX3_checkUnit 8 = .ok (.invokestatic 44, 3) := by decide +kernel
theorem dX3_checkUnit_11 : decode cX3_checkUnit 11 = .ok (.ifCond .ne 13, 3) := by decide +kernel
theorem dX3_checkUnit_14 : decode cX3_checkUnit 14 = .ok (.new 165, 3) := by decide +kernel
theorem dX3_checkUnit_17 : decode cX3_checkUnit 17 = .ok (.dup, 1) := by decide +kernel
theorem dX3_checkUnit_18 : decode cX3_checkUnit 18 = .ok (.ldc 180, 2) := by decide +kernel
theorem dX3_checkUnit_20 : decode cX3_checkUnit 20 = .ok (.invokespecial 169, 3) := by decide +kernel
theorem dX3_checkUnit_23 : decode cX3_checkUnit 23 = .ok (.athrow, 1) := by decide +kernel
theorem dX3_checkUnit_24 : decode cX3_checkUnit 24 = .ok (.return_, 1) := by decide +kernel
set_option maxRecDepth 20000 in
theorem ggX3_checkTurn_X3_below : GoodIn wsX3_checkTurn wsX3_below := goodIn_r _ [11] (by decide +kernel) (by decide +kernel)
set_option maxRecDepth 20000 in
theorem gX3_checkTurn_X3_below : GoodIn wsX3_checkTurn (va_wsS RX3 44 yX3_below wsX3_below) := goodIn_app (goodIn_of _ (by decide +kernel)) ggX3_checkTurn_X3_below
theorem dX3_checkTurn_0 : decode cX3_checkTurn 0 = .ok (.iload_n 1, 1) := by decide +kernel
theorem dX3_checkTurn_1 : decode cX3_checkTurn 1 = .ok (.aload_n 0, 1) := by decide +kernel
theorem dX3_checkTurn_2 : decode cX3_checkTurn 2 = .ok (.getfield 40, 3) := by decide +kernel
theorem dX3_checkTurn_5 : decode cX3_checkTurn 5 = .ok (.bipush 20, 2) := by decide +kernel
theorem dX3_checkTurn_7 : decode cX3_checkTurn 7 = .ok (.invokestatic 170, 3) := by decide +kernel
theorem dX3_checkTurn_10 : decode cX3_checkTurn 10 = .ok (.invokestatic 44, 3) := by decide +kernel
theorem dX3_checkTurn_13 : decode cX3_checkTurn 13 = .ok (.ifCond .ne 13, 3) := by decide +kernel
theorem dX3_checkTurn_16 : decode cX3_checkTurn 16 = .ok (.new 165, 3) := by decide +kernel
theorem dX3_checkTurn_19 : decode cX3_checkTurn 19 = .ok (.dup, 1) := by decide +kernel
theorem dX3_checkTurn_20 : decode cX3_checkTurn 20 = .ok (.ldc 182, 2) := by decide +kernel
theorem dX3_checkTurn_22 : decode cX3_checkTurn 22 = .ok (.invokespecial 169, 3) := by decide +kernel
theorem dX3_checkTurn_25 : decode cX3_checkTurn 25 = .ok (.athrow, 1) := by decide +kernel
theorem dX3_checkTurn_26 : decode cX3_checkTurn 26 = .ok (.return_, 1) := by decide +kernel
set_option maxRecDepth 20000 in
theorem ggX3_playFrom_X3_suppliedUnits : GoodIn wsX3_playFrom wsX3_suppliedUnits := goodIn_r _ [12, 13, 14, 15, 16, 11, 17, 18, 19, 20, 21, 22, 23, 24, 25, 26, 27, 28, 29, 30, 31, 32, 33, 34, 35, 36, 37, 38, 39, 40, 41, 42, 43, 44, 45, 46, 47, 48, 49, 50, 51, 52, 53, 54, 55, 56, 57, 58, 59, 60, 61, 62, 63, 64, 65, 66, 67, 68, 69, 70, 118, 119, 120, 121, 122, 123, 124, 125, 126, 127, 128, 129, 130, 131, 132] (by decide +kernel) (by decide +kernel)
set_option maxRecDepth 20000 in
theorem gX3_playFrom_X3_suppliedUnits : GoodIn wsX3_playFrom (wsV RX3 187 RX3 yX3_suppliedUnits wsX3_suppliedUnits) := goodIn_app (goodIn_of _ (by decide +kernel)) ggX3_playFrom_X3_suppliedUnits
set_option maxRecDepth 20000 in
theorem ggX3_playFrom_X3_goers : GoodIn wsX3_playFrom wsX3_goers := goodIn_r _ [74, 13, 19, 64, 65, 66, 29, 67, 31, 69, 33, 34, 35, 36, 37, 38, 39, 40, 41, 42, 75, 59, 60, 54, 61, 62, 63, 21, 11, 22, 70, 56, 57, 50, 48, 49, 76, 77, 78, 79, 80, 118, 119, 120, 121, 122, 123, 124, 125, 126, 127, 128, 129, 130, 131, 132] (by decide +kernel) (by decide +kernel)
set_option maxRecDepth 20000 in
theorem gX3_playFrom_X3_goers : GoodIn wsX3_playFrom (wsV RX3 190 RX3 yX3_goers wsX3_goers) := goodIn_app (goodIn_of _ (by decide +kernel)) ggX3_playFrom_X3_goers
set_option maxRecDepth 20000 in
theorem ggX3_playFrom_X3_march : GoodIn wsX3_playFrom wsX3_march := goodIn_r _ [84, 13, 64, 65, 66, 29, 67, 31, 70, 56, 11, 57, 50, 48, 49, 85, 86, 87, 88, 68, 44, 45, 46, 47, 21, 22, 69, 33, 34, 35, 36, 37, 38, 39, 40, 41, 42, 76, 77, 78, 79, 80, 89, 90, 91, 92, 93, 94, 95, 96, 97, 98, 2, 3, 4, 118, 119, 120, 121, 122, 123, 124, 125, 126, 127, 128, 129] (by decide +kernel) (by decide +kernel)
set_option maxRecDepth 20000 in
theorem gX3_playFrom_X3_march : GoodIn wsX3_playFrom (wsV RX3 193 RX3 yX3_march wsX3_march) := goodIn_app (goodIn_of _ (by decide +kernel)) ggX3_playFrom_X3_march
set_option maxRecDepth 20000 in
theorem ggX3_playFrom_X3_fightEverywhere : GoodIn wsX3_playFrom wsX3_fightEverywhere := goodIn_r _ [102, 13, 26, 27, 28, 29, 30, 31, 32, 33, 34, 35, 36, 37, 38, 39, 40, 41, 42, 43, 44, 45, 46, 47, 21, 11, 22, 48, 49, 70, 56, 57, 50, 103, 104, 105, 106, 107, 108, 109, 110, 64, 65, 66, 67, 68, 69, 89, 90, 91, 92, 93, 111, 112, 113, 94, 95, 96, 97, 98, 2, 3, 4, 118, 119, 120, 121, 122, 123, 124, 125, 126, 127, 128, 129] (by decide +kernel) (by decide +kernel)
set_option maxRecDepth 20000 in
theorem gX3_playFrom_X3_fightEverywhere : GoodIn wsX3_playFrom (wsV RX3 196 RX3 yX3_fightEverywhere wsX3_fightEverywhere) := goodIn_app (goodIn_of _ (by decide +kernel)) ggX3_playFrom_X3_fightEverywhere
set_option maxRecDepth 20000 in
theorem ggX3_playFrom_X3_unitsInSight : GoodIn wsX3_playFrom wsX3_unitsInSight := goodIn_r _ [117, 19, 13, 26, 27, 28, 29, 30, 31, 32, 33, 34, 35, 36, 37, 38, 39, 40, 41, 42, 43, 44, 45, 46, 47, 21, 11, 22, 48, 49, 51, 52, 53, 54, 55, 56, 57, 50, 58, 59, 60, 61, 62, 63, 64, 65, 66, 67, 68, 69, 70, 118, 119, 120, 121, 122, 123, 124, 125, 126, 127, 128, 129, 130, 131, 132] (by decide +kernel) (by decide +kernel)
set_option maxRecDepth 20000 in
theorem gX3_playFrom_X3_unitsInSight : GoodIn wsX3_playFrom (wsV RX3 199 RX3 yX3_unitsInSight wsX3_unitsInSight) := goodIn_app (goodIn_of _ (by decide +kernel)) ggX3_playFrom_X3_unitsInSight
theorem dX3_playFrom_0 : decode cX3_playFrom 0 = .ok (.iload_n 1, 1) := by decide +kernel
theorem dX3_playFrom_1 : decode cX3_playFrom 1 = .ok (.iconst 0, 1) := by decide +kernel
theorem dX3_playFrom_2 : decode cX3_playFrom 2 = .ok (.invokestatic 184, 3) := by decide +kernel
theorem dX3_playFrom_5 : decode cX3_playFrom 5 = .ok (.istore_n 2, 1) := by decide +kernel
theorem dX3_playFrom_6 : decode cX3_playFrom 6 = .ok (.iload_n 2, 1) := by decide +kernel
theorem dX3_playFrom_7 : decode cX3_playFrom 7 = .ok (.aload_n 0, 1) := by decide +kernel
theorem dX3_playFrom_8 : decode cX3_playFrom 8 = .ok (.getfield 40, 3) := by decide +kernel
theorem dX3_playFrom_11 : decode cX3_playFrom 11 = .ok (.if_icmp .ge 65, 3) := by decide +kernel
theorem dX3_playFrom_14 : decode cX3_playFrom 14 = .ok (.iload_n 2, 1) := by decide +kernel
theorem dX3_playFrom_15 : decode cX3_playFrom 15 = .ok (.bipush 20, 2) := by decide +kernel
theorem dX3_playFrom_17 : decode cX3_playFrom 17 = .ok (.if_icmp .ge 59, 3) := by decide +kernel
theorem dX3_playFrom_20 : decode cX3_playFrom 20 = .ok (.aload_n 0, 1) := by decide +kernel
theorem dX3_playFrom_21 : decode cX3_playFrom 21 = .ok (.getfield 27, 3) := by decide +kernel
theorem dX3_playFrom_24 : decode cX3_playFrom 24 = .ok (.iload_n 2, 1) := by decide +kernel
theorem dX3_playFrom_25 : decode cX3_playFrom 25 = .ok (.iaload, 1) := by decide +kernel
theorem dX3_playFrom_26 : decode cX3_playFrom 26 = .ok (.istore_n 3, 1) := by decide +kernel
theorem dX3_playFrom_27 : decode cX3_playFrom 27 = .ok (.aload_n 0, 1) := by decide +kernel
theorem dX3_playFrom_28 : decode cX3_playFrom 28 = .ok (.iload_n 2, 1) := by decide +kernel
theorem dX3_playFrom_29 : decode cX3_playFrom 29 = .ok (.iload_n 3, 1) := by decide +kernel
theorem dX3_playFrom_30 : decode cX3_playFrom 30 = .ok (.invokevirtual 187, 3) := by decide +kernel
theorem dX3_playFrom_33 : decode cX3_playFrom 33 = .ok (.istore 4, 2) := by decide +kernel
theorem dX3_playFrom_35 : decode cX3_playFrom 35 = .ok (.aload_n 0, 1) := by decide +kernel
theorem dX3_playFrom_36 : decode cX3_playFrom 36 = .ok (.iload_n 2, 1) := by decide +kernel
theorem dX3_playFrom_37 : decode cX3_playFrom 37 = .ok (.aload_n 0, 1) := by decide +kernel
theorem dX3_playFrom_38 : decode cX3_playFrom 38 = .ok (.iload_n 2, 1) := by decide +kernel
theorem dX3_playFrom_39 : decode cX3_playFrom 39 = .ok (.iload_n 3, 1) := by decide +kernel
theorem dX3_playFrom_40 : decode cX3_playFrom 40 = .ok (.iload 4, 2) := by decide +kernel
theorem dX3_playFrom_42 : decode cX3_playFrom 42 = .ok (.invokevirtual 190, 3) := by decide +kernel
theorem dX3_playFrom_45 : decode cX3_playFrom 45 = .ok (.invokevirtual 193, 3) := by decide +kernel
theorem dX3_playFrom_48 : decode cX3_playFrom 48 = .ok (.aload_n 0, 1) := by decide +kernel
theorem dX3_playFrom_49 : decode cX3_playFrom 49 = .ok (.iload_n 2, 1) := by decide +kernel
theorem dX3_playFrom_50 : decode cX3_playFrom 50 = .ok (.iconst 1, 1) := by decide +kernel
theorem dX3_playFrom_51 : decode cX3_playFrom 51 = .ok (.iadd, 1) := by decide +kernel
theorem dX3_playFrom_52 : decode cX3_playFrom 52 = .ok (.iload 4, 2) := by decide +kernel
theorem dX3_playFrom_54 : decode cX3_playFrom 54 = .ok (.invokevirtual 196, 3) := by decide +kernel
theorem dX3_playFrom_57 : decode cX3_playFrom 57 = .ok (.aload_n 0, 1) := by decide +kernel
theorem dX3_playFrom_58 : decode cX3_playFrom 58 = .ok (.getfield 30, 3) := by decide +kernel
theorem dX3_playFrom_61 : decode cX3_playFrom 61 = .ok (.iload_n 2, 1) := by decide +kernel
theorem dX3_playFrom_62 : decode cX3_playFrom 62 = .ok (.aload_n 0, 1) := by decide +kernel
theorem dX3_playFrom_63 : decode cX3_playFrom 63 = .ok (.iload_n 2, 1) := by decide +kernel
theorem dX3_playFrom_64 : decode cX3_playFrom 64 = .ok (.iconst 1, 1) := by decide +kernel
theorem dX3_playFrom_65 : decode cX3_playFrom 65 = .ok (.iadd, 1) := by decide +kernel
theorem dX3_playFrom_66 : decode cX3_playFrom 66 = .ok (.invokevirtual 199, 3) := by decide +kernel
theorem dX3_playFrom_69 : decode cX3_playFrom 69 = .ok (.iastore, 1) := by decide +kernel
theorem dX3_playFrom_70 : decode cX3_playFrom 70 = .ok (.iinc 2 1, 3) := by decide +kernel
theorem dX3_playFrom_73 : decode cX3_playFrom 73 = .ok (.goto (-67), 3) := by decide +kernel
theorem dX3_playFrom_76 : decode cX3_playFrom 76 = .ok (.return_, 1) := by decide +kernel
set_option maxRecDepth 20000 in
theorem ggX3_suppliedTowns_X3_below : GoodIn wsX3_suppliedTowns wsX3_below := goodIn_r _ [7] (by decide +kernel) (by decide +kernel)
set_option maxRecDepth 20000 in
theorem gX3_suppliedTowns_X3_below : GoodIn wsX3_suppliedTowns (va_wsS RX3 44 yX3_below wsX3_below) := goodIn_app (goodIn_of _ (by decide +kernel)) ggX3_suppliedTowns_X3_below
set_option maxRecDepth 20000 in
theorem ggX3_suppliedTowns_X3_opponent : GoodIn wsX3_suppliedTowns wsX3_opponent := goodIn_r _ [10] (by decide +kernel) (by decide +kernel)
set_option maxRecDepth 20000 in
theorem gX3_suppliedTowns_X3_opponent : GoodIn wsX3_suppliedTowns (va_wsS RX3 77 yX3_opponent wsX3_opponent) := goodIn_app (goodIn_of _ (by decide +kernel)) ggX3_suppliedTowns_X3_opponent
set_option maxRecDepth 20000 in
theorem ggX3_suppliedTowns_X2_townsHeld : GoodIn wsX3_suppliedTowns wsX2_townsHeld := goodIn_r _ [15, 16, 17, 18, 19, 14, 20, 21, 22, 23, 24, 25, 26, 27, 28, 29, 30, 31, 32, 5, 6, 7, 33, 34, 56, 57, 58, 59, 60] (by decide +kernel) (by decide +kernel)
set_option maxRecDepth 20000 in
theorem gX3_suppliedTowns_X2_townsHeld : GoodIn wsX3_suppliedTowns (wsV RX3 81 RX2 yX2_townsHeld wsX2_townsHeld) := goodIn_app (goodIn_of _ (by decide +kernel)) ggX3_suppliedTowns_X2_townsHeld
set_option maxRecDepth 20000 in
theorem ggX3_suppliedTowns_X3_bit : GoodIn wsX3_suppliedTowns wsX3_bit := goodIn_r _ [34] (by decide +kernel) (by decide +kernel)
set_option maxRecDepth 20000 in
theorem gX3_suppliedTowns_X3_bit : GoodIn wsX3_suppliedTowns (va_wsS RX3 202 yX3_bit wsX3_bit) := goodIn_app (goodIn_of _ (by decide +kernel)) ggX3_suppliedTowns_X3_bit
set_option maxRecDepth 20000 in
theorem ggX3_suppliedTowns_X0_widened : GoodIn wsX3_suppliedTowns wsX0_widened := goodIn_r _ [40, 41, 6, 42, 35, 33, 34, 43, 44, 45, 39, 46, 47, 48, 5, 7, 61, 62, 63] (by decide +kernel) (by decide +kernel)
set_option maxRecDepth 20000 in
theorem gX3_suppliedTowns_X0_widened : GoodIn wsX3_suppliedTowns (wsV RX3 205 RX0 yX0_widened wsX0_widened) := goodIn_app (goodIn_of _ (by decide +kernel)) ggX3_suppliedTowns_X0_widened
theorem dX3_suppliedTowns_0 : decode cX3_suppliedTowns 0 = .ok (.iload_n 2, 1) := by decide +kernel
theorem dX3_suppliedTowns_1 : decode cX3_suppliedTowns 1 = .ok (.iconst 2, 1) := by decide +kernel
theorem dX3_suppliedTowns_2 : decode cX3_suppliedTowns 2 = .ok (.invokestatic 44, 3) := by decide +kernel
theorem dX3_suppliedTowns_5 : decode cX3_suppliedTowns 5 = .ok (.ifCond .ne 5, 3) := by decide +kernel
theorem dX3_suppliedTowns_8 : decode cX3_suppliedTowns 8 = .ok (.iconst 0, 1) := by decide +kernel
theorem dX3_suppliedTowns_9 : decode cX3_suppliedTowns 9 = .ok (.ireturn, 1) := by decide +kernel
theorem dX3_suppliedTowns_10 : decode cX3_suppliedTowns 10 = .ok (.aload_n 0, 1) := by decide +kernel
theorem dX3_suppliedTowns_11 : decode cX3_suppliedTowns 11 = .ok (.getfield 23, 3) := by decide +kernel
theorem dX3_suppliedTowns_14 : decode cX3_suppliedTowns 14 = .ok (.iload_n 1, 1) := by decide +kernel
theorem dX3_suppliedTowns_15 : decode cX3_suppliedTowns 15 = .ok (.iload_n 2, 1) := by decide +kernel
theorem dX3_suppliedTowns_16 : decode cX3_suppliedTowns 16 = .ok (.invokestatic 77, 3) := by decide +kernel
theorem dX3_suppliedTowns_19 : decode cX3_suppliedTowns 19 = .ok (.invokevirtual 81, 3) := by decide +kernel
theorem dX3_suppliedTowns_22 : decode cX3_suppliedTowns 22 = .ok (.iconst (-1), 1) := by decide +kernel
theorem dX3_suppliedTowns_23 : decode cX3_suppliedTowns 23 = .ok (.ixor, 1) := by decide +kernel
theorem dX3_suppliedTowns_24 : decode cX3_suppliedTowns 24 = .ok (.istore 5, 2) := by decide +kernel
theorem dX3_suppliedTowns_26 : decode cX3_suppliedTowns 26 = .ok (.aload_n 0, 1) := by decide +kernel
theorem dX3_suppliedTowns_27 : decode cX3_suppliedTowns 27 = .ok (.getfield 16, 3) := by decide +kernel
theorem dX3_suppliedTowns_30 : decode cX3_suppliedTowns 30 = .ok (.iload_n 2, 1) := by decide +kernel
theorem dX3_suppliedTowns_31 : decode cX3_suppliedTowns 31 = .ok (.iaload, 1) := by decide +kernel
theorem dX3_suppliedTowns_32 : decode cX3_suppliedTowns 32 = .ok (.invokestatic 202, 3) := by decide +kernel
theorem dX3_suppliedTowns_35 : decode cX3_suppliedTowns 35 = .ok (.iload 5, 2) := by decide +kernel
theorem dX3_suppliedTowns_37 : decode cX3_suppliedTowns 37 = .ok (.iand, 1) := by decide +kernel
theorem dX3_suppliedTowns_38 : decode cX3_suppliedTowns 38 = .ok (.istore 6, 2) := by decide +kernel
theorem dX3_suppliedTowns_40 : decode cX3_suppliedTowns 40 = .ok (.iconst 0, 1) := by decide +kernel
theorem dX3_suppliedTowns_41 : decode cX3_suppliedTowns 41 = .ok (.istore 7, 2) := by decide +kernel
theorem dX3_suppliedTowns_43 : decode cX3_suppliedTowns 43 = .ok (.iload 7, 2) := by decide +kernel
theorem dX3_suppliedTowns_45 : decode cX3_suppliedTowns 45 = .ok (.iload 4, 2) := by decide +kernel
theorem dX3_suppliedTowns_47 : decode cX3_suppliedTowns 47 = .ok (.if_icmp .ge 24, 3) := by decide +kernel
theorem dX3_suppliedTowns_50 : decode cX3_suppliedTowns 50 = .ok (.aload_n 0, 1) := by decide +kernel
theorem dX3_suppliedTowns_51 : decode cX3_suppliedTowns 51 = .ok (.getfield 12, 3) := by decide +kernel
theorem dX3_suppliedTowns_54 : decode cX3_suppliedTowns 54 = .ok (.iload 6, 2) := by decide +kernel
theorem dX3_suppliedTowns_56 : decode cX3_suppliedTowns 56 = .ok (.iload_n 3, 1) := by decide +kernel
theorem dX3_suppliedTowns_57 : decode cX3_suppliedTowns 57 = .ok (.invokevirtual 205, 3) := by decide +kernel
theorem dX3_suppliedTowns_60 : decode cX3_suppliedTowns 60 = .ok (.iload 5, 2) := by decide +kernel
theorem dX3_suppliedTowns_62 : decode cX3_suppliedTowns 62 = .ok (.iand, 1) := by decide +kernel
theorem dX3_suppliedTowns_63 : decode cX3_suppliedTowns 63 = .ok (.istore 6, 2) := by decide +kernel
theorem dX3_suppliedTowns_65 : decode cX3_suppliedTowns 65 = .ok (.iinc 7 1, 3) := by decide +kernel
theorem dX3_suppliedTowns_68 : decode cX3_suppliedTowns 68 = .ok (.goto (-25), 3) := by decide +kernel
theorem dX3_suppliedTowns_71 : decode cX3_suppliedTowns 71 = .ok (.iload 6, 2) := by decide +kernel
theorem dX3_suppliedTowns_73 : decode cX3_suppliedTowns 73 = .ok (.ireturn, 1) := by decide +kernel
set_option maxRecDepth 20000 in
theorem ggX3_suppliedUnits_X3_suppliedTowns : GoodIn wsX3_suppliedUnits wsX3_suppliedTowns := goodIn_r _ [6, 1, 7, 8, 9, 10, 5, 11, 12, 13, 14, 15, 16, 17, 18, 19, 20, 21, 22, 23, 24, 25, 26, 27, 28, 29, 30, 31, 32, 33, 34, 35, 36, 37, 38, 39, 40, 41, 42, 43, 44, 45, 46, 47, 48, 49, 50, 51, 52, 60, 61, 62, 63, 64, 65, 66, 67, 68, 69, 70, 71, 72, 73, 74] (by decide +kernel) (by decide +kernel)
set_option maxRecDepth 20000 in
theorem gX3_suppliedUnits_X3_suppliedTowns : GoodIn wsX3_suppliedUnits (wsV RX3 158 RX3 yX3_suppliedTowns wsX3_suppliedTowns) := goodIn_app (goodIn_of _ (by decide +kernel)) ggX3_suppliedUnits_X3_suppliedTowns
set_option maxRecDepth 20000 in
theorem ggX3_suppliedUnits_X2_count : GoodIn wsX3_suppliedUnits wsX2_count := goodIn_r _ [56, 20, 67, 68, 69, 70, 71] (by decide +kernel) (by decide +kernel)
set_option maxRecDepth 20000 in
theorem gX3_suppliedUnits_X2_count : GoodIn wsX3_suppliedUnits (wsV RX3 88 RX2 yX2_count wsX2_count) := goodIn_app (goodIn_of _ (by decide +kernel)) ggX3_suppliedUnits_X2_count
set_option maxRecDepth 20000 in
theorem ggX3_suppliedUnits_X2_sideOf : GoodIn wsX3_suppliedUnits wsX2_sideOf := goodIn_r _ [35, 36, 10, 5, 11, 67, 68, 69, 70, 71] (by decide +kernel) (by decide +kernel)
set_option maxRecDepth 20000 in
theorem gX3_suppliedUnits_X2_sideOf : GoodIn wsX3_suppliedUnits (wsV RX3 155 RX2 yX2_sideOf wsX2_sideOf) := goodIn_app (goodIn_of _ (by decide +kernel)) ggX3_suppliedUnits_X2_sideOf
set_option maxRecDepth 20000 in
theorem ggX3_suppliedUnits_X2_townAt : GoodIn wsX3_suppliedUnits wsX2_townAt := goodIn_r _ [24, 25, 26, 27, 18, 28, 29, 30, 31, 67, 68, 69, 70, 71] (by decide +kernel) (by decide +kernel)
set_option maxRecDepth 20000 in
theorem gX3_suppliedUnits_X2_townAt : GoodIn wsX3_suppliedUnits (wsV RX3 149 RX2 yX2_townAt wsX2_townAt) := goodIn_app (goodIn_of _ (by decide +kernel)) ggX3_suppliedUnits_X2_townAt
set_option maxRecDepth 20000 in
theorem ggX3_suppliedUnits_X3_has : GoodIn wsX3_suppliedUnits wsX3_has := goodIn_r _ [46, 39, 37, 5, 38] (by decide +kernel) (by decide +kernel)
set_option maxRecDepth 20000 in
theorem gX3_suppliedUnits_X3_has : GoodIn wsX3_suppliedUnits (va_wsS RX3 85 yX3_has wsX3_has) := goodIn_app (goodIn_of _ (by decide +kernel)) ggX3_suppliedUnits_X3_has
set_option maxRecDepth 20000 in
theorem ggX3_suppliedUnits_X3_bit : GoodIn wsX3_suppliedUnits wsX3_bit := goodIn_r _ [38] (by decide +kernel) (by decide +kernel)
set_option maxRecDepth 20000 in
theorem gX3_suppliedUnits_X3_bit : GoodIn wsX3_suppliedUnits (va_wsS RX3 202 yX3_bit wsX3_bit) := goodIn_app (goodIn_of _ (by decide +kernel)) ggX3_suppliedUnits_X3_bit
theorem dX3_suppliedUnits_0 : decode cX3_suppliedUnits 0 = .ok (.aload_n 0, 1) := by decide +kernel
theorem dX3_suppliedUnits_1 : decode cX3_suppliedUnits 1 = .ok (.iload_n 1, 1) := by decide +kernel
theorem dX3_suppliedUnits_2 : decode cX3_suppliedUnits 2 = .ok (.iconst 0, 1) := by decide +kernel
theorem dX3_suppliedUnits_3 : decode cX3_suppliedUnits 3 = .ok (.iload_n 2, 1) := by decide +kernel
theorem dX3_suppliedUnits_4 : decode cX3_suppliedUnits 4 = .ok (.iconst 4, 1) := by decide +kernel
theorem dX3_suppliedUnits_5 : decode cX3_suppliedUnits 5 = .ok (.invokevirtual 158, 3) := by decide +kernel
theorem dX3_suppliedUnits_8 : decode cX3_suppliedUnits 8 = .ok (.istore_n 3, 1) := by decide +kernel
theorem dX3_suppliedUnits_9 : decode cX3_suppliedUnits 9 = .ok (.aload_n 0, 1) := by decide +kernel
theorem dX3_suppliedUnits_10 : decode cX3_suppliedUnits 10 = .ok (.iload_n 1, 1) := by decide +kernel
theorem dX3_suppliedUnits_11 : decode cX3_suppliedUnits 11 = .ok (.iconst 1, 1) := by decide +kernel
theorem dX3_suppliedUnits_12 : decode cX3_suppliedUnits 12 = .ok (.iload_n 2, 1) := by decide +kernel
theorem dX3_suppliedUnits_13 : decode cX3_suppliedUnits 13 = .ok (.iconst 4, 1) := by decide +kernel
theorem dX3_suppliedUnits_14 : decode cX3_suppliedUnits 14 = .ok (.invokevirtual 158, 3) := by decide +kernel
theorem dX3_suppliedUnits_17 : decode cX3_suppliedUnits 17 = .ok (.istore 4, 2) := by decide +kernel
theorem dX3_suppliedUnits_19 : decode cX3_suppliedUnits 19 = .ok (.iconst 0, 1) := by decide +kernel
theorem dX3_suppliedUnits_20 : decode cX3_suppliedUnits 20 = .ok (.istore 5, 2) := by decide +kernel
theorem dX3_suppliedUnits_22 : decode cX3_suppliedUnits 22 = .ok (.iconst 0, 1) := by decide +kernel
theorem dX3_suppliedUnits_23 : decode cX3_suppliedUnits 23 = .ok (.istore 6, 2) := by decide +kernel
theorem dX3_suppliedUnits_25 : decode cX3_suppliedUnits 25 = .ok (.iload 6, 2) := by decide +kernel
theorem dX3_suppliedUnits_27 : decode cX3_suppliedUnits 27 = .ok (.aload_n 0, 1) := by decide +kernel
theorem dX3_suppliedUnits_28 : decode cX3_suppliedUnits 28 = .ok (.getfield 23, 3) := by decide +kernel
theorem dX3_suppliedUnits_31 : decode cX3_suppliedUnits 31 = .ok (.invokevirtual 88, 3) := by decide +kernel
theorem dX3_suppliedUnits_34 : decode cX3_suppliedUnits 34 = .ok (.if_icmp .ge 53, 3) := by decide +kernel
theorem dX3_suppliedUnits_37 : decode cX3_suppliedUnits 37 = .ok (.aload_n 0, 1) := by decide +kernel
theorem dX3_suppliedUnits_38 : decode cX3_suppliedUnits 38 = .ok (.getfield 23, 3) := by decide +kernel
theorem dX3_suppliedUnits_41 : decode cX3_suppliedUnits 41 = .ok (.iload 6, 2) := by decide +kernel
theorem dX3_suppliedUnits_43 : decode cX3_suppliedUnits 43 = .ok (.invokevirtual 155, 3) := by decide +kernel
theorem dX3_suppliedUnits_46 : decode cX3_suppliedUnits 46 = .ok (.ifCond .ne 7, 3) := by decide +kernel
theorem dX3_suppliedUnits_49 : decode cX3_suppliedUnits 49 = .ok (.iload_n 3, 1) := by decide +kernel
theorem dX3_suppliedUnits_50 : decode cX3_suppliedUnits 50 = .ok (.goto 5, 3) := by decide +kernel
theorem dX3_suppliedUnits_53 : decode cX3_suppliedUnits 53 = .ok (.iload 4, 2) := by decide +kernel
theorem dX3_suppliedUnits_55 : decode cX3_suppliedUnits 55 = .ok (.aload_n 0, 1) := by decide +kernel
theorem dX3_suppliedUnits_56 : decode cX3_suppliedUnits 56 = .ok (.getfield 23, 3) := by decide +kernel
theorem dX3_suppliedUnits_59 : decode cX3_suppliedUnits 59 = .ok (.iload_n 1, 1) := by decide +kernel
theorem dX3_suppliedUnits_60 : decode cX3_suppliedUnits 60 = .ok (.iload 6, 2) := by decide +kernel
theorem dX3_suppliedUnits_62 : decode cX3_suppliedUnits 62 = .ok (.invokevirtual 149, 3) := by decide +kernel
theorem dX3_suppliedUnits_65 : decode cX3_suppliedUnits 65 = .ok (.invokestatic 85, 3) := by decide +kernel
theorem dX3_suppliedUnits_68 : decode cX3_suppliedUnits 68 = .ok (.ifCond .eq 13, 3) := by decide +kernel
theorem dX3_suppliedUnits_71 : decode cX3_suppliedUnits 71 = .ok (.iload 5, 2) := by decide +kernel
theorem dX3_suppliedUnits_73 : decode cX3_suppliedUnits 73 = .ok (.iload 6, 2) := by decide +kernel
theorem dX3_suppliedUnits_75 : decode cX3_suppliedUnits 75 = .ok (.invokestatic 202, 3) := by decide +kernel
theorem dX3_suppliedUnits_78 : decode cX3_suppliedUnits 78 = .ok (.ior, 1) := by decide +kernel
theorem dX3_suppliedUnits_79 : decode cX3_suppliedUnits 79 = .ok (.istore 5, 2) := by decide +kernel
theorem dX3_suppliedUnits_81 : decode cX3_suppliedUnits 81 = .ok (.iinc 6 1, 3) := by decide +kernel
theorem dX3_suppliedUnits_84 : decode cX3_suppliedUnits 84 = .ok (.goto (-59), 3) := by decide +kernel
theorem dX3_suppliedUnits_87 : decode cX3_suppliedUnits 87 = .ok (.iload 5, 2) := by decide +kernel
theorem dX3_suppliedUnits_89 : decode cX3_suppliedUnits 89 = .ok (.ireturn, 1) := by decide +kernel
set_option maxRecDepth 20000 in
theorem ggX3_goers_X2_count : GoodIn wsX3_goers wsX2_count := goodIn_r _ [7, 8, 48, 49, 50, 51, 52] (by decide +kernel) (by decide +kernel)
set_option maxRecDepth 20000 in
theorem gX3_goers_X2_count : GoodIn wsX3_goers (wsV RX3 88 RX2 yX2_count wsX2_count) := goodIn_app (goodIn_of _ (by decide +kernel)) ggX3_goers_X2_count
set_option maxRecDepth 20000 in
theorem ggX3_goers_X2_townAt : GoodIn wsX3_goers wsX2_townAt := goodIn_r _ [12, 13, 14, 15, 6, 16, 17, 18, 19, 48, 49, 50, 51, 52] (by decide +kernel) (by decide +kernel)
set_option maxRecDepth 20000 in
theorem gX3_goers_X2_townAt : GoodIn wsX3_goers (wsV RX3 149 RX2 yX2_townAt wsX2_townAt) := goodIn_app (goodIn_of _ (by decide +kernel)) ggX3_goers_X2_townAt
set_option maxRecDepth 20000 in
theorem ggX3_goers_X0_nextOverOpen : GoodIn wsX3_goers wsX0_nextOverOpen := goodIn_r _ [24, 25, 26, 27, 28, 29, 53, 54, 55] (by decide +kernel) (by decide +kernel)
set_option maxRecDepth 20000 in
theorem gX3_goers_X0_nextOverOpen : GoodIn wsX3_goers (wsV RX3 208 RX0 yX0_nextOverOpen wsX0_nextOverOpen) := goodIn_app (goodIn_of _ (by decide +kernel)) ggX3_goers_X0_nextOverOpen
set_option maxRecDepth 20000 in
theorem ggX3_goers_X3_has : GoodIn wsX3_goers wsX3_has := goodIn_r _ [32, 33, 34, 28, 35] (by decide +kernel) (by decide +kernel)
set_option maxRecDepth 20000 in
theorem gX3_goers_X3_has : GoodIn wsX3_goers (va_wsS RX3 85 yX3_has wsX3_has) := goodIn_app (goodIn_of _ (by decide +kernel)) ggX3_goers_X3_has
set_option maxRecDepth 20000 in
theorem ggX3_goers_X2_orderFor : GoodIn wsX3_goers wsX2_orderFor := goodIn_r _ [39, 40, 14, 15, 6, 16, 17, 18, 19, 48, 49, 50, 51, 52] (by decide +kernel) (by decide +kernel)
set_option maxRecDepth 20000 in
theorem gX3_goers_X2_orderFor : GoodIn wsX3_goers (wsV RX3 103 RX2 yX2_orderFor wsX2_orderFor) := goodIn_app (goodIn_of _ (by decide +kernel)) ggX3_goers_X2_orderFor
set_option maxRecDepth 20000 in
theorem ggX3_goers_X3_bit : GoodIn wsX3_goers wsX3_bit := goodIn_r _ [35] (by decide +kernel) (by decide +kernel)
set_option maxRecDepth 20000 in
theorem gX3_goers_X3_bit : GoodIn wsX3_goers (va_wsS RX3 202 yX3_bit wsX3_bit) := goodIn_app (goodIn_of _ (by decide +kernel)) ggX3_goers_X3_bit
theorem dX3_goers_0 : decode cX3_goers 0 = .ok (.iconst 0, 1) := by decide +kernel
theorem dX3_goers_1 : decode cX3_goers 1 = .ok (.istore 4, 2) := by decide +kernel
theorem dX3_goers_3 : decode cX3_goers 3 = .ok (.iconst 0, 1) := by decide +kernel
theorem dX3_goers_4 : decode cX3_goers 4 = .ok (.istore 5, 2) := by decide +kernel
theorem dX3_goers_6 : decode cX3_goers 6 = .ok (.iload 5, 2) := by decide +kernel
theorem dX3_goers_8 : decode cX3_goers 8 = .ok (.aload_n 0, 1) := by decide +kernel
theorem dX3_goers_9 : decode cX3_goers 9 = .ok (.getfield 23, 3) := by decide +kernel
theorem dX3_goers_12 : decode cX3_goers 12 = .ok (.invokevirtual 88, 3) := by decide +kernel
theorem dX3_goers_15 : decode cX3_goers 15 = .ok (.if_icmp .ge 66, 3) := by decide +kernel
theorem dX3_goers_18 : decode cX3_goers 18 = .ok (.aload_n 0, 1) := by decide +kernel
theorem dX3_goers_19 : decode cX3_goers 19 = .ok (.getfield 12, 3) := by decide +kernel
theorem dX3_goers_22 : decode cX3_goers 22 = .ok (.aload_n 0, 1) := by decide +kernel
theorem dX3_goers_23 : decode cX3_goers 23 = .ok (.getfield 23, 3) := by decide +kernel
theorem dX3_goers_26 : decode cX3_goers 26 = .ok (.iload_n 1, 1) := by decide +kernel
theorem dX3_goers_27 : decode cX3_goers 27 = .ok (.iload 5, 2) := by decide +kernel
theorem dX3_goers_29 : decode cX3_goers 29 = .ok (.invokevirtual 149, 3) := by decide +kernel
theorem dX3_goers_32 : decode cX3_goers 32 = .ok (.iload_n 2, 1) := by decide +kernel
theorem dX3_goers_33 : decode cX3_goers 33 = .ok (.invokevirtual 208, 3) := by decide +kernel
theorem dX3_goers_36 : decode cX3_goers 36 = .ok (.istore 6, 2) := by decide +kernel
theorem dX3_goers_38 : decode cX3_goers 38 = .ok (.iload_n 3, 1) := by decide +kernel
theorem dX3_goers_39 : decode cX3_goers 39 = .ok (.iload 5, 2) := by decide +kernel
theorem dX3_goers_41 : decode cX3_goers 41 = .ok (.invokestatic 85, 3) := by decide +kernel
theorem dX3_goers_44 : decode cX3_goers 44 = .ok (.ifCond .eq 31, 3) := by decide +kernel
theorem dX3_goers_47 : decode cX3_goers 47 = .ok (.iload 6, 2) := by decide +kernel
theorem dX3_goers_49 : decode cX3_goers 49 = .ok (.aload_n 0, 1) := by decide +kernel
theorem dX3_goers_50 : decode cX3_goers 50 = .ok (.getfield 23, 3) := by decide +kernel
theorem dX3_goers_53 : decode cX3_goers 53 = .ok (.iload_n 1, 1) := by decide +kernel
theorem dX3_goers_54 : decode cX3_goers 54 = .ok (.iload 5, 2) := by decide +kernel
theorem dX3_goers_56 : decode cX3_goers 56 = .ok (.invokevirtual 103, 3) := by decide +kernel
theorem dX3_goers_59 : decode cX3_goers 59 = .ok (.invokestatic 85, 3) := by decide +kernel
theorem dX3_goers_62 : decode cX3_goers 62 = .ok (.ifCond .eq 13, 3) := by decide +kernel
theorem dX3_goers_65 : decode cX3_goers 65 = .ok (.iload 4, 2) := by decide +kernel
theorem dX3_goers_67 : decode cX3_goers 67 = .ok (.iload 5, 2) := by decide +kernel
theorem dX3_goers_69 : decode cX3_goers 69 = .ok (.invokestatic 202, 3) := by decide +kernel
theorem dX3_goers_72 : decode cX3_goers 72 = .ok (.ior, 1) := by decide +kernel
theorem dX3_goers_73 : decode cX3_goers 73 = .ok (.istore 4, 2) := by decide +kernel
theorem dX3_goers_75 : decode cX3_goers 75 = .ok (.iinc 5 1, 3) := by decide +kernel
theorem dX3_goers_78 : decode cX3_goers 78 = .ok (.goto (-72), 3) := by decide +kernel
theorem dX3_goers_81 : decode cX3_goers 81 = .ok (.iload 4, 2) := by decide +kernel
theorem dX3_goers_83 : decode cX3_goers 83 = .ok (.ireturn, 1) := by decide +kernel
set_option maxRecDepth 20000 in
theorem ggX3_march_X2_count : GoodIn wsX3_march wsX2_count := goodIn_r _ [6, 7, 62, 63, 64, 65, 66] (by decide +kernel) (by decide +kernel)
set_option maxRecDepth 20000 in
theorem gX3_march_X2_count : GoodIn wsX3_march (wsV RX3 88 RX2 yX2_count wsX2_count) := goodIn_app (goodIn_of _ (by decide +kernel)) ggX3_march_X2_count
set_option maxRecDepth 20000 in
theorem ggX3_march_X3_has : GoodIn wsX3_march wsX3_has := goodIn_r _ [11, 12, 13, 10, 14] (by decide +kernel) (by decide +kernel)
set_option maxRecDepth 20000 in
theorem gX3_march_X3_has : GoodIn wsX3_march (va_wsS RX3 85 yX3_has wsX3_has) := goodIn_app (goodIn_of _ (by decide +kernel)) ggX3_march_X3_has
set_option maxRecDepth 20000 in
theorem ggX3_march_X3_isMetOnRoad : GoodIn wsX3_march wsX3_isMetOnRoad := goodIn_r _ [18, 1, 2, 3, 4, 5, 6, 7, 8, 9, 10, 11, 12, 13, 14, 19, 20, 21, 22, 23, 24, 25, 26, 27, 28, 29, 30, 31, 32, 33, 34, 35, 36, 37, 38, 39, 40, 41, 55, 56, 57, 58, 59, 60, 61, 62, 63, 64, 65, 66] (by decide +kernel) (by decide +kernel)
set_option maxRecDepth 20000 in
theorem gX3_march_X3_isMetOnRoad : GoodIn wsX3_march (wsV RX3 211 RX3 yX3_isMetOnRoad wsX3_isMetOnRoad) := goodIn_app (goodIn_of _ (by decide +kernel)) ggX3_march_X3_isMetOnRoad
set_option maxRecDepth 20000 in
theorem ggX3_march_X2_orderFor : GoodIn wsX3_march wsX2_orderFor := goodIn_r _ [40, 41, 31, 32, 5, 33, 34, 35, 36, 62, 63, 64, 65, 66] (by decide +kernel) (by decide +kernel)
set_option maxRecDepth 20000 in
theorem gX3_march_X2_orderFor : GoodIn wsX3_march (wsV RX3 103 RX2 yX2_orderFor wsX2_orderFor) := goodIn_app (goodIn_of _ (by decide +kernel)) ggX3_march_X2_orderFor
set_option maxRecDepth 20000 in
theorem ggX3_march_X2_townAt : GoodIn wsX3_march wsX2_townAt := goodIn_r _ [29, 30, 31, 32, 5, 33, 34, 35, 36, 62, 63, 64, 65, 66] (by decide +kernel) (by decide +kernel)
set_option maxRecDepth 20000 in
theorem gX3_march_X2_townAt : GoodIn wsX3_march (wsV RX3 149 RX2 yX2_townAt wsX2_townAt) := goodIn_app (goodIn_of _ (by decide +kernel)) ggX3_march_X2_townAt
set_option maxRecDepth 20000 in
theorem ggX3_march_X2_strengthAt : GoodIn wsX3_march wsX2_strengthAt := goodIn_r _ [45, 46, 31, 32, 5, 33, 34, 35, 36, 62, 63, 64, 65, 66] (by decide +kernel) (by decide +kernel)
set_option maxRecDepth 20000 in
theorem gX3_march_X2_strengthAt : GoodIn wsX3_march (wsV RX3 152 RX2 yX2_strengthAt wsX2_strengthAt) := goodIn_app (goodIn_of _ (by decide +kernel)) ggX3_march_X2_strengthAt
set_option maxRecDepth 20000 in
theorem ggX3_march_X2_place : GoodIn wsX3_march wsX2_place := goodIn_r _ [50, 30, 46, 51, 52, 53, 54, 31, 32, 5, 33, 34, 35, 36, 62, 63, 64, 65, 66] (by decide +kernel) (by decide +kernel)
set_option maxRecDepth 20000 in
theorem gX3_march_X2_place : GoodIn wsX3_march (wsV RX3 215 RX2 yX2_place wsX2_place) := goodIn_app (goodIn_of _ (by decide +kernel)) ggX3_march_X2_place
theorem dX3_march_0 : decode cX3_march 0 = .ok (.iconst 0, 1) := by decide +kernel
theorem dX3_march_1 : decode cX3_march 1 = .ok (.istore_n 3, 1) := by decide +kernel
theorem dX3_march_2 : decode cX3_march 2 = .ok (.iload_n 3, 1) := by decide +kernel
theorem dX3_march_3 : decode cX3_march 3 = .ok (.aload_n 0, 1) := by decide +kernel
theorem dX3_march_4 : decode cX3_march 4 = .ok (.getfield 23, 3) := by decide +kernel
theorem dX3_march_7 : decode cX3_march 7 = .ok (.invokevirtual 88, 3) := by decide +kernel
theorem dX3_march_10 : decode cX3_march 10 = .ok (.if_icmp .ge 84, 3) := by decide +kernel
theorem dX3_march_13 : decode cX3_march 13 = .ok (.iload_n 2, 1) := by decide +kernel
theorem dX3_march_14 : decode cX3_march 14 = .ok (.iload_n 3, 1) := by decide +kernel
theorem dX3_march_15 : decode cX3_march 15 = .ok (.invokestatic 85, 3) := by decide +kernel
theorem dX3_march_18 : decode cX3_march 18 = .ok (.ifCond .eq 17, 3) := by decide +kernel
theorem dX3_march_21 : decode cX3_march 21 = .ok (.aload_n 0, 1) := by decide +kernel
theorem dX3_march_22 : decode cX3_march 22 = .ok (.iload_n 1, 1) := by decide +kernel
theorem dX3_march_23 : decode cX3_march 23 = .ok (.iload_n 3, 1) := by decide +kernel
theorem dX3_march_24 : decode cX3_march 24 = .ok (.iload_n 2, 1) := by decide +kernel
theorem dX3_march_25 : decode cX3_march 25 = .ok (.invokevirtual 211, 3) := by decide +kernel
theorem dX3_march_28 : decode cX3_march 28 = .ok (.ifCond .ne 7, 3) := by decide +kernel
theorem dX3_march_31 : decode cX3_march 31 = .ok (.iconst 1, 1) := by decide +kernel
theorem dX3_march_32 : decode cX3_march 32 = .ok (.goto 4, 3) := by decide +kernel
theorem dX3_march_35 : decode cX3_march 35 = .ok (.iconst 0, 1) := by decide +kernel
theorem dX3_march_36 : decode cX3_march 36 = .ok (.istore 4, 2) := by decide +kernel
theorem dX3_march_38 : decode cX3_march 38 = .ok (.iload 4, 2) := by decide +kernel
theorem dX3_march_40 : decode cX3_march 40 = .ok (.ifCond .eq 15, 3) := by decide +kernel
theorem dX3_march_43 : decode cX3_march 43 = .ok (.aload_n 0, 1) := by decide +kernel
theorem dX3_march_44 : decode cX3_march 44 = .ok (.getfield 23, 3) := by decide +kernel
theorem dX3_march_47 : decode cX3_march 47 = .ok (.iload_n 1, 1) := by decide +kernel
theorem dX3_march_48 : decode cX3_march 48 = .ok (.iload_n 3, 1) := by decide +kernel
theorem dX3_march_49 : decode cX3_march 49 = .ok (.invokevirtual 103, 3) := by decide +kernel
theorem dX3_march_52 : decode cX3_march 52 = .ok (.goto 12, 3) := by decide +kernel
theorem dX3_march_55 : decode cX3_march 55 = .ok (.aload_n 0, 1) := by decide +kernel
theorem dX3_march_56 : decode cX3_march 56 = .ok (.getfield 23, 3) := by decide +kernel
theorem dX3_march_59 : decode cX3_march 59 = .ok (.iload_n 1, 1) := by decide +kernel
theorem dX3_march_60 : decode cX3_march 60 = .ok (.iload_n 3, 1) := by decide +kernel
theorem dX3_march_61 : decode cX3_march 61 = .ok (.invokevirtual 149, 3) := by decide +kernel
theorem dX3_march_64 : decode cX3_march 64 = .ok (.istore 5, 2) := by decide +kernel
theorem dX3_march_66 : decode cX3_march 66 = .ok (.aload_n 0, 1) := by decide +kernel
theorem dX3_march_67 : decode cX3_march 67 = .ok (.getfield 23, 3) := by decide +kernel
theorem dX3_march_70 : decode cX3_march 70 = .ok (.iload_n 1, 1) := by decide +kernel
theorem dX3_march_71 : decode cX3_march 71 = .ok (.iconst 1, 1) := by decide +kernel
theorem dX3_march_72 : decode cX3_march 72 = .ok (.iadd, 1) := by decide +kernel
theorem dX3_march_73 : decode cX3_march 73 = .ok (.iload_n 3, 1) := by decide +kernel
theorem dX3_march_74 : decode cX3_march 74 = .ok (.iload 5, 2) := by decide +kernel
theorem dX3_march_76 : decode cX3_march 76 = .ok (.aload_n 0, 1) := by decide +kernel
theorem dX3_march_77 : decode cX3_march 77 = .ok (.getfield 23, 3) := by decide +kernel
theorem dX3_march_80 : decode cX3_march 80 = .ok (.iload_n 1, 1) := by decide +kernel
theorem dX3_march_81 : decode cX3_march 81 = .ok (.iload_n 3, 1) := by decide +kernel
theorem dX3_march_82 : decode cX3_march 82 = .ok (.invokevirtual 152, 3) := by decide +kernel
theorem dX3_march_85 : decode cX3_march 85 = .ok (.invokevirtual 215, 3) := by decide +kernel
theorem dX3_march_88 : decode cX3_march 88 = .ok (.iinc 3 1, 3) := by decide +kernel
theorem dX3_march_91 : decode cX3_march 91 = .ok (.goto (-89), 3) := by decide +kernel
theorem dX3_march_94 : decode cX3_march 94 = .ok (.return_, 1) := by decide +kernel
set_option maxRecDepth 20000 in
theorem ggX3_isMetOnRoad_X2_count : GoodIn wsX3_isMetOnRoad wsX2_count := goodIn_r _ [6, 7, 45, 46, 47, 48, 49] (by decide +kernel) (by decide +kernel)
set_option maxRecDepth 20000 in
theorem gX3_isMetOnRoad_X2_count : GoodIn wsX3_isMetOnRoad (wsV RX3 88 RX2 yX2_count wsX2_count) := goodIn_app (goodIn_of _ (by decide +kernel)) ggX3_isMetOnRoad_X2_count
set_option maxRecDepth 20000 in
theorem ggX3_isMetOnRoad_X3_has : GoodIn wsX3_isMetOnRoad wsX3_has := goodIn_r _ [11, 12, 13, 10, 14] (by decide +kernel) (by decide +kernel)
set_option maxRecDepth 20000 in
theorem gX3_isMetOnRoad_X3_has : GoodIn wsX3_isMetOnRoad (va_wsS RX3 85 yX3_has wsX3_has) := goodIn_app (goodIn_of _ (by decide +kernel)) ggX3_isMetOnRoad_X3_has
set_option maxRecDepth 20000 in
theorem ggX3_isMetOnRoad_X2_sideOf : GoodIn wsX3_isMetOnRoad wsX2_sideOf := goodIn_r _ [18, 19, 20, 10, 21, 45, 46, 47, 48, 49] (by decide +kernel) (by decide +kernel)
set_option maxRecDepth 20000 in
theorem gX3_isMetOnRoad_X2_sideOf : GoodIn wsX3_isMetOnRoad (wsV RX3 155 RX2 yX2_sideOf wsX2_sideOf) := goodIn_app (goodIn_of _ (by decide +kernel)) ggX3_isMetOnRoad_X2_sideOf
set_option maxRecDepth 20000 in
theorem ggX3_isMetOnRoad_X2_townAt : GoodIn wsX3_isMetOnRoad wsX2_townAt := goodIn_r _ [25, 26, 27, 28, 5, 29, 30, 31, 32, 45, 46, 47, 48, 49] (by decide +kernel) (by decide +kernel)
set_option maxRecDepth 20000 in
theorem gX3_isMetOnRoad_X2_townAt : GoodIn wsX3_isMetOnRoad (wsV RX3 149 RX2 yX2_townAt wsX2_townAt) := goodIn_app (goodIn_of _ (by decide +kernel)) ggX3_isMetOnRoad_X2_townAt
set_option maxRecDepth 20000 in
theorem ggX3_isMetOnRoad_X2_orderFor : GoodIn wsX3_isMetOnRoad wsX2_orderFor := goodIn_r _ [36, 37, 27, 28, 5, 29, 30, 31, 32, 45, 46, 47, 48, 49] (by decide +kernel) (by decide +kernel)
set_option maxRecDepth 20000 in
theorem gX3_isMetOnRoad_X2_orderFor : GoodIn wsX3_isMetOnRoad (wsV RX3 103 RX2 yX2_orderFor wsX2_orderFor) := goodIn_app (goodIn_of _ (by decide +kernel)) ggX3_isMetOnRoad_X2_orderFor
theorem dX3_isMetOnRoad_0 : decode cX3_isMetOnRoad 0 = .ok (.iconst 0, 1) := by decide +kernel
theorem dX3_isMetOnRoad_1 : decode cX3_isMetOnRoad 1 = .ok (.istore 4, 2) := by decide +kernel
theorem dX3_isMetOnRoad_3 : decode cX3_isMetOnRoad 3 = .ok (.iload 4, 2) := by decide +kernel
theorem dX3_isMetOnRoad_5 : decode cX3_isMetOnRoad 5 = .ok (.aload_n 0, 1) := by decide +kernel
theorem dX3_isMetOnRoad_6 : decode cX3_isMetOnRoad 6 = .ok (.getfield 23, 3) := by decide +kernel
theorem dX3_isMetOnRoad_9 : decode cX3_isMetOnRoad 9 = .ok (.invokevirtual 88, 3) := by decide +kernel
theorem dX3_isMetOnRoad_12 : decode cX3_isMetOnRoad 12 = .ok (.if_icmp .ge 84, 3) := by decide +kernel
theorem dX3_isMetOnRoad_15 : decode cX3_isMetOnRoad 15 = .ok (.iload_n 3, 1) := by decide +kernel
theorem dX3_isMetOnRoad_16 : decode cX3_isMetOnRoad 16 = .ok (.iload 4, 2) := by decide +kernel
theorem dX3_isMetOnRoad_18 : decode cX3_isMetOnRoad 18 = .ok (.invokestatic 85, 3) := by decide +kernel
theorem dX3_isMetOnRoad_21 : decode cX3_isMetOnRoad 21 = .ok (.ifCond .eq 69, 3) := by decide +kernel
theorem dX3_isMetOnRoad_24 : decode cX3_isMetOnRoad 24 = .ok (.aload_n 0, 1) := by decide +kernel
theorem dX3_isMetOnRoad_25 : decode cX3_isMetOnRoad 25 = .ok (.getfield 23, 3) := by decide +kernel
theorem dX3_isMetOnRoad_28 : decode cX3_isMetOnRoad 28 = .ok (.iload 4, 2) := by decide +kernel
theorem dX3_isMetOnRoad_30 : decode cX3_isMetOnRoad 30 = .ok (.invokevirtual 155, 3) := by decide +kernel
theorem dX3_isMetOnRoad_33 : decode cX3_isMetOnRoad 33 = .ok (.aload_n 0, 1) := by decide +kernel
theorem dX3_isMetOnRoad_34 : decode cX3_isMetOnRoad 34 = .ok (.getfield 23, 3) := by decide +kernel
theorem dX3_isMetOnRoad_37 : decode cX3_isMetOnRoad 37 = .ok (.iload_n 2, 1) := by decide +kernel
theorem dX3_isMetOnRoad_38 : decode cX3_isMetOnRoad 38 = .ok (.invokevirtual 155, 3) := by decide +kernel
theorem dX3_isMetOnRoad_41 : decode cX3_isMetOnRoad 41 = .ok (.if_icmp .eq 49, 3) := by decide +kernel
theorem dX3_isMetOnRoad_44 : decode cX3_isMetOnRoad 44 = .ok (.aload_n 0, 1) := by decide +kernel
theorem dX3_isMetOnRoad_45 : decode cX3_isMetOnRoad 45 = .ok (.getfield 23, 3) := by decide +kernel
theorem dX3_isMetOnRoad_48 : decode cX3_isMetOnRoad 48 = .ok (.iload_n 1, 1) := by decide +kernel
theorem dX3_isMetOnRoad_49 : decode cX3_isMetOnRoad 49 = .ok (.iload 4, 2) := by decide +kernel
theorem dX3_isMetOnRoad_51 : decode cX3_isMetOnRoad 51 = .ok (.invokevirtual 149, 3) := by decide +kernel
theorem dX3_isMetOnRoad_54 : decode cX3_isMetOnRoad 54 = .ok (.aload_n 0, 1) := by decide +kernel
theorem dX3_isMetOnRoad_55 : decode cX3_isMetOnRoad 55 = .ok (.getfield 23, 3) := by decide +kernel
theorem dX3_isMetOnRoad_58 : decode cX3_isMetOnRoad 58 = .ok (.iload_n 1, 1) := by decide +kernel
theorem dX3_isMetOnRoad_59 : decode cX3_isMetOnRoad 59 = .ok (.iload_n 2, 1) := by decide +kernel
theorem dX3_isMetOnRoad_60 : decode cX3_isMetOnRoad 60 = .ok (.invokevirtual 103, 3) := by decide +kernel
theorem dX3_isMetOnRoad_63 : decode cX3_isMetOnRoad 63 = .ok (.if_icmp .ne 27, 3) := by decide +kernel
theorem dX3_isMetOnRoad_66 : decode cX3_isMetOnRoad 66 = .ok (.aload_n 0, 1) := by decide +kernel
theorem dX3_isMetOnRoad_67 : decode cX3_isMetOnRoad 67 = .ok (.getfield 23, 3) := by decide +kernel
theorem dX3_isMetOnRoad_70 : decode cX3_isMetOnRoad 70 = .ok (.iload_n 1, 1) := by decide +kernel
theorem dX3_isMetOnRoad_71 : decode cX3_isMetOnRoad 71 = .ok (.iload 4, 2) := by decide +kernel
theorem dX3_isMetOnRoad_73 : decode cX3_isMetOnRoad 73 = .ok (.invokevirtual 103, 3) := by decide +kernel
theorem dX3_isMetOnRoad_76 : decode cX3_isMetOnRoad 76 = .ok (.aload_n 0, 1) := by decide +kernel
theorem dX3_isMetOnRoad_77 : decode cX3_isMetOnRoad 77 = .ok (.getfield 23, 3) := by decide +kernel
theorem dX3_isMetOnRoad_80 : decode cX3_isMetOnRoad 80 = .ok (.iload_n 1, 1) := by decide +kernel
theorem dX3_isMetOnRoad_81 : decode cX3_isMetOnRoad 81 = .ok (.iload_n 2, 1) := by decide +kernel
theorem dX3_isMetOnRoad_82 : decode cX3_isMetOnRoad 82 = .ok (.invokevirtual 149, 3) := by decide +kernel
theorem dX3_isMetOnRoad_85 : decode cX3_isMetOnRoad 85 = .ok (.if_icmp .ne 5, 3) := by decide +kernel
theorem dX3_isMetOnRoad_88 : decode cX3_isMetOnRoad 88 = .ok (.iconst 1, 1) := by decide +kernel
theorem dX3_isMetOnRoad_89 : decode cX3_isMetOnRoad 89 = .ok (.ireturn, 1) := by decide +kernel
theorem dX3_isMetOnRoad_90 : decode cX3_isMetOnRoad 90 = .ok (.iinc 4 1, 3) := by decide +kernel
theorem dX3_isMetOnRoad_93 : decode cX3_isMetOnRoad 93 = .ok (.goto (-90), 3) := by decide +kernel
theorem dX3_isMetOnRoad_96 : decode cX3_isMetOnRoad 96 = .ok (.iconst 0, 1) := by decide +kernel
theorem dX3_isMetOnRoad_97 : decode cX3_isMetOnRoad 97 = .ok (.ireturn, 1) := by decide +kernel
set_option maxRecDepth 20000 in
theorem ggX3_fightEverywhere_X2_townsHeld : GoodIn wsX3_fightEverywhere wsX2_townsHeld := goodIn_r _ [6, 7, 8, 9, 10, 5, 11, 12, 13, 14, 15, 16, 17, 18, 19, 20, 21, 22, 23, 24, 25, 26, 27, 28, 70, 71, 72, 73, 74] (by decide +kernel) (by decide +kernel)
set_option maxRecDepth 20000 in
theorem gX3_fightEverywhere_X2_townsHeld : GoodIn wsX3_fightEverywhere (wsV RX3 81 RX2 yX2_townsHeld wsX2_townsHeld) := goodIn_app (goodIn_of _ (by decide +kernel)) ggX3_fightEverywhere_X2_townsHeld
set_option maxRecDepth 20000 in
theorem ggX3_fightEverywhere_X3_has : GoodIn wsX3_fightEverywhere wsX3_has := goodIn_r _ [31, 32, 27, 25, 28] (by decide +kernel) (by decide +kernel)
set_option maxRecDepth 20000 in
theorem gX3_fightEverywhere_X3_has : GoodIn wsX3_fightEverywhere (va_wsS RX3 85 yX3_has wsX3_has) := goodIn_app (goodIn_of _ (by decide +kernel)) ggX3_fightEverywhere_X3_has
set_option maxRecDepth 20000 in
theorem ggX3_fightEverywhere_X3_fight : GoodIn wsX3_fightEverywhere wsX3_fight := goodIn_r _ [36, 1, 37, 38, 39, 25, 40, 41, 42, 43, 5, 44, 7, 45, 20, 21, 22, 23, 24, 26, 46, 9, 10, 11, 12, 13, 14, 15, 16, 17, 18, 47, 48, 49, 50, 51, 29, 30, 31, 32, 27, 28, 52, 53, 54, 55, 56, 57, 58, 59, 60, 61, 62, 63, 64, 65, 66, 67, 68, 69, 70, 71, 72, 73, 74] (by decide +kernel) (by decide +kernel)
set_option maxRecDepth 20000 in
theorem gX3_fightEverywhere_X3_fight : GoodIn wsX3_fightEverywhere (wsV RX3 219 RX3 yX3_fight wsX3_fight) := goodIn_app (goodIn_of _ (by decide +kernel)) ggX3_fightEverywhere_X3_fight
theorem dX3_fightEverywhere_0 : decode cX3_fightEverywhere 0 = .ok (.aload_n 0, 1) := by decide +kernel
theorem dX3_fightEverywhere_1 : decode cX3_fightEverywhere 1 = .ok (.getfield 23, 3) := by decide +kernel
theorem dX3_fightEverywhere_4 : decode cX3_fightEverywhere 4 = .ok (.iload_n 1, 1) := by decide +kernel
theorem dX3_fightEverywhere_5 : decode cX3_fightEverywhere 5 = .ok (.iconst 0, 1) := by decide +kernel
theorem dX3_fightEverywhere_6 : decode cX3_fightEverywhere 6 = .ok (.invokevirtual 81, 3) := by decide +kernel
theorem dX3_fightEverywhere_9 : decode cX3_fightEverywhere 9 = .ok (.aload_n 0, 1) := by decide +kernel
theorem dX3_fightEverywhere_10 : decode cX3_fightEverywhere 10 = .ok (.getfield 23, 3) := by decide +kernel
theorem dX3_fightEverywhere_13 : decode cX3_fightEverywhere 13 = .ok (.iload_n 1, 1) := by decide +kernel
theorem dX3_fightEverywhere_14 : decode cX3_fightEverywhere 14 = .ok (.iconst 1, 1) := by decide +kernel
theorem dX3_fightEverywhere_15 : decode cX3_fightEverywhere 15 = .ok (.invokevirtual 81, 3) := by decide +kernel
theorem dX3_fightEverywhere_18 : decode cX3_fightEverywhere 18 = .ok (.iand, 1) := by decide +kernel
theorem dX3_fightEverywhere_19 : decode cX3_fightEverywhere 19 = .ok (.istore_n 3, 1) := by decide +kernel
theorem dX3_fightEverywhere_20 : decode cX3_fightEverywhere 20 = .ok (.iconst 0, 1) := by decide +kernel
theorem dX3_fightEverywhere_21 : decode cX3_fightEverywhere 21 = .ok (.istore 4, 2) := by decide +kernel
theorem dX3_fightEverywhere_23 : decode cX3_fightEverywhere 23 = .ok (.iload 4, 2) := by decide +kernel
theorem dX3_fightEverywhere_25 : decode cX3_fightEverywhere 25 = .ok (.bipush 10, 2) := by decide +kernel
theorem dX3_fightEverywhere_27 : decode cX3_fightEverywhere 27 = .ok (.if_icmp .ge 26, 3) := by decide +kernel
theorem dX3_fightEverywhere_30 : decode cX3_fightEverywhere 30 = .ok (.iload_n 3, 1) := by decide +kernel
theorem dX3_fightEverywhere_31 : decode cX3_fightEverywhere 31 = .ok (.iload 4, 2) := by decide +kernel
theorem dX3_fightEverywhere_33 : decode cX3_fightEverywhere 33 = .ok (.invokestatic 85, 3) := by decide +kernel
theorem dX3_fightEverywhere_36 : decode cX3_fightEverywhere 36 = .ok (.ifCond .eq 11, 3) := by decide +kernel
theorem dX3_fightEverywhere_39 : decode cX3_fightEverywhere 39 = .ok (.aload_n 0, 1) := by decide +kernel
theorem dX3_fightEverywhere_40 : decode cX3_fightEverywhere 40 = .ok (.iload_n 1, 1) := by decide +kernel
theorem dX3_fightEverywhere_41 : decode cX3_fightEverywhere 41 = .ok (.iload 4, 2) := by decide +kernel
theorem dX3_fightEverywhere_43 : decode cX3_fightEverywhere 43 = .ok (.iload_n 2, 1) := by decide +kernel
theorem dX3_fightEverywhere_44 : decode cX3_fightEverywhere 44 = .ok (.invokevirtual 219, 3) := by decide +kernel
theorem dX3_fightEverywhere_47 : decode cX3_fightEverywhere 47 = .ok (.iinc 4 1, 3) := by decide +kernel
theorem dX3_fightEverywhere_50 : decode cX3_fightEverywhere 50 = .ok (.goto (-27), 3) := by decide +kernel
theorem dX3_fightEverywhere_53 : decode cX3_fightEverywhere 53 = .ok (.return_, 1) := by decide +kernel
set_option maxRecDepth 20000 in
theorem ggX3_fight_X3_sumInFight : GoodIn wsX3_fight wsX3_sumInFight := goodIn_r _ [6, 1, 7, 8, 9, 10, 11, 12, 13, 14, 15, 16, 17, 18, 5, 19, 20, 21, 22, 23, 24, 25, 26, 27, 28, 29, 30, 31, 32, 33, 34, 35, 36, 37, 38, 39, 40, 41, 53, 54, 55, 56, 57, 58, 59, 60, 61, 62, 63, 64] (by decide +kernel) (by decide +kernel)
set_option maxRecDepth 20000 in
theorem gX3_fight_X3_sumInFight : GoodIn wsX3_fight (wsV RX3 222 RX3 yX3_sumInFight wsX3_sumInFight) := goodIn_app (goodIn_of _ (by decide +kernel)) ggX3_fight_X3_sumInFight
set_option maxRecDepth 20000 in
theorem ggX3_fight_X2_count : GoodIn wsX3_fight wsX2_count := goodIn_r _ [11, 12, 60, 61, 62, 63, 64] (by decide +kernel) (by decide +kernel)
set_option maxRecDepth 20000 in
theorem gX3_fight_X2_count : GoodIn wsX3_fight (wsV RX3 88 RX2 yX2_count wsX2_count) := goodIn_app (goodIn_of _ (by decide +kernel)) ggX3_fight_X2_count
set_option maxRecDepth 20000 in
theorem ggX3_fight_X2_townAt : GoodIn wsX3_fight wsX2_townAt := goodIn_r _ [23, 24, 25, 26, 10, 27, 28, 29, 30, 60, 61, 62, 63, 64] (by decide +kernel) (by decide +kernel)
set_option maxRecDepth 20000 in
theorem gX3_fight_X2_townAt : GoodIn wsX3_fight (wsV RX3 149 RX2 yX2_townAt wsX2_townAt) := goodIn_app (goodIn_of _ (by decide +kernel)) ggX3_fight_X2_townAt
set_option maxRecDepth 20000 in
theorem ggX3_fight_X2_sideOf : GoodIn wsX3_fight wsX2_sideOf := goodIn_r _ [16, 17, 18, 5, 19, 60, 61, 62, 63, 64] (by decide +kernel) (by decide +kernel)
set_option maxRecDepth 20000 in
theorem gX3_fight_X2_sideOf : GoodIn wsX3_fight (wsV RX3 155 RX2 yX2_sideOf wsX2_sideOf) := goodIn_app (goodIn_of _ (by decide +kernel)) ggX3_fight_X2_sideOf
set_option maxRecDepth 20000 in
theorem ggX3_fight_X3_loss : GoodIn wsX3_fight wsX3_loss := goodIn_r _ [44] (by decide +kernel) (by decide +kernel)
set_option maxRecDepth 20000 in
theorem gX3_fight_X3_loss : GoodIn wsX3_fight (va_wsS RX3 225 yX3_loss wsX3_loss) := goodIn_app (goodIn_of _ (by decide +kernel)) ggX3_fight_X3_loss
set_option maxRecDepth 20000 in
theorem ggX3_fight_X2_strengthAt : GoodIn wsX3_fight wsX2_strengthAt := goodIn_r _ [34, 35, 25, 26, 10, 27, 28, 29, 30, 60, 61, 62, 63, 64] (by decide +kernel) (by decide +kernel)
set_option maxRecDepth 20000 in
theorem gX3_fight_X2_strengthAt : GoodIn wsX3_fight (wsV RX3 152 RX2 yX2_strengthAt wsX2_strengthAt) := goodIn_app (goodIn_of _ (by decide +kernel)) ggX3_fight_X2_strengthAt
set_option maxRecDepth 20000 in
theorem ggX3_fight_X2_place : GoodIn wsX3_fight wsX2_place := goodIn_r _ [48, 24, 35, 49, 50, 51, 52, 25, 26, 10, 27, 28, 29, 30, 60, 61, 62, 63, 64] (by decide +kernel) (by decide +kernel)
set_option maxRecDepth 20000 in
theorem gX3_fight_X2_place : GoodIn wsX3_fight (wsV RX3 215 RX2 yX2_place wsX2_place) := goodIn_app (goodIn_of _ (by decide +kernel)) ggX3_fight_X2_place
theorem dX3_fight_0 : decode cX3_fight 0 = .ok (.aload_n 0, 1) := by decide +kernel
theorem dX3_fight_1 : decode cX3_fight 1 = .ok (.iload_n 1, 1) := by decide +kernel
theorem dX3_fight_2 : decode cX3_fight 2 = .ok (.iload_n 2, 1) := by decide +kernel
theorem dX3_fight_3 : decode cX3_fight 3 = .ok (.iconst 0, 1) := by decide +kernel
theorem dX3_fight_4 : decode cX3_fight 4 = .ok (.iload_n 3, 1) := by decide +kernel
theorem dX3_fight_5 : decode cX3_fight 5 = .ok (.invokevirtual 222, 3) := by decide +kernel
theorem dX3_fight_8 : decode cX3_fight 8 = .ok (.istore 4, 2) := by decide +kernel
theorem dX3_fight_10 : decode cX3_fight 10 = .ok (.aload_n 0, 1) := by decide +kernel
theorem dX3_fight_11 : decode cX3_fight 11 = .ok (.iload_n 1, 1) := by decide +kernel
theorem dX3_fight_12 : decode cX3_fight 12 = .ok (.iload_n 2, 1) := by decide +kernel
theorem dX3_fight_13 : decode cX3_fight 13 = .ok (.iconst 1, 1) := by decide +kernel
theorem dX3_fight_14 : decode cX3_fight 14 = .ok (.iload_n 3, 1) := by decide +kernel
theorem dX3_fight_15 : decode cX3_fight 15 = .ok (.invokevirtual 222, 3) := by decide +kernel
theorem dX3_fight_18 : decode cX3_fight 18 = .ok (.istore 5, 2) := by decide +kernel
theorem dX3_fight_20 : decode cX3_fight 20 = .ok (.iconst 0, 1) := by decide +kernel
theorem dX3_fight_21 : decode cX3_fight 21 = .ok (.istore 6, 2) := by decide +kernel
theorem dX3_fight_23 : decode cX3_fight 23 = .ok (.iload 6, 2) := by decide +kernel
theorem dX3_fight_25 : decode cX3_fight 25 = .ok (.aload_n 0, 1) := by decide +kernel
theorem dX3_fight_26 : decode cX3_fight 26 = .ok (.getfield 23, 3) := by decide +kernel
theorem dX3_fight_29 : decode cX3_fight 29 = .ok (.invokevirtual 88, 3) := by decide +kernel
theorem dX3_fight_32 : decode cX3_fight 32 = .ok (.if_icmp .ge 78, 3) := by decide +kernel
theorem dX3_fight_35 : decode cX3_fight 35 = .ok (.aload_n 0, 1) := by decide +kernel
theorem dX3_fight_36 : decode cX3_fight 36 = .ok (.getfield 23, 3) := by decide +kernel
theorem dX3_fight_39 : decode cX3_fight 39 = .ok (.iload_n 1, 1) := by decide +kernel
theorem dX3_fight_40 : decode cX3_fight 40 = .ok (.iload 6, 2) := by decide +kernel
theorem dX3_fight_42 : decode cX3_fight 42 = .ok (.invokevirtual 149, 3) := by decide +kernel
theorem dX3_fight_45 : decode cX3_fight 45 = .ok (.iload_n 2, 1) := by decide +kernel
theorem dX3_fight_46 : decode cX3_fight 46 = .ok (.if_icmp .ne 58, 3) := by decide +kernel
theorem dX3_fight_49 : decode cX3_fight 49 = .ok (.aload_n 0, 1) := by decide +kernel
theorem dX3_fight_50 : decode cX3_fight 50 = .ok (.getfield 23, 3) := by decide +kernel
theorem dX3_fight_53 : decode cX3_fight 53 = .ok (.iload 6, 2) := by decide +kernel
theorem dX3_fight_55 : decode cX3_fight 55 = .ok (.invokevirtual 155, 3) := by decide +kernel
theorem dX3_fight_58 : decode cX3_fight 58 = .ok (.ifCond .ne 13, 3) := by decide +kernel
theorem dX3_fight_61 : decode cX3_fight 61 = .ok (.iload 4, 2) := by decide +kernel
theorem dX3_fight_63 : decode cX3_fight 63 = .ok (.iload 5, 2) := by decide +kernel
theorem dX3_fight_65 : decode cX3_fight 65 = .ok (.invokestatic 225, 3) := by decide +kernel
theorem dX3_fight_68 : decode cX3_fight 68 = .ok (.goto 10, 3) := by decide +kernel
theorem dX3_fight_71 : decode cX3_fight 71 = .ok (.iload 5, 2) := by decide +kernel
theorem dX3_fight_73 : decode cX3_fight 73 = .ok (.iload 4, 2) := by decide +kernel
theorem dX3_fight_75 : decode cX3_fight 75 = .ok (.invokestatic 225, 3) := by decide +kernel
theorem dX3_fight_78 : decode cX3_fight 78 = .ok (.istore 7, 2) := by decide +kernel
theorem dX3_fight_80 : decode cX3_fight 80 = .ok (.aload_n 0, 1) := by decide +kernel
theorem dX3_fight_81 : decode cX3_fight 81 = .ok (.getfield 23, 3) := by decide +kernel
theorem dX3_fight_84 : decode cX3_fight 84 = .ok (.iload_n 1, 1) := by decide +kernel
theorem dX3_fight_85 : decode cX3_fight 85 = .ok (.iload 6, 2) := by decide +kernel
theorem dX3_fight_87 : decode cX3_fight 87 = .ok (.iload_n 2, 1) := by decide +kernel
theorem dX3_fight_88 : decode cX3_fight 88 = .ok (.aload_n 0, 1) := by decide +kernel
theorem dX3_fight_89 : decode cX3_fight 89 = .ok (.getfield 23, 3) := by decide +kernel
theorem dX3_fight_92 : decode cX3_fight 92 = .ok (.iload_n 1, 1) := by decide +kernel
theorem dX3_fight_93 : decode cX3_fight 93 = .ok (.iload 6, 2) := by decide +kernel
theorem dX3_fight_95 : decode cX3_fight 95 = .ok (.invokevirtual 152, 3) := by decide +kernel
theorem dX3_fight_98 : decode cX3_fight 98 = .ok (.iload 7, 2) := by decide +kernel
theorem dX3_fight_100 : decode cX3_fight 100 = .ok (.isub, 1) := by decide +kernel
theorem dX3_fight_101 : decode cX3_fight 101 = .ok (.invokevirtual 215, 3) := by decide +kernel
theorem dX3_fight_104 : decode cX3_fight 104 = .ok (.iinc 6 1, 3) := by decide +kernel
theorem dX3_fight_107 : decode cX3_fight 107 = .ok (.goto (-84), 3) := by decide +kernel
theorem dX3_fight_110 : decode cX3_fight 110 = .ok (.return_, 1) := by decide +kernel
set_option maxRecDepth 20000 in
theorem ggX3_sumInFight_X2_count : GoodIn wsX3_sumInFight wsX2_count := goodIn_r _ [6, 7, 45, 46, 47, 48, 49] (by decide +kernel) (by decide +kernel)
set_option maxRecDepth 20000 in
theorem gX3_sumInFight_X2_count : GoodIn wsX3_sumInFight (wsV RX3 88 RX2 yX2_count wsX2_count) := goodIn_app (goodIn_of _ (by decide +kernel)) ggX3_sumInFight_X2_count
set_option maxRecDepth 20000 in
theorem ggX3_sumInFight_X2_sideOf : GoodIn wsX3_sumInFight wsX2_sideOf := goodIn_r _ [11, 12, 13, 14, 15, 45, 46, 47, 48, 49] (by decide +kernel) (by decide +kernel)
set_option maxRecDepth 20000 in
theorem gX3_sumInFight_X2_sideOf : GoodIn wsX3_sumInFight (wsV RX3 155 RX2 yX2_sideOf wsX2_sideOf) := goodIn_app (goodIn_of _ (by decide +kernel)) ggX3_sumInFight_X2_sideOf
set_option maxRecDepth 20000 in
theorem ggX3_sumInFight_X2_townAt : GoodIn wsX3_sumInFight wsX2_townAt := goodIn_r _ [19, 20, 21, 22, 5, 23, 24, 25, 26, 45, 46, 47, 48, 49] (by decide +kernel) (by decide +kernel)
set_option maxRecDepth 20000 in
theorem gX3_sumInFight_X2_townAt : GoodIn wsX3_sumInFight (wsV RX3 149 RX2 yX2_townAt wsX2_townAt) := goodIn_app (goodIn_of _ (by decide +kernel)) ggX3_sumInFight_X2_townAt
set_option maxRecDepth 20000 in
theorem ggX3_sumInFight_X2_strengthAt : GoodIn wsX3_sumInFight wsX2_strengthAt := goodIn_r _ [30, 31, 21, 22, 5, 23, 24, 25, 26, 45, 46, 47, 48, 49] (by decide +kernel) (by decide +kernel)
set_option maxRecDepth 20000 in
theorem gX3_sumInFight_X2_strengthAt : GoodIn wsX3_sumInFight (wsV RX3 152 RX2 yX2_strengthAt wsX2_strengthAt) := goodIn_app (goodIn_of _ (by decide +kernel)) ggX3_sumInFight_X2_strengthAt
set_option maxRecDepth 20000 in
theorem ggX3_sumInFight_X3_has : GoodIn wsX3_sumInFight wsX3_has := goodIn_r _ [34, 35, 36, 14, 37] (by decide +kernel) (by decide +kernel)
set_option maxRecDepth 20000 in
theorem gX3_sumInFight_X3_has : GoodIn wsX3_sumInFight (va_wsS RX3 85 yX3_has wsX3_has) := goodIn_app (goodIn_of _ (by decide +kernel)) ggX3_sumInFight_X3_has
theorem dX3_sumInFight_0 : decode cX3_sumInFight 0 = .ok (.iconst 0, 1) := by decide +kernel
theorem dX3_sumInFight_1 : decode cX3_sumInFight 1 = .ok (.istore 5, 2) := by decide +kernel
theorem dX3_sumInFight_3 : decode cX3_sumInFight 3 = .ok (.iconst 0, 1) := by decide +kernel
theorem dX3_sumInFight_4 : decode cX3_sumInFight 4 = .ok (.istore 6, 2) := by decide +kernel
theorem dX3_sumInFight_6 : decode cX3_sumInFight 6 = .ok (.iload 6, 2) := by decide +kernel
theorem dX3_sumInFight_8 : decode cX3_sumInFight 8 = .ok (.aload_n 0, 1) := by decide +kernel
theorem dX3_sumInFight_9 : decode cX3_sumInFight 9 = .ok (.getfield 23, 3) := by decide +kernel
theorem dX3_sumInFight_12 : decode cX3_sumInFight 12 = .ok (.invokevirtual 88, 3) := by decide +kernel
theorem dX3_sumInFight_15 : decode cX3_sumInFight 15 = .ok (.if_icmp .ge 72, 3) := by decide +kernel
theorem dX3_sumInFight_18 : decode cX3_sumInFight 18 = .ok (.aload_n 0, 1) := by decide +kernel
theorem dX3_sumInFight_19 : decode cX3_sumInFight 19 = .ok (.getfield 23, 3) := by decide +kernel
theorem dX3_sumInFight_22 : decode cX3_sumInFight 22 = .ok (.iload 6, 2) := by decide +kernel
theorem dX3_sumInFight_24 : decode cX3_sumInFight 24 = .ok (.invokevirtual 155, 3) := by decide +kernel
theorem dX3_sumInFight_27 : decode cX3_sumInFight 27 = .ok (.iload_n 3, 1) := by decide +kernel
theorem dX3_sumInFight_28 : decode cX3_sumInFight 28 = .ok (.if_icmp .ne 53, 3) := by decide +kernel
theorem dX3_sumInFight_31 : decode cX3_sumInFight 31 = .ok (.aload_n 0, 1) := by decide +kernel
theorem dX3_sumInFight_32 : decode cX3_sumInFight 32 = .ok (.getfield 23, 3) := by decide +kernel
theorem dX3_sumInFight_35 : decode cX3_sumInFight 35 = .ok (.iload_n 1, 1) := by decide +kernel
theorem dX3_sumInFight_36 : decode cX3_sumInFight 36 = .ok (.iload 6, 2) := by decide +kernel
theorem dX3_sumInFight_38 : decode cX3_sumInFight 38 = .ok (.invokevirtual 149, 3) := by decide +kernel
theorem dX3_sumInFight_41 : decode cX3_sumInFight 41 = .ok (.iload_n 2, 1) := by decide +kernel
theorem dX3_sumInFight_42 : decode cX3_sumInFight 42 = .ok (.if_icmp .ne 39, 3) := by decide +kernel
theorem dX3_sumInFight_45 : decode cX3_sumInFight 45 = .ok (.aload_n 0, 1) := by decide +kernel
theorem dX3_sumInFight_46 : decode cX3_sumInFight 46 = .ok (.getfield 23, 3) := by decide +kernel
theorem dX3_sumInFight_49 : decode cX3_sumInFight 49 = .ok (.iload_n 1, 1) := by decide +kernel
theorem dX3_sumInFight_50 : decode cX3_sumInFight 50 = .ok (.iload 6, 2) := by decide +kernel
theorem dX3_sumInFight_52 : decode cX3_sumInFight 52 = .ok (.invokevirtual 152, 3) := by decide +kernel
theorem dX3_sumInFight_55 : decode cX3_sumInFight 55 = .ok (.istore 7, 2) := by decide +kernel
theorem dX3_sumInFight_57 : decode cX3_sumInFight 57 = .ok (.iload 5, 2) := by decide +kernel
theorem dX3_sumInFight_59 : decode cX3_sumInFight 59 = .ok (.iload 4, 2) := by decide +kernel
theorem dX3_sumInFight_61 : decode cX3_sumInFight 61 = .ok (.iload 6, 2) := by decide +kernel
theorem dX3_sumInFight_63 : decode cX3_sumInFight 63 = .ok (.invokestatic 85, 3) := by decide +kernel
theorem dX3_sumInFight_66 : decode cX3_sumInFight 66 = .ok (.ifCond .eq 8, 3) := by decide +kernel
theorem dX3_sumInFight_69 : decode cX3_sumInFight 69 = .ok (.iload 7, 2) := by decide +kernel
theorem dX3_sumInFight_71 : decode cX3_sumInFight 71 = .ok (.goto 7, 3) := by decide +kernel
theorem dX3_sumInFight_74 : decode cX3_sumInFight 74 = .ok (.iload 7, 2) := by decide +kernel
theorem dX3_sumInFight_76 : decode cX3_sumInFight 76 = .ok (.iconst 2, 1) := by decide +kernel
theorem dX3_sumInFight_77 : decode cX3_sumInFight 77 = .ok (.idiv, 1) := by decide +kernel
theorem dX3_sumInFight_78 : decode cX3_sumInFight 78 = .ok (.iadd, 1) := by decide +kernel
theorem dX3_sumInFight_79 : decode cX3_sumInFight 79 = .ok (.istore 5, 2) := by decide +kernel
theorem dX3_sumInFight_81 : decode cX3_sumInFight 81 = .ok (.iinc 6 1, 3) := by decide +kernel
theorem dX3_sumInFight_84 : decode cX3_sumInFight 84 = .ok (.goto (-78), 3) := by decide +kernel
theorem dX3_sumInFight_87 : decode cX3_sumInFight 87 = .ok (.iload 5, 2) := by decide +kernel
theorem dX3_sumInFight_89 : decode cX3_sumInFight 89 = .ok (.ireturn, 1) := by decide +kernel
theorem dX3_loss_0 : decode cX3_loss 0 = .ok (.iload_n 0, 1) := by decide +kernel
theorem dX3_loss_1 : decode cX3_loss 1 = .ok (.iload_n 1, 1) := by decide +kernel
theorem dX3_loss_2 : decode cX3_loss 2 = .ok (.if_icmp .ge 5, 3) := by decide +kernel
theorem dX3_loss_5 : decode cX3_loss 5 = .ok (.iconst 2, 1) := by decide +kernel
theorem dX3_loss_6 : decode cX3_loss 6 = .ok (.ireturn, 1) := by decide +kernel
theorem dX3_loss_7 : decode cX3_loss 7 = .ok (.iload_n 0, 1) := by decide +kernel
theorem dX3_loss_8 : decode cX3_loss 8 = .ok (.iload_n 1, 1) := by decide +kernel
theorem dX3_loss_9 : decode cX3_loss 9 = .ok (.if_icmp .ne 5, 3) := by decide +kernel
theorem dX3_loss_12 : decode cX3_loss 12 = .ok (.iconst 1, 1) := by decide +kernel
theorem dX3_loss_13 : decode cX3_loss 13 = .ok (.ireturn, 1) := by decide +kernel
theorem dX3_loss_14 : decode cX3_loss 14 = .ok (.iconst 2, 1) := by decide +kernel
theorem dX3_loss_15 : decode cX3_loss 15 = .ok (.iload_n 1, 1) := by decide +kernel
theorem dX3_loss_16 : decode cX3_loss 16 = .ok (.imul, 1) := by decide +kernel
theorem dX3_loss_17 : decode cX3_loss 17 = .ok (.iload_n 0, 1) := by decide +kernel
theorem dX3_loss_18 : decode cX3_loss 18 = .ok (.if_icmp .le 7, 3) := by decide +kernel
theorem dX3_loss_21 : decode cX3_loss 21 = .ok (.iconst 1, 1) := by decide +kernel
theorem dX3_loss_22 : decode cX3_loss 22 = .ok (.goto 4, 3) := by decide +kernel
theorem dX3_loss_25 : decode cX3_loss 25 = .ok (.iconst 0, 1) := by decide +kernel
theorem dX3_loss_26 : decode cX3_loss 26 = .ok (.ireturn, 1) := by decide +kernel
set_option maxRecDepth 20000 in
theorem ggX3_unitsInSight_X2_townsHeld : GoodIn wsX3_unitsInSight wsX2_townsHeld := goodIn_r _ [7, 8, 9, 10, 11, 6, 12, 13, 14, 15, 16, 17, 18, 19, 20, 21, 22, 23, 24, 25, 26, 27, 28, 29, 58, 59, 60, 61, 62] (by decide +kernel) (by decide +kernel)
set_option maxRecDepth 20000 in
theorem gX3_unitsInSight_X2_townsHeld : GoodIn wsX3_unitsInSight (wsV RX3 81 RX2 yX2_townsHeld wsX2_townsHeld) := goodIn_app (goodIn_of _ (by decide +kernel)) ggX3_unitsInSight_X2_townsHeld
set_option maxRecDepth 20000 in
theorem ggX3_unitsInSight_X0_widened : GoodIn wsX3_unitsInSight wsX0_widened := goodIn_r _ [34, 35, 26, 36, 37, 28, 29, 38, 39, 40, 33, 41, 42, 43, 25, 27, 63, 64, 65] (by decide +kernel) (by decide +kernel)
set_option maxRecDepth 20000 in
theorem gX3_unitsInSight_X0_widened : GoodIn wsX3_unitsInSight (wsV RX3 205 RX0 yX0_widened wsX0_widened) := goodIn_app (goodIn_of _ (by decide +kernel)) ggX3_unitsInSight_X0_widened
set_option maxRecDepth 20000 in
theorem ggX3_unitsInSight_X2_count : GoodIn wsX3_unitsInSight wsX2_count := goodIn_r _ [47, 8, 58, 59, 60, 61, 62] (by decide +kernel) (by decide +kernel)
set_option maxRecDepth 20000 in
theorem gX3_unitsInSight_X2_count : GoodIn wsX3_unitsInSight (wsV RX3 88 RX2 yX2_count wsX2_count) := goodIn_app (goodIn_of _ (by decide +kernel)) ggX3_unitsInSight_X2_count
set_option maxRecDepth 20000 in
theorem ggX3_unitsInSight_X2_sideOf : GoodIn wsX3_unitsInSight wsX2_sideOf := goodIn_r _ [23, 24, 25, 26, 27, 58, 59, 60, 61, 62] (by decide +kernel) (by decide +kernel)
set_option maxRecDepth 20000 in
theorem gX3_unitsInSight_X2_sideOf : GoodIn wsX3_unitsInSight (wsV RX3 155 RX2 yX2_sideOf wsX2_sideOf) := goodIn_app (goodIn_of _ (by decide +kernel)) ggX3_unitsInSight_X2_sideOf
set_option maxRecDepth 20000 in
theorem ggX3_unitsInSight_X2_townAt : GoodIn wsX3_unitsInSight wsX2_townAt := goodIn_r _ [12, 13, 14, 15, 6, 16, 17, 18, 19, 58, 59, 60, 61, 62] (by decide +kernel) (by decide +kernel)
set_option maxRecDepth 20000 in
theorem gX3_unitsInSight_X2_townAt : GoodIn wsX3_unitsInSight (wsV RX3 149 RX2 yX2_townAt wsX2_townAt) := goodIn_app (goodIn_of _ (by decide +kernel)) ggX3_unitsInSight_X2_townAt
set_option maxRecDepth 20000 in
theorem ggX3_unitsInSight_X3_has : GoodIn wsX3_unitsInSight wsX3_has := goodIn_r _ [36, 37, 28, 26, 29] (by decide +kernel) (by decide +kernel)
set_option maxRecDepth 20000 in
theorem gX3_unitsInSight_X3_has : GoodIn wsX3_unitsInSight (va_wsS RX3 85 yX3_has wsX3_has) := goodIn_app (goodIn_of _ (by decide +kernel)) ggX3_unitsInSight_X3_has
set_option maxRecDepth 20000 in
theorem ggX3_unitsInSight_X3_bit : GoodIn wsX3_unitsInSight wsX3_bit := goodIn_r _ [29] (by decide +kernel) (by decide +kernel)
set_option maxRecDepth 20000 in
theorem gX3_unitsInSight_X3_bit : GoodIn wsX3_unitsInSight (va_wsS RX3 202 yX3_bit wsX3_bit) := goodIn_app (goodIn_of _ (by decide +kernel)) ggX3_unitsInSight_X3_bit
theorem dX3_unitsInSight_0 : decode cX3_unitsInSight 0 = .ok (.aload_n 0, 1) := by decide +kernel
theorem dX3_unitsInSight_1 : decode cX3_unitsInSight 1 = .ok (.getfield 12, 3) := by decide +kernel
theorem dX3_unitsInSight_4 : decode cX3_unitsInSight 4 = .ok (.aload_n 0, 1) := by decide +kernel
theorem dX3_unitsInSight_5 : decode cX3_unitsInSight 5 = .ok (.getfield 23, 3) := by decide +kernel
theorem dX3_unitsInSight_8 : decode cX3_unitsInSight 8 = .ok (.iload_n 1, 1) := by decide +kernel
theorem dX3_unitsInSight_9 : decode cX3_unitsInSight 9 = .ok (.iconst 0, 1) := by decide +kernel
theorem dX3_unitsInSight_10 : decode cX3_unitsInSight 10 = .ok (.invokevirtual 81, 3) := by decide +kernel
theorem dX3_unitsInSight_13 : decode cX3_unitsInSight 13 = .ok (.iconst 0, 1) := by decide +kernel
theorem dX3_unitsInSight_14 : decode cX3_unitsInSight 14 = .ok (.invokevirtual 205, 3) := by decide +kernel
theorem dX3_unitsInSight_17 : decode cX3_unitsInSight 17 = .ok (.istore_n 2, 1) := by decide +kernel
theorem dX3_unitsInSight_18 : decode cX3_unitsInSight 18 = .ok (.aload_n 0, 1) := by decide +kernel
theorem dX3_unitsInSight_19 : decode cX3_unitsInSight 19 = .ok (.getfield 12, 3) := by decide +kernel
theorem dX3_unitsInSight_22 : decode cX3_unitsInSight 22 = .ok (.aload_n 0, 1) := by decide +kernel
theorem dX3_unitsInSight_23 : decode cX3_unitsInSight 23 = .ok (.getfield 23, 3) := by decide +kernel
theorem dX3_unitsInSight_26 : decode cX3_unitsInSight 26 = .ok (.iload_n 1, 1) := by decide +kernel
theorem dX3_unitsInSight_27 : decode cX3_unitsInSight 27 = .ok (.iconst 1, 1) := by decide +kernel
theorem dX3_unitsInSight_28 : decode cX3_unitsInSight 28 = .ok (.invokevirtual 81, 3) := by decide +kernel
theorem dX3_unitsInSight_31 : decode cX3_unitsInSight 31 = .ok (.iconst 0, 1) := by decide +kernel
theorem dX3_unitsInSight_32 : decode cX3_unitsInSight 32 = .ok (.invokevirtual 205, 3) := by decide +kernel
theorem dX3_unitsInSight_35 : decode cX3_unitsInSight 35 = .ok (.istore_n 3, 1) := by decide +kernel
theorem dX3_unitsInSight_36 : decode cX3_unitsInSight 36 = .ok (.iconst 0, 1) := by decide +kernel
theorem dX3_unitsInSight_37 : decode cX3_unitsInSight 37 = .ok (.istore 4, 2) := by decide +kernel
theorem dX3_unitsInSight_39 : decode cX3_unitsInSight 39 = .ok (.iconst 0, 1) := by decide +kernel
theorem dX3_unitsInSight_40 : decode cX3_unitsInSight 40 = .ok (.istore 5, 2) := by decide +kernel
theorem dX3_unitsInSight_42 : decode cX3_unitsInSight 42 = .ok (.iload 5, 2) := by decide +kernel
theorem dX3_unitsInSight_44 : decode cX3_unitsInSight 44 = .ok (.aload_n 0, 1) := by decide +kernel
theorem dX3_unitsInSight_45 : decode cX3_unitsInSight 45 = .ok (.getfield 23, 3) := by decide +kernel
theorem dX3_unitsInSight_48 : decode cX3_unitsInSight 48 = .ok (.invokevirtual 88, 3) := by decide +kernel
theorem dX3_unitsInSight_51 : decode cX3_unitsInSight 51 = .ok (.if_icmp .ge 52, 3) := by decide +kernel
theorem dX3_unitsInSight_54 : decode cX3_unitsInSight 54 = .ok (.aload_n 0, 1) := by decide +kernel
theorem dX3_unitsInSight_55 : decode cX3_unitsInSight 55 = .ok (.getfield 23, 3) := by decide +kernel
theorem dX3_unitsInSight_58 : decode cX3_unitsInSight 58 = .ok (.iload 5, 2) := by decide +kernel
theorem dX3_unitsInSight_60 : decode cX3_unitsInSight 60 = .ok (.invokevirtual 155, 3) := by decide +kernel
theorem dX3_unitsInSight_63 : decode cX3_unitsInSight 63 = .ok (.ifCond .ne 7, 3) := by decide +kernel
theorem dX3_unitsInSight_66 : decode cX3_unitsInSight 66 = .ok (.iload_n 3, 1) := by decide +kernel
theorem dX3_unitsInSight_67 : decode cX3_unitsInSight 67 = .ok (.goto 4, 3) := by decide +kernel
theorem dX3_unitsInSight_70 : decode cX3_unitsInSight 70 = .ok (.iload_n 2, 1) := by decide +kernel
theorem dX3_unitsInSight_71 : decode cX3_unitsInSight 71 = .ok (.aload_n 0, 1) := by decide +kernel
theorem dX3_unitsInSight_72 : decode cX3_unitsInSight 72 = .ok (.getfield 23, 3) := by decide +kernel
theorem dX3_unitsInSight_75 : decode cX3_unitsInSight 75 = .ok (.iload_n 1, 1) := by decide +kernel
theorem dX3_unitsInSight_76 : decode cX3_unitsInSight 76 = .ok (.iload 5, 2) := by decide +kernel
theorem dX3_unitsInSight_78 : decode cX3_unitsInSight 78 = .ok (.invokevirtual 149, 3) := by decide +kernel
theorem dX3_unitsInSight_81 : decode cX3_unitsInSight 81 = .ok (.invokestatic 85, 3) := by decide +kernel
theorem dX3_unitsInSight_84 : decode cX3_unitsInSight 84 = .ok (.ifCond .eq 13, 3) := by decide +kernel
theorem dX3_unitsInSight_87 : decode cX3_unitsInSight 87 = .ok (.iload 4, 2) := by decide +kernel
theorem dX3_unitsInSight_89 : decode cX3_unitsInSight 89 = .ok (.iload 5, 2) := by decide +kernel
theorem dX3_unitsInSight_91 : decode cX3_unitsInSight 91 = .ok (.invokestatic 202, 3) := by decide +kernel
theorem dX3_unitsInSight_94 : decode cX3_unitsInSight 94 = .ok (.ior, 1) := by decide +kernel
theorem dX3_unitsInSight_95 : decode cX3_unitsInSight 95 = .ok (.istore 4, 2) := by decide +kernel
theorem dX3_unitsInSight_97 : decode cX3_unitsInSight 97 = .ok (.iinc 5 1, 3) := by decide +kernel
theorem dX3_unitsInSight_100 : decode cX3_unitsInSight 100 = .ok (.goto (-58), 3) := by decide +kernel
theorem dX3_unitsInSight_103 : decode cX3_unitsInSight 103 = .ok (.iload 4, 2) := by decide +kernel
theorem dX3_unitsInSight_105 : decode cX3_unitsInSight 105 = .ok (.ireturn, 1) := by decide +kernel
theorem dX3_below_0 : decode cX3_below 0 = .ok (.iload_n 0, 1) := by decide +kernel
theorem dX3_below_1 : decode cX3_below 1 = .ok (.ifCond .lt 12, 3) := by decide +kernel
theorem dX3_below_4 : decode cX3_below 4 = .ok (.iload_n 0, 1) := by decide +kernel
theorem dX3_below_5 : decode cX3_below 5 = .ok (.iload_n 1, 1) := by decide +kernel
theorem dX3_below_6 : decode cX3_below 6 = .ok (.if_icmp .ge 7, 3) := by decide +kernel
theorem dX3_below_9 : decode cX3_below 9 = .ok (.iconst 1, 1) := by decide +kernel
theorem dX3_below_10 : decode cX3_below 10 = .ok (.goto 4, 3) := by decide +kernel
theorem dX3_below_13 : decode cX3_below 13 = .ok (.iconst 0, 1) := by decide +kernel
theorem dX3_below_14 : decode cX3_below 14 = .ok (.ireturn, 1) := by decide +kernel
theorem dX3_opponent_0 : decode cX3_opponent 0 = .ok (.iconst 1, 1) := by decide +kernel
theorem dX3_opponent_1 : decode cX3_opponent 1 = .ok (.iload_n 0, 1) := by decide +kernel
theorem dX3_opponent_2 : decode cX3_opponent 2 = .ok (.isub, 1) := by decide +kernel
theorem dX3_opponent_3 : decode cX3_opponent 3 = .ok (.ireturn, 1) := by decide +kernel
theorem dX3_bit_0 : decode cX3_bit 0 = .ok (.iconst 1, 1) := by decide +kernel
theorem dX3_bit_1 : decode cX3_bit 1 = .ok (.iload_n 0, 1) := by decide +kernel
theorem dX3_bit_2 : decode cX3_bit 2 = .ok (.ishl, 1) := by decide +kernel
theorem dX3_bit_3 : decode cX3_bit 3 = .ok (.ireturn, 1) := by decide +kernel
set_option maxRecDepth 20000 in
theorem ggX3_has_X3_bit : GoodIn wsX3_has wsX3_bit := goodIn_r _ [4] (by decide +kernel) (by decide +kernel)
set_option maxRecDepth 20000 in
theorem gX3_has_X3_bit : GoodIn wsX3_has (va_wsS RX3 202 yX3_bit wsX3_bit) := goodIn_app (goodIn_of _ (by decide +kernel)) ggX3_has_X3_bit
theorem dX3_has_0 : decode cX3_has 0 = .ok (.iload_n 1, 1) := by decide +kernel
theorem dX3_has_1 : decode cX3_has 1 = .ok (.ifCond .lt 22, 3) := by decide +kernel
theorem dX3_has_4 : decode cX3_has 4 = .ok (.iload_n 1, 1) := by decide +kernel
theorem dX3_has_5 : decode cX3_has 5 = .ok (.bipush 32, 2) := by decide +kernel
theorem dX3_has_7 : decode cX3_has 7 = .ok (.if_icmp .ge 16, 3) := by decide +kernel
theorem dX3_has_10 : decode cX3_has 10 = .ok (.iload_n 0, 1) := by decide +kernel
theorem dX3_has_11 : decode cX3_has 11 = .ok (.iload_n 1, 1) := by decide +kernel
theorem dX3_has_12 : decode cX3_has 12 = .ok (.invokestatic 202, 3) := by decide +kernel
theorem dX3_has_15 : decode cX3_has 15 = .ok (.iand, 1) := by decide +kernel
theorem dX3_has_16 : decode cX3_has 16 = .ok (.ifCond .eq 7, 3) := by decide +kernel
theorem dX3_has_19 : decode cX3_has 19 = .ok (.iconst 1, 1) := by decide +kernel
theorem dX3_has_20 : decode cX3_has 20 = .ok (.goto 4, 3) := by decide +kernel
theorem dX3_has_23 : decode cX3_has 23 = .ok (.iconst 0, 1) := by decide +kernel
theorem dX3_has_24 : decode cX3_has 24 = .ok (.ireturn, 1) := by decide +kernel
end
section
theorem dX4_init_0 : decode cX4_init 0 = .ok (.aload_n 0, 1) := by decide +kernel
theorem dX4_init_1 : decode cX4_init 1 = .ok (.invokespecial 1, 3) := by decide +kernel
theorem dX4_init_4 : decode cX4_init 4 = .ok (.aload_n 0, 1) := by decide +kernel
theorem dX4_init_5 : decode cX4_init 5 = .ok (.bipush 100, 2) := by decide +kernel
theorem dX4_init_7 : decode cX4_init 7 = .ok (.newarray .int, 2) := by decide +kernel
theorem dX4_init_9 : decode cX4_init 9 = .ok (.putfield 7, 3) := by decide +kernel
theorem dX4_init_12 : decode cX4_init 12 = .ok (.aload_n 0, 1) := by decide +kernel
theorem dX4_init_13 : decode cX4_init 13 = .ok (.iconst 2, 1) := by decide +kernel
theorem dX4_init_14 : decode cX4_init 14 = .ok (.newarray .int, 2) := by decide +kernel
theorem dX4_init_16 : decode cX4_init 16 = .ok (.putfield 13, 3) := by decide +kernel
theorem dX4_init_19 : decode cX4_init 19 = .ok (.aload_n 0, 1) := by decide +kernel
theorem dX4_init_20 : decode cX4_init 20 = .ok (.bipush 12, 2) := by decide +kernel
theorem dX4_init_22 : decode cX4_init 22 = .ok (.newarray .int, 2) := by decide +kernel
theorem dX4_init_24 : decode cX4_init 24 = .ok (.putfield 16, 3) := by decide +kernel
theorem dX4_init_27 : decode cX4_init 27 = .ok (.aload_n 0, 1) := by decide +kernel
theorem dX4_init_28 : decode cX4_init 28 = .ok (.sipush 252, 3) := by decide +kernel
theorem dX4_init_31 : decode cX4_init 31 = .ok (.newarray .int, 2) := by decide +kernel
theorem dX4_init_33 : decode cX4_init 33 = .ok (.putfield 19, 3) := by decide +kernel
theorem dX4_init_36 : decode cX4_init 36 = .ok (.aload_n 0, 1) := by decide +kernel
theorem dX4_init_37 : decode cX4_init 37 = .ok (.sipush 252, 3) := by decide +kernel
theorem dX4_init_40 : decode cX4_init 40 = .ok (.newarray .int, 2) := by decide +kernel
theorem dX4_init_42 : decode cX4_init 42 = .ok (.putfield 22, 3) := by decide +kernel
theorem dX4_init_45 : decode cX4_init 45 = .ok (.aload_n 0, 1) := by decide +kernel
theorem dX4_init_46 : decode cX4_init 46 = .ok (.sipush 240, 3) := by decide +kernel
theorem dX4_init_49 : decode cX4_init 49 = .ok (.newarray .int, 2) := by decide +kernel
theorem dX4_init_51 : decode cX4_init 51 = .ok (.putfield 25, 3) := by decide +kernel
theorem dX4_init_54 : decode cX4_init 54 = .ok (.aload_n 0, 1) := by decide +kernel
theorem dX4_init_55 : decode cX4_init 55 = .ok (.bipush 12, 2) := by decide +kernel
theorem dX4_init_57 : decode cX4_init 57 = .ok (.newarray .int, 2) := by decide +kernel
theorem dX4_init_59 : decode cX4_init 59 = .ok (.putfield 28, 3) := by decide +kernel
theorem dX4_init_62 : decode cX4_init 62 = .ok (.aload_n 0, 1) := by decide +kernel
theorem dX4_init_63 : decode cX4_init 63 = .ok (.bipush 20, 2) := by decide +kernel
theorem dX4_init_65 : decode cX4_init 65 = .ok (.newarray .int, 2) := by decide +kernel
theorem dX4_init_67 : decode cX4_init 67 = .ok (.putfield 31, 3) := by decide +kernel
theorem dX4_init_70 : decode cX4_init 70 = .ok (.aload_n 0, 1) := by decide +kernel
theorem dX4_init_71 : decode cX4_init 71 = .ok (.sipush 240, 3) := by decide +kernel
theorem dX4_init_74 : decode cX4_init 74 = .ok (.newarray .int, 2) := by decide +kernel
theorem dX4_init_76 : decode cX4_init 76 = .ok (.putfield 34, 3) := by decide +kernel
theorem dX4_init_79 : decode cX4_init 79 = .ok (.aload_n 0, 1) := by decide +kernel
theorem dX4_init_80 : decode cX4_init 80 = .ok (.sipush 4000, 3) := by decide +kernel
theorem dX4_init_83 : decode cX4_init 83 = .ok (.newarray .int, 2) := by decide +kernel
theorem dX4_init_85 : decode cX4_init 85 = .ok (.putfield 37, 3) := by decide +kernel
theorem dX4_init_88 : decode cX4_init 88 = .ok (.aload_n 0, 1) := by decide +kernel
theorem dX4_init_89 : decode cX4_init 89 = .ok (.sipush 4000, 3) := by decide +kernel
theorem dX4_init_92 : decode cX4_init 92 = .ok (.newarray .int, 2) := by decide +kernel
theorem dX4_init_94 : decode cX4_init 94 = .ok (.putfield 40, 3) := by decide +kernel
theorem dX4_init_97 : decode cX4_init 97 = .ok (.aload_n 0, 1) := by decide +kernel
theorem dX4_init_98 : decode cX4_init 98 = .ok (.bipush 12, 2) := by decide +kernel
theorem dX4_init_100 : decode cX4_init 100 = .ok (.newarray .int, 2) := by decide +kernel
theorem dX4_init_102 : decode cX4_init 102 = .ok (.putfield 43, 3) := by decide +kernel
theorem dX4_init_105 : decode cX4_init 105 = .ok (.aload_n 0, 1) := by decide +kernel
theorem dX4_init_106 : decode cX4_init 106 = .ok (.bipush 12, 2) := by decide +kernel
theorem dX4_init_108 : decode cX4_init 108 = .ok (.newarray .int, 2) := by decide +kernel
theorem dX4_init_110 : decode cX4_init 110 = .ok (.putfield 46, 3) := by decide +kernel
theorem dX4_init_113 : decode cX4_init 113 = .ok (.aload_n 0, 1) := by decide +kernel
theorem dX4_init_114 : decode cX4_init 114 = .ok (.bipush 12, 2) := by decide +kernel
theorem dX4_init_116 : decode cX4_init 116 = .ok (.newarray .int, 2) := by decide +kernel
theorem dX4_init_118 : decode cX4_init 118 = .ok (.putfield 49, 3) := by decide +kernel
theorem dX4_init_121 : decode cX4_init 121 = .ok (.aload_n 0, 1) := by decide +kernel
theorem dX4_init_122 : decode cX4_init 122 = .ok (.bipush 12, 2) := by decide +kernel
theorem dX4_init_124 : decode cX4_init 124 = .ok (.newarray .int, 2) := by decide +kernel
theorem dX4_init_126 : decode cX4_init 126 = .ok (.putfield 52, 3) := by decide +kernel
theorem dX4_init_129 : decode cX4_init 129 = .ok (.aload_n 0, 1) := by decide +kernel
theorem dX4_init_130 : decode cX4_init 130 = .ok (.bipush 10, 2) := by decide +kernel
theorem dX4_init_132 : decode cX4_init 132 = .ok (.newarray .int, 2) := by decide +kernel
theorem dX4_init_134 : decode cX4_init 134 = .ok (.putfield 55, 3) := by decide +kernel
theorem dX4_init_137 : decode cX4_init 137 = .ok (.aload_n 0, 1) := by decide +kernel
theorem dX4_init_138 : decode cX4_init 138 = .ok (.bipush 12, 2) := by decide +kernel
theorem dX4_init_140 : decode cX4_init 140 = .ok (.newarray .int, 2) := by decide +kernel
theorem dX4_init_142 : decode cX4_init 142 = .ok (.putfield 58, 3) := by decide +kernel
theorem dX4_init_145 : decode cX4_init 145 = .ok (.aload_n 0, 1) := by decide +kernel
theorem dX4_init_146 : decode cX4_init 146 = .ok (.getfield 13, 3) := by decide +kernel
theorem dX4_init_149 : decode cX4_init 149 = .ok (.iconst 1, 1) := by decide +kernel
theorem dX4_init_150 : decode cX4_init 150 = .ok (.bipush 9, 2) := by decide +kernel
theorem dX4_init_152 : decode cX4_init 152 = .ok (.iastore, 1) := by decide +kernel
theorem dX4_init_153 : decode cX4_init 153 = .ok (.iconst 0, 1) := by decide +kernel
theorem dX4_init_154 : decode cX4_init 154 = .ok (.istore_n 1, 1) := by decide +kernel
theorem dX4_init_155 : decode cX4_init 155 = .ok (.iload_n 1, 1) := by decide +kernel
theorem dX4_init_156 : decode cX4_init 156 = .ok (.bipush 12, 2) := by decide +kernel
theorem dX4_init_158 : decode cX4_init 158 = .ok (.if_icmp .ge 16, 3) := by decide +kernel
theorem dX4_init_161 : decode cX4_init 161 = .ok (.aload_n 0, 1) := by decide +kernel
theorem dX4_init_162 : decode cX4_init 162 = .ok (.getfield 28, 3) := by decide +kernel
theorem dX4_init_165 : decode cX4_init 165 = .ok (.iload_n 1, 1) := by decide +kernel
theorem dX4_init_166 : decode cX4_init 166 = .ok (.iconst (-1), 1) := by decide +kernel
theorem dX4_init_167 : decode cX4_init 167 = .ok (.iastore, 1) := by decide +kernel
theorem dX4_init_168 : decode cX4_init 168 = .ok (.iinc 1 1, 3) := by decide +kernel
theorem dX4_init_171 : decode cX4_init 171 = .ok (.goto (-16), 3) := by decide +kernel
theorem dX4_init_174 : decode cX4_init 174 = .ok (.return_, 1) := by decide +kernel
theorem dX4_thrown_0 : decode cX4_thrown 0 = .ok (.aload_n 0, 1) := by decide +kernel
theorem dX4_thrown_1 : decode cX4_thrown 1 = .ok (.getfield 61, 3) := by decide +kernel
theorem dX4_thrown_4 : decode cX4_thrown 4 = .ok (.ireturn, 1) := by decide +kernel
theorem dX4_fails_0 : decode cX4_fails 0 = .ok (.aload_n 0, 1) := by decide +kernel
theorem dX4_fails_1 : decode cX4_fails 1 = .ok (.iload_n 1, 1) := by decide +kernel
theorem dX4_fails_2 : decode cX4_fails 2 = .ok (.putfield 61, 3) := by decide +kernel
theorem dX4_fails_5 : decode cX4_fails 5 = .ok (.iconst 0, 1) := by decide +kernel
theorem dX4_fails_6 : decode cX4_fails 6 = .ok (.ireturn, 1) := by decide +kernel
theorem dX4_in_0 : decode cX4_in 0 = .ok (.iload_n 0, 1) := by decide +kernel
theorem dX4_in_1 : decode cX4_in 1 = .ok (.iload_n 1, 1) := by decide +kernel
theorem dX4_in_2 : decode cX4_in 2 = .ok (.if_icmp .lt 12, 3) := by decide +kernel
theorem dX4_in_5 : decode cX4_in 5 = .ok (.iload_n 0, 1) := by decide +kernel
theorem dX4_in_6 : decode cX4_in 6 = .ok (.iload_n 2, 1) := by decide +kernel
theorem dX4_in_7 : decode cX4_in 7 = .ok (.if_icmp .gt 7, 3) := by decide +kernel
theorem dX4_in_10 : decode cX4_in 10 = .ok (.iconst 1, 1) := by decide +kernel
theorem dX4_in_11 : decode cX4_in 11 = .ok (.goto 4, 3) := by decide +kernel
theorem dX4_in_14 : decode cX4_in 14 = .ok (.iconst 0, 1) := by decide +kernel
theorem dX4_in_15 : decode cX4_in 15 = .ok (.ireturn, 1) := by decide +kernel
set_option maxRecDepth 20000 in
theorem ggX4_isTown_X4_in : GoodIn wsX4_isTown wsX4_in := goodIn_r _ [4] (by decide +kernel) (by decide +kernel)
set_option maxRecDepth 20000 in
theorem gX4_isTown_X4_in : GoodIn wsX4_isTown (va_wsS RX4 65 yX4_in wsX4_in) := goodIn_app (goodIn_of _ (by decide +kernel)) ggX4_isTown_X4_in
theorem dX4_isTown_0 : decode cX4_isTown 0 = .ok (.iload_n 0, 1) := by decide +kernel
theorem dX4_isTown_1 : decode cX4_isTown 1 = .ok (.iconst 0, 1) := by decide +kernel
theorem dX4_isTown_2 : decode cX4_isTown 2 = .ok (.bipush 9, 2) := by decide +kernel
theorem dX4_isTown_4 : decode cX4_isTown 4 = .ok (.invokestatic 65, 3) := by decide +kernel
theorem dX4_isTown_7 : decode cX4_isTown 7 = .ok (.ireturn, 1) := by decide +kernel
set_option maxRecDepth 20000 in
theorem ggX4_isUnit_X4_in : GoodIn wsX4_isUnit wsX4_in := goodIn_r _ [5] (by decide +kernel) (by decide +kernel)
set_option maxRecDepth 20000 in
theorem gX4_isUnit_X4_in : GoodIn wsX4_isUnit (va_wsS RX4 65 yX4_in wsX4_in) := goodIn_app (goodIn_of _ (by decide +kernel)) ggX4_isUnit_X4_in
theorem dX4_isUnit_0 : decode cX4_isUnit 0 = .ok (.iload_n 1, 1) := by decide +kernel
theorem dX4_isUnit_1 : decode cX4_isUnit 1 = .ok (.iconst 0, 1) := by decide +kernel
theorem dX4_isUnit_2 : decode cX4_isUnit 2 = .ok (.aload_n 0, 1) := by decide +kernel
theorem dX4_isUnit_3 : decode cX4_isUnit 3 = .ok (.getfield 69, 3) := by decide +kernel
theorem dX4_isUnit_6 : decode cX4_isUnit 6 = .ok (.iconst 1, 1) := by decide +kernel
theorem dX4_isUnit_7 : decode cX4_isUnit 7 = .ok (.isub, 1) := by decide +kernel
theorem dX4_isUnit_8 : decode cX4_isUnit 8 = .ok (.invokestatic 65, 3) := by decide +kernel
theorem dX4_isUnit_11 : decode cX4_isUnit 11 = .ok (.ireturn, 1) := by decide +kernel
set_option maxRecDepth 20000 in
theorem ggX4_addRoad_X4_isTown : GoodIn wsX4_addRoad wsX4_isTown := goodIn_r _ [8, 9, 10, 7, 11] (by decide +kernel) (by decide +kernel)
set_option maxRecDepth 20000 in
theorem gX4_addRoad_X4_isTown : GoodIn wsX4_addRoad (va_wsS RX4 72 yX4_isTown wsX4_isTown) := goodIn_app (goodIn_of _ (by decide +kernel)) ggX4_addRoad_X4_isTown
set_option maxRecDepth 20000 in
theorem ggX4_addRoad_X4_fails : GoodIn wsX4_addRoad wsX4_fails := goodIn_r _ [15, 1, 16, 17, 18, 19, 20, 21, 22, 23, 24, 25, 26, 27, 28, 29, 30, 31, 32, 33, 34, 35, 36, 37] (by decide +kernel) (by decide +kernel)
set_option maxRecDepth 20000 in
theorem gX4_addRoad_X4_fails : GoodIn wsX4_addRoad (wsV RX4 76 RX4 yX4_fails wsX4_fails) := goodIn_app (goodIn_of _ (by decide +kernel)) ggX4_addRoad_X4_fails
theorem dX4_addRoad_0 : decode cX4_addRoad 0 = .ok (.aload_n 0, 1) := by decide +kernel
theorem dX4_addRoad_1 : decode cX4_addRoad 1 = .ok (.iconst 0, 1) := by decide +kernel
theorem dX4_addRoad_2 : decode cX4_addRoad 2 = .ok (.putfield 61, 3) := by decide +kernel
theorem dX4_addRoad_5 : decode cX4_addRoad 5 = .ok (.iload_n 1, 1) := by decide +kernel
theorem dX4_addRoad_6 : decode cX4_addRoad 6 = .ok (.invokestatic 72, 3) := by decide +kernel
theorem dX4_addRoad_9 : decode cX4_addRoad 9 = .ok (.ifCond .eq 15, 3) := by decide +kernel
theorem dX4_addRoad_12 : decode cX4_addRoad 12 = .ok (.iload_n 2, 1) := by decide +kernel
theorem dX4_addRoad_13 : decode cX4_addRoad 13 = .ok (.invokestatic 72, 3) := by decide +kernel
theorem dX4_addRoad_16 : decode cX4_addRoad 16 = .ok (.ifCond .eq 8, 3) := by decide +kernel
theorem dX4_addRoad_19 : decode cX4_addRoad 19 = .ok (.iload_n 1, 1) := by decide +kernel
theorem dX4_addRoad_20 : decode cX4_addRoad 20 = .ok (.iload_n 2, 1) := by decide +kernel
theorem dX4_addRoad_21 : decode cX4_addRoad 21 = .ok (.if_icmp .ne 9, 3) := by decide +kernel
theorem dX4_addRoad_24 : decode cX4_addRoad 24 = .ok (.aload_n 0, 1) := by decide +kernel
theorem dX4_addRoad_25 : decode cX4_addRoad 25 = .ok (.iconst 1, 1) := by decide +kernel
theorem dX4_addRoad_26 : decode cX4_addRoad 26 = .ok (.invokevirtual 76, 3) := by decide +kernel
theorem dX4_addRoad_29 : decode cX4_addRoad 29 = .ok (.ireturn, 1) := by decide +kernel
theorem dX4_addRoad_30 : decode cX4_addRoad 30 = .ok (.aload_n 0, 1) := by decide +kernel
theorem dX4_addRoad_31 : decode cX4_addRoad 31 = .ok (.getfield 80, 3) := by decide +kernel
theorem dX4_addRoad_34 : decode cX4_addRoad 34 = .ok (.ifCond .gt 26, 3) := by decide +kernel
theorem dX4_addRoad_37 : decode cX4_addRoad 37 = .ok (.aload_n 0, 1) := by decide +kernel
theorem dX4_addRoad_38 : decode cX4_addRoad 38 = .ok (.getfield 7, 3) := by decide +kernel
theorem dX4_addRoad_41 : decode cX4_addRoad 41 = .ok (.bipush 10, 2) := by decide +kernel
theorem dX4_addRoad_43 : decode cX4_addRoad 43 = .ok (.iload_n 1, 1) := by decide +kernel
theorem dX4_addRoad_44 : decode cX4_addRoad 44 = .ok (.imul, 1) := by decide +kernel
theorem dX4_addRoad_45 : decode cX4_addRoad 45 = .ok (.iload_n 2, 1) := by decide +kernel
theorem dX4_addRoad_46 : decode cX4_addRoad 46 = .ok (.iadd, 1) := by decide +kernel
theorem dX4_addRoad_47 : decode cX4_addRoad 47 = .ok (.iaload, 1) := by decide +kernel
theorem dX4_addRoad_48 : decode cX4_addRoad 48 = .ok (.ifCond .gt 12, 3) := by decide +kernel
theorem dX4_addRoad_51 : decode cX4_addRoad 51 = .ok (.aload_n 0, 1) := by decide +kernel
theorem dX4_addRoad_52 : decode cX4_addRoad 52 = .ok (.getfield 83, 3) := by decide +kernel
theorem dX4_addRoad_55 : decode cX4_addRoad 55 = .ok (.bipush 15, 2) := by decide +kernel
theorem dX4_addRoad_57 : decode cX4_addRoad 57 = .ok (.if_icmp .ne 9, 3) := by decide +kernel
theorem dX4_addRoad_60 : decode cX4_addRoad 60 = .ok (.aload_n 0, 1) := by decide +kernel
theorem dX4_addRoad_61 : decode cX4_addRoad 61 = .ok (.iconst 2, 1) := by decide +kernel
theorem dX4_addRoad_62 : decode cX4_addRoad 62 = .ok (.invokevirtual 76, 3) := by decide +kernel
theorem dX4_addRoad_65 : decode cX4_addRoad 65 = .ok (.ireturn, 1) := by decide +kernel
theorem dX4_addRoad_66 : decode cX4_addRoad 66 = .ok (.aload_n 0, 1) := by decide +kernel
theorem dX4_addRoad_67 : decode cX4_addRoad 67 = .ok (.getfield 7, 3) := by decide +kernel
theorem dX4_addRoad_70 : decode cX4_addRoad 70 = .ok (.bipush 10, 2) := by decide +kernel
theorem dX4_addRoad_72 : decode cX4_addRoad 72 = .ok (.iload_n 1, 1) := by decide +kernel
theorem dX4_addRoad_73 : decode cX4_addRoad 73 = .ok (.imul, 1) := by decide +kernel
theorem dX4_addRoad_74 : decode cX4_addRoad 74 = .ok (.iload_n 2, 1) := by decide +kernel
theorem dX4_addRoad_75 : decode cX4_addRoad 75 = .ok (.iadd, 1) := by decide +kernel
theorem dX4_addRoad_76 : decode cX4_addRoad 76 = .ok (.iload_n 3, 1) := by decide +kernel
theorem dX4_addRoad_77 : decode cX4_addRoad 77 = .ok (.ifCond .eq 7, 3) := by decide +kernel
theorem dX4_addRoad_80 : decode cX4_addRoad 80 = .ok (.iconst 2, 1) := by decide +kernel
theorem dX4_addRoad_81 : decode cX4_addRoad 81 = .ok (.goto 4, 3) := by decide +kernel
theorem dX4_addRoad_84 : decode cX4_addRoad 84 = .ok (.iconst 1, 1) := by decide +kernel
theorem dX4_addRoad_85 : decode cX4_addRoad 85 = .ok (.iastore, 1) := by decide +kernel
theorem dX4_addRoad_86 : decode cX4_addRoad 86 = .ok (.aload_n 0, 1) := by decide +kernel
theorem dX4_addRoad_87 : decode cX4_addRoad 87 = .ok (.getfield 7, 3) := by decide +kernel
theorem dX4_addRoad_90 : decode cX4_addRoad 90 = .ok (.bipush 10, 2) := by decide +kernel
theorem dX4_addRoad_92 : decode cX4_addRoad 92 = .ok (.iload_n 2, 1) := by decide +kernel
theorem dX4_addRoad_93 : decode cX4_addRoad 93 = .ok (.imul, 1) := by decide +kernel
theorem dX4_addRoad_94 : decode cX4_addRoad 94 = .ok (.iload_n 1, 1) := by decide +kernel
theorem dX4_addRoad_95 : decode cX4_addRoad 95 = .ok (.iadd, 1) := by decide +kernel
theorem dX4_addRoad_96 : decode cX4_addRoad 96 = .ok (.iload_n 3, 1) := by decide +kernel
theorem dX4_addRoad_97 : decode cX4_addRoad 97 = .ok (.ifCond .eq 7, 3) := by decide +kernel
theorem dX4_addRoad_100 : decode cX4_addRoad 100 = .ok (.iconst 2, 1) := by decide +kernel
theorem dX4_addRoad_101 : decode cX4_addRoad 101 = .ok (.goto 4, 3) := by decide +kernel
theorem dX4_addRoad_104 : decode cX4_addRoad 104 = .ok (.iconst 1, 1) := by decide +kernel
theorem dX4_addRoad_105 : decode cX4_addRoad 105 = .ok (.iastore, 1) := by decide +kernel
theorem dX4_addRoad_106 : decode cX4_addRoad 106 = .ok (.aload_n 0, 1) := by decide +kernel
theorem dX4_addRoad_107 : decode cX4_addRoad 107 = .ok (.dup, 1) := by decide +kernel
theorem dX4_addRoad_108 : decode cX4_addRoad 108 = .ok (.getfield 83, 3) := by decide +kernel
theorem dX4_addRoad_111 : decode cX4_addRoad 111 = .ok (.iconst 1, 1) := by decide +kernel
theorem dX4_addRoad_112 : decode cX4_addRoad 112 = .ok (.iadd, 1) := by decide +kernel
theorem dX4_addRoad_113 : decode cX4_addRoad 113 = .ok (.putfield 83, 3) := by decide +kernel
theorem dX4_addRoad_116 : decode cX4_addRoad 116 = .ok (.aload_n 0, 1) := by decide +kernel
theorem dX4_addRoad_117 : decode cX4_addRoad 117 = .ok (.getfield 83, 3) := by decide +kernel
theorem dX4_addRoad_120 : decode cX4_addRoad 120 = .ok (.ireturn, 1) := by decide +kernel
set_option maxRecDepth 20000 in
theorem ggX4_setDepot_X4_in : GoodIn wsX4_setDepot wsX4_in := goodIn_r _ [7] (by decide +kernel) (by decide +kernel)
set_option maxRecDepth 20000 in
theorem gX4_setDepot_X4_in : GoodIn wsX4_setDepot (va_wsS RX4 65 yX4_in wsX4_in) := goodIn_app (goodIn_of _ (by decide +kernel)) ggX4_setDepot_X4_in
set_option maxRecDepth 20000 in
theorem ggX4_setDepot_X4_isTown : GoodIn wsX4_setDepot wsX4_isTown := goodIn_r _ [10, 4, 5, 6, 7] (by decide +kernel) (by decide +kernel)
set_option maxRecDepth 20000 in
theorem gX4_setDepot_X4_isTown : GoodIn wsX4_setDepot (va_wsS RX4 72 yX4_isTown wsX4_isTown) := goodIn_app (goodIn_of _ (by decide +kernel)) ggX4_setDepot_X4_isTown
set_option maxRecDepth 20000 in
theorem ggX4_setDepot_X4_fails : GoodIn wsX4_setDepot wsX4_fails := goodIn_r _ [14, 1, 15, 16, 17, 18, 19, 20, 21, 22, 23, 24, 25, 26, 27, 28, 29, 30, 31, 32, 33, 34, 35, 36] (by decide +kernel) (by decide +kernel)
set_option maxRecDepth 20000 in
theorem gX4_setDepot_X4_fails : GoodIn wsX4_setDepot (wsV RX4 76 RX4 yX4_fails wsX4_fails) := goodIn_app (goodIn_of _ (by decide +kernel)) ggX4_setDepot_X4_fails
theorem dX4_setDepot_0 : decode cX4_setDepot 0 = .ok (.aload_n 0, 1) := by decide +kernel
theorem dX4_setDepot_1 : decode cX4_setDepot 1 = .ok (.iconst 0, 1) := by decide +kernel
theorem dX4_setDepot_2 : decode cX4_setDepot 2 = .ok (.putfield 61, 3) := by decide +kernel
theorem dX4_setDepot_5 : decode cX4_setDepot 5 = .ok (.iload_n 1, 1) := by decide +kernel
theorem dX4_setDepot_6 : decode cX4_setDepot 6 = .ok (.iconst 0, 1) := by decide +kernel
theorem dX4_setDepot_7 : decode cX4_setDepot 7 = .ok (.iconst 1, 1) := by decide +kernel
theorem dX4_setDepot_8 : decode cX4_setDepot 8 = .ok (.invokestatic 65, 3) := by decide +kernel
theorem dX4_setDepot_11 : decode cX4_setDepot 11 = .ok (.ifCond .eq 10, 3) := by decide +kernel
theorem dX4_setDepot_14 : decode cX4_setDepot 14 = .ok (.iload_n 2, 1) := by decide +kernel
theorem dX4_setDepot_15 : decode cX4_setDepot 15 = .ok (.invokestatic 72, 3) := by decide +kernel
theorem dX4_setDepot_18 : decode cX4_setDepot 18 = .ok (.ifCond .ne 9, 3) := by decide +kernel
theorem dX4_setDepot_21 : decode cX4_setDepot 21 = .ok (.aload_n 0, 1) := by decide +kernel
theorem dX4_setDepot_22 : decode cX4_setDepot 22 = .ok (.iconst 1, 1) := by decide +kernel
theorem dX4_setDepot_23 : decode cX4_setDepot 23 = .ok (.invokevirtual 76, 3) := by decide +kernel
theorem dX4_setDepot_26 : decode cX4_setDepot 26 = .ok (.ireturn, 1) := by decide +kernel
theorem dX4_setDepot_27 : decode cX4_setDepot 27 = .ok (.aload_n 0, 1) := by decide +kernel
theorem dX4_setDepot_28 : decode cX4_setDepot 28 = .ok (.getfield 80, 3) := by decide +kernel
theorem dX4_setDepot_31 : decode cX4_setDepot 31 = .ok (.ifCond .le 9, 3) := by decide +kernel
theorem dX4_setDepot_34 : decode cX4_setDepot 34 = .ok (.aload_n 0, 1) := by decide +kernel
theorem dX4_setDepot_35 : decode cX4_setDepot 35 = .ok (.iconst 2, 1) := by decide +kernel
theorem dX4_setDepot_36 : decode cX4_setDepot 36 = .ok (.invokevirtual 76, 3) := by decide +kernel
theorem dX4_setDepot_39 : decode cX4_setDepot 39 = .ok (.ireturn, 1) := by decide +kernel
theorem dX4_setDepot_40 : decode cX4_setDepot 40 = .ok (.aload_n 0, 1) := by decide +kernel
theorem dX4_setDepot_41 : decode cX4_setDepot 41 = .ok (.getfield 13, 3) := by decide +kernel
theorem dX4_setDepot_44 : decode cX4_setDepot 44 = .ok (.iload_n 1, 1) := by decide +kernel
theorem dX4_setDepot_45 : decode cX4_setDepot 45 = .ok (.iaload, 1) := by decide +kernel
theorem dX4_setDepot_46 : decode cX4_setDepot 46 = .ok (.istore_n 3, 1) := by decide +kernel
theorem dX4_setDepot_47 : decode cX4_setDepot 47 = .ok (.aload_n 0, 1) := by decide +kernel
theorem dX4_setDepot_48 : decode cX4_setDepot 48 = .ok (.getfield 13, 3) := by decide +kernel
theorem dX4_setDepot_51 : decode cX4_setDepot 51 = .ok (.iload_n 1, 1) := by decide +kernel
theorem dX4_setDepot_52 : decode cX4_setDepot 52 = .ok (.iload_n 2, 1) := by decide +kernel
theorem dX4_setDepot_53 : decode cX4_setDepot 53 = .ok (.iastore, 1) := by decide +kernel
theorem dX4_setDepot_54 : decode cX4_setDepot 54 = .ok (.iload_n 3, 1) := by decide +kernel
theorem dX4_setDepot_55 : decode cX4_setDepot 55 = .ok (.ireturn, 1) := by decide +kernel
theorem dX4_isHeld_0 : decode cX4_isHeld 0 = .ok (.iconst 0, 1) := by decide +kernel
theorem dX4_isHeld_1 : decode cX4_isHeld 1 = .ok (.istore_n 3, 1) := by decide +kernel
theorem dX4_isHeld_2 : decode cX4_isHeld 2 = .ok (.iload_n 3, 1) := by decide +kernel
theorem dX4_isHeld_3 : decode cX4_isHeld 3 = .ok (.aload_n 0, 1) := by decide +kernel
theorem dX4_isHeld_4 : decode cX4_isHeld 4 = .ok (.getfield 69, 3) := by decide +kernel
theorem dX4_isHeld_7 : decode cX4_isHeld 7 = .ok (.if_icmp .ge 31, 3) := by decide +kernel
theorem dX4_isHeld_10 : decode cX4_isHeld 10 = .ok (.aload_n 0, 1) := by decide +kernel
theorem dX4_isHeld_11 : decode cX4_isHeld 11 = .ok (.getfield 16, 3) := by decide +kernel
theorem dX4_isHeld_14 : decode cX4_isHeld 14 = .ok (.iload_n 3, 1) := by decide +kernel
theorem dX4_isHeld_15 : decode cX4_isHeld 15 = .ok (.iaload, 1) := by decide +kernel
theorem dX4_isHeld_16 : decode cX4_isHeld 16 = .ok (.iload_n 2, 1) := by decide +kernel
theorem dX4_isHeld_17 : decode cX4_isHeld 17 = .ok (.if_icmp .ne 15, 3) := by decide +kernel
theorem dX4_isHeld_20 : decode cX4_isHeld 20 = .ok (.aload_n 0, 1) := by decide +kernel
theorem dX4_isHeld_21 : decode cX4_isHeld 21 = .ok (.getfield 43, 3) := by decide +kernel
theorem dX4_isHeld_24 : decode cX4_isHeld 24 = .ok (.iload_n 3, 1) := by decide +kernel
theorem dX4_isHeld_25 : decode cX4_isHeld 25 = .ok (.iaload, 1) := by decide +kernel
theorem dX4_isHeld_26 : decode cX4_isHeld 26 = .ok (.iload_n 1, 1) := by decide +kernel
theorem dX4_isHeld_27 : decode cX4_isHeld 27 = .ok (.if_icmp .ne 5, 3) := by decide +kernel
theorem dX4_isHeld_30 : decode cX4_isHeld 30 = .ok (.iconst 1, 1) := by decide +kernel
theorem dX4_isHeld_31 : decode cX4_isHeld 31 = .ok (.ireturn, 1) := by decide +kernel
theorem dX4_isHeld_32 : decode cX4_isHeld 32 = .ok (.iinc 3 1, 3) := by decide +kernel
theorem dX4_isHeld_35 : decode cX4_isHeld 35 = .ok (.goto (-33), 3) := by decide +kernel
theorem dX4_isHeld_38 : decode cX4_isHeld 38 = .ok (.iconst 0, 1) := by decide +kernel
theorem dX4_isHeld_39 : decode cX4_isHeld 39 = .ok (.ireturn, 1) := by decide +kernel
theorem dX4_take_0 : decode cX4_take 0 = .ok (.iconst 0, 1) := by decide +kernel
theorem dX4_take_1 : decode cX4_take 1 = .ok (.istore_n 2, 1) := by decide +kernel
theorem dX4_take_2 : decode cX4_take 2 = .ok (.iload_n 2, 1) := by decide +kernel
theorem dX4_take_3 : decode cX4_take 3 = .ok (.aload_n 0, 1) := by decide +kernel
theorem dX4_take_4 : decode cX4_take 4 = .ok (.getfield 69, 3) := by decide +kernel
theorem dX4_take_7 : decode cX4_take 7 = .ok (.if_icmp .ge 43, 3) := by decide +kernel
theorem dX4_take_10 : decode cX4_take 10 = .ok (.aload_n 0, 1) := by decide +kernel
theorem dX4_take_11 : decode cX4_take 11 = .ok (.getfield 43, 3) := by decide +kernel
theorem dX4_take_14 : decode cX4_take 14 = .ok (.iload_n 2, 1) := by decide +kernel
theorem dX4_take_15 : decode cX4_take 15 = .ok (.aload_n 0, 1) := by decide +kernel
theorem dX4_take_16 : decode cX4_take 16 = .ok (.getfield 19, 3) := by decide +kernel
theorem dX4_take_19 : decode cX4_take 19 = .ok (.bipush 12, 2) := by decide +kernel
theorem dX4_take_21 : decode cX4_take 21 = .ok (.iload_n 1, 1) := by decide +kernel
theorem dX4_take_22 : decode cX4_take 22 = .ok (.imul, 1) := by decide +kernel
theorem dX4_take_23 : decode cX4_take 23 = .ok (.iload_n 2, 1) := by decide +kernel
theorem dX4_take_24 : decode cX4_take 24 = .ok (.iadd, 1) := by decide +kernel
theorem dX4_take_25 : decode cX4_take 25 = .ok (.iaload, 1) := by decide +kernel
theorem dX4_take_26 : decode cX4_take 26 = .ok (.iastore, 1) := by decide +kernel
theorem dX4_take_27 : decode cX4_take 27 = .ok (.aload_n 0, 1) := by decide +kernel
theorem dX4_take_28 : decode cX4_take 28 = .ok (.getfield 46, 3) := by decide +kernel
theorem dX4_take_31 : decode cX4_take 31 = .ok (.iload_n 2, 1) := by decide +kernel
theorem dX4_take_32 : decode cX4_take 32 = .ok (.aload_n 0, 1) := by decide +kernel
theorem dX4_take_33 : decode cX4_take 33 = .ok (.getfield 22, 3) := by decide +kernel
theorem dX4_take_36 : decode cX4_take 36 = .ok (.bipush 12, 2) := by decide +kernel
theorem dX4_take_38 : decode cX4_take 38 = .ok (.iload_n 1, 1) := by decide +kernel
theorem dX4_take_39 : decode cX4_take 39 = .ok (.imul, 1) := by decide +kernel
theorem dX4_take_40 : decode cX4_take 40 = .ok (.iload_n 2, 1) := by decide +kernel
theorem dX4_take_41 : decode cX4_take 41 = .ok (.iadd, 1) := by decide +kernel
theorem dX4_take_42 : decode cX4_take 42 = .ok (.iaload, 1) := by decide +kernel
theorem dX4_take_43 : decode cX4_take 43 = .ok (.iastore, 1) := by decide +kernel
theorem dX4_take_44 : decode cX4_take 44 = .ok (.iinc 2 1, 3) := by decide +kernel
theorem dX4_take_47 : decode cX4_take 47 = .ok (.goto (-45), 3) := by decide +kernel
theorem dX4_take_50 : decode cX4_take 50 = .ok (.return_, 1) := by decide +kernel
set_option maxRecDepth 20000 in
theorem ggX4_addUnit_X4_in : GoodIn wsX4_addUnit wsX4_in := goodIn_r _ [10] (by decide +kernel) (by decide +kernel)
set_option maxRecDepth 20000 in
theorem gX4_addUnit_X4_in : GoodIn wsX4_addUnit (va_wsS RX4 65 yX4_in wsX4_in) := goodIn_app (goodIn_of _ (by decide +kernel)) ggX4_addUnit_X4_in
set_option maxRecDepth 20000 in
theorem ggX4_addUnit_X4_isTown : GoodIn wsX4_addUnit wsX4_isTown := goodIn_r _ [13, 7, 8, 9, 10] (by decide +kernel) (by decide +kernel)
set_option maxRecDepth 20000 in
theorem gX4_addUnit_X4_isTown : GoodIn wsX4_addUnit (va_wsS RX4 72 yX4_isTown wsX4_isTown) := goodIn_app (goodIn_of _ (by decide +kernel)) ggX4_addUnit_X4_isTown
set_option maxRecDepth 20000 in
theorem ggX4_addUnit_X4_fails : GoodIn wsX4_addUnit wsX4_fails := goodIn_r _ [17, 1, 28, 29, 30, 31, 32, 33, 34, 35, 36, 37, 38, 39, 40, 41, 42, 43, 44, 45, 46, 47, 48, 49] (by decide +kernel) (by decide +kernel)
set_option maxRecDepth 20000 in
theorem gX4_addUnit_X4_fails : GoodIn wsX4_addUnit (wsV RX4 76 RX4 yX4_fails wsX4_fails) := goodIn_app (goodIn_of _ (by decide +kernel)) ggX4_addUnit_X4_fails
set_option maxRecDepth 20000 in
theorem ggX4_addUnit_X4_take : GoodIn wsX4_addUnit wsX4_take := goodIn_r _ [21, 3, 22, 5, 23, 6, 28, 29, 30, 31, 32, 33, 34, 35, 36, 37, 38, 39, 40, 41, 42, 43, 44, 45, 46, 47, 48, 49] (by decide +kernel) (by decide +kernel)
set_option maxRecDepth 20000 in
theorem gX4_addUnit_X4_take : GoodIn wsX4_addUnit (wsV RX4 86 RX4 yX4_take wsX4_take) := goodIn_app (goodIn_of _ (by decide +kernel)) ggX4_addUnit_X4_take
set_option maxRecDepth 20000 in
theorem ggX4_addUnit_X4_isHeld : GoodIn wsX4_addUnit wsX4_isHeld := goodIn_r _ [27, 3, 4, 22, 28, 29, 30, 31, 32, 33, 34, 35, 36, 37, 38, 39, 40, 41, 42, 43, 44, 45, 46, 47, 48, 49] (by decide +kernel) (by decide +kernel)
set_option maxRecDepth 20000 in
theorem gX4_addUnit_X4_isHeld : GoodIn wsX4_addUnit (wsV RX4 90 RX4 yX4_isHeld wsX4_isHeld) := goodIn_app (goodIn_of _ (by decide +kernel)) ggX4_addUnit_X4_isHeld
theorem dX4_addUnit_0 : decode cX4_addUnit 0 = .ok (.aload_n 0, 1) := by decide +kernel
theorem dX4_addUnit_1 : decode cX4_addUnit 1 = .ok (.iconst 0, 1) := by decide +kernel
theorem dX4_addUnit_2 : decode cX4_addUnit 2 = .ok (.putfield 61, 3) := by decide +kernel
theorem dX4_addUnit_5 : decode cX4_addUnit 5 = .ok (.iload_n 1, 1) := by decide +kernel
theorem dX4_addUnit_6 : decode cX4_addUnit 6 = .ok (.iconst 0, 1) := by decide +kernel
theorem dX4_addUnit_7 : decode cX4_addUnit 7 = .ok (.iconst 1, 1) := by decide +kernel
theorem dX4_addUnit_8 : decode cX4_addUnit 8 = .ok (.invokestatic 65, 3) := by decide +kernel
theorem dX4_addUnit_11 : decode cX4_addUnit 11 = .ok (.ifCond .eq 20, 3) := by decide +kernel
theorem dX4_addUnit_14 : decode cX4_addUnit 14 = .ok (.iload_n 2, 1) := by decide +kernel
theorem dX4_addUnit_15 : decode cX4_addUnit 15 = .ok (.invokestatic 72, 3) := by decide +kernel
theorem dX4_addUnit_18 : decode cX4_addUnit 18 = .ok (.ifCond .eq 13, 3) := by decide +kernel
theorem dX4_addUnit_21 : decode cX4_addUnit 21 = .ok (.iload_n 3, 1) := by decide +kernel
theorem dX4_addUnit_22 : decode cX4_addUnit 22 = .ok (.iconst 1, 1) := by decide +kernel
theorem dX4_addUnit_23 : decode cX4_addUnit 23 = .ok (.bipush 9, 2) := by decide +kernel
theorem dX4_addUnit_25 : decode cX4_addUnit 25 = .ok (.invokestatic 65, 3) := by decide +kernel
theorem dX4_addUnit_28 : decode cX4_addUnit 28 = .ok (.ifCond .ne 9, 3) := by decide +kernel
theorem dX4_addUnit_31 : decode cX4_addUnit 31 = .ok (.aload_n 0, 1) := by decide +kernel
theorem dX4_addUnit_32 : decode cX4_addUnit 32 = .ok (.iconst 1, 1) := by decide +kernel
theorem dX4_addUnit_33 : decode cX4_addUnit 33 = .ok (.invokevirtual 76, 3) := by decide +kernel
theorem dX4_addUnit_36 : decode cX4_addUnit 36 = .ok (.ireturn, 1) := by decide +kernel
theorem dX4_addUnit_37 : decode cX4_addUnit 37 = .ok (.aload_n 0, 1) := by decide +kernel
theorem dX4_addUnit_38 : decode cX4_addUnit 38 = .ok (.iconst 0, 1) := by decide +kernel
theorem dX4_addUnit_39 : decode cX4_addUnit 39 = .ok (.invokevirtual 86, 3) := by decide +kernel
theorem dX4_addUnit_42 : decode cX4_addUnit 42 = .ok (.aload_n 0, 1) := by decide +kernel
theorem dX4_addUnit_43 : decode cX4_addUnit 43 = .ok (.getfield 80, 3) := by decide +kernel
theorem dX4_addUnit_46 : decode cX4_addUnit 46 = .ok (.ifCond .gt 23, 3) := by decide +kernel
theorem dX4_addUnit_49 : decode cX4_addUnit 49 = .ok (.aload_n 0, 1) := by decide +kernel
theorem dX4_addUnit_50 : decode cX4_addUnit 50 = .ok (.iload_n 2, 1) := by decide +kernel
theorem dX4_addUnit_51 : decode cX4_addUnit 51 = .ok (.iconst 1, 1) := by decide +kernel
theorem dX4_addUnit_52 : decode cX4_addUnit 52 = .ok (.iload_n 1, 1) := by decide +kernel
theorem dX4_addUnit_53 : decode cX4_addUnit 53 = .ok (.isub, 1) := by decide +kernel
theorem dX4_addUnit_54 : decode cX4_addUnit 54 = .ok (.invokevirtual 90, 3) := by decide +kernel
theorem dX4_addUnit_57 : decode cX4_addUnit 57 = .ok (.ifCond .ne 12, 3) := by decide +kernel
theorem dX4_addUnit_60 : decode cX4_addUnit 60 = .ok (.aload_n 0, 1) := by decide +kernel
theorem dX4_addUnit_61 : decode cX4_addUnit 61 = .ok (.getfield 69, 3) := by decide +kernel
theorem dX4_addUnit_64 : decode cX4_addUnit 64 = .ok (.bipush 12, 2) := by decide +kernel
theorem dX4_addUnit_66 : decode cX4_addUnit 66 = .ok (.if_icmp .ne 9, 3) := by decide +kernel
theorem dX4_addUnit_69 : decode cX4_addUnit 69 = .ok (.aload_n 0, 1) := by decide +kernel
theorem dX4_addUnit_70 : decode cX4_addUnit 70 = .ok (.iconst 2, 1) := by decide +kernel
theorem dX4_addUnit_71 : decode cX4_addUnit 71 = .ok (.invokevirtual 76, 3) := by decide +kernel
theorem dX4_addUnit_74 : decode cX4_addUnit 74 = .ok (.ireturn, 1) := by decide +kernel
theorem dX4_addUnit_75 : decode cX4_addUnit 75 = .ok (.aload_n 0, 1) := by decide +kernel
theorem dX4_addUnit_76 : decode cX4_addUnit 76 = .ok (.getfield 16, 3) := by decide +kernel
theorem dX4_addUnit_79 : decode cX4_addUnit 79 = .ok (.aload_n 0, 1) := by decide +kernel
theorem dX4_addUnit_80 : decode cX4_addUnit 80 = .ok (.getfield 69, 3) := by decide +kernel
theorem dX4_addUnit_83 : decode cX4_addUnit 83 = .ok (.iload_n 1, 1) := by decide +kernel
theorem dX4_addUnit_84 : decode cX4_addUnit 84 = .ok (.iastore, 1) := by decide +kernel
theorem dX4_addUnit_85 : decode cX4_addUnit 85 = .ok (.aload_n 0, 1) := by decide +kernel
theorem dX4_addUnit_86 : decode cX4_addUnit 86 = .ok (.getfield 19, 3) := by decide +kernel
theorem dX4_addUnit_89 : decode cX4_addUnit 89 = .ok (.aload_n 0, 1) := by decide +kernel
theorem dX4_addUnit_90 : decode cX4_addUnit 90 = .ok (.getfield 69, 3) := by decide +kernel
theorem dX4_addUnit_93 : decode cX4_addUnit 93 = .ok (.iload_n 2, 1) := by decide +kernel
theorem dX4_addUnit_94 : decode cX4_addUnit 94 = .ok (.iastore, 1) := by decide +kernel
theorem dX4_addUnit_95 : decode cX4_addUnit 95 = .ok (.aload_n 0, 1) := by decide +kernel
theorem dX4_addUnit_96 : decode cX4_addUnit 96 = .ok (.getfield 22, 3) := by decide +kernel
theorem dX4_addUnit_99 : decode cX4_addUnit 99 = .ok (.aload_n 0, 1) := by decide +kernel
theorem dX4_addUnit_100 : decode cX4_addUnit 100 = .ok (.getfield 69, 3) := by decide +kernel
theorem dX4_addUnit_103 : decode cX4_addUnit 103 = .ok (.iload_n 3, 1) := by decide +kernel
theorem dX4_addUnit_104 : decode cX4_addUnit 104 = .ok (.iastore, 1) := by decide +kernel
theorem dX4_addUnit_105 : decode cX4_addUnit 105 = .ok (.aload_n 0, 1) := by decide +kernel
theorem dX4_addUnit_106 : decode cX4_addUnit 106 = .ok (.dup, 1) := by decide +kernel
theorem dX4_addUnit_107 : decode cX4_addUnit 107 = .ok (.getfield 69, 3) := by decide +kernel
theorem dX4_addUnit_110 : decode cX4_addUnit 110 = .ok (.iconst 1, 1) := by decide +kernel
theorem dX4_addUnit_111 : decode cX4_addUnit 111 = .ok (.iadd, 1) := by decide +kernel
theorem dX4_addUnit_112 : decode cX4_addUnit 112 = .ok (.putfield 69, 3) := by decide +kernel
theorem dX4_addUnit_115 : decode cX4_addUnit 115 = .ok (.aload_n 0, 1) := by decide +kernel
theorem dX4_addUnit_116 : decode cX4_addUnit 116 = .ok (.getfield 69, 3) := by decide +kernel
theorem dX4_addUnit_119 : decode cX4_addUnit 119 = .ok (.iconst 1, 1) := by decide +kernel
theorem dX4_addUnit_120 : decode cX4_addUnit 120 = .ok (.isub, 1) := by decide +kernel
theorem dX4_addUnit_121 : decode cX4_addUnit 121 = .ok (.ireturn, 1) := by decide +kernel
set_option maxRecDepth 20000 in
theorem ggX4_order_X4_isUnit : GoodIn wsX4_order wsX4_isUnit := goodIn_r _ [7, 8, 9, 10, 6, 11, 16, 17, 18, 19, 20, 21, 22, 23, 24, 25, 26, 27, 28, 29, 30, 31, 32, 33, 34, 35, 36, 37] (by decide +kernel) (by decide +kernel)
set_option maxRecDepth 20000 in
theorem gX4_order_X4_isUnit : GoodIn wsX4_order (wsV RX4 94 RX4 yX4_isUnit wsX4_isUnit) := goodIn_app (goodIn_of _ (by decide +kernel)) ggX4_order_X4_isUnit
set_option maxRecDepth 20000 in
theorem ggX4_order_X4_fails : GoodIn wsX4_order wsX4_fails := goodIn_r _ [15, 1, 16, 17, 18, 19, 20, 21, 22, 23, 24, 25, 26, 27, 28, 29, 30, 31, 32, 33, 34, 35, 36, 37] (by decide +kernel) (by decide +kernel)
set_option maxRecDepth 20000 in
theorem gX4_order_X4_fails : GoodIn wsX4_order (wsV RX4 76 RX4 yX4_fails wsX4_fails) := goodIn_app (goodIn_of _ (by decide +kernel)) ggX4_order_X4_fails
set_option maxRecDepth 20000 in
theorem ggX4_order_X4_in : GoodIn wsX4_order wsX4_in := goodIn_r _ [11] (by decide +kernel) (by decide +kernel)
set_option maxRecDepth 20000 in
theorem gX4_order_X4_in : GoodIn wsX4_order (va_wsS RX4 65 yX4_in wsX4_in) := goodIn_app (goodIn_of _ (by decide +kernel)) ggX4_order_X4_in
theorem dX4_order_0 : decode cX4_order 0 = .ok (.aload_n 0, 1) := by decide +kernel
theorem dX4_order_1 : decode cX4_order 1 = .ok (.iconst 0, 1) := by decide +kernel
theorem dX4_order_2 : decode cX4_order 2 = .ok (.putfield 61, 3) := by decide +kernel
theorem dX4_order_5 : decode cX4_order 5 = .ok (.aload_n 0, 1) := by decide +kernel
theorem dX4_order_6 : decode cX4_order 6 = .ok (.iload_n 1, 1) := by decide +kernel
theorem dX4_order_7 : decode cX4_order 7 = .ok (.invokevirtual 94, 3) := by decide +kernel
theorem dX4_order_10 : decode cX4_order 10 = .ok (.ifCond .ne 9, 3) := by decide +kernel
theorem dX4_order_13 : decode cX4_order 13 = .ok (.aload_n 0, 1) := by decide +kernel
theorem dX4_order_14 : decode cX4_order 14 = .ok (.iconst 1, 1) := by decide +kernel
theorem dX4_order_15 : decode cX4_order 15 = .ok (.invokevirtual 76, 3) := by decide +kernel
theorem dX4_order_18 : decode cX4_order 18 = .ok (.ireturn, 1) := by decide +kernel
theorem dX4_order_19 : decode cX4_order 19 = .ok (.iload_n 2, 1) := by decide +kernel
theorem dX4_order_20 : decode cX4_order 20 = .ok (.iconst (-1), 1) := by decide +kernel
theorem dX4_order_21 : decode cX4_order 21 = .ok (.bipush 9, 2) := by decide +kernel
theorem dX4_order_23 : decode cX4_order 23 = .ok (.invokestatic 65, 3) := by decide +kernel
theorem dX4_order_26 : decode cX4_order 26 = .ok (.ifCond .ne 9, 3) := by decide +kernel
theorem dX4_order_29 : decode cX4_order 29 = .ok (.aload_n 0, 1) := by decide +kernel
theorem dX4_order_30 : decode cX4_order 30 = .ok (.iconst 2, 1) := by decide +kernel
theorem dX4_order_31 : decode cX4_order 31 = .ok (.invokevirtual 76, 3) := by decide +kernel
theorem dX4_order_34 : decode cX4_order 34 = .ok (.ireturn, 1) := by decide +kernel
theorem dX4_order_35 : decode cX4_order 35 = .ok (.aload_n 0, 1) := by decide +kernel
theorem dX4_order_36 : decode cX4_order 36 = .ok (.getfield 28, 3) := by decide +kernel
theorem dX4_order_39 : decode cX4_order 39 = .ok (.iload_n 1, 1) := by decide +kernel
theorem dX4_order_40 : decode cX4_order 40 = .ok (.iaload, 1) := by decide +kernel
theorem dX4_order_41 : decode cX4_order 41 = .ok (.istore_n 3, 1) := by decide +kernel
theorem dX4_order_42 : decode cX4_order 42 = .ok (.aload_n 0, 1) := by decide +kernel
theorem dX4_order_43 : decode cX4_order 43 = .ok (.getfield 28, 3) := by decide +kernel
theorem dX4_order_46 : decode cX4_order 46 = .ok (.iload_n 1, 1) := by decide +kernel
theorem dX4_order_47 : decode cX4_order 47 = .ok (.iload_n 2, 1) := by decide +kernel
theorem dX4_order_48 : decode cX4_order 48 = .ok (.iastore, 1) := by decide +kernel
theorem dX4_order_49 : decode cX4_order 49 = .ok (.iload_n 3, 1) := by decide +kernel
theorem dX4_order_50 : decode cX4_order 50 = .ok (.ireturn, 1) := by decide +kernel
theorem dX4_isOpen_0 : decode cX4_isOpen 0 = .ok (.aload_n 0, 1) := by decide +kernel
theorem dX4_isOpen_1 : decode cX4_isOpen 1 = .ok (.getfield 7, 3) := by decide +kernel
theorem dX4_isOpen_4 : decode cX4_isOpen 4 = .ok (.bipush 10, 2) := by decide +kernel
theorem dX4_isOpen_6 : decode cX4_isOpen 6 = .ok (.iload_n 1, 1) := by decide +kernel
theorem dX4_isOpen_7 : decode cX4_isOpen 7 = .ok (.imul, 1) := by decide +kernel
theorem dX4_isOpen_8 : decode cX4_isOpen 8 = .ok (.iload_n 2, 1) := by decide +kernel
theorem dX4_isOpen_9 : decode cX4_isOpen 9 = .ok (.iadd, 1) := by decide +kernel
theorem dX4_isOpen_10 : decode cX4_isOpen 10 = .ok (.iaload, 1) := by decide +kernel
theorem dX4_isOpen_11 : decode cX4_isOpen 11 = .ok (.istore 4, 2) := by decide +kernel
theorem dX4_isOpen_13 : decode cX4_isOpen 13 = .ok (.iload 4, 2) := by decide +kernel
theorem dX4_isOpen_15 : decode cX4_isOpen 15 = .ok (.ifCond .le 22, 3) := by decide +kernel
theorem dX4_isOpen_18 : decode cX4_isOpen 18 = .ok (.iload_n 3, 1) := by decide +kernel
theorem dX4_isOpen_19 : decode cX4_isOpen 19 = .ok (.ifCond .eq 14, 3) := by decide +kernel
theorem dX4_isOpen_22 : decode cX4_isOpen 22 = .ok (.iload_n 3, 1) := by decide +kernel
theorem dX4_isOpen_23 : decode cX4_isOpen 23 = .ok (.iconst 1, 1) := by decide +kernel
theorem dX4_isOpen_24 : decode cX4_isOpen 24 = .ok (.if_icmp .ne 13, 3) := by decide +kernel
theorem dX4_isOpen_27 : decode cX4_isOpen 27 = .ok (.iload 4, 2) := by decide +kernel
theorem dX4_isOpen_29 : decode cX4_isOpen 29 = .ok (.iconst 2, 1) := by decide +kernel
theorem dX4_isOpen_30 : decode cX4_isOpen 30 = .ok (.if_icmp .ne 7, 3) := by decide +kernel
theorem dX4_isOpen_33 : decode cX4_isOpen 33 = .ok (.iconst 1, 1) := by decide +kernel
theorem dX4_isOpen_34 : decode cX4_isOpen 34 = .ok (.goto 4, 3) := by decide +kernel
theorem dX4_isOpen_37 : decode cX4_isOpen 37 = .ok (.iconst 0, 1) := by decide +kernel
theorem dX4_isOpen_38 : decode cX4_isOpen 38 = .ok (.ireturn, 1) := by decide +kernel
set_option maxRecDepth 20000 in
theorem ggX4_supplyOf_X4_isHeld : GoodIn wsX4_supplyOf wsX4_isHeld := goodIn_r _ [9, 10, 1, 3, 16, 17, 18, 19, 20, 21, 22, 23, 24, 25, 26, 27, 28, 29, 30, 31, 32, 33, 34, 35, 36, 37] (by decide +kernel) (by decide +kernel)
set_option maxRecDepth 20000 in
theorem gX4_supplyOf_X4_isHeld : GoodIn wsX4_supplyOf (wsV RX4 90 RX4 yX4_isHeld wsX4_isHeld) := goodIn_app (goodIn_of _ (by decide +kernel)) ggX4_supplyOf_X4_isHeld
set_option maxRecDepth 20000 in
theorem ggX4_supplyOf_X4_isOpen : GoodIn wsX4_supplyOf wsX4_isOpen := goodIn_r _ [14, 15, 16, 17, 18, 19, 20, 21, 22, 23, 24, 25, 26, 27, 28, 29, 30, 31, 32, 33, 34, 35, 36, 37] (by decide +kernel) (by decide +kernel)
set_option maxRecDepth 20000 in
theorem gX4_supplyOf_X4_isOpen : GoodIn wsX4_supplyOf (wsV RX4 97 RX4 yX4_isOpen wsX4_isOpen) := goodIn_app (goodIn_of _ (by decide +kernel)) ggX4_supplyOf_X4_isOpen
theorem dX4_supplyOf_0 : decode cX4_supplyOf 0 = .ok (.iconst 1, 1) := by decide +kernel
theorem dX4_supplyOf_1 : decode cX4_supplyOf 1 = .ok (.aload_n 0, 1) := by decide +kernel
theorem dX4_supplyOf_2 : decode cX4_supplyOf 2 = .ok (.getfield 16, 3) := by decide +kernel
theorem dX4_supplyOf_5 : decode cX4_supplyOf 5 = .ok (.iload_n 1, 1) := by decide +kernel
theorem dX4_supplyOf_6 : decode cX4_supplyOf 6 = .ok (.iaload, 1) := by decide +kernel
theorem dX4_supplyOf_7 : decode cX4_supplyOf 7 = .ok (.isub, 1) := by decide +kernel
theorem dX4_supplyOf_8 : decode cX4_supplyOf 8 = .ok (.istore_n 3, 1) := by decide +kernel
theorem dX4_supplyOf_9 : decode cX4_supplyOf 9 = .ok (.iconst 0, 1) := by decide +kernel
theorem dX4_supplyOf_10 : decode cX4_supplyOf 10 = .ok (.istore 4, 2) := by decide +kernel
theorem dX4_supplyOf_12 : decode cX4_supplyOf 12 = .ok (.iload 4, 2) := by decide +kernel
theorem dX4_supplyOf_14 : decode cX4_supplyOf 14 = .ok (.bipush 10, 2) := by decide +kernel
theorem dX4_supplyOf_16 : decode cX4_supplyOf 16 = .ok (.if_icmp .ge 42, 3) := by decide +kernel
theorem dX4_supplyOf_19 : decode cX4_supplyOf 19 = .ok (.aload_n 0, 1) := by decide +kernel
theorem dX4_supplyOf_20 : decode cX4_supplyOf 20 = .ok (.getfield 55, 3) := by decide +kernel
theorem dX4_supplyOf_23 : decode cX4_supplyOf 23 = .ok (.iload 4, 2) := by decide +kernel
theorem dX4_supplyOf_25 : decode cX4_supplyOf 25 = .ok (.iload 4, 2) := by decide +kernel
theorem dX4_supplyOf_27 : decode cX4_supplyOf 27 = .ok (.aload_n 0, 1) := by decide +kernel
theorem dX4_supplyOf_28 : decode cX4_supplyOf 28 = .ok (.getfield 43, 3) := by decide +kernel
theorem dX4_supplyOf_31 : decode cX4_supplyOf 31 = .ok (.iload_n 1, 1) := by decide +kernel
theorem dX4_supplyOf_32 : decode cX4_supplyOf 32 = .ok (.iaload, 1) := by decide +kernel
theorem dX4_supplyOf_33 : decode cX4_supplyOf 33 = .ok (.if_icmp .ne 17, 3) := by decide +kernel
theorem dX4_supplyOf_36 : decode cX4_supplyOf 36 = .ok (.aload_n 0, 1) := by decide +kernel
theorem dX4_supplyOf_37 : decode cX4_supplyOf 37 = .ok (.iload 4, 2) := by decide +kernel
theorem dX4_supplyOf_39 : decode cX4_supplyOf 39 = .ok (.iload_n 3, 1) := by decide +kernel
theorem dX4_supplyOf_40 : decode cX4_supplyOf 40 = .ok (.invokevirtual 90, 3) := by decide +kernel
theorem dX4_supplyOf_43 : decode cX4_supplyOf 43 = .ok (.ifCond .ne 7, 3) := by decide +kernel
theorem dX4_supplyOf_46 : decode cX4_supplyOf 46 = .ok (.iconst 0, 1) := by decide +kernel
theorem dX4_supplyOf_47 : decode cX4_supplyOf 47 = .ok (.goto 4, 3) := by decide +kernel
theorem dX4_supplyOf_50 : decode cX4_supplyOf 50 = .ok (.iconst (-1), 1) := by decide +kernel
theorem dX4_supplyOf_51 : decode cX4_supplyOf 51 = .ok (.iastore, 1) := by decide +kernel
theorem dX4_supplyOf_52 : decode cX4_supplyOf 52 = .ok (.iinc 4 1, 3) := by decide +kernel
theorem dX4_supplyOf_55 : decode cX4_supplyOf 55 = .ok (.goto (-43), 3) := by decide +kernel
theorem dX4_supplyOf_58 : decode cX4_supplyOf 58 = .ok (.iconst 0, 1) := by decide +kernel
theorem dX4_supplyOf_59 : decode cX4_supplyOf 59 = .ok (.istore 4, 2) := by decide +kernel
theorem dX4_supplyOf_61 : decode cX4_supplyOf 61 = .ok (.iload 4, 2) := by decide +kernel
theorem dX4_supplyOf_63 : decode cX4_supplyOf 63 = .ok (.iconst 4, 1) := by decide +kernel
theorem dX4_supplyOf_64 : decode cX4_supplyOf 64 = .ok (.if_icmp .ge 97, 3) := by decide +kernel
theorem dX4_supplyOf_67 : decode cX4_supplyOf 67 = .ok (.iconst 0, 1) := by decide +kernel
theorem dX4_supplyOf_68 : decode cX4_supplyOf 68 = .ok (.istore 5, 2) := by decide +kernel
theorem dX4_supplyOf_70 : decode cX4_supplyOf 70 = .ok (.iload 5, 2) := by decide +kernel
theorem dX4_supplyOf_72 : decode cX4_supplyOf 72 = .ok (.bipush 10, 2) := by decide +kernel
theorem dX4_supplyOf_74 : decode cX4_supplyOf 74 = .ok (.if_icmp .ge 81, 3) := by decide +kernel
theorem dX4_supplyOf_77 : decode cX4_supplyOf 77 = .ok (.iconst 0, 1) := by decide +kernel
theorem dX4_supplyOf_78 : decode cX4_supplyOf 78 = .ok (.istore 6, 2) := by decide +kernel
theorem dX4_supplyOf_80 : decode cX4_supplyOf 80 = .ok (.iload 6, 2) := by decide +kernel
theorem dX4_supplyOf_82 : decode cX4_supplyOf 82 = .ok (.bipush 10, 2) := by decide +kernel
theorem dX4_supplyOf_84 : decode cX4_supplyOf 84 = .ok (.if_icmp .ge 65, 3) := by decide +kernel
theorem dX4_supplyOf_87 : decode cX4_supplyOf 87 = .ok (.aload_n 0, 1) := by decide +kernel
theorem dX4_supplyOf_88 : decode cX4_supplyOf 88 = .ok (.getfield 55, 3) := by decide +kernel
theorem dX4_supplyOf_91 : decode cX4_supplyOf 91 = .ok (.iload 5, 2) := by decide +kernel
theorem dX4_supplyOf_93 : decode cX4_supplyOf 93 = .ok (.iaload, 1) := by decide +kernel
theorem dX4_supplyOf_94 : decode cX4_supplyOf 94 = .ok (.iload 4, 2) := by decide +kernel
theorem dX4_supplyOf_96 : decode cX4_supplyOf 96 = .ok (.if_icmp .ne 47, 3) := by decide +kernel
theorem dX4_supplyOf_99 : decode cX4_supplyOf 99 = .ok (.aload_n 0, 1) := by decide +kernel
theorem dX4_supplyOf_100 : decode cX4_supplyOf 100 = .ok (.getfield 55, 3) := by decide +kernel
theorem dX4_supplyOf_103 : decode cX4_supplyOf 103 = .ok (.iload 6, 2) := by decide +kernel
theorem dX4_supplyOf_105 : decode cX4_supplyOf 105 = .ok (.iaload, 1) := by decide +kernel
theorem dX4_supplyOf_106 : decode cX4_supplyOf 106 = .ok (.iconst (-1), 1) := by decide +kernel
theorem dX4_supplyOf_107 : decode cX4_supplyOf 107 = .ok (.if_icmp .ne 36, 3) := by decide +kernel
theorem dX4_supplyOf_110 : decode cX4_supplyOf 110 = .ok (.aload_n 0, 1) := by decide +kernel
theorem dX4_supplyOf_111 : decode cX4_supplyOf 111 = .ok (.iload 5, 2) := by decide +kernel
theorem dX4_supplyOf_113 : decode cX4_supplyOf 113 = .ok (.iload 6, 2) := by decide +kernel
theorem dX4_supplyOf_115 : decode cX4_supplyOf 115 = .ok (.iload_n 2, 1) := by decide +kernel
theorem dX4_supplyOf_116 : decode cX4_supplyOf 116 = .ok (.invokevirtual 97, 3) := by decide +kernel
theorem dX4_supplyOf_119 : decode cX4_supplyOf 119 = .ok (.ifCond .eq 24, 3) := by decide +kernel
theorem dX4_supplyOf_122 : decode cX4_supplyOf 122 = .ok (.aload_n 0, 1) := by decide +kernel
theorem dX4_supplyOf_123 : decode cX4_supplyOf 123 = .ok (.iload 6, 2) := by decide +kernel
theorem dX4_supplyOf_125 : decode cX4_supplyOf 125 = .ok (.iload_n 3, 1) := by decide +kernel
theorem dX4_supplyOf_126 : decode cX4_supplyOf 126 = .ok (.invokevirtual 90, 3) := by decide +kernel
theorem dX4_supplyOf_129 : decode cX4_supplyOf 129 = .ok (.ifCond .ne 14, 3) := by decide +kernel
theorem dX4_supplyOf_132 : decode cX4_supplyOf 132 = .ok (.aload_n 0, 1) := by decide +kernel
theorem dX4_supplyOf_133 : decode cX4_supplyOf 133 = .ok (.getfield 55, 3) := by decide +kernel
theorem dX4_supplyOf_136 : decode cX4_supplyOf 136 = .ok (.iload 6, 2) := by decide +kernel
theorem dX4_supplyOf_138 : decode cX4_supplyOf 138 = .ok (.iload 4, 2) := by decide +kernel
theorem dX4_supplyOf_140 : decode cX4_supplyOf 140 = .ok (.iconst 1, 1) := by decide +kernel
theorem dX4_supplyOf_141 : decode cX4_supplyOf 141 = .ok (.iadd, 1) := by decide +kernel
theorem dX4_supplyOf_142 : decode cX4_supplyOf 142 = .ok (.iastore, 1) := by decide +kernel
theorem dX4_supplyOf_143 : decode cX4_supplyOf 143 = .ok (.iinc 6 1, 3) := by decide +kernel
theorem dX4_supplyOf_146 : decode cX4_supplyOf 146 = .ok (.goto (-66), 3) := by decide +kernel
theorem dX4_supplyOf_149 : decode cX4_supplyOf 149 = .ok (.iinc 5 1, 3) := by decide +kernel
theorem dX4_supplyOf_152 : decode cX4_supplyOf 152 = .ok (.goto (-82), 3) := by decide +kernel
theorem dX4_supplyOf_155 : decode cX4_supplyOf 155 = .ok (.iinc 4 1, 3) := by decide +kernel
theorem dX4_supplyOf_158 : decode cX4_supplyOf 158 = .ok (.goto (-97), 3) := by decide +kernel
theorem dX4_supplyOf_161 : decode cX4_supplyOf 161 = .ok (.aload_n 0, 1) := by decide +kernel
theorem dX4_supplyOf_162 : decode cX4_supplyOf 162 = .ok (.getfield 43, 3) := by decide +kernel
theorem dX4_supplyOf_165 : decode cX4_supplyOf 165 = .ok (.iload_n 1, 1) := by decide +kernel
theorem dX4_supplyOf_166 : decode cX4_supplyOf 166 = .ok (.iaload, 1) := by decide +kernel
theorem dX4_supplyOf_167 : decode cX4_supplyOf 167 = .ok (.iconst (-1), 1) := by decide +kernel
theorem dX4_supplyOf_168 : decode cX4_supplyOf 168 = .ok (.if_icmp .ne 7, 3) := by decide +kernel
theorem dX4_supplyOf_171 : decode cX4_supplyOf 171 = .ok (.iconst (-1), 1) := by decide +kernel
theorem dX4_supplyOf_172 : decode cX4_supplyOf 172 = .ok (.goto 19, 3) := by decide +kernel
theorem dX4_supplyOf_175 : decode cX4_supplyOf 175 = .ok (.aload_n 0, 1) := by decide +kernel
theorem dX4_supplyOf_176 : decode cX4_supplyOf 176 = .ok (.getfield 55, 3) := by decide +kernel
theorem dX4_supplyOf_179 : decode cX4_supplyOf 179 = .ok (.aload_n 0, 1) := by decide +kernel
theorem dX4_supplyOf_180 : decode cX4_supplyOf 180 = .ok (.getfield 13, 3) := by decide +kernel
theorem dX4_supplyOf_183 : decode cX4_supplyOf 183 = .ok (.aload_n 0, 1) := by decide +kernel
theorem dX4_supplyOf_184 : decode cX4_supplyOf 184 = .ok (.getfield 16, 3) := by decide +kernel
theorem dX4_supplyOf_187 : decode cX4_supplyOf 187 = .ok (.iload_n 1, 1) := by decide +kernel
theorem dX4_supplyOf_188 : decode cX4_supplyOf 188 = .ok (.iaload, 1) := by decide +kernel
theorem dX4_supplyOf_189 : decode cX4_supplyOf 189 = .ok (.iaload, 1) := by decide +kernel
theorem dX4_supplyOf_190 : decode cX4_supplyOf 190 = .ok (.iaload, 1) := by decide +kernel
theorem dX4_supplyOf_191 : decode cX4_supplyOf 191 = .ok (.ireturn, 1) := by decide +kernel
set_option maxRecDepth 20000 in
theorem ggX4_march_X4_isOpen : GoodIn wsX4_march wsX4_isOpen := goodIn_r _ [12, 13, 14, 15, 16, 17, 18, 19, 20, 21, 22, 23, 24, 25, 26, 27, 28, 29, 30, 31, 32, 33, 34, 35] (by decide +kernel) (by decide +kernel)
set_option maxRecDepth 20000 in
theorem gX4_march_X4_isOpen : GoodIn wsX4_march (wsV RX4 97 RX4 yX4_isOpen wsX4_isOpen) := goodIn_app (goodIn_of _ (by decide +kernel)) ggX4_march_X4_isOpen
theorem dX4_march_0 : decode cX4_march 0 = .ok (.iconst 0, 1) := by decide +kernel
theorem dX4_march_1 : decode cX4_march 1 = .ok (.istore_n 2, 1) := by decide +kernel
theorem dX4_march_2 : decode cX4_march 2 = .ok (.iload_n 2, 1) := by decide +kernel
theorem dX4_march_3 : decode cX4_march 3 = .ok (.aload_n 0, 1) := by decide +kernel
theorem dX4_march_4 : decode cX4_march 4 = .ok (.getfield 69, 3) := by decide +kernel
theorem dX4_march_7 : decode cX4_march 7 = .ok (.if_icmp .ge 94, 3) := by decide +kernel
theorem dX4_march_10 : decode cX4_march 10 = .ok (.aload_n 0, 1) := by decide +kernel
theorem dX4_march_11 : decode cX4_march 11 = .ok (.getfield 25, 3) := by decide +kernel
theorem dX4_march_14 : decode cX4_march 14 = .ok (.bipush 12, 2) := by decide +kernel
theorem dX4_march_16 : decode cX4_march 16 = .ok (.iload_n 1, 1) := by decide +kernel
theorem dX4_march_17 : decode cX4_march 17 = .ok (.imul, 1) := by decide +kernel
theorem dX4_march_18 : decode cX4_march 18 = .ok (.iload_n 2, 1) := by decide +kernel
theorem dX4_march_19 : decode cX4_march 19 = .ok (.iadd, 1) := by decide +kernel
theorem dX4_march_20 : decode cX4_march 20 = .ok (.iaload, 1) := by decide +kernel
theorem dX4_march_21 : decode cX4_march 21 = .ok (.istore_n 3, 1) := by decide +kernel
theorem dX4_march_22 : decode cX4_march 22 = .ok (.aload_n 0, 1) := by decide +kernel
theorem dX4_march_23 : decode cX4_march 23 = .ok (.getfield 43, 3) := by decide +kernel
theorem dX4_march_26 : decode cX4_march 26 = .ok (.iload_n 2, 1) := by decide +kernel
theorem dX4_march_27 : decode cX4_march 27 = .ok (.iaload, 1) := by decide +kernel
theorem dX4_march_28 : decode cX4_march 28 = .ok (.iconst (-1), 1) := by decide +kernel
theorem dX4_march_29 : decode cX4_march 29 = .ok (.if_icmp .eq 42, 3) := by decide +kernel
theorem dX4_march_32 : decode cX4_march 32 = .ok (.iload_n 3, 1) := by decide +kernel
theorem dX4_march_33 : decode cX4_march 33 = .ok (.iconst (-1), 1) := by decide +kernel
theorem dX4_march_34 : decode cX4_march 34 = .ok (.if_icmp .eq 37, 3) := by decide +kernel
theorem dX4_march_37 : decode cX4_march 37 = .ok (.aload_n 0, 1) := by decide +kernel
theorem dX4_march_38 : decode cX4_march 38 = .ok (.getfield 49, 3) := by decide +kernel
theorem dX4_march_41 : decode cX4_march 41 = .ok (.iload_n 2, 1) := by decide +kernel
theorem dX4_march_42 : decode cX4_march 42 = .ok (.iaload, 1) := by decide +kernel
theorem dX4_march_43 : decode cX4_march 43 = .ok (.iconst 1, 1) := by decide +kernel
theorem dX4_march_44 : decode cX4_march 44 = .ok (.if_icmp .ne 27, 3) := by decide +kernel
theorem dX4_march_47 : decode cX4_march 47 = .ok (.aload_n 0, 1) := by decide +kernel
theorem dX4_march_48 : decode cX4_march 48 = .ok (.aload_n 0, 1) := by decide +kernel
theorem dX4_march_49 : decode cX4_march 49 = .ok (.getfield 43, 3) := by decide +kernel
theorem dX4_march_52 : decode cX4_march 52 = .ok (.iload_n 2, 1) := by decide +kernel
theorem dX4_march_53 : decode cX4_march 53 = .ok (.iaload, 1) := by decide +kernel
theorem dX4_march_54 : decode cX4_march 54 = .ok (.iload_n 3, 1) := by decide +kernel
theorem dX4_march_55 : decode cX4_march 55 = .ok (.aload_n 0, 1) := by decide +kernel
theorem dX4_march_56 : decode cX4_march 56 = .ok (.getfield 31, 3) := by decide +kernel
theorem dX4_march_59 : decode cX4_march 59 = .ok (.iload_n 1, 1) := by decide +kernel
theorem dX4_march_60 : decode cX4_march 60 = .ok (.iaload, 1) := by decide +kernel
theorem dX4_march_61 : decode cX4_march 61 = .ok (.invokevirtual 97, 3) := by decide +kernel
theorem dX4_march_64 : decode cX4_march 64 = .ok (.ifCond .eq 7, 3) := by decide +kernel
theorem dX4_march_67 : decode cX4_march 67 = .ok (.iconst 1, 1) := by decide +kernel
theorem dX4_march_68 : decode cX4_march 68 = .ok (.goto 4, 3) := by decide +kernel
theorem dX4_march_71 : decode cX4_march 71 = .ok (.iconst 0, 1) := by decide +kernel
theorem dX4_march_72 : decode cX4_march 72 = .ok (.istore 4, 2) := by decide +kernel
theorem dX4_march_74 : decode cX4_march 74 = .ok (.aload_n 0, 1) := by decide +kernel
theorem dX4_march_75 : decode cX4_march 75 = .ok (.getfield 52, 3) := by decide +kernel
theorem dX4_march_78 : decode cX4_march 78 = .ok (.iload_n 2, 1) := by decide +kernel
theorem dX4_march_79 : decode cX4_march 79 = .ok (.iload 4, 2) := by decide +kernel
theorem dX4_march_81 : decode cX4_march 81 = .ok (.ifCond .eq 7, 3) := by decide +kernel
theorem dX4_march_84 : decode cX4_march 84 = .ok (.iload_n 3, 1) := by decide +kernel
theorem dX4_march_85 : decode cX4_march 85 = .ok (.goto 9, 3) := by decide +kernel
theorem dX4_march_88 : decode cX4_march 88 = .ok (.aload_n 0, 1) := by decide +kernel
theorem dX4_march_89 : decode cX4_march 89 = .ok (.getfield 43, 3) := by decide +kernel
theorem dX4_march_92 : decode cX4_march 92 = .ok (.iload_n 2, 1) := by decide +kernel
theorem dX4_march_93 : decode cX4_march 93 = .ok (.iaload, 1) := by decide +kernel
theorem dX4_march_94 : decode cX4_march 94 = .ok (.iastore, 1) := by decide +kernel
theorem dX4_march_95 : decode cX4_march 95 = .ok (.iinc 2 1, 3) := by decide +kernel
theorem dX4_march_98 : decode cX4_march 98 = .ok (.goto (-96), 3) := by decide +kernel
theorem dX4_march_101 : decode cX4_march 101 = .ok (.iconst 0, 1) := by decide +kernel
theorem dX4_march_102 : decode cX4_march 102 = .ok (.istore_n 2, 1) := by decide +kernel
theorem dX4_march_103 : decode cX4_march 103 = .ok (.iload_n 2, 1) := by decide +kernel
theorem dX4_march_104 : decode cX4_march 104 = .ok (.aload_n 0, 1) := by decide +kernel
theorem dX4_march_105 : decode cX4_march 105 = .ok (.getfield 69, 3) := by decide +kernel
theorem dX4_march_108 : decode cX4_march 108 = .ok (.if_icmp .ge 186, 3) := by decide +kernel
theorem dX4_march_111 : decode cX4_march 111 = .ok (.iconst 0, 1) := by decide +kernel
theorem dX4_march_112 : decode cX4_march 112 = .ok (.istore_n 3, 1) := by decide +kernel
theorem dX4_march_113 : decode cX4_march 113 = .ok (.iconst 0, 1) := by decide +kernel
theorem dX4_march_114 : decode cX4_march 114 = .ok (.istore 4, 2) := by decide +kernel
theorem dX4_march_116 : decode cX4_march 116 = .ok (.iload 4, 2) := by decide +kernel
theorem dX4_march_118 : decode cX4_march 118 = .ok (.aload_n 0, 1) := by decide +kernel
theorem dX4_march_119 : decode cX4_march 119 = .ok (.getfield 69, 3) := by decide +kernel
theorem dX4_march_122 : decode cX4_march 122 = .ok (.if_icmp .ge 141, 3) := by decide +kernel
theorem dX4_march_125 : decode cX4_march 125 = .ok (.aload_n 0, 1) := by decide +kernel
theorem dX4_march_126 : decode cX4_march 126 = .ok (.getfield 25, 3) := by decide +kernel
theorem dX4_march_129 : decode cX4_march 129 = .ok (.bipush 12, 2) := by decide +kernel
theorem dX4_march_131 : decode cX4_march 131 = .ok (.iload_n 1, 1) := by decide +kernel
theorem dX4_march_132 : decode cX4_march 132 = .ok (.imul, 1) := by decide +kernel
theorem dX4_march_133 : decode cX4_march 133 = .ok (.iload 4, 2) := by decide +kernel
theorem dX4_march_135 : decode cX4_march 135 = .ok (.iadd, 1) := by decide +kernel
theorem dX4_march_136 : decode cX4_march 136 = .ok (.iaload, 1) := by decide +kernel
theorem dX4_march_137 : decode cX4_march 137 = .ok (.istore 5, 2) := by decide +kernel
theorem dX4_march_139 : decode cX4_march 139 = .ok (.aload_n 0, 1) := by decide +kernel
theorem dX4_march_140 : decode cX4_march 140 = .ok (.getfield 43, 3) := by decide +kernel
theorem dX4_march_143 : decode cX4_march 143 = .ok (.iload 4, 2) := by decide +kernel
theorem dX4_march_145 : decode cX4_march 145 = .ok (.iaload, 1) := by decide +kernel
theorem dX4_march_146 : decode cX4_march 146 = .ok (.iconst (-1), 1) := by decide +kernel
theorem dX4_march_147 : decode cX4_march 147 = .ok (.if_icmp .eq 46, 3) := by decide +kernel
theorem dX4_march_150 : decode cX4_march 150 = .ok (.iload 5, 2) := by decide +kernel
theorem dX4_march_152 : decode cX4_march 152 = .ok (.iconst (-1), 1) := by decide +kernel
theorem dX4_march_153 : decode cX4_march 153 = .ok (.if_icmp .eq 40, 3) := by decide +kernel
theorem dX4_march_156 : decode cX4_march 156 = .ok (.aload_n 0, 1) := by decide +kernel
theorem dX4_march_157 : decode cX4_march 157 = .ok (.getfield 49, 3) := by decide +kernel
theorem dX4_march_160 : decode cX4_march 160 = .ok (.iload 4, 2) := by decide +kernel
theorem dX4_march_162 : decode cX4_march 162 = .ok (.iaload, 1) := by decide +kernel
theorem dX4_march_163 : decode cX4_march 163 = .ok (.iconst 1, 1) := by decide +kernel
theorem dX4_march_164 : decode cX4_march 164 = .ok (.if_icmp .ne 29, 3) := by decide +kernel
theorem dX4_march_167 : decode cX4_march 167 = .ok (.aload_n 0, 1) := by decide +kernel
theorem dX4_march_168 : decode cX4_march 168 = .ok (.aload_n 0, 1) := by decide +kernel
theorem dX4_march_169 : decode cX4_march 169 = .ok (.getfield 43, 3) := by decide +kernel
theorem dX4_march_172 : decode cX4_march 172 = .ok (.iload 4, 2) := by decide +kernel
theorem dX4_march_174 : decode cX4_march 174 = .ok (.iaload, 1) := by decide +kernel
theorem dX4_march_175 : decode cX4_march 175 = .ok (.iload 5, 2) := by decide +kernel
theorem dX4_march_177 : decode cX4_march 177 = .ok (.aload_n 0, 1) := by decide +kernel
theorem dX4_march_178 : decode cX4_march 178 = .ok (.getfield 31, 3) := by decide +kernel
theorem dX4_march_181 : decode cX4_march 181 = .ok (.iload_n 1, 1) := by decide +kernel
theorem dX4_march_182 : decode cX4_march 182 = .ok (.iaload, 1) := by decide +kernel
theorem dX4_march_183 : decode cX4_march 183 = .ok (.invokevirtual 97, 3) := by decide +kernel
theorem dX4_march_186 : decode cX4_march 186 = .ok (.ifCond .eq 7, 3) := by decide +kernel
theorem dX4_march_189 : decode cX4_march 189 = .ok (.iconst 1, 1) := by decide +kernel
theorem dX4_march_190 : decode cX4_march 190 = .ok (.goto 4, 3) := by decide +kernel
theorem dX4_march_193 : decode cX4_march 193 = .ok (.iconst 0, 1) := by decide +kernel
theorem dX4_march_194 : decode cX4_march 194 = .ok (.istore 6, 2) := by decide +kernel
theorem dX4_march_196 : decode cX4_march 196 = .ok (.iload_n 3, 1) := by decide +kernel
theorem dX4_march_197 : decode cX4_march 197 = .ok (.aload_n 0, 1) := by decide +kernel
theorem dX4_march_198 : decode cX4_march 198 = .ok (.getfield 16, 3) := by decide +kernel
theorem dX4_march_201 : decode cX4_march 201 = .ok (.iload 4, 2) := by decide +kernel
theorem dX4_march_203 : decode cX4_march 203 = .ok (.iaload, 1) := by decide +kernel
theorem dX4_march_204 : decode cX4_march 204 = .ok (.aload_n 0, 1) := by decide +kernel
theorem dX4_march_205 : decode cX4_march 205 = .ok (.getfield 16, 3) := by decide +kernel
theorem dX4_march_208 : decode cX4_march 208 = .ok (.iload_n 2, 1) := by decide +kernel
theorem dX4_march_209 : decode cX4_march 209 = .ok (.iaload, 1) := by decide +kernel
theorem dX4_march_210 : decode cX4_march 210 = .ok (.if_icmp .eq 44, 3) := by decide +kernel
theorem dX4_march_213 : decode cX4_march 213 = .ok (.iload 6, 2) := by decide +kernel
theorem dX4_march_215 : decode cX4_march 215 = .ok (.ifCond .eq 39, 3) := by decide +kernel
theorem dX4_march_218 : decode cX4_march 218 = .ok (.iload 5, 2) := by decide +kernel
theorem dX4_march_220 : decode cX4_march 220 = .ok (.aload_n 0, 1) := by decide +kernel
theorem dX4_march_221 : decode cX4_march 221 = .ok (.getfield 43, 3) := by decide +kernel
theorem dX4_march_224 : decode cX4_march 224 = .ok (.iload_n 2, 1) := by decide +kernel
theorem dX4_march_225 : decode cX4_march 225 = .ok (.iaload, 1) := by decide +kernel
theorem dX4_march_226 : decode cX4_march 226 = .ok (.if_icmp .ne 28, 3) := by decide +kernel
theorem dX4_march_229 : decode cX4_march 229 = .ok (.aload_n 0, 1) := by decide +kernel
theorem dX4_march_230 : decode cX4_march 230 = .ok (.getfield 43, 3) := by decide +kernel
theorem dX4_march_233 : decode cX4_march 233 = .ok (.iload 4, 2) := by decide +kernel
theorem dX4_march_235 : decode cX4_march 235 = .ok (.iaload, 1) := by decide +kernel
theorem dX4_march_236 : decode cX4_march 236 = .ok (.aload_n 0, 1) := by decide +kernel
theorem dX4_march_237 : decode cX4_march 237 = .ok (.getfield 25, 3) := by decide +kernel
theorem dX4_march_240 : decode cX4_march 240 = .ok (.bipush 12, 2) := by decide +kernel
theorem dX4_march_242 : decode cX4_march 242 = .ok (.iload_n 1, 1) := by decide +kernel
theorem dX4_march_243 : decode cX4_march 243 = .ok (.imul, 1) := by decide +kernel
theorem dX4_march_244 : decode cX4_march 244 = .ok (.iload_n 2, 1) := by decide +kernel
theorem dX4_march_245 : decode cX4_march 245 = .ok (.iadd, 1) := by decide +kernel
theorem dX4_march_246 : decode cX4_march 246 = .ok (.iaload, 1) := by decide +kernel
theorem dX4_march_247 : decode cX4_march 247 = .ok (.if_icmp .ne 7, 3) := by decide +kernel
theorem dX4_march_250 : decode cX4_march 250 = .ok (.iconst 1, 1) := by decide +kernel
theorem dX4_march_251 : decode cX4_march 251 = .ok (.goto 4, 3) := by decide +kernel
theorem dX4_march_254 : decode cX4_march 254 = .ok (.iconst 0, 1) := by decide +kernel
theorem dX4_march_255 : decode cX4_march 255 = .ok (.ior, 1) := by decide +kernel
theorem dX4_march_256 : decode cX4_march 256 = .ok (.istore_n 3, 1) := by decide +kernel
theorem dX4_march_257 : decode cX4_march 257 = .ok (.iinc 4 1, 3) := by decide +kernel
theorem dX4_march_260 : decode cX4_march 260 = .ok (.goto (-144), 3) := by decide +kernel
theorem dX4_march_263 : decode cX4_march 263 = .ok (.aload_n 0, 1) := by decide +kernel
theorem dX4_march_264 : decode cX4_march 264 = .ok (.getfield 52, 3) := by decide +kernel
theorem dX4_march_267 : decode cX4_march 267 = .ok (.iload_n 2, 1) := by decide +kernel
theorem dX4_march_268 : decode cX4_march 268 = .ok (.iload_n 3, 1) := by decide +kernel
theorem dX4_march_269 : decode cX4_march 269 = .ok (.ifCond .eq 12, 3) := by decide +kernel
theorem dX4_march_272 : decode cX4_march 272 = .ok (.aload_n 0, 1) := by decide +kernel
theorem dX4_march_273 : decode cX4_march 273 = .ok (.getfield 43, 3) := by decide +kernel
theorem dX4_march_276 : decode cX4_march 276 = .ok (.iload_n 2, 1) := by decide +kernel
theorem dX4_march_277 : decode cX4_march 277 = .ok (.iaload, 1) := by decide +kernel
theorem dX4_march_278 : decode cX4_march 278 = .ok (.goto 9, 3) := by decide +kernel
theorem dX4_march_281 : decode cX4_march 281 = .ok (.aload_n 0, 1) := by decide +kernel
theorem dX4_march_282 : decode cX4_march 282 = .ok (.getfield 52, 3) := by decide +kernel
theorem dX4_march_285 : decode cX4_march 285 = .ok (.iload_n 2, 1) := by decide +kernel
theorem dX4_march_286 : decode cX4_march 286 = .ok (.iaload, 1) := by decide +kernel
theorem dX4_march_287 : decode cX4_march 287 = .ok (.iastore, 1) := by decide +kernel
theorem dX4_march_288 : decode cX4_march 288 = .ok (.iinc 2 1, 3) := by decide +kernel
theorem dX4_march_291 : decode cX4_march 291 = .ok (.goto (-188), 3) := by decide +kernel
theorem dX4_march_294 : decode cX4_march 294 = .ok (.iconst 0, 1) := by decide +kernel
theorem dX4_march_295 : decode cX4_march 295 = .ok (.istore_n 2, 1) := by decide +kernel
theorem dX4_march_296 : decode cX4_march 296 = .ok (.iload_n 2, 1) := by decide +kernel
theorem dX4_march_297 : decode cX4_march 297 = .ok (.aload_n 0, 1) := by decide +kernel
theorem dX4_march_298 : decode cX4_march 298 = .ok (.getfield 69, 3) := by decide +kernel
theorem dX4_march_301 : decode cX4_march 301 = .ok (.if_icmp .ge 21, 3) := by decide +kernel
theorem dX4_march_304 : decode cX4_march 304 = .ok (.aload_n 0, 1) := by decide +kernel
theorem dX4_march_305 : decode cX4_march 305 = .ok (.getfield 43, 3) := by decide +kernel
theorem dX4_march_308 : decode cX4_march 308 = .ok (.iload_n 2, 1) := by decide +kernel
theorem dX4_march_309 : decode cX4_march 309 = .ok (.aload_n 0, 1) := by decide +kernel
theorem dX4_march_310 : decode cX4_march 310 = .ok (.getfield 52, 3) := by decide +kernel
theorem dX4_march_313 : decode cX4_march 313 = .ok (.iload_n 2, 1) := by decide +kernel
theorem dX4_march_314 : decode cX4_march 314 = .ok (.iaload, 1) := by decide +kernel
theorem dX4_march_315 : decode cX4_march 315 = .ok (.iastore, 1) := by decide +kernel
theorem dX4_march_316 : decode cX4_march 316 = .ok (.iinc 2 1, 3) := by decide +kernel
theorem dX4_march_319 : decode cX4_march 319 = .ok (.goto (-23), 3) := by decide +kernel
theorem dX4_march_322 : decode cX4_march 322 = .ok (.return_, 1) := by decide +kernel
theorem dX4_sumIn_0 : decode cX4_sumIn 0 = .ok (.iconst 0, 1) := by decide +kernel
theorem dX4_sumIn_1 : decode cX4_sumIn 1 = .ok (.istore_n 3, 1) := by decide +kernel
theorem dX4_sumIn_2 : decode cX4_sumIn 2 = .ok (.iconst 0, 1) := by decide +kernel
theorem dX4_sumIn_3 : decode cX4_sumIn 3 = .ok (.istore 4, 2) := by decide +kernel
theorem dX4_sumIn_5 : decode cX4_sumIn 5 = .ok (.iload 4, 2) := by decide +kernel
theorem dX4_sumIn_7 : decode cX4_sumIn 7 = .ok (.aload_n 0, 1) := by decide +kernel
theorem dX4_sumIn_8 : decode cX4_sumIn 8 = .ok (.getfield 69, 3) := by decide +kernel
theorem dX4_sumIn_11 : decode cX4_sumIn 11 = .ok (.if_icmp .ge 80, 3) := by decide +kernel
theorem dX4_sumIn_14 : decode cX4_sumIn 14 = .ok (.aload_n 0, 1) := by decide +kernel
theorem dX4_sumIn_15 : decode cX4_sumIn 15 = .ok (.getfield 16, 3) := by decide +kernel
theorem dX4_sumIn_18 : decode cX4_sumIn 18 = .ok (.iload 4, 2) := by decide +kernel
theorem dX4_sumIn_20 : decode cX4_sumIn 20 = .ok (.iaload, 1) := by decide +kernel
theorem dX4_sumIn_21 : decode cX4_sumIn 21 = .ok (.iload_n 2, 1) := by decide +kernel
theorem dX4_sumIn_22 : decode cX4_sumIn 22 = .ok (.if_icmp .ne 18, 3) := by decide +kernel
theorem dX4_sumIn_25 : decode cX4_sumIn 25 = .ok (.aload_n 0, 1) := by decide +kernel
theorem dX4_sumIn_26 : decode cX4_sumIn 26 = .ok (.getfield 43, 3) := by decide +kernel
theorem dX4_sumIn_29 : decode cX4_sumIn 29 = .ok (.iload 4, 2) := by decide +kernel
theorem dX4_sumIn_31 : decode cX4_sumIn 31 = .ok (.iaload, 1) := by decide +kernel
theorem dX4_sumIn_32 : decode cX4_sumIn 32 = .ok (.iload_n 1, 1) := by decide +kernel
theorem dX4_sumIn_33 : decode cX4_sumIn 33 = .ok (.if_icmp .ne 7, 3) := by decide +kernel
theorem dX4_sumIn_36 : decode cX4_sumIn 36 = .ok (.iconst 1, 1) := by decide +kernel
theorem dX4_sumIn_37 : decode cX4_sumIn 37 = .ok (.goto 4, 3) := by decide +kernel
theorem dX4_sumIn_40 : decode cX4_sumIn 40 = .ok (.iconst 0, 1) := by decide +kernel
theorem dX4_sumIn_41 : decode cX4_sumIn 41 = .ok (.istore 5, 2) := by decide +kernel
theorem dX4_sumIn_43 : decode cX4_sumIn 43 = .ok (.iload_n 3, 1) := by decide +kernel
theorem dX4_sumIn_44 : decode cX4_sumIn 44 = .ok (.iload 5, 2) := by decide +kernel
theorem dX4_sumIn_46 : decode cX4_sumIn 46 = .ok (.ifCond .ne 7, 3) := by decide +kernel
theorem dX4_sumIn_49 : decode cX4_sumIn 49 = .ok (.iconst 0, 1) := by decide +kernel
theorem dX4_sumIn_50 : decode cX4_sumIn 50 = .ok (.goto 33, 3) := by decide +kernel
theorem dX4_sumIn_53 : decode cX4_sumIn 53 = .ok (.aload_n 0, 1) := by decide +kernel
theorem dX4_sumIn_54 : decode cX4_sumIn 54 = .ok (.getfield 49, 3) := by decide +kernel
theorem dX4_sumIn_57 : decode cX4_sumIn 57 = .ok (.iload 4, 2) := by decide +kernel
theorem dX4_sumIn_59 : decode cX4_sumIn 59 = .ok (.iaload, 1) := by decide +kernel
theorem dX4_sumIn_60 : decode cX4_sumIn 60 = .ok (.iconst 1, 1) := by decide +kernel
theorem dX4_sumIn_61 : decode cX4_sumIn 61 = .ok (.if_icmp .ne 13, 3) := by decide +kernel
theorem dX4_sumIn_64 : decode cX4_sumIn 64 = .ok (.aload_n 0, 1) := by decide +kernel
theorem dX4_sumIn_65 : decode cX4_sumIn 65 = .ok (.getfield 46, 3) := by decide +kernel
theorem dX4_sumIn_68 : decode cX4_sumIn 68 = .ok (.iload 4, 2) := by decide +kernel
theorem dX4_sumIn_70 : decode cX4_sumIn 70 = .ok (.iaload, 1) := by decide +kernel
theorem dX4_sumIn_71 : decode cX4_sumIn 71 = .ok (.goto 12, 3) := by decide +kernel
theorem dX4_sumIn_74 : decode cX4_sumIn 74 = .ok (.aload_n 0, 1) := by decide +kernel
theorem dX4_sumIn_75 : decode cX4_sumIn 75 = .ok (.getfield 46, 3) := by decide +kernel
theorem dX4_sumIn_78 : decode cX4_sumIn 78 = .ok (.iload 4, 2) := by decide +kernel
theorem dX4_sumIn_80 : decode cX4_sumIn 80 = .ok (.iaload, 1) := by decide +kernel
theorem dX4_sumIn_81 : decode cX4_sumIn 81 = .ok (.iconst 2, 1) := by decide +kernel
theorem dX4_sumIn_82 : decode cX4_sumIn 82 = .ok (.idiv, 1) := by decide +kernel
theorem dX4_sumIn_83 : decode cX4_sumIn 83 = .ok (.iadd, 1) := by decide +kernel
theorem dX4_sumIn_84 : decode cX4_sumIn 84 = .ok (.istore_n 3, 1) := by decide +kernel
theorem dX4_sumIn_85 : decode cX4_sumIn 85 = .ok (.iinc 4 1, 3) := by decide +kernel
theorem dX4_sumIn_88 : decode cX4_sumIn 88 = .ok (.goto (-83), 3) := by decide +kernel
theorem dX4_sumIn_91 : decode cX4_sumIn 91 = .ok (.iload_n 3, 1) := by decide +kernel
theorem dX4_sumIn_92 : decode cX4_sumIn 92 = .ok (.ireturn, 1) := by decide +kernel
set_option maxRecDepth 20000 in
theorem ggX4_fight_X4_isHeld : GoodIn wsX4_fight wsX4_isHeld := goodIn_r _ [9, 1, 2, 3, 15, 16, 17, 18, 19, 20, 21, 22, 23, 24, 25, 26, 27, 28, 29, 30, 31, 32, 33, 34, 35, 36] (by decide +kernel) (by decide +kernel)
set_option maxRecDepth 20000 in
theorem gX4_fight_X4_isHeld : GoodIn wsX4_fight (wsV RX4 90 RX4 yX4_isHeld wsX4_isHeld) := goodIn_app (goodIn_of _ (by decide +kernel)) ggX4_fight_X4_isHeld
set_option maxRecDepth 20000 in
theorem ggX4_fight_X4_sumIn : GoodIn wsX4_fight wsX4_sumIn := goodIn_r _ [13, 1, 2, 3, 14, 4, 15, 16, 17, 18, 19, 20, 21, 22, 23, 24, 25, 26, 27, 28, 29, 30, 31, 32, 33, 34, 35, 36] (by decide +kernel) (by decide +kernel)
set_option maxRecDepth 20000 in
theorem gX4_fight_X4_sumIn : GoodIn wsX4_fight (wsV RX4 100 RX4 yX4_sumIn wsX4_sumIn) := goodIn_app (goodIn_of _ (by decide +kernel)) ggX4_fight_X4_sumIn
theorem dX4_fight_0 : decode cX4_fight 0 = .ok (.aload_n 0, 1) := by decide +kernel
theorem dX4_fight_1 : decode cX4_fight 1 = .ok (.iload_n 1, 1) := by decide +kernel
theorem dX4_fight_2 : decode cX4_fight 2 = .ok (.iconst 0, 1) := by decide +kernel
theorem dX4_fight_3 : decode cX4_fight 3 = .ok (.invokevirtual 90, 3) := by decide +kernel
theorem dX4_fight_6 : decode cX4_fight 6 = .ok (.ifCond .eq 12, 3) := by decide +kernel
theorem dX4_fight_9 : decode cX4_fight 9 = .ok (.aload_n 0, 1) := by decide +kernel
theorem dX4_fight_10 : decode cX4_fight 10 = .ok (.iload_n 1, 1) := by decide +kernel
theorem dX4_fight_11 : decode cX4_fight 11 = .ok (.iconst 1, 1) := by decide +kernel
theorem dX4_fight_12 : decode cX4_fight 12 = .ok (.invokevirtual 90, 3) := by decide +kernel
theorem dX4_fight_15 : decode cX4_fight 15 = .ok (.ifCond .ne 4, 3) := by decide +kernel
theorem dX4_fight_18 : decode cX4_fight 18 = .ok (.return_, 1) := by decide +kernel
theorem dX4_fight_19 : decode cX4_fight 19 = .ok (.aload_n 0, 1) := by decide +kernel
theorem dX4_fight_20 : decode cX4_fight 20 = .ok (.iload_n 1, 1) := by decide +kernel
theorem dX4_fight_21 : decode cX4_fight 21 = .ok (.iconst 0, 1) := by decide +kernel
theorem dX4_fight_22 : decode cX4_fight 22 = .ok (.invokevirtual 100, 3) := by decide +kernel
theorem dX4_fight_25 : decode cX4_fight 25 = .ok (.istore_n 2, 1) := by decide +kernel
theorem dX4_fight_26 : decode cX4_fight 26 = .ok (.aload_n 0, 1) := by decide +kernel
theorem dX4_fight_27 : decode cX4_fight 27 = .ok (.iload_n 1, 1) := by decide +kernel
theorem dX4_fight_28 : decode cX4_fight 28 = .ok (.iconst 1, 1) := by decide +kernel
theorem dX4_fight_29 : decode cX4_fight 29 = .ok (.invokevirtual 100, 3) := by decide +kernel
theorem dX4_fight_32 : decode cX4_fight 32 = .ok (.istore_n 3, 1) := by decide +kernel
theorem dX4_fight_33 : decode cX4_fight 33 = .ok (.iconst 0, 1) := by decide +kernel
theorem dX4_fight_34 : decode cX4_fight 34 = .ok (.istore 4, 2) := by decide +kernel
theorem dX4_fight_36 : decode cX4_fight 36 = .ok (.iload 4, 2) := by decide +kernel
theorem dX4_fight_38 : decode cX4_fight 38 = .ok (.aload_n 0, 1) := by decide +kernel
theorem dX4_fight_39 : decode cX4_fight 39 = .ok (.getfield 69, 3) := by decide +kernel
theorem dX4_fight_42 : decode cX4_fight 42 = .ok (.if_icmp .ge 125, 3) := by decide +kernel
theorem dX4_fight_45 : decode cX4_fight 45 = .ok (.aload_n 0, 1) := by decide +kernel
theorem dX4_fight_46 : decode cX4_fight 46 = .ok (.getfield 16, 3) := by decide +kernel
theorem dX4_fight_49 : decode cX4_fight 49 = .ok (.iload 4, 2) := by decide +kernel
theorem dX4_fight_51 : decode cX4_fight 51 = .ok (.iaload, 1) := by decide +kernel
theorem dX4_fight_52 : decode cX4_fight 52 = .ok (.ifCond .ne 7, 3) := by decide +kernel
theorem dX4_fight_55 : decode cX4_fight 55 = .ok (.iload_n 2, 1) := by decide +kernel
theorem dX4_fight_56 : decode cX4_fight 56 = .ok (.goto 4, 3) := by decide +kernel
theorem dX4_fight_59 : decode cX4_fight 59 = .ok (.iload_n 3, 1) := by decide +kernel
theorem dX4_fight_60 : decode cX4_fight 60 = .ok (.istore 5, 2) := by decide +kernel
theorem dX4_fight_62 : decode cX4_fight 62 = .ok (.aload_n 0, 1) := by decide +kernel
theorem dX4_fight_63 : decode cX4_fight 63 = .ok (.getfield 16, 3) := by decide +kernel
theorem dX4_fight_66 : decode cX4_fight 66 = .ok (.iload 4, 2) := by decide +kernel
theorem dX4_fight_68 : decode cX4_fight 68 = .ok (.iaload, 1) := by decide +kernel
theorem dX4_fight_69 : decode cX4_fight 69 = .ok (.ifCond .ne 7, 3) := by decide +kernel
theorem dX4_fight_72 : decode cX4_fight 72 = .ok (.iload_n 3, 1) := by decide +kernel
theorem dX4_fight_73 : decode cX4_fight 73 = .ok (.goto 4, 3) := by decide +kernel
theorem dX4_fight_76 : decode cX4_fight 76 = .ok (.iload_n 2, 1) := by decide +kernel
theorem dX4_fight_77 : decode cX4_fight 77 = .ok (.istore 6, 2) := by decide +kernel
theorem dX4_fight_79 : decode cX4_fight 79 = .ok (.iload 5, 2) := by decide +kernel
theorem dX4_fight_81 : decode cX4_fight 81 = .ok (.iload 6, 2) := by decide +kernel
theorem dX4_fight_83 : decode cX4_fight 83 = .ok (.if_icmp .ne 7, 3) := by decide +kernel
theorem dX4_fight_86 : decode cX4_fight 86 = .ok (.iconst 1, 1) := by decide +kernel
theorem dX4_fight_87 : decode cX4_fight 87 = .ok (.goto 28, 3) := by decide +kernel
theorem dX4_fight_90 : decode cX4_fight 90 = .ok (.iload 5, 2) := by decide +kernel
theorem dX4_fight_92 : decode cX4_fight 92 = .ok (.iload 6, 2) := by decide +kernel
theorem dX4_fight_94 : decode cX4_fight 94 = .ok (.if_icmp .ge 7, 3) := by decide +kernel
theorem dX4_fight_97 : decode cX4_fight 97 = .ok (.iconst 2, 1) := by decide +kernel
theorem dX4_fight_98 : decode cX4_fight 98 = .ok (.goto 17, 3) := by decide +kernel
theorem dX4_fight_101 : decode cX4_fight 101 = .ok (.iconst 2, 1) := by decide +kernel
theorem dX4_fight_102 : decode cX4_fight 102 = .ok (.iload 6, 2) := by decide +kernel
theorem dX4_fight_104 : decode cX4_fight 104 = .ok (.imul, 1) := by decide +kernel
theorem dX4_fight_105 : decode cX4_fight 105 = .ok (.iload 5, 2) := by decide +kernel
theorem dX4_fight_107 : decode cX4_fight 107 = .ok (.if_icmp .le 7, 3) := by decide +kernel
theorem dX4_fight_110 : decode cX4_fight 110 = .ok (.iconst 1, 1) := by decide +kernel
theorem dX4_fight_111 : decode cX4_fight 111 = .ok (.goto 4, 3) := by decide +kernel
theorem dX4_fight_114 : decode cX4_fight 114 = .ok (.iconst 0, 1) := by decide +kernel
theorem dX4_fight_115 : decode cX4_fight 115 = .ok (.istore 7, 2) := by decide +kernel
theorem dX4_fight_117 : decode cX4_fight 117 = .ok (.aload_n 0, 1) := by decide +kernel
theorem dX4_fight_118 : decode cX4_fight 118 = .ok (.getfield 43, 3) := by decide +kernel
theorem dX4_fight_121 : decode cX4_fight 121 = .ok (.iload 4, 2) := by decide +kernel
theorem dX4_fight_123 : decode cX4_fight 123 = .ok (.iaload, 1) := by decide +kernel
theorem dX4_fight_124 : decode cX4_fight 124 = .ok (.iload_n 1, 1) := by decide +kernel
theorem dX4_fight_125 : decode cX4_fight 125 = .ok (.if_icmp .ne 36, 3) := by decide +kernel
theorem dX4_fight_128 : decode cX4_fight 128 = .ok (.aload_n 0, 1) := by decide +kernel
theorem dX4_fight_129 : decode cX4_fight 129 = .ok (.getfield 46, 3) := by decide +kernel
theorem dX4_fight_132 : decode cX4_fight 132 = .ok (.iload 4, 2) := by decide +kernel
theorem dX4_fight_134 : decode cX4_fight 134 = .ok (.aload_n 0, 1) := by decide +kernel
theorem dX4_fight_135 : decode cX4_fight 135 = .ok (.getfield 46, 3) := by decide +kernel
theorem dX4_fight_138 : decode cX4_fight 138 = .ok (.iload 4, 2) := by decide +kernel
theorem dX4_fight_140 : decode cX4_fight 140 = .ok (.iaload, 1) := by decide +kernel
theorem dX4_fight_141 : decode cX4_fight 141 = .ok (.iload 7, 2) := by decide +kernel
theorem dX4_fight_143 : decode cX4_fight 143 = .ok (.if_icmp .le 16, 3) := by decide +kernel
theorem dX4_fight_146 : decode cX4_fight 146 = .ok (.aload_n 0, 1) := by decide +kernel
theorem dX4_fight_147 : decode cX4_fight 147 = .ok (.getfield 46, 3) := by decide +kernel
theorem dX4_fight_150 : decode cX4_fight 150 = .ok (.iload 4, 2) := by decide +kernel
theorem dX4_fight_152 : decode cX4_fight 152 = .ok (.iaload, 1) := by decide +kernel
theorem dX4_fight_153 : decode cX4_fight 153 = .ok (.iload 7, 2) := by decide +kernel
theorem dX4_fight_155 : decode cX4_fight 155 = .ok (.isub, 1) := by decide +kernel
theorem dX4_fight_156 : decode cX4_fight 156 = .ok (.goto 4, 3) := by decide +kernel
theorem dX4_fight_159 : decode cX4_fight 159 = .ok (.iconst 0, 1) := by decide +kernel
theorem dX4_fight_160 : decode cX4_fight 160 = .ok (.iastore, 1) := by decide +kernel
theorem dX4_fight_161 : decode cX4_fight 161 = .ok (.iinc 4 1, 3) := by decide +kernel
theorem dX4_fight_164 : decode cX4_fight 164 = .ok (.goto (-128), 3) := by decide +kernel
theorem dX4_fight_167 : decode cX4_fight 167 = .ok (.iconst 0, 1) := by decide +kernel
theorem dX4_fight_168 : decode cX4_fight 168 = .ok (.istore 4, 2) := by decide +kernel
theorem dX4_fight_170 : decode cX4_fight 170 = .ok (.iload 4, 2) := by decide +kernel
theorem dX4_fight_172 : decode cX4_fight 172 = .ok (.aload_n 0, 1) := by decide +kernel
theorem dX4_fight_173 : decode cX4_fight 173 = .ok (.getfield 69, 3) := by decide +kernel
theorem dX4_fight_176 : decode cX4_fight 176 = .ok (.if_icmp .ge 37, 3) := by decide +kernel
theorem dX4_fight_179 : decode cX4_fight 179 = .ok (.aload_n 0, 1) := by decide +kernel
theorem dX4_fight_180 : decode cX4_fight 180 = .ok (.getfield 43, 3) := by decide +kernel
theorem dX4_fight_183 : decode cX4_fight 183 = .ok (.iload 4, 2) := by decide +kernel
theorem dX4_fight_185 : decode cX4_fight 185 = .ok (.aload_n 0, 1) := by decide +kernel
theorem dX4_fight_186 : decode cX4_fight 186 = .ok (.getfield 46, 3) := by decide +kernel
theorem dX4_fight_189 : decode cX4_fight 189 = .ok (.iload 4, 2) := by decide +kernel
theorem dX4_fight_191 : decode cX4_fight 191 = .ok (.iaload, 1) := by decide +kernel
theorem dX4_fight_192 : decode cX4_fight 192 = .ok (.ifCond .ne 7, 3) := by decide +kernel
theorem dX4_fight_195 : decode cX4_fight 195 = .ok (.iconst (-1), 1) := by decide +kernel
theorem dX4_fight_196 : decode cX4_fight 196 = .ok (.goto 10, 3) := by decide +kernel
theorem dX4_fight_199 : decode cX4_fight 199 = .ok (.aload_n 0, 1) := by decide +kernel
theorem dX4_fight_200 : decode cX4_fight 200 = .ok (.getfield 43, 3) := by decide +kernel
theorem dX4_fight_203 : decode cX4_fight 203 = .ok (.iload 4, 2) := by decide +kernel
theorem dX4_fight_205 : decode cX4_fight 205 = .ok (.iaload, 1) := by decide +kernel
theorem dX4_fight_206 : decode cX4_fight 206 = .ok (.iastore, 1) := by decide +kernel
theorem dX4_fight_207 : decode cX4_fight 207 = .ok (.iinc 4 1, 3) := by decide +kernel
theorem dX4_fight_210 : decode cX4_fight 210 = .ok (.goto (-40), 3) := by decide +kernel
theorem dX4_fight_213 : decode cX4_fight 213 = .ok (.return_, 1) := by decide +kernel
theorem dX4_sees_0 : decode cX4_sees 0 = .ok (.iconst 0, 1) := by decide +kernel
theorem dX4_sees_1 : decode cX4_sees 1 = .ok (.istore_n 3, 1) := by decide +kernel
theorem dX4_sees_2 : decode cX4_sees 2 = .ok (.iload_n 3, 1) := by decide +kernel
theorem dX4_sees_3 : decode cX4_sees 3 = .ok (.aload_n 0, 1) := by decide +kernel
theorem dX4_sees_4 : decode cX4_sees 4 = .ok (.getfield 69, 3) := by decide +kernel
theorem dX4_sees_7 : decode cX4_sees 7 = .ok (.if_icmp .ge 60, 3) := by decide +kernel
theorem dX4_sees_10 : decode cX4_sees 10 = .ok (.aload_n 0, 1) := by decide +kernel
theorem dX4_sees_11 : decode cX4_sees 11 = .ok (.getfield 16, 3) := by decide +kernel
theorem dX4_sees_14 : decode cX4_sees 14 = .ok (.iload_n 3, 1) := by decide +kernel
theorem dX4_sees_15 : decode cX4_sees 15 = .ok (.iaload, 1) := by decide +kernel
theorem dX4_sees_16 : decode cX4_sees 16 = .ok (.iload_n 1, 1) := by decide +kernel
theorem dX4_sees_17 : decode cX4_sees 17 = .ok (.if_icmp .ne 44, 3) := by decide +kernel
theorem dX4_sees_20 : decode cX4_sees 20 = .ok (.aload_n 0, 1) := by decide +kernel
theorem dX4_sees_21 : decode cX4_sees 21 = .ok (.getfield 43, 3) := by decide +kernel
theorem dX4_sees_24 : decode cX4_sees 24 = .ok (.iload_n 3, 1) := by decide +kernel
theorem dX4_sees_25 : decode cX4_sees 25 = .ok (.iaload, 1) := by decide +kernel
theorem dX4_sees_26 : decode cX4_sees 26 = .ok (.iconst (-1), 1) := by decide +kernel
theorem dX4_sees_27 : decode cX4_sees 27 = .ok (.if_icmp .eq 34, 3) := by decide +kernel
theorem dX4_sees_30 : decode cX4_sees 30 = .ok (.aload_n 0, 1) := by decide +kernel
theorem dX4_sees_31 : decode cX4_sees 31 = .ok (.getfield 43, 3) := by decide +kernel
theorem dX4_sees_34 : decode cX4_sees 34 = .ok (.iload_n 3, 1) := by decide +kernel
theorem dX4_sees_35 : decode cX4_sees 35 = .ok (.iaload, 1) := by decide +kernel
theorem dX4_sees_36 : decode cX4_sees 36 = .ok (.iload_n 2, 1) := by decide +kernel
theorem dX4_sees_37 : decode cX4_sees 37 = .ok (.if_icmp .eq 22, 3) := by decide +kernel
theorem dX4_sees_40 : decode cX4_sees 40 = .ok (.aload_n 0, 1) := by decide +kernel
theorem dX4_sees_41 : decode cX4_sees 41 = .ok (.getfield 7, 3) := by decide +kernel
theorem dX4_sees_44 : decode cX4_sees 44 = .ok (.bipush 10, 2) := by decide +kernel
theorem dX4_sees_46 : decode cX4_sees 46 = .ok (.aload_n 0, 1) := by decide +kernel
theorem dX4_sees_47 : decode cX4_sees 47 = .ok (.getfield 43, 3) := by decide +kernel
theorem dX4_sees_50 : decode cX4_sees 50 = .ok (.iload_n 3, 1) := by decide +kernel
theorem dX4_sees_51 : decode cX4_sees 51 = .ok (.iaload, 1) := by decide +kernel
theorem dX4_sees_52 : decode cX4_sees 52 = .ok (.imul, 1) := by decide +kernel
theorem dX4_sees_53 : decode cX4_sees 53 = .ok (.iload_n 2, 1) := by decide +kernel
theorem dX4_sees_54 : decode cX4_sees 54 = .ok (.iadd, 1) := by decide +kernel
theorem dX4_sees_55 : decode cX4_sees 55 = .ok (.iaload, 1) := by decide +kernel
theorem dX4_sees_56 : decode cX4_sees 56 = .ok (.ifCond .le 5, 3) := by decide +kernel
theorem dX4_sees_59 : decode cX4_sees 59 = .ok (.iconst 1, 1) := by decide +kernel
theorem dX4_sees_60 : decode cX4_sees 60 = .ok (.ireturn, 1) := by decide +kernel
theorem dX4_sees_61 : decode cX4_sees 61 = .ok (.iinc 3 1, 3) := by decide +kernel
theorem dX4_sees_64 : decode cX4_sees 64 = .ok (.goto (-62), 3) := by decide +kernel
theorem dX4_sees_67 : decode cX4_sees 67 = .ok (.iconst 0, 1) := by decide +kernel
theorem dX4_sees_68 : decode cX4_sees 68 = .ok (.ireturn, 1) := by decide +kernel
set_option maxRecDepth 20000 in
theorem ggX4_playTurn_X4_take : GoodIn wsX4_playTurn wsX4_take := goodIn_r _ [14, 1, 5, 4, 7, 6, 48, 49, 50, 51, 52, 53, 54, 55, 56, 57, 58, 59, 60, 61, 62, 63, 64, 65, 66, 67, 68, 69] (by decide +kernel) (by decide +kernel)
set_option maxRecDepth 20000 in
theorem gX4_playTurn_X4_take : GoodIn wsX4_playTurn (wsV RX4 86 RX4 yX4_take wsX4_take) := goodIn_app (goodIn_of _ (by decide +kernel)) ggX4_playTurn_X4_take
set_option maxRecDepth 20000 in
theorem ggX4_playTurn_X4_supplyOf : GoodIn wsX4_playTurn wsX4_supplyOf := goodIn_r _ [18, 9, 19, 5, 20, 21, 22, 23, 13, 24, 1, 25, 26, 27, 28, 29, 48, 49, 50, 51, 52, 53, 54, 55, 56, 57, 58, 59, 60, 61, 62, 63, 64, 65, 66, 67, 68, 69] (by decide +kernel) (by decide +kernel)
set_option maxRecDepth 20000 in
theorem gX4_playTurn_X4_supplyOf : GoodIn wsX4_playTurn (wsV RX4 104 RX4 yX4_supplyOf wsX4_supplyOf) := goodIn_app (goodIn_of _ (by decide +kernel)) ggX4_playTurn_X4_supplyOf
set_option maxRecDepth 20000 in
theorem ggX4_playTurn_X4_march : GoodIn wsX4_playTurn wsX4_march := goodIn_r _ [33, 1, 34, 5, 2, 3, 35, 9, 25, 26, 27, 13, 28, 29, 48, 49, 50, 51, 52, 53, 54, 55, 56, 57, 58, 59, 60, 61, 62, 63, 64, 65, 66, 67, 68, 69] (by decide +kernel) (by decide +kernel)
set_option maxRecDepth 20000 in
theorem gX4_playTurn_X4_march : GoodIn wsX4_playTurn (wsV RX4 107 RX4 yX4_march wsX4_march) := goodIn_app (goodIn_of _ (by decide +kernel)) ggX4_playTurn_X4_march
set_option maxRecDepth 20000 in
theorem ggX4_playTurn_X4_fight : GoodIn wsX4_playTurn wsX4_fight := goodIn_r _ [39, 1, 9, 5, 7, 21, 22, 23, 13, 24, 40, 41, 42, 43, 2, 48, 49, 50, 51, 52, 53, 54, 55, 56, 57, 58, 59, 60, 61, 62, 63, 64, 65, 66, 67, 68, 69] (by decide +kernel) (by decide +kernel)
set_option maxRecDepth 20000 in
theorem gX4_playTurn_X4_fight : GoodIn wsX4_playTurn (wsV RX4 110 RX4 yX4_fight wsX4_fight) := goodIn_app (goodIn_of _ (by decide +kernel)) ggX4_playTurn_X4_fight
set_option maxRecDepth 20000 in
theorem ggX4_playTurn_X4_sees : GoodIn wsX4_playTurn wsX4_sees := goodIn_r _ [47, 1, 9, 5, 29, 48, 49, 50, 51, 52, 53, 54, 55, 56, 57, 58, 59, 60, 61, 62, 63, 64, 65, 66, 67, 68, 69] (by decide +kernel) (by decide +kernel)
set_option maxRecDepth 20000 in
theorem gX4_playTurn_X4_sees : GoodIn wsX4_playTurn (wsV RX4 113 RX4 yX4_sees wsX4_sees) := goodIn_app (goodIn_of _ (by decide +kernel)) ggX4_playTurn_X4_sees
theorem dX4_playTurn_0 : decode cX4_playTurn 0 = .ok (.aload_n 0, 1) := by decide +kernel
theorem dX4_playTurn_1 : decode cX4_playTurn 1 = .ok (.iload_n 1, 1) := by decide +kernel
theorem dX4_playTurn_2 : decode cX4_playTurn 2 = .ok (.invokevirtual 86, 3) := by decide +kernel
theorem dX4_playTurn_5 : decode cX4_playTurn 5 = .ok (.iconst 0, 1) := by decide +kernel
theorem dX4_playTurn_6 : decode cX4_playTurn 6 = .ok (.istore_n 2, 1) := by decide +kernel
theorem dX4_playTurn_7 : decode cX4_playTurn 7 = .ok (.iload_n 2, 1) := by decide +kernel
theorem dX4_playTurn_8 : decode cX4_playTurn 8 = .ok (.aload_n 0, 1) := by decide +kernel
theorem dX4_playTurn_9 : decode cX4_playTurn 9 = .ok (.getfield 69, 3) := by decide +kernel
theorem dX4_playTurn_12 : decode cX4_playTurn 12 = .ok (.if_icmp .ge 35, 3) := by decide +kernel
theorem dX4_playTurn_15 : decode cX4_playTurn 15 = .ok (.aload_n 0, 1) := by decide +kernel
theorem dX4_playTurn_16 : decode cX4_playTurn 16 = .ok (.getfield 49, 3) := by decide +kernel
theorem dX4_playTurn_19 : decode cX4_playTurn 19 = .ok (.iload_n 2, 1) := by decide +kernel
theorem dX4_playTurn_20 : decode cX4_playTurn 20 = .ok (.aload_n 0, 1) := by decide +kernel
theorem dX4_playTurn_21 : decode cX4_playTurn 21 = .ok (.iload_n 2, 1) := by decide +kernel
theorem dX4_playTurn_22 : decode cX4_playTurn 22 = .ok (.aload_n 0, 1) := by decide +kernel
theorem dX4_playTurn_23 : decode cX4_playTurn 23 = .ok (.getfield 31, 3) := by decide +kernel
theorem dX4_playTurn_26 : decode cX4_playTurn 26 = .ok (.iload_n 1, 1) := by decide +kernel
theorem dX4_playTurn_27 : decode cX4_playTurn 27 = .ok (.iaload, 1) := by decide +kernel
theorem dX4_playTurn_28 : decode cX4_playTurn 28 = .ok (.invokevirtual 104, 3) := by decide +kernel
theorem dX4_playTurn_31 : decode cX4_playTurn 31 = .ok (.iconst (-1), 1) := by decide +kernel
theorem dX4_playTurn_32 : decode cX4_playTurn 32 = .ok (.if_icmp .ne 7, 3) := by decide +kernel
theorem dX4_playTurn_35 : decode cX4_playTurn 35 = .ok (.iconst 0, 1) := by decide +kernel
theorem dX4_playTurn_36 : decode cX4_playTurn 36 = .ok (.goto 4, 3) := by decide +kernel
theorem dX4_playTurn_39 : decode cX4_playTurn 39 = .ok (.iconst 1, 1) := by decide +kernel
theorem dX4_playTurn_40 : decode cX4_playTurn 40 = .ok (.iastore, 1) := by decide +kernel
theorem dX4_playTurn_41 : decode cX4_playTurn 41 = .ok (.iinc 2 1, 3) := by decide +kernel
theorem dX4_playTurn_44 : decode cX4_playTurn 44 = .ok (.goto (-37), 3) := by decide +kernel
theorem dX4_playTurn_47 : decode cX4_playTurn 47 = .ok (.aload_n 0, 1) := by decide +kernel
theorem dX4_playTurn_48 : decode cX4_playTurn 48 = .ok (.iload_n 1, 1) := by decide +kernel
theorem dX4_playTurn_49 : decode cX4_playTurn 49 = .ok (.invokevirtual 107, 3) := by decide +kernel
theorem dX4_playTurn_52 : decode cX4_playTurn 52 = .ok (.iconst 0, 1) := by decide +kernel
theorem dX4_playTurn_53 : decode cX4_playTurn 53 = .ok (.istore_n 2, 1) := by decide +kernel
theorem dX4_playTurn_54 : decode cX4_playTurn 54 = .ok (.iload_n 2, 1) := by decide +kernel
theorem dX4_playTurn_55 : decode cX4_playTurn 55 = .ok (.bipush 10, 2) := by decide +kernel
theorem dX4_playTurn_57 : decode cX4_playTurn 57 = .ok (.if_icmp .ge 14, 3) := by decide +kernel
theorem dX4_playTurn_60 : decode cX4_playTurn 60 = .ok (.aload_n 0, 1) := by decide +kernel
theorem dX4_playTurn_61 : decode cX4_playTurn 61 = .ok (.iload_n 2, 1) := by decide +kernel
theorem dX4_playTurn_62 : decode cX4_playTurn 62 = .ok (.invokevirtual 110, 3) := by decide +kernel
theorem dX4_playTurn_65 : decode cX4_playTurn 65 = .ok (.iinc 2 1, 3) := by decide +kernel
theorem dX4_playTurn_68 : decode cX4_playTurn 68 = .ok (.goto (-14), 3) := by decide +kernel
theorem dX4_playTurn_71 : decode cX4_playTurn 71 = .ok (.iconst 0, 1) := by decide +kernel
theorem dX4_playTurn_72 : decode cX4_playTurn 72 = .ok (.istore_n 2, 1) := by decide +kernel
theorem dX4_playTurn_73 : decode cX4_playTurn 73 = .ok (.iload_n 2, 1) := by decide +kernel
theorem dX4_playTurn_74 : decode cX4_playTurn 74 = .ok (.aload_n 0, 1) := by decide +kernel
theorem dX4_playTurn_75 : decode cX4_playTurn 75 = .ok (.getfield 69, 3) := by decide +kernel
theorem dX4_playTurn_78 : decode cX4_playTurn 78 = .ok (.if_icmp .ge 99, 3) := by decide +kernel
theorem dX4_playTurn_81 : decode cX4_playTurn 81 = .ok (.aload_n 0, 1) := by decide +kernel
theorem dX4_playTurn_82 : decode cX4_playTurn 82 = .ok (.getfield 19, 3) := by decide +kernel
theorem dX4_playTurn_85 : decode cX4_playTurn 85 = .ok (.bipush 12, 2) := by decide +kernel
theorem dX4_playTurn_87 : decode cX4_playTurn 87 = .ok (.iload_n 1, 1) := by decide +kernel
theorem dX4_playTurn_88 : decode cX4_playTurn 88 = .ok (.iconst 1, 1) := by decide +kernel
theorem dX4_playTurn_89 : decode cX4_playTurn 89 = .ok (.iadd, 1) := by decide +kernel
theorem dX4_playTurn_90 : decode cX4_playTurn 90 = .ok (.imul, 1) := by decide +kernel
theorem dX4_playTurn_91 : decode cX4_playTurn 91 = .ok (.iload_n 2, 1) := by decide +kernel
theorem dX4_playTurn_92 : decode cX4_playTurn 92 = .ok (.iadd, 1) := by decide +kernel
theorem dX4_playTurn_93 : decode cX4_playTurn 93 = .ok (.aload_n 0, 1) := by decide +kernel
theorem dX4_playTurn_94 : decode cX4_playTurn 94 = .ok (.getfield 43, 3) := by decide +kernel
theorem dX4_playTurn_97 : decode cX4_playTurn 97 = .ok (.iload_n 2, 1) := by decide +kernel
theorem dX4_playTurn_98 : decode cX4_playTurn 98 = .ok (.iaload, 1) := by decide +kernel
theorem dX4_playTurn_99 : decode cX4_playTurn 99 = .ok (.iastore, 1) := by decide +kernel
theorem dX4_playTurn_100 : decode cX4_playTurn 100 = .ok (.aload_n 0, 1) := by decide +kernel
theorem dX4_playTurn_101 : decode cX4_playTurn 101 = .ok (.getfield 22, 3) := by decide +kernel
theorem dX4_playTurn_104 : decode cX4_playTurn 104 = .ok (.bipush 12, 2) := by decide +kernel
theorem dX4_playTurn_106 : decode cX4_playTurn 106 = .ok (.iload_n 1, 1) := by decide +kernel
theorem dX4_playTurn_107 : decode cX4_playTurn 107 = .ok (.iconst 1, 1) := by decide +kernel
theorem dX4_playTurn_108 : decode cX4_playTurn 108 = .ok (.iadd, 1) := by decide +kernel
theorem dX4_playTurn_109 : decode cX4_playTurn 109 = .ok (.imul, 1) := by decide +kernel
theorem dX4_playTurn_110 : decode cX4_playTurn 110 = .ok (.iload_n 2, 1) := by decide +kernel
theorem dX4_playTurn_111 : decode cX4_playTurn 111 = .ok (.iadd, 1) := by decide +kernel
theorem dX4_playTurn_112 : decode cX4_playTurn 112 = .ok (.aload_n 0, 1) := by decide +kernel
theorem dX4_playTurn_113 : decode cX4_playTurn 113 = .ok (.getfield 46, 3) := by decide +kernel
theorem dX4_playTurn_116 : decode cX4_playTurn 116 = .ok (.iload_n 2, 1) := by decide +kernel
theorem dX4_playTurn_117 : decode cX4_playTurn 117 = .ok (.iaload, 1) := by decide +kernel
theorem dX4_playTurn_118 : decode cX4_playTurn 118 = .ok (.iastore, 1) := by decide +kernel
theorem dX4_playTurn_119 : decode cX4_playTurn 119 = .ok (.aload_n 0, 1) := by decide +kernel
theorem dX4_playTurn_120 : decode cX4_playTurn 120 = .ok (.getfield 34, 3) := by decide +kernel
theorem dX4_playTurn_123 : decode cX4_playTurn 123 = .ok (.bipush 12, 2) := by decide +kernel
theorem dX4_playTurn_125 : decode cX4_playTurn 125 = .ok (.iload_n 1, 1) := by decide +kernel
theorem dX4_playTurn_126 : decode cX4_playTurn 126 = .ok (.imul, 1) := by decide +kernel
theorem dX4_playTurn_127 : decode cX4_playTurn 127 = .ok (.iload_n 2, 1) := by decide +kernel
theorem dX4_playTurn_128 : decode cX4_playTurn 128 = .ok (.iadd, 1) := by decide +kernel
theorem dX4_playTurn_129 : decode cX4_playTurn 129 = .ok (.aload_n 0, 1) := by decide +kernel
theorem dX4_playTurn_130 : decode cX4_playTurn 130 = .ok (.getfield 43, 3) := by decide +kernel
theorem dX4_playTurn_133 : decode cX4_playTurn 133 = .ok (.iload_n 2, 1) := by decide +kernel
theorem dX4_playTurn_134 : decode cX4_playTurn 134 = .ok (.iaload, 1) := by decide +kernel
theorem dX4_playTurn_135 : decode cX4_playTurn 135 = .ok (.iconst (-1), 1) := by decide +kernel
theorem dX4_playTurn_136 : decode cX4_playTurn 136 = .ok (.if_icmp .eq 33, 3) := by decide +kernel
theorem dX4_playTurn_139 : decode cX4_playTurn 139 = .ok (.aload_n 0, 1) := by decide +kernel
theorem dX4_playTurn_140 : decode cX4_playTurn 140 = .ok (.iconst 1, 1) := by decide +kernel
theorem dX4_playTurn_141 : decode cX4_playTurn 141 = .ok (.aload_n 0, 1) := by decide +kernel
theorem dX4_playTurn_142 : decode cX4_playTurn 142 = .ok (.getfield 16, 3) := by decide +kernel
theorem dX4_playTurn_145 : decode cX4_playTurn 145 = .ok (.iload_n 2, 1) := by decide +kernel
theorem dX4_playTurn_146 : decode cX4_playTurn 146 = .ok (.iaload, 1) := by decide +kernel
theorem dX4_playTurn_147 : decode cX4_playTurn 147 = .ok (.isub, 1) := by decide +kernel
theorem dX4_playTurn_148 : decode cX4_playTurn 148 = .ok (.aload_n 0, 1) := by decide +kernel
theorem dX4_playTurn_149 : decode cX4_playTurn 149 = .ok (.getfield 43, 3) := by decide +kernel
theorem dX4_playTurn_152 : decode cX4_playTurn 152 = .ok (.iload_n 2, 1) := by decide +kernel
theorem dX4_playTurn_153 : decode cX4_playTurn 153 = .ok (.iaload, 1) := by decide +kernel
theorem dX4_playTurn_154 : decode cX4_playTurn 154 = .ok (.invokevirtual 113, 3) := by decide +kernel
theorem dX4_playTurn_157 : decode cX4_playTurn 157 = .ok (.ifCond .eq 12, 3) := by decide +kernel
theorem dX4_playTurn_160 : decode cX4_playTurn 160 = .ok (.aload_n 0, 1) := by decide +kernel
theorem dX4_playTurn_161 : decode cX4_playTurn 161 = .ok (.getfield 43, 3) := by decide +kernel
theorem dX4_playTurn_164 : decode cX4_playTurn 164 = .ok (.iload_n 2, 1) := by decide +kernel
theorem dX4_playTurn_165 : decode cX4_playTurn 165 = .ok (.iaload, 1) := by decide +kernel
theorem dX4_playTurn_166 : decode cX4_playTurn 166 = .ok (.goto 4, 3) := by decide +kernel
theorem dX4_playTurn_169 : decode cX4_playTurn 169 = .ok (.iconst (-1), 1) := by decide +kernel
theorem dX4_playTurn_170 : decode cX4_playTurn 170 = .ok (.iastore, 1) := by decide +kernel
theorem dX4_playTurn_171 : decode cX4_playTurn 171 = .ok (.iinc 2 1, 3) := by decide +kernel
theorem dX4_playTurn_174 : decode cX4_playTurn 174 = .ok (.goto (-101), 3) := by decide +kernel
theorem dX4_playTurn_177 : decode cX4_playTurn 177 = .ok (.return_, 1) := by decide +kernel
theorem dX4_lostBy_0 : decode cX4_lostBy 0 = .ok (.iconst 0, 1) := by decide +kernel
theorem dX4_lostBy_1 : decode cX4_lostBy 1 = .ok (.istore_n 2, 1) := by decide +kernel
theorem dX4_lostBy_2 : decode cX4_lostBy 2 = .ok (.iconst 0, 1) := by decide +kernel
theorem dX4_lostBy_3 : decode cX4_lostBy 3 = .ok (.istore_n 3, 1) := by decide +kernel
theorem dX4_lostBy_4 : decode cX4_lostBy 4 = .ok (.iload_n 3, 1) := by decide +kernel
theorem dX4_lostBy_5 : decode cX4_lostBy 5 = .ok (.aload_n 0, 1) := by decide +kernel
theorem dX4_lostBy_6 : decode cX4_lostBy 6 = .ok (.getfield 69, 3) := by decide +kernel
theorem dX4_lostBy_9 : decode cX4_lostBy 9 = .ok (.if_icmp .ge 31, 3) := by decide +kernel
theorem dX4_lostBy_12 : decode cX4_lostBy 12 = .ok (.iload_n 2, 1) := by decide +kernel
theorem dX4_lostBy_13 : decode cX4_lostBy 13 = .ok (.aload_n 0, 1) := by decide +kernel
theorem dX4_lostBy_14 : decode cX4_lostBy 14 = .ok (.getfield 22, 3) := by decide +kernel
theorem dX4_lostBy_17 : decode cX4_lostBy 17 = .ok (.bipush 12, 2) := by decide +kernel
theorem dX4_lostBy_19 : decode cX4_lostBy 19 = .ok (.iload_n 1, 1) := by decide +kernel
theorem dX4_lostBy_20 : decode cX4_lostBy 20 = .ok (.imul, 1) := by decide +kernel
theorem dX4_lostBy_21 : decode cX4_lostBy 21 = .ok (.iload_n 3, 1) := by decide +kernel
theorem dX4_lostBy_22 : decode cX4_lostBy 22 = .ok (.iadd, 1) := by decide +kernel
theorem dX4_lostBy_23 : decode cX4_lostBy 23 = .ok (.iaload, 1) := by decide +kernel
theorem dX4_lostBy_24 : decode cX4_lostBy 24 = .ok (.ifCond .ne 7, 3) := by decide +kernel
theorem dX4_lostBy_27 : decode cX4_lostBy 27 = .ok (.iconst 1, 1) := by decide +kernel
theorem dX4_lostBy_28 : decode cX4_lostBy 28 = .ok (.goto 4, 3) := by decide +kernel
theorem dX4_lostBy_31 : decode cX4_lostBy 31 = .ok (.iconst 0, 1) := by decide +kernel
theorem dX4_lostBy_32 : decode cX4_lostBy 32 = .ok (.iadd, 1) := by decide +kernel
theorem dX4_lostBy_33 : decode cX4_lostBy 33 = .ok (.istore_n 2, 1) := by decide +kernel
theorem dX4_lostBy_34 : decode cX4_lostBy 34 = .ok (.iinc 3 1, 3) := by decide +kernel
theorem dX4_lostBy_37 : decode cX4_lostBy 37 = .ok (.goto (-33), 3) := by decide +kernel
theorem dX4_lostBy_40 : decode cX4_lostBy 40 = .ok (.iload_n 2, 1) := by decide +kernel
theorem dX4_lostBy_41 : decode cX4_lostBy 41 = .ok (.ireturn, 1) := by decide +kernel
set_option maxRecDepth 20000 in
theorem ggX4_play_X4_in : GoodIn wsX4_play wsX4_in := goodIn_r _ [9] (by decide +kernel) (by decide +kernel)
set_option maxRecDepth 20000 in
theorem gX4_play_X4_in : GoodIn wsX4_play (va_wsS RX4 65 yX4_in wsX4_in) := goodIn_app (goodIn_of _ (by decide +kernel)) ggX4_play_X4_in
set_option maxRecDepth 20000 in
theorem ggX4_play_X4_fails : GoodIn wsX4_play wsX4_fails := goodIn_r _ [13, 1, 66, 67, 68, 69, 70, 71, 72, 73, 74, 75, 76, 77, 78, 79, 80, 81, 82, 83, 84, 85, 86, 87] (by decide +kernel) (by decide +kernel)
set_option maxRecDepth 20000 in
theorem gX4_play_X4_fails : GoodIn wsX4_play (wsV RX4 76 RX4 yX4_fails wsX4_fails) := goodIn_app (goodIn_of _ (by decide +kernel)) ggX4_play_X4_fails
set_option maxRecDepth 20000 in
theorem ggX4_play_X4_playTurn : GoodIn wsX4_play wsX4_playTurn := goodIn_r _ [17, 18, 19, 3, 20, 21, 22, 23, 24, 25, 26, 27, 28, 8, 29, 30, 31, 32, 33, 34, 35, 36, 37, 38, 39, 40, 41, 42, 43, 44, 45, 46, 47, 48, 4, 49, 50, 51, 52, 53, 54, 55, 56, 57, 58, 59, 60, 61, 66, 67, 68, 69, 70, 71, 72, 73, 74, 75, 76, 77, 78, 79, 80, 81, 82, 83, 84, 85, 86, 87] (by decide +kernel) (by decide +kernel)
set_option maxRecDepth 20000 in
theorem gX4_play_X4_playTurn : GoodIn wsX4_play (wsV RX4 116 RX4 yX4_playTurn wsX4_playTurn) := goodIn_app (goodIn_of _ (by decide +kernel)) ggX4_play_X4_playTurn
set_option maxRecDepth 20000 in
theorem ggX4_play_X4_lostBy : GoodIn wsX4_play wsX4_lostBy := goodIn_r _ [65, 18, 22, 66, 67, 68, 69, 70, 71, 72, 73, 74, 75, 76, 77, 78, 79, 80, 81, 82, 83, 84, 85, 86, 87] (by decide +kernel) (by decide +kernel)
set_option maxRecDepth 20000 in
theorem gX4_play_X4_lostBy : GoodIn wsX4_play (wsV RX4 119 RX4 yX4_lostBy wsX4_lostBy) := goodIn_app (goodIn_of _ (by decide +kernel)) ggX4_play_X4_lostBy
theorem dX4_play_0 : decode cX4_play 0 = .ok (.aload_n 0, 1) := by decide +kernel
theorem dX4_play_1 : decode cX4_play 1 = .ok (.iconst 0, 1) := by decide +kernel
theorem dX4_play_2 : decode cX4_play 2 = .ok (.putfield 61, 3) := by decide +kernel
theorem dX4_play_5 : decode cX4_play 5 = .ok (.iload_n 1, 1) := by decide +kernel
theorem dX4_play_6 : decode cX4_play 6 = .ok (.iconst 0, 1) := by decide +kernel
theorem dX4_play_7 : decode cX4_play 7 = .ok (.iconst 2, 1) := by decide +kernel
theorem dX4_play_8 : decode cX4_play 8 = .ok (.invokestatic 65, 3) := by decide +kernel
theorem dX4_play_11 : decode cX4_play 11 = .ok (.ifCond .ne 9, 3) := by decide +kernel
theorem dX4_play_14 : decode cX4_play 14 = .ok (.aload_n 0, 1) := by decide +kernel
theorem dX4_play_15 : decode cX4_play 15 = .ok (.iconst 1, 1) := by decide +kernel
theorem dX4_play_16 : decode cX4_play 16 = .ok (.invokevirtual 76, 3) := by decide +kernel
theorem dX4_play_19 : decode cX4_play 19 = .ok (.ireturn, 1) := by decide +kernel
theorem dX4_play_20 : decode cX4_play 20 = .ok (.aload_n 0, 1) := by decide +kernel
theorem dX4_play_21 : decode cX4_play 21 = .ok (.getfield 80, 3) := by decide +kernel
theorem dX4_play_24 : decode cX4_play 24 = .ok (.bipush 20, 2) := by decide +kernel
theorem dX4_play_26 : decode cX4_play 26 = .ok (.if_icmp .ne 9, 3) := by decide +kernel
theorem dX4_play_29 : decode cX4_play 29 = .ok (.aload_n 0, 1) := by decide +kernel
theorem dX4_play_30 : decode cX4_play 30 = .ok (.iconst 2, 1) := by decide +kernel
theorem dX4_play_31 : decode cX4_play 31 = .ok (.invokevirtual 76, 3) := by decide +kernel
theorem dX4_play_34 : decode cX4_play 34 = .ok (.ireturn, 1) := by decide +kernel
theorem dX4_play_35 : decode cX4_play 35 = .ok (.aload_n 0, 1) := by decide +kernel
theorem dX4_play_36 : decode cX4_play 36 = .ok (.getfield 31, 3) := by decide +kernel
theorem dX4_play_39 : decode cX4_play 39 = .ok (.aload_n 0, 1) := by decide +kernel
theorem dX4_play_40 : decode cX4_play 40 = .ok (.getfield 80, 3) := by decide +kernel
theorem dX4_play_43 : decode cX4_play 43 = .ok (.iload_n 1, 1) := by decide +kernel
theorem dX4_play_44 : decode cX4_play 44 = .ok (.iastore, 1) := by decide +kernel
theorem dX4_play_45 : decode cX4_play 45 = .ok (.iconst 0, 1) := by decide +kernel
theorem dX4_play_46 : decode cX4_play 46 = .ok (.istore_n 2, 1) := by decide +kernel
theorem dX4_play_47 : decode cX4_play 47 = .ok (.iload_n 2, 1) := by decide +kernel
theorem dX4_play_48 : decode cX4_play 48 = .ok (.bipush 12, 2) := by decide +kernel
theorem dX4_play_50 : decode cX4_play 50 = .ok (.if_icmp .ge 36, 3) := by decide +kernel
theorem dX4_play_53 : decode cX4_play 53 = .ok (.aload_n 0, 1) := by decide +kernel
theorem dX4_play_54 : decode cX4_play 54 = .ok (.getfield 25, 3) := by decide +kernel
theorem dX4_play_57 : decode cX4_play 57 = .ok (.bipush 12, 2) := by decide +kernel
theorem dX4_play_59 : decode cX4_play 59 = .ok (.aload_n 0, 1) := by decide +kernel
theorem dX4_play_60 : decode cX4_play 60 = .ok (.getfield 80, 3) := by decide +kernel
theorem dX4_play_63 : decode cX4_play 63 = .ok (.imul, 1) := by decide +kernel
theorem dX4_play_64 : decode cX4_play 64 = .ok (.iload_n 2, 1) := by decide +kernel
theorem dX4_play_65 : decode cX4_play 65 = .ok (.iadd, 1) := by decide +kernel
theorem dX4_play_66 : decode cX4_play 66 = .ok (.aload_n 0, 1) := by decide +kernel
theorem dX4_play_67 : decode cX4_play 67 = .ok (.getfield 28, 3) := by decide +kernel
theorem dX4_play_70 : decode cX4_play 70 = .ok (.iload_n 2, 1) := by decide +kernel
theorem dX4_play_71 : decode cX4_play 71 = .ok (.iaload, 1) := by decide +kernel
theorem dX4_play_72 : decode cX4_play 72 = .ok (.iastore, 1) := by decide +kernel
theorem dX4_play_73 : decode cX4_play 73 = .ok (.aload_n 0, 1) := by decide +kernel
theorem dX4_play_74 : decode cX4_play 74 = .ok (.getfield 28, 3) := by decide +kernel
theorem dX4_play_77 : decode cX4_play 77 = .ok (.iload_n 2, 1) := by decide +kernel
theorem dX4_play_78 : decode cX4_play 78 = .ok (.iconst (-1), 1) := by decide +kernel
theorem dX4_play_79 : decode cX4_play 79 = .ok (.iastore, 1) := by decide +kernel
theorem dX4_play_80 : decode cX4_play 80 = .ok (.iinc 2 1, 3) := by decide +kernel
theorem dX4_play_83 : decode cX4_play 83 = .ok (.goto (-36), 3) := by decide +kernel
theorem dX4_play_86 : decode cX4_play 86 = .ok (.aload_n 0, 1) := by decide +kernel
theorem dX4_play_87 : decode cX4_play 87 = .ok (.aload_n 0, 1) := by decide +kernel
theorem dX4_play_88 : decode cX4_play 88 = .ok (.getfield 80, 3) := by decide +kernel
theorem dX4_play_91 : decode cX4_play 91 = .ok (.invokevirtual 116, 3) := by decide +kernel
theorem dX4_play_94 : decode cX4_play 94 = .ok (.aload_n 0, 1) := by decide +kernel
theorem dX4_play_95 : decode cX4_play 95 = .ok (.dup, 1) := by decide +kernel
theorem dX4_play_96 : decode cX4_play 96 = .ok (.getfield 80, 3) := by decide +kernel
theorem dX4_play_99 : decode cX4_play 99 = .ok (.iconst 1, 1) := by decide +kernel
theorem dX4_play_100 : decode cX4_play 100 = .ok (.iadd, 1) := by decide +kernel
theorem dX4_play_101 : decode cX4_play 101 = .ok (.putfield 80, 3) := by decide +kernel
theorem dX4_play_104 : decode cX4_play 104 = .ok (.aload_n 0, 1) := by decide +kernel
theorem dX4_play_105 : decode cX4_play 105 = .ok (.aload_n 0, 1) := by decide +kernel
theorem dX4_play_106 : decode cX4_play 106 = .ok (.getfield 80, 3) := by decide +kernel
theorem dX4_play_109 : decode cX4_play 109 = .ok (.invokevirtual 119, 3) := by decide +kernel
theorem dX4_play_112 : decode cX4_play 112 = .ok (.aload_n 0, 1) := by decide +kernel
theorem dX4_play_113 : decode cX4_play 113 = .ok (.aload_n 0, 1) := by decide +kernel
theorem dX4_play_114 : decode cX4_play 114 = .ok (.getfield 80, 3) := by decide +kernel
theorem dX4_play_117 : decode cX4_play 117 = .ok (.iconst 1, 1) := by decide +kernel
theorem dX4_play_118 : decode cX4_play 118 = .ok (.isub, 1) := by decide +kernel
theorem dX4_play_119 : decode cX4_play 119 = .ok (.invokevirtual 119, 3) := by decide +kernel
theorem dX4_play_122 : decode cX4_play 122 = .ok (.isub, 1) := by decide +kernel
theorem dX4_play_123 : decode cX4_play 123 = .ok (.ireturn, 1) := by decide +kernel
theorem dX4_played_0 : decode cX4_played 0 = .ok (.aload_n 0, 1) := by decide +kernel
theorem dX4_played_1 : decode cX4_played 1 = .ok (.iconst 0, 1) := by decide +kernel
theorem dX4_played_2 : decode cX4_played 2 = .ok (.putfield 61, 3) := by decide +kernel
theorem dX4_played_5 : decode cX4_played 5 = .ok (.aload_n 0, 1) := by decide +kernel
theorem dX4_played_6 : decode cX4_played 6 = .ok (.getfield 80, 3) := by decide +kernel
theorem dX4_played_9 : decode cX4_played 9 = .ok (.ireturn, 1) := by decide +kernel
set_option maxRecDepth 20000 in
theorem ggX4_again_X4_playTurn : GoodIn wsX4_again wsX4_playTurn := goodIn_r _ [11, 2, 12, 1, 4, 13, 6, 14, 15, 16, 17, 18, 19, 10, 20, 21, 22, 23, 24, 25, 26, 27, 28, 29, 30, 31, 32, 33, 34, 35, 36, 37, 38, 39, 40, 41, 42, 43, 44, 45, 46, 47, 48, 49, 50, 51, 52, 53, 54, 55, 56, 57, 58, 59, 60, 61, 62, 63, 64, 65, 66, 67, 68, 69, 70, 71, 72, 73, 74, 75] (by decide +kernel) (by decide +kernel)
set_option maxRecDepth 20000 in
theorem gX4_again_X4_playTurn : GoodIn wsX4_again (wsV RX4 116 RX4 yX4_playTurn wsX4_playTurn) := goodIn_app (goodIn_of _ (by decide +kernel)) ggX4_again_X4_playTurn
theorem dX4_again_0 : decode cX4_again 0 = .ok (.iconst 0, 1) := by decide +kernel
theorem dX4_again_1 : decode cX4_again 1 = .ok (.istore_n 3, 1) := by decide +kernel
theorem dX4_again_2 : decode cX4_again 2 = .ok (.aload_n 0, 1) := by decide +kernel
theorem dX4_again_3 : decode cX4_again 3 = .ok (.getfield 31, 3) := by decide +kernel
theorem dX4_again_6 : decode cX4_again 6 = .ok (.iload_n 1, 1) := by decide +kernel
theorem dX4_again_7 : decode cX4_again 7 = .ok (.iload_n 2, 1) := by decide +kernel
theorem dX4_again_8 : decode cX4_again 8 = .ok (.iastore, 1) := by decide +kernel
theorem dX4_again_9 : decode cX4_again 9 = .ok (.iconst 0, 1) := by decide +kernel
theorem dX4_again_10 : decode cX4_again 10 = .ok (.istore 4, 2) := by decide +kernel
theorem dX4_again_12 : decode cX4_again 12 = .ok (.iload 4, 2) := by decide +kernel
theorem dX4_again_14 : decode cX4_again 14 = .ok (.aload_n 0, 1) := by decide +kernel
theorem dX4_again_15 : decode cX4_again 15 = .ok (.getfield 69, 3) := by decide +kernel
theorem dX4_again_18 : decode cX4_again 18 = .ok (.if_icmp .ge 50, 3) := by decide +kernel
theorem dX4_again_21 : decode cX4_again 21 = .ok (.aload_n 0, 1) := by decide +kernel
theorem dX4_again_22 : decode cX4_again 22 = .ok (.getfield 58, 3) := by decide +kernel
theorem dX4_again_25 : decode cX4_again 25 = .ok (.iload 4, 2) := by decide +kernel
theorem dX4_again_27 : decode cX4_again 27 = .ok (.bipush 10, 2) := by decide +kernel
theorem dX4_again_29 : decode cX4_again 29 = .ok (.aload_n 0, 1) := by decide +kernel
theorem dX4_again_30 : decode cX4_again 30 = .ok (.getfield 19, 3) := by decide +kernel
theorem dX4_again_33 : decode cX4_again 33 = .ok (.bipush 12, 2) := by decide +kernel
theorem dX4_again_35 : decode cX4_again 35 = .ok (.aload_n 0, 1) := by decide +kernel
theorem dX4_again_36 : decode cX4_again 36 = .ok (.getfield 80, 3) := by decide +kernel
theorem dX4_again_39 : decode cX4_again 39 = .ok (.imul, 1) := by decide +kernel
theorem dX4_again_40 : decode cX4_again 40 = .ok (.iload 4, 2) := by decide +kernel
theorem dX4_again_42 : decode cX4_again 42 = .ok (.iadd, 1) := by decide +kernel
theorem dX4_again_43 : decode cX4_again 43 = .ok (.iaload, 1) := by decide +kernel
theorem dX4_again_44 : decode cX4_again 44 = .ok (.imul, 1) := by decide +kernel
theorem dX4_again_45 : decode cX4_again 45 = .ok (.aload_n 0, 1) := by decide +kernel
theorem dX4_again_46 : decode cX4_again 46 = .ok (.getfield 22, 3) := by decide +kernel
theorem dX4_again_49 : decode cX4_again 49 = .ok (.bipush 12, 2) := by decide +kernel
theorem dX4_again_51 : decode cX4_again 51 = .ok (.aload_n 0, 1) := by decide +kernel
theorem dX4_again_52 : decode cX4_again 52 = .ok (.getfield 80, 3) := by decide +kernel
theorem dX4_again_55 : decode cX4_again 55 = .ok (.imul, 1) := by decide +kernel
theorem dX4_again_56 : decode cX4_again 56 = .ok (.iload 4, 2) := by decide +kernel
theorem dX4_again_58 : decode cX4_again 58 = .ok (.iadd, 1) := by decide +kernel
theorem dX4_again_59 : decode cX4_again 59 = .ok (.iaload, 1) := by decide +kernel
theorem dX4_again_60 : decode cX4_again 60 = .ok (.iadd, 1) := by decide +kernel
theorem dX4_again_61 : decode cX4_again 61 = .ok (.iastore, 1) := by decide +kernel
theorem dX4_again_62 : decode cX4_again 62 = .ok (.iinc 4 1, 3) := by decide +kernel
theorem dX4_again_65 : decode cX4_again 65 = .ok (.goto (-53), 3) := by decide +kernel
theorem dX4_again_68 : decode cX4_again 68 = .ok (.iload_n 1, 1) := by decide +kernel
theorem dX4_again_69 : decode cX4_again 69 = .ok (.istore 4, 2) := by decide +kernel
theorem dX4_again_71 : decode cX4_again 71 = .ok (.iload 4, 2) := by decide +kernel
theorem dX4_again_73 : decode cX4_again 73 = .ok (.aload_n 0, 1) := by decide +kernel
theorem dX4_again_74 : decode cX4_again 74 = .ok (.getfield 80, 3) := by decide +kernel
theorem dX4_again_77 : decode cX4_again 77 = .ok (.if_icmp .ge 15, 3) := by decide +kernel
theorem dX4_again_80 : decode cX4_again 80 = .ok (.aload_n 0, 1) := by decide +kernel
theorem dX4_again_81 : decode cX4_again 81 = .ok (.iload 4, 2) := by decide +kernel
theorem dX4_again_83 : decode cX4_again 83 = .ok (.invokevirtual 116, 3) := by decide +kernel
theorem dX4_again_86 : decode cX4_again 86 = .ok (.iinc 4 1, 3) := by decide +kernel
theorem dX4_again_89 : decode cX4_again 89 = .ok (.goto (-18), 3) := by decide +kernel
theorem dX4_again_92 : decode cX4_again 92 = .ok (.iconst 0, 1) := by decide +kernel
theorem dX4_again_93 : decode cX4_again 93 = .ok (.istore 4, 2) := by decide +kernel
theorem dX4_again_95 : decode cX4_again 95 = .ok (.iload 4, 2) := by decide +kernel
theorem dX4_again_97 : decode cX4_again 97 = .ok (.aload_n 0, 1) := by decide +kernel
theorem dX4_again_98 : decode cX4_again 98 = .ok (.getfield 69, 3) := by decide +kernel
theorem dX4_again_101 : decode cX4_again 101 = .ok (.if_icmp .ge 61, 3) := by decide +kernel
theorem dX4_again_104 : decode cX4_again 104 = .ok (.iload_n 3, 1) := by decide +kernel
theorem dX4_again_105 : decode cX4_again 105 = .ok (.aload_n 0, 1) := by decide +kernel
theorem dX4_again_106 : decode cX4_again 106 = .ok (.getfield 58, 3) := by decide +kernel
theorem dX4_again_109 : decode cX4_again 109 = .ok (.iload 4, 2) := by decide +kernel
theorem dX4_again_111 : decode cX4_again 111 = .ok (.iaload, 1) := by decide +kernel
theorem dX4_again_112 : decode cX4_again 112 = .ok (.bipush 10, 2) := by decide +kernel
theorem dX4_again_114 : decode cX4_again 114 = .ok (.aload_n 0, 1) := by decide +kernel
theorem dX4_again_115 : decode cX4_again 115 = .ok (.getfield 19, 3) := by decide +kernel
theorem dX4_again_118 : decode cX4_again 118 = .ok (.bipush 12, 2) := by decide +kernel
theorem dX4_again_120 : decode cX4_again 120 = .ok (.aload_n 0, 1) := by decide +kernel
theorem dX4_again_121 : decode cX4_again 121 = .ok (.getfield 80, 3) := by decide +kernel
theorem dX4_again_124 : decode cX4_again 124 = .ok (.imul, 1) := by decide +kernel
theorem dX4_again_125 : decode cX4_again 125 = .ok (.iload 4, 2) := by decide +kernel
theorem dX4_again_127 : decode cX4_again 127 = .ok (.iadd, 1) := by decide +kernel
theorem dX4_again_128 : decode cX4_again 128 = .ok (.iaload, 1) := by decide +kernel
theorem dX4_again_129 : decode cX4_again 129 = .ok (.imul, 1) := by decide +kernel
theorem dX4_again_130 : decode cX4_again 130 = .ok (.aload_n 0, 1) := by decide +kernel
theorem dX4_again_131 : decode cX4_again 131 = .ok (.getfield 22, 3) := by decide +kernel
theorem dX4_again_134 : decode cX4_again 134 = .ok (.bipush 12, 2) := by decide +kernel
theorem dX4_again_136 : decode cX4_again 136 = .ok (.aload_n 0, 1) := by decide +kernel
theorem dX4_again_137 : decode cX4_again 137 = .ok (.getfield 80, 3) := by decide +kernel
theorem dX4_again_140 : decode cX4_again 140 = .ok (.imul, 1) := by decide +kernel
theorem dX4_again_141 : decode cX4_again 141 = .ok (.iload 4, 2) := by decide +kernel
theorem dX4_again_143 : decode cX4_again 143 = .ok (.iadd, 1) := by decide +kernel
theorem dX4_again_144 : decode cX4_again 144 = .ok (.iaload, 1) := by decide +kernel
theorem dX4_again_145 : decode cX4_again 145 = .ok (.iadd, 1) := by decide +kernel
theorem dX4_again_146 : decode cX4_again 146 = .ok (.if_icmp .ne 7, 3) := by decide +kernel
theorem dX4_again_149 : decode cX4_again 149 = .ok (.iconst 0, 1) := by decide +kernel
theorem dX4_again_150 : decode cX4_again 150 = .ok (.goto 4, 3) := by decide +kernel
theorem dX4_again_153 : decode cX4_again 153 = .ok (.iconst 1, 1) := by decide +kernel
theorem dX4_again_154 : decode cX4_again 154 = .ok (.iadd, 1) := by decide +kernel
theorem dX4_again_155 : decode cX4_again 155 = .ok (.istore_n 3, 1) := by decide +kernel
theorem dX4_again_156 : decode cX4_again 156 = .ok (.iinc 4 1, 3) := by decide +kernel
theorem dX4_again_159 : decode cX4_again 159 = .ok (.goto (-64), 3) := by decide +kernel
theorem dX4_again_162 : decode cX4_again 162 = .ok (.iload_n 3, 1) := by decide +kernel
theorem dX4_again_163 : decode cX4_again 163 = .ok (.ireturn, 1) := by decide +kernel
set_option maxRecDepth 20000 in
theorem ggX4_rule_X4_in : GoodIn wsX4_rule wsX4_in := goodIn_r _ [10] (by decide +kernel) (by decide +kernel)
set_option maxRecDepth 20000 in
theorem gX4_rule_X4_in : GoodIn wsX4_rule (va_wsS RX4 65 yX4_in wsX4_in) := goodIn_app (goodIn_of _ (by decide +kernel)) ggX4_rule_X4_in
set_option maxRecDepth 20000 in
theorem ggX4_rule_X4_fails : GoodIn wsX4_rule wsX4_fails := goodIn_r _ [14, 1, 69, 70, 71, 72, 73, 74, 75, 76, 77, 78, 79, 80, 81, 82, 83, 84, 85, 86, 87, 88, 89, 90] (by decide +kernel) (by decide +kernel)
set_option maxRecDepth 20000 in
theorem gX4_rule_X4_fails : GoodIn wsX4_rule (wsV RX4 76 RX4 yX4_fails wsX4_fails) := goodIn_app (goodIn_of _ (by decide +kernel)) ggX4_rule_X4_fails
set_option maxRecDepth 20000 in
theorem ggX4_rule_X4_again : GoodIn wsX4_rule wsX4_again := goodIn_r _ [18, 6, 19, 20, 21, 2, 22, 23, 24, 25, 9, 26, 27, 28, 29, 30, 31, 32, 33, 34, 35, 36, 37, 38, 39, 40, 41, 42, 43, 44, 45, 46, 47, 48, 49, 50, 51, 52, 53, 54, 55, 56, 57, 58, 59, 60, 61, 62, 63, 64, 65, 66, 67, 68, 69, 70, 71, 72, 73, 74, 75, 76, 77, 78, 79, 80, 81, 82, 83, 84, 85, 86, 87, 88, 89, 90] (by decide +kernel) (by decide +kernel)
set_option maxRecDepth 20000 in
theorem gX4_rule_X4_again : GoodIn wsX4_rule (wsV RX4 125 RX4 yX4_again wsX4_again) := goodIn_app (goodIn_of _ (by decide +kernel)) ggX4_rule_X4_again
theorem dX4_rule_0 : decode cX4_rule 0 = .ok (.aload_n 0, 1) := by decide +kernel
theorem dX4_rule_1 : decode cX4_rule 1 = .ok (.iconst 0, 1) := by decide +kernel
theorem dX4_rule_2 : decode cX4_rule 2 = .ok (.putfield 61, 3) := by decide +kernel
theorem dX4_rule_5 : decode cX4_rule 5 = .ok (.iload_n 1, 1) := by decide +kernel
theorem dX4_rule_6 : decode cX4_rule 6 = .ok (.iconst 0, 1) := by decide +kernel
theorem dX4_rule_7 : decode cX4_rule 7 = .ok (.aload_n 0, 1) := by decide +kernel
theorem dX4_rule_8 : decode cX4_rule 8 = .ok (.getfield 80, 3) := by decide +kernel
theorem dX4_rule_11 : decode cX4_rule 11 = .ok (.iconst 1, 1) := by decide +kernel
theorem dX4_rule_12 : decode cX4_rule 12 = .ok (.isub, 1) := by decide +kernel
theorem dX4_rule_13 : decode cX4_rule 13 = .ok (.invokestatic 65, 3) := by decide +kernel
theorem dX4_rule_16 : decode cX4_rule 16 = .ok (.ifCond .ne 9, 3) := by decide +kernel
theorem dX4_rule_19 : decode cX4_rule 19 = .ok (.aload_n 0, 1) := by decide +kernel
theorem dX4_rule_20 : decode cX4_rule 20 = .ok (.iconst 1, 1) := by decide +kernel
theorem dX4_rule_21 : decode cX4_rule 21 = .ok (.invokevirtual 76, 3) := by decide +kernel
theorem dX4_rule_24 : decode cX4_rule 24 = .ok (.ireturn, 1) := by decide +kernel
theorem dX4_rule_25 : decode cX4_rule 25 = .ok (.iload_n 2, 1) := by decide +kernel
theorem dX4_rule_26 : decode cX4_rule 26 = .ok (.iconst 0, 1) := by decide +kernel
theorem dX4_rule_27 : decode cX4_rule 27 = .ok (.iconst 2, 1) := by decide +kernel
theorem dX4_rule_28 : decode cX4_rule 28 = .ok (.invokestatic 65, 3) := by decide +kernel
theorem dX4_rule_31 : decode cX4_rule 31 = .ok (.ifCond .ne 9, 3) := by decide +kernel
theorem dX4_rule_34 : decode cX4_rule 34 = .ok (.aload_n 0, 1) := by decide +kernel
theorem dX4_rule_35 : decode cX4_rule 35 = .ok (.iconst 2, 1) := by decide +kernel
theorem dX4_rule_36 : decode cX4_rule 36 = .ok (.invokevirtual 76, 3) := by decide +kernel
theorem dX4_rule_39 : decode cX4_rule 39 = .ok (.ireturn, 1) := by decide +kernel
theorem dX4_rule_40 : decode cX4_rule 40 = .ok (.aload_n 0, 1) := by decide +kernel
theorem dX4_rule_41 : decode cX4_rule 41 = .ok (.getfield 37, 3) := by decide +kernel
theorem dX4_rule_44 : decode cX4_rule 44 = .ok (.aload_n 0, 1) := by decide +kernel
theorem dX4_rule_45 : decode cX4_rule 45 = .ok (.getfield 122, 3) := by decide +kernel
theorem dX4_rule_48 : decode cX4_rule 48 = .ok (.iload_n 1, 1) := by decide +kernel
theorem dX4_rule_49 : decode cX4_rule 49 = .ok (.iastore, 1) := by decide +kernel
theorem dX4_rule_50 : decode cX4_rule 50 = .ok (.aload_n 0, 1) := by decide +kernel
theorem dX4_rule_51 : decode cX4_rule 51 = .ok (.getfield 40, 3) := by decide +kernel
theorem dX4_rule_54 : decode cX4_rule 54 = .ok (.aload_n 0, 1) := by decide +kernel
theorem dX4_rule_55 : decode cX4_rule 55 = .ok (.getfield 122, 3) := by decide +kernel
theorem dX4_rule_58 : decode cX4_rule 58 = .ok (.aload_n 0, 1) := by decide +kernel
theorem dX4_rule_59 : decode cX4_rule 59 = .ok (.getfield 31, 3) := by decide +kernel
theorem dX4_rule_62 : decode cX4_rule 62 = .ok (.iload_n 1, 1) := by decide +kernel
theorem dX4_rule_63 : decode cX4_rule 63 = .ok (.iaload, 1) := by decide +kernel
theorem dX4_rule_64 : decode cX4_rule 64 = .ok (.iastore, 1) := by decide +kernel
theorem dX4_rule_65 : decode cX4_rule 65 = .ok (.aload_n 0, 1) := by decide +kernel
theorem dX4_rule_66 : decode cX4_rule 66 = .ok (.dup, 1) := by decide +kernel
theorem dX4_rule_67 : decode cX4_rule 67 = .ok (.getfield 122, 3) := by decide +kernel
theorem dX4_rule_70 : decode cX4_rule 70 = .ok (.iconst 1, 1) := by decide +kernel
theorem dX4_rule_71 : decode cX4_rule 71 = .ok (.iadd, 1) := by decide +kernel
theorem dX4_rule_72 : decode cX4_rule 72 = .ok (.putfield 122, 3) := by decide +kernel
theorem dX4_rule_75 : decode cX4_rule 75 = .ok (.aload_n 0, 1) := by decide +kernel
theorem dX4_rule_76 : decode cX4_rule 76 = .ok (.iload_n 1, 1) := by decide +kernel
theorem dX4_rule_77 : decode cX4_rule 77 = .ok (.iload_n 2, 1) := by decide +kernel
theorem dX4_rule_78 : decode cX4_rule 78 = .ok (.invokevirtual 125, 3) := by decide +kernel
theorem dX4_rule_81 : decode cX4_rule 81 = .ok (.ireturn, 1) := by decide +kernel
set_option maxRecDepth 20000 in
theorem ggX4_appeal_X4_fails : GoodIn wsX4_appeal wsX4_fails := goodIn_r _ [9, 1, 66, 67, 68, 69, 70, 71, 72, 73, 74, 75, 76, 77, 78, 79, 80, 81, 82, 83, 84, 85, 86, 87] (by decide +kernel) (by decide +kernel)
set_option maxRecDepth 20000 in
theorem gX4_appeal_X4_fails : GoodIn wsX4_appeal (wsV RX4 76 RX4 yX4_fails wsX4_fails) := goodIn_app (goodIn_of _ (by decide +kernel)) ggX4_appeal_X4_fails
set_option maxRecDepth 20000 in
theorem ggX4_appeal_X4_again : GoodIn wsX4_appeal wsX4_again := goodIn_r _ [13, 14, 15, 16, 17, 18, 19, 20, 21, 22, 8, 23, 24, 25, 26, 27, 28, 29, 30, 31, 32, 33, 34, 35, 36, 37, 38, 39, 40, 41, 42, 43, 44, 45, 46, 47, 48, 49, 50, 51, 52, 53, 54, 55, 56, 57, 58, 59, 60, 61, 62, 63, 64, 65, 66, 67, 68, 69, 70, 71, 72, 73, 74, 75, 76, 77, 78, 79, 80, 81, 82, 83, 84, 85, 86, 87] (by decide +kernel) (by decide +kernel)
set_option maxRecDepth 20000 in
theorem gX4_appeal_X4_again : GoodIn wsX4_appeal (wsV RX4 125 RX4 yX4_again wsX4_again) := goodIn_app (goodIn_of _ (by decide +kernel)) ggX4_appeal_X4_again
theorem dX4_appeal_0 : decode cX4_appeal 0 = .ok (.aload_n 0, 1) := by decide +kernel
theorem dX4_appeal_1 : decode cX4_appeal 1 = .ok (.iconst 0, 1) := by decide +kernel
theorem dX4_appeal_2 : decode cX4_appeal 2 = .ok (.putfield 61, 3) := by decide +kernel
theorem dX4_appeal_5 : decode cX4_appeal 5 = .ok (.aload_n 0, 1) := by decide +kernel
theorem dX4_appeal_6 : decode cX4_appeal 6 = .ok (.getfield 122, 3) := by decide +kernel
theorem dX4_appeal_9 : decode cX4_appeal 9 = .ok (.ifCond .ne 9, 3) := by decide +kernel
theorem dX4_appeal_12 : decode cX4_appeal 12 = .ok (.aload_n 0, 1) := by decide +kernel
theorem dX4_appeal_13 : decode cX4_appeal 13 = .ok (.iconst 1, 1) := by decide +kernel
theorem dX4_appeal_14 : decode cX4_appeal 14 = .ok (.invokevirtual 76, 3) := by decide +kernel
theorem dX4_appeal_17 : decode cX4_appeal 17 = .ok (.ireturn, 1) := by decide +kernel
theorem dX4_appeal_18 : decode cX4_appeal 18 = .ok (.aload_n 0, 1) := by decide +kernel
theorem dX4_appeal_19 : decode cX4_appeal 19 = .ok (.dup, 1) := by decide +kernel
theorem dX4_appeal_20 : decode cX4_appeal 20 = .ok (.getfield 122, 3) := by decide +kernel
theorem dX4_appeal_23 : decode cX4_appeal 23 = .ok (.iconst 1, 1) := by decide +kernel
theorem dX4_appeal_24 : decode cX4_appeal 24 = .ok (.isub, 1) := by decide +kernel
theorem dX4_appeal_25 : decode cX4_appeal 25 = .ok (.putfield 122, 3) := by decide +kernel
theorem dX4_appeal_28 : decode cX4_appeal 28 = .ok (.aload_n 0, 1) := by decide +kernel
theorem dX4_appeal_29 : decode cX4_appeal 29 = .ok (.aload_n 0, 1) := by decide +kernel
theorem dX4_appeal_30 : decode cX4_appeal 30 = .ok (.getfield 37, 3) := by decide +kernel
theorem dX4_appeal_33 : decode cX4_appeal 33 = .ok (.aload_n 0, 1) := by decide +kernel
theorem dX4_appeal_34 : decode cX4_appeal 34 = .ok (.getfield 122, 3) := by decide +kernel
theorem dX4_appeal_37 : decode cX4_appeal 37 = .ok (.iaload, 1) := by decide +kernel
theorem dX4_appeal_38 : decode cX4_appeal 38 = .ok (.aload_n 0, 1) := by decide +kernel
theorem dX4_appeal_39 : decode cX4_appeal 39 = .ok (.getfield 40, 3) := by decide +kernel
theorem dX4_appeal_42 : decode cX4_appeal 42 = .ok (.aload_n 0, 1) := by decide +kernel
theorem dX4_appeal_43 : decode cX4_appeal 43 = .ok (.getfield 122, 3) := by decide +kernel
theorem dX4_appeal_46 : decode cX4_appeal 46 = .ok (.iaload, 1) := by decide +kernel
theorem dX4_appeal_47 : decode cX4_appeal 47 = .ok (.invokevirtual 125, 3) := by decide +kernel
theorem dX4_appeal_50 : decode cX4_appeal 50 = .ok (.pop, 1) := by decide +kernel
theorem dX4_appeal_51 : decode cX4_appeal 51 = .ok (.aload_n 0, 1) := by decide +kernel
theorem dX4_appeal_52 : decode cX4_appeal 52 = .ok (.getfield 37, 3) := by decide +kernel
theorem dX4_appeal_55 : decode cX4_appeal 55 = .ok (.aload_n 0, 1) := by decide +kernel
theorem dX4_appeal_56 : decode cX4_appeal 56 = .ok (.getfield 122, 3) := by decide +kernel
theorem dX4_appeal_59 : decode cX4_appeal 59 = .ok (.iaload, 1) := by decide +kernel
theorem dX4_appeal_60 : decode cX4_appeal 60 = .ok (.ireturn, 1) := by decide +kernel
set_option maxRecDepth 20000 in
theorem ggX4_townOf_X4_isUnit : GoodIn wsX4_townOf wsX4_isUnit := goodIn_r _ [8, 9, 10, 11, 7, 12, 17, 18, 19, 20, 21, 22, 23, 24, 25, 26, 27, 28, 29, 30, 31, 32, 33, 34, 35, 36, 37, 38] (by decide +kernel) (by decide +kernel)
set_option maxRecDepth 20000 in
theorem gX4_townOf_X4_isUnit : GoodIn wsX4_townOf (wsV RX4 94 RX4 yX4_isUnit wsX4_isUnit) := goodIn_app (goodIn_of _ (by decide +kernel)) ggX4_townOf_X4_isUnit
set_option maxRecDepth 20000 in
theorem ggX4_townOf_X4_fails : GoodIn wsX4_townOf wsX4_fails := goodIn_r _ [16, 1, 17, 18, 19, 20, 21, 22, 23, 24, 25, 26, 27, 28, 29, 30, 31, 32, 33, 34, 35, 36, 37, 38] (by decide +kernel) (by decide +kernel)
set_option maxRecDepth 20000 in
theorem gX4_townOf_X4_fails : GoodIn wsX4_townOf (wsV RX4 76 RX4 yX4_fails wsX4_fails) := goodIn_app (goodIn_of _ (by decide +kernel)) ggX4_townOf_X4_fails
theorem dX4_townOf_0 : decode cX4_townOf 0 = .ok (.aload_n 0, 1) := by decide +kernel
theorem dX4_townOf_1 : decode cX4_townOf 1 = .ok (.iconst 0, 1) := by decide +kernel
theorem dX4_townOf_2 : decode cX4_townOf 2 = .ok (.putfield 61, 3) := by decide +kernel
theorem dX4_townOf_5 : decode cX4_townOf 5 = .ok (.aload_n 0, 1) := by decide +kernel
theorem dX4_townOf_6 : decode cX4_townOf 6 = .ok (.iload_n 1, 1) := by decide +kernel
theorem dX4_townOf_7 : decode cX4_townOf 7 = .ok (.invokevirtual 94, 3) := by decide +kernel
theorem dX4_townOf_10 : decode cX4_townOf 10 = .ok (.ifCond .eq 20, 3) := by decide +kernel
theorem dX4_townOf_13 : decode cX4_townOf 13 = .ok (.aload_n 0, 1) := by decide +kernel
theorem dX4_townOf_14 : decode cX4_townOf 14 = .ok (.getfield 19, 3) := by decide +kernel
theorem dX4_townOf_17 : decode cX4_townOf 17 = .ok (.bipush 12, 2) := by decide +kernel
theorem dX4_townOf_19 : decode cX4_townOf 19 = .ok (.aload_n 0, 1) := by decide +kernel
theorem dX4_townOf_20 : decode cX4_townOf 20 = .ok (.getfield 80, 3) := by decide +kernel
theorem dX4_townOf_23 : decode cX4_townOf 23 = .ok (.imul, 1) := by decide +kernel
theorem dX4_townOf_24 : decode cX4_townOf 24 = .ok (.iload_n 1, 1) := by decide +kernel
theorem dX4_townOf_25 : decode cX4_townOf 25 = .ok (.iadd, 1) := by decide +kernel
theorem dX4_townOf_26 : decode cX4_townOf 26 = .ok (.iaload, 1) := by decide +kernel
theorem dX4_townOf_27 : decode cX4_townOf 27 = .ok (.goto 8, 3) := by decide +kernel
theorem dX4_townOf_30 : decode cX4_townOf 30 = .ok (.aload_n 0, 1) := by decide +kernel
theorem dX4_townOf_31 : decode cX4_townOf 31 = .ok (.iconst 1, 1) := by decide +kernel
theorem dX4_townOf_32 : decode cX4_townOf 32 = .ok (.invokevirtual 76, 3) := by decide +kernel
theorem dX4_townOf_35 : decode cX4_townOf 35 = .ok (.ireturn, 1) := by decide +kernel
set_option maxRecDepth 20000 in
theorem ggX4_strength_X4_isUnit : GoodIn wsX4_strength wsX4_isUnit := goodIn_r _ [8, 9, 10, 11, 7, 12, 17, 18, 19, 20, 21, 22, 23, 24, 25, 26, 27, 28, 29, 30, 31, 32, 33, 34, 35, 36, 37, 38] (by decide +kernel) (by decide +kernel)
set_option maxRecDepth 20000 in
theorem gX4_strength_X4_isUnit : GoodIn wsX4_strength (wsV RX4 94 RX4 yX4_isUnit wsX4_isUnit) := goodIn_app (goodIn_of _ (by decide +kernel)) ggX4_strength_X4_isUnit
set_option maxRecDepth 20000 in
theorem ggX4_strength_X4_fails : GoodIn wsX4_strength wsX4_fails := goodIn_r _ [16, 1, 17, 18, 19, 20, 21, 22, 23, 24, 25, 26, 27, 28, 29, 30, 31, 32, 33, 34, 35, 36, 37, 38] (by decide +kernel) (by decide +kernel)
set_option maxRecDepth 20000 in
theorem gX4_strength_X4_fails : GoodIn wsX4_strength (wsV RX4 76 RX4 yX4_fails wsX4_fails) := goodIn_app (goodIn_of _ (by decide +kernel)) ggX4_strength_X4_fails
theorem dX4_strength_0 : decode cX4_strength 0 = .ok (.aload_n 0, 1) := by decide +kernel
theorem dX4_strength_1 : decode cX4_strength 1 = .ok (.iconst 0, 1) := by decide +kernel
theorem dX4_strength_2 : decode cX4_strength 2 = .ok (.putfield 61, 3) := by decide +kernel
theorem dX4_strength_5 : decode cX4_strength 5 = .ok (.aload_n 0, 1) := by decide +kernel
theorem dX4_strength_6 : decode cX4_strength 6 = .ok (.iload_n 1, 1) := by decide +kernel
theorem dX4_strength_7 : decode cX4_strength 7 = .ok (.invokevirtual 94, 3) := by decide +kernel
theorem dX4_strength_10 : decode cX4_strength 10 = .ok (.ifCond .eq 20, 3) := by decide +kernel
theorem dX4_strength_13 : decode cX4_strength 13 = .ok (.aload_n 0, 1) := by decide +kernel
theorem dX4_strength_14 : decode cX4_strength 14 = .ok (.getfield 22, 3) := by decide +kernel
theorem dX4_strength_17 : decode cX4_strength 17 = .ok (.bipush 12, 2) := by decide +kernel
theorem dX4_strength_19 : decode cX4_strength 19 = .ok (.aload_n 0, 1) := by decide +kernel
theorem dX4_strength_20 : decode cX4_strength 20 = .ok (.getfield 80, 3) := by decide +kernel
theorem dX4_strength_23 : decode cX4_strength 23 = .ok (.imul, 1) := by decide +kernel
theorem dX4_strength_24 : decode cX4_strength 24 = .ok (.iload_n 1, 1) := by decide +kernel
theorem dX4_strength_25 : decode cX4_strength 25 = .ok (.iadd, 1) := by decide +kernel
theorem dX4_strength_26 : decode cX4_strength 26 = .ok (.iaload, 1) := by decide +kernel
theorem dX4_strength_27 : decode cX4_strength 27 = .ok (.goto 8, 3) := by decide +kernel
theorem dX4_strength_30 : decode cX4_strength 30 = .ok (.aload_n 0, 1) := by decide +kernel
theorem dX4_strength_31 : decode cX4_strength 31 = .ok (.iconst 1, 1) := by decide +kernel
theorem dX4_strength_32 : decode cX4_strength 32 = .ok (.invokevirtual 76, 3) := by decide +kernel
theorem dX4_strength_35 : decode cX4_strength 35 = .ok (.ireturn, 1) := by decide +kernel
set_option maxRecDepth 20000 in
theorem ggX4_supply_X4_isUnit : GoodIn wsX4_supply wsX4_isUnit := goodIn_r _ [7, 8, 9, 10, 6, 11, 40, 41, 42, 43, 44, 45, 46, 47, 48, 49, 50, 51, 52, 53, 54, 55, 56, 57, 58, 59, 60, 61] (by decide +kernel) (by decide +kernel)
set_option maxRecDepth 20000 in
theorem gX4_supply_X4_isUnit : GoodIn wsX4_supply (wsV RX4 94 RX4 yX4_isUnit wsX4_isUnit) := goodIn_app (goodIn_of _ (by decide +kernel)) ggX4_supply_X4_isUnit
set_option maxRecDepth 20000 in
theorem ggX4_supply_X4_fails : GoodIn wsX4_supply wsX4_fails := goodIn_r _ [15, 1, 40, 41, 42, 43, 44, 45, 46, 47, 48, 49, 50, 51, 52, 53, 54, 55, 56, 57, 58, 59, 60, 61] (by decide +kernel) (by decide +kernel)
set_option maxRecDepth 20000 in
theorem gX4_supply_X4_fails : GoodIn wsX4_supply (wsV RX4 76 RX4 yX4_fails wsX4_fails) := goodIn_app (goodIn_of _ (by decide +kernel)) ggX4_supply_X4_fails
set_option maxRecDepth 20000 in
theorem ggX4_supply_X4_in : GoodIn wsX4_supply wsX4_in := goodIn_r _ [11] (by decide +kernel) (by decide +kernel)
set_option maxRecDepth 20000 in
theorem gX4_supply_X4_in : GoodIn wsX4_supply (va_wsS RX4 65 yX4_in wsX4_in) := goodIn_app (goodIn_of _ (by decide +kernel)) ggX4_supply_X4_in
set_option maxRecDepth 20000 in
theorem ggX4_supply_X4_take : GoodIn wsX4_supply wsX4_take := goodIn_r _ [19, 8, 20, 21, 22, 23, 40, 41, 42, 43, 44, 45, 46, 47, 48, 49, 50, 51, 52, 53, 54, 55, 56, 57, 58, 59, 60, 61] (by decide +kernel) (by decide +kernel)
set_option maxRecDepth 20000 in
theorem gX4_supply_X4_take : GoodIn wsX4_supply (wsV RX4 86 RX4 yX4_take wsX4_take) := goodIn_app (goodIn_of _ (by decide +kernel)) ggX4_supply_X4_take
set_option maxRecDepth 20000 in
theorem ggX4_supply_X4_supplyOf : GoodIn wsX4_supply wsX4_supplyOf := goodIn_r _ [27, 28, 29, 20, 30, 31, 32, 33, 6, 34, 8, 35, 36, 37, 38, 39, 40, 41, 42, 43, 44, 45, 46, 47, 48, 49, 50, 51, 52, 53, 54, 55, 56, 57, 58, 59, 60, 61] (by decide +kernel) (by decide +kernel)
set_option maxRecDepth 20000 in
theorem gX4_supply_X4_supplyOf : GoodIn wsX4_supply (wsV RX4 104 RX4 yX4_supplyOf wsX4_supplyOf) := goodIn_app (goodIn_of _ (by decide +kernel)) ggX4_supply_X4_supplyOf
theorem dX4_supply_0 : decode cX4_supply 0 = .ok (.aload_n 0, 1) := by decide +kernel
theorem dX4_supply_1 : decode cX4_supply 1 = .ok (.iconst 0, 1) := by decide +kernel
theorem dX4_supply_2 : decode cX4_supply 2 = .ok (.putfield 61, 3) := by decide +kernel
theorem dX4_supply_5 : decode cX4_supply 5 = .ok (.aload_n 0, 1) := by decide +kernel
theorem dX4_supply_6 : decode cX4_supply 6 = .ok (.iload_n 1, 1) := by decide +kernel
theorem dX4_supply_7 : decode cX4_supply 7 = .ok (.invokevirtual 94, 3) := by decide +kernel
theorem dX4_supply_10 : decode cX4_supply 10 = .ok (.ifCond .ne 9, 3) := by decide +kernel
theorem dX4_supply_13 : decode cX4_supply 13 = .ok (.aload_n 0, 1) := by decide +kernel
theorem dX4_supply_14 : decode cX4_supply 14 = .ok (.iconst 1, 1) := by decide +kernel
theorem dX4_supply_15 : decode cX4_supply 15 = .ok (.invokevirtual 76, 3) := by decide +kernel
theorem dX4_supply_18 : decode cX4_supply 18 = .ok (.ireturn, 1) := by decide +kernel
theorem dX4_supply_19 : decode cX4_supply 19 = .ok (.iload_n 2, 1) := by decide +kernel
theorem dX4_supply_20 : decode cX4_supply 20 = .ok (.iconst 0, 1) := by decide +kernel
theorem dX4_supply_21 : decode cX4_supply 21 = .ok (.iconst 2, 1) := by decide +kernel
theorem dX4_supply_22 : decode cX4_supply 22 = .ok (.invokestatic 65, 3) := by decide +kernel
theorem dX4_supply_25 : decode cX4_supply 25 = .ok (.ifCond .ne 9, 3) := by decide +kernel
theorem dX4_supply_28 : decode cX4_supply 28 = .ok (.aload_n 0, 1) := by decide +kernel
theorem dX4_supply_29 : decode cX4_supply 29 = .ok (.iconst 2, 1) := by decide +kernel
theorem dX4_supply_30 : decode cX4_supply 30 = .ok (.invokevirtual 76, 3) := by decide +kernel
theorem dX4_supply_33 : decode cX4_supply 33 = .ok (.ireturn, 1) := by decide +kernel
theorem dX4_supply_34 : decode cX4_supply 34 = .ok (.aload_n 0, 1) := by decide +kernel
theorem dX4_supply_35 : decode cX4_supply 35 = .ok (.aload_n 0, 1) := by decide +kernel
theorem dX4_supply_36 : decode cX4_supply 36 = .ok (.getfield 80, 3) := by decide +kernel
theorem dX4_supply_39 : decode cX4_supply 39 = .ok (.invokevirtual 86, 3) := by decide +kernel
theorem dX4_supply_42 : decode cX4_supply 42 = .ok (.aload_n 0, 1) := by decide +kernel
theorem dX4_supply_43 : decode cX4_supply 43 = .ok (.iload_n 1, 1) := by decide +kernel
theorem dX4_supply_44 : decode cX4_supply 44 = .ok (.iload_n 2, 1) := by decide +kernel
theorem dX4_supply_45 : decode cX4_supply 45 = .ok (.invokevirtual 104, 3) := by decide +kernel
theorem dX4_supply_48 : decode cX4_supply 48 = .ok (.ireturn, 1) := by decide +kernel
set_option maxRecDepth 20000 in
theorem ggX4_townAfter_X4_isUnit : GoodIn wsX4_townAfter wsX4_isUnit := goodIn_r _ [8, 9, 10, 11, 7, 12, 17, 18, 19, 20, 21, 22, 23, 24, 25, 26, 27, 28, 29, 30, 31, 32, 33, 34, 35, 36, 37, 38] (by decide +kernel) (by decide +kernel)
set_option maxRecDepth 20000 in
theorem gX4_townAfter_X4_isUnit : GoodIn wsX4_townAfter (wsV RX4 94 RX4 yX4_isUnit wsX4_isUnit) := goodIn_app (goodIn_of _ (by decide +kernel)) ggX4_townAfter_X4_isUnit
set_option maxRecDepth 20000 in
theorem ggX4_townAfter_X4_in : GoodIn wsX4_townAfter wsX4_in := goodIn_r _ [12] (by decide +kernel) (by decide +kernel)
set_option maxRecDepth 20000 in
theorem gX4_townAfter_X4_in : GoodIn wsX4_townAfter (va_wsS RX4 65 yX4_in wsX4_in) := goodIn_app (goodIn_of _ (by decide +kernel)) ggX4_townAfter_X4_in
set_option maxRecDepth 20000 in
theorem ggX4_townAfter_X4_fails : GoodIn wsX4_townAfter wsX4_fails := goodIn_r _ [16, 1, 17, 18, 19, 20, 21, 22, 23, 24, 25, 26, 27, 28, 29, 30, 31, 32, 33, 34, 35, 36, 37, 38] (by decide +kernel) (by decide +kernel)
set_option maxRecDepth 20000 in
theorem gX4_townAfter_X4_fails : GoodIn wsX4_townAfter (wsV RX4 76 RX4 yX4_fails wsX4_fails) := goodIn_app (goodIn_of _ (by decide +kernel)) ggX4_townAfter_X4_fails
theorem dX4_townAfter_0 : decode cX4_townAfter 0 = .ok (.aload_n 0, 1) := by decide +kernel
theorem dX4_townAfter_1 : decode cX4_townAfter 1 = .ok (.iconst 0, 1) := by decide +kernel
theorem dX4_townAfter_2 : decode cX4_townAfter 2 = .ok (.putfield 61, 3) := by decide +kernel
theorem dX4_townAfter_5 : decode cX4_townAfter 5 = .ok (.aload_n 0, 1) := by decide +kernel
theorem dX4_townAfter_6 : decode cX4_townAfter 6 = .ok (.iload_n 1, 1) := by decide +kernel
theorem dX4_townAfter_7 : decode cX4_townAfter 7 = .ok (.invokevirtual 94, 3) := by decide +kernel
theorem dX4_townAfter_10 : decode cX4_townAfter 10 = .ok (.ifCond .eq 33, 3) := by decide +kernel
theorem dX4_townAfter_13 : decode cX4_townAfter 13 = .ok (.iload_n 2, 1) := by decide +kernel
theorem dX4_townAfter_14 : decode cX4_townAfter 14 = .ok (.iconst 0, 1) := by decide +kernel
theorem dX4_townAfter_15 : decode cX4_townAfter 15 = .ok (.aload_n 0, 1) := by decide +kernel
theorem dX4_townAfter_16 : decode cX4_townAfter 16 = .ok (.getfield 80, 3) := by decide +kernel
theorem dX4_townAfter_19 : decode cX4_townAfter 19 = .ok (.iconst 1, 1) := by decide +kernel
theorem dX4_townAfter_20 : decode cX4_townAfter 20 = .ok (.isub, 1) := by decide +kernel
theorem dX4_townAfter_21 : decode cX4_townAfter 21 = .ok (.invokestatic 65, 3) := by decide +kernel
theorem dX4_townAfter_24 : decode cX4_townAfter 24 = .ok (.ifCond .eq 19, 3) := by decide +kernel
theorem dX4_townAfter_27 : decode cX4_townAfter 27 = .ok (.aload_n 0, 1) := by decide +kernel
theorem dX4_townAfter_28 : decode cX4_townAfter 28 = .ok (.getfield 19, 3) := by decide +kernel
theorem dX4_townAfter_31 : decode cX4_townAfter 31 = .ok (.bipush 12, 2) := by decide +kernel
theorem dX4_townAfter_33 : decode cX4_townAfter 33 = .ok (.iload_n 2, 1) := by decide +kernel
theorem dX4_townAfter_34 : decode cX4_townAfter 34 = .ok (.iconst 1, 1) := by decide +kernel
theorem dX4_townAfter_35 : decode cX4_townAfter 35 = .ok (.iadd, 1) := by decide +kernel
theorem dX4_townAfter_36 : decode cX4_townAfter 36 = .ok (.imul, 1) := by decide +kernel
theorem dX4_townAfter_37 : decode cX4_townAfter 37 = .ok (.iload_n 1, 1) := by decide +kernel
theorem dX4_townAfter_38 : decode cX4_townAfter 38 = .ok (.iadd, 1) := by decide +kernel
theorem dX4_townAfter_39 : decode cX4_townAfter 39 = .ok (.iaload, 1) := by decide +kernel
theorem dX4_townAfter_40 : decode cX4_townAfter 40 = .ok (.goto 8, 3) := by decide +kernel
theorem dX4_townAfter_43 : decode cX4_townAfter 43 = .ok (.aload_n 0, 1) := by decide +kernel
theorem dX4_townAfter_44 : decode cX4_townAfter 44 = .ok (.iconst 1, 1) := by decide +kernel
theorem dX4_townAfter_45 : decode cX4_townAfter 45 = .ok (.invokevirtual 76, 3) := by decide +kernel
theorem dX4_townAfter_48 : decode cX4_townAfter 48 = .ok (.ireturn, 1) := by decide +kernel
set_option maxRecDepth 20000 in
theorem ggX4_reported_X4_in : GoodIn wsX4_reported wsX4_in := goodIn_r _ [8] (by decide +kernel) (by decide +kernel)
set_option maxRecDepth 20000 in
theorem gX4_reported_X4_in : GoodIn wsX4_reported (va_wsS RX4 65 yX4_in wsX4_in) := goodIn_app (goodIn_of _ (by decide +kernel)) ggX4_reported_X4_in
set_option maxRecDepth 20000 in
theorem ggX4_reported_X4_fails : GoodIn wsX4_reported wsX4_fails := goodIn_r _ [12, 1, 18, 19, 20, 21, 22, 23, 24, 25, 26, 27, 28, 29, 30, 31, 32, 33, 34, 35, 36, 37, 38, 39] (by decide +kernel) (by decide +kernel)
set_option maxRecDepth 20000 in
theorem gX4_reported_X4_fails : GoodIn wsX4_reported (wsV RX4 76 RX4 yX4_fails wsX4_fails) := goodIn_app (goodIn_of _ (by decide +kernel)) ggX4_reported_X4_fails
set_option maxRecDepth 20000 in
theorem ggX4_reported_X4_isUnit : GoodIn wsX4_reported wsX4_isUnit := goodIn_r _ [16, 17, 5, 6, 7, 8, 18, 19, 20, 21, 22, 23, 24, 25, 26, 27, 28, 29, 30, 31, 32, 33, 34, 35, 36, 37, 38, 39] (by decide +kernel) (by decide +kernel)
set_option maxRecDepth 20000 in
theorem gX4_reported_X4_isUnit : GoodIn wsX4_reported (wsV RX4 94 RX4 yX4_isUnit wsX4_isUnit) := goodIn_app (goodIn_of _ (by decide +kernel)) ggX4_reported_X4_isUnit
theorem dX4_reported_0 : decode cX4_reported 0 = .ok (.aload_n 0, 1) := by decide +kernel
theorem dX4_reported_1 : decode cX4_reported 1 = .ok (.iconst 0, 1) := by decide +kernel
theorem dX4_reported_2 : decode cX4_reported 2 = .ok (.putfield 61, 3) := by decide +kernel
theorem dX4_reported_5 : decode cX4_reported 5 = .ok (.iload_n 1, 1) := by decide +kernel
theorem dX4_reported_6 : decode cX4_reported 6 = .ok (.iconst 0, 1) := by decide +kernel
theorem dX4_reported_7 : decode cX4_reported 7 = .ok (.iconst 1, 1) := by decide +kernel
theorem dX4_reported_8 : decode cX4_reported 8 = .ok (.invokestatic 65, 3) := by decide +kernel
theorem dX4_reported_11 : decode cX4_reported 11 = .ok (.ifCond .ne 9, 3) := by decide +kernel
theorem dX4_reported_14 : decode cX4_reported 14 = .ok (.aload_n 0, 1) := by decide +kernel
theorem dX4_reported_15 : decode cX4_reported 15 = .ok (.iconst 1, 1) := by decide +kernel
theorem dX4_reported_16 : decode cX4_reported 16 = .ok (.invokevirtual 76, 3) := by decide +kernel
theorem dX4_reported_19 : decode cX4_reported 19 = .ok (.ireturn, 1) := by decide +kernel
theorem dX4_reported_20 : decode cX4_reported 20 = .ok (.aload_n 0, 1) := by decide +kernel
theorem dX4_reported_21 : decode cX4_reported 21 = .ok (.iload_n 2, 1) := by decide +kernel
theorem dX4_reported_22 : decode cX4_reported 22 = .ok (.invokevirtual 94, 3) := by decide +kernel
theorem dX4_reported_25 : decode cX4_reported 25 = .ok (.ifCond .eq 13, 3) := by decide +kernel
theorem dX4_reported_28 : decode cX4_reported 28 = .ok (.aload_n 0, 1) := by decide +kernel
theorem dX4_reported_29 : decode cX4_reported 29 = .ok (.getfield 16, 3) := by decide +kernel
theorem dX4_reported_32 : decode cX4_reported 32 = .ok (.iload_n 2, 1) := by decide +kernel
theorem dX4_reported_33 : decode cX4_reported 33 = .ok (.iaload, 1) := by decide +kernel
theorem dX4_reported_34 : decode cX4_reported 34 = .ok (.iload_n 1, 1) := by decide +kernel
theorem dX4_reported_35 : decode cX4_reported 35 = .ok (.if_icmp .ne 9, 3) := by decide +kernel
theorem dX4_reported_38 : decode cX4_reported 38 = .ok (.aload_n 0, 1) := by decide +kernel
theorem dX4_reported_39 : decode cX4_reported 39 = .ok (.iconst 2, 1) := by decide +kernel
theorem dX4_reported_40 : decode cX4_reported 40 = .ok (.invokevirtual 76, 3) := by decide +kernel
theorem dX4_reported_43 : decode cX4_reported 43 = .ok (.ireturn, 1) := by decide +kernel
theorem dX4_reported_44 : decode cX4_reported 44 = .ok (.aload_n 0, 1) := by decide +kernel
theorem dX4_reported_45 : decode cX4_reported 45 = .ok (.getfield 80, 3) := by decide +kernel
theorem dX4_reported_48 : decode cX4_reported 48 = .ok (.iconst 3, 1) := by decide +kernel
theorem dX4_reported_49 : decode cX4_reported 49 = .ok (.isub, 1) := by decide +kernel
theorem dX4_reported_50 : decode cX4_reported 50 = .ok (.istore_n 3, 1) := by decide +kernel
theorem dX4_reported_51 : decode cX4_reported 51 = .ok (.iload_n 3, 1) := by decide +kernel
theorem dX4_reported_52 : decode cX4_reported 52 = .ok (.ifCond .lt 36, 3) := by decide +kernel
theorem dX4_reported_55 : decode cX4_reported 55 = .ok (.aload_n 0, 1) := by decide +kernel
theorem dX4_reported_56 : decode cX4_reported 56 = .ok (.getfield 34, 3) := by decide +kernel
theorem dX4_reported_59 : decode cX4_reported 59 = .ok (.bipush 12, 2) := by decide +kernel
theorem dX4_reported_61 : decode cX4_reported 61 = .ok (.iload_n 3, 1) := by decide +kernel
theorem dX4_reported_62 : decode cX4_reported 62 = .ok (.imul, 1) := by decide +kernel
theorem dX4_reported_63 : decode cX4_reported 63 = .ok (.iload_n 2, 1) := by decide +kernel
theorem dX4_reported_64 : decode cX4_reported 64 = .ok (.iadd, 1) := by decide +kernel
theorem dX4_reported_65 : decode cX4_reported 65 = .ok (.iaload, 1) := by decide +kernel
theorem dX4_reported_66 : decode cX4_reported 66 = .ok (.iconst (-1), 1) := by decide +kernel
theorem dX4_reported_67 : decode cX4_reported 67 = .ok (.if_icmp .eq 15, 3) := by decide +kernel
theorem dX4_reported_70 : decode cX4_reported 70 = .ok (.aload_n 0, 1) := by decide +kernel
theorem dX4_reported_71 : decode cX4_reported 71 = .ok (.getfield 34, 3) := by decide +kernel
theorem dX4_reported_74 : decode cX4_reported 74 = .ok (.bipush 12, 2) := by decide +kernel
theorem dX4_reported_76 : decode cX4_reported 76 = .ok (.iload_n 3, 1) := by decide +kernel
theorem dX4_reported_77 : decode cX4_reported 77 = .ok (.imul, 1) := by decide +kernel
theorem dX4_reported_78 : decode cX4_reported 78 = .ok (.iload_n 2, 1) := by decide +kernel
theorem dX4_reported_79 : decode cX4_reported 79 = .ok (.iadd, 1) := by decide +kernel
theorem dX4_reported_80 : decode cX4_reported 80 = .ok (.iaload, 1) := by decide +kernel
theorem dX4_reported_81 : decode cX4_reported 81 = .ok (.ireturn, 1) := by decide +kernel
theorem dX4_reported_82 : decode cX4_reported 82 = .ok (.iinc 3 (-1), 3) := by decide +kernel
theorem dX4_reported_85 : decode cX4_reported 85 = .ok (.goto (-34), 3) := by decide +kernel
theorem dX4_reported_88 : decode cX4_reported 88 = .ok (.iconst (-1), 1) := by decide +kernel
theorem dX4_reported_89 : decode cX4_reported 89 = .ok (.ireturn, 1) := by decide +kernel
set_option maxRecDepth 20000 in
theorem ggX4_force_X4_in : GoodIn wsX4_force wsX4_in := goodIn_r _ [9] (by decide +kernel) (by decide +kernel)
set_option maxRecDepth 20000 in
theorem gX4_force_X4_in : GoodIn wsX4_force (va_wsS RX4 65 yX4_in wsX4_in) := goodIn_app (goodIn_of _ (by decide +kernel)) ggX4_force_X4_in
set_option maxRecDepth 20000 in
theorem ggX4_force_X4_fails : GoodIn wsX4_force wsX4_fails := goodIn_r _ [13, 1, 14, 15, 16, 17, 18, 19, 20, 21, 22, 23, 24, 25, 26, 27, 28, 29, 30, 31, 32, 33, 34, 35] (by decide +kernel) (by decide +kernel)
set_option maxRecDepth 20000 in
theorem gX4_force_X4_fails : GoodIn wsX4_force (wsV RX4 76 RX4 yX4_fails wsX4_fails) := goodIn_app (goodIn_of _ (by decide +kernel)) ggX4_force_X4_fails
theorem dX4_force_0 : decode cX4_force 0 = .ok (.aload_n 0, 1) := by decide +kernel
theorem dX4_force_1 : decode cX4_force 1 = .ok (.iconst 0, 1) := by decide +kernel
theorem dX4_force_2 : decode cX4_force 2 = .ok (.putfield 61, 3) := by decide +kernel
theorem dX4_force_5 : decode cX4_force 5 = .ok (.iload_n 1, 1) := by decide +kernel
theorem dX4_force_6 : decode cX4_force 6 = .ok (.iconst 0, 1) := by decide +kernel
theorem dX4_force_7 : decode cX4_force 7 = .ok (.iconst 1, 1) := by decide +kernel
theorem dX4_force_8 : decode cX4_force 8 = .ok (.invokestatic 65, 3) := by decide +kernel
theorem dX4_force_11 : decode cX4_force 11 = .ok (.ifCond .ne 9, 3) := by decide +kernel
theorem dX4_force_14 : decode cX4_force 14 = .ok (.aload_n 0, 1) := by decide +kernel
theorem dX4_force_15 : decode cX4_force 15 = .ok (.iconst 1, 1) := by decide +kernel
theorem dX4_force_16 : decode cX4_force 16 = .ok (.invokevirtual 76, 3) := by decide +kernel
theorem dX4_force_19 : decode cX4_force 19 = .ok (.ireturn, 1) := by decide +kernel
theorem dX4_force_20 : decode cX4_force 20 = .ok (.iconst 0, 1) := by decide +kernel
theorem dX4_force_21 : decode cX4_force 21 = .ok (.istore_n 2, 1) := by decide +kernel
theorem dX4_force_22 : decode cX4_force 22 = .ok (.iconst 0, 1) := by decide +kernel
theorem dX4_force_23 : decode cX4_force 23 = .ok (.istore_n 3, 1) := by decide +kernel
theorem dX4_force_24 : decode cX4_force 24 = .ok (.iload_n 3, 1) := by decide +kernel
theorem dX4_force_25 : decode cX4_force 25 = .ok (.aload_n 0, 1) := by decide +kernel
theorem dX4_force_26 : decode cX4_force 26 = .ok (.getfield 69, 3) := by decide +kernel
theorem dX4_force_29 : decode cX4_force 29 = .ok (.if_icmp .ge 40, 3) := by decide +kernel
theorem dX4_force_32 : decode cX4_force 32 = .ok (.iload_n 2, 1) := by decide +kernel
theorem dX4_force_33 : decode cX4_force 33 = .ok (.aload_n 0, 1) := by decide +kernel
theorem dX4_force_34 : decode cX4_force 34 = .ok (.getfield 16, 3) := by decide +kernel
theorem dX4_force_37 : decode cX4_force 37 = .ok (.iload_n 3, 1) := by decide +kernel
theorem dX4_force_38 : decode cX4_force 38 = .ok (.iaload, 1) := by decide +kernel
theorem dX4_force_39 : decode cX4_force 39 = .ok (.iload_n 1, 1) := by decide +kernel
theorem dX4_force_40 : decode cX4_force 40 = .ok (.if_icmp .ne 20, 3) := by decide +kernel
theorem dX4_force_43 : decode cX4_force 43 = .ok (.aload_n 0, 1) := by decide +kernel
theorem dX4_force_44 : decode cX4_force 44 = .ok (.getfield 22, 3) := by decide +kernel
theorem dX4_force_47 : decode cX4_force 47 = .ok (.bipush 12, 2) := by decide +kernel
theorem dX4_force_49 : decode cX4_force 49 = .ok (.aload_n 0, 1) := by decide +kernel
theorem dX4_force_50 : decode cX4_force 50 = .ok (.getfield 80, 3) := by decide +kernel
theorem dX4_force_53 : decode cX4_force 53 = .ok (.imul, 1) := by decide +kernel
theorem dX4_force_54 : decode cX4_force 54 = .ok (.iload_n 3, 1) := by decide +kernel
theorem dX4_force_55 : decode cX4_force 55 = .ok (.iadd, 1) := by decide +kernel
theorem dX4_force_56 : decode cX4_force 56 = .ok (.iaload, 1) := by decide +kernel
theorem dX4_force_57 : decode cX4_force 57 = .ok (.goto 4, 3) := by decide +kernel
theorem dX4_force_60 : decode cX4_force 60 = .ok (.iconst 0, 1) := by decide +kernel
theorem dX4_force_61 : decode cX4_force 61 = .ok (.iadd, 1) := by decide +kernel
theorem dX4_force_62 : decode cX4_force 62 = .ok (.istore_n 2, 1) := by decide +kernel
theorem dX4_force_63 : decode cX4_force 63 = .ok (.iinc 3 1, 3) := by decide +kernel
theorem dX4_force_66 : decode cX4_force 66 = .ok (.goto (-42), 3) := by decide +kernel
theorem dX4_force_69 : decode cX4_force 69 = .ok (.iload_n 2, 1) := by decide +kernel
theorem dX4_force_70 : decode cX4_force 70 = .ok (.ireturn, 1) := by decide +kernel
set_option maxRecDepth 20000 in
theorem ggX4_weather_X4_in : GoodIn wsX4_weather wsX4_in := goodIn_r _ [7] (by decide +kernel) (by decide +kernel)
set_option maxRecDepth 20000 in
theorem gX4_weather_X4_in : GoodIn wsX4_weather (va_wsS RX4 65 yX4_in wsX4_in) := goodIn_app (goodIn_of _ (by decide +kernel)) ggX4_weather_X4_in
set_option maxRecDepth 20000 in
theorem ggX4_weather_X4_fails : GoodIn wsX4_weather wsX4_fails := goodIn_r _ [11, 1, 12, 13, 14, 15, 16, 17, 18, 19, 20, 21, 22, 23, 24, 25, 26, 27, 28, 29, 30, 31, 32, 33] (by decide +kernel) (by decide +kernel)
set_option maxRecDepth 20000 in
theorem gX4_weather_X4_fails : GoodIn wsX4_weather (wsV RX4 76 RX4 yX4_fails wsX4_fails) := goodIn_app (goodIn_of _ (by decide +kernel)) ggX4_weather_X4_fails
theorem dX4_weather_0 : decode cX4_weather 0 = .ok (.aload_n 0, 1) := by decide +kernel
theorem dX4_weather_1 : decode cX4_weather 1 = .ok (.iconst 0, 1) := by decide +kernel
theorem dX4_weather_2 : decode cX4_weather 2 = .ok (.putfield 61, 3) := by decide +kernel
theorem dX4_weather_5 : decode cX4_weather 5 = .ok (.iload_n 1, 1) := by decide +kernel
theorem dX4_weather_6 : decode cX4_weather 6 = .ok (.iconst 0, 1) := by decide +kernel
theorem dX4_weather_7 : decode cX4_weather 7 = .ok (.aload_n 0, 1) := by decide +kernel
theorem dX4_weather_8 : decode cX4_weather 8 = .ok (.getfield 80, 3) := by decide +kernel
theorem dX4_weather_11 : decode cX4_weather 11 = .ok (.iconst 1, 1) := by decide +kernel
theorem dX4_weather_12 : decode cX4_weather 12 = .ok (.isub, 1) := by decide +kernel
theorem dX4_weather_13 : decode cX4_weather 13 = .ok (.invokestatic 65, 3) := by decide +kernel
theorem dX4_weather_16 : decode cX4_weather 16 = .ok (.ifCond .eq 12, 3) := by decide +kernel
theorem dX4_weather_19 : decode cX4_weather 19 = .ok (.aload_n 0, 1) := by decide +kernel
theorem dX4_weather_20 : decode cX4_weather 20 = .ok (.getfield 31, 3) := by decide +kernel
theorem dX4_weather_23 : decode cX4_weather 23 = .ok (.iload_n 1, 1) := by decide +kernel
theorem dX4_weather_24 : decode cX4_weather 24 = .ok (.iaload, 1) := by decide +kernel
theorem dX4_weather_25 : decode cX4_weather 25 = .ok (.goto 8, 3) := by decide +kernel
theorem dX4_weather_28 : decode cX4_weather 28 = .ok (.aload_n 0, 1) := by decide +kernel
theorem dX4_weather_29 : decode cX4_weather 29 = .ok (.iconst 1, 1) := by decide +kernel
theorem dX4_weather_30 : decode cX4_weather 30 = .ok (.invokevirtual 76, 3) := by decide +kernel
theorem dX4_weather_33 : decode cX4_weather 33 = .ok (.ireturn, 1) := by decide +kernel
theorem dX4_rulings_0 : decode cX4_rulings 0 = .ok (.aload_n 0, 1) := by decide +kernel
theorem dX4_rulings_1 : decode cX4_rulings 1 = .ok (.iconst 0, 1) := by decide +kernel
theorem dX4_rulings_2 : decode cX4_rulings 2 = .ok (.putfield 61, 3) := by decide +kernel
theorem dX4_rulings_5 : decode cX4_rulings 5 = .ok (.aload_n 0, 1) := by decide +kernel
theorem dX4_rulings_6 : decode cX4_rulings 6 = .ok (.getfield 122, 3) := by decide +kernel
theorem dX4_rulings_9 : decode cX4_rulings 9 = .ok (.ireturn, 1) := by decide +kernel
end
section
theorem dJ9_max_7cf53_0 : decode cJ9_max_7cf53 0 = .ok (.iload_n 0, 1) := by decide +kernel
theorem dJ9_max_7cf53_1 : decode cJ9_max_7cf53 1 = .ok (.iload_n 1, 1) := by decide +kernel
theorem dJ9_max_7cf53_2 : decode cJ9_max_7cf53 2 = .ok (.if_icmp .lt 7, 3) := by decide +kernel
theorem dJ9_max_7cf53_5 : decode cJ9_max_7cf53 5 = .ok (.iload_n 0, 1) := by decide +kernel
theorem dJ9_max_7cf53_6 : decode cJ9_max_7cf53 6 = .ok (.goto 4, 3) := by decide +kernel
theorem dJ9_max_7cf53_9 : decode cJ9_max_7cf53 9 = .ok (.iload_n 1, 1) := by decide +kernel
theorem dJ9_max_7cf53_10 : decode cJ9_max_7cf53 10 = .ok (.ireturn, 1) := by decide +kernel
theorem dJ9_min_7cf53_0 : decode cJ9_min_7cf53 0 = .ok (.iload_n 0, 1) := by decide +kernel
theorem dJ9_min_7cf53_1 : decode cJ9_min_7cf53 1 = .ok (.iload_n 1, 1) := by decide +kernel
theorem dJ9_min_7cf53_2 : decode cJ9_min_7cf53 2 = .ok (.if_icmp .gt 7, 3) := by decide +kernel
theorem dJ9_min_7cf53_5 : decode cJ9_min_7cf53 5 = .ok (.iload_n 0, 1) := by decide +kernel
theorem dJ9_min_7cf53_6 : decode cJ9_min_7cf53 6 = .ok (.goto 4, 3) := by decide +kernel
theorem dJ9_min_7cf53_9 : decode cJ9_min_7cf53 9 = .ok (.iload_n 1, 1) := by decide +kernel
theorem dJ9_min_7cf53_10 : decode cJ9_min_7cf53 10 = .ok (.ireturn, 1) := by decide +kernel
set_option maxRecDepth 20000 in
theorem ggL_addRoad_X3_addRoad : GoodIn wsL_addRoad wsX3_addRoad := goodIn_ca (goodIn_ca (goodIn_r _ [7, 8, 9, 10, 11, 12, 13, 14, 15, 6, 16, 17, 18, 19, 20, 21, 22, 23, 24, 25, 26, 27, 28, 29, 30, 31, 32, 33, 34, 35, 36, 37, 38, 39, 40, 41, 42, 43, 44, 45, 46, 47, 48, 49, 50, 51] (by decide +kernel) (by decide +kernel)) (goodIn_sub (fun _ h => List.mem_cons_of_mem _ (List.mem_append_left _ (List.mem_append_right _ h))) (by decide +kernel))) (goodIn_sub (fun _ h => List.mem_cons_of_mem _ (List.mem_append_right _ h)) (by decide +kernel))
set_option maxRecDepth 20000 in
theorem gL_addRoad_X3_addRoad : GoodIn wsL_addRoad (wsV RL 7 RX3 yX3_addRoad wsX3_addRoad) := goodIn_app (goodIn_of _ (by decide +kernel)) ggL_addRoad_X3_addRoad
theorem dL_addRoad_0 : decode cL_addRoad 0 = .ok (.aload 4, 2) := by decide +kernel
theorem dL_addRoad_2 : decode cL_addRoad 2 = .ok (.iconst 0, 1) := by decide +kernel
theorem dL_addRoad_3 : decode cL_addRoad 3 = .ok (.aload_n 0, 1) := by decide +kernel
theorem dL_addRoad_4 : decode cL_addRoad 4 = .ok (.iload_n 1, 1) := by decide +kernel
theorem dL_addRoad_5 : decode cL_addRoad 5 = .ok (.iload_n 2, 1) := by decide +kernel
theorem dL_addRoad_6 : decode cL_addRoad 6 = .ok (.iload_n 3, 1) := by decide +kernel
theorem dL_addRoad_7 : decode cL_addRoad 7 = .ok (.invokevirtual 7, 3) := by decide +kernel
theorem dL_addRoad_10 : decode cL_addRoad 10 = .ok (.i2l, 1) := by decide +kernel
theorem dL_addRoad_11 : decode cL_addRoad 11 = .ok (.lastore, 1) := by decide +kernel
theorem dL_addRoad_12 : decode cL_addRoad 12 = .ok (.goto 11, 3) := by decide +kernel
theorem dL_addRoad_15 : decode cL_addRoad 15 = .ok (.astore 5, 2) := by decide +kernel
theorem dL_addRoad_17 : decode cL_addRoad 17 = .ok (.iconst 1, 1) := by decide +kernel
theorem dL_addRoad_18 : decode cL_addRoad 18 = .ok (.ireturn, 1) := by decide +kernel
theorem dL_addRoad_19 : decode cL_addRoad 19 = .ok (.astore 5, 2) := by decide +kernel
theorem dL_addRoad_21 : decode cL_addRoad 21 = .ok (.iconst 2, 1) := by decide +kernel
theorem dL_addRoad_22 : decode cL_addRoad 22 = .ok (.ireturn, 1) := by decide +kernel
theorem dL_addRoad_23 : decode cL_addRoad 23 = .ok (.iconst 0, 1) := by decide +kernel
theorem dL_addRoad_24 : decode cL_addRoad 24 = .ok (.ireturn, 1) := by decide +kernel
set_option maxRecDepth 20000 in
theorem ggL_setDepot_X3_setDepot : GoodIn wsL_setDepot wsX3_setDepot := goodIn_ca (goodIn_ca (goodIn_r _ [7, 8, 9, 10, 11, 12, 13, 14, 15, 6, 16, 17, 18, 19, 20, 21, 22, 23] (by decide +kernel) (by decide +kernel)) (goodIn_sub (fun _ h => List.mem_cons_of_mem _ (List.mem_append_left _ (List.mem_append_right _ h))) (by decide +kernel))) (goodIn_sub (fun _ h => List.mem_cons_of_mem _ (List.mem_append_right _ h)) (by decide +kernel))
set_option maxRecDepth 20000 in
theorem gL_setDepot_X3_setDepot : GoodIn wsL_setDepot (wsV RL 17 RX3 yX3_setDepot wsX3_setDepot) := goodIn_app (goodIn_of _ (by decide +kernel)) ggL_setDepot_X3_setDepot
theorem dL_setDepot_0 : decode cL_setDepot 0 = .ok (.aload_n 3, 1) := by decide +kernel
theorem dL_setDepot_1 : decode cL_setDepot 1 = .ok (.iconst 0, 1) := by decide +kernel
theorem dL_setDepot_2 : decode cL_setDepot 2 = .ok (.aload_n 0, 1) := by decide +kernel
theorem dL_setDepot_3 : decode cL_setDepot 3 = .ok (.iload_n 1, 1) := by decide +kernel
theorem dL_setDepot_4 : decode cL_setDepot 4 = .ok (.iload_n 2, 1) := by decide +kernel
theorem dL_setDepot_5 : decode cL_setDepot 5 = .ok (.invokevirtual 17, 3) := by decide +kernel
theorem dL_setDepot_8 : decode cL_setDepot 8 = .ok (.i2l, 1) := by decide +kernel
theorem dL_setDepot_9 : decode cL_setDepot 9 = .ok (.lastore, 1) := by decide +kernel
theorem dL_setDepot_10 : decode cL_setDepot 10 = .ok (.goto 11, 3) := by decide +kernel
theorem dL_setDepot_13 : decode cL_setDepot 13 = .ok (.astore 4, 2) := by decide +kernel
theorem dL_setDepot_15 : decode cL_setDepot 15 = .ok (.iconst 1, 1) := by decide +kernel
theorem dL_setDepot_16 : decode cL_setDepot 16 = .ok (.ireturn, 1) := by decide +kernel
theorem dL_setDepot_17 : decode cL_setDepot 17 = .ok (.astore 4, 2) := by decide +kernel
theorem dL_setDepot_19 : decode cL_setDepot 19 = .ok (.iconst 2, 1) := by decide +kernel
theorem dL_setDepot_20 : decode cL_setDepot 20 = .ok (.ireturn, 1) := by decide +kernel
theorem dL_setDepot_21 : decode cL_setDepot 21 = .ok (.iconst 0, 1) := by decide +kernel
theorem dL_setDepot_22 : decode cL_setDepot 22 = .ok (.ireturn, 1) := by decide +kernel
set_option maxRecDepth 20000 in
theorem ggL_addUnit_X3_addUnit : GoodIn wsL_addUnit wsX3_addUnit := goodIn_ca (goodIn_ca (goodIn_r _ [7, 8, 9, 10, 11, 12, 13, 14, 15, 6, 16, 17, 18, 19, 20, 21, 22, 23, 24, 25, 26, 27, 28, 29, 30, 31, 32, 33, 34, 35, 36, 37, 38, 39, 40, 41, 42, 43, 44, 45, 46, 47, 48, 49, 50, 51, 52, 53, 54, 55, 56, 57, 58, 59, 60, 61, 62, 63, 64, 65, 66, 67, 68, 69, 70, 71, 72, 73, 74, 75, 76] (by decide +kernel) (by decide +kernel)) (goodIn_sub (fun _ h => List.mem_cons_of_mem _ (List.mem_append_left _ (List.mem_append_right _ h))) (by decide +kernel))) (goodIn_sub (fun _ h => List.mem_cons_of_mem _ (List.mem_append_right _ h)) (by decide +kernel))
set_option maxRecDepth 20000 in
theorem gL_addUnit_X3_addUnit : GoodIn wsL_addUnit (wsV RL 21 RX3 yX3_addUnit wsX3_addUnit) := goodIn_app (goodIn_of _ (by decide +kernel)) ggL_addUnit_X3_addUnit
theorem dL_addUnit_0 : decode cL_addUnit 0 = .ok (.aload 4, 2) := by decide +kernel
theorem dL_addUnit_2 : decode cL_addUnit 2 = .ok (.iconst 0, 1) := by decide +kernel
theorem dL_addUnit_3 : decode cL_addUnit 3 = .ok (.aload_n 0, 1) := by decide +kernel
theorem dL_addUnit_4 : decode cL_addUnit 4 = .ok (.iload_n 1, 1) := by decide +kernel
theorem dL_addUnit_5 : decode cL_addUnit 5 = .ok (.iload_n 2, 1) := by decide +kernel
theorem dL_addUnit_6 : decode cL_addUnit 6 = .ok (.iload_n 3, 1) := by decide +kernel
theorem dL_addUnit_7 : decode cL_addUnit 7 = .ok (.invokevirtual 21, 3) := by decide +kernel
theorem dL_addUnit_10 : decode cL_addUnit 10 = .ok (.i2l, 1) := by decide +kernel
theorem dL_addUnit_11 : decode cL_addUnit 11 = .ok (.lastore, 1) := by decide +kernel
theorem dL_addUnit_12 : decode cL_addUnit 12 = .ok (.goto 11, 3) := by decide +kernel
theorem dL_addUnit_15 : decode cL_addUnit 15 = .ok (.astore 5, 2) := by decide +kernel
theorem dL_addUnit_17 : decode cL_addUnit 17 = .ok (.iconst 1, 1) := by decide +kernel
theorem dL_addUnit_18 : decode cL_addUnit 18 = .ok (.ireturn, 1) := by decide +kernel
theorem dL_addUnit_19 : decode cL_addUnit 19 = .ok (.astore 5, 2) := by decide +kernel
theorem dL_addUnit_21 : decode cL_addUnit 21 = .ok (.iconst 2, 1) := by decide +kernel
theorem dL_addUnit_22 : decode cL_addUnit 22 = .ok (.ireturn, 1) := by decide +kernel
theorem dL_addUnit_23 : decode cL_addUnit 23 = .ok (.iconst 0, 1) := by decide +kernel
theorem dL_addUnit_24 : decode cL_addUnit 24 = .ok (.ireturn, 1) := by decide +kernel
set_option maxRecDepth 20000 in
theorem ggL_order_X3_order : GoodIn wsL_order wsX3_order := goodIn_ca (goodIn_ca (goodIn_r _ [7, 8, 9, 10, 11, 12, 13, 14, 6, 15, 16, 17, 18, 19, 20, 21, 22, 23, 24, 25, 26, 27, 28, 29, 30, 31, 32, 33, 34, 35, 36, 37, 38, 39, 40, 41, 42, 43, 44, 45, 46, 47, 48, 49, 50, 51, 52, 53] (by decide +kernel) (by decide +kernel)) (goodIn_sub (fun _ h => List.mem_cons_of_mem _ (List.mem_append_left _ (List.mem_append_right _ h))) (by decide +kernel))) (goodIn_sub (fun _ h => List.mem_cons_of_mem _ (List.mem_append_right _ h)) (by decide +kernel))
set_option maxRecDepth 20000 in
theorem gL_order_X3_order : GoodIn wsL_order (wsV RL 25 RX3 yX3_order wsX3_order) := goodIn_app (goodIn_of _ (by decide +kernel)) ggL_order_X3_order
theorem dL_order_0 : decode cL_order 0 = .ok (.aload_n 3, 1) := by decide +kernel
theorem dL_order_1 : decode cL_order 1 = .ok (.iconst 0, 1) := by decide +kernel
theorem dL_order_2 : decode cL_order 2 = .ok (.aload_n 0, 1) := by decide +kernel
theorem dL_order_3 : decode cL_order 3 = .ok (.iload_n 1, 1) := by decide +kernel
theorem dL_order_4 : decode cL_order 4 = .ok (.iload_n 2, 1) := by decide +kernel
theorem dL_order_5 : decode cL_order 5 = .ok (.invokevirtual 25, 3) := by decide +kernel
theorem dL_order_8 : decode cL_order 8 = .ok (.i2l, 1) := by decide +kernel
theorem dL_order_9 : decode cL_order 9 = .ok (.lastore, 1) := by decide +kernel
theorem dL_order_10 : decode cL_order 10 = .ok (.goto 11, 3) := by decide +kernel
theorem dL_order_13 : decode cL_order 13 = .ok (.astore 4, 2) := by decide +kernel
theorem dL_order_15 : decode cL_order 15 = .ok (.iconst 1, 1) := by decide +kernel
theorem dL_order_16 : decode cL_order 16 = .ok (.ireturn, 1) := by decide +kernel
theorem dL_order_17 : decode cL_order 17 = .ok (.astore 4, 2) := by decide +kernel
theorem dL_order_19 : decode cL_order 19 = .ok (.iconst 2, 1) := by decide +kernel
theorem dL_order_20 : decode cL_order 20 = .ok (.ireturn, 1) := by decide +kernel
theorem dL_order_21 : decode cL_order 21 = .ok (.iconst 0, 1) := by decide +kernel
theorem dL_order_22 : decode cL_order 22 = .ok (.ireturn, 1) := by decide +kernel
set_option maxRecDepth 20000 in
theorem ggL_play_X3_play : GoodIn wsL_play wsX3_play := goodIn_ca (goodIn_ca (goodIn_r _ [7, 8, 9, 10, 11, 12, 13, 14, 6, 15, 16, 17, 18, 19, 20, 21, 22, 23, 24, 25, 26, 27, 28, 29, 30, 31, 32, 33, 34, 35, 36, 37, 38, 39, 40, 41, 42, 43, 44, 45, 46, 47, 48, 49, 50, 51, 52, 53, 54, 55, 56, 57, 58, 59, 60, 61, 62, 63, 64, 65, 66, 67, 68, 69, 70, 71, 72, 73, 74, 75, 76, 77, 78, 79, 80, 81, 82, 83, 84, 85, 86, 87, 88, 89, 90, 91, 92, 93, 94, 95, 96, 97, 98, 99, 100, 101, 102, 103, 104, 105, 106, 107, 108, 109, 110, 111, 112, 113, 114, 115, 116, 117, 118, 119, 120, 121, 122, 123, 124, 125, 126, 127, 128, 129, 130, 131, 132, 133, 134, 135, 136, 137, 138, 139, 140, 141, 142, 143, 144, 145, 146, 147, 148, 149, 150, 151, 152, 153] (by decide +kernel) (by decide +kernel)) (goodIn_sub (fun _ h => List.mem_cons_of_mem _ (List.mem_append_left _ (List.mem_append_right _ h))) (by decide +kernel))) (goodIn_sub (fun _ h => List.mem_cons_of_mem _ (List.mem_append_right _ h)) (by decide +kernel))
set_option maxRecDepth 20000 in
theorem gL_play_X3_play : GoodIn wsL_play (wsV RL 30 RX3 yX3_play wsX3_play) := goodIn_app (goodIn_of _ (by decide +kernel)) ggL_play_X3_play
theorem dL_play_0 : decode cL_play 0 = .ok (.aload_n 2, 1) := by decide +kernel
theorem dL_play_1 : decode cL_play 1 = .ok (.iconst 0, 1) := by decide +kernel
theorem dL_play_2 : decode cL_play 2 = .ok (.aload_n 0, 1) := by decide +kernel
theorem dL_play_3 : decode cL_play 3 = .ok (.iload_n 1, 1) := by decide +kernel
theorem dL_play_4 : decode cL_play 4 = .ok (.invokevirtual 30, 3) := by decide +kernel
theorem dL_play_7 : decode cL_play 7 = .ok (.i2l, 1) := by decide +kernel
theorem dL_play_8 : decode cL_play 8 = .ok (.lastore, 1) := by decide +kernel
theorem dL_play_9 : decode cL_play 9 = .ok (.goto 9, 3) := by decide +kernel
theorem dL_play_12 : decode cL_play 12 = .ok (.astore_n 3, 1) := by decide +kernel
theorem dL_play_13 : decode cL_play 13 = .ok (.iconst 1, 1) := by decide +kernel
theorem dL_play_14 : decode cL_play 14 = .ok (.ireturn, 1) := by decide +kernel
theorem dL_play_15 : decode cL_play 15 = .ok (.astore_n 3, 1) := by decide +kernel
theorem dL_play_16 : decode cL_play 16 = .ok (.iconst 2, 1) := by decide +kernel
theorem dL_play_17 : decode cL_play 17 = .ok (.ireturn, 1) := by decide +kernel
theorem dL_play_18 : decode cL_play 18 = .ok (.iconst 0, 1) := by decide +kernel
theorem dL_play_19 : decode cL_play 19 = .ok (.ireturn, 1) := by decide +kernel
set_option maxRecDepth 20000 in
theorem ggL_rule_X3_rule : GoodIn wsL_rule wsX3_rule := goodIn_ca (goodIn_ca (goodIn_r _ [7, 8, 9, 10, 11, 12, 13, 14, 6, 15, 16, 17, 18, 19, 20, 21, 22, 23, 24, 25, 26, 27, 28, 29, 30, 31, 32, 33, 34, 35, 36, 37, 38, 39, 40, 41, 42, 43, 44, 45, 46, 47, 48, 49, 50, 51, 52, 53, 54, 55, 56, 57, 58, 59, 60, 61, 62, 63, 64, 65, 66, 67, 68, 69, 70, 71, 72, 73, 74, 75, 76, 77, 78, 79, 80, 81, 82, 83, 84, 85, 86, 87, 88, 89, 90, 91, 92, 93, 94, 95, 96, 97, 98, 99, 100, 101, 102, 103, 104, 105, 106, 107, 108, 109, 110, 111, 112, 113, 114, 115, 116, 117, 118, 119, 120, 121, 122, 123, 124, 125, 126, 127, 128, 129, 130, 131, 132, 133, 134, 135, 136, 137, 138, 139, 140, 141, 142, 143, 144, 145, 146, 147, 148, 149, 150, 151, 152, 153, 154, 155, 156, 157, 158, 159, 160, 161, 162, 163, 164, 165, 166, 167, 168, 169, 170, 171, 172, 173, 174, 175, 176, 177, 178, 179, 180, 181, 182] (by decide +kernel) (by decide +kernel)) (goodIn_sub (fun _ h => List.mem_cons_of_mem _ (List.mem_append_left _ (List.mem_append_right _ h))) (by decide +kernel))) (goodIn_sub (fun _ h => List.mem_cons_of_mem _ (List.mem_append_right _ h)) (by decide +kernel))
set_option maxRecDepth 20000 in
theorem gL_rule_X3_rule : GoodIn wsL_rule (wsV RL 34 RX3 yX3_rule wsX3_rule) := goodIn_app (goodIn_of _ (by decide +kernel)) ggL_rule_X3_rule
theorem dL_rule_0 : decode cL_rule 0 = .ok (.aload_n 3, 1) := by decide +kernel
theorem dL_rule_1 : decode cL_rule 1 = .ok (.iconst 0, 1) := by decide +kernel
theorem dL_rule_2 : decode cL_rule 2 = .ok (.aload_n 0, 1) := by decide +kernel
theorem dL_rule_3 : decode cL_rule 3 = .ok (.iload_n 1, 1) := by decide +kernel
theorem dL_rule_4 : decode cL_rule 4 = .ok (.iload_n 2, 1) := by decide +kernel
theorem dL_rule_5 : decode cL_rule 5 = .ok (.invokevirtual 34, 3) := by decide +kernel
theorem dL_rule_8 : decode cL_rule 8 = .ok (.i2l, 1) := by decide +kernel
theorem dL_rule_9 : decode cL_rule 9 = .ok (.lastore, 1) := by decide +kernel
theorem dL_rule_10 : decode cL_rule 10 = .ok (.goto 11, 3) := by decide +kernel
theorem dL_rule_13 : decode cL_rule 13 = .ok (.astore 4, 2) := by decide +kernel
theorem dL_rule_15 : decode cL_rule 15 = .ok (.iconst 1, 1) := by decide +kernel
theorem dL_rule_16 : decode cL_rule 16 = .ok (.ireturn, 1) := by decide +kernel
theorem dL_rule_17 : decode cL_rule 17 = .ok (.astore 4, 2) := by decide +kernel
theorem dL_rule_19 : decode cL_rule 19 = .ok (.iconst 2, 1) := by decide +kernel
theorem dL_rule_20 : decode cL_rule 20 = .ok (.ireturn, 1) := by decide +kernel
theorem dL_rule_21 : decode cL_rule 21 = .ok (.iconst 0, 1) := by decide +kernel
theorem dL_rule_22 : decode cL_rule 22 = .ok (.ireturn, 1) := by decide +kernel
set_option maxRecDepth 20000 in
theorem ggL_appeal_X3_appeal : GoodIn wsL_appeal wsX3_appeal := goodIn_ca (goodIn_r _ [6, 7, 8, 9, 10, 11, 12, 13, 14, 15, 16, 17, 18, 5, 19, 20, 21, 22, 23, 24, 25, 26, 27, 28, 29, 30, 31, 32, 33, 34, 35, 36, 37, 38, 39, 40, 41, 42, 43, 44, 45, 46, 47, 48, 49, 50, 51, 52, 53, 54, 55, 56, 57, 58, 59, 60, 61, 62, 63, 64, 65, 66, 67, 68, 69, 70, 71, 72, 73, 74, 75, 76, 77, 78, 79, 80, 81, 82, 83, 84, 85, 86, 87, 88, 89, 90, 91, 92, 93, 94, 95, 96, 97, 98, 99, 100, 101, 102, 103, 104, 105, 106, 107, 108, 109, 110, 111, 112, 113, 114, 115, 116, 117, 118, 119, 120, 121, 122, 123, 124, 125, 126, 127, 128, 129, 130, 131, 132, 133, 134, 135, 136, 137, 138, 139, 140, 141, 142, 143, 144, 145, 146, 147, 148, 149, 150, 151, 152, 153, 154, 155, 156, 157, 158, 159, 160, 161, 162, 163] (by decide +kernel) (by decide +kernel)) (goodIn_sub (fun _ h => List.mem_cons_of_mem _ (List.mem_append_right _ h)) (by decide +kernel))
set_option maxRecDepth 20000 in
theorem gL_appeal_X3_appeal : GoodIn wsL_appeal (wsV RL 37 RX3 yX3_appeal wsX3_appeal) := goodIn_app (goodIn_of _ (by decide +kernel)) ggL_appeal_X3_appeal
theorem dL_appeal_0 : decode cL_appeal 0 = .ok (.aload_n 1, 1) := by decide +kernel
theorem dL_appeal_1 : decode cL_appeal 1 = .ok (.iconst 0, 1) := by decide +kernel
theorem dL_appeal_2 : decode cL_appeal 2 = .ok (.aload_n 0, 1) := by decide +kernel
theorem dL_appeal_3 : decode cL_appeal 3 = .ok (.invokevirtual 37, 3) := by decide +kernel
theorem dL_appeal_6 : decode cL_appeal 6 = .ok (.i2l, 1) := by decide +kernel
theorem dL_appeal_7 : decode cL_appeal 7 = .ok (.lastore, 1) := by decide +kernel
theorem dL_appeal_8 : decode cL_appeal 8 = .ok (.goto 6, 3) := by decide +kernel
theorem dL_appeal_11 : decode cL_appeal 11 = .ok (.astore_n 2, 1) := by decide +kernel
theorem dL_appeal_12 : decode cL_appeal 12 = .ok (.iconst 1, 1) := by decide +kernel
theorem dL_appeal_13 : decode cL_appeal 13 = .ok (.ireturn, 1) := by decide +kernel
theorem dL_appeal_14 : decode cL_appeal 14 = .ok (.iconst 0, 1) := by decide +kernel
theorem dL_appeal_15 : decode cL_appeal 15 = .ok (.ireturn, 1) := by decide +kernel
set_option maxRecDepth 20000 in
theorem ggL_townOf_X3_townOf : GoodIn wsL_townOf wsX3_townOf := goodIn_ca (goodIn_r _ [6, 7, 8, 9, 10, 11, 5, 12, 13, 14, 15, 16, 17, 18, 19, 20, 21, 22, 23, 24, 25, 26, 27, 28, 29, 30, 31, 32, 33, 34, 35, 36, 37, 38, 39, 40, 41, 42, 43, 44, 45, 46] (by decide +kernel) (by decide +kernel)) (goodIn_sub (fun _ h => List.mem_cons_of_mem _ (List.mem_append_right _ h)) (by decide +kernel))
set_option maxRecDepth 20000 in
theorem gL_townOf_X3_townOf : GoodIn wsL_townOf (wsV RL 41 RX3 yX3_townOf wsX3_townOf) := goodIn_app (goodIn_of _ (by decide +kernel)) ggL_townOf_X3_townOf
theorem dL_townOf_0 : decode cL_townOf 0 = .ok (.aload_n 2, 1) := by decide +kernel
theorem dL_townOf_1 : decode cL_townOf 1 = .ok (.iconst 0, 1) := by decide +kernel
theorem dL_townOf_2 : decode cL_townOf 2 = .ok (.aload_n 0, 1) := by decide +kernel
theorem dL_townOf_3 : decode cL_townOf 3 = .ok (.iload_n 1, 1) := by decide +kernel
theorem dL_townOf_4 : decode cL_townOf 4 = .ok (.invokevirtual 41, 3) := by decide +kernel
theorem dL_townOf_7 : decode cL_townOf 7 = .ok (.i2l, 1) := by decide +kernel
theorem dL_townOf_8 : decode cL_townOf 8 = .ok (.lastore, 1) := by decide +kernel
theorem dL_townOf_9 : decode cL_townOf 9 = .ok (.goto 6, 3) := by decide +kernel
theorem dL_townOf_12 : decode cL_townOf 12 = .ok (.astore_n 3, 1) := by decide +kernel
theorem dL_townOf_13 : decode cL_townOf 13 = .ok (.iconst 1, 1) := by decide +kernel
theorem dL_townOf_14 : decode cL_townOf 14 = .ok (.ireturn, 1) := by decide +kernel
theorem dL_townOf_15 : decode cL_townOf 15 = .ok (.iconst 0, 1) := by decide +kernel
theorem dL_townOf_16 : decode cL_townOf 16 = .ok (.ireturn, 1) := by decide +kernel
set_option maxRecDepth 20000 in
theorem ggL_strength_X3_strength : GoodIn wsL_strength wsX3_strength := goodIn_ca (goodIn_r _ [6, 7, 8, 9, 10, 11, 5, 12, 13, 14, 15, 16, 17, 18, 19, 20, 21, 22, 23, 24, 25, 26, 27, 28, 29, 30, 31, 32, 33, 34, 35, 36, 37, 38, 39, 40, 41, 42, 43, 44, 45, 46] (by decide +kernel) (by decide +kernel)) (goodIn_sub (fun _ h => List.mem_cons_of_mem _ (List.mem_append_right _ h)) (by decide +kernel))
set_option maxRecDepth 20000 in
theorem gL_strength_X3_strength : GoodIn wsL_strength (wsV RL 44 RX3 yX3_strength wsX3_strength) := goodIn_app (goodIn_of _ (by decide +kernel)) ggL_strength_X3_strength
theorem dL_strength_0 : decode cL_strength 0 = .ok (.aload_n 2, 1) := by decide +kernel
theorem dL_strength_1 : decode cL_strength 1 = .ok (.iconst 0, 1) := by decide +kernel
theorem dL_strength_2 : decode cL_strength 2 = .ok (.aload_n 0, 1) := by decide +kernel
theorem dL_strength_3 : decode cL_strength 3 = .ok (.iload_n 1, 1) := by decide +kernel
theorem dL_strength_4 : decode cL_strength 4 = .ok (.invokevirtual 44, 3) := by decide +kernel
theorem dL_strength_7 : decode cL_strength 7 = .ok (.i2l, 1) := by decide +kernel
theorem dL_strength_8 : decode cL_strength 8 = .ok (.lastore, 1) := by decide +kernel
theorem dL_strength_9 : decode cL_strength 9 = .ok (.goto 6, 3) := by decide +kernel
theorem dL_strength_12 : decode cL_strength 12 = .ok (.astore_n 3, 1) := by decide +kernel
theorem dL_strength_13 : decode cL_strength 13 = .ok (.iconst 1, 1) := by decide +kernel
theorem dL_strength_14 : decode cL_strength 14 = .ok (.ireturn, 1) := by decide +kernel
theorem dL_strength_15 : decode cL_strength 15 = .ok (.iconst 0, 1) := by decide +kernel
theorem dL_strength_16 : decode cL_strength 16 = .ok (.ireturn, 1) := by decide +kernel
set_option maxRecDepth 20000 in
theorem ggL_supply_X3_supply : GoodIn wsL_supply wsX3_supply := goodIn_ca (goodIn_ca (goodIn_r _ [7, 8, 9, 10, 11, 12, 6, 13, 14, 15, 16, 17, 18, 19, 20, 21, 22, 23, 24, 25, 26, 27, 28, 29, 30, 31, 32, 33, 34, 35, 36, 37, 38, 39, 40, 41, 42, 43, 44, 45, 46, 47, 48, 49, 50, 51, 52, 53, 54, 55, 56, 57, 58, 59, 60, 61, 62, 63, 64, 65, 66, 67, 68, 69, 70, 71, 72, 73, 74, 75, 76, 77, 78, 79, 80, 81, 82, 83, 84, 85, 86, 87, 88, 89, 90, 91, 92] (by decide +kernel) (by decide +kernel)) (goodIn_sub (fun _ h => List.mem_cons_of_mem _ (List.mem_append_left _ (List.mem_append_right _ h))) (by decide +kernel))) (goodIn_sub (fun _ h => List.mem_cons_of_mem _ (List.mem_append_right _ h)) (by decide +kernel))
set_option maxRecDepth 20000 in
theorem gL_supply_X3_supply : GoodIn wsL_supply (wsV RL 47 RX3 yX3_supply wsX3_supply) := goodIn_app (goodIn_of _ (by decide +kernel)) ggL_supply_X3_supply
theorem dL_supply_0 : decode cL_supply 0 = .ok (.aload_n 3, 1) := by decide +kernel
theorem dL_supply_1 : decode cL_supply 1 = .ok (.iconst 0, 1) := by decide +kernel
theorem dL_supply_2 : decode cL_supply 2 = .ok (.aload_n 0, 1) := by decide +kernel
theorem dL_supply_3 : decode cL_supply 3 = .ok (.iload_n 1, 1) := by decide +kernel
theorem dL_supply_4 : decode cL_supply 4 = .ok (.iload_n 2, 1) := by decide +kernel
theorem dL_supply_5 : decode cL_supply 5 = .ok (.invokevirtual 47, 3) := by decide +kernel
theorem dL_supply_8 : decode cL_supply 8 = .ok (.i2l, 1) := by decide +kernel
theorem dL_supply_9 : decode cL_supply 9 = .ok (.lastore, 1) := by decide +kernel
theorem dL_supply_10 : decode cL_supply 10 = .ok (.goto 11, 3) := by decide +kernel
theorem dL_supply_13 : decode cL_supply 13 = .ok (.astore 4, 2) := by decide +kernel
theorem dL_supply_15 : decode cL_supply 15 = .ok (.iconst 1, 1) := by decide +kernel
theorem dL_supply_16 : decode cL_supply 16 = .ok (.ireturn, 1) := by decide +kernel
theorem dL_supply_17 : decode cL_supply 17 = .ok (.astore 4, 2) := by decide +kernel
theorem dL_supply_19 : decode cL_supply 19 = .ok (.iconst 2, 1) := by decide +kernel
theorem dL_supply_20 : decode cL_supply 20 = .ok (.ireturn, 1) := by decide +kernel
theorem dL_supply_21 : decode cL_supply 21 = .ok (.iconst 0, 1) := by decide +kernel
theorem dL_supply_22 : decode cL_supply 22 = .ok (.ireturn, 1) := by decide +kernel
set_option maxRecDepth 20000 in
theorem ggL_townAfter_X3_townAfter : GoodIn wsL_townAfter wsX3_townAfter := goodIn_ca (goodIn_r _ [6, 7, 8, 9, 10, 5, 11, 12, 13, 14, 15, 16, 17, 18, 19, 20, 21, 22, 23, 24, 25, 26, 27, 28, 29, 30, 31, 32, 33, 34, 35, 36, 37, 38, 39, 40, 41, 42, 43, 44, 45, 46, 47, 48, 49, 50, 51, 52, 53, 54] (by decide +kernel) (by decide +kernel)) (goodIn_sub (fun _ h => List.mem_cons_of_mem _ (List.mem_append_right _ h)) (by decide +kernel))
set_option maxRecDepth 20000 in
theorem gL_townAfter_X3_townAfter : GoodIn wsL_townAfter (wsV RL 50 RX3 yX3_townAfter wsX3_townAfter) := goodIn_app (goodIn_of _ (by decide +kernel)) ggL_townAfter_X3_townAfter
theorem dL_townAfter_0 : decode cL_townAfter 0 = .ok (.aload_n 3, 1) := by decide +kernel
theorem dL_townAfter_1 : decode cL_townAfter 1 = .ok (.iconst 0, 1) := by decide +kernel
theorem dL_townAfter_2 : decode cL_townAfter 2 = .ok (.aload_n 0, 1) := by decide +kernel
theorem dL_townAfter_3 : decode cL_townAfter 3 = .ok (.iload_n 1, 1) := by decide +kernel
theorem dL_townAfter_4 : decode cL_townAfter 4 = .ok (.iload_n 2, 1) := by decide +kernel
theorem dL_townAfter_5 : decode cL_townAfter 5 = .ok (.invokevirtual 50, 3) := by decide +kernel
theorem dL_townAfter_8 : decode cL_townAfter 8 = .ok (.i2l, 1) := by decide +kernel
theorem dL_townAfter_9 : decode cL_townAfter 9 = .ok (.lastore, 1) := by decide +kernel
theorem dL_townAfter_10 : decode cL_townAfter 10 = .ok (.goto 7, 3) := by decide +kernel
theorem dL_townAfter_13 : decode cL_townAfter 13 = .ok (.astore 4, 2) := by decide +kernel
theorem dL_townAfter_15 : decode cL_townAfter 15 = .ok (.iconst 1, 1) := by decide +kernel
theorem dL_townAfter_16 : decode cL_townAfter 16 = .ok (.ireturn, 1) := by decide +kernel
theorem dL_townAfter_17 : decode cL_townAfter 17 = .ok (.iconst 0, 1) := by decide +kernel
theorem dL_townAfter_18 : decode cL_townAfter 18 = .ok (.ireturn, 1) := by decide +kernel
set_option maxRecDepth 20000 in
theorem ggL_reported_X3_reported : GoodIn wsL_reported wsX3_reported := goodIn_ca (goodIn_ca (goodIn_r _ [7, 8, 9, 10, 11, 12, 13, 14, 15, 16, 17, 18, 6, 19, 20, 21, 22, 23, 24, 25, 26, 27, 28, 29, 30, 31, 32, 33, 34, 35, 36, 37, 38, 39, 40, 41, 42, 43, 44, 45, 46, 47, 48, 49, 50, 51, 52, 53, 54, 55, 56, 57, 58, 59, 60, 61, 62, 63, 64, 65, 66, 67, 68] (by decide +kernel) (by decide +kernel)) (goodIn_sub (fun _ h => List.mem_cons_of_mem _ (List.mem_append_left _ (List.mem_append_right _ h))) (by decide +kernel))) (goodIn_sub (fun _ h => List.mem_cons_of_mem _ (List.mem_append_right _ h)) (by decide +kernel))
set_option maxRecDepth 20000 in
theorem gL_reported_X3_reported : GoodIn wsL_reported (wsV RL 53 RX3 yX3_reported wsX3_reported) := goodIn_app (goodIn_of _ (by decide +kernel)) ggL_reported_X3_reported
theorem dL_reported_0 : decode cL_reported 0 = .ok (.aload_n 3, 1) := by decide +kernel
theorem dL_reported_1 : decode cL_reported 1 = .ok (.iconst 0, 1) := by decide +kernel
theorem dL_reported_2 : decode cL_reported 2 = .ok (.aload_n 0, 1) := by decide +kernel
theorem dL_reported_3 : decode cL_reported 3 = .ok (.iload_n 1, 1) := by decide +kernel
theorem dL_reported_4 : decode cL_reported 4 = .ok (.iload_n 2, 1) := by decide +kernel
theorem dL_reported_5 : decode cL_reported 5 = .ok (.invokevirtual 53, 3) := by decide +kernel
theorem dL_reported_8 : decode cL_reported 8 = .ok (.i2l, 1) := by decide +kernel
theorem dL_reported_9 : decode cL_reported 9 = .ok (.lastore, 1) := by decide +kernel
theorem dL_reported_10 : decode cL_reported 10 = .ok (.goto 11, 3) := by decide +kernel
theorem dL_reported_13 : decode cL_reported 13 = .ok (.astore 4, 2) := by decide +kernel
theorem dL_reported_15 : decode cL_reported 15 = .ok (.iconst 1, 1) := by decide +kernel
theorem dL_reported_16 : decode cL_reported 16 = .ok (.ireturn, 1) := by decide +kernel
theorem dL_reported_17 : decode cL_reported 17 = .ok (.astore 4, 2) := by decide +kernel
theorem dL_reported_19 : decode cL_reported 19 = .ok (.iconst 2, 1) := by decide +kernel
theorem dL_reported_20 : decode cL_reported 20 = .ok (.ireturn, 1) := by decide +kernel
theorem dL_reported_21 : decode cL_reported 21 = .ok (.iconst 0, 1) := by decide +kernel
theorem dL_reported_22 : decode cL_reported 22 = .ok (.ireturn, 1) := by decide +kernel
set_option maxRecDepth 20000 in
theorem ggL_force_X3_force : GoodIn wsL_force wsX3_force := goodIn_ca (goodIn_r _ [6, 7, 8, 9, 10, 5, 11, 12, 13, 14, 15, 16, 17, 18, 19, 20, 21, 22, 23, 24, 25, 26, 27, 28, 29, 30, 31, 32, 33, 34, 35, 36, 37, 38, 39, 40, 41, 42, 43, 44, 45, 46, 47, 48, 49, 50] (by decide +kernel) (by decide +kernel)) (goodIn_sub (fun _ h => List.mem_cons_of_mem _ (List.mem_append_right _ h)) (by decide +kernel))
set_option maxRecDepth 20000 in
theorem gL_force_X3_force : GoodIn wsL_force (wsV RL 56 RX3 yX3_force wsX3_force) := goodIn_app (goodIn_of _ (by decide +kernel)) ggL_force_X3_force
theorem dL_force_0 : decode cL_force 0 = .ok (.aload_n 2, 1) := by decide +kernel
theorem dL_force_1 : decode cL_force 1 = .ok (.iconst 0, 1) := by decide +kernel
theorem dL_force_2 : decode cL_force 2 = .ok (.aload_n 0, 1) := by decide +kernel
theorem dL_force_3 : decode cL_force 3 = .ok (.iload_n 1, 1) := by decide +kernel
theorem dL_force_4 : decode cL_force 4 = .ok (.invokevirtual 56, 3) := by decide +kernel
theorem dL_force_7 : decode cL_force 7 = .ok (.i2l, 1) := by decide +kernel
theorem dL_force_8 : decode cL_force 8 = .ok (.lastore, 1) := by decide +kernel
theorem dL_force_9 : decode cL_force 9 = .ok (.goto 6, 3) := by decide +kernel
theorem dL_force_12 : decode cL_force 12 = .ok (.astore_n 3, 1) := by decide +kernel
theorem dL_force_13 : decode cL_force 13 = .ok (.iconst 1, 1) := by decide +kernel
theorem dL_force_14 : decode cL_force 14 = .ok (.ireturn, 1) := by decide +kernel
theorem dL_force_15 : decode cL_force 15 = .ok (.iconst 0, 1) := by decide +kernel
theorem dL_force_16 : decode cL_force 16 = .ok (.ireturn, 1) := by decide +kernel
set_option maxRecDepth 20000 in
theorem ggL_weather_X3_weather : GoodIn wsL_weather wsX3_weather := goodIn_ca (goodIn_r _ [6, 7, 8, 9, 10, 5, 11, 12, 13, 14, 15, 16, 17, 18, 19, 20, 21, 22, 23, 24, 25, 26, 27, 28] (by decide +kernel) (by decide +kernel)) (goodIn_sub (fun _ h => List.mem_cons_of_mem _ (List.mem_append_right _ h)) (by decide +kernel))
set_option maxRecDepth 20000 in
theorem gL_weather_X3_weather : GoodIn wsL_weather (wsV RL 59 RX3 yX3_weather wsX3_weather) := goodIn_app (goodIn_of _ (by decide +kernel)) ggL_weather_X3_weather
theorem dL_weather_0 : decode cL_weather 0 = .ok (.aload_n 2, 1) := by decide +kernel
theorem dL_weather_1 : decode cL_weather 1 = .ok (.iconst 0, 1) := by decide +kernel
theorem dL_weather_2 : decode cL_weather 2 = .ok (.aload_n 0, 1) := by decide +kernel
theorem dL_weather_3 : decode cL_weather 3 = .ok (.iload_n 1, 1) := by decide +kernel
theorem dL_weather_4 : decode cL_weather 4 = .ok (.invokevirtual 59, 3) := by decide +kernel
theorem dL_weather_7 : decode cL_weather 7 = .ok (.i2l, 1) := by decide +kernel
theorem dL_weather_8 : decode cL_weather 8 = .ok (.lastore, 1) := by decide +kernel
theorem dL_weather_9 : decode cL_weather 9 = .ok (.goto 6, 3) := by decide +kernel
theorem dL_weather_12 : decode cL_weather 12 = .ok (.astore_n 3, 1) := by decide +kernel
theorem dL_weather_13 : decode cL_weather 13 = .ok (.iconst 1, 1) := by decide +kernel
theorem dL_weather_14 : decode cL_weather 14 = .ok (.ireturn, 1) := by decide +kernel
theorem dL_weather_15 : decode cL_weather 15 = .ok (.iconst 0, 1) := by decide +kernel
theorem dL_weather_16 : decode cL_weather 16 = .ok (.ireturn, 1) := by decide +kernel
end
section
set_option maxRecDepth 20000 in
theorem ggL_law_X3_init : GoodIn wsL_law wsX3_init := goodIn_r _ [9, 10, 11, 12, 13, 14, 15, 16, 17, 18, 19, 20, 21, 22, 23, 24, 25, 26, 27, 28, 29, 30, 31, 32, 33, 34, 35, 36, 37, 38, 39, 40, 41, 42, 43, 44, 45, 46, 47, 48, 49, 527, 528, 529, 498, 499, 500, 501, 502, 503, 504, 530, 531, 532, 533, 534, 535, 536, 537] (by decide +kernel) (by decide +kernel)
set_option maxRecDepth 20000 in
theorem gL_law_X3_init : GoodIn wsL_law (wsX3_init) := ggL_law_X3_init
set_option maxRecDepth 20000 in
theorem ggL_law_X4_init : GoodIn wsL_law wsX4_init := goodIn_r _ [52, 53, 11, 12, 17, 54, 55, 56, 57, 58, 59, 60, 61, 62, 63, 64, 65, 66, 67, 68, 69, 70, 505, 506, 507, 508, 509, 510, 511, 512, 513, 514, 515, 516, 517, 518, 519, 520, 521, 522, 523, 524, 525, 526] (by decide +kernel) (by decide +kernel)
set_option maxRecDepth 20000 in
theorem gL_law_X4_init : GoodIn wsL_law (wsX4_init) := ggL_law_X4_init
set_option maxRecDepth 20000 in
theorem ggL_law_L_addRoad : GoodIn wsL_law wsL_addRoad := goodIn_ca (goodIn_ca (goodIn_r _ [74, 75, 76, 77, 78, 79, 2, 80, 81, 82, 83, 84, 29, 16, 85, 86, 87, 88, 89, 90, 15, 91, 92, 93, 94, 95, 33, 34, 96, 97, 98, 99, 100, 101, 102, 103, 104, 35, 105, 106, 107, 108, 498, 499, 500, 501, 502, 503, 504, 527, 528, 529] (by decide +kernel) (by decide +kernel)) (goodIn_sub (fun _ h => List.mem_append_left _ (List.mem_append_left _ (List.mem_append_right _ h))) (by decide +kernel))) (goodIn_sub (fun _ h => List.mem_append_left _ (List.mem_append_right _ h)) (by decide +kernel))
set_option maxRecDepth 20000 in
theorem gL_law_L_addRoad : GoodIn wsL_law (va_wsS RL 66 yL_addRoad wsL_addRoad) := goodIn_app (goodIn_of _ (by decide +kernel)) ggL_law_L_addRoad
set_option maxRecDepth 20000 in
theorem ggL_law_X4_addRoad : GoodIn wsL_law wsX4_addRoad := goodIn_r _ [112, 113, 114, 54, 115, 116, 117, 5, 118, 119, 120, 121, 122, 123, 124, 125, 505, 506, 507, 508, 509, 510, 511, 512, 513, 514, 515, 516, 517, 518, 519, 520, 521, 522, 523, 524, 525, 526] (by decide +kernel) (by decide +kernel)
set_option maxRecDepth 20000 in
theorem gL_law_X4_addRoad : GoodIn wsL_law (wsV RL 71 RX4 yX4_addRoad wsX4_addRoad) := goodIn_app (goodIn_of _ (by decide +kernel)) ggL_law_X4_addRoad
set_option maxRecDepth 20000 in
theorem ggL_law_X4_thrown : GoodIn wsL_law wsX4_thrown := goodIn_r _ [129, 113, 505, 506, 507, 508, 509, 510, 511, 512, 513, 514, 515, 516, 517, 518, 519, 520, 521, 522, 523, 524, 525, 526] (by decide +kernel) (by decide +kernel)
set_option maxRecDepth 20000 in
theorem gL_law_X4_thrown : GoodIn wsL_law (wsV RL 72 RX4 yX4_thrown wsX4_thrown) := goodIn_app (goodIn_of _ (by decide +kernel)) ggL_law_X4_thrown
set_option maxRecDepth 20000 in
theorem ggL_law_L_setDepot : GoodIn wsL_law wsL_setDepot := goodIn_ca (goodIn_ca (goodIn_r _ [132, 75, 76, 133, 134, 135, 2, 136, 81, 82, 83, 84, 29, 18, 85, 86, 87, 498, 499, 500, 501, 502, 503, 504] (by decide +kernel) (by decide +kernel)) (goodIn_sub (fun _ h => List.mem_append_left _ (List.mem_append_left _ (List.mem_append_right _ h))) (by decide +kernel))) (goodIn_sub (fun _ h => List.mem_append_left _ (List.mem_append_right _ h)) (by decide +kernel))
set_option maxRecDepth 20000 in
theorem gL_law_L_setDepot : GoodIn wsL_law (va_wsS RL 75 yL_setDepot wsL_setDepot) := goodIn_app (goodIn_of _ (by decide +kernel)) ggL_law_L_setDepot
set_option maxRecDepth 20000 in
theorem ggL_law_X4_setDepot : GoodIn wsL_law wsX4_setDepot := goodIn_r _ [140, 113, 114, 55, 119, 120, 5, 121, 116, 117, 118, 122, 123, 124, 125, 505, 506, 507, 508, 509, 510, 511, 512, 513, 514, 515, 516, 517, 518, 519, 520, 521, 522, 523, 524, 525, 526] (by decide +kernel) (by decide +kernel)
set_option maxRecDepth 20000 in
theorem gL_law_X4_setDepot : GoodIn wsL_law (wsV RL 78 RX4 yX4_setDepot wsX4_setDepot) := goodIn_app (goodIn_of _ (by decide +kernel)) ggL_law_X4_setDepot
set_option maxRecDepth 20000 in
theorem ggL_law_L_addUnit : GoodIn wsL_law wsL_addUnit := goodIn_ca (goodIn_ca (goodIn_r _ [143, 75, 76, 144, 145, 146, 2, 147, 81, 82, 83, 84, 29, 22, 85, 86, 87, 148, 149, 150, 151, 152, 153, 21, 154, 43, 155, 156, 157, 158, 40, 159, 160, 161, 162, 163, 164, 165, 166, 167, 168, 39, 99, 100, 169, 96, 97, 98, 170, 171, 172, 173, 174, 175, 176, 177, 178, 179, 180, 181, 41, 182, 183, 184, 185, 498, 499, 500, 501, 502, 503, 504, 530, 531, 532, 533, 534] (by decide +kernel) (by decide +kernel)) (goodIn_sub (fun _ h => List.mem_append_left _ (List.mem_append_left _ (List.mem_append_right _ h))) (by decide +kernel))) (goodIn_sub (fun _ h => List.mem_append_left _ (List.mem_append_right _ h)) (by decide +kernel))
set_option maxRecDepth 20000 in
theorem gL_law_L_addUnit : GoodIn wsL_law (va_wsS RL 79 yL_addUnit wsL_addUnit) := goodIn_app (goodIn_of _ (by decide +kernel)) ggL_law_L_addUnit
set_option maxRecDepth 20000 in
theorem ggL_law_X4_addUnit : GoodIn wsL_law wsX4_addUnit := goodIn_r _ [189, 113, 114, 190, 56, 57, 58, 119, 120, 5, 121, 116, 117, 118, 122, 123, 124, 125, 191, 192, 193, 194, 65, 66, 195, 196, 197, 198, 505, 506, 507, 508, 509, 510, 511, 512, 513, 514, 515, 516, 517, 518, 519, 520, 521, 522, 523, 524, 525, 526] (by decide +kernel) (by decide +kernel)
set_option maxRecDepth 20000 in
theorem gL_law_X4_addUnit : GoodIn wsL_law (wsV RL 82 RX4 yX4_addUnit wsX4_addUnit) := goodIn_app (goodIn_of _ (by decide +kernel)) ggL_law_X4_addUnit
set_option maxRecDepth 20000 in
theorem ggL_law_L_order : GoodIn wsL_law wsL_order := goodIn_ca (goodIn_ca (goodIn_r _ [201, 202, 75, 203, 204, 205, 2, 206, 81, 82, 22, 29, 207, 208, 209, 210, 211, 212, 170, 171, 172, 21, 173, 43, 85, 86, 87, 213, 214, 215, 216, 42, 159, 160, 161, 162, 163, 164, 217, 218, 219, 220, 498, 499, 500, 501, 502, 503, 504, 530, 531, 532, 533, 534] (by decide +kernel) (by decide +kernel)) (goodIn_sub (fun _ h => List.mem_append_left _ (List.mem_append_left _ (List.mem_append_right _ h))) (by decide +kernel))) (goodIn_sub (fun _ h => List.mem_append_right _ h) (by decide +kernel))
set_option maxRecDepth 20000 in
theorem gL_law_L_order : GoodIn wsL_law (va_wsS RL 83 yL_order wsL_order) := goodIn_app (goodIn_of _ (by decide +kernel)) ggL_law_L_order
set_option maxRecDepth 20000 in
theorem ggL_law_X4_order : GoodIn wsL_law wsX4_order := goodIn_r _ [224, 113, 60, 225, 226, 227, 5, 228, 190, 119, 120, 121, 122, 123, 124, 125, 505, 506, 507, 508, 509, 510, 511, 512, 513, 514, 515, 516, 517, 518, 519, 520, 521, 522, 523, 524, 525, 526] (by decide +kernel) (by decide +kernel)
set_option maxRecDepth 20000 in
theorem gL_law_X4_order : GoodIn wsL_law (wsV RL 85 RX4 yX4_order wsX4_order) := goodIn_app (goodIn_of _ (by decide +kernel)) ggL_law_X4_order
set_option maxRecDepth 20000 in
theorem ggL_law_L_play : GoodIn wsL_law wsL_play := goodIn_ca (goodIn_ca (goodIn_r _ [231, 75, 76, 232, 233, 234, 2, 235, 83, 84, 29, 23, 22, 236, 237, 238, 81, 82, 85, 86, 87, 239, 240, 241, 242, 243, 183, 184, 185, 24, 244, 245, 246, 247, 248, 249, 250, 251, 18, 16, 148, 149, 150, 151, 152, 153, 21, 154, 43, 155, 156, 157, 158, 40, 159, 160, 161, 162, 163, 164, 165, 166, 167, 168, 39, 99, 100, 98, 252, 253, 254, 15, 255, 96, 97, 92, 93, 94, 95, 33, 34, 170, 171, 172, 173, 256, 257, 169, 258, 259, 260, 261, 262, 213, 214, 215, 216, 42, 263, 264, 265, 266, 267, 268, 269, 270, 271, 272, 273, 274, 41, 275, 179, 180, 181, 182, 276, 277, 278, 279, 280, 281, 282, 283, 284, 285, 286, 287, 288, 289, 290, 291, 292, 293, 294, 295, 296, 297, 298, 498, 499, 500, 501, 502, 503, 504, 530, 531, 532, 533, 534, 527, 528, 529] (by decide +kernel) (by decide +kernel)) (goodIn_sub (fun _ h => List.mem_append_left _ (List.mem_append_right _ h)) (by decide +kernel))) (goodIn_sub (fun _ h => List.mem_append_left _ (List.mem_append_left _ (List.mem_append_right _ h))) (by decide +kernel))
set_option maxRecDepth 20000 in
theorem gL_law_L_play : GoodIn wsL_law (va_wsS RL 86 yL_play wsL_play) := goodIn_app (goodIn_of _ (by decide +kernel)) ggL_law_L_play
set_option maxRecDepth 20000 in
theorem ggL_law_X4_play : GoodIn wsL_law wsX4_play := goodIn_r _ [302, 113, 114, 61, 59, 60, 119, 120, 5, 121, 122, 123, 124, 125, 303, 304, 305, 306, 190, 67, 57, 65, 58, 66, 62, 56, 191, 192, 193, 194, 307, 308, 309, 310, 69, 55, 195, 196, 197, 198, 311, 312, 313, 314, 54, 315, 316, 317, 318, 68, 319, 320, 321, 322, 323, 324, 325, 326, 327, 328, 329, 330, 331, 332, 333, 334, 505, 506, 507, 508, 509, 510, 511, 512, 513, 514, 515, 516, 517, 518, 519, 520, 521, 522, 523, 524, 525, 526] (by decide +kernel) (by decide +kernel)
set_option maxRecDepth 20000 in
theorem gL_law_X4_play : GoodIn wsL_law (wsV RL 89 RX4 yX4_play wsX4_play) := goodIn_app (goodIn_of _ (by decide +kernel)) ggL_law_X4_play
set_option maxRecDepth 20000 in
theorem ggL_law_X3_played : GoodIn wsL_law wsX3_played := goodIn_r _ [338, 29, 498, 499, 500, 501, 502, 503, 504] (by decide +kernel) (by decide +kernel)
set_option maxRecDepth 20000 in
theorem gL_law_X3_played : GoodIn wsL_law (wsV RL 90 RX3 yX3_played wsX3_played) := goodIn_app (goodIn_of _ (by decide +kernel)) ggL_law_X3_played
set_option maxRecDepth 20000 in
theorem ggL_law_X4_played : GoodIn wsL_law wsX4_played := goodIn_r _ [342, 113, 114, 505, 506, 507, 508, 509, 510, 511, 512, 513, 514, 515, 516, 517, 518, 519, 520, 521, 522, 523, 524, 525, 526] (by decide +kernel) (by decide +kernel)
set_option maxRecDepth 20000 in
theorem gL_law_X4_played : GoodIn wsL_law (wsV RL 93 RX4 yX4_played wsX4_played) := goodIn_app (goodIn_of _ (by decide +kernel)) ggL_law_X4_played
set_option maxRecDepth 20000 in
theorem ggL_law_L_rule : GoodIn wsL_law wsL_rule := goodIn_ca (goodIn_ca (goodIn_r _ [345, 202, 75, 346, 347, 348, 2, 349, 28, 23, 22, 29, 350, 351, 352, 353, 211, 212, 354, 355, 184, 356, 85, 86, 87, 236, 237, 238, 81, 82, 357, 358, 359, 27, 360, 49, 361, 362, 363, 364, 47, 48, 365, 366, 367, 21, 368, 43, 155, 156, 157, 158, 40, 159, 160, 161, 162, 163, 164, 369, 272, 273, 274, 41, 178, 179, 180, 181, 182, 183, 185, 239, 240, 241, 242, 243, 24, 244, 245, 246, 247, 248, 249, 250, 251, 18, 16, 148, 149, 150, 151, 152, 153, 154, 165, 166, 167, 168, 39, 99, 100, 98, 252, 253, 254, 15, 255, 96, 97, 92, 93, 94, 95, 33, 34, 170, 171, 172, 173, 256, 257, 169, 258, 259, 260, 261, 262, 213, 214, 215, 216, 42, 263, 264, 265, 266, 267, 268, 269, 270, 271, 275, 276, 277, 278, 279, 280, 281, 282, 283, 284, 285, 286, 287, 288, 289, 290, 291, 292, 293, 294, 370, 371, 372, 373, 498, 499, 500, 501, 502, 503, 504, 535, 536, 537, 530, 531, 532, 533, 534, 527, 528, 529] (by decide +kernel) (by decide +kernel)) (goodIn_sub (fun _ h => List.mem_append_right _ h) (by decide +kernel))) (goodIn_sub (fun _ h => List.mem_append_left _ (List.mem_append_left _ (List.mem_append_right _ h))) (by decide +kernel))
set_option maxRecDepth 20000 in
theorem gL_law_L_rule : GoodIn wsL_law (va_wsS RL 94 yL_rule wsL_rule) := goodIn_app (goodIn_of _ (by decide +kernel)) ggL_law_L_rule
set_option maxRecDepth 20000 in
theorem ggL_law_X4_rule : GoodIn wsL_law wsX4_rule := goodIn_r _ [377, 113, 114, 63, 378, 64, 61, 119, 120, 5, 121, 122, 123, 124, 125, 379, 380, 381, 382, 190, 70, 57, 58, 303, 304, 305, 306, 67, 65, 66, 62, 56, 191, 192, 193, 194, 307, 308, 309, 310, 69, 55, 195, 196, 197, 198, 311, 312, 313, 314, 54, 315, 316, 317, 318, 59, 68, 319, 320, 321, 322, 323, 324, 325, 326, 327, 328, 329, 330, 505, 506, 507, 508, 509, 510, 511, 512, 513, 514, 515, 516, 517, 518, 519, 520, 521, 522, 523, 524, 525, 526] (by decide +kernel) (by decide +kernel)
set_option maxRecDepth 20000 in
theorem gL_law_X4_rule : GoodIn wsL_law (wsV RL 96 RX4 yX4_rule wsX4_rule) := goodIn_app (goodIn_of _ (by decide +kernel)) ggL_law_X4_rule
set_option maxRecDepth 20000 in
theorem ggL_law_L_appeal : GoodIn wsL_law wsL_appeal := goodIn_ca (goodIn_r _ [385, 76, 386, 387, 388, 2, 389, 83, 84, 28, 23, 390, 391, 392, 27, 393, 49, 47, 86, 87, 85, 394, 395, 396, 397, 48, 398, 399, 400, 401, 239, 240, 241, 242, 243, 183, 184, 185, 29, 24, 244, 245, 246, 247, 22, 248, 249, 250, 251, 18, 16, 148, 149, 150, 151, 152, 153, 21, 154, 43, 155, 156, 157, 158, 40, 159, 160, 161, 162, 163, 164, 165, 166, 167, 168, 39, 99, 100, 98, 252, 253, 254, 15, 255, 96, 97, 92, 93, 94, 95, 33, 34, 170, 171, 172, 173, 256, 257, 169, 258, 259, 260, 261, 262, 213, 214, 215, 216, 42, 263, 264, 265, 266, 267, 268, 269, 270, 271, 272, 273, 274, 41, 275, 179, 180, 181, 182, 276, 277, 278, 279, 280, 281, 282, 283, 284, 285, 286, 287, 288, 289, 290, 291, 292, 293, 294, 498, 499, 500, 501, 502, 503, 504, 535, 536, 537, 530, 531, 532, 533, 534, 527, 528, 529] (by decide +kernel) (by decide +kernel)) (goodIn_sub (fun _ h => List.mem_append_left _ (List.mem_append_right _ h)) (by decide +kernel))
set_option maxRecDepth 20000 in
theorem gL_law_L_appeal : GoodIn wsL_law (va_wsS RL 97 yL_appeal wsL_appeal) := goodIn_app (goodIn_of _ (by decide +kernel)) ggL_law_L_appeal
set_option maxRecDepth 20000 in
theorem ggL_law_X4_appeal : GoodIn wsL_law wsX4_appeal := goodIn_r _ [405, 113, 378, 63, 64, 122, 123, 124, 5, 125, 379, 380, 381, 382, 61, 190, 70, 57, 114, 58, 303, 304, 305, 306, 67, 65, 66, 62, 56, 191, 192, 193, 194, 307, 308, 309, 310, 69, 55, 195, 196, 197, 198, 311, 312, 313, 314, 54, 315, 316, 317, 318, 59, 68, 319, 320, 321, 322, 323, 324, 325, 326, 327, 328, 329, 330, 505, 506, 507, 508, 509, 510, 511, 512, 513, 514, 515, 516, 517, 518, 519, 520, 521, 522, 523, 524, 525, 526] (by decide +kernel) (by decide +kernel)
set_option maxRecDepth 20000 in
theorem gL_law_X4_appeal : GoodIn wsL_law (wsV RL 100 RX4 yX4_appeal wsX4_appeal) := goodIn_app (goodIn_of _ (by decide +kernel)) ggL_law_X4_appeal
set_option maxRecDepth 20000 in
theorem ggL_law_L_townOf : GoodIn wsL_law wsL_townOf := goodIn_ca (goodIn_r _ [408, 202, 409, 410, 411, 2, 412, 22, 29, 207, 208, 209, 210, 211, 212, 170, 171, 172, 21, 173, 43, 85, 86, 87, 257, 156, 157, 158, 40, 159, 160, 161, 162, 163, 164, 498, 499, 500, 501, 502, 503, 504, 530, 531, 532, 533, 534] (by decide +kernel) (by decide +kernel)) (goodIn_sub (fun _ h => List.mem_append_right _ h) (by decide +kernel))
set_option maxRecDepth 20000 in
theorem gL_law_L_townOf : GoodIn wsL_law (va_wsS RL 101 yL_townOf wsL_townOf) := goodIn_app (goodIn_of _ (by decide +kernel)) ggL_law_L_townOf
set_option maxRecDepth 20000 in
theorem ggL_law_X4_townOf : GoodIn wsL_law wsX4_townOf := goodIn_r _ [416, 113, 57, 114, 225, 226, 227, 5, 228, 190, 119, 120, 121, 122, 123, 124, 125, 505, 506, 507, 508, 509, 510, 511, 512, 513, 514, 515, 516, 517, 518, 519, 520, 521, 522, 523, 524, 525, 526] (by decide +kernel) (by decide +kernel)
set_option maxRecDepth 20000 in
theorem gL_law_X4_townOf : GoodIn wsL_law (wsV RL 103 RX4 yX4_townOf wsX4_townOf) := goodIn_app (goodIn_of _ (by decide +kernel)) ggL_law_X4_townOf
set_option maxRecDepth 20000 in
theorem ggL_law_L_strength : GoodIn wsL_law wsL_strength := goodIn_ca (goodIn_r _ [419, 202, 420, 421, 422, 2, 423, 22, 29, 207, 208, 209, 210, 211, 212, 170, 171, 172, 21, 173, 43, 85, 86, 87, 271, 272, 273, 274, 41, 159, 160, 161, 162, 163, 164, 498, 499, 500, 501, 502, 503, 504, 530, 531, 532, 533, 534] (by decide +kernel) (by decide +kernel)) (goodIn_sub (fun _ h => List.mem_append_right _ h) (by decide +kernel))
set_option maxRecDepth 20000 in
theorem gL_law_L_strength : GoodIn wsL_law (va_wsS RL 104 yL_strength wsL_strength) := goodIn_app (goodIn_of _ (by decide +kernel)) ggL_law_L_strength
set_option maxRecDepth 20000 in
theorem ggL_law_X4_strength : GoodIn wsL_law wsX4_strength := goodIn_r _ [427, 113, 58, 114, 225, 226, 227, 5, 228, 190, 119, 120, 121, 122, 123, 124, 125, 505, 506, 507, 508, 509, 510, 511, 512, 513, 514, 515, 516, 517, 518, 519, 520, 521, 522, 523, 524, 525, 526] (by decide +kernel) (by decide +kernel)
set_option maxRecDepth 20000 in
theorem gL_law_X4_strength : GoodIn wsL_law (wsV RL 106 RX4 yX4_strength wsX4_strength) := goodIn_app (goodIn_of _ (by decide +kernel)) ggL_law_X4_strength
set_option maxRecDepth 20000 in
theorem ggL_law_L_supply : GoodIn wsL_law wsL_supply := goodIn_ca (goodIn_ca (goodIn_r _ [430, 202, 75, 431, 432, 433, 2, 434, 22, 29, 207, 208, 209, 210, 211, 212, 170, 171, 172, 21, 173, 43, 85, 86, 87, 236, 237, 238, 81, 82, 257, 156, 157, 158, 40, 159, 160, 161, 162, 163, 164, 256, 166, 167, 168, 39, 248, 249, 250, 251, 18, 16, 148, 149, 150, 151, 152, 153, 154, 155, 165, 99, 100, 98, 252, 253, 254, 15, 255, 96, 97, 92, 93, 94, 95, 33, 34, 169, 498, 499, 500, 501, 502, 503, 504, 530, 531, 532, 533, 534, 527, 528, 529] (by decide +kernel) (by decide +kernel)) (goodIn_sub (fun _ h => List.mem_append_right _ h) (by decide +kernel))) (goodIn_sub (fun _ h => List.mem_append_left _ (List.mem_append_left _ (List.mem_append_right _ h))) (by decide +kernel))
set_option maxRecDepth 20000 in
theorem gL_law_L_supply : GoodIn wsL_law (va_wsS RL 107 yL_supply wsL_supply) := goodIn_app (goodIn_of _ (by decide +kernel)) ggL_law_L_supply
set_option maxRecDepth 20000 in
theorem ggL_law_X4_supply : GoodIn wsL_law wsX4_supply := goodIn_r _ [438, 113, 114, 225, 226, 227, 5, 228, 190, 119, 120, 121, 122, 123, 124, 125, 191, 192, 193, 194, 65, 57, 66, 58, 307, 308, 309, 310, 56, 69, 55, 195, 196, 197, 198, 311, 312, 313, 314, 54, 505, 506, 507, 508, 509, 510, 511, 512, 513, 514, 515, 516, 517, 518, 519, 520, 521, 522, 523, 524, 525, 526] (by decide +kernel) (by decide +kernel)
set_option maxRecDepth 20000 in
theorem gL_law_X4_supply : GoodIn wsL_law (wsV RL 109 RX4 yX4_supply wsX4_supply) := goodIn_app (goodIn_of _ (by decide +kernel)) ggL_law_X4_supply
set_option maxRecDepth 20000 in
theorem ggL_law_L_townAfter : GoodIn wsL_law wsL_townAfter := goodIn_ca (goodIn_r _ [441, 202, 442, 443, 444, 2, 445, 22, 207, 208, 209, 210, 211, 212, 170, 171, 172, 21, 173, 43, 85, 86, 87, 350, 351, 352, 353, 29, 354, 355, 184, 356, 257, 156, 157, 158, 40, 159, 160, 161, 162, 163, 164, 498, 499, 500, 501, 502, 503, 504, 530, 531, 532, 533, 534] (by decide +kernel) (by decide +kernel)) (goodIn_sub (fun _ h => List.mem_append_right _ h) (by decide +kernel))
set_option maxRecDepth 20000 in
theorem gL_law_L_townAfter : GoodIn wsL_law (va_wsS RL 110 yL_townAfter wsL_townAfter) := goodIn_app (goodIn_of _ (by decide +kernel)) ggL_law_L_townAfter
set_option maxRecDepth 20000 in
theorem ggL_law_X4_townAfter : GoodIn wsL_law wsX4_townAfter := goodIn_r _ [449, 113, 114, 57, 225, 226, 227, 5, 228, 190, 119, 120, 121, 122, 123, 124, 125, 505, 506, 507, 508, 509, 510, 511, 512, 513, 514, 515, 516, 517, 518, 519, 520, 521, 522, 523, 524, 525, 526] (by decide +kernel) (by decide +kernel)
set_option maxRecDepth 20000 in
theorem gL_law_X4_townAfter : GoodIn wsL_law (wsV RL 112 RX4 yX4_townAfter wsX4_townAfter) := goodIn_app (goodIn_of _ (by decide +kernel)) ggL_law_X4_townAfter
set_option maxRecDepth 20000 in
theorem ggL_law_L_reported : GoodIn wsL_law wsL_reported := goodIn_ca (goodIn_ca (goodIn_r _ [452, 75, 202, 453, 454, 455, 2, 456, 211, 212, 22, 29, 354, 355, 184, 356, 24, 457, 458, 459, 81, 82, 85, 86, 87, 207, 208, 209, 210, 170, 171, 172, 21, 173, 43, 256, 166, 167, 168, 39, 169, 96, 97, 98, 99, 100, 257, 156, 157, 158, 40, 159, 160, 161, 162, 163, 164, 498, 499, 500, 501, 502, 503, 504, 530, 531, 532, 533, 534] (by decide +kernel) (by decide +kernel)) (goodIn_sub (fun _ h => List.mem_append_right _ h) (by decide +kernel))) (goodIn_sub (fun _ h => List.mem_append_left _ (List.mem_append_left _ (List.mem_append_right _ h))) (by decide +kernel))
set_option maxRecDepth 20000 in
theorem gL_law_L_reported : GoodIn wsL_law (va_wsS RL 113 yL_reported wsL_reported) := goodIn_app (goodIn_of _ (by decide +kernel)) ggL_law_L_reported
set_option maxRecDepth 20000 in
theorem ggL_law_X4_reported : GoodIn wsL_law wsX4_reported := goodIn_r _ [463, 113, 56, 114, 62, 119, 120, 5, 121, 122, 123, 124, 125, 225, 226, 227, 228, 190, 505, 506, 507, 508, 509, 510, 511, 512, 513, 514, 515, 516, 517, 518, 519, 520, 521, 522, 523, 524, 525, 526] (by decide +kernel) (by decide +kernel)
set_option maxRecDepth 20000 in
theorem gL_law_X4_reported : GoodIn wsL_law (wsV RL 115 RX4 yX4_reported wsX4_reported) := goodIn_app (goodIn_of _ (by decide +kernel)) ggL_law_X4_reported
set_option maxRecDepth 20000 in
theorem ggL_law_L_force : GoodIn wsL_law wsL_force := goodIn_ca (goodIn_r _ [466, 75, 467, 468, 469, 2, 470, 22, 29, 457, 458, 459, 81, 82, 85, 86, 87, 170, 171, 172, 21, 173, 43, 256, 166, 167, 168, 39, 271, 272, 273, 274, 41, 159, 160, 161, 162, 163, 164, 498, 499, 500, 501, 502, 503, 504, 530, 531, 532, 533, 534] (by decide +kernel) (by decide +kernel)) (goodIn_sub (fun _ h => List.mem_append_left _ (List.mem_append_left _ (List.mem_append_right _ h))) (by decide +kernel))
set_option maxRecDepth 20000 in
theorem gL_law_L_force : GoodIn wsL_law (va_wsS RL 116 yL_force wsL_force) := goodIn_app (goodIn_of _ (by decide +kernel)) ggL_law_L_force
set_option maxRecDepth 20000 in
theorem ggL_law_X4_force : GoodIn wsL_law wsX4_force := goodIn_r _ [474, 113, 190, 56, 58, 114, 119, 120, 5, 121, 122, 123, 124, 125, 505, 506, 507, 508, 509, 510, 511, 512, 513, 514, 515, 516, 517, 518, 519, 520, 521, 522, 523, 524, 525, 526] (by decide +kernel) (by decide +kernel)
set_option maxRecDepth 20000 in
theorem gL_law_X4_force : GoodIn wsL_law (wsV RL 118 RX4 yX4_force wsX4_force) := goodIn_app (goodIn_of _ (by decide +kernel)) ggL_law_X4_force
set_option maxRecDepth 20000 in
theorem ggL_law_L_weather : GoodIn wsL_law wsL_weather := goodIn_ca (goodIn_r _ [477, 202, 478, 479, 480, 2, 481, 23, 350, 351, 352, 353, 211, 212, 29, 354, 355, 184, 356, 85, 86, 87, 498, 499, 500, 501, 502, 503, 504] (by decide +kernel) (by decide +kernel)) (goodIn_sub (fun _ h => List.mem_append_right _ h) (by decide +kernel))
set_option maxRecDepth 20000 in
theorem gL_law_L_weather : GoodIn wsL_law (va_wsS RL 119 yL_weather wsL_weather) := goodIn_app (goodIn_of _ (by decide +kernel)) ggL_law_L_weather
set_option maxRecDepth 20000 in
theorem ggL_law_X4_weather : GoodIn wsL_law wsX4_weather := goodIn_r _ [485, 113, 114, 61, 119, 120, 5, 121, 122, 123, 124, 125, 505, 506, 507, 508, 509, 510, 511, 512, 513, 514, 515, 516, 517, 518, 519, 520, 521, 522, 523, 524, 525, 526] (by decide +kernel) (by decide +kernel)
set_option maxRecDepth 20000 in
theorem gL_law_X4_weather : GoodIn wsL_law (wsV RL 121 RX4 yX4_weather wsX4_weather) := goodIn_app (goodIn_of _ (by decide +kernel)) ggL_law_X4_weather
set_option maxRecDepth 20000 in
theorem ggL_law_X3_rulings : GoodIn wsL_law wsX3_rulings := goodIn_r _ [489, 28, 490, 491, 492, 27, 493, 49, 498, 499, 500, 501, 502, 503, 504, 535, 536, 537] (by decide +kernel) (by decide +kernel)
set_option maxRecDepth 20000 in
theorem gL_law_X3_rulings : GoodIn wsL_law (wsV RL 122 RX3 yX3_rulings wsX3_rulings) := goodIn_app (goodIn_of _ (by decide +kernel)) ggL_law_X3_rulings
set_option maxRecDepth 20000 in
theorem ggL_law_X4_rulings : GoodIn wsL_law wsX4_rulings := goodIn_r _ [497, 113, 378, 505, 506, 507, 508, 509, 510, 511, 512, 513, 514, 515, 516, 517, 518, 519, 520, 521, 522, 523, 524, 525, 526] (by decide +kernel) (by decide +kernel)
set_option maxRecDepth 20000 in
theorem gL_law_X4_rulings : GoodIn wsL_law (wsV RL 125 RX4 yX4_rulings wsX4_rulings) := goodIn_app (goodIn_of _ (by decide +kernel)) ggL_law_X4_rulings
end
section
theorem dL_law_0 : decode cL_law 0 = .ok (.new 8, 3) := by decide +kernel
theorem dL_law_3 : decode cL_law 3 = .ok (.dup, 1) := by decide +kernel
theorem dL_law_4 : decode cL_law 4 = .ok (.invokespecial 62, 3) := by decide +kernel
theorem dL_law_7 : decode cL_law 7 = .ok (.astore_n 1, 1) := by decide +kernel
theorem dL_law_8 : decode cL_law 8 = .ok (.new 63, 3) := by decide +kernel
theorem dL_law_11 : decode cL_law 11 = .ok (.dup, 1) := by decide +kernel
theorem dL_law_12 : decode cL_law 12 = .ok (.invokespecial 65, 3) := by decide +kernel
theorem dL_law_15 : decode cL_law 15 = .ok (.astore_n 2, 1) := by decide +kernel
theorem dL_law_16 : decode cL_law 16 = .ok (.iconst 1, 1) := by decide +kernel
theorem dL_law_17 : decode cL_law 17 = .ok (.newarray .long, 2) := by decide +kernel
theorem dL_law_19 : decode cL_law 19 = .ok (.astore_n 3, 1) := by decide +kernel
theorem dL_law_20 : decode cL_law 20 = .ok (.iconst 0, 1) := by decide +kernel
theorem dL_law_21 : decode cL_law 21 = .ok (.istore 4, 2) := by decide +kernel
theorem dL_law_23 : decode cL_law 23 = .ok (.iload 4, 2) := by decide +kernel
theorem dL_law_25 : decode cL_law 25 = .ok (.aload_n 0, 1) := by decide +kernel
theorem dL_law_26 : decode cL_law 26 = .ok (.arraylength, 1) := by decide +kernel
theorem dL_law_27 : decode cL_law 27 = .ok (.iconst 4, 1) := by decide +kernel
theorem dL_law_28 : decode cL_law 28 = .ok (.isub, 1) := by decide +kernel
theorem dL_law_29 : decode cL_law 29 = .ok (.if_icmp .gt 1027, 3) := by decide +kernel
theorem dL_law_32 : decode cL_law 32 = .ok (.aload_n 0, 1) := by decide +kernel
theorem dL_law_33 : decode cL_law 33 = .ok (.iload 4, 2) := by decide +kernel
theorem dL_law_35 : decode cL_law 35 = .ok (.iaload, 1) := by decide +kernel
theorem dL_law_36 : decode cL_law 36 = .ok (.bipush 15, 2) := by decide +kernel
theorem dL_law_38 : decode cL_law 38 = .ok (.iand, 1) := by decide +kernel
theorem dL_law_39 : decode cL_law 39 = .ok (.tableswitch 1011 0 15 #[77, 173, 241, 321, 389, 445, 458, 526, 570, 626, 682, 750, 818, 886, 942, 998], 77) := by decide +kernel
theorem dL_law_116 : decode cL_law 116 = .ok (.aload_n 1, 1) := by decide +kernel
theorem dL_law_117 : decode cL_law 117 = .ok (.aload_n 0, 1) := by decide +kernel
theorem dL_law_118 : decode cL_law 118 = .ok (.iload 4, 2) := by decide +kernel
theorem dL_law_120 : decode cL_law 120 = .ok (.iconst 1, 1) := by decide +kernel
theorem dL_law_121 : decode cL_law 121 = .ok (.iadd, 1) := by decide +kernel
theorem dL_law_122 : decode cL_law 122 = .ok (.iaload, 1) := by decide +kernel
theorem dL_law_123 : decode cL_law 123 = .ok (.aload_n 0, 1) := by decide +kernel
theorem dL_law_124 : decode cL_law 124 = .ok (.iload 4, 2) := by decide +kernel
theorem dL_law_126 : decode cL_law 126 = .ok (.iconst 2, 1) := by decide +kernel
theorem dL_law_127 : decode cL_law 127 = .ok (.iadd, 1) := by decide +kernel
theorem dL_law_128 : decode cL_law 128 = .ok (.iaload, 1) := by decide +kernel
theorem dL_law_129 : decode cL_law 129 = .ok (.aload_n 0, 1) := by decide +kernel
theorem dL_law_130 : decode cL_law 130 = .ok (.iload 4, 2) := by decide +kernel
theorem dL_law_132 : decode cL_law 132 = .ok (.iconst 3, 1) := by decide +kernel
theorem dL_law_133 : decode cL_law 133 = .ok (.iadd, 1) := by decide +kernel
theorem dL_law_134 : decode cL_law 134 = .ok (.iaload, 1) := by decide +kernel
theorem dL_law_135 : decode cL_law 135 = .ok (.ifCond .eq 7, 3) := by decide +kernel
theorem dL_law_138 : decode cL_law 138 = .ok (.iconst 1, 1) := by decide +kernel
theorem dL_law_139 : decode cL_law 139 = .ok (.goto 4, 3) := by decide +kernel
theorem dL_law_142 : decode cL_law 142 = .ok (.iconst 0, 1) := by decide +kernel
theorem dL_law_143 : decode cL_law 143 = .ok (.aload_n 3, 1) := by decide +kernel
theorem dL_law_144 : decode cL_law 144 = .ok (.invokestatic 66, 3) := by decide +kernel
theorem dL_law_147 : decode cL_law 147 = .ok (.istore 5, 2) := by decide +kernel
theorem dL_law_149 : decode cL_law 149 = .ok (.aload_n 2, 1) := by decide +kernel
theorem dL_law_150 : decode cL_law 150 = .ok (.aload_n 0, 1) := by decide +kernel
theorem dL_law_151 : decode cL_law 151 = .ok (.iload 4, 2) := by decide +kernel
theorem dL_law_153 : decode cL_law 153 = .ok (.iconst 1, 1) := by decide +kernel
theorem dL_law_154 : decode cL_law 154 = .ok (.iadd, 1) := by decide +kernel
theorem dL_law_155 : decode cL_law 155 = .ok (.iaload, 1) := by decide +kernel
theorem dL_law_156 : decode cL_law 156 = .ok (.aload_n 0, 1) := by decide +kernel
theorem dL_law_157 : decode cL_law 157 = .ok (.iload 4, 2) := by decide +kernel
theorem dL_law_159 : decode cL_law 159 = .ok (.iconst 2, 1) := by decide +kernel
theorem dL_law_160 : decode cL_law 160 = .ok (.iadd, 1) := by decide +kernel
theorem dL_law_161 : decode cL_law 161 = .ok (.iaload, 1) := by decide +kernel
theorem dL_law_162 : decode cL_law 162 = .ok (.aload_n 0, 1) := by decide +kernel
theorem dL_law_163 : decode cL_law 163 = .ok (.iload 4, 2) := by decide +kernel
theorem dL_law_165 : decode cL_law 165 = .ok (.iconst 3, 1) := by decide +kernel
theorem dL_law_166 : decode cL_law 166 = .ok (.iadd, 1) := by decide +kernel
theorem dL_law_167 : decode cL_law 167 = .ok (.iaload, 1) := by decide +kernel
theorem dL_law_168 : decode cL_law 168 = .ok (.ifCond .eq 7, 3) := by decide +kernel
theorem dL_law_171 : decode cL_law 171 = .ok (.iconst 1, 1) := by decide +kernel
theorem dL_law_172 : decode cL_law 172 = .ok (.goto 4, 3) := by decide +kernel
theorem dL_law_175 : decode cL_law 175 = .ok (.iconst 0, 1) := by decide +kernel
theorem dL_law_176 : decode cL_law 176 = .ok (.invokevirtual 71, 3) := by decide +kernel
theorem dL_law_179 : decode cL_law 179 = .ok (.istore 6, 2) := by decide +kernel
theorem dL_law_181 : decode cL_law 181 = .ok (.aload_n 2, 1) := by decide +kernel
theorem dL_law_182 : decode cL_law 182 = .ok (.invokevirtual 72, 3) := by decide +kernel
theorem dL_law_185 : decode cL_law 185 = .ok (.iload 5, 2) := by decide +kernel
theorem dL_law_187 : decode cL_law 187 = .ok (.if_icmp .eq 5, 3) := by decide +kernel
theorem dL_law_190 : decode cL_law 190 = .ok (.iconst 0, 1) := by decide +kernel
theorem dL_law_191 : decode cL_law 191 = .ok (.ireturn, 1) := by decide +kernel
theorem dL_law_192 : decode cL_law 192 = .ok (.iload 5, 2) := by decide +kernel
theorem dL_law_194 : decode cL_law 194 = .ok (.ifCond .ne 15, 3) := by decide +kernel
theorem dL_law_197 : decode cL_law 197 = .ok (.aload_n 3, 1) := by decide +kernel
theorem dL_law_198 : decode cL_law 198 = .ok (.iconst 0, 1) := by decide +kernel
theorem dL_law_199 : decode cL_law 199 = .ok (.laload, 1) := by decide +kernel
theorem dL_law_200 : decode cL_law 200 = .ok (.iload 6, 2) := by decide +kernel
theorem dL_law_202 : decode cL_law 202 = .ok (.i2l, 1) := by decide +kernel
theorem dL_law_203 : decode cL_law 203 = .ok (.lcmp, 1) := by decide +kernel
theorem dL_law_204 : decode cL_law 204 = .ok (.ifCond .eq 5, 3) := by decide +kernel
theorem dL_law_207 : decode cL_law 207 = .ok (.iconst 0, 1) := by decide +kernel
theorem dL_law_208 : decode cL_law 208 = .ok (.ireturn, 1) := by decide +kernel
theorem dL_law_209 : decode cL_law 209 = .ok (.goto 841, 3) := by decide +kernel
theorem dL_law_212 : decode cL_law 212 = .ok (.aload_n 1, 1) := by decide +kernel
theorem dL_law_213 : decode cL_law 213 = .ok (.aload_n 0, 1) := by decide +kernel
theorem dL_law_214 : decode cL_law 214 = .ok (.iload 4, 2) := by decide +kernel
theorem dL_law_216 : decode cL_law 216 = .ok (.iconst 1, 1) := by decide +kernel
theorem dL_law_217 : decode cL_law 217 = .ok (.iadd, 1) := by decide +kernel
theorem dL_law_218 : decode cL_law 218 = .ok (.iaload, 1) := by decide +kernel
theorem dL_law_219 : decode cL_law 219 = .ok (.aload_n 0, 1) := by decide +kernel
theorem dL_law_220 : decode cL_law 220 = .ok (.iload 4, 2) := by decide +kernel
theorem dL_law_222 : decode cL_law 222 = .ok (.iconst 2, 1) := by decide +kernel
theorem dL_law_223 : decode cL_law 223 = .ok (.iadd, 1) := by decide +kernel
theorem dL_law_224 : decode cL_law 224 = .ok (.iaload, 1) := by decide +kernel
theorem dL_law_225 : decode cL_law 225 = .ok (.aload_n 3, 1) := by decide +kernel
theorem dL_law_226 : decode cL_law 226 = .ok (.invokestatic 75, 3) := by decide +kernel
theorem dL_law_229 : decode cL_law 229 = .ok (.istore 5, 2) := by decide +kernel
theorem dL_law_231 : decode cL_law 231 = .ok (.aload_n 2, 1) := by decide +kernel
theorem dL_law_232 : decode cL_law 232 = .ok (.aload_n 0, 1) := by decide +kernel
theorem dL_law_233 : decode cL_law 233 = .ok (.iload 4, 2) := by decide +kernel
theorem dL_law_235 : decode cL_law 235 = .ok (.iconst 1, 1) := by decide +kernel
theorem dL_law_236 : decode cL_law 236 = .ok (.iadd, 1) := by decide +kernel
theorem dL_law_237 : decode cL_law 237 = .ok (.iaload, 1) := by decide +kernel
theorem dL_law_238 : decode cL_law 238 = .ok (.aload_n 0, 1) := by decide +kernel
theorem dL_law_239 : decode cL_law 239 = .ok (.iload 4, 2) := by decide +kernel
end
section
theorem dL_law_241 : decode cL_law 241 = .ok (.iconst 2, 1) := by decide +kernel
theorem dL_law_242 : decode cL_law 242 = .ok (.iadd, 1) := by decide +kernel
theorem dL_law_243 : decode cL_law 243 = .ok (.iaload, 1) := by decide +kernel
theorem dL_law_244 : decode cL_law 244 = .ok (.invokevirtual 78, 3) := by decide +kernel
theorem dL_law_247 : decode cL_law 247 = .ok (.istore 6, 2) := by decide +kernel
theorem dL_law_249 : decode cL_law 249 = .ok (.aload_n 2, 1) := by decide +kernel
theorem dL_law_250 : decode cL_law 250 = .ok (.invokevirtual 72, 3) := by decide +kernel
theorem dL_law_253 : decode cL_law 253 = .ok (.iload 5, 2) := by decide +kernel
theorem dL_law_255 : decode cL_law 255 = .ok (.if_icmp .eq 5, 3) := by decide +kernel
theorem dL_law_258 : decode cL_law 258 = .ok (.iconst 0, 1) := by decide +kernel
theorem dL_law_259 : decode cL_law 259 = .ok (.ireturn, 1) := by decide +kernel
theorem dL_law_260 : decode cL_law 260 = .ok (.iload 5, 2) := by decide +kernel
theorem dL_law_262 : decode cL_law 262 = .ok (.ifCond .ne 15, 3) := by decide +kernel
theorem dL_law_265 : decode cL_law 265 = .ok (.aload_n 3, 1) := by decide +kernel
theorem dL_law_266 : decode cL_law 266 = .ok (.iconst 0, 1) := by decide +kernel
theorem dL_law_267 : decode cL_law 267 = .ok (.laload, 1) := by decide +kernel
theorem dL_law_268 : decode cL_law 268 = .ok (.iload 6, 2) := by decide +kernel
theorem dL_law_270 : decode cL_law 270 = .ok (.i2l, 1) := by decide +kernel
theorem dL_law_271 : decode cL_law 271 = .ok (.lcmp, 1) := by decide +kernel
theorem dL_law_272 : decode cL_law 272 = .ok (.ifCond .eq 5, 3) := by decide +kernel
theorem dL_law_275 : decode cL_law 275 = .ok (.iconst 0, 1) := by decide +kernel
theorem dL_law_276 : decode cL_law 276 = .ok (.ireturn, 1) := by decide +kernel
theorem dL_law_277 : decode cL_law 277 = .ok (.goto 773, 3) := by decide +kernel
theorem dL_law_280 : decode cL_law 280 = .ok (.aload_n 1, 1) := by decide +kernel
theorem dL_law_281 : decode cL_law 281 = .ok (.aload_n 0, 1) := by decide +kernel
theorem dL_law_282 : decode cL_law 282 = .ok (.iload 4, 2) := by decide +kernel
theorem dL_law_284 : decode cL_law 284 = .ok (.iconst 1, 1) := by decide +kernel
theorem dL_law_285 : decode cL_law 285 = .ok (.iadd, 1) := by decide +kernel
theorem dL_law_286 : decode cL_law 286 = .ok (.iaload, 1) := by decide +kernel
theorem dL_law_287 : decode cL_law 287 = .ok (.aload_n 0, 1) := by decide +kernel
theorem dL_law_288 : decode cL_law 288 = .ok (.iload 4, 2) := by decide +kernel
theorem dL_law_290 : decode cL_law 290 = .ok (.iconst 2, 1) := by decide +kernel
theorem dL_law_291 : decode cL_law 291 = .ok (.iadd, 1) := by decide +kernel
theorem dL_law_292 : decode cL_law 292 = .ok (.iaload, 1) := by decide +kernel
theorem dL_law_293 : decode cL_law 293 = .ok (.aload_n 0, 1) := by decide +kernel
theorem dL_law_294 : decode cL_law 294 = .ok (.iload 4, 2) := by decide +kernel
theorem dL_law_296 : decode cL_law 296 = .ok (.iconst 3, 1) := by decide +kernel
theorem dL_law_297 : decode cL_law 297 = .ok (.iadd, 1) := by decide +kernel
theorem dL_law_298 : decode cL_law 298 = .ok (.iaload, 1) := by decide +kernel
theorem dL_law_299 : decode cL_law 299 = .ok (.aload_n 3, 1) := by decide +kernel
theorem dL_law_300 : decode cL_law 300 = .ok (.invokestatic 79, 3) := by decide +kernel
theorem dL_law_303 : decode cL_law 303 = .ok (.istore 5, 2) := by decide +kernel
theorem dL_law_305 : decode cL_law 305 = .ok (.aload_n 2, 1) := by decide +kernel
theorem dL_law_306 : decode cL_law 306 = .ok (.aload_n 0, 1) := by decide +kernel
theorem dL_law_307 : decode cL_law 307 = .ok (.iload 4, 2) := by decide +kernel
theorem dL_law_309 : decode cL_law 309 = .ok (.iconst 1, 1) := by decide +kernel
theorem dL_law_310 : decode cL_law 310 = .ok (.iadd, 1) := by decide +kernel
theorem dL_law_311 : decode cL_law 311 = .ok (.iaload, 1) := by decide +kernel
theorem dL_law_312 : decode cL_law 312 = .ok (.aload_n 0, 1) := by decide +kernel
theorem dL_law_313 : decode cL_law 313 = .ok (.iload 4, 2) := by decide +kernel
theorem dL_law_315 : decode cL_law 315 = .ok (.iconst 2, 1) := by decide +kernel
theorem dL_law_316 : decode cL_law 316 = .ok (.iadd, 1) := by decide +kernel
theorem dL_law_317 : decode cL_law 317 = .ok (.iaload, 1) := by decide +kernel
theorem dL_law_318 : decode cL_law 318 = .ok (.aload_n 0, 1) := by decide +kernel
theorem dL_law_319 : decode cL_law 319 = .ok (.iload 4, 2) := by decide +kernel
theorem dL_law_321 : decode cL_law 321 = .ok (.iconst 3, 1) := by decide +kernel
theorem dL_law_322 : decode cL_law 322 = .ok (.iadd, 1) := by decide +kernel
theorem dL_law_323 : decode cL_law 323 = .ok (.iaload, 1) := by decide +kernel
theorem dL_law_324 : decode cL_law 324 = .ok (.invokevirtual 82, 3) := by decide +kernel
theorem dL_law_327 : decode cL_law 327 = .ok (.istore 6, 2) := by decide +kernel
theorem dL_law_329 : decode cL_law 329 = .ok (.aload_n 2, 1) := by decide +kernel
theorem dL_law_330 : decode cL_law 330 = .ok (.invokevirtual 72, 3) := by decide +kernel
theorem dL_law_333 : decode cL_law 333 = .ok (.iload 5, 2) := by decide +kernel
theorem dL_law_335 : decode cL_law 335 = .ok (.if_icmp .eq 5, 3) := by decide +kernel
theorem dL_law_338 : decode cL_law 338 = .ok (.iconst 0, 1) := by decide +kernel
theorem dL_law_339 : decode cL_law 339 = .ok (.ireturn, 1) := by decide +kernel
theorem dL_law_340 : decode cL_law 340 = .ok (.iload 5, 2) := by decide +kernel
theorem dL_law_342 : decode cL_law 342 = .ok (.ifCond .ne 15, 3) := by decide +kernel
theorem dL_law_345 : decode cL_law 345 = .ok (.aload_n 3, 1) := by decide +kernel
theorem dL_law_346 : decode cL_law 346 = .ok (.iconst 0, 1) := by decide +kernel
theorem dL_law_347 : decode cL_law 347 = .ok (.laload, 1) := by decide +kernel
theorem dL_law_348 : decode cL_law 348 = .ok (.iload 6, 2) := by decide +kernel
theorem dL_law_350 : decode cL_law 350 = .ok (.i2l, 1) := by decide +kernel
theorem dL_law_351 : decode cL_law 351 = .ok (.lcmp, 1) := by decide +kernel
theorem dL_law_352 : decode cL_law 352 = .ok (.ifCond .eq 5, 3) := by decide +kernel
theorem dL_law_355 : decode cL_law 355 = .ok (.iconst 0, 1) := by decide +kernel
theorem dL_law_356 : decode cL_law 356 = .ok (.ireturn, 1) := by decide +kernel
theorem dL_law_357 : decode cL_law 357 = .ok (.goto 693, 3) := by decide +kernel
theorem dL_law_360 : decode cL_law 360 = .ok (.aload_n 1, 1) := by decide +kernel
theorem dL_law_361 : decode cL_law 361 = .ok (.aload_n 0, 1) := by decide +kernel
theorem dL_law_362 : decode cL_law 362 = .ok (.iload 4, 2) := by decide +kernel
theorem dL_law_364 : decode cL_law 364 = .ok (.iconst 1, 1) := by decide +kernel
theorem dL_law_365 : decode cL_law 365 = .ok (.iadd, 1) := by decide +kernel
theorem dL_law_366 : decode cL_law 366 = .ok (.iaload, 1) := by decide +kernel
theorem dL_law_367 : decode cL_law 367 = .ok (.aload_n 0, 1) := by decide +kernel
theorem dL_law_368 : decode cL_law 368 = .ok (.iload 4, 2) := by decide +kernel
theorem dL_law_370 : decode cL_law 370 = .ok (.iconst 2, 1) := by decide +kernel
theorem dL_law_371 : decode cL_law 371 = .ok (.iadd, 1) := by decide +kernel
theorem dL_law_372 : decode cL_law 372 = .ok (.iaload, 1) := by decide +kernel
theorem dL_law_373 : decode cL_law 373 = .ok (.aload_n 3, 1) := by decide +kernel
theorem dL_law_374 : decode cL_law 374 = .ok (.invokestatic 83, 3) := by decide +kernel
theorem dL_law_377 : decode cL_law 377 = .ok (.istore 5, 2) := by decide +kernel
theorem dL_law_379 : decode cL_law 379 = .ok (.aload_n 2, 1) := by decide +kernel
theorem dL_law_380 : decode cL_law 380 = .ok (.aload_n 0, 1) := by decide +kernel
theorem dL_law_381 : decode cL_law 381 = .ok (.iload 4, 2) := by decide +kernel
theorem dL_law_383 : decode cL_law 383 = .ok (.iconst 1, 1) := by decide +kernel
theorem dL_law_384 : decode cL_law 384 = .ok (.iadd, 1) := by decide +kernel
theorem dL_law_385 : decode cL_law 385 = .ok (.iaload, 1) := by decide +kernel
theorem dL_law_386 : decode cL_law 386 = .ok (.aload_n 0, 1) := by decide +kernel
theorem dL_law_387 : decode cL_law 387 = .ok (.iload 4, 2) := by decide +kernel
theorem dL_law_389 : decode cL_law 389 = .ok (.iconst 2, 1) := by decide +kernel
theorem dL_law_390 : decode cL_law 390 = .ok (.iadd, 1) := by decide +kernel
theorem dL_law_391 : decode cL_law 391 = .ok (.iaload, 1) := by decide +kernel
theorem dL_law_392 : decode cL_law 392 = .ok (.invokevirtual 85, 3) := by decide +kernel
theorem dL_law_395 : decode cL_law 395 = .ok (.istore 6, 2) := by decide +kernel
theorem dL_law_397 : decode cL_law 397 = .ok (.aload_n 2, 1) := by decide +kernel
theorem dL_law_398 : decode cL_law 398 = .ok (.invokevirtual 72, 3) := by decide +kernel
theorem dL_law_401 : decode cL_law 401 = .ok (.iload 5, 2) := by decide +kernel
theorem dL_law_403 : decode cL_law 403 = .ok (.if_icmp .eq 5, 3) := by decide +kernel
theorem dL_law_406 : decode cL_law 406 = .ok (.iconst 0, 1) := by decide +kernel
end
section
theorem dL_law_407 : decode cL_law 407 = .ok (.ireturn, 1) := by decide +kernel
theorem dL_law_408 : decode cL_law 408 = .ok (.iload 5, 2) := by decide +kernel
theorem dL_law_410 : decode cL_law 410 = .ok (.ifCond .ne 15, 3) := by decide +kernel
theorem dL_law_413 : decode cL_law 413 = .ok (.aload_n 3, 1) := by decide +kernel
theorem dL_law_414 : decode cL_law 414 = .ok (.iconst 0, 1) := by decide +kernel
theorem dL_law_415 : decode cL_law 415 = .ok (.laload, 1) := by decide +kernel
theorem dL_law_416 : decode cL_law 416 = .ok (.iload 6, 2) := by decide +kernel
theorem dL_law_418 : decode cL_law 418 = .ok (.i2l, 1) := by decide +kernel
theorem dL_law_419 : decode cL_law 419 = .ok (.lcmp, 1) := by decide +kernel
theorem dL_law_420 : decode cL_law 420 = .ok (.ifCond .eq 5, 3) := by decide +kernel
theorem dL_law_423 : decode cL_law 423 = .ok (.iconst 0, 1) := by decide +kernel
theorem dL_law_424 : decode cL_law 424 = .ok (.ireturn, 1) := by decide +kernel
theorem dL_law_425 : decode cL_law 425 = .ok (.goto 625, 3) := by decide +kernel
theorem dL_law_428 : decode cL_law 428 = .ok (.aload_n 1, 1) := by decide +kernel
theorem dL_law_429 : decode cL_law 429 = .ok (.aload_n 0, 1) := by decide +kernel
theorem dL_law_430 : decode cL_law 430 = .ok (.iload 4, 2) := by decide +kernel
theorem dL_law_432 : decode cL_law 432 = .ok (.iconst 1, 1) := by decide +kernel
theorem dL_law_433 : decode cL_law 433 = .ok (.iadd, 1) := by decide +kernel
theorem dL_law_434 : decode cL_law 434 = .ok (.iaload, 1) := by decide +kernel
theorem dL_law_435 : decode cL_law 435 = .ok (.aload_n 3, 1) := by decide +kernel
theorem dL_law_436 : decode cL_law 436 = .ok (.invokestatic 86, 3) := by decide +kernel
theorem dL_law_439 : decode cL_law 439 = .ok (.istore 5, 2) := by decide +kernel
theorem dL_law_441 : decode cL_law 441 = .ok (.aload_n 2, 1) := by decide +kernel
theorem dL_law_442 : decode cL_law 442 = .ok (.aload_n 0, 1) := by decide +kernel
theorem dL_law_443 : decode cL_law 443 = .ok (.iload 4, 2) := by decide +kernel
theorem dL_law_445 : decode cL_law 445 = .ok (.iconst 1, 1) := by decide +kernel
theorem dL_law_446 : decode cL_law 446 = .ok (.iadd, 1) := by decide +kernel
theorem dL_law_447 : decode cL_law 447 = .ok (.iaload, 1) := by decide +kernel
theorem dL_law_448 : decode cL_law 448 = .ok (.invokevirtual 89, 3) := by decide +kernel
theorem dL_law_451 : decode cL_law 451 = .ok (.istore 6, 2) := by decide +kernel
theorem dL_law_453 : decode cL_law 453 = .ok (.aload_n 2, 1) := by decide +kernel
theorem dL_law_454 : decode cL_law 454 = .ok (.invokevirtual 72, 3) := by decide +kernel
theorem dL_law_457 : decode cL_law 457 = .ok (.iload 5, 2) := by decide +kernel
theorem dL_law_459 : decode cL_law 459 = .ok (.if_icmp .eq 5, 3) := by decide +kernel
theorem dL_law_462 : decode cL_law 462 = .ok (.iconst 0, 1) := by decide +kernel
theorem dL_law_463 : decode cL_law 463 = .ok (.ireturn, 1) := by decide +kernel
theorem dL_law_464 : decode cL_law 464 = .ok (.iload 5, 2) := by decide +kernel
theorem dL_law_466 : decode cL_law 466 = .ok (.ifCond .ne 15, 3) := by decide +kernel
theorem dL_law_469 : decode cL_law 469 = .ok (.aload_n 3, 1) := by decide +kernel
theorem dL_law_470 : decode cL_law 470 = .ok (.iconst 0, 1) := by decide +kernel
theorem dL_law_471 : decode cL_law 471 = .ok (.laload, 1) := by decide +kernel
theorem dL_law_472 : decode cL_law 472 = .ok (.iload 6, 2) := by decide +kernel
theorem dL_law_474 : decode cL_law 474 = .ok (.i2l, 1) := by decide +kernel
theorem dL_law_475 : decode cL_law 475 = .ok (.lcmp, 1) := by decide +kernel
theorem dL_law_476 : decode cL_law 476 = .ok (.ifCond .eq 5, 3) := by decide +kernel
theorem dL_law_479 : decode cL_law 479 = .ok (.iconst 0, 1) := by decide +kernel
theorem dL_law_480 : decode cL_law 480 = .ok (.ireturn, 1) := by decide +kernel
theorem dL_law_481 : decode cL_law 481 = .ok (.goto 569, 3) := by decide +kernel
theorem dL_law_484 : decode cL_law 484 = .ok (.aload_n 1, 1) := by decide +kernel
theorem dL_law_485 : decode cL_law 485 = .ok (.invokevirtual 90, 3) := by decide +kernel
theorem dL_law_488 : decode cL_law 488 = .ok (.aload_n 2, 1) := by decide +kernel
theorem dL_law_489 : decode cL_law 489 = .ok (.invokevirtual 93, 3) := by decide +kernel
theorem dL_law_492 : decode cL_law 492 = .ok (.if_icmp .eq 558, 3) := by decide +kernel
theorem dL_law_495 : decode cL_law 495 = .ok (.iconst 0, 1) := by decide +kernel
theorem dL_law_496 : decode cL_law 496 = .ok (.ireturn, 1) := by decide +kernel
theorem dL_law_497 : decode cL_law 497 = .ok (.aload_n 1, 1) := by decide +kernel
theorem dL_law_498 : decode cL_law 498 = .ok (.aload_n 0, 1) := by decide +kernel
theorem dL_law_499 : decode cL_law 499 = .ok (.iload 4, 2) := by decide +kernel
theorem dL_law_501 : decode cL_law 501 = .ok (.iconst 1, 1) := by decide +kernel
theorem dL_law_502 : decode cL_law 502 = .ok (.iadd, 1) := by decide +kernel
theorem dL_law_503 : decode cL_law 503 = .ok (.iaload, 1) := by decide +kernel
theorem dL_law_504 : decode cL_law 504 = .ok (.aload_n 0, 1) := by decide +kernel
theorem dL_law_505 : decode cL_law 505 = .ok (.iload 4, 2) := by decide +kernel
theorem dL_law_507 : decode cL_law 507 = .ok (.iconst 2, 1) := by decide +kernel
theorem dL_law_508 : decode cL_law 508 = .ok (.iadd, 1) := by decide +kernel
theorem dL_law_509 : decode cL_law 509 = .ok (.iaload, 1) := by decide +kernel
theorem dL_law_510 : decode cL_law 510 = .ok (.aload_n 3, 1) := by decide +kernel
theorem dL_law_511 : decode cL_law 511 = .ok (.invokestatic 94, 3) := by decide +kernel
theorem dL_law_514 : decode cL_law 514 = .ok (.istore 5, 2) := by decide +kernel
theorem dL_law_516 : decode cL_law 516 = .ok (.aload_n 2, 1) := by decide +kernel
theorem dL_law_517 : decode cL_law 517 = .ok (.aload_n 0, 1) := by decide +kernel
theorem dL_law_518 : decode cL_law 518 = .ok (.iload 4, 2) := by decide +kernel
theorem dL_law_520 : decode cL_law 520 = .ok (.iconst 1, 1) := by decide +kernel
theorem dL_law_521 : decode cL_law 521 = .ok (.iadd, 1) := by decide +kernel
theorem dL_law_522 : decode cL_law 522 = .ok (.iaload, 1) := by decide +kernel
theorem dL_law_523 : decode cL_law 523 = .ok (.aload_n 0, 1) := by decide +kernel
theorem dL_law_524 : decode cL_law 524 = .ok (.iload 4, 2) := by decide +kernel
theorem dL_law_526 : decode cL_law 526 = .ok (.iconst 2, 1) := by decide +kernel
theorem dL_law_527 : decode cL_law 527 = .ok (.iadd, 1) := by decide +kernel
theorem dL_law_528 : decode cL_law 528 = .ok (.iaload, 1) := by decide +kernel
theorem dL_law_529 : decode cL_law 529 = .ok (.invokevirtual 96, 3) := by decide +kernel
theorem dL_law_532 : decode cL_law 532 = .ok (.istore 6, 2) := by decide +kernel
theorem dL_law_534 : decode cL_law 534 = .ok (.aload_n 2, 1) := by decide +kernel
theorem dL_law_535 : decode cL_law 535 = .ok (.invokevirtual 72, 3) := by decide +kernel
theorem dL_law_538 : decode cL_law 538 = .ok (.iload 5, 2) := by decide +kernel
theorem dL_law_540 : decode cL_law 540 = .ok (.if_icmp .eq 5, 3) := by decide +kernel
theorem dL_law_543 : decode cL_law 543 = .ok (.iconst 0, 1) := by decide +kernel
theorem dL_law_544 : decode cL_law 544 = .ok (.ireturn, 1) := by decide +kernel
theorem dL_law_545 : decode cL_law 545 = .ok (.iload 5, 2) := by decide +kernel
theorem dL_law_547 : decode cL_law 547 = .ok (.ifCond .ne 15, 3) := by decide +kernel
theorem dL_law_550 : decode cL_law 550 = .ok (.aload_n 3, 1) := by decide +kernel
theorem dL_law_551 : decode cL_law 551 = .ok (.iconst 0, 1) := by decide +kernel
theorem dL_law_552 : decode cL_law 552 = .ok (.laload, 1) := by decide +kernel
theorem dL_law_553 : decode cL_law 553 = .ok (.iload 6, 2) := by decide +kernel
theorem dL_law_555 : decode cL_law 555 = .ok (.i2l, 1) := by decide +kernel
theorem dL_law_556 : decode cL_law 556 = .ok (.lcmp, 1) := by decide +kernel
theorem dL_law_557 : decode cL_law 557 = .ok (.ifCond .eq 5, 3) := by decide +kernel
theorem dL_law_560 : decode cL_law 560 = .ok (.iconst 0, 1) := by decide +kernel
theorem dL_law_561 : decode cL_law 561 = .ok (.ireturn, 1) := by decide +kernel
theorem dL_law_562 : decode cL_law 562 = .ok (.goto 488, 3) := by decide +kernel
theorem dL_law_565 : decode cL_law 565 = .ok (.aload_n 1, 1) := by decide +kernel
theorem dL_law_566 : decode cL_law 566 = .ok (.aload_n 3, 1) := by decide +kernel
theorem dL_law_567 : decode cL_law 567 = .ok (.invokestatic 97, 3) := by decide +kernel
theorem dL_law_570 : decode cL_law 570 = .ok (.istore 5, 2) := by decide +kernel
theorem dL_law_572 : decode cL_law 572 = .ok (.aload_n 2, 1) := by decide +kernel
theorem dL_law_573 : decode cL_law 573 = .ok (.invokevirtual 100, 3) := by decide +kernel
theorem dL_law_576 : decode cL_law 576 = .ok (.istore 6, 2) := by decide +kernel
theorem dL_law_578 : decode cL_law 578 = .ok (.aload_n 2, 1) := by decide +kernel
theorem dL_law_579 : decode cL_law 579 = .ok (.invokevirtual 72, 3) := by decide +kernel
theorem dL_law_582 : decode cL_law 582 = .ok (.iload 5, 2) := by decide +kernel
end
section
theorem dL_law_584 : decode cL_law 584 = .ok (.if_icmp .eq 5, 3) := by decide +kernel
theorem dL_law_587 : decode cL_law 587 = .ok (.iconst 0, 1) := by decide +kernel
theorem dL_law_588 : decode cL_law 588 = .ok (.ireturn, 1) := by decide +kernel
theorem dL_law_589 : decode cL_law 589 = .ok (.iload 5, 2) := by decide +kernel
theorem dL_law_591 : decode cL_law 591 = .ok (.ifCond .ne 15, 3) := by decide +kernel
theorem dL_law_594 : decode cL_law 594 = .ok (.aload_n 3, 1) := by decide +kernel
theorem dL_law_595 : decode cL_law 595 = .ok (.iconst 0, 1) := by decide +kernel
theorem dL_law_596 : decode cL_law 596 = .ok (.laload, 1) := by decide +kernel
theorem dL_law_597 : decode cL_law 597 = .ok (.iload 6, 2) := by decide +kernel
theorem dL_law_599 : decode cL_law 599 = .ok (.i2l, 1) := by decide +kernel
theorem dL_law_600 : decode cL_law 600 = .ok (.lcmp, 1) := by decide +kernel
theorem dL_law_601 : decode cL_law 601 = .ok (.ifCond .eq 5, 3) := by decide +kernel
theorem dL_law_604 : decode cL_law 604 = .ok (.iconst 0, 1) := by decide +kernel
theorem dL_law_605 : decode cL_law 605 = .ok (.ireturn, 1) := by decide +kernel
theorem dL_law_606 : decode cL_law 606 = .ok (.goto 444, 3) := by decide +kernel
theorem dL_law_609 : decode cL_law 609 = .ok (.aload_n 1, 1) := by decide +kernel
theorem dL_law_610 : decode cL_law 610 = .ok (.aload_n 0, 1) := by decide +kernel
theorem dL_law_611 : decode cL_law 611 = .ok (.iload 4, 2) := by decide +kernel
theorem dL_law_613 : decode cL_law 613 = .ok (.iconst 1, 1) := by decide +kernel
theorem dL_law_614 : decode cL_law 614 = .ok (.iadd, 1) := by decide +kernel
theorem dL_law_615 : decode cL_law 615 = .ok (.iaload, 1) := by decide +kernel
theorem dL_law_616 : decode cL_law 616 = .ok (.aload_n 3, 1) := by decide +kernel
theorem dL_law_617 : decode cL_law 617 = .ok (.invokestatic 101, 3) := by decide +kernel
theorem dL_law_620 : decode cL_law 620 = .ok (.istore 5, 2) := by decide +kernel
theorem dL_law_622 : decode cL_law 622 = .ok (.aload_n 2, 1) := by decide +kernel
theorem dL_law_623 : decode cL_law 623 = .ok (.aload_n 0, 1) := by decide +kernel
theorem dL_law_624 : decode cL_law 624 = .ok (.iload 4, 2) := by decide +kernel
theorem dL_law_626 : decode cL_law 626 = .ok (.iconst 1, 1) := by decide +kernel
theorem dL_law_627 : decode cL_law 627 = .ok (.iadd, 1) := by decide +kernel
theorem dL_law_628 : decode cL_law 628 = .ok (.iaload, 1) := by decide +kernel
theorem dL_law_629 : decode cL_law 629 = .ok (.invokevirtual 103, 3) := by decide +kernel
theorem dL_law_632 : decode cL_law 632 = .ok (.istore 6, 2) := by decide +kernel
theorem dL_law_634 : decode cL_law 634 = .ok (.aload_n 2, 1) := by decide +kernel
theorem dL_law_635 : decode cL_law 635 = .ok (.invokevirtual 72, 3) := by decide +kernel
theorem dL_law_638 : decode cL_law 638 = .ok (.iload 5, 2) := by decide +kernel
theorem dL_law_640 : decode cL_law 640 = .ok (.if_icmp .eq 5, 3) := by decide +kernel
theorem dL_law_643 : decode cL_law 643 = .ok (.iconst 0, 1) := by decide +kernel
theorem dL_law_644 : decode cL_law 644 = .ok (.ireturn, 1) := by decide +kernel
theorem dL_law_645 : decode cL_law 645 = .ok (.iload 5, 2) := by decide +kernel
theorem dL_law_647 : decode cL_law 647 = .ok (.ifCond .ne 15, 3) := by decide +kernel
theorem dL_law_650 : decode cL_law 650 = .ok (.aload_n 3, 1) := by decide +kernel
theorem dL_law_651 : decode cL_law 651 = .ok (.iconst 0, 1) := by decide +kernel
theorem dL_law_652 : decode cL_law 652 = .ok (.laload, 1) := by decide +kernel
theorem dL_law_653 : decode cL_law 653 = .ok (.iload 6, 2) := by decide +kernel
theorem dL_law_655 : decode cL_law 655 = .ok (.i2l, 1) := by decide +kernel
theorem dL_law_656 : decode cL_law 656 = .ok (.lcmp, 1) := by decide +kernel
theorem dL_law_657 : decode cL_law 657 = .ok (.ifCond .eq 5, 3) := by decide +kernel
theorem dL_law_660 : decode cL_law 660 = .ok (.iconst 0, 1) := by decide +kernel
theorem dL_law_661 : decode cL_law 661 = .ok (.ireturn, 1) := by decide +kernel
theorem dL_law_662 : decode cL_law 662 = .ok (.goto 388, 3) := by decide +kernel
theorem dL_law_665 : decode cL_law 665 = .ok (.aload_n 1, 1) := by decide +kernel
theorem dL_law_666 : decode cL_law 666 = .ok (.aload_n 0, 1) := by decide +kernel
theorem dL_law_667 : decode cL_law 667 = .ok (.iload 4, 2) := by decide +kernel
theorem dL_law_669 : decode cL_law 669 = .ok (.iconst 1, 1) := by decide +kernel
theorem dL_law_670 : decode cL_law 670 = .ok (.iadd, 1) := by decide +kernel
theorem dL_law_671 : decode cL_law 671 = .ok (.iaload, 1) := by decide +kernel
theorem dL_law_672 : decode cL_law 672 = .ok (.aload_n 3, 1) := by decide +kernel
theorem dL_law_673 : decode cL_law 673 = .ok (.invokestatic 104, 3) := by decide +kernel
theorem dL_law_676 : decode cL_law 676 = .ok (.istore 5, 2) := by decide +kernel
theorem dL_law_678 : decode cL_law 678 = .ok (.aload_n 2, 1) := by decide +kernel
theorem dL_law_679 : decode cL_law 679 = .ok (.aload_n 0, 1) := by decide +kernel
theorem dL_law_680 : decode cL_law 680 = .ok (.iload 4, 2) := by decide +kernel
theorem dL_law_682 : decode cL_law 682 = .ok (.iconst 1, 1) := by decide +kernel
theorem dL_law_683 : decode cL_law 683 = .ok (.iadd, 1) := by decide +kernel
theorem dL_law_684 : decode cL_law 684 = .ok (.iaload, 1) := by decide +kernel
theorem dL_law_685 : decode cL_law 685 = .ok (.invokevirtual 106, 3) := by decide +kernel
theorem dL_law_688 : decode cL_law 688 = .ok (.istore 6, 2) := by decide +kernel
theorem dL_law_690 : decode cL_law 690 = .ok (.aload_n 2, 1) := by decide +kernel
theorem dL_law_691 : decode cL_law 691 = .ok (.invokevirtual 72, 3) := by decide +kernel
theorem dL_law_694 : decode cL_law 694 = .ok (.iload 5, 2) := by decide +kernel
theorem dL_law_696 : decode cL_law 696 = .ok (.if_icmp .eq 5, 3) := by decide +kernel
theorem dL_law_699 : decode cL_law 699 = .ok (.iconst 0, 1) := by decide +kernel
theorem dL_law_700 : decode cL_law 700 = .ok (.ireturn, 1) := by decide +kernel
theorem dL_law_701 : decode cL_law 701 = .ok (.iload 5, 2) := by decide +kernel
theorem dL_law_703 : decode cL_law 703 = .ok (.ifCond .ne 15, 3) := by decide +kernel
theorem dL_law_706 : decode cL_law 706 = .ok (.aload_n 3, 1) := by decide +kernel
theorem dL_law_707 : decode cL_law 707 = .ok (.iconst 0, 1) := by decide +kernel
theorem dL_law_708 : decode cL_law 708 = .ok (.laload, 1) := by decide +kernel
theorem dL_law_709 : decode cL_law 709 = .ok (.iload 6, 2) := by decide +kernel
theorem dL_law_711 : decode cL_law 711 = .ok (.i2l, 1) := by decide +kernel
theorem dL_law_712 : decode cL_law 712 = .ok (.lcmp, 1) := by decide +kernel
theorem dL_law_713 : decode cL_law 713 = .ok (.ifCond .eq 5, 3) := by decide +kernel
theorem dL_law_716 : decode cL_law 716 = .ok (.iconst 0, 1) := by decide +kernel
theorem dL_law_717 : decode cL_law 717 = .ok (.ireturn, 1) := by decide +kernel
theorem dL_law_718 : decode cL_law 718 = .ok (.goto 332, 3) := by decide +kernel
theorem dL_law_721 : decode cL_law 721 = .ok (.aload_n 1, 1) := by decide +kernel
theorem dL_law_722 : decode cL_law 722 = .ok (.aload_n 0, 1) := by decide +kernel
theorem dL_law_723 : decode cL_law 723 = .ok (.iload 4, 2) := by decide +kernel
theorem dL_law_725 : decode cL_law 725 = .ok (.iconst 1, 1) := by decide +kernel
theorem dL_law_726 : decode cL_law 726 = .ok (.iadd, 1) := by decide +kernel
theorem dL_law_727 : decode cL_law 727 = .ok (.iaload, 1) := by decide +kernel
theorem dL_law_728 : decode cL_law 728 = .ok (.aload_n 0, 1) := by decide +kernel
theorem dL_law_729 : decode cL_law 729 = .ok (.iload 4, 2) := by decide +kernel
theorem dL_law_731 : decode cL_law 731 = .ok (.iconst 2, 1) := by decide +kernel
theorem dL_law_732 : decode cL_law 732 = .ok (.iadd, 1) := by decide +kernel
theorem dL_law_733 : decode cL_law 733 = .ok (.iaload, 1) := by decide +kernel
theorem dL_law_734 : decode cL_law 734 = .ok (.aload_n 3, 1) := by decide +kernel
theorem dL_law_735 : decode cL_law 735 = .ok (.invokestatic 107, 3) := by decide +kernel
theorem dL_law_738 : decode cL_law 738 = .ok (.istore 5, 2) := by decide +kernel
theorem dL_law_740 : decode cL_law 740 = .ok (.aload_n 2, 1) := by decide +kernel
theorem dL_law_741 : decode cL_law 741 = .ok (.aload_n 0, 1) := by decide +kernel
theorem dL_law_742 : decode cL_law 742 = .ok (.iload 4, 2) := by decide +kernel
theorem dL_law_744 : decode cL_law 744 = .ok (.iconst 1, 1) := by decide +kernel
theorem dL_law_745 : decode cL_law 745 = .ok (.iadd, 1) := by decide +kernel
theorem dL_law_746 : decode cL_law 746 = .ok (.iaload, 1) := by decide +kernel
theorem dL_law_747 : decode cL_law 747 = .ok (.aload_n 0, 1) := by decide +kernel
theorem dL_law_748 : decode cL_law 748 = .ok (.iload 4, 2) := by decide +kernel
theorem dL_law_750 : decode cL_law 750 = .ok (.iconst 2, 1) := by decide +kernel
theorem dL_law_751 : decode cL_law 751 = .ok (.iadd, 1) := by decide +kernel
theorem dL_law_752 : decode cL_law 752 = .ok (.iaload, 1) := by decide +kernel
end
section
theorem dL_law_753 : decode cL_law 753 = .ok (.invokevirtual 109, 3) := by decide +kernel
theorem dL_law_756 : decode cL_law 756 = .ok (.istore 6, 2) := by decide +kernel
theorem dL_law_758 : decode cL_law 758 = .ok (.aload_n 2, 1) := by decide +kernel
theorem dL_law_759 : decode cL_law 759 = .ok (.invokevirtual 72, 3) := by decide +kernel
theorem dL_law_762 : decode cL_law 762 = .ok (.iload 5, 2) := by decide +kernel
theorem dL_law_764 : decode cL_law 764 = .ok (.if_icmp .eq 5, 3) := by decide +kernel
theorem dL_law_767 : decode cL_law 767 = .ok (.iconst 0, 1) := by decide +kernel
theorem dL_law_768 : decode cL_law 768 = .ok (.ireturn, 1) := by decide +kernel
theorem dL_law_769 : decode cL_law 769 = .ok (.iload 5, 2) := by decide +kernel
theorem dL_law_771 : decode cL_law 771 = .ok (.ifCond .ne 15, 3) := by decide +kernel
theorem dL_law_774 : decode cL_law 774 = .ok (.aload_n 3, 1) := by decide +kernel
theorem dL_law_775 : decode cL_law 775 = .ok (.iconst 0, 1) := by decide +kernel
theorem dL_law_776 : decode cL_law 776 = .ok (.laload, 1) := by decide +kernel
theorem dL_law_777 : decode cL_law 777 = .ok (.iload 6, 2) := by decide +kernel
theorem dL_law_779 : decode cL_law 779 = .ok (.i2l, 1) := by decide +kernel
theorem dL_law_780 : decode cL_law 780 = .ok (.lcmp, 1) := by decide +kernel
theorem dL_law_781 : decode cL_law 781 = .ok (.ifCond .eq 5, 3) := by decide +kernel
theorem dL_law_784 : decode cL_law 784 = .ok (.iconst 0, 1) := by decide +kernel
theorem dL_law_785 : decode cL_law 785 = .ok (.ireturn, 1) := by decide +kernel
theorem dL_law_786 : decode cL_law 786 = .ok (.goto 264, 3) := by decide +kernel
theorem dL_law_789 : decode cL_law 789 = .ok (.aload_n 1, 1) := by decide +kernel
theorem dL_law_790 : decode cL_law 790 = .ok (.aload_n 0, 1) := by decide +kernel
theorem dL_law_791 : decode cL_law 791 = .ok (.iload 4, 2) := by decide +kernel
theorem dL_law_793 : decode cL_law 793 = .ok (.iconst 1, 1) := by decide +kernel
theorem dL_law_794 : decode cL_law 794 = .ok (.iadd, 1) := by decide +kernel
theorem dL_law_795 : decode cL_law 795 = .ok (.iaload, 1) := by decide +kernel
theorem dL_law_796 : decode cL_law 796 = .ok (.aload_n 0, 1) := by decide +kernel
theorem dL_law_797 : decode cL_law 797 = .ok (.iload 4, 2) := by decide +kernel
theorem dL_law_799 : decode cL_law 799 = .ok (.iconst 2, 1) := by decide +kernel
theorem dL_law_800 : decode cL_law 800 = .ok (.iadd, 1) := by decide +kernel
theorem dL_law_801 : decode cL_law 801 = .ok (.iaload, 1) := by decide +kernel
theorem dL_law_802 : decode cL_law 802 = .ok (.aload_n 3, 1) := by decide +kernel
theorem dL_law_803 : decode cL_law 803 = .ok (.invokestatic 110, 3) := by decide +kernel
theorem dL_law_806 : decode cL_law 806 = .ok (.istore 5, 2) := by decide +kernel
theorem dL_law_808 : decode cL_law 808 = .ok (.aload_n 2, 1) := by decide +kernel
theorem dL_law_809 : decode cL_law 809 = .ok (.aload_n 0, 1) := by decide +kernel
theorem dL_law_810 : decode cL_law 810 = .ok (.iload 4, 2) := by decide +kernel
theorem dL_law_812 : decode cL_law 812 = .ok (.iconst 1, 1) := by decide +kernel
theorem dL_law_813 : decode cL_law 813 = .ok (.iadd, 1) := by decide +kernel
theorem dL_law_814 : decode cL_law 814 = .ok (.iaload, 1) := by decide +kernel
theorem dL_law_815 : decode cL_law 815 = .ok (.aload_n 0, 1) := by decide +kernel
theorem dL_law_816 : decode cL_law 816 = .ok (.iload 4, 2) := by decide +kernel
theorem dL_law_818 : decode cL_law 818 = .ok (.iconst 2, 1) := by decide +kernel
theorem dL_law_819 : decode cL_law 819 = .ok (.iadd, 1) := by decide +kernel
theorem dL_law_820 : decode cL_law 820 = .ok (.iaload, 1) := by decide +kernel
theorem dL_law_821 : decode cL_law 821 = .ok (.invokevirtual 112, 3) := by decide +kernel
theorem dL_law_824 : decode cL_law 824 = .ok (.istore 6, 2) := by decide +kernel
theorem dL_law_826 : decode cL_law 826 = .ok (.aload_n 2, 1) := by decide +kernel
theorem dL_law_827 : decode cL_law 827 = .ok (.invokevirtual 72, 3) := by decide +kernel
theorem dL_law_830 : decode cL_law 830 = .ok (.iload 5, 2) := by decide +kernel
theorem dL_law_832 : decode cL_law 832 = .ok (.if_icmp .eq 5, 3) := by decide +kernel
theorem dL_law_835 : decode cL_law 835 = .ok (.iconst 0, 1) := by decide +kernel
theorem dL_law_836 : decode cL_law 836 = .ok (.ireturn, 1) := by decide +kernel
theorem dL_law_837 : decode cL_law 837 = .ok (.iload 5, 2) := by decide +kernel
theorem dL_law_839 : decode cL_law 839 = .ok (.ifCond .ne 15, 3) := by decide +kernel
theorem dL_law_842 : decode cL_law 842 = .ok (.aload_n 3, 1) := by decide +kernel
theorem dL_law_843 : decode cL_law 843 = .ok (.iconst 0, 1) := by decide +kernel
theorem dL_law_844 : decode cL_law 844 = .ok (.laload, 1) := by decide +kernel
theorem dL_law_845 : decode cL_law 845 = .ok (.iload 6, 2) := by decide +kernel
theorem dL_law_847 : decode cL_law 847 = .ok (.i2l, 1) := by decide +kernel
theorem dL_law_848 : decode cL_law 848 = .ok (.lcmp, 1) := by decide +kernel
theorem dL_law_849 : decode cL_law 849 = .ok (.ifCond .eq 5, 3) := by decide +kernel
theorem dL_law_852 : decode cL_law 852 = .ok (.iconst 0, 1) := by decide +kernel
theorem dL_law_853 : decode cL_law 853 = .ok (.ireturn, 1) := by decide +kernel
theorem dL_law_854 : decode cL_law 854 = .ok (.goto 196, 3) := by decide +kernel
theorem dL_law_857 : decode cL_law 857 = .ok (.aload_n 1, 1) := by decide +kernel
theorem dL_law_858 : decode cL_law 858 = .ok (.aload_n 0, 1) := by decide +kernel
theorem dL_law_859 : decode cL_law 859 = .ok (.iload 4, 2) := by decide +kernel
theorem dL_law_861 : decode cL_law 861 = .ok (.iconst 1, 1) := by decide +kernel
theorem dL_law_862 : decode cL_law 862 = .ok (.iadd, 1) := by decide +kernel
theorem dL_law_863 : decode cL_law 863 = .ok (.iaload, 1) := by decide +kernel
theorem dL_law_864 : decode cL_law 864 = .ok (.aload_n 0, 1) := by decide +kernel
theorem dL_law_865 : decode cL_law 865 = .ok (.iload 4, 2) := by decide +kernel
theorem dL_law_867 : decode cL_law 867 = .ok (.iconst 2, 1) := by decide +kernel
theorem dL_law_868 : decode cL_law 868 = .ok (.iadd, 1) := by decide +kernel
theorem dL_law_869 : decode cL_law 869 = .ok (.iaload, 1) := by decide +kernel
theorem dL_law_870 : decode cL_law 870 = .ok (.aload_n 3, 1) := by decide +kernel
theorem dL_law_871 : decode cL_law 871 = .ok (.invokestatic 113, 3) := by decide +kernel
theorem dL_law_874 : decode cL_law 874 = .ok (.istore 5, 2) := by decide +kernel
theorem dL_law_876 : decode cL_law 876 = .ok (.aload_n 2, 1) := by decide +kernel
theorem dL_law_877 : decode cL_law 877 = .ok (.aload_n 0, 1) := by decide +kernel
theorem dL_law_878 : decode cL_law 878 = .ok (.iload 4, 2) := by decide +kernel
theorem dL_law_880 : decode cL_law 880 = .ok (.iconst 1, 1) := by decide +kernel
theorem dL_law_881 : decode cL_law 881 = .ok (.iadd, 1) := by decide +kernel
theorem dL_law_882 : decode cL_law 882 = .ok (.iaload, 1) := by decide +kernel
theorem dL_law_883 : decode cL_law 883 = .ok (.aload_n 0, 1) := by decide +kernel
theorem dL_law_884 : decode cL_law 884 = .ok (.iload 4, 2) := by decide +kernel
theorem dL_law_886 : decode cL_law 886 = .ok (.iconst 2, 1) := by decide +kernel
theorem dL_law_887 : decode cL_law 887 = .ok (.iadd, 1) := by decide +kernel
theorem dL_law_888 : decode cL_law 888 = .ok (.iaload, 1) := by decide +kernel
theorem dL_law_889 : decode cL_law 889 = .ok (.invokevirtual 115, 3) := by decide +kernel
theorem dL_law_892 : decode cL_law 892 = .ok (.istore 6, 2) := by decide +kernel
theorem dL_law_894 : decode cL_law 894 = .ok (.aload_n 2, 1) := by decide +kernel
theorem dL_law_895 : decode cL_law 895 = .ok (.invokevirtual 72, 3) := by decide +kernel
theorem dL_law_898 : decode cL_law 898 = .ok (.iload 5, 2) := by decide +kernel
theorem dL_law_900 : decode cL_law 900 = .ok (.if_icmp .eq 5, 3) := by decide +kernel
theorem dL_law_903 : decode cL_law 903 = .ok (.iconst 0, 1) := by decide +kernel
theorem dL_law_904 : decode cL_law 904 = .ok (.ireturn, 1) := by decide +kernel
theorem dL_law_905 : decode cL_law 905 = .ok (.iload 5, 2) := by decide +kernel
theorem dL_law_907 : decode cL_law 907 = .ok (.ifCond .ne 15, 3) := by decide +kernel
theorem dL_law_910 : decode cL_law 910 = .ok (.aload_n 3, 1) := by decide +kernel
theorem dL_law_911 : decode cL_law 911 = .ok (.iconst 0, 1) := by decide +kernel
theorem dL_law_912 : decode cL_law 912 = .ok (.laload, 1) := by decide +kernel
theorem dL_law_913 : decode cL_law 913 = .ok (.iload 6, 2) := by decide +kernel
theorem dL_law_915 : decode cL_law 915 = .ok (.i2l, 1) := by decide +kernel
theorem dL_law_916 : decode cL_law 916 = .ok (.lcmp, 1) := by decide +kernel
theorem dL_law_917 : decode cL_law 917 = .ok (.ifCond .eq 5, 3) := by decide +kernel
theorem dL_law_920 : decode cL_law 920 = .ok (.iconst 0, 1) := by decide +kernel
theorem dL_law_921 : decode cL_law 921 = .ok (.ireturn, 1) := by decide +kernel
theorem dL_law_922 : decode cL_law 922 = .ok (.goto 128, 3) := by decide +kernel
end
section
theorem dL_law_925 : decode cL_law 925 = .ok (.aload_n 1, 1) := by decide +kernel
theorem dL_law_926 : decode cL_law 926 = .ok (.aload_n 0, 1) := by decide +kernel
theorem dL_law_927 : decode cL_law 927 = .ok (.iload 4, 2) := by decide +kernel
theorem dL_law_929 : decode cL_law 929 = .ok (.iconst 1, 1) := by decide +kernel
theorem dL_law_930 : decode cL_law 930 = .ok (.iadd, 1) := by decide +kernel
theorem dL_law_931 : decode cL_law 931 = .ok (.iaload, 1) := by decide +kernel
theorem dL_law_932 : decode cL_law 932 = .ok (.aload_n 3, 1) := by decide +kernel
theorem dL_law_933 : decode cL_law 933 = .ok (.invokestatic 116, 3) := by decide +kernel
theorem dL_law_936 : decode cL_law 936 = .ok (.istore 5, 2) := by decide +kernel
theorem dL_law_938 : decode cL_law 938 = .ok (.aload_n 2, 1) := by decide +kernel
theorem dL_law_939 : decode cL_law 939 = .ok (.aload_n 0, 1) := by decide +kernel
theorem dL_law_940 : decode cL_law 940 = .ok (.iload 4, 2) := by decide +kernel
theorem dL_law_942 : decode cL_law 942 = .ok (.iconst 1, 1) := by decide +kernel
theorem dL_law_943 : decode cL_law 943 = .ok (.iadd, 1) := by decide +kernel
theorem dL_law_944 : decode cL_law 944 = .ok (.iaload, 1) := by decide +kernel
theorem dL_law_945 : decode cL_law 945 = .ok (.invokevirtual 118, 3) := by decide +kernel
theorem dL_law_948 : decode cL_law 948 = .ok (.istore 6, 2) := by decide +kernel
theorem dL_law_950 : decode cL_law 950 = .ok (.aload_n 2, 1) := by decide +kernel
theorem dL_law_951 : decode cL_law 951 = .ok (.invokevirtual 72, 3) := by decide +kernel
theorem dL_law_954 : decode cL_law 954 = .ok (.iload 5, 2) := by decide +kernel
theorem dL_law_956 : decode cL_law 956 = .ok (.if_icmp .eq 5, 3) := by decide +kernel
theorem dL_law_959 : decode cL_law 959 = .ok (.iconst 0, 1) := by decide +kernel
theorem dL_law_960 : decode cL_law 960 = .ok (.ireturn, 1) := by decide +kernel
theorem dL_law_961 : decode cL_law 961 = .ok (.iload 5, 2) := by decide +kernel
theorem dL_law_963 : decode cL_law 963 = .ok (.ifCond .ne 15, 3) := by decide +kernel
theorem dL_law_966 : decode cL_law 966 = .ok (.aload_n 3, 1) := by decide +kernel
theorem dL_law_967 : decode cL_law 967 = .ok (.iconst 0, 1) := by decide +kernel
theorem dL_law_968 : decode cL_law 968 = .ok (.laload, 1) := by decide +kernel
theorem dL_law_969 : decode cL_law 969 = .ok (.iload 6, 2) := by decide +kernel
theorem dL_law_971 : decode cL_law 971 = .ok (.i2l, 1) := by decide +kernel
theorem dL_law_972 : decode cL_law 972 = .ok (.lcmp, 1) := by decide +kernel
theorem dL_law_973 : decode cL_law 973 = .ok (.ifCond .eq 5, 3) := by decide +kernel
theorem dL_law_976 : decode cL_law 976 = .ok (.iconst 0, 1) := by decide +kernel
theorem dL_law_977 : decode cL_law 977 = .ok (.ireturn, 1) := by decide +kernel
theorem dL_law_978 : decode cL_law 978 = .ok (.goto 72, 3) := by decide +kernel
theorem dL_law_981 : decode cL_law 981 = .ok (.aload_n 1, 1) := by decide +kernel
theorem dL_law_982 : decode cL_law 982 = .ok (.aload_n 0, 1) := by decide +kernel
theorem dL_law_983 : decode cL_law 983 = .ok (.iload 4, 2) := by decide +kernel
theorem dL_law_985 : decode cL_law 985 = .ok (.iconst 1, 1) := by decide +kernel
theorem dL_law_986 : decode cL_law 986 = .ok (.iadd, 1) := by decide +kernel
theorem dL_law_987 : decode cL_law 987 = .ok (.iaload, 1) := by decide +kernel
theorem dL_law_988 : decode cL_law 988 = .ok (.aload_n 3, 1) := by decide +kernel
theorem dL_law_989 : decode cL_law 989 = .ok (.invokestatic 119, 3) := by decide +kernel
theorem dL_law_992 : decode cL_law 992 = .ok (.istore 5, 2) := by decide +kernel
theorem dL_law_994 : decode cL_law 994 = .ok (.aload_n 2, 1) := by decide +kernel
theorem dL_law_995 : decode cL_law 995 = .ok (.aload_n 0, 1) := by decide +kernel
theorem dL_law_996 : decode cL_law 996 = .ok (.iload 4, 2) := by decide +kernel
theorem dL_law_998 : decode cL_law 998 = .ok (.iconst 1, 1) := by decide +kernel
theorem dL_law_999 : decode cL_law 999 = .ok (.iadd, 1) := by decide +kernel
theorem dL_law_1000 : decode cL_law 1000 = .ok (.iaload, 1) := by decide +kernel
theorem dL_law_1001 : decode cL_law 1001 = .ok (.invokevirtual 121, 3) := by decide +kernel
theorem dL_law_1004 : decode cL_law 1004 = .ok (.istore 6, 2) := by decide +kernel
theorem dL_law_1006 : decode cL_law 1006 = .ok (.aload_n 2, 1) := by decide +kernel
theorem dL_law_1007 : decode cL_law 1007 = .ok (.invokevirtual 72, 3) := by decide +kernel
theorem dL_law_1010 : decode cL_law 1010 = .ok (.iload 5, 2) := by decide +kernel
theorem dL_law_1012 : decode cL_law 1012 = .ok (.if_icmp .eq 5, 3) := by decide +kernel
theorem dL_law_1015 : decode cL_law 1015 = .ok (.iconst 0, 1) := by decide +kernel
theorem dL_law_1016 : decode cL_law 1016 = .ok (.ireturn, 1) := by decide +kernel
theorem dL_law_1017 : decode cL_law 1017 = .ok (.iload 5, 2) := by decide +kernel
theorem dL_law_1019 : decode cL_law 1019 = .ok (.ifCond .ne 15, 3) := by decide +kernel
theorem dL_law_1022 : decode cL_law 1022 = .ok (.aload_n 3, 1) := by decide +kernel
theorem dL_law_1023 : decode cL_law 1023 = .ok (.iconst 0, 1) := by decide +kernel
theorem dL_law_1024 : decode cL_law 1024 = .ok (.laload, 1) := by decide +kernel
theorem dL_law_1025 : decode cL_law 1025 = .ok (.iload 6, 2) := by decide +kernel
theorem dL_law_1027 : decode cL_law 1027 = .ok (.i2l, 1) := by decide +kernel
theorem dL_law_1028 : decode cL_law 1028 = .ok (.lcmp, 1) := by decide +kernel
theorem dL_law_1029 : decode cL_law 1029 = .ok (.ifCond .eq 5, 3) := by decide +kernel
theorem dL_law_1032 : decode cL_law 1032 = .ok (.iconst 0, 1) := by decide +kernel
theorem dL_law_1033 : decode cL_law 1033 = .ok (.ireturn, 1) := by decide +kernel
theorem dL_law_1034 : decode cL_law 1034 = .ok (.goto 16, 3) := by decide +kernel
theorem dL_law_1037 : decode cL_law 1037 = .ok (.aload_n 1, 1) := by decide +kernel
theorem dL_law_1038 : decode cL_law 1038 = .ok (.invokevirtual 122, 3) := by decide +kernel
theorem dL_law_1041 : decode cL_law 1041 = .ok (.aload_n 2, 1) := by decide +kernel
theorem dL_law_1042 : decode cL_law 1042 = .ok (.invokevirtual 125, 3) := by decide +kernel
theorem dL_law_1045 : decode cL_law 1045 = .ok (.if_icmp .eq 5, 3) := by decide +kernel
theorem dL_law_1048 : decode cL_law 1048 = .ok (.iconst 0, 1) := by decide +kernel
theorem dL_law_1049 : decode cL_law 1049 = .ok (.ireturn, 1) := by decide +kernel
theorem dL_law_1050 : decode cL_law 1050 = .ok (.iinc 4 4, 3) := by decide +kernel
theorem dL_law_1053 : decode cL_law 1053 = .ok (.goto (-1030), 3) := by decide +kernel
theorem dL_law_1056 : decode cL_law 1056 = .ok (.iconst 1, 1) := by decide +kernel
theorem dL_law_1057 : decode cL_law 1057 = .ok (.ireturn, 1) := by decide +kernel
end
section
abbrev vwCl : List vw_C := [(RX0, TX0, 3), (RX1, TX1, 3), (RX2, TX2, 5), (RX3, TX3, 7), (RX4, TX4, 22)]
end
section
/-! MY OWN WORDS AND ROWS -/
/-- if, for any proposition -/
noncomputable def wt_if {α : Type} (P : Prop) (a b : α) : α := @ite α P (Classical.propDecidable P) a b
theorem wt_if_t {α : Type} {P : Prop} {a b : α} (h : P) : wt_if P a b = a := @if_pos P (Classical.propDecidable P) h α a b
theorem wt_if_f {α : Type} {P : Prop} {a b : α} (h : ¬ P) : wt_if P a b = b := @if_neg P (Classical.propDecidable P) h α a b
theorem wt_ifT {α : Type} {a b : α} : wt_if True a b = a := wt_if_t trivial
theorem wt_ifF {α : Type} {a b : α} : wt_if False a b = b := wt_if_f (fun h => h)
/-- the answer of a test -/
noncomputable def wt_b (P : Prop) : Int32 := wt_if P (nI 1) (nI 0)
theorem wt_b_t {P : Prop} (h : P) : wt_b P = nI 1 := wt_if_t h
theorem wt_b_f {P : Prop} (h : ¬ P) : wt_b P = nI 0 := wt_if_f h
theorem wt_bt1 {P : Prop} (h : P) : nI 1 = wt_b P := (wt_b_t h).symm
theorem wt_bf0 {P : Prop} (h : ¬ P) : nI 0 = wt_b P := (wt_b_f h).symm
theorem wt_b_0 {P : Prop} (h : wt_b P = 0) : ¬ P := fun q => by rw [wt_b_t q] at h; exact absurd h (by decide)
theorem wt_b_1 {P : Prop} (h : ¬ wt_b P = 0) : P := Classical.byContradiction fun q => h (by rw [wt_b_f q]; exact nI_0)
/-- the greater and the less of two, as the library has them -/
def wt_max (x y : Int32) : Int32 := if x < y then y else x
def wt_min (x y : Int32) : Int32 := if x < y then x else y
theorem wt_dec {i : Nat} (h : 0 < i) : nI i + Int32.ofInt (-1) = nI (i - 1) := by
  obtain ⟨j, rfl⟩ : ∃ j, i = j + 1 := ⟨i - 1, by omega⟩
  exact pk_m1 j
theorem wt_fm {α β : Type} (f : α → Option β) : ∀ (is : List α) (w : List β), is.map f = w.map some → is.filterMap f = w
  | [], [], _ => rfl
  | [], _ :: _, h => by simp at h
  | _ :: _, [], h => by simp at h
  | a :: is, b :: w, h => by
    simp only [List.map_cons, List.cons.injEq] at h
    rw [List.filterMap_cons_some h.1, wt_fm f is w h.2]
theorem wt_b_c {P Q : Prop} (h : P ↔ Q) : wt_b P = wt_b Q := by rw [propext h]
theorem wt_b_nar (P : Prop) : narrow .boolean (.int (wt_b P)) = .int (wt_b P) := by
  by_cases h : P
  · rw [wt_b_t h]; decide
  · rw [wt_b_f h]; decide
theorem wt_nar0 : narrow .boolean (.int (nI 0)) = .int (nI 0) := by decide
theorem wt_nar1 : narrow .boolean (.int (nI 1)) = .int (nI 1) := by decide
/-- n steps, each with its number -/
def wt_fold {α : Type} (f : Nat → α → α) : Nat → α → α
  | 0, x => x
  | n + 1, x => f n (wt_fold f n x)
theorem wt_fold_0 {α : Type} (f : Nat → α → α) (x : α) : wt_fold f 0 x = x := rfl
theorem wt_fold_s {α : Type} (f : Nat → α → α) (n : Nat) (x : α) : wt_fold f (n + 1) x = f n (wt_fold f n x) := rfl
/-- the nest mates' words -/
def wt_nsW : List Cond := [.methodLinkNest RX3 11 yX0_init RX3, .methodLinkNest RX3 22 yX2_init RX3, .methodLinkNest RX3 35 yX1_init RX3, .methodLinkNest RX0 26 yX3_has RX3, .methodLinkNest RX0 30 yX3_below RX3, .methodLinkNest RX0 33 yX3_bit RX3, .methodLinkNest RX1 22 yX3_below RX3, .methodLinkNest RX2 28 yX3_below RX3, .methodLinkNest RX2 58 yX3_bit RX3]
def wt_nst (U : State) : Prop := ∀ w ∈ wt_nsW, va_Nw w U
theorem wt_nst_all {P : Cond → Prop} (h : ∀ (a : String) (i : Nat) (x : MethodName) (n : String), Cond.methodLinkNest a i x n ∈ wt_nsW → P (.methodLinkNest a i x n)) : ∀ w ∈ wt_nsW, P w := by
  intro w hw
  have h0 := hw
  simp only [wt_nsW, List.mem_cons, List.not_mem_nil, or_false] at h0
  rcases h0 with rfl | rfl | rfl | rfl | rfl | rfl | rfl | rfl | rfl <;> exact h _ _ _ _ hw
theorem wt_nst_warm {s U : State} (hW : s.WarmedH U.vm) (h : wt_nst s) : wt_nst U := wt_nst_all fun _ _ _ _ hw => va_Nw.warmM hW (h _ hw)
theorem wt_nst_same {u U : State} (e : u.vm = U.vm) (h : wt_nst u) : wt_nst U := wt_nst_all fun _ _ _ _ hw => va_Nw.same rfl e (h _ hw)
/-- a method's start: its world, the tables, the nest mates -/
def wt_pre (D : va_G) (cI : ClassId) (ws : va_W) (U : State) : Prop := va_P D vwCl ws U.heap ∧ va_K D vwCl [(cI, .int)] U ∧ wt_nst U
theorem wt_pre_blind {D : va_G} {cI : ClassId} {ws : va_W} {U : State} {g : JFrame} {mk : MethodId} {a : Array Value} (h : wt_pre D cI ws U) : wt_pre D cI ws (U.calling g mk a) := ⟨h.1, va_K.moved (u := U) (U := U.calling g mk a) (Vm.Alike.refl U.vm) h.2.1, wt_nst_same (u := U) rfl h.2.2⟩
theorem wt_pre_at {D : va_G} {cI : ClassId} {ws : va_W} {s U : State} {H : Heap} (hK : va_K D vwCl [(cI, .int)] s) (hP : va_P D vwCl ws H) (hN : wt_nst s) (hU : U.heap = H) (hW : s.WarmedH U.vm) : wt_pre D cI ws U := ⟨by rw [hU]; exact hP, va_K.moved hW.alike hK, wt_nst_warm hW hN⟩
/-- an answer alone: nothing is written -/
def wt_ro (r : Int32) : Array Value → State → Outcome → State → Prop := fun _ st o t => o = .returned (some (.int r)) ∧ t.heap = st.heap
def wt_no : Addr → Prop := fun _ => False
/-- what it answers, and the world behind it: the same cells -/
def wt_mu (v : Option Value) (D : va_G) (w1 : va_W) (A : Nat → Prop) : Array Value → State → Outcome → State → Prop := fun _ st o t => o = .returned v ∧ va_P D vwCl w1 t.heap ∧ va_F A st t
/-- the start of a method that writes -/
def wt_pm (D : va_G) (cI : ClassId) (ws : va_W) (sz : Nat) (U : State) : Prop := U.heap.size = sz ∧ wt_pre D cI ws U ∧ va_D (fun _ => True) ws
theorem wt_pm_blind {D : va_G} {cI : ClassId} {ws : va_W} {sz : Nat} {U : State} {g : JFrame} {mk : MethodId} {a : Array Value} (h : wt_pm D cI ws sz U) : wt_pm D cI ws sz (U.calling g mk a) := ⟨h.1, wt_pre_blind h.2.1, h.2.2⟩
theorem wt_adr {A : Nat → Prop} {w w1 : va_W} (h : va_D A w) (e : w1.map (·.1) = w.map (·.1)) : va_D A w1 := by
  have key : ∀ (k : Nat) (q : Nat × va_E), w1[k]? = some q → ∃ q' : Nat × va_E, w[k]? = some q' ∧ q'.1 = q.1 := by
    intro k q hq
    have h1 : (w1.map (·.1))[k]? = some q.1 := by rw [List.getElem?_map, hq]; rfl
    rw [e, List.getElem?_map] at h1
    cases hw : w[k]? with
    | none => rw [hw] at h1; cases h1
    | some z => rw [hw] at h1; exact ⟨z, rfl, Option.some.inj h1⟩
  refine ⟨fun i j p q hi hj hpq => ?_, fun k q hk => ?_⟩
  · obtain ⟨p', a1, a2⟩ := key i p hi
    obtain ⟨q', b1, b2⟩ := key j q hj
    exact h.1 i j p' q' a1 b1 (by rw [a2, b2, hpq])
  · obtain ⟨q', a1, a2⟩ := key k q hk
    rw [← a2]
    exact h.2 k q' a1
theorem wt_in {small big : List Cond} (ps : List Nat) (hp : small = ps.filterMap (fun i => big[i]?)) : ∀ w ∈ small, w ∈ big := by
  intro w hw
  rw [hp] at hw
  obtain ⟨i, -, hi⟩ := List.mem_filterMap.mp hw
  exact List.mem_of_getElem? hi
section WT1
variable {p : Program} {l : Launch} {e : Env} {R : Room} {s : State} {m : MethodId} {args : Array Value} {below : List Frame} {meth : Method} {c : Code} {H : Heap} {locs : List Loc} {cells slots : Nat} {Q : State → Prop}
variable {cc : ByteArray} {pc : Nat} {ls : Array Slot} {rest st0 : List Value} {D : va_G} {cI : ClassId} {A : Nat → Prop} {a : Nat} {ws : va_W} {H0 : Heap} {av : Array Value}
theorem wt_iadd (hexec : p.tables.exec = Jvm.exec) (hb : c.code = cc) {i j : Nat} (hdg : decode cc pc = .ok (.iadd, 1)) (k : W p l e R s m args below meth c H locs cells slots Q (F0 m (pc + 1) ls (.int (nI (i + j)) :: rest))) : W p l e R s m args below meth c H locs cells slots Q (F0 m pc ls (.int (nI j) :: .int (nI i) :: rest)) := lv_iadd hexec hb hdg (by rw [nI_add]; exact k)
theorem wt_imul (hexec : p.tables.exec = Jvm.exec) (hb : c.code = cc) {i j : Nat} (hdg : decode cc pc = .ok (.imul, 1)) (k : W p l e R s m args below meth c H locs cells slots Q (F0 m (pc + 1) ls (.int (nI (i * j)) :: rest))) : W p l e R s m args below meth c H locs cells slots Q (F0 m pc ls (.int (nI j) :: .int (nI i) :: rest)) := lv_imul hexec hb hdg (by rw [pk_mul]; exact k)
theorem wt_isub (hexec : p.tables.exec = Jvm.exec) (hb : c.code = cc) {i j : Nat} (h : j ≤ i) (hdg : decode cc pc = .ok (.isub, 1)) (k : W p l e R s m args below meth c H locs cells slots Q (F0 m (pc + 1) ls (.int (nI (i - j)) :: rest))) : W p l e R s m args below meth c H locs cells slots Q (F0 m pc ls (.int (nI j) :: .int (nI i) :: rest)) := lv_isub hexec hb hdg (by rw [pk_sub h]; exact k)
/-- the number on top by another name -/
theorem wt_top {x y : Int32} (h : x = y) (k : W p l e R s m args below meth c H locs cells slots Q (F0 m pc ls (.int y :: rest))) : W p l e R s m args below meth c H locs cells slots Q (F0 m pc ls (.int x :: rest)) := by rw [h]; exact k
theorem wt_icmp_ge (hexec : p.tables.exec = Jvm.exec) (hb : c.code = cc) {i j : Nat} (hi : i < 2 ^ 31) (hj : j < 2 ^ 31) {off : Int} {tgt : Nat} (hdg : decode cc pc = .ok (.if_icmp .ge off, 3)) (ht : (pc : Int) + off = (tgt : Int))
    (kt : j ≤ i → W p l e R s m args below meth c H locs cells slots Q (F0 m tgt ls rest)) (kf : i < j → W p l e R s m args below meth c H locs cells slots Q (F0 m (pc + 3) ls rest)) : W p l e R s m args below meth c H locs cells slots Q (F0 m pc ls (.int (nI j) :: .int (nI i) :: rest)) :=
  lv_icmp_ge hexec hb hdg ht (fun h => kt ((nI_leI hj hi).mp h)) (fun h => kf (Nat.lt_of_not_le fun q => h ((nI_leI hj hi).mpr q)))
theorem wt_icmp_lt (hexec : p.tables.exec = Jvm.exec) (hb : c.code = cc) {i j : Nat} (hi : i < 2 ^ 31) (hj : j < 2 ^ 31) {off : Int} {tgt : Nat} (hdg : decode cc pc = .ok (.if_icmp .lt off, 3)) (ht : (pc : Int) + off = (tgt : Int))
    (kt : i < j → W p l e R s m args below meth c H locs cells slots Q (F0 m tgt ls rest)) (kf : j ≤ i → W p l e R s m args below meth c H locs cells slots Q (F0 m (pc + 3) ls rest)) : W p l e R s m args below meth c H locs cells slots Q (F0 m pc ls (.int (nI j) :: .int (nI i) :: rest)) :=
  lv_icmp_lt hexec hb hdg ht (fun h => kt ((nI_ltI hi hj).mp h)) (fun h => kf (Nat.le_of_not_lt fun q => h ((nI_ltI hi hj).mpr q)))
theorem wt_icmp_gt (hexec : p.tables.exec = Jvm.exec) (hb : c.code = cc) {i j : Nat} (hi : i < 2 ^ 31) (hj : j < 2 ^ 31) {off : Int} {tgt : Nat} (hdg : decode cc pc = .ok (.if_icmp .gt off, 3)) (ht : (pc : Int) + off = (tgt : Int))
    (kt : j < i → W p l e R s m args below meth c H locs cells slots Q (F0 m tgt ls rest)) (kf : i ≤ j → W p l e R s m args below meth c H locs cells slots Q (F0 m (pc + 3) ls rest)) : W p l e R s m args below meth c H locs cells slots Q (F0 m pc ls (.int (nI j) :: .int (nI i) :: rest)) :=
  lv_icmp_gt hexec hb hdg ht (fun h => kt ((nI_ltI hj hi).mp h)) (fun h => kf (Nat.le_of_not_lt fun q => h ((nI_ltI hj hi).mpr q)))
theorem wt_icmp_le (hexec : p.tables.exec = Jvm.exec) (hb : c.code = cc) {i j : Nat} (hi : i < 2 ^ 31) (hj : j < 2 ^ 31) {off : Int} {tgt : Nat} (hdg : decode cc pc = .ok (.if_icmp .le off, 3)) (ht : (pc : Int) + off = (tgt : Int))
    (kt : i ≤ j → W p l e R s m args below meth c H locs cells slots Q (F0 m tgt ls rest)) (kf : j < i → W p l e R s m args below meth c H locs cells slots Q (F0 m (pc + 3) ls rest)) : W p l e R s m args below meth c H locs cells slots Q (F0 m pc ls (.int (nI j) :: .int (nI i) :: rest)) :=
  lv_icmp_le hexec hb hdg ht (fun h => kt ((nI_leI hi hj).mp h)) (fun h => kf (Nat.lt_of_not_le fun q => h ((nI_leI hi hj).mpr q)))
theorem wt_icmp_eq (hexec : p.tables.exec = Jvm.exec) (hb : c.code = cc) {i j : Nat} (hi : i < 2 ^ 31) (hj : j < 2 ^ 31) {off : Int} {tgt : Nat} (hdg : decode cc pc = .ok (.if_icmp .eq off, 3)) (ht : (pc : Int) + off = (tgt : Int))
    (kt : i = j → W p l e R s m args below meth c H locs cells slots Q (F0 m tgt ls rest)) (kf : i ≠ j → W p l e R s m args below meth c H locs cells slots Q (F0 m (pc + 3) ls rest)) : W p l e R s m args below meth c H locs cells slots Q (F0 m pc ls (.int (nI j) :: .int (nI i) :: rest)) :=
  lv_icmp_eq hexec hb hdg ht (fun h => kt ((nI_eq hi hj).mp h)) (fun h => kf fun q => h ((nI_eq hi hj).mpr q))
theorem wt_icmp_ne (hexec : p.tables.exec = Jvm.exec) (hb : c.code = cc) {i j : Nat} (hi : i < 2 ^ 31) (hj : j < 2 ^ 31) {off : Int} {tgt : Nat} (hdg : decode cc pc = .ok (.if_icmp .ne off, 3)) (ht : (pc : Int) + off = (tgt : Int))
    (kt : i ≠ j → W p l e R s m args below meth c H locs cells slots Q (F0 m tgt ls rest)) (kf : i = j → W p l e R s m args below meth c H locs cells slots Q (F0 m (pc + 3) ls rest)) : W p l e R s m args below meth c H locs cells slots Q (F0 m pc ls (.int (nI j) :: .int (nI i) :: rest)) :=
  lv_icmp_ne hexec hb hdg ht (fun h => kt fun q => h ((nI_eq hi hj).mpr q)) (fun h => kf ((nI_eq hi hj).mp h))
theorem wt_if_eq (hexec : p.tables.exec = Jvm.exec) (hb : c.code = cc) {i : Nat} (hi : i < 2 ^ 31) {off : Int} {tgt : Nat} (hdg : decode cc pc = .ok (.ifCond .eq off, 3)) (ht : (pc : Int) + off = (tgt : Int))
    (kt : i = 0 → W p l e R s m args below meth c H locs cells slots Q (F0 m tgt ls rest)) (kf : 0 < i → W p l e R s m args below meth c H locs cells slots Q (F0 m (pc + 3) ls rest)) : W p l e R s m args below meth c H locs cells slots Q (F0 m pc ls (.int (nI i) :: rest)) :=
  lv_if_eq hexec hb hdg ht (fun h => kt (Nat.eq_zero_of_not_pos fun q => nI_ne0 q hi h)) (fun h => kf (Nat.pos_of_ne_zero fun q => h (by rw [q]; exact nI_0)))
theorem wt_if_ne (hexec : p.tables.exec = Jvm.exec) (hb : c.code = cc) {i : Nat} (hi : i < 2 ^ 31) {off : Int} {tgt : Nat} (hdg : decode cc pc = .ok (.ifCond .ne off, 3)) (ht : (pc : Int) + off = (tgt : Int))
    (kt : 0 < i → W p l e R s m args below meth c H locs cells slots Q (F0 m tgt ls rest)) (kf : i = 0 → W p l e R s m args below meth c H locs cells slots Q (F0 m (pc + 3) ls rest)) : W p l e R s m args below meth c H locs cells slots Q (F0 m pc ls (.int (nI i) :: rest)) :=
  lv_if_ne hexec hb hdg ht (fun h => kt (Nat.pos_of_ne_zero fun q => h (by rw [q]; exact nI_0))) (fun h => kf (Nat.eq_zero_of_not_pos fun q => nI_ne0 q hi h))
theorem wt_if_le (hexec : p.tables.exec = Jvm.exec) (hb : c.code = cc) {i : Nat} (hi : i < 2 ^ 31) {off : Int} {tgt : Nat} (hdg : decode cc pc = .ok (.ifCond .le off, 3)) (ht : (pc : Int) + off = (tgt : Int))
    (kt : i = 0 → W p l e R s m args below meth c H locs cells slots Q (F0 m tgt ls rest)) (kf : 0 < i → W p l e R s m args below meth c H locs cells slots Q (F0 m (pc + 3) ls rest)) : W p l e R s m args below meth c H locs cells slots Q (F0 m pc ls (.int (nI i) :: rest)) :=
  lv_if_le hexec hb hdg ht (fun h => kt (Nat.eq_zero_of_not_pos fun q => nI_nle q hi h)) (fun h => kf (Nat.pos_of_ne_zero fun q => h (by rw [q]; exact Int32.le_refl _)))
theorem wt_if_gt (hexec : p.tables.exec = Jvm.exec) (hb : c.code = cc) {i : Nat} (hi : i < 2 ^ 31) {off : Int} {tgt : Nat} (hdg : decode cc pc = .ok (.ifCond .gt off, 3)) (ht : (pc : Int) + off = (tgt : Int))
    (kt : 0 < i → W p l e R s m args below meth c H locs cells slots Q (F0 m tgt ls rest)) (kf : i = 0 → W p l e R s m args below meth c H locs cells slots Q (F0 m (pc + 3) ls rest)) : W p l e R s m args below meth c H locs cells slots Q (F0 m pc ls (.int (nI i) :: rest)) :=
  lv_if_gt hexec hb hdg ht (fun h => kt (Nat.pos_of_ne_zero fun q => by rw [q, nI_0] at h; exact absurd h (by decide))) (fun h => kf (Nat.eq_zero_of_not_pos fun q => h (by have := nI_lt q hi; rw [nI_0] at this; exact this)))
/-- branches on the answer of a test -/
theorem wt_if_eqB (hexec : p.tables.exec = Jvm.exec) (hb : c.code = cc) {P : Prop} {off : Int} {tgt : Nat} (hdg : decode cc pc = .ok (.ifCond .eq off, 3)) (ht : (pc : Int) + off = (tgt : Int))
    (kt : ¬ P → W p l e R s m args below meth c H locs cells slots Q (F0 m tgt ls rest)) (kf : P → W p l e R s m args below meth c H locs cells slots Q (F0 m (pc + 3) ls rest)) : W p l e R s m args below meth c H locs cells slots Q (F0 m pc ls (.int (wt_b P) :: rest)) :=
  lv_if_eq hexec hb hdg ht (fun h => kt (wt_b_0 h)) (fun h => kf (wt_b_1 h))
theorem wt_if_neB (hexec : p.tables.exec = Jvm.exec) (hb : c.code = cc) {P : Prop} {off : Int} {tgt : Nat} (hdg : decode cc pc = .ok (.ifCond .ne off, 3)) (ht : (pc : Int) + off = (tgt : Int))
    (kt : P → W p l e R s m args below meth c H locs cells slots Q (F0 m tgt ls rest)) (kf : ¬ P → W p l e R s m args below meth c H locs cells slots Q (F0 m (pc + 3) ls rest)) : W p l e R s m args below meth c H locs cells slots Q (F0 m pc ls (.int (wt_b P) :: rest)) :=
  lv_if_ne hexec hb hdg ht (fun h => kt (wt_b_1 h)) (fun h => kf (wt_b_0 h))
/-- an int array's place, by a natural number -/
theorem wt_iald (hexec : p.tables.exec = Jvm.exec) (hb : c.code = cc) (hK : va_K D vwCl [(cI, .int)] s) (hP : va_P D vwCl ws H) (q0 : Nat) {n : Nat} {f : Nat → Int32} (ha : ws[q0]? = some (a, .inl (cI, n, .inl f))) {i : Nat} (hi : i < n) (hn : n < 2 ^ 31) (hdg : decode cc pc = .ok (.iaload, 1))
    (kk : W p l e R s m args below meth c H locs cells slots Q (F0 m (pc + 1) ls (.int (f i) :: rest))) : W p l e R s m args below meth c H locs cells slots Q (F0 m pc ls (.int (nI i) :: .ref a :: rest)) :=
  va_iald hexec hb hK hP q0 0 ha rfl (vp_in_nI hi hn) hdg (by rw [nI_clamp (Nat.lt_trans hi hn)]; exact kk)
theorem wt_iast (hexec : p.tables.exec = Jvm.exec) (hb : c.code = cc) (hK : va_K D vwCl [(cI, .int)] s) (hP : va_P D vwCl ws H) (hD : va_D A ws) (hS : va_S A H0 H locs) (q0 : Nat) {n : Nat} {f : Nat → Int32} (ha : ws[q0]? = some (a, .inl (cI, n, .inl f))) {i : Nat} {x : Int32} (hi : i < n) (hn : n < 2 ^ 31) (hdg : decode cc pc = .ok (.iastore, 1))
    (kk : ∀ (H1 : Heap) (locs1 : List Loc), va_P D vwCl (ws.set q0 (a, .inl (cI, n, .inl (upd f i x)))) H1 → va_D A (ws.set q0 (a, .inl (cI, n, .inl (upd f i x)))) → va_S A H0 H1 locs1 → W p l e R s m args below meth c H1 locs1 cells slots Q (F0 m (pc + 1) ls rest)) : W p l e R s m args below meth c H locs cells slots Q (F0 m pc ls (.int x :: .int (nI i) :: .ref a :: rest)) :=
  va_iast hexec hb hK hP hD hS q0 0 ha rfl (vp_in_nI hi hn) hdg (by rw [nI_clamp (Nat.lt_trans hi hn)]; exact kk)
/-- a new int array -/
theorem wt_newa (hexec : p.tables.exec = Jvm.exec) (hb : c.code = cc) (harr : (Cond.arrayClass .int).before args s = true) (hK : va_K D vwCl [(cI, .int)] s) (hP : va_P D vwCl ws H) (hD : va_D A ws) (hS : va_S A H0 H locs) (hA : ∀ q, H0.size ≤ q → A q)
    {N : Nat} (hN : N ≤ 10000) (hcells : cells + 1 ≤ R.cells) (hslots : slots + N ≤ R.slots) (hdg : decode cc pc = .ok (.newarray .int, 2))
    (kk : ∀ (q : Nat) (H1 : Heap), va_P D vwCl (ws ++ [(q, .inl (cI, N, .inl (fun _ => 0)))]) H1 → va_D A (ws ++ [(q, .inl (cI, N, .inl (fun _ => 0)))]) → va_S A H0 H1 locs →
      W p l e R s m args below meth c H1 locs (cells + 1) (slots + N) Q (F0 m (pc + 2) ls (.ref q :: rest))) : W p l e R s m args below meth c H locs cells slots Q (F0 m pc ls (.int (nI N) :: rest)) := by
  refine va_newa (atype := .int) (ty := .int) (a0 := (N, .inl (fun _ => 0))) hexec hb harr rfl hK hP hD hS hA (fun _ => rfl) (nI_pos (by omega)) (nI_clamp (by omega)) (by show N * 4 ≤ _; omega) hcells hslots hdg (fun q cA H1 hK1 hP1 hD1 hS1 => ?_)
  have e1 : s.vm.findClass "[I" = some cA := (hK1.2 1 (cA, .int) rfl).2
  have e2 : s.vm.findClass "[I" = some cI := (hK.2 0 (cI, .int) rfl).2
  have e3 : cA = cI := Option.some.inj (e1.symm.trans e2)
  subst e3
  exact kk q H1 hP1 hD1 hS1
/-- the end of a method that only answers -/
theorem wt_ret (hexec : p.tables.exec = Jvm.exec) (hb : c.code = cc) (hr : meth.sig.returnType = some .int) {v r : Int32} (h : v = r) (hH : H = s.heap) (hdg : decode cc pc = .ok (.ireturn, 1)) (hlocks : meth.locks = false) : W p l e R s m args below meth c H [] 0 0 (MQ below (wt_ro r) args s 0 0 wt_no) (F0 m pc ls [.int v]) :=
  W.iret hexec hb hr (fun t ht _ => ⟨by rw [h], by rw [ht, hH]⟩) (fun _ h => nomatch h) hdg hlocks
theorem wt_retz (hexec : p.tables.exec = Jvm.exec) (hb : c.code = cc) (hr : meth.sig.returnType = some .boolean) {v : Int32} {P : Prop} (h : v = wt_b P) (hH : H = s.heap) (hdg : decode cc pc = .ok (.ireturn, 1)) (hlocks : meth.locks = false) : W p l e R s m args below meth c H [] 0 0 (MQ below (wt_ro (wt_b P)) args s 0 0 wt_no) (F0 m pc ls [.int v]) :=
  W.zret hexec hb hr (by rw [h]; exact wt_b_nar P) (fun t ht _ => ⟨by rw [h], by rw [ht, hH]⟩) (fun _ h => nomatch h) hdg hlocks
/-- behind a call that only answers -/
theorem wt_ro_go {r : Int32} (hr : va_Run p l e R s m args below meth c H locs cells slots 0 0 (F0 m pc ls st0) rest (wt_ro r av) wt_no) (k : W p l e R s m args below meth c H locs cells slots Q (F0 m (pc + 3) ls (.int r :: rest))) : W p l e R s m args below meth c H locs cells slots Q (F0 m pc ls st0) := by
  intro T hT X
  obtain ⟨v, st₀, t, T', L, h0, X', hL, e1, -, ⟨hv, hh⟩, st⟩ := hr T hT X
  have hL0 : L = [] := by
    cases L with
    | nil => rfl
    | cons q L => exact (hL q List.mem_cons_self).elim
  subst hL0
  rw [List.append_nil] at X'
  cases hv
  obtain ⟨t2, a1, b1⟩ := k T' (by rw [e1, hh, h0]) X'
  exact ⟨t2, st t2 a1, b1⟩
/-- behind a call that writes in its world's cells -/
theorem wt_mu_go {v : Option Value} {mc ms : Nat} {wH wc w1 wr w2 : va_W} (hr : va_Run p l e R s m args below meth c H locs cells slots mc ms (F0 m pc ls st0) rest (wt_mu v D w1 (va_A wc H.size) av) (va_A wc H.size))
    (hP : va_P D vwCl wH H) (hD : va_D A wH) (hS : va_S A H0 H locs) (hA : ∀ q, H0.size ≤ q → A q) (isC isR : List Nat) (hC : isC.map (fun i => wH[i]?) = wc.map some) (hnC : va_nd isC = true) (hR : isR.map (fun i => wH[i]?) = wr.map some) (hn : va_nd isR = true) (hdis : ∀ i ∈ isR, i ∉ isC) (hadr : w1.map (·.1) = wc.map (·.1))
    (pm : List Nat) (hpm : pm.map (fun i => (wr ++ w1)[i]?) = w2.map some) (hpmF : pm.filterMap (fun i => (wr ++ w1)[i]?) = w2) (hpn : va_nd pm = true)
    (kk : ∀ (H1 : Heap) (locs1 : List Loc), va_P D vwCl w2 H1 → va_D A w2 → va_S A H0 H1 locs1 → H.size ≤ H1.size → W p l e R s m args below meth c H1 locs1 (cells + mc) (slots + ms) Q (F0 m (pc + 3) ls (v.toList ++ rest))) : W p l e R s m args below meth c H locs cells slots Q (F0 m pc ls st0) := by
  intro T hT X
  obtain ⟨v', st₀, t, T', L, h0, X', hL, e1, -, ⟨hv, hP1, hF⟩, st⟩ := hr T hT X
  have hf := va_free hD hS hA isC hC
  obtain ⟨k1, k2, k3⟩ := vx_keep h0 e1 hS (fun q _ h => hf q h) hf hL hF
  have hD1 : va_D (va_A wc H.size) w1 := wt_adr ((hD.sub isC hnC hC).self) hadr
  obtain ⟨j1, j2⟩ := va_join hP hD isC isR hC hR hn hdis k2 hf (by rw [← e1] at hP1; exact hP1) hD1
  cases hv
  obtain ⟨t2, a1, b1⟩ := kk T'.heap (locs ++ L) (j1.sub pm hpmF) (j2.sub pm hpn hpm) k3 k1 T' rfl X'
  exact ⟨t2, st t2 a1, b1⟩
/-- numbers against 0: the one way that is left -/
theorem wt_if_lt (hexec : p.tables.exec = Jvm.exec) (hb : c.code = cc) {i : Nat} (hi : i < 2 ^ 31) {off : Int} {tgt : Nat} (hdg : decode cc pc = .ok (.ifCond .lt off, 3)) (ht : (pc : Int) + off = (tgt : Int))
    (kf : W p l e R s m args below meth c H locs cells slots Q (F0 m (pc + 3) ls rest)) : W p l e R s m args below meth c H locs cells slots Q (F0 m pc ls (.int (nI i) :: rest)) :=
  lv_if_lt hexec hb hdg ht (fun h => absurd h (nI_pos hi)) (fun _ => kf)
theorem wt_if_ge (hexec : p.tables.exec = Jvm.exec) (hb : c.code = cc) {i : Nat} (hi : i < 2 ^ 31) {off : Int} {tgt : Nat} (hdg : decode cc pc = .ok (.ifCond .ge off, 3)) (ht : (pc : Int) + off = (tgt : Int))
    (kt : W p l e R s m args below meth c H locs cells slots Q (F0 m tgt ls rest)) : W p l e R s m args below meth c H locs cells slots Q (F0 m pc ls (.int (nI i) :: rest)) :=
  lv_if_ge hexec hb hdg ht (fun _ => kt) (fun h => absurd (nI_pos' hi) h)
theorem wt_lt_of {x y : Int32} (h : ¬ y ≤ x) : x < y := by
  rw [Int32.le_iff_toInt_le] at h
  rw [Int32.lt_iff_toInt_lt]
  omega
theorem wt_nlt_of {x y : Int32} (h : y ≤ x) : ¬ x < y := by
  rw [Int32.le_iff_toInt_le] at h
  rw [Int32.lt_iff_toInt_lt]
  omega
/-- any numbers: equal, or less -/
theorem wt_icmp_eqI (hexec : p.tables.exec = Jvm.exec) (hb : c.code = cc) {x y : Int32} {off : Int} {tgt : Nat} (hdg : decode cc pc = .ok (.if_icmp .eq off, 3)) (ht : (pc : Int) + off = (tgt : Int))
    (kt : x = y → W p l e R s m args below meth c H locs cells slots Q (F0 m tgt ls rest)) (kf : ¬ x = y → W p l e R s m args below meth c H locs cells slots Q (F0 m (pc + 3) ls rest)) : W p l e R s m args below meth c H locs cells slots Q (F0 m pc ls (.int y :: .int x :: rest)) := lv_icmp_eq hexec hb hdg ht kt kf
theorem wt_icmp_neI (hexec : p.tables.exec = Jvm.exec) (hb : c.code = cc) {x y : Int32} {off : Int} {tgt : Nat} (hdg : decode cc pc = .ok (.if_icmp .ne off, 3)) (ht : (pc : Int) + off = (tgt : Int))
    (kt : ¬ x = y → W p l e R s m args below meth c H locs cells slots Q (F0 m tgt ls rest)) (kf : x = y → W p l e R s m args below meth c H locs cells slots Q (F0 m (pc + 3) ls rest)) : W p l e R s m args below meth c H locs cells slots Q (F0 m pc ls (.int y :: .int x :: rest)) := lv_icmp_ne hexec hb hdg ht kt kf
theorem wt_icmp_ltI (hexec : p.tables.exec = Jvm.exec) (hb : c.code = cc) {x y : Int32} {off : Int} {tgt : Nat} (hdg : decode cc pc = .ok (.if_icmp .lt off, 3)) (ht : (pc : Int) + off = (tgt : Int))
    (kt : x < y → W p l e R s m args below meth c H locs cells slots Q (F0 m tgt ls rest)) (kf : ¬ x < y → W p l e R s m args below meth c H locs cells slots Q (F0 m (pc + 3) ls rest)) : W p l e R s m args below meth c H locs cells slots Q (F0 m pc ls (.int y :: .int x :: rest)) := lv_icmp_lt hexec hb hdg ht kt kf
theorem wt_icmp_geI (hexec : p.tables.exec = Jvm.exec) (hb : c.code = cc) {x y : Int32} {off : Int} {tgt : Nat} (hdg : decode cc pc = .ok (.if_icmp .ge off, 3)) (ht : (pc : Int) + off = (tgt : Int))
    (kt : ¬ x < y → W p l e R s m args below meth c H locs cells slots Q (F0 m tgt ls rest)) (kf : x < y → W p l e R s m args below meth c H locs cells slots Q (F0 m (pc + 3) ls rest)) : W p l e R s m args below meth c H locs cells slots Q (F0 m pc ls (.int y :: .int x :: rest)) := lv_icmp_ge hexec hb hdg ht (fun h => kt (wt_nlt_of h)) (fun h => kf (wt_lt_of h))
theorem wt_icmp_gtI (hexec : p.tables.exec = Jvm.exec) (hb : c.code = cc) {x y : Int32} {off : Int} {tgt : Nat} (hdg : decode cc pc = .ok (.if_icmp .gt off, 3)) (ht : (pc : Int) + off = (tgt : Int))
    (kt : y < x → W p l e R s m args below meth c H locs cells slots Q (F0 m tgt ls rest)) (kf : ¬ y < x → W p l e R s m args below meth c H locs cells slots Q (F0 m (pc + 3) ls rest)) : W p l e R s m args below meth c H locs cells slots Q (F0 m pc ls (.int y :: .int x :: rest)) := lv_icmp_gt hexec hb hdg ht kt kf
theorem wt_icmp_leI (hexec : p.tables.exec = Jvm.exec) (hb : c.code = cc) {x y : Int32} {off : Int} {tgt : Nat} (hdg : decode cc pc = .ok (.if_icmp .le off, 3)) (ht : (pc : Int) + off = (tgt : Int))
    (kt : ¬ y < x → W p l e R s m args below meth c H locs cells slots Q (F0 m tgt ls rest)) (kf : y < x → W p l e R s m args below meth c H locs cells slots Q (F0 m (pc + 3) ls rest)) : W p l e R s m args below meth c H locs cells slots Q (F0 m pc ls (.int y :: .int x :: rest)) := lv_icmp_le hexec hb hdg ht (fun h => kt (wt_nlt_of h)) (fun h => kf (wt_lt_of h))
theorem wt_if_eqI (hexec : p.tables.exec = Jvm.exec) (hb : c.code = cc) {x : Int32} {off : Int} {tgt : Nat} (hdg : decode cc pc = .ok (.ifCond .eq off, 3)) (ht : (pc : Int) + off = (tgt : Int))
    (kt : x = 0 → W p l e R s m args below meth c H locs cells slots Q (F0 m tgt ls rest)) (kf : ¬ x = 0 → W p l e R s m args below meth c H locs cells slots Q (F0 m (pc + 3) ls rest)) : W p l e R s m args below meth c H locs cells slots Q (F0 m pc ls (.int x :: rest)) := lv_if_eq hexec hb hdg ht kt kf
theorem wt_if_neI (hexec : p.tables.exec = Jvm.exec) (hb : c.code = cc) {x : Int32} {off : Int} {tgt : Nat} (hdg : decode cc pc = .ok (.ifCond .ne off, 3)) (ht : (pc : Int) + off = (tgt : Int))
    (kt : ¬ x = 0 → W p l e R s m args below meth c H locs cells slots Q (F0 m tgt ls rest)) (kf : x = 0 → W p l e R s m args below meth c H locs cells slots Q (F0 m (pc + 3) ls rest)) : W p l e R s m args below meth c H locs cells slots Q (F0 m pc ls (.int x :: rest)) := lv_if_ne hexec hb hdg ht kt kf
theorem wt_if_ltI (hexec : p.tables.exec = Jvm.exec) (hb : c.code = cc) {x : Int32} {off : Int} {tgt : Nat} (hdg : decode cc pc = .ok (.ifCond .lt off, 3)) (ht : (pc : Int) + off = (tgt : Int))
    (kt : x < 0 → W p l e R s m args below meth c H locs cells slots Q (F0 m tgt ls rest)) (kf : ¬ x < 0 → W p l e R s m args below meth c H locs cells slots Q (F0 m (pc + 3) ls rest)) : W p l e R s m args below meth c H locs cells slots Q (F0 m pc ls (.int x :: rest)) := lv_if_lt hexec hb hdg ht kt kf
theorem wt_if_geI (hexec : p.tables.exec = Jvm.exec) (hb : c.code = cc) {x : Int32} {off : Int} {tgt : Nat} (hdg : decode cc pc = .ok (.ifCond .ge off, 3)) (ht : (pc : Int) + off = (tgt : Int))
    (kt : ¬ x < 0 → W p l e R s m args below meth c H locs cells slots Q (F0 m tgt ls rest)) (kf : x < 0 → W p l e R s m args below meth c H locs cells slots Q (F0 m (pc + 3) ls rest)) : W p l e R s m args below meth c H locs cells slots Q (F0 m pc ls (.int x :: rest)) := lv_if_ge hexec hb hdg ht (fun h => kt (wt_nlt_of h)) (fun h => kf (wt_lt_of h))
theorem wt_if_gtI (hexec : p.tables.exec = Jvm.exec) (hb : c.code = cc) {x : Int32} {off : Int} {tgt : Nat} (hdg : decode cc pc = .ok (.ifCond .gt off, 3)) (ht : (pc : Int) + off = (tgt : Int))
    (kt : 0 < x → W p l e R s m args below meth c H locs cells slots Q (F0 m tgt ls rest)) (kf : ¬ 0 < x → W p l e R s m args below meth c H locs cells slots Q (F0 m (pc + 3) ls rest)) : W p l e R s m args below meth c H locs cells slots Q (F0 m pc ls (.int x :: rest)) := lv_if_gt hexec hb hdg ht kt kf
theorem wt_if_leI (hexec : p.tables.exec = Jvm.exec) (hb : c.code = cc) {x : Int32} {off : Int} {tgt : Nat} (hdg : decode cc pc = .ok (.ifCond .le off, 3)) (ht : (pc : Int) + off = (tgt : Int))
    (kt : ¬ 0 < x → W p l e R s m args below meth c H locs cells slots Q (F0 m tgt ls rest)) (kf : 0 < x → W p l e R s m args below meth c H locs cells slots Q (F0 m (pc + 3) ls rest)) : W p l e R s m args below meth c H locs cells slots Q (F0 m pc ls (.int x :: rest)) := lv_if_le hexec hb hdg ht (fun h => kt (wt_nlt_of h)) (fun h => kf (wt_lt_of h))
/-- a loop: from any of its states, those of a smaller measure done -/
theorem wt_lp {σ : Type} (x0 : σ) (μ : σ → Nat) (I : σ → Array Slot → Prop) (h0 : I x0 ls) (step : ∀ (x : σ) (ls : Array Slot), I x ls → (∀ (y : σ) (ls : Array Slot), μ y < μ x → I y ls → W p l e R s m args below meth c H locs cells slots Q (F0 m pc ls st0)) → W p l e R s m args below meth c H locs cells slots Q (F0 m pc ls st0)) : W p l e R s m args below meth c H locs cells slots Q (F0 m pc ls st0) := by
  have key : ∀ (n : Nat) (x : σ) (ls : Array Slot), μ x < n → I x ls → W p l e R s m args below meth c H locs cells slots Q (F0 m pc ls st0) := by
    intro n
    induction n with
    | zero => intro x ls h; exact absurd h (Nat.not_lt_zero _)
    | succ n ih => exact fun x ls h hI => step x ls hI fun y ls hy hIy => ih y ls (Nat.lt_of_lt_of_le hy (Nat.le_of_lt_succ h)) hIy
  exact key _ x0 ls (Nat.lt_succ_self _) h0
theorem wt_lpM {σ : Type} (x0 : σ) (μ : σ → Nat) (I : σ → Array Slot → Heap → List Loc → Prop) (h0 : I x0 ls H locs) (step : ∀ (x : σ) (ls : Array Slot) (H : Heap) (locs : List Loc), I x ls H locs → (∀ (y : σ) (ls : Array Slot) (H : Heap) (locs : List Loc), μ y < μ x → I y ls H locs → W p l e R s m args below meth c H locs cells slots Q (F0 m pc ls st0)) → W p l e R s m args below meth c H locs cells slots Q (F0 m pc ls st0)) : W p l e R s m args below meth c H locs cells slots Q (F0 m pc ls st0) := by
  have key : ∀ (n : Nat) (x : σ) (ls : Array Slot) (H : Heap) (locs : List Loc), μ x < n → I x ls H locs → W p l e R s m args below meth c H locs cells slots Q (F0 m pc ls st0) := by
    intro n
    induction n with
    | zero => intro x ls H locs h; exact absurd h (Nat.not_lt_zero _)
    | succ n ih => exact fun x ls H locs h hI => step x ls H locs hI fun y ls H locs hy hIy => ih y ls H locs (Nat.lt_of_lt_of_le hy (Nat.le_of_lt_succ h)) hIy
  exact key _ x0 ls H locs (Nat.lt_succ_self _) h0
/-- ways that meet again, with a number on top -/
theorem wt_join {v0 : Int32} {tgt : Nat} {st1 : List Value} (k : W p l e R s m args below meth c H locs cells slots Q (F0 m tgt ls (.int v0 :: st1))) (f : (∀ v : Int32, v = v0 → W p l e R s m args below meth c H locs cells slots Q (F0 m tgt ls (.int v :: st1))) → W p l e R s m args below meth c H locs cells slots Q (F0 m pc ls st0)) : W p l e R s m args below meth c H locs cells slots Q (F0 m pc ls st0) := f fun v hv => by rw [hv]; exact k
/-- a callee's start -/
theorem wt_PS {As : List Value} : PreS s H (va_Pc As (fun _ => True)) As := ⟨fun _ _ _ _ q => q, fun _ _ _ => ⟨rfl, trivial⟩⟩
theorem wt_PV {wH wc : va_W} {b : Nat} {As : List Value} {C : String} {T : u_T} {N ci q0 : Nat} {fs : List Value} (hK : va_K D vwCl [(cI, .int)] s) (hP : va_P D vwCl wH H) (hN : wt_nst s) (hc : vwCl[ci]? = some (C, T, N)) (he : wH[q0]? = some (b, .inr (ci, fs))) (is : List Nat) (his : is.filterMap (fun i => wH[i]?) = wc) : PreV s H C b (va_Pc (.ref b :: As) (wt_pre D cI wc)) As :=
  ⟨fun _ _ _ _ q => ⟨q.1, wt_pre_blind q.2⟩, va_recv hK hP hc he, fun _ hU hW => ⟨rfl, wt_pre_at hK (hP.sub is his) hN hU hW⟩⟩
theorem wt_pm_at {wH wc : va_W} (hK : va_K D vwCl [(cI, .int)] s) (hP : va_P D vwCl wH H) (hN : wt_nst s) (hD : va_D A wH) (is : List Nat) (hC : is.map (fun i => wH[i]?) = wc.map some) (hn : va_nd is = true) {U : State} (hU : U.heap = H) (hW : s.WarmedH U.vm) : wt_pm D cI wc H.size U :=
  ⟨by rw [hU], wt_pre_at hK (hP.sub is (wt_fm _ _ _ hC)) hN hU hW, (hD.sub is hn hC).weaken (fun _ _ _ _ => trivial)⟩
theorem wt_PVM {wH wc : va_W} {b : Nat} {As : List Value} {C : String} {T : u_T} {N ci q0 : Nat} {fs : List Value} (hK : va_K D vwCl [(cI, .int)] s) (hP : va_P D vwCl wH H) (hN : wt_nst s) (hD : va_D A wH) (hc : vwCl[ci]? = some (C, T, N)) (he : wH[q0]? = some (b, .inr (ci, fs))) (is : List Nat) (hC : is.map (fun i => wH[i]?) = wc.map some) (hn : va_nd is = true) : PreV s H C b (va_Pc (.ref b :: As) (wt_pm D cI wc H.size)) As :=
  ⟨fun _ _ _ _ q => ⟨q.1, wt_pm_blind q.2⟩, va_recv hK hP hc he, fun _ hU hW => ⟨rfl, wt_pm_at hK hP hN hD is hC hn hU hW⟩⟩
theorem wt_PI {wH wc : va_W} {b : Nat} {As : List Value} (hK : va_K D vwCl [(cI, .int)] s) (hP : va_P D vwCl wH H) (hN : wt_nst s) (hD : va_D A wH) (is : List Nat) (hC : is.map (fun i => wH[i]?) = wc.map some) (hn : va_nd is = true) : PreS s H (va_Pc (.ref b :: As) (wt_pm D cI wc H.size)) (.ref b :: As) :=
  ⟨fun _ _ _ _ q => ⟨q.1, wt_pm_blind q.2⟩, fun _ hU hW => ⟨rfl, wt_pm_at hK hP hN hD is hC hn hU hW⟩⟩
/-- the end of a method that writes -/
theorem wt_mvret {w1 : va_W} (hexec : p.tables.exec = Jvm.exec) (hb : c.code = cc) (hr : meth.sig.returnType = none) (hP : va_P D vwCl w1 H) (hS : va_S A s.heap H locs) (hdg : decode cc pc = .ok (.return_, 1)) (hlocks : meth.locks = false) : W p l e R s m args below meth c H locs cells slots (MQ below (wt_mu none D w1 A) args s cells slots A) (F0 m pc ls []) :=
  W.vret hexec hb hr (fun t ht _ => ⟨rfl, by rw [ht]; exact hP, hS.F ht⟩) hS.2.2 hdg hlocks
theorem wt_miret {w1 : va_W} {v r : Int32} (hexec : p.tables.exec = Jvm.exec) (hb : c.code = cc) (hr : meth.sig.returnType = some .int) (hv : v = r) (hP : va_P D vwCl w1 H) (hS : va_S A s.heap H locs) (hdg : decode cc pc = .ok (.ireturn, 1)) (hlocks : meth.locks = false) : W p l e R s m args below meth c H locs cells slots (MQ below (wt_mu (some (.int r)) D w1 A) args s cells slots A) (F0 m pc ls [.int v]) :=
  W.iret hexec hb hr (fun t ht _ => ⟨by rw [hv], by rw [ht]; exact hP, hS.F ht⟩) hS.2.2 hdg hlocks
end WT1
end
section
/-! What the class's methods compute, as functions of their cells' contents -/
theorem wt_all_s {P : Nat → Prop} {i : Nat} (h : ∀ q, q < i → P q) (hi : P i) : ∀ q, q < i + 1 → P q := fun q hq => (Nat.lt_or_ge q i).elim (h q) (fun z => by rw [show q = i by omega]; exact hi)
def wt_bit (m : Int32) : Int32 := nI 1 <<< (m &&& 31)
def wt_has (s m : Int32) : Prop := ¬ m < 0 ∧ m < nI 32 ∧ ¬ (s &&& wt_bit m) = 0
noncomputable def wt_loss (x y : Int32) : Int32 := wt_if (x < y) (nI 2) (wt_if (x = y) (nI 1) (wt_if (x < nI 2 * y) (nI 1) (nI 0)))
-- the map
noncomputable def wt_nxt (fp fu : Nat → Int32) (x w : Int32) : Int32 := wt_if (vp_in x 10) (wt_if (w = nI 2) (nI 0) (wt_if (w = nI 1) (fp x.toNatClampNeg) (fp x.toNatClampNeg ||| fu x.toNatClampNeg))) (nI 0)
noncomputable def wt_wds (fp fu : Nat → Int32) (x w : Int32) (t : Nat) (a : Int32) : Int32 := wt_if (wt_has x (nI t)) (a ||| wt_nxt fp fu (nI t) w) a
noncomputable def wt_wid (fp fu : Nat → Int32) (x w : Int32) : Int32 := wt_fold (wt_wds fp fu x w) 10 x
def wt_jn (f : Nat → Int32) (a b : Nat) : Nat → Int32 := upd (upd f a (f a ||| wt_bit (nI b))) b (upd f a (f a ||| wt_bit (nI b)) b ||| wt_bit (nI a))
-- the units
noncomputable def wt_plT (ft : Nat → Int32) (k u : Nat) (t s : Int32) : Nat → Int32 := upd ft (k * 12 + u) (wt_if (0 < s) t (-1))
def wt_plF (ff : Nat → Int32) (k u : Nat) (s : Int32) : Nat → Int32 := upd ff (k * 12 + u) (wt_max s (nI 0))
noncomputable def wt_pl (p : (Nat → Int32) × (Nat → Int32)) (k u : Nat) (t s : Int32) : (Nat → Int32) × (Nat → Int32) := (wt_plT p.1 k u t s, wt_plF p.2 k u s)
noncomputable def wt_cps (fr to : Nat) (u : Nat) (p : (Nat → Int32) × (Nat → Int32)) : (Nat → Int32) × (Nat → Int32) := wt_pl p to u (p.1 (fr * 12 + u)) (p.2 (fr * 12 + u))
noncomputable def wt_dfs (ft ff : Nat → Int32) (k j : Nat) (u n : Nat) : Nat := wt_if (ft (k * 12 + u) = ft (j * 12 + u)) (wt_if (ff (k * 12 + u) = ff (j * 12 + u)) n (n + 1)) (n + 1)
noncomputable def wt_lvs (ft : Nat → Int32) (k : Nat) (u n : Nat) : Nat := wt_if (ft (k * 12 + u) = -1) n (n + 1)
noncomputable def wt_hs (fs ft : Nat → Int32) (k sd : Nat) (u : Nat) (a : Int32) : Int32 := wt_if (fs u = nI sd) (wt_if (ft (k * 12 + u) = -1) a (a ||| wt_bit (ft (k * 12 + u)))) a
noncomputable def wt_held (fs ft : Nat → Int32) (k sd cn : Nat) : Int32 := wt_fold (wt_hs fs ft k sd) cn (nI 0)
-- a turn
noncomputable def wt_sup (fd fp fu fs ft : Nat → Int32) (cn k sd : Nat) (w : Int32) (r : Nat) : Int32 := wt_fold (fun _ t => wt_wid fp fu t w &&& (wt_held fs ft k (1 - sd) cn ^^^ (-1))) r (wt_bit (fd sd) &&& (wt_held fs ft k (1 - sd) cn ^^^ (-1)))
noncomputable def wt_sus (x y : Int32) (fs ft : Nat → Int32) (k : Nat) (u : Nat) (a : Int32) : Int32 := wt_if (fs u = 0) (wt_if (wt_has x (ft (k * 12 + u))) (a ||| wt_bit (nI u)) a) (wt_if (wt_has y (ft (k * 12 + u))) (a ||| wt_bit (nI u)) a)
noncomputable def wt_sun (fd fp fu fs ft : Nat → Int32) (cn k : Nat) (w : Int32) : Int32 := wt_fold (wt_sus (wt_sup fd fp fu fs ft cn k 0 w 4) (wt_sup fd fp fu fs ft cn k 1 w 4) fs ft k) cn (nI 0)
noncomputable def wt_gos (fp fu ft fo : Nat → Int32) (k : Nat) (w sp : Int32) (u : Nat) (a : Int32) : Int32 := wt_if (wt_has sp (nI u)) (wt_if (wt_has (wt_nxt fp fu (ft (k * 12 + u)) w) (fo (k * 12 + u) - nI 1)) (a ||| wt_bit (nI u)) a) a
noncomputable def wt_goe (fp fu ft fo : Nat → Int32) (cn k : Nat) (w sp : Int32) : Int32 := wt_fold (wt_gos fp fu ft fo k w sp) cn (nI 0)
def wt_met1 (fs ft fo : Nat → Int32) (k u : Nat) (go : Int32) (q : Nat) : Prop := wt_has go (nI q) ∧ ¬ fs q = fs u ∧ ft (k * 12 + q) = fo (k * 12 + u) - nI 1 ∧ fo (k * 12 + q) - nI 1 = ft (k * 12 + u)
def wt_met (fs ft fo : Nat → Int32) (cn k u : Nat) (go : Int32) : Prop := ∃ q : Nat, q < cn ∧ wt_met1 fs ft fo k u go q
noncomputable def wt_mrs (fs fo : Nat → Int32) (cn k : Nat) (go : Int32) (u : Nat) (p : (Nat → Int32) × (Nat → Int32)) : (Nat → Int32) × (Nat → Int32) := wt_if (wt_has go (nI u)) (wt_if (wt_met fs p.1 fo cn k u go) (wt_pl p (k + 1) u (p.1 (k * 12 + u)) (p.2 (k * 12 + u))) (wt_pl p (k + 1) u (fo (k * 12 + u) - nI 1) (p.2 (k * 12 + u)))) (wt_pl p (k + 1) u (p.1 (k * 12 + u)) (p.2 (k * 12 + u)))
noncomputable def wt_mar (fs fo : Nat → Int32) (cn k : Nat) (go : Int32) (p : (Nat → Int32) × (Nat → Int32)) : (Nat → Int32) × (Nat → Int32) := wt_fold (wt_mrs fs fo cn k go) cn p
noncomputable def wt_sms (fs ft ff : Nat → Int32) (k t sd : Nat) (sp : Int32) (u : Nat) (a : Int32) : Int32 := wt_if (fs u = nI sd) (wt_if (ft (k * 12 + u) = nI t) (wt_if (wt_has sp (nI u)) (a + ff (k * 12 + u)) (a + ff (k * 12 + u) / nI 2)) a) a
noncomputable def wt_sum (fs ft ff : Nat → Int32) (cn k t sd : Nat) (sp : Int32) : Int32 := wt_fold (wt_sms fs ft ff k t sd sp) cn (nI 0)
noncomputable def wt_fts (fs : Nat → Int32) (k t : Nat) (x y : Int32) (u : Nat) (p : (Nat → Int32) × (Nat → Int32)) : (Nat → Int32) × (Nat → Int32) := wt_if (p.1 (k * 12 + u) = nI t) (wt_if (fs u = 0) (wt_pl p k u (nI t) (p.2 (k * 12 + u) - wt_loss x y)) (wt_pl p k u (nI t) (p.2 (k * 12 + u) - wt_loss y x))) p
noncomputable def wt_fgt (fs : Nat → Int32) (cn k t : Nat) (sp : Int32) (p : (Nat → Int32) × (Nat → Int32)) : (Nat → Int32) × (Nat → Int32) := wt_fold (wt_fts fs k t (wt_sum fs p.1 p.2 cn k t 0 sp) (wt_sum fs p.1 p.2 cn k t 1 sp)) cn p
noncomputable def wt_fes (fs : Nat → Int32) (cn k : Nat) (sp ct : Int32) (t : Nat) (p : (Nat → Int32) × (Nat → Int32)) : (Nat → Int32) × (Nat → Int32) := wt_if (wt_has ct (nI t)) (wt_fgt fs cn k t sp p) p
noncomputable def wt_fev (fs : Nat → Int32) (cn k : Nat) (sp : Int32) (p : (Nat → Int32) × (Nat → Int32)) : (Nat → Int32) × (Nat → Int32) := wt_fold (wt_fes fs cn k sp (wt_held fs p.1 k 0 cn &&& wt_held fs p.1 k 1 cn)) 10 p
noncomputable def wt_sig (fp fu fs ft : Nat → Int32) (cn k : Nat) : Int32 := wt_fold (wt_sus (wt_wid fp fu (wt_held fs ft k 1 cn) (nI 0)) (wt_wid fp fu (wt_held fs ft k 0 cn) (nI 0)) fs ft k) cn (nI 0)
/-- towns, strengths and sight behind turn t -/
noncomputable def wt_tr2 (fd fp fu fs fo : Nat → Int32) (cn : Nat) (t : Nat) (w : Int32) (p : (Nat → Int32) × (Nat → Int32)) : (Nat → Int32) × (Nat → Int32) := wt_fev fs cn (t + 1) (wt_sun fd fp fu fs p.1 cn t w) (wt_mar fs fo cn t (wt_goe fp fu p.1 fo cn t w (wt_sun fd fp fu fs p.1 cn t w)) p)
noncomputable def wt_trn (fd fw fp fu fs fo : Nat → Int32) (cn f : Nat) (j : Nat) (q : ((Nat → Int32) × (Nat → Int32)) × (Nat → Int32)) : ((Nat → Int32) × (Nat → Int32)) × (Nat → Int32) := (wt_tr2 fd fp fu fs fo cn (f + j) (fw (f + j)) q.1, upd q.2 (f + j) (wt_sig fp fu fs (wt_tr2 fd fp fu fs fo cn (f + j) (fw (f + j)) q.1).1 cn (f + j + 1)))
theorem wt_max_0 {f : Nat} (h : f < 2 ^ 31) : wt_max (nI f) (nI 0) = nI f := by
  unfold wt_max
  exact if_neg (nI_nlt (Nat.zero_le f) h)
theorem wt_in_lt {x : Int32} {b : Nat} (hb : b < 2 ^ 31) (h0 : ¬ x < 0) (h : x < nI b) : vp_in x b := by
  obtain ⟨j, hj, rfl⟩ := nI_of h0
  exact vp_in_nI ((nI_ltI hj hb).mp h) hb
theorem wt_in_ge {x : Int32} {b : Nat} (hb : b < 2 ^ 31) (h : ¬ x < nI b) : ¬ vp_in x b := by
  intro q
  obtain ⟨j, hj, rfl⟩ := vp_in_of q hb
  exact h (nI_lt hj hb)
end
section
set_option maxHeartbeats 4000000 in
set_option maxRecDepth 100000 in
theorem k_X3_belowN (l : Launch) (a : Nat) (b : Nat) (ha : a < 2 ^ 31) (hb2 : b < 2 ^ 31) : Met l yX3_below wsX3_below ({ frames := 0, cells := 0, slots := 0, locals := 0 }) (va_Pc [.int (nI a), .int (nI b)] (fun _ => True)) (wt_ro (wt_b (a < b))) 0 0 wt_no := by
  refine Met.ofW (cc := cX3_below) (maxL := 2) (ret := (some .boolean)) (by decide) rfl ?_
  intro p e s m args below meth c s₁ B hml hv
  obtain ⟨rfl, -⟩ := hv
  have hx := B.exec
  have hb := B.bytes
  have hr := B.returns
  have hts := atoms_spec (ws := wsX3_below) B.pre
  have hown : s.vm.findClass RX3 = some m.cls := findClass_of_methodNamed B.named
  have hlocks := B.notSynchronized
  have hl := lv_entry ([.int (nI a), .int (nI b)]) (n := 2) (Nat.le_of_ble_eq_true rfl)
  rw [lg_entry_eq]
  generalize (lg_sl ([.int (nI a), .int (nI b)]) ++ List.replicate (2 - (lg_sl ([.int (nI a), .int (nI b)])).length) Slot.unset).toArray = ls at hl ⊢
  have hl : lv_has ls 2 [(0, .int (nI a)), (1, .int (nI b))] := hl
  refine lv_iload_n hx hb dX3_below_0 rfl (lv_at hl 0 rfl) ?_
  refine wt_if_lt (tgt := 13) hx hb (by omega) dX3_below_1 (by decide) ?_
  refine lv_iload_n hx hb dX3_below_4 rfl (lv_at hl 0 rfl) ?_
  refine lv_iload_n hx hb dX3_below_5 rfl (lv_at hl 1 rfl) ?_
  refine wt_icmp_ge (tgt := 13) hx hb (by omega) (by omega) dX3_below_6 (by decide) (fun c_6_1 => ?_) (fun c_6_1 => ?_)
  · refine lv_iconst (v := nI 0) hx hb dX3_below_13 (by decide +kernel) ?_
    exact wt_retz hx hb hr (by first | exact wt_bt1 (by omega) | exact wt_bf0 (by omega)) rfl dX3_below_14 hlocks
  · refine lv_iconst (v := nI 1) hx hb dX3_below_9 (by decide +kernel) ?_
    refine lv_goto (tgt := 14) hx hb dX3_below_10 (by decide) ?_
    exact wt_retz hx hb hr (by first | exact wt_bt1 (by omega) | exact wt_bf0 (by omega)) rfl dX3_below_14 hlocks
set_option maxHeartbeats 4000000 in
set_option maxRecDepth 100000 in
theorem k_X3_belowI (l : Launch) (x : Int32) (b : Nat) (hb2 : b < 2 ^ 31) : Met l yX3_below wsX3_below ({ frames := 0, cells := 0, slots := 0, locals := 0 }) (va_Pc [.int x, .int (nI b)] (fun _ => True)) (wt_ro (wt_b (vp_in x b))) 0 0 wt_no := by
  refine Met.ofW (cc := cX3_below) (maxL := 2) (ret := (some .boolean)) (by decide) rfl ?_
  intro p e s m args below meth c s₁ B hml hv
  obtain ⟨rfl, -⟩ := hv
  have hx := B.exec
  have hb := B.bytes
  have hr := B.returns
  have hts := atoms_spec (ws := wsX3_below) B.pre
  have hown : s.vm.findClass RX3 = some m.cls := findClass_of_methodNamed B.named
  have hlocks := B.notSynchronized
  have hl := lv_entry ([.int x, .int (nI b)]) (n := 2) (Nat.le_of_ble_eq_true rfl)
  rw [lg_entry_eq]
  generalize (lg_sl ([.int x, .int (nI b)]) ++ List.replicate (2 - (lg_sl ([.int x, .int (nI b)])).length) Slot.unset).toArray = ls at hl ⊢
  have hl : lv_has ls 2 [(0, .int x), (1, .int (nI b))] := hl
  refine lv_iload_n hx hb dX3_below_0 rfl (lv_at hl 0 rfl) ?_
  refine wt_if_ltI (tgt := 13) hx hb dX3_below_1 (by decide) (fun c_1_1 => ?_) (fun c_1_1 => ?_)
  · refine lv_iconst (v := nI 0) hx hb dX3_below_13 (by decide +kernel) ?_
    exact wt_retz hx hb hr (by first | exact wt_bt1 (wt_in_lt hb2 (by assumption) (by assumption)) | exact wt_bf0 (fun q => q (Or.inl (by assumption))) | exact wt_bf0 (wt_in_ge hb2 (by assumption))) rfl dX3_below_14 hlocks
  · refine lv_iload_n hx hb dX3_below_4 rfl (lv_at hl 0 rfl) ?_
    refine lv_iload_n hx hb dX3_below_5 rfl (lv_at hl 1 rfl) ?_
    refine wt_icmp_geI (tgt := 13) hx hb dX3_below_6 (by decide) (fun c_6_2 => ?_) (fun c_6_2 => ?_)
    · refine lv_iconst (v := nI 0) hx hb dX3_below_13 (by decide +kernel) ?_
      exact wt_retz hx hb hr (by first | exact wt_bt1 (wt_in_lt hb2 (by assumption) (by assumption)) | exact wt_bf0 (fun q => q (Or.inl (by assumption))) | exact wt_bf0 (wt_in_ge hb2 (by assumption))) rfl dX3_below_14 hlocks
    · refine lv_iconst (v := nI 1) hx hb dX3_below_9 (by decide +kernel) ?_
      refine lv_goto (tgt := 14) hx hb dX3_below_10 (by decide) ?_
      exact wt_retz hx hb hr (by first | exact wt_bt1 (wt_in_lt hb2 (by assumption) (by assumption)) | exact wt_bf0 (fun q => q (Or.inl (by assumption))) | exact wt_bf0 (wt_in_ge hb2 (by assumption))) rfl dX3_below_14 hlocks
set_option maxHeartbeats 4000000 in
set_option maxRecDepth 100000 in
theorem k_X3_opponent (l : Launch) (a : Nat) (ha : a ≤ 1) : Met l yX3_opponent wsX3_opponent ({ frames := 0, cells := 0, slots := 0, locals := 0 }) (va_Pc [.int (nI a)] (fun _ => True)) (wt_ro (nI (1 - a))) 0 0 wt_no := by
  refine Met.ofW (cc := cX3_opponent) (maxL := 1) (ret := (some .int)) (by decide) rfl ?_
  intro p e s m args below meth c s₁ B hml hv
  obtain ⟨rfl, -⟩ := hv
  have hx := B.exec
  have hb := B.bytes
  have hr := B.returns
  have hts := atoms_spec (ws := wsX3_opponent) B.pre
  have hown : s.vm.findClass RX3 = some m.cls := findClass_of_methodNamed B.named
  have hlocks := B.notSynchronized
  have hl := lv_entry ([.int (nI a)]) (n := 1) (Nat.le_of_ble_eq_true rfl)
  rw [lg_entry_eq]
  generalize (lg_sl ([.int (nI a)]) ++ List.replicate (1 - (lg_sl ([.int (nI a)])).length) Slot.unset).toArray = ls at hl ⊢
  have hl : lv_has ls 1 [(0, .int (nI a))] := hl
  refine lv_iconst (v := nI 1) hx hb dX3_opponent_0 (by decide +kernel) ?_
  refine lv_iload_n hx hb dX3_opponent_1 rfl (lv_at hl 0 rfl) ?_
  refine wt_isub hx hb (by omega) dX3_opponent_2 ?_
  exact wt_ret hx hb hr rfl rfl dX3_opponent_3 hlocks
set_option maxHeartbeats 4000000 in
set_option maxRecDepth 100000 in
theorem k_X3_bit (l : Launch) (x : Int32) : Met l yX3_bit wsX3_bit ({ frames := 0, cells := 0, slots := 0, locals := 0 }) (va_Pc [.int x] (fun _ => True)) (wt_ro (wt_bit x)) 0 0 wt_no := by
  refine Met.ofW (cc := cX3_bit) (maxL := 1) (ret := (some .int)) (by decide) rfl ?_
  intro p e s m args below meth c s₁ B hml hv
  obtain ⟨rfl, -⟩ := hv
  have hx := B.exec
  have hb := B.bytes
  have hr := B.returns
  have hts := atoms_spec (ws := wsX3_bit) B.pre
  have hown : s.vm.findClass RX3 = some m.cls := findClass_of_methodNamed B.named
  have hlocks := B.notSynchronized
  have hl := lv_entry ([.int x]) (n := 1) (Nat.le_of_ble_eq_true rfl)
  rw [lg_entry_eq]
  generalize (lg_sl ([.int x]) ++ List.replicate (1 - (lg_sl ([.int x])).length) Slot.unset).toArray = ls at hl ⊢
  have hl : lv_has ls 1 [(0, .int x)] := hl
  refine lv_iconst (v := nI 1) hx hb dX3_bit_0 (by decide +kernel) ?_
  refine lv_iload_n hx hb dX3_bit_1 rfl (lv_at hl 0 rfl) ?_
  refine lv_ishl hx hb dX3_bit_2 ?_
  exact wt_ret hx hb hr rfl rfl dX3_bit_3 hlocks
set_option maxHeartbeats 4000000 in
set_option maxRecDepth 100000 in
theorem k_X3_has (l : Launch) (x : Int32) (y : Int32) : Met l yX3_has wsX3_has ({ frames := 1, cells := 0, slots := 0, locals := 20 }) (va_Pc [.int x, .int y] (fun _ => True)) (wt_ro (wt_b (wt_has x y))) 0 0 wt_no := by
  refine Met.ofW (cc := cX3_has) (maxL := 2) (ret := (some .boolean)) (by decide) rfl ?_
  intro p e s m args below meth c s₁ B hml hv
  obtain ⟨rfl, -⟩ := hv
  have hx := B.exec
  have hb := B.bytes
  have hr := B.returns
  have hts := atoms_spec (ws := wsX3_has) B.pre
  have hown : s.vm.findClass RX3 = some m.cls := findClass_of_methodNamed B.named
  have hlocks := B.notSynchronized
  have hl := lv_entry ([.int x, .int y]) (n := 2) (Nat.le_of_ble_eq_true rfl)
  rw [lg_entry_eq]
  generalize (lg_sl ([.int x, .int y]) ++ List.replicate (2 - (lg_sl ([.int x, .int y])).length) Slot.unset).toArray = ls at hl ⊢
  have hl : lv_has ls 2 [(0, .int x), (1, .int y)] := hl
  refine lv_iload_n hx hb dX3_has_0 rfl (lv_at hl 1 rfl) ?_
  refine wt_if_ltI (tgt := 23) hx hb dX3_has_1 (by decide) (fun c_1_1 => ?_) (fun c_1_1 => ?_)
  · refine lv_iconst (v := nI 0) hx hb dX3_has_23 (by decide +kernel) ?_
    exact wt_retz hx hb hr (wt_bf0 (by simp [c_1_1, wt_has])) rfl dX3_has_24 hlocks
  · refine lv_iload_n hx hb dX3_has_4 rfl (lv_at hl 1 rfl) ?_
    refine lv_bipush (v := nI 32) hx hb dX3_has_5 (by decide +kernel) ?_
    refine wt_icmp_geI (tgt := 23) hx hb dX3_has_7 (by decide) (fun c_7_2 => ?_) (fun c_7_2 => ?_)
    · refine lv_iconst (v := nI 0) hx hb dX3_has_23 (by decide +kernel) ?_
      exact wt_retz hx hb hr (wt_bf0 (by simp [c_1_1, c_7_2, wt_has])) rfl dX3_has_24 hlocks
    · refine lv_iload_n hx hb dX3_has_10 rfl (lv_at hl 0 rfl) ?_
      refine lv_iload_n hx hb dX3_has_11 rfl (lv_at hl 1 rfl) ?_
      refine wt_ro_go (va_runS (As := [.int y]) (rest := [.int x]) ⟨hx, hb, hml, hown, hts⟩ (k_X3_bit l y) (va_cwS 1 hts gX3_has_X3_bit rfl rfl rfl (by decide +kernel) ⟨Nat.le_of_ble_eq_true rfl, Nat.le_of_ble_eq_true rfl⟩) wt_PS rfl rfl hl.1 rfl (lv_room (Nat.le_of_ble_eq_true rfl)) dX3_has_12 ⟨Nat.zero_le _, Nat.zero_le _⟩) ?_
      refine lv_iand hx hb dX3_has_15 ?_
      refine wt_if_eqI (tgt := 23) hx hb dX3_has_16 (by decide) (fun c_16_3 => ?_) (fun c_16_3 => ?_)
      · refine lv_iconst (v := nI 0) hx hb dX3_has_23 (by decide +kernel) ?_
        exact wt_retz hx hb hr (wt_bf0 (by simp [c_1_1, c_7_2, c_16_3, wt_has])) rfl dX3_has_24 hlocks
      · refine lv_iconst (v := nI 1) hx hb dX3_has_19 (by decide +kernel) ?_
        refine lv_goto (tgt := 24) hx hb dX3_has_20 (by decide) ?_
        exact wt_retz hx hb hr (wt_bt1 (by simp [c_1_1, c_7_2, c_16_3, wt_has])) rfl dX3_has_24 hlocks
set_option maxHeartbeats 4000000 in
set_option maxRecDepth 100000 in
theorem k_X3_loss (l : Launch) (x : Int32) (y : Int32) : Met l yX3_loss wsX3_loss ({ frames := 0, cells := 0, slots := 0, locals := 0 }) (va_Pc [.int x, .int y] (fun _ => True)) (wt_ro (wt_loss x y)) 0 0 wt_no := by
  refine Met.ofW (cc := cX3_loss) (maxL := 2) (ret := (some .int)) (by decide) rfl ?_
  intro p e s m args below meth c s₁ B hml hv
  obtain ⟨rfl, -⟩ := hv
  have hx := B.exec
  have hb := B.bytes
  have hr := B.returns
  have hts := atoms_spec (ws := wsX3_loss) B.pre
  have hown : s.vm.findClass RX3 = some m.cls := findClass_of_methodNamed B.named
  have hlocks := B.notSynchronized
  have hl := lv_entry ([.int x, .int y]) (n := 2) (Nat.le_of_ble_eq_true rfl)
  rw [lg_entry_eq]
  generalize (lg_sl ([.int x, .int y]) ++ List.replicate (2 - (lg_sl ([.int x, .int y])).length) Slot.unset).toArray = ls at hl ⊢
  have hl : lv_has ls 2 [(0, .int x), (1, .int y)] := hl
  refine lv_iload_n hx hb dX3_loss_0 rfl (lv_at hl 0 rfl) ?_
  refine lv_iload_n hx hb dX3_loss_1 rfl (lv_at hl 1 rfl) ?_
  refine wt_icmp_geI (tgt := 7) hx hb dX3_loss_2 (by decide) (fun c_2_1 => ?_) (fun c_2_1 => ?_)
  · refine lv_iload_n hx hb dX3_loss_7 rfl (lv_at hl 0 rfl) ?_
    refine lv_iload_n hx hb dX3_loss_8 rfl (lv_at hl 1 rfl) ?_
    refine wt_icmp_neI (tgt := 14) hx hb dX3_loss_9 (by decide) (fun c_9_2 => ?_) (fun c_9_2 => ?_)
    · refine lv_iconst (v := nI 2) hx hb dX3_loss_14 (by decide +kernel) ?_
      refine lv_iload_n hx hb dX3_loss_15 rfl (lv_at hl 1 rfl) ?_
      refine lv_imul hx hb dX3_loss_16 ?_
      refine lv_iload_n hx hb dX3_loss_17 rfl (lv_at hl 0 rfl) ?_
      refine wt_icmp_leI (tgt := 25) hx hb dX3_loss_18 (by decide) (fun c_18_3 => ?_) (fun c_18_3 => ?_)
      · refine lv_iconst (v := nI 0) hx hb dX3_loss_25 (by decide +kernel) ?_
        exact wt_ret hx hb hr (by simp only [wt_fold_s, wt_loss, wt_if_f c_2_1, wt_if_f c_9_2, wt_if_f c_18_3]) rfl dX3_loss_26 hlocks
      · refine lv_iconst (v := nI 1) hx hb dX3_loss_21 (by decide +kernel) ?_
        refine lv_goto (tgt := 26) hx hb dX3_loss_22 (by decide) ?_
        exact wt_ret hx hb hr (by simp only [wt_fold_s, wt_loss, wt_if_f c_2_1, wt_if_f c_9_2, wt_if_t c_18_3]) rfl dX3_loss_26 hlocks
    · refine lv_iconst (v := nI 1) hx hb dX3_loss_12 (by decide +kernel) ?_
      exact wt_ret hx hb hr (by simp only [wt_fold_s, wt_loss, wt_if_f c_2_1, wt_if_t c_9_2]) rfl dX3_loss_13 hlocks
  · refine lv_iconst (v := nI 2) hx hb dX3_loss_5 (by decide +kernel) ?_
    exact wt_ret hx hb hr (by simp only [wt_fold_s, wt_loss, wt_if_t c_2_1]) rfl dX3_loss_6 hlocks
set_option maxHeartbeats 4000000 in
set_option maxRecDepth 100000 in
theorem k_X2_isKept (l : Launch) (k : Nat) (u : Nat) (hk : k < 2 ^ 31) (hu2 : u < 2 ^ 31) : Met l yX2_isKept wsX2_isKept ({ frames := 0, cells := 0, slots := 0, locals := 0 }) (va_Pc [.int (nI k), .int (nI u)] (fun _ => True)) (wt_ro (wt_b (k < 22 ∧ u < 12))) 0 0 wt_no := by
  refine Met.ofW (cc := cX2_isKept) (maxL := 2) (ret := (some .boolean)) (by decide) rfl ?_
  intro p e s m args below meth c s₁ B hml hv
  obtain ⟨rfl, -⟩ := hv
  have hx := B.exec
  have hb := B.bytes
  have hr := B.returns
  have hts := atoms_spec (ws := wsX2_isKept) B.pre
  have hown : s.vm.findClass RX2 = some m.cls := findClass_of_methodNamed B.named
  have hlocks := B.notSynchronized
  have hl := lv_entry ([.int (nI k), .int (nI u)]) (n := 2) (Nat.le_of_ble_eq_true rfl)
  rw [lg_entry_eq]
  generalize (lg_sl ([.int (nI k), .int (nI u)]) ++ List.replicate (2 - (lg_sl ([.int (nI k), .int (nI u)])).length) Slot.unset).toArray = ls at hl ⊢
  have hl : lv_has ls 2 [(0, .int (nI k)), (1, .int (nI u))] := hl
  refine lv_iload_n hx hb dX2_isKept_0 rfl (lv_at hl 0 rfl) ?_
  refine wt_if_lt (tgt := 24) hx hb (by omega) dX2_isKept_1 (by decide) ?_
  refine lv_iload_n hx hb dX2_isKept_4 rfl (lv_at hl 0 rfl) ?_
  refine lv_bipush (v := nI 22) hx hb dX2_isKept_5 (by decide +kernel) ?_
  refine wt_icmp_ge (tgt := 24) hx hb (by omega) (by omega) dX2_isKept_7 (by decide) (fun c_7_1 => ?_) (fun c_7_1 => ?_)
  · refine lv_iconst (v := nI 0) hx hb dX2_isKept_24 (by decide +kernel) ?_
    exact wt_retz hx hb hr (by first | exact wt_bt1 (by omega) | exact wt_bf0 (by omega)) rfl dX2_isKept_25 hlocks
  · refine lv_iload_n hx hb dX2_isKept_10 rfl (lv_at hl 1 rfl) ?_
    refine wt_if_lt (tgt := 24) hx hb (by omega) dX2_isKept_11 (by decide) ?_
    refine lv_iload_n hx hb dX2_isKept_14 rfl (lv_at hl 1 rfl) ?_
    refine lv_bipush (v := nI 12) hx hb dX2_isKept_15 (by decide +kernel) ?_
    refine wt_icmp_ge (tgt := 24) hx hb (by omega) (by omega) dX2_isKept_17 (by decide) (fun c_17_2 => ?_) (fun c_17_2 => ?_)
    · refine lv_iconst (v := nI 0) hx hb dX2_isKept_24 (by decide +kernel) ?_
      exact wt_retz hx hb hr (by first | exact wt_bt1 (by omega) | exact wt_bf0 (by omega)) rfl dX2_isKept_25 hlocks
    · refine lv_iconst (v := nI 1) hx hb dX2_isKept_20 (by decide +kernel) ?_
      refine lv_goto (tgt := 25) hx hb dX2_isKept_21 (by decide) ?_
      exact wt_retz hx hb hr (by first | exact wt_bt1 (by omega) | exact wt_bf0 (by omega)) rfl dX2_isKept_25 hlocks
set_option maxHeartbeats 4000000 in
set_option maxRecDepth 100000 in
theorem k_X2_index (l : Launch) (k : Nat) (u : Nat) : Met l yX2_index wsX2_index ({ frames := 0, cells := 0, slots := 0, locals := 0 }) (va_Pc [.int (nI k), .int (nI u)] (fun _ => True)) (wt_ro (nI (k * 12 + u))) 0 0 wt_no := by
  refine Met.ofW (cc := cX2_index) (maxL := 2) (ret := (some .int)) (by decide) rfl ?_
  intro p e s m args below meth c s₁ B hml hv
  obtain ⟨rfl, -⟩ := hv
  have hx := B.exec
  have hb := B.bytes
  have hr := B.returns
  have hts := atoms_spec (ws := wsX2_index) B.pre
  have hown : s.vm.findClass RX2 = some m.cls := findClass_of_methodNamed B.named
  have hlocks := B.notSynchronized
  have hl := lv_entry ([.int (nI k), .int (nI u)]) (n := 2) (Nat.le_of_ble_eq_true rfl)
  rw [lg_entry_eq]
  generalize (lg_sl ([.int (nI k), .int (nI u)]) ++ List.replicate (2 - (lg_sl ([.int (nI k), .int (nI u)])).length) Slot.unset).toArray = ls at hl ⊢
  have hl : lv_has ls 2 [(0, .int (nI k)), (1, .int (nI u))] := hl
  refine lv_iload_n hx hb dX2_index_0 rfl (lv_at hl 0 rfl) ?_
  refine lv_bipush (v := nI 12) hx hb dX2_index_1 (by decide +kernel) ?_
  refine wt_imul hx hb dX2_index_3 ?_
  refine lv_iload_n hx hb dX2_index_4 rfl (lv_at hl 1 rfl) ?_
  refine wt_iadd hx hb dX2_index_5 ?_
  exact wt_ret hx hb hr rfl rfl dX2_index_6 hlocks
end
section
set_option maxHeartbeats 4000000 in
set_option maxRecDepth 100000 in
theorem k_X2_count (l : Launch) (dC : Nat → ClassId) (dI : Nat → Nat → Nat) (cI : ClassId) (hu : Nat) (sd : Nat) (tw : Nat) (st : Nat) (od : Nat) (fs : Nat → Int32) (ft : Nat → Int32) (ff : Nat → Int32) (fo : Nat → Int32) (cn : Nat) : Met l yX2_count wsX2_count ({ frames := 0, cells := 0, slots := 0, locals := 0 }) (va_Pc [.ref hu] (wt_pre (dC, dI) cI [(hu, .inr (2, [.ref sd, .ref tw, .ref st, .ref od, .int (nI cn)])), (sd, .inl (cI, 12, .inl fs)), (tw, .inl (cI, 264, .inl ft)), (st, .inl (cI, 264, .inl ff)), (od, .inl (cI, 264, .inl fo))])) (wt_ro (nI cn)) 0 0 wt_no := by
  refine Met.ofW (cc := cX2_count) (maxL := 1) (ret := (some .int)) (by decide) rfl ?_
  intro p e s m args below meth c s₁ B hml hv
  obtain ⟨rfl, hP, hK, hN⟩ := hv
  have hx := B.exec
  have hb := B.bytes
  have hr := B.returns
  have hts := atoms_spec (ws := wsX2_count) B.pre
  have hown : s.vm.findClass RX2 = some m.cls := findClass_of_methodNamed B.named
  have hlocks := B.notSynchronized
  have inX2 : ∀ w ∈ wsX20, w ∈ wsX2_count := wt_in [2, 3, 4, 5, 6] (by decide +kernel)
  have hl := lv_entry ([.ref hu]) (n := 1) (Nat.le_of_ble_eq_true rfl)
  rw [lg_entry_eq]
  generalize (lg_sl ([.ref hu]) ++ List.replicate (1 - (lg_sl ([.ref hu])).length) Slot.unset).toArray = ls at hl ⊢
  have hl : lv_has ls 1 [(0, .ref hu)] := hl
  refine lv_aload_n hx hb dX2_count_0 rfl (lv_at hl 0 rfl) ?_
  refine va_get (D := (dC, dI)) (ci := 2) (v := .int (nI cn)) (C := RX2) (T := TX2) (N := 5) hx hb hts inX2 hown hK hP 0 rfl rfl 4 (by decide) (hts (.fieldLink RX2 24 "WarTable$Units" "count" "I") (List.mem_of_getElem? (i := 1) rfl)) (fun _ h9 => h9) rfl dX2_count_1 ?_
  exact wt_ret hx hb hr rfl rfl dX2_count_4 hlocks
set_option maxHeartbeats 4000000 in
set_option maxRecDepth 100000 in
theorem k_X2_sideOf (l : Launch) (dC : Nat → ClassId) (dI : Nat → Nat → Nat) (cI : ClassId) (hu : Nat) (sd : Nat) (tw : Nat) (st : Nat) (od : Nat) (fs : Nat → Int32) (ft : Nat → Int32) (ff : Nat → Int32) (fo : Nat → Int32) (cn : Nat) (u : Nat) (hu2 : u < 12) : Met l yX2_sideOf wsX2_sideOf ({ frames := 1, cells := 0, slots := 0, locals := 21 }) (va_Pc [.ref hu, .int (nI u)] (wt_pre (dC, dI) cI [(hu, .inr (2, [.ref sd, .ref tw, .ref st, .ref od, .int (nI cn)])), (sd, .inl (cI, 12, .inl fs)), (tw, .inl (cI, 264, .inl ft)), (st, .inl (cI, 264, .inl ff)), (od, .inl (cI, 264, .inl fo))])) (wt_ro (fs u)) 0 0 wt_no := by
  refine Met.ofW (cc := cX2_sideOf) (maxL := 2) (ret := (some .int)) (by decide) rfl ?_
  intro p e s m args below meth c s₁ B hml hv
  obtain ⟨rfl, hP, hK, hN⟩ := hv
  have hx := B.exec
  have hb := B.bytes
  have hr := B.returns
  have hts := atoms_spec (ws := wsX2_sideOf) B.pre
  have hown : s.vm.findClass RX2 = some m.cls := findClass_of_methodNamed B.named
  have hlocks := B.notSynchronized
  have inX2 : ∀ w ∈ wsX20, w ∈ wsX2_sideOf := wt_in [5, 6, 7, 8, 9] (by decide +kernel)
  have hl := lv_entry ([.ref hu, .int (nI u)]) (n := 2) (Nat.le_of_ble_eq_true rfl)
  rw [lg_entry_eq]
  generalize (lg_sl ([.ref hu, .int (nI u)]) ++ List.replicate (2 - (lg_sl ([.ref hu, .int (nI u)])).length) Slot.unset).toArray = ls at hl ⊢
  have hl : lv_has ls 2 [(0, .ref hu), (1, .int (nI u))] := hl
  refine lv_iload_n hx hb dX2_sideOf_0 rfl (lv_at hl 1 rfl) ?_
  refine lv_bipush (v := nI 12) hx hb dX2_sideOf_1 (by decide +kernel) ?_
  refine wt_ro_go (va_runSN (As := [.int (nI u), .int (nI 12)]) (rest := []) ⟨hx, hb, hml, hown, hts⟩ (k_X3_belowN l u 12 (by omega) (by omega)) ⟨va_cnB (host := RX3) 2 hts gX2_sideOf_X3_below_n28 rfl rfl rfl (hN _ (List.mem_of_getElem? (i := 7) rfl)) (hts (.initialized RX3) (List.mem_of_getElem? (i := 3) rfl)) (by decide +kernel) ⟨Nat.le_of_ble_eq_true rfl, Nat.le_of_ble_eq_true rfl⟩, (hts (.static yX3_below) (List.mem_of_getElem? (i := 2) rfl)), trivial⟩ wt_PS rfl rfl hl.1 rfl (lv_room (Nat.le_of_ble_eq_true rfl)) dX2_sideOf_3 ⟨Nat.zero_le _, Nat.zero_le _⟩) ?_
  refine wt_if_eqB (tgt := 18) hx hb dX2_sideOf_6 (by decide) (fun c_6_1 => ?_) (fun c_6_1 => ?_)
  · exfalso; omega
  · refine lv_aload_n hx hb dX2_sideOf_9 rfl (lv_at hl 0 rfl) ?_
    refine va_get (D := (dC, dI)) (ci := 2) (v := .ref sd) (C := RX2) (T := TX2) (N := 5) hx hb hts inX2 hown hK hP 0 rfl rfl 0 (by decide) (hts (.fieldLink RX2 9 "WarTable$Units" "sides" "[I") (List.mem_of_getElem? (i := 1) rfl)) (fun _ h9 => h9) rfl dX2_sideOf_10 ?_
    refine lv_iload_n hx hb dX2_sideOf_13 rfl (lv_at hl 1 rfl) ?_
    refine wt_iald hx hb hK hP 1 rfl (by omega) (by omega) dX2_sideOf_14 ?_
    refine lv_goto (tgt := 19) hx hb dX2_sideOf_15 (by decide) ?_
    exact wt_ret hx hb hr rfl rfl dX2_sideOf_19 hlocks
set_option maxHeartbeats 4000000 in
set_option maxRecDepth 100000 in
theorem k_X2_townAt (l : Launch) (dC : Nat → ClassId) (dI : Nat → Nat → Nat) (cI : ClassId) (hu : Nat) (sd : Nat) (tw : Nat) (st : Nat) (od : Nat) (fs : Nat → Int32) (ft : Nat → Int32) (ff : Nat → Int32) (fo : Nat → Int32) (cn : Nat) (k : Nat) (u : Nat) (hk : k < 22) (hu2 : u < 12) : Met l yX2_townAt wsX2_townAt ({ frames := 1, cells := 0, slots := 0, locals := 21 }) (va_Pc [.ref hu, .int (nI k), .int (nI u)] (wt_pre (dC, dI) cI [(hu, .inr (2, [.ref sd, .ref tw, .ref st, .ref od, .int (nI cn)])), (sd, .inl (cI, 12, .inl fs)), (tw, .inl (cI, 264, .inl ft)), (st, .inl (cI, 264, .inl ff)), (od, .inl (cI, 264, .inl fo))])) (wt_ro (ft (k * 12 + u))) 0 0 wt_no := by
  refine Met.ofW (cc := cX2_townAt) (maxL := 3) (ret := (some .int)) (by decide) rfl ?_
  intro p e s m args below meth c s₁ B hml hv
  obtain ⟨rfl, hP, hK, hN⟩ := hv
  have hx := B.exec
  have hb := B.bytes
  have hr := B.returns
  have hts := atoms_spec (ws := wsX2_townAt) B.pre
  have hown : s.vm.findClass RX2 = some m.cls := findClass_of_methodNamed B.named
  have hlocks := B.notSynchronized
  have inX2 : ∀ w ∈ wsX20, w ∈ wsX2_townAt := wt_in [9, 10, 11, 12, 13] (by decide +kernel)
  have hl := lv_entry ([.ref hu, .int (nI k), .int (nI u)]) (n := 3) (Nat.le_of_ble_eq_true rfl)
  rw [lg_entry_eq]
  generalize (lg_sl ([.ref hu, .int (nI k), .int (nI u)]) ++ List.replicate (3 - (lg_sl ([.ref hu, .int (nI k), .int (nI u)])).length) Slot.unset).toArray = ls at hl ⊢
  have hl : lv_has ls 3 [(0, .ref hu), (1, .int (nI k)), (2, .int (nI u))] := hl
  refine lv_iload_n hx hb dX2_townAt_0 rfl (lv_at hl 1 rfl) ?_
  refine lv_iload_n hx hb dX2_townAt_1 rfl (lv_at hl 2 rfl) ?_
  refine wt_ro_go (va_runS (As := [.int (nI k), .int (nI u)]) (rest := []) ⟨hx, hb, hml, hown, hts⟩ (k_X2_isKept l k u (by omega) (by omega)) (va_cwS 2 hts gX2_townAt_X2_isKept rfl rfl rfl (by decide +kernel) ⟨Nat.le_of_ble_eq_true rfl, Nat.le_of_ble_eq_true rfl⟩) wt_PS rfl rfl hl.1 rfl (lv_room (Nat.le_of_ble_eq_true rfl)) dX2_townAt_2 ⟨Nat.zero_le _, Nat.zero_le _⟩) ?_
  refine wt_if_eqB (tgt := 21) hx hb dX2_townAt_5 (by decide) (fun c_5_1 => ?_) (fun c_5_1 => ?_)
  · exfalso; omega
  · refine lv_aload_n hx hb dX2_townAt_8 rfl (lv_at hl 0 rfl) ?_
    refine va_get (D := (dC, dI)) (ci := 2) (v := .ref tw) (C := RX2) (T := TX2) (N := 5) hx hb hts inX2 hown hK hP 0 rfl rfl 1 (by decide) (hts (.fieldLink RX2 15 "WarTable$Units" "towns" "[I") (List.mem_of_getElem? (i := 1) rfl)) (fun _ h9 => h9) rfl dX2_townAt_9 ?_
    refine lv_iload_n hx hb dX2_townAt_12 rfl (lv_at hl 1 rfl) ?_
    refine lv_iload_n hx hb dX2_townAt_13 rfl (lv_at hl 2 rfl) ?_
    refine wt_ro_go (va_runS (As := [.int (nI k), .int (nI u)]) (rest := [.ref tw]) ⟨hx, hb, hml, hown, hts⟩ (k_X2_index l k u) (va_cwS 2 hts gX2_townAt_X2_index rfl rfl rfl (by decide +kernel) ⟨Nat.le_of_ble_eq_true rfl, Nat.le_of_ble_eq_true rfl⟩) wt_PS rfl rfl hl.1 rfl (lv_room (Nat.le_of_ble_eq_true rfl)) dX2_townAt_14 ⟨Nat.zero_le _, Nat.zero_le _⟩) ?_
    refine wt_iald hx hb hK hP 2 rfl (by omega) (by omega) dX2_townAt_17 ?_
    refine lv_goto (tgt := 22) hx hb dX2_townAt_18 (by decide) ?_
    exact wt_ret hx hb hr rfl rfl dX2_townAt_22 hlocks
set_option maxHeartbeats 4000000 in
set_option maxRecDepth 100000 in
theorem k_X2_strengthAt (l : Launch) (dC : Nat → ClassId) (dI : Nat → Nat → Nat) (cI : ClassId) (hu : Nat) (sd : Nat) (tw : Nat) (st : Nat) (od : Nat) (fs : Nat → Int32) (ft : Nat → Int32) (ff : Nat → Int32) (fo : Nat → Int32) (cn : Nat) (k : Nat) (u : Nat) (hk : k < 22) (hu2 : u < 12) : Met l yX2_strengthAt wsX2_strengthAt ({ frames := 1, cells := 0, slots := 0, locals := 21 }) (va_Pc [.ref hu, .int (nI k), .int (nI u)] (wt_pre (dC, dI) cI [(hu, .inr (2, [.ref sd, .ref tw, .ref st, .ref od, .int (nI cn)])), (sd, .inl (cI, 12, .inl fs)), (tw, .inl (cI, 264, .inl ft)), (st, .inl (cI, 264, .inl ff)), (od, .inl (cI, 264, .inl fo))])) (wt_ro (ff (k * 12 + u))) 0 0 wt_no := by
  refine Met.ofW (cc := cX2_strengthAt) (maxL := 3) (ret := (some .int)) (by decide) rfl ?_
  intro p e s m args below meth c s₁ B hml hv
  obtain ⟨rfl, hP, hK, hN⟩ := hv
  have hx := B.exec
  have hb := B.bytes
  have hr := B.returns
  have hts := atoms_spec (ws := wsX2_strengthAt) B.pre
  have hown : s.vm.findClass RX2 = some m.cls := findClass_of_methodNamed B.named
  have hlocks := B.notSynchronized
  have inX2 : ∀ w ∈ wsX20, w ∈ wsX2_strengthAt := wt_in [9, 10, 11, 12, 13] (by decide +kernel)
  have hl := lv_entry ([.ref hu, .int (nI k), .int (nI u)]) (n := 3) (Nat.le_of_ble_eq_true rfl)
  rw [lg_entry_eq]
  generalize (lg_sl ([.ref hu, .int (nI k), .int (nI u)]) ++ List.replicate (3 - (lg_sl ([.ref hu, .int (nI k), .int (nI u)])).length) Slot.unset).toArray = ls at hl ⊢
  have hl : lv_has ls 3 [(0, .ref hu), (1, .int (nI k)), (2, .int (nI u))] := hl
  refine lv_iload_n hx hb dX2_strengthAt_0 rfl (lv_at hl 1 rfl) ?_
  refine lv_iload_n hx hb dX2_strengthAt_1 rfl (lv_at hl 2 rfl) ?_
  refine wt_ro_go (va_runS (As := [.int (nI k), .int (nI u)]) (rest := []) ⟨hx, hb, hml, hown, hts⟩ (k_X2_isKept l k u (by omega) (by omega)) (va_cwS 2 hts gX2_strengthAt_X2_isKept rfl rfl rfl (by decide +kernel) ⟨Nat.le_of_ble_eq_true rfl, Nat.le_of_ble_eq_true rfl⟩) wt_PS rfl rfl hl.1 rfl (lv_room (Nat.le_of_ble_eq_true rfl)) dX2_strengthAt_2 ⟨Nat.zero_le _, Nat.zero_le _⟩) ?_
  refine wt_if_eqB (tgt := 21) hx hb dX2_strengthAt_5 (by decide) (fun c_5_1 => ?_) (fun c_5_1 => ?_)
  · exfalso; omega
  · refine lv_aload_n hx hb dX2_strengthAt_8 rfl (lv_at hl 0 rfl) ?_
    refine va_get (D := (dC, dI)) (ci := 2) (v := .ref st) (C := RX2) (T := TX2) (N := 5) hx hb hts inX2 hown hK hP 0 rfl rfl 2 (by decide) (hts (.fieldLink RX2 18 "WarTable$Units" "strengths" "[I") (List.mem_of_getElem? (i := 1) rfl)) (fun _ h9 => h9) rfl dX2_strengthAt_9 ?_
    refine lv_iload_n hx hb dX2_strengthAt_12 rfl (lv_at hl 1 rfl) ?_
    refine lv_iload_n hx hb dX2_strengthAt_13 rfl (lv_at hl 2 rfl) ?_
    refine wt_ro_go (va_runS (As := [.int (nI k), .int (nI u)]) (rest := [.ref st]) ⟨hx, hb, hml, hown, hts⟩ (k_X2_index l k u) (va_cwS 2 hts gX2_strengthAt_X2_index rfl rfl rfl (by decide +kernel) ⟨Nat.le_of_ble_eq_true rfl, Nat.le_of_ble_eq_true rfl⟩) wt_PS rfl rfl hl.1 rfl (lv_room (Nat.le_of_ble_eq_true rfl)) dX2_strengthAt_14 ⟨Nat.zero_le _, Nat.zero_le _⟩) ?_
    refine wt_iald hx hb hK hP 3 rfl (by omega) (by omega) dX2_strengthAt_17 ?_
    refine lv_goto (tgt := 22) hx hb dX2_strengthAt_18 (by decide) ?_
    exact wt_ret hx hb hr rfl rfl dX2_strengthAt_22 hlocks
set_option maxHeartbeats 4000000 in
set_option maxRecDepth 100000 in
theorem k_X2_orderFor (l : Launch) (dC : Nat → ClassId) (dI : Nat → Nat → Nat) (cI : ClassId) (hu : Nat) (sd : Nat) (tw : Nat) (st : Nat) (od : Nat) (fs : Nat → Int32) (ft : Nat → Int32) (ff : Nat → Int32) (fo : Nat → Int32) (cn : Nat) (k : Nat) (u : Nat) (hk : k < 22) (hu2 : u < 12) : Met l yX2_orderFor wsX2_orderFor ({ frames := 1, cells := 0, slots := 0, locals := 21 }) (va_Pc [.ref hu, .int (nI k), .int (nI u)] (wt_pre (dC, dI) cI [(hu, .inr (2, [.ref sd, .ref tw, .ref st, .ref od, .int (nI cn)])), (sd, .inl (cI, 12, .inl fs)), (tw, .inl (cI, 264, .inl ft)), (st, .inl (cI, 264, .inl ff)), (od, .inl (cI, 264, .inl fo))])) (wt_ro (fo (k * 12 + u) - nI 1)) 0 0 wt_no := by
  refine Met.ofW (cc := cX2_orderFor) (maxL := 3) (ret := (some .int)) (by decide) rfl ?_
  intro p e s m args below meth c s₁ B hml hv
  obtain ⟨rfl, hP, hK, hN⟩ := hv
  have hx := B.exec
  have hb := B.bytes
  have hr := B.returns
  have hts := atoms_spec (ws := wsX2_orderFor) B.pre
  have hown : s.vm.findClass RX2 = some m.cls := findClass_of_methodNamed B.named
  have hlocks := B.notSynchronized
  have inX2 : ∀ w ∈ wsX20, w ∈ wsX2_orderFor := wt_in [9, 10, 11, 12, 13] (by decide +kernel)
  have hl := lv_entry ([.ref hu, .int (nI k), .int (nI u)]) (n := 3) (Nat.le_of_ble_eq_true rfl)
  rw [lg_entry_eq]
  generalize (lg_sl ([.ref hu, .int (nI k), .int (nI u)]) ++ List.replicate (3 - (lg_sl ([.ref hu, .int (nI k), .int (nI u)])).length) Slot.unset).toArray = ls at hl ⊢
  have hl : lv_has ls 3 [(0, .ref hu), (1, .int (nI k)), (2, .int (nI u))] := hl
  refine lv_iload_n hx hb dX2_orderFor_0 rfl (lv_at hl 1 rfl) ?_
  refine lv_iload_n hx hb dX2_orderFor_1 rfl (lv_at hl 2 rfl) ?_
  refine wt_ro_go (va_runS (As := [.int (nI k), .int (nI u)]) (rest := []) ⟨hx, hb, hml, hown, hts⟩ (k_X2_isKept l k u (by omega) (by omega)) (va_cwS 2 hts gX2_orderFor_X2_isKept rfl rfl rfl (by decide +kernel) ⟨Nat.le_of_ble_eq_true rfl, Nat.le_of_ble_eq_true rfl⟩) wt_PS rfl rfl hl.1 rfl (lv_room (Nat.le_of_ble_eq_true rfl)) dX2_orderFor_2 ⟨Nat.zero_le _, Nat.zero_le _⟩) ?_
  refine wt_if_eqB (tgt := 23) hx hb dX2_orderFor_5 (by decide) (fun c_5_1 => ?_) (fun c_5_1 => ?_)
  · exfalso; omega
  · refine lv_aload_n hx hb dX2_orderFor_8 rfl (lv_at hl 0 rfl) ?_
    refine va_get (D := (dC, dI)) (ci := 2) (v := .ref od) (C := RX2) (T := TX2) (N := 5) hx hb hts inX2 hown hK hP 0 rfl rfl 3 (by decide) (hts (.fieldLink RX2 21 "WarTable$Units" "orders" "[I") (List.mem_of_getElem? (i := 1) rfl)) (fun _ h9 => h9) rfl dX2_orderFor_9 ?_
    refine lv_iload_n hx hb dX2_orderFor_12 rfl (lv_at hl 1 rfl) ?_
    refine lv_iload_n hx hb dX2_orderFor_13 rfl (lv_at hl 2 rfl) ?_
    refine wt_ro_go (va_runS (As := [.int (nI k), .int (nI u)]) (rest := [.ref od]) ⟨hx, hb, hml, hown, hts⟩ (k_X2_index l k u) (va_cwS 2 hts gX2_orderFor_X2_index rfl rfl rfl (by decide +kernel) ⟨Nat.le_of_ble_eq_true rfl, Nat.le_of_ble_eq_true rfl⟩) wt_PS rfl rfl hl.1 rfl (lv_room (Nat.le_of_ble_eq_true rfl)) dX2_orderFor_14 ⟨Nat.zero_le _, Nat.zero_le _⟩) ?_
    refine wt_iald hx hb hK hP 4 rfl (by omega) (by omega) dX2_orderFor_17 ?_
    refine lv_iconst (v := nI 1) hx hb dX2_orderFor_18 (by decide +kernel) ?_
    refine lv_isub hx hb dX2_orderFor_19 ?_
    refine lv_goto (tgt := 24) hx hb dX2_orderFor_20 (by decide) ?_
    exact wt_ret hx hb hr (by simp only [wt_fold_s, wt_if_t c_5_1]) rfl dX2_orderFor_24 hlocks
set_option maxHeartbeats 4000000 in
set_option maxRecDepth 100000 in
theorem k_X2_giveOrder (l : Launch) (dC : Nat → ClassId) (dI : Nat → Nat → Nat) (cI : ClassId) (hu : Nat) (sd : Nat) (tw : Nat) (st : Nat) (od : Nat) (fs : Nat → Int32) (ft : Nat → Int32) (ff : Nat → Int32) (fo : Nat → Int32) (cn : Nat) (k : Nat) (u : Nat) (x : Int32) (sz : Nat) (hk : k < 22) (hu2 : u < 12) : Met l yX2_giveOrder wsX2_giveOrder ({ frames := 1, cells := 0, slots := 0, locals := 21 }) (va_Pc [.ref hu, .int (nI k), .int (nI u), .int x] (wt_pm (dC, dI) cI [(hu, .inr (2, [.ref sd, .ref tw, .ref st, .ref od, .int (nI cn)])), (sd, .inl (cI, 12, .inl fs)), (tw, .inl (cI, 264, .inl ft)), (st, .inl (cI, 264, .inl ff)), (od, .inl (cI, 264, .inl fo))] sz)) (wt_mu none (dC, dI) [(hu, .inr (2, [.ref sd, .ref tw, .ref st, .ref od, .int (nI cn)])), (sd, .inl (cI, 12, .inl fs)), (tw, .inl (cI, 264, .inl ft)), (st, .inl (cI, 264, .inl ff)), (od, .inl (cI, 264, .inl (upd fo (k * 12 + u) (x + nI 1))))] (va_A [(hu, .inr (2, [.ref sd, .ref tw, .ref st, .ref od, .int (nI cn)])), (sd, .inl (cI, 12, .inl fs)), (tw, .inl (cI, 264, .inl ft)), (st, .inl (cI, 264, .inl ff)), (od, .inl (cI, 264, .inl fo))] sz)) 0 0 (va_A [(hu, .inr (2, [.ref sd, .ref tw, .ref st, .ref od, .int (nI cn)])), (sd, .inl (cI, 12, .inl fs)), (tw, .inl (cI, 264, .inl ft)), (st, .inl (cI, 264, .inl ff)), (od, .inl (cI, 264, .inl fo))] sz) := by
  refine Met.ofW (cc := cX2_giveOrder) (maxL := 4) (ret := none) (by decide) rfl ?_
  intro p e s m args below meth c s₁ B hml hv
  obtain ⟨rfl, hsz, ⟨hP, hK, hN⟩, hD0⟩ := hv
  have hx := B.exec
  have hb := B.bytes
  have hr := B.returns
  have hts := atoms_spec (ws := wsX2_giveOrder) B.pre
  have hown : s.vm.findClass RX2 = some m.cls := findClass_of_methodNamed B.named
  have hlocks := B.notSynchronized
  subst hsz
  have hD := hD0.self (sz := s.heap.size)
  generalize hAe : va_A [(hu, .inr (2, [.ref sd, .ref tw, .ref st, .ref od, .int (nI cn)])), (sd, .inl (cI, 12, .inl fs)), (tw, .inl (cI, 264, .inl ft)), (st, .inl (cI, 264, .inl ff)), (od, .inl (cI, 264, .inl fo))] s.heap.size = A at hD ⊢
  have hA : ∀ q : Nat, s.heap.size ≤ q → A q := fun q h => by rw [← hAe]; exact Or.inr h
  have hS : va_S A s.heap s.heap [] := va_S.rf
  have inX2 : ∀ w ∈ wsX20, w ∈ wsX2_giveOrder := wt_in [9, 10, 11, 12, 13] (by decide +kernel)
  have hl := lv_entry ([.ref hu, .int (nI k), .int (nI u), .int x]) (n := 4) (Nat.le_of_ble_eq_true rfl)
  rw [lg_entry_eq]
  generalize (lg_sl ([.ref hu, .int (nI k), .int (nI u), .int x]) ++ List.replicate (4 - (lg_sl ([.ref hu, .int (nI k), .int (nI u), .int x])).length) Slot.unset).toArray = ls at hl ⊢
  have hl : lv_has ls 4 [(0, .ref hu), (1, .int (nI k)), (2, .int (nI u)), (3, .int x)] := hl
  refine lv_iload_n hx hb dX2_giveOrder_0 rfl (lv_at hl 1 rfl) ?_
  refine lv_iload_n hx hb dX2_giveOrder_1 rfl (lv_at hl 2 rfl) ?_
  refine wt_ro_go (va_runS (As := [.int (nI k), .int (nI u)]) (rest := []) ⟨hx, hb, hml, hown, hts⟩ (k_X2_isKept l k u (by omega) (by omega)) (va_cwS 2 hts gX2_giveOrder_X2_isKept rfl rfl rfl (by decide +kernel) ⟨Nat.le_of_ble_eq_true rfl, Nat.le_of_ble_eq_true rfl⟩) wt_PS rfl rfl hl.1 rfl (lv_room (Nat.le_of_ble_eq_true rfl)) dX2_giveOrder_2 ⟨Nat.zero_le _, Nat.zero_le _⟩) ?_
  refine wt_if_eqB (tgt := 21) hx hb dX2_giveOrder_5 (by decide) (fun c_5_1 => ?_) (fun c_5_1 => ?_)
  · exfalso; omega
  · refine lv_aload_n hx hb dX2_giveOrder_8 rfl (lv_at hl 0 rfl) ?_
    refine va_get (D := (dC, dI)) (ci := 2) (v := .ref od) (C := RX2) (T := TX2) (N := 5) hx hb hts inX2 hown hK hP 0 rfl rfl 3 (by decide) (hts (.fieldLink RX2 21 "WarTable$Units" "orders" "[I") (List.mem_of_getElem? (i := 1) rfl)) (fun _ h9 => h9) rfl dX2_giveOrder_9 ?_
    refine lv_iload_n hx hb dX2_giveOrder_12 rfl (lv_at hl 1 rfl) ?_
    refine lv_iload_n hx hb dX2_giveOrder_13 rfl (lv_at hl 2 rfl) ?_
    refine wt_ro_go (va_runS (As := [.int (nI k), .int (nI u)]) (rest := [.ref od]) ⟨hx, hb, hml, hown, hts⟩ (k_X2_index l k u) (va_cwS 2 hts gX2_giveOrder_X2_index rfl rfl rfl (by decide +kernel) ⟨Nat.le_of_ble_eq_true rfl, Nat.le_of_ble_eq_true rfl⟩) wt_PS rfl rfl hl.1 rfl (lv_room (Nat.le_of_ble_eq_true rfl)) dX2_giveOrder_14 ⟨Nat.zero_le _, Nat.zero_le _⟩) ?_
    refine lv_iload_n hx hb dX2_giveOrder_17 rfl (lv_at hl 3 rfl) ?_
    refine lv_iconst (v := nI 1) hx hb dX2_giveOrder_18 (by decide +kernel) ?_
    refine lv_iadd hx hb dX2_giveOrder_19 ?_
    refine wt_iast hx hb hK hP hD hS 4 rfl (by omega) (by omega) dX2_giveOrder_20 (fun H locs hP hD hS => ?_)
    have hP : va_P (dC, dI) vwCl [(hu, .inr (2, [.ref sd, .ref tw, .ref st, .ref od, .int (nI cn)])), (sd, .inl (cI, 12, .inl fs)), (tw, .inl (cI, 264, .inl ft)), (st, .inl (cI, 264, .inl ff)), (od, .inl (cI, 264, .inl (upd fo (k * 12 + u) (x + (nI 1)))))] H := hP
    have hD : va_D A [(hu, .inr (2, [.ref sd, .ref tw, .ref st, .ref od, .int (nI cn)])), (sd, .inl (cI, 12, .inl fs)), (tw, .inl (cI, 264, .inl ft)), (st, .inl (cI, 264, .inl ff)), (od, .inl (cI, 264, .inl (upd fo (k * 12 + u) (x + (nI 1)))))] := hD
    have e2 : (upd fo (k * 12 + u) (x + (nI 1))) = (upd fo (k * 12 + u) (x + nI 1)) := rfl
    have hP : va_P (dC, dI) vwCl [(hu, .inr (2, [.ref sd, .ref tw, .ref st, .ref od, .int (nI cn)])), (sd, .inl (cI, 12, .inl fs)), (tw, .inl (cI, 264, .inl ft)), (st, .inl (cI, 264, .inl ff)), (od, .inl (cI, 264, .inl (upd fo (k * 12 + u) (x + nI 1))))] H := Eq.mp (congrArg (fun z9 : Nat → Int32 => va_P (dC, dI) vwCl [(hu, .inr (2, [.ref sd, .ref tw, .ref st, .ref od, .int (nI cn)])), (sd, .inl (cI, 12, .inl fs)), (tw, .inl (cI, 264, .inl ft)), (st, .inl (cI, 264, .inl ff)), (od, .inl (cI, 264, .inl z9))] H) e2) hP
    have hD : va_D A [(hu, .inr (2, [.ref sd, .ref tw, .ref st, .ref od, .int (nI cn)])), (sd, .inl (cI, 12, .inl fs)), (tw, .inl (cI, 264, .inl ft)), (st, .inl (cI, 264, .inl ff)), (od, .inl (cI, 264, .inl (upd fo (k * 12 + u) (x + nI 1))))] := wt_adr hD rfl
    exact wt_mvret hx hb hr hP hS dX2_giveOrder_21 hlocks
set_option maxHeartbeats 4000000 in
set_option maxRecDepth 100000 in
theorem k_X2_place (l : Launch) (dC : Nat → ClassId) (dI : Nat → Nat → Nat) (cI : ClassId) (hu : Nat) (sd : Nat) (tw : Nat) (st : Nat) (od : Nat) (fs : Nat → Int32) (ft : Nat → Int32) (ff : Nat → Int32) (fo : Nat → Int32) (cn : Nat) (k : Nat) (u : Nat) (x : Int32) (y : Int32) (sz : Nat) (hk : k < 22) (hu2 : u < 12) : Met l yX2_place wsX2_place ({ frames := 1, cells := 0, slots := 0, locals := 21 }) (va_Pc [.ref hu, .int (nI k), .int (nI u), .int x, .int y] (wt_pm (dC, dI) cI [(hu, .inr (2, [.ref sd, .ref tw, .ref st, .ref od, .int (nI cn)])), (sd, .inl (cI, 12, .inl fs)), (tw, .inl (cI, 264, .inl ft)), (st, .inl (cI, 264, .inl ff)), (od, .inl (cI, 264, .inl fo))] sz)) (wt_mu none (dC, dI) [(hu, .inr (2, [.ref sd, .ref tw, .ref st, .ref od, .int (nI cn)])), (sd, .inl (cI, 12, .inl fs)), (tw, .inl (cI, 264, .inl (wt_plT ft k u x y))), (st, .inl (cI, 264, .inl (wt_plF ff k u y))), (od, .inl (cI, 264, .inl fo))] (va_A [(hu, .inr (2, [.ref sd, .ref tw, .ref st, .ref od, .int (nI cn)])), (sd, .inl (cI, 12, .inl fs)), (tw, .inl (cI, 264, .inl ft)), (st, .inl (cI, 264, .inl ff)), (od, .inl (cI, 264, .inl fo))] sz)) 0 0 (va_A [(hu, .inr (2, [.ref sd, .ref tw, .ref st, .ref od, .int (nI cn)])), (sd, .inl (cI, 12, .inl fs)), (tw, .inl (cI, 264, .inl ft)), (st, .inl (cI, 264, .inl ff)), (od, .inl (cI, 264, .inl fo))] sz) := by
  refine Met.ofW (cc := cX2_place) (maxL := 5) (ret := none) (by decide) rfl ?_
  intro p e s m args below meth c s₁ B hml hv
  obtain ⟨rfl, hsz, ⟨hP, hK, hN⟩, hD0⟩ := hv
  have hx := B.exec
  have hb := B.bytes
  have hr := B.returns
  have hts := atoms_spec (ws := wsX2_place) B.pre
  have hown : s.vm.findClass RX2 = some m.cls := findClass_of_methodNamed B.named
  have hlocks := B.notSynchronized
  subst hsz
  have hD := hD0.self (sz := s.heap.size)
  generalize hAe : va_A [(hu, .inr (2, [.ref sd, .ref tw, .ref st, .ref od, .int (nI cn)])), (sd, .inl (cI, 12, .inl fs)), (tw, .inl (cI, 264, .inl ft)), (st, .inl (cI, 264, .inl ff)), (od, .inl (cI, 264, .inl fo))] s.heap.size = A at hD ⊢
  have hA : ∀ q : Nat, s.heap.size ≤ q → A q := fun q h => by rw [← hAe]; exact Or.inr h
  have hS : va_S A s.heap s.heap [] := va_S.rf
  have inX2 : ∀ w ∈ wsX20, w ∈ wsX2_place := wt_in [14, 15, 16, 17, 18] (by decide +kernel)
  have hl := lv_entry ([.ref hu, .int (nI k), .int (nI u), .int x, .int y]) (n := 5) (Nat.le_of_ble_eq_true rfl)
  rw [lg_entry_eq]
  generalize (lg_sl ([.ref hu, .int (nI k), .int (nI u), .int x, .int y]) ++ List.replicate (5 - (lg_sl ([.ref hu, .int (nI k), .int (nI u), .int x, .int y])).length) Slot.unset).toArray = ls at hl ⊢
  have hl : lv_has ls 5 [(0, .ref hu), (1, .int (nI k)), (2, .int (nI u)), (3, .int x), (4, .int y)] := hl
  refine lv_iload_n hx hb dX2_place_0 rfl (lv_at hl 1 rfl) ?_
  refine lv_iload_n hx hb dX2_place_1 rfl (lv_at hl 2 rfl) ?_
  refine wt_ro_go (va_runS (As := [.int (nI k), .int (nI u)]) (rest := []) ⟨hx, hb, hml, hown, hts⟩ (k_X2_isKept l k u (by omega) (by omega)) (va_cwS 2 hts gX2_place_X2_isKept rfl rfl rfl (by decide +kernel) ⟨Nat.le_of_ble_eq_true rfl, Nat.le_of_ble_eq_true rfl⟩) wt_PS rfl rfl hl.1 rfl (lv_room (Nat.le_of_ble_eq_true rfl)) dX2_place_2 ⟨Nat.zero_le _, Nat.zero_le _⟩) ?_
  refine wt_if_eqB (tgt := 44) hx hb dX2_place_5 (by decide) (fun c_5_1 => ?_) (fun c_5_1 => ?_)
  · exfalso; omega
  · refine lv_aload_n hx hb dX2_place_8 rfl (lv_at hl 0 rfl) ?_
    refine va_get (D := (dC, dI)) (ci := 2) (v := .ref tw) (C := RX2) (T := TX2) (N := 5) hx hb hts inX2 hown hK hP 0 rfl rfl 1 (by decide) (hts (.fieldLink RX2 15 "WarTable$Units" "towns" "[I") (List.mem_of_getElem? (i := 1) rfl)) (fun _ h9 => h9) rfl dX2_place_9 ?_
    refine lv_iload_n hx hb dX2_place_12 rfl (lv_at hl 1 rfl) ?_
    refine lv_iload_n hx hb dX2_place_13 rfl (lv_at hl 2 rfl) ?_
    refine wt_ro_go (va_runS (As := [.int (nI k), .int (nI u)]) (rest := [.ref tw]) ⟨hx, hb, hml, hown, hts⟩ (k_X2_index l k u) (va_cwS 2 hts gX2_place_X2_index rfl rfl rfl (by decide +kernel) ⟨Nat.le_of_ble_eq_true rfl, Nat.le_of_ble_eq_true rfl⟩) wt_PS rfl rfl hl.1 rfl (lv_room (Nat.le_of_ble_eq_true rfl)) dX2_place_14 ⟨Nat.zero_le _, Nat.zero_le _⟩) ?_
    refine lv_iload hx hb dX2_place_17 (lv_at hl 4 rfl) ?_
    refine wt_if_leI (tgt := 26) hx hb dX2_place_19 (by decide) (fun c_19_2 => ?_) (fun c_19_2 => ?_)
    · refine lv_iconst (v := (-1)) hx hb dX2_place_26 (by decide +kernel) ?_
      refine wt_iast hx hb hK hP hD hS 2 rfl (by omega) (by omega) dX2_place_27 (fun H locs hP hD hS => ?_)
      have hP : va_P (dC, dI) vwCl [(hu, .inr (2, [.ref sd, .ref tw, .ref st, .ref od, .int (nI cn)])), (sd, .inl (cI, 12, .inl fs)), (tw, .inl (cI, 264, .inl (upd ft (k * 12 + u) (-1)))), (st, .inl (cI, 264, .inl ff)), (od, .inl (cI, 264, .inl fo))] H := hP
      have hD : va_D A [(hu, .inr (2, [.ref sd, .ref tw, .ref st, .ref od, .int (nI cn)])), (sd, .inl (cI, 12, .inl fs)), (tw, .inl (cI, 264, .inl (upd ft (k * 12 + u) (-1)))), (st, .inl (cI, 264, .inl ff)), (od, .inl (cI, 264, .inl fo))] := hD
      refine lv_aload_n hx hb dX2_place_28 rfl (lv_at hl 0 rfl) ?_
      refine va_get (D := (dC, dI)) (ci := 2) (v := .ref st) (C := RX2) (T := TX2) (N := 5) hx hb hts inX2 hown hK hP 0 rfl rfl 2 (by decide) (hts (.fieldLink RX2 18 "WarTable$Units" "strengths" "[I") (List.mem_of_getElem? (i := 2) rfl)) (fun _ h9 => h9) rfl dX2_place_29 ?_
      refine lv_iload_n hx hb dX2_place_32 rfl (lv_at hl 1 rfl) ?_
      refine lv_iload_n hx hb dX2_place_33 rfl (lv_at hl 2 rfl) ?_
      refine wt_ro_go (va_runS (As := [.int (nI k), .int (nI u)]) (rest := [.ref st]) ⟨hx, hb, hml, hown, hts⟩ (k_X2_index l k u) (va_cwS 2 hts gX2_place_X2_index rfl rfl rfl (by decide +kernel) ⟨Nat.le_of_ble_eq_true rfl, Nat.le_of_ble_eq_true rfl⟩) wt_PS rfl rfl hl.1 rfl (lv_room (Nat.le_of_ble_eq_true rfl)) dX2_place_34 ⟨Nat.zero_le _, Nat.zero_le _⟩) ?_
      refine lv_iload hx hb dX2_place_37 (lv_at hl 4 rfl) ?_
      refine lv_iconst (v := nI 0) hx hb dX2_place_39 (by decide +kernel) ?_
      refine va_mmax hx hb (by rw [hml]; exact hl.1.symm) hown (hts (.methodLink RX2 43 Lib.Math.max.name) (List.mem_of_getElem? (i := 3) rfl)) (hts (.static Lib.Math.max.name) (List.mem_of_getElem? (i := 4) rfl)) (hts (.initialized "java/lang/Math") (List.mem_of_getElem? (i := 5) rfl)) (hts (.code Lib.Math.max.name Lib.Math.max.code 2 (some .int)) (List.mem_of_getElem? (i := 6) rfl)) (Nat.le_of_ble_eq_true rfl) (Nat.le_of_ble_eq_true rfl) (Nat.zero_le _) (Nat.zero_le _) dX2_place_40 ?_
      refine wt_top (y := (wt_max y (nI 0))) rfl ?_
      refine wt_iast hx hb hK hP hD hS 3 rfl (by omega) (by omega) dX2_place_43 (fun H locs hP hD hS => ?_)
      have hP : va_P (dC, dI) vwCl [(hu, .inr (2, [.ref sd, .ref tw, .ref st, .ref od, .int (nI cn)])), (sd, .inl (cI, 12, .inl fs)), (tw, .inl (cI, 264, .inl (upd ft (k * 12 + u) (-1)))), (st, .inl (cI, 264, .inl (upd ff (k * 12 + u) (wt_max y (nI 0))))), (od, .inl (cI, 264, .inl fo))] H := hP
      have hD : va_D A [(hu, .inr (2, [.ref sd, .ref tw, .ref st, .ref od, .int (nI cn)])), (sd, .inl (cI, 12, .inl fs)), (tw, .inl (cI, 264, .inl (upd ft (k * 12 + u) (-1)))), (st, .inl (cI, 264, .inl (upd ff (k * 12 + u) (wt_max y (nI 0))))), (od, .inl (cI, 264, .inl fo))] := hD
      have e3 : (upd ft (k * 12 + u) (-1)) = (wt_plT ft k u x y) := (by simp only [wt_fold_s, wt_plT, wt_plF, wt_if_t c_5_1, wt_if_f c_19_2])
      have hP : va_P (dC, dI) vwCl [(hu, .inr (2, [.ref sd, .ref tw, .ref st, .ref od, .int (nI cn)])), (sd, .inl (cI, 12, .inl fs)), (tw, .inl (cI, 264, .inl (wt_plT ft k u x y))), (st, .inl (cI, 264, .inl (upd ff (k * 12 + u) (wt_max y (nI 0))))), (od, .inl (cI, 264, .inl fo))] H := Eq.mp (congrArg (fun z9 : Nat → Int32 => va_P (dC, dI) vwCl [(hu, .inr (2, [.ref sd, .ref tw, .ref st, .ref od, .int (nI cn)])), (sd, .inl (cI, 12, .inl fs)), (tw, .inl (cI, 264, .inl z9)), (st, .inl (cI, 264, .inl (upd ff (k * 12 + u) (wt_max y (nI 0))))), (od, .inl (cI, 264, .inl fo))] H) e3) hP
      have e4 : (upd ff (k * 12 + u) (wt_max y (nI 0))) = (wt_plF ff k u y) := (by simp only [wt_fold_s, wt_plT, wt_plF, wt_if_t c_5_1, wt_if_f c_19_2])
      have hP : va_P (dC, dI) vwCl [(hu, .inr (2, [.ref sd, .ref tw, .ref st, .ref od, .int (nI cn)])), (sd, .inl (cI, 12, .inl fs)), (tw, .inl (cI, 264, .inl (wt_plT ft k u x y))), (st, .inl (cI, 264, .inl (wt_plF ff k u y))), (od, .inl (cI, 264, .inl fo))] H := Eq.mp (congrArg (fun z9 : Nat → Int32 => va_P (dC, dI) vwCl [(hu, .inr (2, [.ref sd, .ref tw, .ref st, .ref od, .int (nI cn)])), (sd, .inl (cI, 12, .inl fs)), (tw, .inl (cI, 264, .inl (wt_plT ft k u x y))), (st, .inl (cI, 264, .inl z9)), (od, .inl (cI, 264, .inl fo))] H) e4) hP
      have hD : va_D A [(hu, .inr (2, [.ref sd, .ref tw, .ref st, .ref od, .int (nI cn)])), (sd, .inl (cI, 12, .inl fs)), (tw, .inl (cI, 264, .inl (wt_plT ft k u x y))), (st, .inl (cI, 264, .inl (wt_plF ff k u y))), (od, .inl (cI, 264, .inl fo))] := wt_adr hD rfl
      exact wt_mvret hx hb hr hP hS dX2_place_44 hlocks
    · refine lv_iload_n hx hb dX2_place_22 rfl (lv_at hl 3 rfl) ?_
      refine lv_goto (tgt := 27) hx hb dX2_place_23 (by decide) ?_
      refine wt_iast hx hb hK hP hD hS 2 rfl (by omega) (by omega) dX2_place_27 (fun H locs hP hD hS => ?_)
      have hP : va_P (dC, dI) vwCl [(hu, .inr (2, [.ref sd, .ref tw, .ref st, .ref od, .int (nI cn)])), (sd, .inl (cI, 12, .inl fs)), (tw, .inl (cI, 264, .inl (upd ft (k * 12 + u) x))), (st, .inl (cI, 264, .inl ff)), (od, .inl (cI, 264, .inl fo))] H := hP
      have hD : va_D A [(hu, .inr (2, [.ref sd, .ref tw, .ref st, .ref od, .int (nI cn)])), (sd, .inl (cI, 12, .inl fs)), (tw, .inl (cI, 264, .inl (upd ft (k * 12 + u) x))), (st, .inl (cI, 264, .inl ff)), (od, .inl (cI, 264, .inl fo))] := hD
      refine lv_aload_n hx hb dX2_place_28 rfl (lv_at hl 0 rfl) ?_
      refine va_get (D := (dC, dI)) (ci := 2) (v := .ref st) (C := RX2) (T := TX2) (N := 5) hx hb hts inX2 hown hK hP 0 rfl rfl 2 (by decide) (hts (.fieldLink RX2 18 "WarTable$Units" "strengths" "[I") (List.mem_of_getElem? (i := 2) rfl)) (fun _ h9 => h9) rfl dX2_place_29 ?_
      refine lv_iload_n hx hb dX2_place_32 rfl (lv_at hl 1 rfl) ?_
      refine lv_iload_n hx hb dX2_place_33 rfl (lv_at hl 2 rfl) ?_
      refine wt_ro_go (va_runS (As := [.int (nI k), .int (nI u)]) (rest := [.ref st]) ⟨hx, hb, hml, hown, hts⟩ (k_X2_index l k u) (va_cwS 2 hts gX2_place_X2_index rfl rfl rfl (by decide +kernel) ⟨Nat.le_of_ble_eq_true rfl, Nat.le_of_ble_eq_true rfl⟩) wt_PS rfl rfl hl.1 rfl (lv_room (Nat.le_of_ble_eq_true rfl)) dX2_place_34 ⟨Nat.zero_le _, Nat.zero_le _⟩) ?_
      refine lv_iload hx hb dX2_place_37 (lv_at hl 4 rfl) ?_
      refine lv_iconst (v := nI 0) hx hb dX2_place_39 (by decide +kernel) ?_
      refine va_mmax hx hb (by rw [hml]; exact hl.1.symm) hown (hts (.methodLink RX2 43 Lib.Math.max.name) (List.mem_of_getElem? (i := 3) rfl)) (hts (.static Lib.Math.max.name) (List.mem_of_getElem? (i := 4) rfl)) (hts (.initialized "java/lang/Math") (List.mem_of_getElem? (i := 5) rfl)) (hts (.code Lib.Math.max.name Lib.Math.max.code 2 (some .int)) (List.mem_of_getElem? (i := 6) rfl)) (Nat.le_of_ble_eq_true rfl) (Nat.le_of_ble_eq_true rfl) (Nat.zero_le _) (Nat.zero_le _) dX2_place_40 ?_
      refine wt_top (y := (wt_max y (nI 0))) rfl ?_
      refine wt_iast hx hb hK hP hD hS 3 rfl (by omega) (by omega) dX2_place_43 (fun H locs hP hD hS => ?_)
      have hP : va_P (dC, dI) vwCl [(hu, .inr (2, [.ref sd, .ref tw, .ref st, .ref od, .int (nI cn)])), (sd, .inl (cI, 12, .inl fs)), (tw, .inl (cI, 264, .inl (upd ft (k * 12 + u) x))), (st, .inl (cI, 264, .inl (upd ff (k * 12 + u) (wt_max y (nI 0))))), (od, .inl (cI, 264, .inl fo))] H := hP
      have hD : va_D A [(hu, .inr (2, [.ref sd, .ref tw, .ref st, .ref od, .int (nI cn)])), (sd, .inl (cI, 12, .inl fs)), (tw, .inl (cI, 264, .inl (upd ft (k * 12 + u) x))), (st, .inl (cI, 264, .inl (upd ff (k * 12 + u) (wt_max y (nI 0))))), (od, .inl (cI, 264, .inl fo))] := hD
      have e5 : (upd ft (k * 12 + u) x) = (wt_plT ft k u x y) := (by simp only [wt_fold_s, wt_plT, wt_plF, wt_if_t c_5_1, wt_if_t c_19_2])
      have hP : va_P (dC, dI) vwCl [(hu, .inr (2, [.ref sd, .ref tw, .ref st, .ref od, .int (nI cn)])), (sd, .inl (cI, 12, .inl fs)), (tw, .inl (cI, 264, .inl (wt_plT ft k u x y))), (st, .inl (cI, 264, .inl (upd ff (k * 12 + u) (wt_max y (nI 0))))), (od, .inl (cI, 264, .inl fo))] H := Eq.mp (congrArg (fun z9 : Nat → Int32 => va_P (dC, dI) vwCl [(hu, .inr (2, [.ref sd, .ref tw, .ref st, .ref od, .int (nI cn)])), (sd, .inl (cI, 12, .inl fs)), (tw, .inl (cI, 264, .inl z9)), (st, .inl (cI, 264, .inl (upd ff (k * 12 + u) (wt_max y (nI 0))))), (od, .inl (cI, 264, .inl fo))] H) e5) hP
      have e6 : (upd ff (k * 12 + u) (wt_max y (nI 0))) = (wt_plF ff k u y) := (by simp only [wt_fold_s, wt_plT, wt_plF, wt_if_t c_5_1, wt_if_t c_19_2])
      have hP : va_P (dC, dI) vwCl [(hu, .inr (2, [.ref sd, .ref tw, .ref st, .ref od, .int (nI cn)])), (sd, .inl (cI, 12, .inl fs)), (tw, .inl (cI, 264, .inl (wt_plT ft k u x y))), (st, .inl (cI, 264, .inl (wt_plF ff k u y))), (od, .inl (cI, 264, .inl fo))] H := Eq.mp (congrArg (fun z9 : Nat → Int32 => va_P (dC, dI) vwCl [(hu, .inr (2, [.ref sd, .ref tw, .ref st, .ref od, .int (nI cn)])), (sd, .inl (cI, 12, .inl fs)), (tw, .inl (cI, 264, .inl (wt_plT ft k u x y))), (st, .inl (cI, 264, .inl z9)), (od, .inl (cI, 264, .inl fo))] H) e6) hP
      have hD : va_D A [(hu, .inr (2, [.ref sd, .ref tw, .ref st, .ref od, .int (nI cn)])), (sd, .inl (cI, 12, .inl fs)), (tw, .inl (cI, 264, .inl (wt_plT ft k u x y))), (st, .inl (cI, 264, .inl (wt_plF ff k u y))), (od, .inl (cI, 264, .inl fo))] := wt_adr hD rfl
      exact wt_mvret hx hb hr hP hS dX2_place_44 hlocks
set_option maxHeartbeats 4000000 in
set_option maxRecDepth 100000 in
theorem k_X2_add (l : Launch) (dC : Nat → ClassId) (dI : Nat → Nat → Nat) (cI : ClassId) (hu : Nat) (sd : Nat) (tw : Nat) (st : Nat) (od : Nat) (fs : Nat → Int32) (ft : Nat → Int32) (ff : Nat → Int32) (fo : Nat → Int32) (cn : Nat) (x : Int32) (y : Int32) (z : Int32) (sz : Nat) (hcn : cn < 12) : Met l yX2_add wsX2_add ({ frames := 2, cells := 0, slots := 0, locals := 45 }) (va_Pc [.ref hu, .int x, .int y, .int z] (wt_pm (dC, dI) cI [(hu, .inr (2, [.ref sd, .ref tw, .ref st, .ref od, .int (nI cn)])), (sd, .inl (cI, 12, .inl fs)), (tw, .inl (cI, 264, .inl ft)), (st, .inl (cI, 264, .inl ff)), (od, .inl (cI, 264, .inl fo))] sz)) (wt_mu (some (.int (nI cn))) (dC, dI) [(hu, .inr (2, [.ref sd, .ref tw, .ref st, .ref od, .int (nI (cn + 1))])), (sd, .inl (cI, 12, .inl (upd fs cn x))), (tw, .inl (cI, 264, .inl (wt_plT ft 0 cn y z))), (st, .inl (cI, 264, .inl (wt_plF ff 0 cn z))), (od, .inl (cI, 264, .inl fo))] (va_A [(hu, .inr (2, [.ref sd, .ref tw, .ref st, .ref od, .int (nI cn)])), (sd, .inl (cI, 12, .inl fs)), (tw, .inl (cI, 264, .inl ft)), (st, .inl (cI, 264, .inl ff)), (od, .inl (cI, 264, .inl fo))] sz)) 0 0 (va_A [(hu, .inr (2, [.ref sd, .ref tw, .ref st, .ref od, .int (nI cn)])), (sd, .inl (cI, 12, .inl fs)), (tw, .inl (cI, 264, .inl ft)), (st, .inl (cI, 264, .inl ff)), (od, .inl (cI, 264, .inl fo))] sz) := by
  refine Met.ofW (cc := cX2_add) (maxL := 5) (ret := (some .int)) (by decide) rfl ?_
  intro p e s m args below meth c s₁ B hml hv
  obtain ⟨rfl, hsz, ⟨hP, hK, hN⟩, hD0⟩ := hv
  have hx := B.exec
  have hb := B.bytes
  have hr := B.returns
  have hts := atoms_spec (ws := wsX2_add) B.pre
  have hown : s.vm.findClass RX2 = some m.cls := findClass_of_methodNamed B.named
  have hlocks := B.notSynchronized
  subst hsz
  have hD := hD0.self (sz := s.heap.size)
  generalize hAe : va_A [(hu, .inr (2, [.ref sd, .ref tw, .ref st, .ref od, .int (nI cn)])), (sd, .inl (cI, 12, .inl fs)), (tw, .inl (cI, 264, .inl ft)), (st, .inl (cI, 264, .inl ff)), (od, .inl (cI, 264, .inl fo))] s.heap.size = A at hD ⊢
  have hA : ∀ q : Nat, s.heap.size ≤ q → A q := fun q h => by rw [← hAe]; exact Or.inr h
  have hS : va_S A s.heap s.heap [] := va_S.rf
  have inX2 : ∀ w ∈ wsX20, w ∈ wsX2_add := wt_in [23, 24, 25, 26, 27] (by decide +kernel)
  have hl := lv_entry ([.ref hu, .int x, .int y, .int z]) (n := 5) (Nat.le_of_ble_eq_true rfl)
  rw [lg_entry_eq]
  generalize (lg_sl ([.ref hu, .int x, .int y, .int z]) ++ List.replicate (5 - (lg_sl ([.ref hu, .int x, .int y, .int z])).length) Slot.unset).toArray = ls at hl ⊢
  have hl : lv_has ls 5 [(0, .ref hu), (1, .int x), (2, .int y), (3, .int z)] := hl
  refine lv_aload_n hx hb dX2_add_0 rfl (lv_at hl 0 rfl) ?_
  refine va_get (D := (dC, dI)) (ci := 2) (v := .int (nI cn)) (C := RX2) (T := TX2) (N := 5) hx hb hts inX2 hown hK hP 0 rfl rfl 4 (by decide) (hts (.fieldLink RX2 24 "WarTable$Units" "count" "I") (List.mem_of_getElem? (i := 1) rfl)) (fun _ h9 => h9) rfl dX2_add_1 ?_
  refine lv_istore (lv' := [(4, .int (nI cn)), (0, .ref hu), (1, .int x), (2, .int y), (3, .int z)]) hx hb dX2_add_4 hl (by decide) rfl (fun ls hl => ?_)
  refine lv_iload hx hb dX2_add_6 (lv_at hl 0 rfl) ?_
  refine lv_bipush (v := nI 12) hx hb dX2_add_8 (by decide +kernel) ?_
  refine wt_ro_go (va_runSN (As := [.int (nI cn), .int (nI 12)]) (rest := []) ⟨hx, hb, hml, hown, hts⟩ (k_X3_belowN l cn 12 (by omega) (by omega)) ⟨va_cnB (host := RX3) 2 hts gX2_add_X3_below_n28 rfl rfl rfl (hN _ (List.mem_of_getElem? (i := 7) rfl)) (hts (.initialized RX3) (List.mem_of_getElem? (i := 4) rfl)) (by decide +kernel) ⟨Nat.le_of_ble_eq_true rfl, Nat.le_of_ble_eq_true rfl⟩, (hts (.static yX3_below) (List.mem_of_getElem? (i := 3) rfl)), trivial⟩ wt_PS rfl rfl hl.1 rfl (lv_room (Nat.le_of_ble_eq_true rfl)) dX2_add_10 ⟨Nat.zero_le _, Nat.zero_le _⟩) ?_
  refine wt_if_neB (tgt := 18) hx hb dX2_add_13 (by decide) (fun c_13_1 => ?_) (fun c_13_1 => ?_)
  · refine lv_aload_n hx hb dX2_add_18 rfl (lv_at hl 1 rfl) ?_
    refine va_get (D := (dC, dI)) (ci := 2) (v := .ref sd) (C := RX2) (T := TX2) (N := 5) hx hb hts inX2 hown hK hP 0 rfl rfl 0 (by decide) (hts (.fieldLink RX2 9 "WarTable$Units" "sides" "[I") (List.mem_of_getElem? (i := 2) rfl)) (fun _ h9 => h9) rfl dX2_add_19 ?_
    refine lv_iload hx hb dX2_add_22 (lv_at hl 0 rfl) ?_
    refine lv_iload_n hx hb dX2_add_24 rfl (lv_at hl 2 rfl) ?_
    refine wt_iast hx hb hK hP hD hS 1 rfl (by omega) (by omega) dX2_add_25 (fun H locs hP hD hS => ?_)
    have hP : va_P (dC, dI) vwCl [(hu, .inr (2, [.ref sd, .ref tw, .ref st, .ref od, .int (nI cn)])), (sd, .inl (cI, 12, .inl (upd fs cn x))), (tw, .inl (cI, 264, .inl ft)), (st, .inl (cI, 264, .inl ff)), (od, .inl (cI, 264, .inl fo))] H := hP
    have hD : va_D A [(hu, .inr (2, [.ref sd, .ref tw, .ref st, .ref od, .int (nI cn)])), (sd, .inl (cI, 12, .inl (upd fs cn x))), (tw, .inl (cI, 264, .inl ft)), (st, .inl (cI, 264, .inl ff)), (od, .inl (cI, 264, .inl fo))] := hD
    refine lv_aload_n hx hb dX2_add_26 rfl (lv_at hl 1 rfl) ?_
    refine lv_iload hx hb dX2_add_27 (lv_at hl 0 rfl) ?_
    refine lv_iconst (v := nI 1) hx hb dX2_add_29 (by decide +kernel) ?_
    refine wt_iadd hx hb dX2_add_30 ?_
    refine va_put (D := (dC, dI)) (ci := 2) (v := .int (nI (cn + 1))) (ty := .int) (C := RX2) (T := TX2) (N := 5) hx hb hts inX2 tyX2 tyX2_ok nmX2 hown hK hP hD hS 0 rfl rfl 4 (by decide) (hts (.fieldLink RX2 24 "WarTable$Units" "count" "I") (List.mem_of_getElem? (i := 1) rfl)) (fun _ h9 => h9) rfl (by decide +kernel) rfl rfl (Nat.le_of_ble_eq_true rfl) dX2_add_31 (fun H locs hP hD hS => ?_)
    have hP : va_P (dC, dI) vwCl [(hu, .inr (2, [.ref sd, .ref tw, .ref st, .ref od, .int (nI (cn + 1))])), (sd, .inl (cI, 12, .inl (upd fs cn x))), (tw, .inl (cI, 264, .inl ft)), (st, .inl (cI, 264, .inl ff)), (od, .inl (cI, 264, .inl fo))] H := hP
    have hD : va_D A [(hu, .inr (2, [.ref sd, .ref tw, .ref st, .ref od, .int (nI (cn + 1))])), (sd, .inl (cI, 12, .inl (upd fs cn x))), (tw, .inl (cI, 264, .inl ft)), (st, .inl (cI, 264, .inl ff)), (od, .inl (cI, 264, .inl fo))] := hD
    refine lv_aload_n hx hb dX2_add_34 rfl (lv_at hl 1 rfl) ?_
    refine lv_iconst (v := nI 0) hx hb dX2_add_35 (by decide +kernel) ?_
    refine lv_iload hx hb dX2_add_36 (lv_at hl 0 rfl) ?_
    refine lv_iload_n hx hb dX2_add_38 rfl (lv_at hl 3 rfl) ?_
    refine lv_iload_n hx hb dX2_add_39 rfl (lv_at hl 4 rfl) ?_
    refine wt_mu_go (w1 := [(hu, .inr (2, [.ref sd, .ref tw, .ref st, .ref od, .int (nI (cn + 1))])), (sd, .inl (cI, 12, .inl (upd fs cn x))), (tw, .inl (cI, 264, .inl (wt_plT ft 0 cn y z))), (st, .inl (cI, 264, .inl (wt_plF ff 0 cn z))), (od, .inl (cI, 264, .inl fo))]) (w2 := [(hu, .inr (2, [.ref sd, .ref tw, .ref st, .ref od, .int (nI (cn + 1))])), (sd, .inl (cI, 12, .inl (upd fs cn x))), (tw, .inl (cI, 264, .inl (wt_plT ft 0 cn y z))), (st, .inl (cI, 264, .inl (wt_plF ff 0 cn z))), (od, .inl (cI, 264, .inl fo))]) (va_runV (As := [.int (nI 0), .int (nI cn), .int y, .int z]) (rest := []) ⟨hx, hb, hml, hown, hts⟩ (k_X2_place l dC dI cI hu sd tw st od (upd fs cn x) ft ff fo (cn + 1) 0 cn y z H.size (by omega) (by omega)) (cwV 4 hts gX2_add_X2_place rfl rfl rfl (by decide +kernel) ⟨Nat.le_of_ble_eq_true rfl, Nat.le_of_ble_eq_true rfl⟩) (wt_PVM (C := RX2) (T := TX2) (N := 5) (ci := 2) (q0 := 0) hK hP hN hD rfl rfl [0, 1, 2, 3, 4] rfl rfl) rfl rfl hl.1 rfl (lv_room (Nat.le_of_ble_eq_true rfl)) dX2_add_40 ⟨Nat.zero_le _, Nat.zero_le _⟩) hP hD hS hA [0, 1, 2, 3, 4] [] rfl rfl rfl rfl (by decide) rfl [0, 1, 2, 3, 4] rfl rfl rfl (fun H locs hP hD hS hz9 => ?_)
    refine W.eq (g2 := F0 m 43 ls []) rfl ?_
    refine lv_iload hx hb dX2_add_43 (lv_at hl 0 rfl) ?_
    exact wt_miret hx hb hr rfl hP hS dX2_add_45 hlocks
  · exfalso; omega
set_option maxHeartbeats 4000000 in
set_option maxRecDepth 100000 in
theorem k_X2_copyMoment (l : Launch) (dC : Nat → ClassId) (dI : Nat → Nat → Nat) (cI : ClassId) (hu : Nat) (sd : Nat) (tw : Nat) (st : Nat) (od : Nat) (fs : Nat → Int32) (ft : Nat → Int32) (ff : Nat → Int32) (fo : Nat → Int32) (cn : Nat) (fr : Nat) (to : Nat) (sz : Nat) (hcn : cn ≤ 12) (hfr : fr < 22) (hto : to < 22) : Met l yX2_copyMoment wsX2_copyMoment ({ frames := 2, cells := 0, slots := 0, locals := 45 }) (va_Pc [.ref hu, .int (nI fr), .int (nI to)] (wt_pm (dC, dI) cI [(hu, .inr (2, [.ref sd, .ref tw, .ref st, .ref od, .int (nI cn)])), (sd, .inl (cI, 12, .inl fs)), (tw, .inl (cI, 264, .inl ft)), (st, .inl (cI, 264, .inl ff)), (od, .inl (cI, 264, .inl fo))] sz)) (wt_mu none (dC, dI) [(hu, .inr (2, [.ref sd, .ref tw, .ref st, .ref od, .int (nI cn)])), (sd, .inl (cI, 12, .inl fs)), (tw, .inl (cI, 264, .inl ((wt_fold (wt_cps fr to) cn (ft, ff)).1))), (st, .inl (cI, 264, .inl ((wt_fold (wt_cps fr to) cn (ft, ff)).2))), (od, .inl (cI, 264, .inl fo))] (va_A [(hu, .inr (2, [.ref sd, .ref tw, .ref st, .ref od, .int (nI cn)])), (sd, .inl (cI, 12, .inl fs)), (tw, .inl (cI, 264, .inl ft)), (st, .inl (cI, 264, .inl ff)), (od, .inl (cI, 264, .inl fo))] sz)) 0 0 (va_A [(hu, .inr (2, [.ref sd, .ref tw, .ref st, .ref od, .int (nI cn)])), (sd, .inl (cI, 12, .inl fs)), (tw, .inl (cI, 264, .inl ft)), (st, .inl (cI, 264, .inl ff)), (od, .inl (cI, 264, .inl fo))] sz) := by
  refine Met.ofW (cc := cX2_copyMoment) (maxL := 4) (ret := none) (by decide) rfl ?_
  intro p e s m args below meth c s₁ B hml hv
  obtain ⟨rfl, hsz, ⟨hP, hK, hN⟩, hD0⟩ := hv
  have hx := B.exec
  have hb := B.bytes
  have hr := B.returns
  have hts := atoms_spec (ws := wsX2_copyMoment) B.pre
  have hown : s.vm.findClass RX2 = some m.cls := findClass_of_methodNamed B.named
  have hlocks := B.notSynchronized
  subst hsz
  have hD := hD0.self (sz := s.heap.size)
  generalize hAe : va_A [(hu, .inr (2, [.ref sd, .ref tw, .ref st, .ref od, .int (nI cn)])), (sd, .inl (cI, 12, .inl fs)), (tw, .inl (cI, 264, .inl ft)), (st, .inl (cI, 264, .inl ff)), (od, .inl (cI, 264, .inl fo))] s.heap.size = A at hD ⊢
  have hA : ∀ q : Nat, s.heap.size ≤ q → A q := fun q h => by rw [← hAe]; exact Or.inr h
  have hS : va_S A s.heap s.heap [] := va_S.rf
  have inX2 : ∀ w ∈ wsX20, w ∈ wsX2_copyMoment := wt_in [27, 28, 29, 30, 31] (by decide +kernel)
  have hl := lv_entry ([.ref hu, .int (nI fr), .int (nI to)]) (n := 4) (Nat.le_of_ble_eq_true rfl)
  rw [lg_entry_eq]
  generalize (lg_sl ([.ref hu, .int (nI fr), .int (nI to)]) ++ List.replicate (4 - (lg_sl ([.ref hu, .int (nI fr), .int (nI to)])).length) Slot.unset).toArray = ls at hl ⊢
  have hl : lv_has ls 4 [(0, .ref hu), (1, .int (nI fr)), (2, .int (nI to))] := hl
  refine lv_iconst (v := nI 0) hx hb dX2_copyMoment_0 (by decide +kernel) ?_
  refine lv_istore_n (lv' := [(3, .int (nI 0)), (0, .ref hu), (1, .int (nI fr)), (2, .int (nI to))]) hx hb dX2_copyMoment_1 rfl hl (by decide) rfl (fun ls hl => ?_)
  have e1 : ft = (wt_fold (wt_cps fr to) 0 (ft, ff)).1 := rfl
  have hP : va_P (dC, dI) vwCl [(hu, .inr (2, [.ref sd, .ref tw, .ref st, .ref od, .int (nI cn)])), (sd, .inl (cI, 12, .inl fs)), (tw, .inl (cI, 264, .inl ((wt_fold (wt_cps fr to) 0 (ft, ff)).1))), (st, .inl (cI, 264, .inl ff)), (od, .inl (cI, 264, .inl fo))] s.heap := Eq.mp (congrArg (fun z9 : Nat → Int32 => va_P (dC, dI) vwCl [(hu, .inr (2, [.ref sd, .ref tw, .ref st, .ref od, .int (nI cn)])), (sd, .inl (cI, 12, .inl fs)), (tw, .inl (cI, 264, .inl z9)), (st, .inl (cI, 264, .inl ff)), (od, .inl (cI, 264, .inl fo))] s.heap) e1) hP
  have e2 : ff = (wt_fold (wt_cps fr to) 0 (ft, ff)).2 := rfl
  have hP : va_P (dC, dI) vwCl [(hu, .inr (2, [.ref sd, .ref tw, .ref st, .ref od, .int (nI cn)])), (sd, .inl (cI, 12, .inl fs)), (tw, .inl (cI, 264, .inl ((wt_fold (wt_cps fr to) 0 (ft, ff)).1))), (st, .inl (cI, 264, .inl ((wt_fold (wt_cps fr to) 0 (ft, ff)).2))), (od, .inl (cI, 264, .inl fo))] s.heap := Eq.mp (congrArg (fun z9 : Nat → Int32 => va_P (dC, dI) vwCl [(hu, .inr (2, [.ref sd, .ref tw, .ref st, .ref od, .int (nI cn)])), (sd, .inl (cI, 12, .inl fs)), (tw, .inl (cI, 264, .inl ((wt_fold (wt_cps fr to) 0 (ft, ff)).1))), (st, .inl (cI, 264, .inl z9)), (od, .inl (cI, 264, .inl fo))] s.heap) e2) hP
  have hD : va_D A [(hu, .inr (2, [.ref sd, .ref tw, .ref st, .ref od, .int (nI cn)])), (sd, .inl (cI, 12, .inl fs)), (tw, .inl (cI, 264, .inl ((wt_fold (wt_cps fr to) 0 (ft, ff)).1))), (st, .inl (cI, 264, .inl ((wt_fold (wt_cps fr to) 0 (ft, ff)).2))), (od, .inl (cI, 264, .inl fo))] := wt_adr hD rfl
  refine wt_lpM (σ := Nat) 0 (fun i => cn - i) (fun i ls H locs => (i ≤ cn) ∧ lv_has ls 4 [(3, .int (nI i)), (0, .ref hu), (1, .int (nI fr)), (2, .int (nI to))] ∧ va_P (dC, dI) vwCl [(hu, .inr (2, [.ref sd, .ref tw, .ref st, .ref od, .int (nI cn)])), (sd, .inl (cI, 12, .inl fs)), (tw, .inl (cI, 264, .inl ((wt_fold (wt_cps fr to) i (ft, ff)).1))), (st, .inl (cI, 264, .inl ((wt_fold (wt_cps fr to) i (ft, ff)).2))), (od, .inl (cI, 264, .inl fo))] H ∧ va_D A [(hu, .inr (2, [.ref sd, .ref tw, .ref st, .ref od, .int (nI cn)])), (sd, .inl (cI, 12, .inl fs)), (tw, .inl (cI, 264, .inl ((wt_fold (wt_cps fr to) i (ft, ff)).1))), (st, .inl (cI, 264, .inl ((wt_fold (wt_cps fr to) i (ft, ff)).2))), (od, .inl (cI, 264, .inl fo))] ∧ va_S A s.heap H locs) ⟨(by omega), lv_sub hl [0, 1, 2, 3] rfl, hP, hD, hS⟩ (fun i ls H locs h9 ih_2 => ?_)
  obtain ⟨h_2_0, hl, hP, hD, hS⟩ := h9
  refine lv_iload_n hx hb dX2_copyMoment_2 rfl (lv_at hl 0 rfl) ?_
  refine lv_aload_n hx hb dX2_copyMoment_3 rfl (lv_at hl 1 rfl) ?_
  refine va_get (D := (dC, dI)) (ci := 2) (v := .int (nI cn)) (C := RX2) (T := TX2) (N := 5) hx hb hts inX2 hown hK hP 0 rfl rfl 4 (by decide) (hts (.fieldLink RX2 24 "WarTable$Units" "count" "I") (List.mem_of_getElem? (i := 1) rfl)) (fun _ h9 => h9) rfl dX2_copyMoment_4 ?_
  refine wt_icmp_ge (tgt := 34) hx hb (by omega) (by omega) dX2_copyMoment_7 (by decide) (fun c_7_3 => ?_) (fun c_7_3 => ?_)
  · have e4 : (wt_fold (wt_cps fr to) i (ft, ff)).1 = (wt_fold (wt_cps fr to) cn (ft, ff)).1 := (by rw [show i = cn by omega])
    have hP : va_P (dC, dI) vwCl [(hu, .inr (2, [.ref sd, .ref tw, .ref st, .ref od, .int (nI cn)])), (sd, .inl (cI, 12, .inl fs)), (tw, .inl (cI, 264, .inl ((wt_fold (wt_cps fr to) cn (ft, ff)).1))), (st, .inl (cI, 264, .inl ((wt_fold (wt_cps fr to) i (ft, ff)).2))), (od, .inl (cI, 264, .inl fo))] H := Eq.mp (congrArg (fun z9 : Nat → Int32 => va_P (dC, dI) vwCl [(hu, .inr (2, [.ref sd, .ref tw, .ref st, .ref od, .int (nI cn)])), (sd, .inl (cI, 12, .inl fs)), (tw, .inl (cI, 264, .inl z9)), (st, .inl (cI, 264, .inl ((wt_fold (wt_cps fr to) i (ft, ff)).2))), (od, .inl (cI, 264, .inl fo))] H) e4) hP
    have e5 : (wt_fold (wt_cps fr to) i (ft, ff)).2 = (wt_fold (wt_cps fr to) cn (ft, ff)).2 := (by rw [show i = cn by omega])
    have hP : va_P (dC, dI) vwCl [(hu, .inr (2, [.ref sd, .ref tw, .ref st, .ref od, .int (nI cn)])), (sd, .inl (cI, 12, .inl fs)), (tw, .inl (cI, 264, .inl ((wt_fold (wt_cps fr to) cn (ft, ff)).1))), (st, .inl (cI, 264, .inl ((wt_fold (wt_cps fr to) cn (ft, ff)).2))), (od, .inl (cI, 264, .inl fo))] H := Eq.mp (congrArg (fun z9 : Nat → Int32 => va_P (dC, dI) vwCl [(hu, .inr (2, [.ref sd, .ref tw, .ref st, .ref od, .int (nI cn)])), (sd, .inl (cI, 12, .inl fs)), (tw, .inl (cI, 264, .inl ((wt_fold (wt_cps fr to) cn (ft, ff)).1))), (st, .inl (cI, 264, .inl z9)), (od, .inl (cI, 264, .inl fo))] H) e5) hP
    have hD : va_D A [(hu, .inr (2, [.ref sd, .ref tw, .ref st, .ref od, .int (nI cn)])), (sd, .inl (cI, 12, .inl fs)), (tw, .inl (cI, 264, .inl ((wt_fold (wt_cps fr to) cn (ft, ff)).1))), (st, .inl (cI, 264, .inl ((wt_fold (wt_cps fr to) cn (ft, ff)).2))), (od, .inl (cI, 264, .inl fo))] := wt_adr hD rfl
    exact wt_mvret hx hb hr hP hS dX2_copyMoment_34 hlocks
  · refine lv_aload_n hx hb dX2_copyMoment_10 rfl (lv_at hl 1 rfl) ?_
    refine lv_iload_n hx hb dX2_copyMoment_11 rfl (lv_at hl 3 rfl) ?_
    refine lv_iload_n hx hb dX2_copyMoment_12 rfl (lv_at hl 0 rfl) ?_
    refine lv_aload_n hx hb dX2_copyMoment_13 rfl (lv_at hl 1 rfl) ?_
    refine lv_iload_n hx hb dX2_copyMoment_14 rfl (lv_at hl 2 rfl) ?_
    refine lv_iload_n hx hb dX2_copyMoment_15 rfl (lv_at hl 0 rfl) ?_
    refine wt_ro_go (va_runV (As := [.int (nI fr), .int (nI i)]) (rest := [.int (nI i), .int (nI to), .ref hu]) ⟨hx, hb, hml, hown, hts⟩ (k_X2_townAt l dC dI cI hu sd tw st od fs ((wt_fold (wt_cps fr to) i (ft, ff)).1) ((wt_fold (wt_cps fr to) i (ft, ff)).2) fo cn fr i (by omega) (by omega)) (cwV 2 hts gX2_copyMoment_X2_townAt rfl rfl rfl (by decide +kernel) ⟨Nat.le_of_ble_eq_true rfl, Nat.le_of_ble_eq_true rfl⟩) (wt_PV (C := RX2) (T := TX2) (N := 5) (ci := 2) (q0 := 0) hK hP hN rfl rfl [0, 1, 2, 3, 4] rfl) rfl rfl hl.1 rfl (lv_room (Nat.le_of_ble_eq_true rfl)) dX2_copyMoment_16 ⟨Nat.zero_le _, Nat.zero_le _⟩) ?_
    refine lv_aload_n hx hb dX2_copyMoment_19 rfl (lv_at hl 1 rfl) ?_
    refine lv_iload_n hx hb dX2_copyMoment_20 rfl (lv_at hl 2 rfl) ?_
    refine lv_iload_n hx hb dX2_copyMoment_21 rfl (lv_at hl 0 rfl) ?_
    refine wt_ro_go (va_runV (As := [.int (nI fr), .int (nI i)]) (rest := [.int (((wt_fold (wt_cps fr to) i (ft, ff)).1) (fr * 12 + i)), .int (nI i), .int (nI to), .ref hu]) ⟨hx, hb, hml, hown, hts⟩ (k_X2_strengthAt l dC dI cI hu sd tw st od fs ((wt_fold (wt_cps fr to) i (ft, ff)).1) ((wt_fold (wt_cps fr to) i (ft, ff)).2) fo cn fr i (by omega) (by omega)) (cwV 2 hts gX2_copyMoment_X2_strengthAt rfl rfl rfl (by decide +kernel) ⟨Nat.le_of_ble_eq_true rfl, Nat.le_of_ble_eq_true rfl⟩) (wt_PV (C := RX2) (T := TX2) (N := 5) (ci := 2) (q0 := 0) hK hP hN rfl rfl [0, 1, 2, 3, 4] rfl) rfl rfl hl.1 rfl (lv_room (Nat.le_of_ble_eq_true rfl)) dX2_copyMoment_22 ⟨Nat.zero_le _, Nat.zero_le _⟩) ?_
    refine wt_mu_go (w1 := [(hu, .inr (2, [.ref sd, .ref tw, .ref st, .ref od, .int (nI cn)])), (sd, .inl (cI, 12, .inl fs)), (tw, .inl (cI, 264, .inl (wt_plT ((wt_fold (wt_cps fr to) i (ft, ff)).1) to i (((wt_fold (wt_cps fr to) i (ft, ff)).1) (fr * 12 + i)) (((wt_fold (wt_cps fr to) i (ft, ff)).2) (fr * 12 + i))))), (st, .inl (cI, 264, .inl (wt_plF ((wt_fold (wt_cps fr to) i (ft, ff)).2) to i (((wt_fold (wt_cps fr to) i (ft, ff)).2) (fr * 12 + i))))), (od, .inl (cI, 264, .inl fo))]) (w2 := [(hu, .inr (2, [.ref sd, .ref tw, .ref st, .ref od, .int (nI cn)])), (sd, .inl (cI, 12, .inl fs)), (tw, .inl (cI, 264, .inl (wt_plT ((wt_fold (wt_cps fr to) i (ft, ff)).1) to i (((wt_fold (wt_cps fr to) i (ft, ff)).1) (fr * 12 + i)) (((wt_fold (wt_cps fr to) i (ft, ff)).2) (fr * 12 + i))))), (st, .inl (cI, 264, .inl (wt_plF ((wt_fold (wt_cps fr to) i (ft, ff)).2) to i (((wt_fold (wt_cps fr to) i (ft, ff)).2) (fr * 12 + i))))), (od, .inl (cI, 264, .inl fo))]) (va_runV (As := [.int (nI to), .int (nI i), .int (((wt_fold (wt_cps fr to) i (ft, ff)).1) (fr * 12 + i)), .int (((wt_fold (wt_cps fr to) i (ft, ff)).2) (fr * 12 + i))]) (rest := []) ⟨hx, hb, hml, hown, hts⟩ (k_X2_place l dC dI cI hu sd tw st od fs ((wt_fold (wt_cps fr to) i (ft, ff)).1) ((wt_fold (wt_cps fr to) i (ft, ff)).2) fo cn to i (((wt_fold (wt_cps fr to) i (ft, ff)).1) (fr * 12 + i)) (((wt_fold (wt_cps fr to) i (ft, ff)).2) (fr * 12 + i)) H.size (by omega) (by omega)) (cwV 4 hts gX2_copyMoment_X2_place rfl rfl rfl (by decide +kernel) ⟨Nat.le_of_ble_eq_true rfl, Nat.le_of_ble_eq_true rfl⟩) (wt_PVM (C := RX2) (T := TX2) (N := 5) (ci := 2) (q0 := 0) hK hP hN hD rfl rfl [0, 1, 2, 3, 4] rfl rfl) rfl rfl hl.1 rfl (lv_room (Nat.le_of_ble_eq_true rfl)) dX2_copyMoment_25 ⟨Nat.zero_le _, Nat.zero_le _⟩) hP hD hS hA [0, 1, 2, 3, 4] [] rfl rfl rfl rfl (by decide) rfl [0, 1, 2, 3, 4] rfl rfl rfl (fun H locs hP hD hS hz9 => ?_)
    refine W.eq (g2 := F0 m 28 ls []) rfl ?_
    refine lv_iinc (v := nI (i + 1)) (lv' := [(3, .int (nI (i + 1))), (0, .ref hu), (1, .int (nI fr)), (2, .int (nI to))]) hx hb dX2_copyMoment_28 hl (k := 0) rfl (nI_1 i) (by decide) rfl (fun ls hl => ?_)
    refine lv_goto (tgt := 2) hx hb dX2_copyMoment_31 (by decide) ?_
    have e6 : (wt_plT ((wt_fold (wt_cps fr to) i (ft, ff)).1) to i (((wt_fold (wt_cps fr to) i (ft, ff)).1) (fr * 12 + i)) (((wt_fold (wt_cps fr to) i (ft, ff)).2) (fr * 12 + i))) = (wt_fold (wt_cps fr to) (i + 1) (ft, ff)).1 := (by simp only [wt_fold_s, wt_cps, wt_pl])
    have hP : va_P (dC, dI) vwCl [(hu, .inr (2, [.ref sd, .ref tw, .ref st, .ref od, .int (nI cn)])), (sd, .inl (cI, 12, .inl fs)), (tw, .inl (cI, 264, .inl ((wt_fold (wt_cps fr to) (i + 1) (ft, ff)).1))), (st, .inl (cI, 264, .inl (wt_plF ((wt_fold (wt_cps fr to) i (ft, ff)).2) to i (((wt_fold (wt_cps fr to) i (ft, ff)).2) (fr * 12 + i))))), (od, .inl (cI, 264, .inl fo))] H := Eq.mp (congrArg (fun z9 : Nat → Int32 => va_P (dC, dI) vwCl [(hu, .inr (2, [.ref sd, .ref tw, .ref st, .ref od, .int (nI cn)])), (sd, .inl (cI, 12, .inl fs)), (tw, .inl (cI, 264, .inl z9)), (st, .inl (cI, 264, .inl (wt_plF ((wt_fold (wt_cps fr to) i (ft, ff)).2) to i (((wt_fold (wt_cps fr to) i (ft, ff)).2) (fr * 12 + i))))), (od, .inl (cI, 264, .inl fo))] H) e6) hP
    have e7 : (wt_plF ((wt_fold (wt_cps fr to) i (ft, ff)).2) to i (((wt_fold (wt_cps fr to) i (ft, ff)).2) (fr * 12 + i))) = (wt_fold (wt_cps fr to) (i + 1) (ft, ff)).2 := (by simp only [wt_fold_s, wt_cps, wt_pl])
    have hP : va_P (dC, dI) vwCl [(hu, .inr (2, [.ref sd, .ref tw, .ref st, .ref od, .int (nI cn)])), (sd, .inl (cI, 12, .inl fs)), (tw, .inl (cI, 264, .inl ((wt_fold (wt_cps fr to) (i + 1) (ft, ff)).1))), (st, .inl (cI, 264, .inl ((wt_fold (wt_cps fr to) (i + 1) (ft, ff)).2))), (od, .inl (cI, 264, .inl fo))] H := Eq.mp (congrArg (fun z9 : Nat → Int32 => va_P (dC, dI) vwCl [(hu, .inr (2, [.ref sd, .ref tw, .ref st, .ref od, .int (nI cn)])), (sd, .inl (cI, 12, .inl fs)), (tw, .inl (cI, 264, .inl ((wt_fold (wt_cps fr to) (i + 1) (ft, ff)).1))), (st, .inl (cI, 264, .inl z9)), (od, .inl (cI, 264, .inl fo))] H) e7) hP
    have hD : va_D A [(hu, .inr (2, [.ref sd, .ref tw, .ref st, .ref od, .int (nI cn)])), (sd, .inl (cI, 12, .inl fs)), (tw, .inl (cI, 264, .inl ((wt_fold (wt_cps fr to) (i + 1) (ft, ff)).1))), (st, .inl (cI, 264, .inl ((wt_fold (wt_cps fr to) (i + 1) (ft, ff)).2))), (od, .inl (cI, 264, .inl fo))] := wt_adr hD rfl
    exact ih_2 (i + 1) _ _ _ (by omega) ⟨(by omega), lv_sub hl [0, 1, 2, 3] rfl, hP, hD, hS⟩
set_option maxHeartbeats 4000000 in
set_option maxRecDepth 100000 in
theorem k_X2_differing (l : Launch) (dC : Nat → ClassId) (dI : Nat → Nat → Nat) (cI : ClassId) (hu : Nat) (sd : Nat) (tw : Nat) (st : Nat) (od : Nat) (fs : Nat → Int32) (ft : Nat → Int32) (ff : Nat → Int32) (fo : Nat → Int32) (cn : Nat) (k : Nat) (j : Nat) (hcn : cn ≤ 12) (hk : k < 22) (hj : j < 22) : Met l yX2_differing wsX2_differing ({ frames := 2, cells := 0, slots := 0, locals := 43 }) (va_Pc [.ref hu, .int (nI k), .int (nI j)] (wt_pre (dC, dI) cI [(hu, .inr (2, [.ref sd, .ref tw, .ref st, .ref od, .int (nI cn)])), (sd, .inl (cI, 12, .inl fs)), (tw, .inl (cI, 264, .inl ft)), (st, .inl (cI, 264, .inl ff)), (od, .inl (cI, 264, .inl fo))])) (wt_ro (nI (wt_fold (wt_dfs ft ff k j) cn 0))) 0 0 wt_no := by
  refine Met.ofW (cc := cX2_differing) (maxL := 5) (ret := (some .int)) (by decide) rfl ?_
  intro p e s m args below meth c s₁ B hml hv
  obtain ⟨rfl, hP, hK, hN⟩ := hv
  have hx := B.exec
  have hb := B.bytes
  have hr := B.returns
  have hts := atoms_spec (ws := wsX2_differing) B.pre
  have hown : s.vm.findClass RX2 = some m.cls := findClass_of_methodNamed B.named
  have hlocks := B.notSynchronized
  have inX2 : ∀ w ∈ wsX20, w ∈ wsX2_differing := wt_in [19, 20, 21, 22, 23] (by decide +kernel)
  have hl := lv_entry ([.ref hu, .int (nI k), .int (nI j)]) (n := 5) (Nat.le_of_ble_eq_true rfl)
  rw [lg_entry_eq]
  generalize (lg_sl ([.ref hu, .int (nI k), .int (nI j)]) ++ List.replicate (5 - (lg_sl ([.ref hu, .int (nI k), .int (nI j)])).length) Slot.unset).toArray = ls at hl ⊢
  have hl : lv_has ls 5 [(0, .ref hu), (1, .int (nI k)), (2, .int (nI j))] := hl
  refine lv_iconst (v := nI 0) hx hb dX2_differing_0 (by decide +kernel) ?_
  refine lv_istore_n (lv' := [(3, .int (nI 0)), (0, .ref hu), (1, .int (nI k)), (2, .int (nI j))]) hx hb dX2_differing_1 rfl hl (by decide) rfl (fun ls hl => ?_)
  refine lv_iconst (v := nI 0) hx hb dX2_differing_2 (by decide +kernel) ?_
  refine lv_istore (lv' := [(4, .int (nI 0)), (3, .int (nI 0)), (0, .ref hu), (1, .int (nI k)), (2, .int (nI j))]) hx hb dX2_differing_3 hl (by decide) rfl (fun ls hl => ?_)
  have e1 : nI 0 = nI (wt_fold (wt_dfs ft ff k j) 0 0) := rfl
  refine wt_lp (σ := Nat) 0 (fun i => cn - i) (fun i ls => (i ≤ cn) ∧ ((wt_fold (wt_dfs ft ff k j) i 0) ≤ i) ∧ lv_has ls 5 [(4, .int (nI i)), (3, .int (nI (wt_fold (wt_dfs ft ff k j) i 0))), (0, .ref hu), (1, .int (nI k)), (2, .int (nI j))]) ⟨(by omega), (by omega), Eq.mp (congrArg (fun z9 : Int32 => lv_has ls 5 [(4, .int (nI 0)), (3, .int z9), (0, .ref hu), (1, .int (nI k)), (2, .int (nI j))]) e1) (lv_sub hl [0, 1, 2, 3, 4] rfl)⟩ (fun i ls h9 ih_5 => ?_)
  obtain ⟨h_5_0, h_5_1, hl⟩ := h9
  refine lv_iload hx hb dX2_differing_5 (lv_at hl 0 rfl) ?_
  refine lv_aload_n hx hb dX2_differing_7 rfl (lv_at hl 2 rfl) ?_
  refine va_get (D := (dC, dI)) (ci := 2) (v := .int (nI cn)) (C := RX2) (T := TX2) (N := 5) hx hb hts inX2 hown hK hP 0 rfl rfl 4 (by decide) (hts (.fieldLink RX2 24 "WarTable$Units" "count" "I") (List.mem_of_getElem? (i := 1) rfl)) (fun _ h9 => h9) rfl dX2_differing_8 ?_
  refine wt_icmp_ge (tgt := 57) hx hb (by omega) (by omega) dX2_differing_11 (by decide) (fun c_11_2 => ?_) (fun c_11_2 => ?_)
  · refine lv_iload_n hx hb dX2_differing_57 rfl (lv_at hl 1 rfl) ?_
    exact wt_ret hx hb hr (by rw [show i = cn by omega]) rfl dX2_differing_58 hlocks
  · refine lv_aload_n hx hb dX2_differing_14 rfl (lv_at hl 2 rfl) ?_
    refine lv_iload_n hx hb dX2_differing_15 rfl (lv_at hl 3 rfl) ?_
    refine lv_iload hx hb dX2_differing_16 (lv_at hl 0 rfl) ?_
    refine wt_ro_go (va_runV (As := [.int (nI k), .int (nI i)]) (rest := []) ⟨hx, hb, hml, hown, hts⟩ (k_X2_townAt l dC dI cI hu sd tw st od fs ft ff fo cn k i (by omega) (by omega)) (cwV 2 hts gX2_differing_X2_townAt rfl rfl rfl (by decide +kernel) ⟨Nat.le_of_ble_eq_true rfl, Nat.le_of_ble_eq_true rfl⟩) (wt_PV (C := RX2) (T := TX2) (N := 5) (ci := 2) (q0 := 0) hK hP hN rfl rfl [0, 1, 2, 3, 4] rfl) rfl rfl hl.1 rfl (lv_room (Nat.le_of_ble_eq_true rfl)) dX2_differing_18 ⟨Nat.zero_le _, Nat.zero_le _⟩) ?_
    refine lv_aload_n hx hb dX2_differing_21 rfl (lv_at hl 2 rfl) ?_
    refine lv_iload_n hx hb dX2_differing_22 rfl (lv_at hl 4 rfl) ?_
    refine lv_iload hx hb dX2_differing_23 (lv_at hl 0 rfl) ?_
    refine wt_ro_go (va_runV (As := [.int (nI j), .int (nI i)]) (rest := [.int (ft (k * 12 + i))]) ⟨hx, hb, hml, hown, hts⟩ (k_X2_townAt l dC dI cI hu sd tw st od fs ft ff fo cn j i (by omega) (by omega)) (cwV 2 hts gX2_differing_X2_townAt rfl rfl rfl (by decide +kernel) ⟨Nat.le_of_ble_eq_true rfl, Nat.le_of_ble_eq_true rfl⟩) (wt_PV (C := RX2) (T := TX2) (N := 5) (ci := 2) (q0 := 0) hK hP hN rfl rfl [0, 1, 2, 3, 4] rfl) rfl rfl hl.1 rfl (lv_room (Nat.le_of_ble_eq_true rfl)) dX2_differing_25 ⟨Nat.zero_le _, Nat.zero_le _⟩) ?_
    refine wt_icmp_neI (tgt := 48) hx hb dX2_differing_28 (by decide) (fun c_28_3 => ?_) (fun c_28_3 => ?_)
    · refine lv_iinc (v := nI ((wt_fold (wt_dfs ft ff k j) i 0) + 1)) (lv' := [(3, .int (nI ((wt_fold (wt_dfs ft ff k j) i 0) + 1))), (4, .int (nI i)), (0, .ref hu), (1, .int (nI k)), (2, .int (nI j))]) hx hb dX2_differing_48 hl (k := 1) rfl (nI_1 (wt_fold (wt_dfs ft ff k j) i 0)) (by decide) rfl (fun ls hl => ?_)
      refine lv_iinc (v := nI (i + 1)) (lv' := [(4, .int (nI (i + 1))), (3, .int (nI ((wt_fold (wt_dfs ft ff k j) i 0) + 1))), (0, .ref hu), (1, .int (nI k)), (2, .int (nI j))]) hx hb dX2_differing_51 hl (k := 1) rfl (nI_1 i) (by decide) rfl (fun ls hl => ?_)
      refine lv_goto (tgt := 5) hx hb dX2_differing_54 (by decide) ?_
      have e4 : nI ((wt_fold (wt_dfs ft ff k j) i 0) + 1) = nI (wt_fold (wt_dfs ft ff k j) (i + 1) 0) := (congrArg nI (by simp only [wt_fold_s, wt_dfs, wt_if_f c_28_3]))
      exact ih_5 (i + 1) _ (by omega) ⟨(by omega), (by simp only [wt_fold_s, wt_dfs, wt_if_f c_28_3]; omega), Eq.mp (congrArg (fun z9 : Int32 => lv_has ls 5 [(4, .int (nI (i + 1))), (3, .int z9), (0, .ref hu), (1, .int (nI k)), (2, .int (nI j))]) e4) (lv_sub hl [0, 1, 2, 3, 4] rfl)⟩
    · refine lv_aload_n hx hb dX2_differing_31 rfl (lv_at hl 2 rfl) ?_
      refine lv_iload_n hx hb dX2_differing_32 rfl (lv_at hl 3 rfl) ?_
      refine lv_iload hx hb dX2_differing_33 (lv_at hl 0 rfl) ?_
      refine wt_ro_go (va_runV (As := [.int (nI k), .int (nI i)]) (rest := []) ⟨hx, hb, hml, hown, hts⟩ (k_X2_strengthAt l dC dI cI hu sd tw st od fs ft ff fo cn k i (by omega) (by omega)) (cwV 2 hts gX2_differing_X2_strengthAt rfl rfl rfl (by decide +kernel) ⟨Nat.le_of_ble_eq_true rfl, Nat.le_of_ble_eq_true rfl⟩) (wt_PV (C := RX2) (T := TX2) (N := 5) (ci := 2) (q0 := 0) hK hP hN rfl rfl [0, 1, 2, 3, 4] rfl) rfl rfl hl.1 rfl (lv_room (Nat.le_of_ble_eq_true rfl)) dX2_differing_35 ⟨Nat.zero_le _, Nat.zero_le _⟩) ?_
      refine lv_aload_n hx hb dX2_differing_38 rfl (lv_at hl 2 rfl) ?_
      refine lv_iload_n hx hb dX2_differing_39 rfl (lv_at hl 4 rfl) ?_
      refine lv_iload hx hb dX2_differing_40 (lv_at hl 0 rfl) ?_
      refine wt_ro_go (va_runV (As := [.int (nI j), .int (nI i)]) (rest := [.int (ff (k * 12 + i))]) ⟨hx, hb, hml, hown, hts⟩ (k_X2_strengthAt l dC dI cI hu sd tw st od fs ft ff fo cn j i (by omega) (by omega)) (cwV 2 hts gX2_differing_X2_strengthAt rfl rfl rfl (by decide +kernel) ⟨Nat.le_of_ble_eq_true rfl, Nat.le_of_ble_eq_true rfl⟩) (wt_PV (C := RX2) (T := TX2) (N := 5) (ci := 2) (q0 := 0) hK hP hN rfl rfl [0, 1, 2, 3, 4] rfl) rfl rfl hl.1 rfl (lv_room (Nat.le_of_ble_eq_true rfl)) dX2_differing_42 ⟨Nat.zero_le _, Nat.zero_le _⟩) ?_
      refine wt_icmp_eqI (tgt := 51) hx hb dX2_differing_45 (by decide) (fun c_45_5 => ?_) (fun c_45_5 => ?_)
      · refine lv_iinc (v := nI (i + 1)) (lv' := [(4, .int (nI (i + 1))), (3, .int (nI (wt_fold (wt_dfs ft ff k j) i 0))), (0, .ref hu), (1, .int (nI k)), (2, .int (nI j))]) hx hb dX2_differing_51 hl (k := 0) rfl (nI_1 i) (by decide) rfl (fun ls hl => ?_)
        refine lv_goto (tgt := 5) hx hb dX2_differing_54 (by decide) ?_
        have e6 : nI (wt_fold (wt_dfs ft ff k j) i 0) = nI (wt_fold (wt_dfs ft ff k j) (i + 1) 0) := (congrArg nI (by simp only [wt_fold_s, wt_dfs, wt_if_t c_28_3, wt_if_t c_45_5]))
        exact ih_5 (i + 1) _ (by omega) ⟨(by omega), (by simp only [wt_fold_s, wt_dfs, wt_if_t c_28_3, wt_if_t c_45_5]; omega), Eq.mp (congrArg (fun z9 : Int32 => lv_has ls 5 [(4, .int (nI (i + 1))), (3, .int z9), (0, .ref hu), (1, .int (nI k)), (2, .int (nI j))]) e6) (lv_sub hl [0, 1, 2, 3, 4] rfl)⟩
      · refine lv_iinc (v := nI ((wt_fold (wt_dfs ft ff k j) i 0) + 1)) (lv' := [(3, .int (nI ((wt_fold (wt_dfs ft ff k j) i 0) + 1))), (4, .int (nI i)), (0, .ref hu), (1, .int (nI k)), (2, .int (nI j))]) hx hb dX2_differing_48 hl (k := 1) rfl (nI_1 (wt_fold (wt_dfs ft ff k j) i 0)) (by decide) rfl (fun ls hl => ?_)
        refine lv_iinc (v := nI (i + 1)) (lv' := [(4, .int (nI (i + 1))), (3, .int (nI ((wt_fold (wt_dfs ft ff k j) i 0) + 1))), (0, .ref hu), (1, .int (nI k)), (2, .int (nI j))]) hx hb dX2_differing_51 hl (k := 1) rfl (nI_1 i) (by decide) rfl (fun ls hl => ?_)
        refine lv_goto (tgt := 5) hx hb dX2_differing_54 (by decide) ?_
        have e7 : nI ((wt_fold (wt_dfs ft ff k j) i 0) + 1) = nI (wt_fold (wt_dfs ft ff k j) (i + 1) 0) := (congrArg nI (by simp only [wt_fold_s, wt_dfs, wt_if_t c_28_3, wt_if_f c_45_5]))
        exact ih_5 (i + 1) _ (by omega) ⟨(by omega), (by simp only [wt_fold_s, wt_dfs, wt_if_t c_28_3, wt_if_f c_45_5]; omega), Eq.mp (congrArg (fun z9 : Int32 => lv_has ls 5 [(4, .int (nI (i + 1))), (3, .int z9), (0, .ref hu), (1, .int (nI k)), (2, .int (nI j))]) e7) (lv_sub hl [0, 1, 2, 3, 4] rfl)⟩
set_option maxHeartbeats 4000000 in
set_option maxRecDepth 100000 in
theorem k_X2_livingAt (l : Launch) (dC : Nat → ClassId) (dI : Nat → Nat → Nat) (cI : ClassId) (hu : Nat) (sd : Nat) (tw : Nat) (st : Nat) (od : Nat) (fs : Nat → Int32) (ft : Nat → Int32) (ff : Nat → Int32) (fo : Nat → Int32) (cn : Nat) (k : Nat) (hcn : cn ≤ 12) (hk : k < 22) : Met l yX2_livingAt wsX2_livingAt ({ frames := 2, cells := 0, slots := 0, locals := 43 }) (va_Pc [.ref hu, .int (nI k)] (wt_pre (dC, dI) cI [(hu, .inr (2, [.ref sd, .ref tw, .ref st, .ref od, .int (nI cn)])), (sd, .inl (cI, 12, .inl fs)), (tw, .inl (cI, 264, .inl ft)), (st, .inl (cI, 264, .inl ff)), (od, .inl (cI, 264, .inl fo))])) (wt_ro (nI (wt_fold (wt_lvs ft k) cn 0))) 0 0 wt_no := by
  refine Met.ofW (cc := cX2_livingAt) (maxL := 4) (ret := (some .int)) (by decide) rfl ?_
  intro p e s m args below meth c s₁ B hml hv
  obtain ⟨rfl, hP, hK, hN⟩ := hv
  have hx := B.exec
  have hb := B.bytes
  have hr := B.returns
  have hts := atoms_spec (ws := wsX2_livingAt) B.pre
  have hown : s.vm.findClass RX2 = some m.cls := findClass_of_methodNamed B.named
  have hlocks := B.notSynchronized
  have inX2 : ∀ w ∈ wsX20, w ∈ wsX2_livingAt := wt_in [14, 15, 16, 17, 18] (by decide +kernel)
  have hl := lv_entry ([.ref hu, .int (nI k)]) (n := 4) (Nat.le_of_ble_eq_true rfl)
  rw [lg_entry_eq]
  generalize (lg_sl ([.ref hu, .int (nI k)]) ++ List.replicate (4 - (lg_sl ([.ref hu, .int (nI k)])).length) Slot.unset).toArray = ls at hl ⊢
  have hl : lv_has ls 4 [(0, .ref hu), (1, .int (nI k))] := hl
  refine lv_iconst (v := nI 0) hx hb dX2_livingAt_0 (by decide +kernel) ?_
  refine lv_istore_n (lv' := [(2, .int (nI 0)), (0, .ref hu), (1, .int (nI k))]) hx hb dX2_livingAt_1 rfl hl (by decide) rfl (fun ls hl => ?_)
  refine lv_iconst (v := nI 0) hx hb dX2_livingAt_2 (by decide +kernel) ?_
  refine lv_istore_n (lv' := [(3, .int (nI 0)), (2, .int (nI 0)), (0, .ref hu), (1, .int (nI k))]) hx hb dX2_livingAt_3 rfl hl (by decide) rfl (fun ls hl => ?_)
  have e1 : nI 0 = nI (wt_fold (wt_lvs ft k) 0 0) := rfl
  refine wt_lp (σ := Nat) 0 (fun i => cn - i) (fun i ls => (i ≤ cn) ∧ lv_has ls 4 [(3, .int (nI i)), (2, .int (nI (wt_fold (wt_lvs ft k) i 0))), (0, .ref hu), (1, .int (nI k))]) ⟨(by omega), Eq.mp (congrArg (fun z9 : Int32 => lv_has ls 4 [(3, .int (nI 0)), (2, .int z9), (0, .ref hu), (1, .int (nI k))]) e1) (lv_sub hl [0, 1, 2, 3] rfl)⟩ (fun i ls h9 ih_4 => ?_)
  obtain ⟨h_4_0, hl⟩ := h9
  refine lv_iload_n hx hb dX2_livingAt_4 rfl (lv_at hl 0 rfl) ?_
  refine lv_aload_n hx hb dX2_livingAt_5 rfl (lv_at hl 2 rfl) ?_
  refine va_get (D := (dC, dI)) (ci := 2) (v := .int (nI cn)) (C := RX2) (T := TX2) (N := 5) hx hb hts inX2 hown hK hP 0 rfl rfl 4 (by decide) (hts (.fieldLink RX2 24 "WarTable$Units" "count" "I") (List.mem_of_getElem? (i := 1) rfl)) (fun _ h9 => h9) rfl dX2_livingAt_6 ?_
  refine wt_icmp_ge (tgt := 31) hx hb (by omega) (by omega) dX2_livingAt_9 (by decide) (fun c_9_2 => ?_) (fun c_9_2 => ?_)
  · refine lv_iload_n hx hb dX2_livingAt_31 rfl (lv_at hl 1 rfl) ?_
    exact wt_ret hx hb hr (by rw [show i = cn by omega]) rfl dX2_livingAt_32 hlocks
  · refine lv_aload_n hx hb dX2_livingAt_12 rfl (lv_at hl 2 rfl) ?_
    refine lv_iload_n hx hb dX2_livingAt_13 rfl (lv_at hl 3 rfl) ?_
    refine lv_iload_n hx hb dX2_livingAt_14 rfl (lv_at hl 0 rfl) ?_
    refine wt_ro_go (va_runV (As := [.int (nI k), .int (nI i)]) (rest := []) ⟨hx, hb, hml, hown, hts⟩ (k_X2_townAt l dC dI cI hu sd tw st od fs ft ff fo cn k i (by omega) (by omega)) (cwV 2 hts gX2_livingAt_X2_townAt rfl rfl rfl (by decide +kernel) ⟨Nat.le_of_ble_eq_true rfl, Nat.le_of_ble_eq_true rfl⟩) (wt_PV (C := RX2) (T := TX2) (N := 5) (ci := 2) (q0 := 0) hK hP hN rfl rfl [0, 1, 2, 3, 4] rfl) rfl rfl hl.1 rfl (lv_room (Nat.le_of_ble_eq_true rfl)) dX2_livingAt_15 ⟨Nat.zero_le _, Nat.zero_le _⟩) ?_
    refine lv_iconst (v := (-1)) hx hb dX2_livingAt_18 (by decide +kernel) ?_
    refine wt_icmp_eqI (tgt := 25) hx hb dX2_livingAt_19 (by decide) (fun c_19_3 => ?_) (fun c_19_3 => ?_)
    · refine lv_iinc (v := nI (i + 1)) (lv' := [(3, .int (nI (i + 1))), (2, .int (nI (wt_fold (wt_lvs ft k) i 0))), (0, .ref hu), (1, .int (nI k))]) hx hb dX2_livingAt_25 hl (k := 0) rfl (nI_1 i) (by decide) rfl (fun ls hl => ?_)
      refine lv_goto (tgt := 4) hx hb dX2_livingAt_28 (by decide) ?_
      have e4 : nI (wt_fold (wt_lvs ft k) i 0) = nI (wt_fold (wt_lvs ft k) (i + 1) 0) := (congrArg nI (by simp only [wt_fold_s, wt_lvs, wt_if_t c_19_3]))
      exact ih_4 (i + 1) _ (by omega) ⟨(by omega), Eq.mp (congrArg (fun z9 : Int32 => lv_has ls 4 [(3, .int (nI (i + 1))), (2, .int z9), (0, .ref hu), (1, .int (nI k))]) e4) (lv_sub hl [0, 1, 2, 3] rfl)⟩
    · refine lv_iinc (v := nI ((wt_fold (wt_lvs ft k) i 0) + 1)) (lv' := [(2, .int (nI ((wt_fold (wt_lvs ft k) i 0) + 1))), (3, .int (nI i)), (0, .ref hu), (1, .int (nI k))]) hx hb dX2_livingAt_22 hl (k := 1) rfl (nI_1 (wt_fold (wt_lvs ft k) i 0)) (by decide) rfl (fun ls hl => ?_)
      refine lv_iinc (v := nI (i + 1)) (lv' := [(3, .int (nI (i + 1))), (2, .int (nI ((wt_fold (wt_lvs ft k) i 0) + 1))), (0, .ref hu), (1, .int (nI k))]) hx hb dX2_livingAt_25 hl (k := 1) rfl (nI_1 i) (by decide) rfl (fun ls hl => ?_)
      refine lv_goto (tgt := 4) hx hb dX2_livingAt_28 (by decide) ?_
      have e5 : nI ((wt_fold (wt_lvs ft k) i 0) + 1) = nI (wt_fold (wt_lvs ft k) (i + 1) 0) := (congrArg nI (by simp only [wt_fold_s, wt_lvs, wt_if_f c_19_3]))
      exact ih_4 (i + 1) _ (by omega) ⟨(by omega), Eq.mp (congrArg (fun z9 : Int32 => lv_has ls 4 [(3, .int (nI (i + 1))), (2, .int z9), (0, .ref hu), (1, .int (nI k))]) e5) (lv_sub hl [0, 1, 2, 3] rfl)⟩
set_option maxHeartbeats 4000000 in
set_option maxRecDepth 100000 in
theorem k_X2_townsHeld (l : Launch) (dC : Nat → ClassId) (dI : Nat → Nat → Nat) (cI : ClassId) (hu : Nat) (sd : Nat) (tw : Nat) (st : Nat) (od : Nat) (fs : Nat → Int32) (ft : Nat → Int32) (ff : Nat → Int32) (fo : Nat → Int32) (cn : Nat) (k : Nat) (d : Nat) (hcn : cn ≤ 12) (hk : k < 22) : Met l yX2_townsHeld wsX2_townsHeld ({ frames := 2, cells := 0, slots := 0, locals := 43 }) (va_Pc [.ref hu, .int (nI k), .int (nI d)] (wt_pre (dC, dI) cI [(hu, .inr (2, [.ref sd, .ref tw, .ref st, .ref od, .int (nI cn)])), (sd, .inl (cI, 12, .inl fs)), (tw, .inl (cI, 264, .inl ft)), (st, .inl (cI, 264, .inl ff)), (od, .inl (cI, 264, .inl fo))])) (wt_ro (wt_held fs ft k d cn)) 0 0 wt_no := by
  refine Met.ofW (cc := cX2_townsHeld) (maxL := 6) (ret := (some .int)) (by decide) rfl ?_
  intro p e s m args below meth c s₁ B hml hv
  obtain ⟨rfl, hP, hK, hN⟩ := hv
  have hx := B.exec
  have hb := B.bytes
  have hr := B.returns
  have hts := atoms_spec (ws := wsX2_townsHeld) B.pre
  have hown : s.vm.findClass RX2 = some m.cls := findClass_of_methodNamed B.named
  have hlocks := B.notSynchronized
  have inX2 : ∀ w ∈ wsX20, w ∈ wsX2_townsHeld := wt_in [24, 25, 26, 27, 28] (by decide +kernel)
  have hl := lv_entry ([.ref hu, .int (nI k), .int (nI d)]) (n := 6) (Nat.le_of_ble_eq_true rfl)
  rw [lg_entry_eq]
  generalize (lg_sl ([.ref hu, .int (nI k), .int (nI d)]) ++ List.replicate (6 - (lg_sl ([.ref hu, .int (nI k), .int (nI d)])).length) Slot.unset).toArray = ls at hl ⊢
  have hl : lv_has ls 6 [(0, .ref hu), (1, .int (nI k)), (2, .int (nI d))] := hl
  refine lv_iconst (v := nI 0) hx hb dX2_townsHeld_0 (by decide +kernel) ?_
  refine lv_istore_n (lv' := [(3, .int (nI 0)), (0, .ref hu), (1, .int (nI k)), (2, .int (nI d))]) hx hb dX2_townsHeld_1 rfl hl (by decide) rfl (fun ls hl => ?_)
  refine lv_iconst (v := nI 0) hx hb dX2_townsHeld_2 (by decide +kernel) ?_
  refine lv_istore (lv' := [(4, .int (nI 0)), (3, .int (nI 0)), (0, .ref hu), (1, .int (nI k)), (2, .int (nI d))]) hx hb dX2_townsHeld_3 hl (by decide) rfl (fun ls hl => ?_)
  have e1 : nI 0 = (wt_fold (wt_hs fs ft k d) 0 (nI 0)) := rfl
  refine wt_lp (σ := Nat) 0 (fun i => cn - i) (fun i ls => (i ≤ cn) ∧ lv_has ls 6 [(4, .int (nI i)), (3, .int (wt_fold (wt_hs fs ft k d) i (nI 0))), (0, .ref hu), (1, .int (nI k)), (2, .int (nI d))]) ⟨(by omega), Eq.mp (congrArg (fun z9 : Int32 => lv_has ls 6 [(4, .int (nI 0)), (3, .int z9), (0, .ref hu), (1, .int (nI k)), (2, .int (nI d))]) e1) (lv_sub hl [0, 1, 2, 3, 4] rfl)⟩ (fun i ls h9 ih_5 => ?_)
  obtain ⟨h_5_0, hl⟩ := h9
  refine lv_iload hx hb dX2_townsHeld_5 (lv_at hl 0 rfl) ?_
  refine lv_aload_n hx hb dX2_townsHeld_7 rfl (lv_at hl 2 rfl) ?_
  refine va_get (D := (dC, dI)) (ci := 2) (v := .int (nI cn)) (C := RX2) (T := TX2) (N := 5) hx hb hts inX2 hown hK hP 0 rfl rfl 4 (by decide) (hts (.fieldLink RX2 24 "WarTable$Units" "count" "I") (List.mem_of_getElem? (i := 1) rfl)) (fun _ h9 => h9) rfl dX2_townsHeld_8 ?_
  refine wt_icmp_ge (tgt := 53) hx hb (by omega) (by omega) dX2_townsHeld_11 (by decide) (fun c_11_2 => ?_) (fun c_11_2 => ?_)
  · refine lv_iload_n hx hb dX2_townsHeld_53 rfl (lv_at hl 1 rfl) ?_
    exact wt_ret hx hb hr (by rw [show i = cn by omega]; rfl) rfl dX2_townsHeld_54 hlocks
  · refine lv_aload_n hx hb dX2_townsHeld_14 rfl (lv_at hl 2 rfl) ?_
    refine lv_iload_n hx hb dX2_townsHeld_15 rfl (lv_at hl 3 rfl) ?_
    refine lv_iload hx hb dX2_townsHeld_16 (lv_at hl 0 rfl) ?_
    refine wt_ro_go (va_runV (As := [.int (nI k), .int (nI i)]) (rest := []) ⟨hx, hb, hml, hown, hts⟩ (k_X2_townAt l dC dI cI hu sd tw st od fs ft ff fo cn k i (by omega) (by omega)) (cwV 2 hts gX2_townsHeld_X2_townAt rfl rfl rfl (by decide +kernel) ⟨Nat.le_of_ble_eq_true rfl, Nat.le_of_ble_eq_true rfl⟩) (wt_PV (C := RX2) (T := TX2) (N := 5) (ci := 2) (q0 := 0) hK hP hN rfl rfl [0, 1, 2, 3, 4] rfl) rfl rfl hl.1 rfl (lv_room (Nat.le_of_ble_eq_true rfl)) dX2_townsHeld_18 ⟨Nat.zero_le _, Nat.zero_le _⟩) ?_
    refine lv_istore (lv' := [(5, .int (ft (k * 12 + i))), (4, .int (nI i)), (3, .int (wt_fold (wt_hs fs ft k d) i (nI 0))), (0, .ref hu), (1, .int (nI k)), (2, .int (nI d))]) hx hb dX2_townsHeld_21 hl (by decide) rfl (fun ls hl => ?_)
    refine lv_aload_n hx hb dX2_townsHeld_23 rfl (lv_at hl 3 rfl) ?_
    refine lv_iload hx hb dX2_townsHeld_24 (lv_at hl 1 rfl) ?_
    refine wt_ro_go (va_runV (As := [.int (nI i)]) (rest := []) ⟨hx, hb, hml, hown, hts⟩ (k_X2_sideOf l dC dI cI hu sd tw st od fs ft ff fo cn i (by omega)) (cwV 1 hts gX2_townsHeld_X2_sideOf rfl rfl rfl (by decide +kernel) ⟨Nat.le_of_ble_eq_true rfl, Nat.le_of_ble_eq_true rfl⟩) (wt_PV (C := RX2) (T := TX2) (N := 5) (ci := 2) (q0 := 0) hK hP hN rfl rfl [0, 1, 2, 3, 4] rfl) rfl rfl hl.1 rfl (lv_room (Nat.le_of_ble_eq_true rfl)) dX2_townsHeld_26 ⟨Nat.zero_le _, Nat.zero_le _⟩) ?_
    refine lv_iload_n hx hb dX2_townsHeld_29 rfl (lv_at hl 5 rfl) ?_
    refine wt_icmp_neI (tgt := 47) hx hb dX2_townsHeld_30 (by decide) (fun c_30_3 => ?_) (fun c_30_3 => ?_)
    · refine lv_iinc (v := nI (i + 1)) (lv' := [(4, .int (nI (i + 1))), (5, .int (ft (k * 12 + i))), (3, .int (wt_fold (wt_hs fs ft k d) i (nI 0))), (0, .ref hu), (1, .int (nI k)), (2, .int (nI d))]) hx hb dX2_townsHeld_47 hl (k := 1) rfl (nI_1 i) (by decide) rfl (fun ls hl => ?_)
      refine lv_goto (tgt := 5) hx hb dX2_townsHeld_50 (by decide) ?_
      have e4 : (wt_fold (wt_hs fs ft k d) i (nI 0)) = (wt_fold (wt_hs fs ft k d) (i + 1) (nI 0)) := (by simp only [wt_fold_s, wt_hs, wt_if_f c_30_3])
      exact ih_5 (i + 1) _ (by omega) ⟨(by omega), Eq.mp (congrArg (fun z9 : Int32 => lv_has ls 6 [(4, .int (nI (i + 1))), (3, .int z9), (0, .ref hu), (1, .int (nI k)), (2, .int (nI d))]) e4) (lv_sub hl [0, 2, 3, 4, 5] rfl)⟩
    · refine lv_iload hx hb dX2_townsHeld_33 (lv_at hl 0 rfl) ?_
      refine lv_iconst (v := (-1)) hx hb dX2_townsHeld_35 (by decide +kernel) ?_
      refine wt_icmp_eqI (tgt := 47) hx hb dX2_townsHeld_36 (by decide) (fun c_36_5 => ?_) (fun c_36_5 => ?_)
      · refine lv_iinc (v := nI (i + 1)) (lv' := [(4, .int (nI (i + 1))), (5, .int (ft (k * 12 + i))), (3, .int (wt_fold (wt_hs fs ft k d) i (nI 0))), (0, .ref hu), (1, .int (nI k)), (2, .int (nI d))]) hx hb dX2_townsHeld_47 hl (k := 1) rfl (nI_1 i) (by decide) rfl (fun ls hl => ?_)
        refine lv_goto (tgt := 5) hx hb dX2_townsHeld_50 (by decide) ?_
        have e6 : (wt_fold (wt_hs fs ft k d) i (nI 0)) = (wt_fold (wt_hs fs ft k d) (i + 1) (nI 0)) := (by simp only [wt_fold_s, wt_hs, wt_if_t c_30_3, wt_if_t c_36_5])
        exact ih_5 (i + 1) _ (by omega) ⟨(by omega), Eq.mp (congrArg (fun z9 : Int32 => lv_has ls 6 [(4, .int (nI (i + 1))), (3, .int z9), (0, .ref hu), (1, .int (nI k)), (2, .int (nI d))]) e6) (lv_sub hl [0, 2, 3, 4, 5] rfl)⟩
      · refine lv_iload_n hx hb dX2_townsHeld_39 rfl (lv_at hl 2 rfl) ?_
        refine lv_iload hx hb dX2_townsHeld_40 (lv_at hl 0 rfl) ?_
        refine wt_ro_go (va_runSN (As := [.int (ft (k * 12 + i))]) (rest := [.int (wt_fold (wt_hs fs ft k d) i (nI 0))]) ⟨hx, hb, hml, hown, hts⟩ (k_X3_bit l (ft (k * 12 + i))) ⟨va_cnB (host := RX3) 1 hts gX2_townsHeld_X3_bit_n58 rfl rfl rfl (hN _ (List.mem_of_getElem? (i := 8) rfl)) (hts (.initialized RX3) (List.mem_of_getElem? (i := 20) rfl)) (by decide +kernel) ⟨Nat.le_of_ble_eq_true rfl, Nat.le_of_ble_eq_true rfl⟩, (hts (.static yX3_bit) (List.mem_of_getElem? (i := 22) rfl)), trivial⟩ wt_PS rfl rfl hl.1 rfl (lv_room (Nat.le_of_ble_eq_true rfl)) dX2_townsHeld_42 ⟨Nat.zero_le _, Nat.zero_le _⟩) ?_
        refine lv_ior hx hb dX2_townsHeld_45 ?_
        refine lv_istore_n (lv' := [(3, .int ((wt_fold (wt_hs fs ft k d) i (nI 0)) ||| (wt_bit (ft (k * 12 + i))))), (5, .int (ft (k * 12 + i))), (4, .int (nI i)), (0, .ref hu), (1, .int (nI k)), (2, .int (nI d))]) hx hb dX2_townsHeld_46 rfl hl (by decide) rfl (fun ls hl => ?_)
        refine lv_iinc (v := nI (i + 1)) (lv' := [(4, .int (nI (i + 1))), (3, .int ((wt_fold (wt_hs fs ft k d) i (nI 0)) ||| (wt_bit (ft (k * 12 + i))))), (5, .int (ft (k * 12 + i))), (0, .ref hu), (1, .int (nI k)), (2, .int (nI d))]) hx hb dX2_townsHeld_47 hl (k := 2) rfl (nI_1 i) (by decide) rfl (fun ls hl => ?_)
        refine lv_goto (tgt := 5) hx hb dX2_townsHeld_50 (by decide) ?_
        have e7 : ((wt_fold (wt_hs fs ft k d) i (nI 0)) ||| (wt_bit (ft (k * 12 + i)))) = (wt_fold (wt_hs fs ft k d) (i + 1) (nI 0)) := (by simp only [wt_fold_s, wt_hs, wt_if_t c_30_3, wt_if_f c_36_5])
        exact ih_5 (i + 1) _ (by omega) ⟨(by omega), Eq.mp (congrArg (fun z9 : Int32 => lv_has ls 6 [(4, .int (nI (i + 1))), (3, .int z9), (0, .ref hu), (1, .int (nI k)), (2, .int (nI d))]) e7) (lv_sub hl [0, 1, 3, 4, 5] rfl)⟩
end
section
set_option maxHeartbeats 4000000 in
set_option maxRecDepth 100000 in
theorem k_X0_roads (l : Launch) (dC : Nat → ClassId) (dI : Nat → Nat → Nat) (cI : ClassId) (hm : Nat) (pv : Nat) (up : Nat) (fp : Nat → Int32) (fu : Nat → Int32) (nr : Nat) : Met l yX0_roads wsX0_roads ({ frames := 0, cells := 0, slots := 0, locals := 0 }) (va_Pc [.ref hm] (wt_pre (dC, dI) cI [(hm, .inr (0, [.ref pv, .ref up, .int (nI nr)])), (pv, .inl (cI, 10, .inl fp)), (up, .inl (cI, 10, .inl fu))])) (wt_ro (nI nr)) 0 0 wt_no := by
  refine Met.ofW (cc := cX0_roads) (maxL := 1) (ret := (some .int)) (by decide) rfl ?_
  intro p e s m args below meth c s₁ B hml hv
  obtain ⟨rfl, hP, hK, hN⟩ := hv
  have hx := B.exec
  have hb := B.bytes
  have hr := B.returns
  have hts := atoms_spec (ws := wsX0_roads) B.pre
  have hown : s.vm.findClass RX0 = some m.cls := findClass_of_methodNamed B.named
  have hlocks := B.notSynchronized
  have inX0 : ∀ w ∈ wsX00, w ∈ wsX0_roads := wt_in [2, 3, 4] (by decide +kernel)
  have hl := lv_entry ([.ref hm]) (n := 1) (Nat.le_of_ble_eq_true rfl)
  rw [lg_entry_eq]
  generalize (lg_sl ([.ref hm]) ++ List.replicate (1 - (lg_sl ([.ref hm])).length) Slot.unset).toArray = ls at hl ⊢
  have hl : lv_has ls 1 [(0, .ref hm)] := hl
  refine lv_aload_n hx hb dX0_roads_0 rfl (lv_at hl 0 rfl) ?_
  refine va_get (D := (dC, dI)) (ci := 0) (v := .int (nI nr)) (C := RX0) (T := TX0) (N := 3) hx hb hts inX0 hown hK hP 0 rfl rfl 2 (by decide) (hts (.fieldLink RX0 18 "WarTable$RoadMap" "roads" "I") (List.mem_of_getElem? (i := 1) rfl)) (fun _ h9 => h9) rfl dX0_roads_1 ?_
  exact wt_ret hx hb hr rfl rfl dX0_roads_4 hlocks
set_option maxHeartbeats 4000000 in
set_option maxRecDepth 100000 in
theorem k_X0_nextOverOpen (l : Launch) (dC : Nat → ClassId) (dI : Nat → Nat → Nat) (cI : ClassId) (hm : Nat) (pv : Nat) (up : Nat) (fp : Nat → Int32) (fu : Nat → Int32) (nr : Nat) (x : Int32) (w : Int32) : Met l yX0_nextOverOpen wsX0_nextOverOpen ({ frames := 1, cells := 0, slots := 0, locals := 21 }) (va_Pc [.ref hm, .int x, .int w] (wt_pre (dC, dI) cI [(hm, .inr (0, [.ref pv, .ref up, .int (nI nr)])), (pv, .inl (cI, 10, .inl fp)), (up, .inl (cI, 10, .inl fu))])) (wt_ro (wt_nxt fp fu x w)) 0 0 wt_no := by
  refine Met.ofW (cc := cX0_nextOverOpen) (maxL := 3) (ret := (some .int)) (by decide) rfl ?_
  intro p e s m args below meth c s₁ B hml hv
  obtain ⟨rfl, hP, hK, hN⟩ := hv
  have hx := B.exec
  have hb := B.bytes
  have hr := B.returns
  have hts := atoms_spec (ws := wsX0_nextOverOpen) B.pre
  have hown : s.vm.findClass RX0 = some m.cls := findClass_of_methodNamed B.named
  have hlocks := B.notSynchronized
  have inX0 : ∀ w ∈ wsX00, w ∈ wsX0_nextOverOpen := wt_in [6, 7, 8] (by decide +kernel)
  have hl := lv_entry ([.ref hm, .int x, .int w]) (n := 3) (Nat.le_of_ble_eq_true rfl)
  rw [lg_entry_eq]
  generalize (lg_sl ([.ref hm, .int x, .int w]) ++ List.replicate (3 - (lg_sl ([.ref hm, .int x, .int w])).length) Slot.unset).toArray = ls at hl ⊢
  have hl : lv_has ls 3 [(0, .ref hm), (1, .int x), (2, .int w)] := hl
  refine lv_iload_n hx hb dX0_nextOverOpen_0 rfl (lv_at hl 1 rfl) ?_
  refine lv_bipush (v := nI 10) hx hb dX0_nextOverOpen_1 (by decide +kernel) ?_
  refine wt_ro_go (va_runSN (As := [.int x, .int (nI 10)]) (rest := []) ⟨hx, hb, hml, hown, hts⟩ (k_X3_belowI l x 10 (by omega)) ⟨va_cnB (host := RX3) 2 hts gX0_nextOverOpen_X3_below_n30 rfl rfl rfl (hN _ (List.mem_of_getElem? (i := 4) rfl)) (hts (.initialized RX3) (List.mem_of_getElem? (i := 4) rfl)) (by decide +kernel) ⟨Nat.le_of_ble_eq_true rfl, Nat.le_of_ble_eq_true rfl⟩, (hts (.static yX3_below) (List.mem_of_getElem? (i := 3) rfl)), trivial⟩ wt_PS rfl rfl hl.1 rfl (lv_room (Nat.le_of_ble_eq_true rfl)) dX0_nextOverOpen_3 ⟨Nat.zero_le _, Nat.zero_le _⟩) ?_
  refine wt_if_eqB (tgt := 14) hx hb dX0_nextOverOpen_6 (by decide) (fun c_6_1 => ?_) (fun c_6_1 => ?_)
  · refine lv_iconst (v := nI 0) hx hb dX0_nextOverOpen_14 (by decide +kernel) ?_
    exact wt_ret hx hb hr (by simp only [wt_fold_s, wt_nxt, wt_if_f c_6_1]) rfl dX0_nextOverOpen_15 hlocks
  · refine lv_iload_n hx hb dX0_nextOverOpen_9 rfl (lv_at hl 2 rfl) ?_
    refine lv_iconst (v := nI 2) hx hb dX0_nextOverOpen_10 (by decide +kernel) ?_
    refine wt_icmp_neI (tgt := 16) hx hb dX0_nextOverOpen_11 (by decide) (fun c_11_2 => ?_) (fun c_11_2 => ?_)
    · refine lv_iload_n hx hb dX0_nextOverOpen_16 rfl (lv_at hl 2 rfl) ?_
      refine lv_iconst (v := nI 1) hx hb dX0_nextOverOpen_17 (by decide +kernel) ?_
      refine wt_icmp_neI (tgt := 30) hx hb dX0_nextOverOpen_18 (by decide) (fun c_18_3 => ?_) (fun c_18_3 => ?_)
      · refine lv_aload_n hx hb dX0_nextOverOpen_30 rfl (lv_at hl 0 rfl) ?_
        refine va_get (D := (dC, dI)) (ci := 0) (v := .ref pv) (C := RX0) (T := TX0) (N := 3) hx hb hts inX0 hown hK hP 0 rfl rfl 0 (by decide) (hts (.fieldLink RX0 9 "WarTable$RoadMap" "nextOverPaved" "[I") (List.mem_of_getElem? (i := 1) rfl)) (fun _ h9 => h9) rfl dX0_nextOverOpen_31 ?_
        refine lv_iload_n hx hb dX0_nextOverOpen_34 rfl (lv_at hl 1 rfl) ?_
        refine va_iald hx hb hK hP 1 0 rfl rfl c_6_1 dX0_nextOverOpen_35 ?_
        refine lv_aload_n hx hb dX0_nextOverOpen_36 rfl (lv_at hl 0 rfl) ?_
        refine va_get (D := (dC, dI)) (ci := 0) (v := .ref up) (C := RX0) (T := TX0) (N := 3) hx hb hts inX0 hown hK hP 0 rfl rfl 1 (by decide) (hts (.fieldLink RX0 15 "WarTable$RoadMap" "nextOverUnpaved" "[I") (List.mem_of_getElem? (i := 2) rfl)) (fun _ h9 => h9) rfl dX0_nextOverOpen_37 ?_
        refine lv_iload_n hx hb dX0_nextOverOpen_40 rfl (lv_at hl 1 rfl) ?_
        refine va_iald hx hb hK hP 2 0 rfl rfl c_6_1 dX0_nextOverOpen_41 ?_
        refine lv_ior hx hb dX0_nextOverOpen_42 ?_
        exact wt_ret hx hb hr (by simp only [wt_fold_s, wt_nxt, wt_if_t c_6_1, wt_if_f c_11_2, wt_if_f c_18_3]) rfl dX0_nextOverOpen_43 hlocks
      · refine lv_aload_n hx hb dX0_nextOverOpen_21 rfl (lv_at hl 0 rfl) ?_
        refine va_get (D := (dC, dI)) (ci := 0) (v := .ref pv) (C := RX0) (T := TX0) (N := 3) hx hb hts inX0 hown hK hP 0 rfl rfl 0 (by decide) (hts (.fieldLink RX0 9 "WarTable$RoadMap" "nextOverPaved" "[I") (List.mem_of_getElem? (i := 1) rfl)) (fun _ h9 => h9) rfl dX0_nextOverOpen_22 ?_
        refine lv_iload_n hx hb dX0_nextOverOpen_25 rfl (lv_at hl 1 rfl) ?_
        refine va_iald hx hb hK hP 1 0 rfl rfl c_6_1 dX0_nextOverOpen_26 ?_
        refine lv_goto (tgt := 43) hx hb dX0_nextOverOpen_27 (by decide) ?_
        exact wt_ret hx hb hr (by simp only [wt_fold_s, wt_nxt, wt_if_t c_6_1, wt_if_f c_11_2, wt_if_t c_18_3]) rfl dX0_nextOverOpen_43 hlocks
    · refine lv_iconst (v := nI 0) hx hb dX0_nextOverOpen_14 (by decide +kernel) ?_
      exact wt_ret hx hb hr (by simp only [wt_fold_s, wt_nxt, wt_if_t c_6_1, wt_if_t c_11_2]) rfl dX0_nextOverOpen_15 hlocks
set_option maxHeartbeats 4000000 in
set_option maxRecDepth 100000 in
theorem k_X0_joins (l : Launch) (dC : Nat → ClassId) (dI : Nat → Nat → Nat) (cI : ClassId) (hm : Nat) (pv : Nat) (up : Nat) (fp : Nat → Int32) (fu : Nat → Int32) (nr : Nat) (x : Int32) (y : Int32) : Met l yX0_joins wsX0_joins ({ frames := 2, cells := 0, slots := 0, locals := 43 }) (va_Pc [.ref hm, .int x, .int y] (wt_pre (dC, dI) cI [(hm, .inr (0, [.ref pv, .ref up, .int (nI nr)])), (pv, .inl (cI, 10, .inl fp)), (up, .inl (cI, 10, .inl fu))])) (wt_ro (wt_b (wt_has (wt_nxt fp fu x (nI 0)) y))) 0 0 wt_no := by
  refine Met.ofW (cc := cX0_joins) (maxL := 3) (ret := (some .boolean)) (by decide) rfl ?_
  intro p e s m args below meth c s₁ B hml hv
  obtain ⟨rfl, hP, hK, hN⟩ := hv
  have hx := B.exec
  have hb := B.bytes
  have hr := B.returns
  have hts := atoms_spec (ws := wsX0_joins) B.pre
  have hown : s.vm.findClass RX0 = some m.cls := findClass_of_methodNamed B.named
  have hlocks := B.notSynchronized
  have inX0 : ∀ w ∈ wsX00, w ∈ wsX0_joins := wt_in [16, 17, 18] (by decide +kernel)
  have hl := lv_entry ([.ref hm, .int x, .int y]) (n := 3) (Nat.le_of_ble_eq_true rfl)
  rw [lg_entry_eq]
  generalize (lg_sl ([.ref hm, .int x, .int y]) ++ List.replicate (3 - (lg_sl ([.ref hm, .int x, .int y])).length) Slot.unset).toArray = ls at hl ⊢
  have hl : lv_has ls 3 [(0, .ref hm), (1, .int x), (2, .int y)] := hl
  refine lv_aload_n hx hb dX0_joins_0 rfl (lv_at hl 0 rfl) ?_
  refine lv_iload_n hx hb dX0_joins_1 rfl (lv_at hl 1 rfl) ?_
  refine lv_iconst (v := nI 0) hx hb dX0_joins_2 (by decide +kernel) ?_
  refine wt_ro_go (va_runV (As := [.int x, .int (nI 0)]) (rest := []) ⟨hx, hb, hml, hown, hts⟩ (k_X0_nextOverOpen l dC dI cI hm pv up fp fu nr x (nI 0)) (cwV 2 hts gX0_joins_X0_nextOverOpen rfl rfl rfl (by decide +kernel) ⟨Nat.le_of_ble_eq_true rfl, Nat.le_of_ble_eq_true rfl⟩) (wt_PV (C := RX0) (T := TX0) (N := 3) (ci := 0) (q0 := 0) hK hP hN rfl rfl [0, 1, 2] rfl) rfl rfl hl.1 rfl (lv_room (Nat.le_of_ble_eq_true rfl)) dX0_joins_3 ⟨Nat.zero_le _, Nat.zero_le _⟩) ?_
  refine lv_iload_n hx hb dX0_joins_6 rfl (lv_at hl 2 rfl) ?_
  refine wt_ro_go (va_runSN (As := [.int (wt_nxt fp fu x (nI 0)), .int y]) (rest := []) ⟨hx, hb, hml, hown, hts⟩ (k_X3_has l (wt_nxt fp fu x (nI 0)) y) ⟨va_cnB (host := RX3) 2 hts gX0_joins_X3_has_n26 rfl rfl rfl (hN _ (List.mem_of_getElem? (i := 3) rfl)) (hts (.initialized RX3) (List.mem_of_getElem? (i := 9) rfl)) (by decide +kernel) ⟨Nat.le_of_ble_eq_true rfl, Nat.le_of_ble_eq_true rfl⟩, (hts (.static yX3_has) (List.mem_of_getElem? (i := 11) rfl)), trivial⟩ wt_PS rfl rfl hl.1 rfl (lv_room (Nat.le_of_ble_eq_true rfl)) dX0_joins_7 ⟨Nat.zero_le _, Nat.zero_le _⟩) ?_
  exact wt_retz hx hb hr rfl rfl dX0_joins_10 hlocks
set_option maxHeartbeats 4000000 in
set_option maxRecDepth 100000 in
theorem k_X0_join (l : Launch) (dC : Nat → ClassId) (dI : Nat → Nat → Nat) (cI : ClassId) (hm : Nat) (pv : Nat) (up : Nat) (fp : Nat → Int32) (fu : Nat → Int32) (nr : Nat) (a : Nat) (b : Nat) (z : Int32) (sz : Nat) (ha : a < 10) (hb2 : b < 10) : Met l yX0_join wsX0_join ({ frames := 1, cells := 0, slots := 0, locals := 21 }) (va_Pc [.ref hm, .int (nI a), .int (nI b), .int z] (wt_pm (dC, dI) cI [(hm, .inr (0, [.ref pv, .ref up, .int (nI nr)])), (pv, .inl (cI, 10, .inl fp)), (up, .inl (cI, 10, .inl fu))] sz)) (wt_mu none (dC, dI) [(hm, .inr (0, [.ref pv, .ref up, .int (nI (nr + 1))])), (pv, .inl (cI, 10, .inl (wt_if (z = 0) fp (wt_jn fp a b)))), (up, .inl (cI, 10, .inl (wt_if (z = 0) (wt_jn fu a b) fu)))] (va_A [(hm, .inr (0, [.ref pv, .ref up, .int (nI nr)])), (pv, .inl (cI, 10, .inl fp)), (up, .inl (cI, 10, .inl fu))] sz)) 0 0 (va_A [(hm, .inr (0, [.ref pv, .ref up, .int (nI nr)])), (pv, .inl (cI, 10, .inl fp)), (up, .inl (cI, 10, .inl fu))] sz) := by
  refine Met.ofW (cc := cX0_join) (maxL := 5) (ret := none) (by decide) rfl ?_
  intro p e s m args below meth c s₁ B hml hv
  obtain ⟨rfl, hsz, ⟨hP, hK, hN⟩, hD0⟩ := hv
  have hx := B.exec
  have hb := B.bytes
  have hr := B.returns
  have hts := atoms_spec (ws := wsX0_join) B.pre
  have hown : s.vm.findClass RX0 = some m.cls := findClass_of_methodNamed B.named
  have hlocks := B.notSynchronized
  subst hsz
  have hD := hD0.self (sz := s.heap.size)
  generalize hAe : va_A [(hm, .inr (0, [.ref pv, .ref up, .int (nI nr)])), (pv, .inl (cI, 10, .inl fp)), (up, .inl (cI, 10, .inl fu))] s.heap.size = A at hD ⊢
  have hA : ∀ q : Nat, s.heap.size ≤ q → A q := fun q h => by rw [← hAe]; exact Or.inr h
  have hS : va_S A s.heap s.heap [] := va_S.rf
  have inX0 : ∀ w ∈ wsX00, w ∈ wsX0_join := wt_in [9, 10, 11] (by decide +kernel)
  have hl := lv_entry ([.ref hm, .int (nI a), .int (nI b), .int z]) (n := 5) (Nat.le_of_ble_eq_true rfl)
  rw [lg_entry_eq]
  generalize (lg_sl ([.ref hm, .int (nI a), .int (nI b), .int z]) ++ List.replicate (5 - (lg_sl ([.ref hm, .int (nI a), .int (nI b), .int z])).length) Slot.unset).toArray = ls at hl ⊢
  have hl : lv_has ls 5 [(0, .ref hm), (1, .int (nI a)), (2, .int (nI b)), (3, .int z)] := hl
  refine lv_iload_n hx hb dX0_join_0 rfl (lv_at hl 1 rfl) ?_
  refine lv_bipush (v := nI 10) hx hb dX0_join_1 (by decide +kernel) ?_
  refine wt_ro_go (va_runSN (As := [.int (nI a), .int (nI 10)]) (rest := []) ⟨hx, hb, hml, hown, hts⟩ (k_X3_belowN l a 10 (by omega) (by omega)) ⟨va_cnB (host := RX3) 2 hts gX0_join_X3_below_n30 rfl rfl rfl (hN _ (List.mem_of_getElem? (i := 4) rfl)) (hts (.initialized RX3) (List.mem_of_getElem? (i := 5) rfl)) (by decide +kernel) ⟨Nat.le_of_ble_eq_true rfl, Nat.le_of_ble_eq_true rfl⟩, (hts (.static yX3_below) (List.mem_of_getElem? (i := 4) rfl)), trivial⟩ wt_PS rfl rfl hl.1 rfl (lv_room (Nat.le_of_ble_eq_true rfl)) dX0_join_3 ⟨Nat.zero_le _, Nat.zero_le _⟩) ?_
  refine wt_if_eqB (tgt := 18) hx hb dX0_join_6 (by decide) (fun c_6_1 => ?_) (fun c_6_1 => ?_)
  · exfalso; omega
  · refine lv_iload_n hx hb dX0_join_9 rfl (lv_at hl 2 rfl) ?_
    refine lv_bipush (v := nI 10) hx hb dX0_join_10 (by decide +kernel) ?_
    refine wt_ro_go (va_runSN (As := [.int (nI b), .int (nI 10)]) (rest := []) ⟨hx, hb, hml, hown, hts⟩ (k_X3_belowN l b 10 (by omega) (by omega)) ⟨va_cnB (host := RX3) 2 hts gX0_join_X3_below_n30 rfl rfl rfl (hN _ (List.mem_of_getElem? (i := 4) rfl)) (hts (.initialized RX3) (List.mem_of_getElem? (i := 5) rfl)) (by decide +kernel) ⟨Nat.le_of_ble_eq_true rfl, Nat.le_of_ble_eq_true rfl⟩, (hts (.static yX3_below) (List.mem_of_getElem? (i := 4) rfl)), trivial⟩ wt_PS rfl rfl hl.1 rfl (lv_room (Nat.le_of_ble_eq_true rfl)) dX0_join_12 ⟨Nat.zero_le _, Nat.zero_le _⟩) ?_
    refine wt_if_neB (tgt := 19) hx hb dX0_join_15 (by decide) (fun c_15_2 => ?_) (fun c_15_2 => ?_)
    · refine lv_iload_n hx hb dX0_join_19 rfl (lv_at hl 3 rfl) ?_
      refine wt_if_eqI (tgt := 30) hx hb dX0_join_20 (by decide) (fun c_20_3 => ?_) (fun c_20_3 => ?_)
      · refine lv_aload_n hx hb dX0_join_30 rfl (lv_at hl 0 rfl) ?_
        refine va_get (D := (dC, dI)) (ci := 0) (v := .ref up) (C := RX0) (T := TX0) (N := 3) hx hb hts inX0 hown hK hP 0 rfl rfl 1 (by decide) (hts (.fieldLink RX0 15 "WarTable$RoadMap" "nextOverUnpaved" "[I") (List.mem_of_getElem? (i := 2) rfl)) (fun _ h9 => h9) rfl dX0_join_31 ?_
        refine lv_astore (lv' := [(4, .ref up), (0, .ref hm), (1, .int (nI a)), (2, .int (nI b)), (3, .int z)]) hx hb dX0_join_34 hl (by decide) rfl (fun ls hl => ?_)
        refine lv_aload hx hb dX0_join_36 (lv_at hl 0 rfl) ?_
        refine lv_iload_n hx hb dX0_join_38 rfl (lv_at hl 2 rfl) ?_
        refine lv_dup2_11 hx hb dX0_join_39 rfl rfl ?_
        refine wt_iald hx hb hK hP 2 rfl (by omega) (by omega) dX0_join_40 ?_
        refine lv_iload_n hx hb dX0_join_41 rfl (lv_at hl 3 rfl) ?_
        refine wt_ro_go (va_runSN (As := [.int (nI b)]) (rest := [.int (fu a), .int (nI a), .ref up]) ⟨hx, hb, hml, hown, hts⟩ (k_X3_bit l (nI b)) ⟨va_cnB (host := RX3) 1 hts gX0_join_X3_bit_n33 rfl rfl rfl (hN _ (List.mem_of_getElem? (i := 5) rfl)) (hts (.initialized RX3) (List.mem_of_getElem? (i := 5) rfl)) (by decide +kernel) ⟨Nat.le_of_ble_eq_true rfl, Nat.le_of_ble_eq_true rfl⟩, (hts (.static yX3_bit) (List.mem_of_getElem? (i := 7) rfl)), trivial⟩ wt_PS rfl rfl hl.1 rfl (lv_room (Nat.le_of_ble_eq_true rfl)) dX0_join_42 ⟨Nat.zero_le _, Nat.zero_le _⟩) ?_
        refine lv_ior hx hb dX0_join_45 ?_
        refine wt_iast hx hb hK hP hD hS 2 rfl (by omega) (by omega) dX0_join_46 (fun H locs hP hD hS => ?_)
        have hP : va_P (dC, dI) vwCl [(hm, .inr (0, [.ref pv, .ref up, .int (nI nr)])), (pv, .inl (cI, 10, .inl fp)), (up, .inl (cI, 10, .inl (upd fu a ((fu a) ||| (wt_bit (nI b))))))] H := hP
        have hD : va_D A [(hm, .inr (0, [.ref pv, .ref up, .int (nI nr)])), (pv, .inl (cI, 10, .inl fp)), (up, .inl (cI, 10, .inl (upd fu a ((fu a) ||| (wt_bit (nI b))))))] := hD
        refine lv_aload hx hb dX0_join_47 (lv_at hl 0 rfl) ?_
        refine lv_iload_n hx hb dX0_join_49 rfl (lv_at hl 3 rfl) ?_
        refine lv_dup2_11 hx hb dX0_join_50 rfl rfl ?_
        refine wt_iald hx hb hK hP 2 rfl (by omega) (by omega) dX0_join_51 ?_
        refine lv_iload_n hx hb dX0_join_52 rfl (lv_at hl 2 rfl) ?_
        refine wt_ro_go (va_runSN (As := [.int (nI a)]) (rest := [.int ((upd fu a ((fu a) ||| (wt_bit (nI b)))) b), .int (nI b), .ref up]) ⟨hx, hb, hml, hown, hts⟩ (k_X3_bit l (nI a)) ⟨va_cnB (host := RX3) 1 hts gX0_join_X3_bit_n33 rfl rfl rfl (hN _ (List.mem_of_getElem? (i := 5) rfl)) (hts (.initialized RX3) (List.mem_of_getElem? (i := 5) rfl)) (by decide +kernel) ⟨Nat.le_of_ble_eq_true rfl, Nat.le_of_ble_eq_true rfl⟩, (hts (.static yX3_bit) (List.mem_of_getElem? (i := 7) rfl)), trivial⟩ wt_PS rfl rfl hl.1 rfl (lv_room (Nat.le_of_ble_eq_true rfl)) dX0_join_53 ⟨Nat.zero_le _, Nat.zero_le _⟩) ?_
        refine lv_ior hx hb dX0_join_56 ?_
        refine wt_iast hx hb hK hP hD hS 2 rfl (by omega) (by omega) dX0_join_57 (fun H locs hP hD hS => ?_)
        have hP : va_P (dC, dI) vwCl [(hm, .inr (0, [.ref pv, .ref up, .int (nI nr)])), (pv, .inl (cI, 10, .inl fp)), (up, .inl (cI, 10, .inl (upd (upd fu a ((fu a) ||| (wt_bit (nI b)))) b (((upd fu a ((fu a) ||| (wt_bit (nI b)))) b) ||| (wt_bit (nI a))))))] H := hP
        have hD : va_D A [(hm, .inr (0, [.ref pv, .ref up, .int (nI nr)])), (pv, .inl (cI, 10, .inl fp)), (up, .inl (cI, 10, .inl (upd (upd fu a ((fu a) ||| (wt_bit (nI b)))) b (((upd fu a ((fu a) ||| (wt_bit (nI b)))) b) ||| (wt_bit (nI a))))))] := hD
        refine lv_aload_n hx hb dX0_join_58 rfl (lv_at hl 1 rfl) ?_
        refine lv_dup hx hb dX0_join_59 rfl ?_
        refine va_get (D := (dC, dI)) (ci := 0) (v := .int (nI nr)) (C := RX0) (T := TX0) (N := 3) hx hb hts inX0 hown hK hP 0 rfl rfl 2 (by decide) (hts (.fieldLink RX0 18 "WarTable$RoadMap" "roads" "I") (List.mem_of_getElem? (i := 3) rfl)) (fun _ h9 => h9) rfl dX0_join_60 ?_
        refine lv_iconst (v := nI 1) hx hb dX0_join_63 (by decide +kernel) ?_
        refine wt_iadd hx hb dX0_join_64 ?_
        refine va_put (D := (dC, dI)) (ci := 0) (v := .int (nI (nr + 1))) (ty := .int) (C := RX0) (T := TX0) (N := 3) hx hb hts inX0 tyX0 tyX0_ok nmX0 hown hK hP hD hS 0 rfl rfl 2 (by decide) (hts (.fieldLink RX0 18 "WarTable$RoadMap" "roads" "I") (List.mem_of_getElem? (i := 3) rfl)) (fun _ h9 => h9) rfl (by decide +kernel) rfl rfl (Nat.le_of_ble_eq_true rfl) dX0_join_65 (fun H locs hP hD hS => ?_)
        have hP : va_P (dC, dI) vwCl [(hm, .inr (0, [.ref pv, .ref up, .int (nI (nr + 1))])), (pv, .inl (cI, 10, .inl fp)), (up, .inl (cI, 10, .inl (upd (upd fu a ((fu a) ||| (wt_bit (nI b)))) b (((upd fu a ((fu a) ||| (wt_bit (nI b)))) b) ||| (wt_bit (nI a))))))] H := hP
        have hD : va_D A [(hm, .inr (0, [.ref pv, .ref up, .int (nI (nr + 1))])), (pv, .inl (cI, 10, .inl fp)), (up, .inl (cI, 10, .inl (upd (upd fu a ((fu a) ||| (wt_bit (nI b)))) b (((upd fu a ((fu a) ||| (wt_bit (nI b)))) b) ||| (wt_bit (nI a))))))] := hD
        have e4 : fp = (wt_if (z = 0) fp (wt_jn fp a b)) := (by simp only [wt_fold_s, wt_jn, wt_if_t c_6_1, wt_if_t c_15_2, wt_if_t c_20_3])
        have hP : va_P (dC, dI) vwCl [(hm, .inr (0, [.ref pv, .ref up, .int (nI (nr + 1))])), (pv, .inl (cI, 10, .inl (wt_if (z = 0) fp (wt_jn fp a b)))), (up, .inl (cI, 10, .inl (upd (upd fu a ((fu a) ||| (wt_bit (nI b)))) b (((upd fu a ((fu a) ||| (wt_bit (nI b)))) b) ||| (wt_bit (nI a))))))] H := Eq.mp (congrArg (fun z9 : Nat → Int32 => va_P (dC, dI) vwCl [(hm, .inr (0, [.ref pv, .ref up, .int (nI (nr + 1))])), (pv, .inl (cI, 10, .inl z9)), (up, .inl (cI, 10, .inl (upd (upd fu a ((fu a) ||| (wt_bit (nI b)))) b (((upd fu a ((fu a) ||| (wt_bit (nI b)))) b) ||| (wt_bit (nI a))))))] H) e4) hP
        have e5 : (upd (upd fu a ((fu a) ||| (wt_bit (nI b)))) b (((upd fu a ((fu a) ||| (wt_bit (nI b)))) b) ||| (wt_bit (nI a)))) = (wt_if (z = 0) (wt_jn fu a b) fu) := (by simp only [wt_fold_s, wt_jn, wt_if_t c_6_1, wt_if_t c_15_2, wt_if_t c_20_3])
        have hP : va_P (dC, dI) vwCl [(hm, .inr (0, [.ref pv, .ref up, .int (nI (nr + 1))])), (pv, .inl (cI, 10, .inl (wt_if (z = 0) fp (wt_jn fp a b)))), (up, .inl (cI, 10, .inl (wt_if (z = 0) (wt_jn fu a b) fu)))] H := Eq.mp (congrArg (fun z9 : Nat → Int32 => va_P (dC, dI) vwCl [(hm, .inr (0, [.ref pv, .ref up, .int (nI (nr + 1))])), (pv, .inl (cI, 10, .inl (wt_if (z = 0) fp (wt_jn fp a b)))), (up, .inl (cI, 10, .inl z9))] H) e5) hP
        have hD : va_D A [(hm, .inr (0, [.ref pv, .ref up, .int (nI (nr + 1))])), (pv, .inl (cI, 10, .inl (wt_if (z = 0) fp (wt_jn fp a b)))), (up, .inl (cI, 10, .inl (wt_if (z = 0) (wt_jn fu a b) fu)))] := wt_adr hD rfl
        exact wt_mvret hx hb hr hP hS dX0_join_68 hlocks
      · refine lv_aload_n hx hb dX0_join_23 rfl (lv_at hl 0 rfl) ?_
        refine va_get (D := (dC, dI)) (ci := 0) (v := .ref pv) (C := RX0) (T := TX0) (N := 3) hx hb hts inX0 hown hK hP 0 rfl rfl 0 (by decide) (hts (.fieldLink RX0 9 "WarTable$RoadMap" "nextOverPaved" "[I") (List.mem_of_getElem? (i := 1) rfl)) (fun _ h9 => h9) rfl dX0_join_24 ?_
        refine lv_goto (tgt := 34) hx hb dX0_join_27 (by decide) ?_
        refine lv_astore (lv' := [(4, .ref pv), (0, .ref hm), (1, .int (nI a)), (2, .int (nI b)), (3, .int z)]) hx hb dX0_join_34 hl (by decide) rfl (fun ls hl => ?_)
        refine lv_aload hx hb dX0_join_36 (lv_at hl 0 rfl) ?_
        refine lv_iload_n hx hb dX0_join_38 rfl (lv_at hl 2 rfl) ?_
        refine lv_dup2_11 hx hb dX0_join_39 rfl rfl ?_
        refine wt_iald hx hb hK hP 1 rfl (by omega) (by omega) dX0_join_40 ?_
        refine lv_iload_n hx hb dX0_join_41 rfl (lv_at hl 3 rfl) ?_
        refine wt_ro_go (va_runSN (As := [.int (nI b)]) (rest := [.int (fp a), .int (nI a), .ref pv]) ⟨hx, hb, hml, hown, hts⟩ (k_X3_bit l (nI b)) ⟨va_cnB (host := RX3) 1 hts gX0_join_X3_bit_n33 rfl rfl rfl (hN _ (List.mem_of_getElem? (i := 5) rfl)) (hts (.initialized RX3) (List.mem_of_getElem? (i := 5) rfl)) (by decide +kernel) ⟨Nat.le_of_ble_eq_true rfl, Nat.le_of_ble_eq_true rfl⟩, (hts (.static yX3_bit) (List.mem_of_getElem? (i := 7) rfl)), trivial⟩ wt_PS rfl rfl hl.1 rfl (lv_room (Nat.le_of_ble_eq_true rfl)) dX0_join_42 ⟨Nat.zero_le _, Nat.zero_le _⟩) ?_
        refine lv_ior hx hb dX0_join_45 ?_
        refine wt_iast hx hb hK hP hD hS 1 rfl (by omega) (by omega) dX0_join_46 (fun H locs hP hD hS => ?_)
        have hP : va_P (dC, dI) vwCl [(hm, .inr (0, [.ref pv, .ref up, .int (nI nr)])), (pv, .inl (cI, 10, .inl (upd fp a ((fp a) ||| (wt_bit (nI b)))))), (up, .inl (cI, 10, .inl fu))] H := hP
        have hD : va_D A [(hm, .inr (0, [.ref pv, .ref up, .int (nI nr)])), (pv, .inl (cI, 10, .inl (upd fp a ((fp a) ||| (wt_bit (nI b)))))), (up, .inl (cI, 10, .inl fu))] := hD
        refine lv_aload hx hb dX0_join_47 (lv_at hl 0 rfl) ?_
        refine lv_iload_n hx hb dX0_join_49 rfl (lv_at hl 3 rfl) ?_
        refine lv_dup2_11 hx hb dX0_join_50 rfl rfl ?_
        refine wt_iald hx hb hK hP 1 rfl (by omega) (by omega) dX0_join_51 ?_
        refine lv_iload_n hx hb dX0_join_52 rfl (lv_at hl 2 rfl) ?_
        refine wt_ro_go (va_runSN (As := [.int (nI a)]) (rest := [.int ((upd fp a ((fp a) ||| (wt_bit (nI b)))) b), .int (nI b), .ref pv]) ⟨hx, hb, hml, hown, hts⟩ (k_X3_bit l (nI a)) ⟨va_cnB (host := RX3) 1 hts gX0_join_X3_bit_n33 rfl rfl rfl (hN _ (List.mem_of_getElem? (i := 5) rfl)) (hts (.initialized RX3) (List.mem_of_getElem? (i := 5) rfl)) (by decide +kernel) ⟨Nat.le_of_ble_eq_true rfl, Nat.le_of_ble_eq_true rfl⟩, (hts (.static yX3_bit) (List.mem_of_getElem? (i := 7) rfl)), trivial⟩ wt_PS rfl rfl hl.1 rfl (lv_room (Nat.le_of_ble_eq_true rfl)) dX0_join_53 ⟨Nat.zero_le _, Nat.zero_le _⟩) ?_
        refine lv_ior hx hb dX0_join_56 ?_
        refine wt_iast hx hb hK hP hD hS 1 rfl (by omega) (by omega) dX0_join_57 (fun H locs hP hD hS => ?_)
        have hP : va_P (dC, dI) vwCl [(hm, .inr (0, [.ref pv, .ref up, .int (nI nr)])), (pv, .inl (cI, 10, .inl (upd (upd fp a ((fp a) ||| (wt_bit (nI b)))) b (((upd fp a ((fp a) ||| (wt_bit (nI b)))) b) ||| (wt_bit (nI a)))))), (up, .inl (cI, 10, .inl fu))] H := hP
        have hD : va_D A [(hm, .inr (0, [.ref pv, .ref up, .int (nI nr)])), (pv, .inl (cI, 10, .inl (upd (upd fp a ((fp a) ||| (wt_bit (nI b)))) b (((upd fp a ((fp a) ||| (wt_bit (nI b)))) b) ||| (wt_bit (nI a)))))), (up, .inl (cI, 10, .inl fu))] := hD
        refine lv_aload_n hx hb dX0_join_58 rfl (lv_at hl 1 rfl) ?_
        refine lv_dup hx hb dX0_join_59 rfl ?_
        refine va_get (D := (dC, dI)) (ci := 0) (v := .int (nI nr)) (C := RX0) (T := TX0) (N := 3) hx hb hts inX0 hown hK hP 0 rfl rfl 2 (by decide) (hts (.fieldLink RX0 18 "WarTable$RoadMap" "roads" "I") (List.mem_of_getElem? (i := 3) rfl)) (fun _ h9 => h9) rfl dX0_join_60 ?_
        refine lv_iconst (v := nI 1) hx hb dX0_join_63 (by decide +kernel) ?_
        refine wt_iadd hx hb dX0_join_64 ?_
        refine va_put (D := (dC, dI)) (ci := 0) (v := .int (nI (nr + 1))) (ty := .int) (C := RX0) (T := TX0) (N := 3) hx hb hts inX0 tyX0 tyX0_ok nmX0 hown hK hP hD hS 0 rfl rfl 2 (by decide) (hts (.fieldLink RX0 18 "WarTable$RoadMap" "roads" "I") (List.mem_of_getElem? (i := 3) rfl)) (fun _ h9 => h9) rfl (by decide +kernel) rfl rfl (Nat.le_of_ble_eq_true rfl) dX0_join_65 (fun H locs hP hD hS => ?_)
        have hP : va_P (dC, dI) vwCl [(hm, .inr (0, [.ref pv, .ref up, .int (nI (nr + 1))])), (pv, .inl (cI, 10, .inl (upd (upd fp a ((fp a) ||| (wt_bit (nI b)))) b (((upd fp a ((fp a) ||| (wt_bit (nI b)))) b) ||| (wt_bit (nI a)))))), (up, .inl (cI, 10, .inl fu))] H := hP
        have hD : va_D A [(hm, .inr (0, [.ref pv, .ref up, .int (nI (nr + 1))])), (pv, .inl (cI, 10, .inl (upd (upd fp a ((fp a) ||| (wt_bit (nI b)))) b (((upd fp a ((fp a) ||| (wt_bit (nI b)))) b) ||| (wt_bit (nI a)))))), (up, .inl (cI, 10, .inl fu))] := hD
        have e6 : (upd (upd fp a ((fp a) ||| (wt_bit (nI b)))) b (((upd fp a ((fp a) ||| (wt_bit (nI b)))) b) ||| (wt_bit (nI a)))) = (wt_if (z = 0) fp (wt_jn fp a b)) := (by simp only [wt_fold_s, wt_jn, wt_if_t c_6_1, wt_if_t c_15_2, wt_if_f c_20_3])
        have hP : va_P (dC, dI) vwCl [(hm, .inr (0, [.ref pv, .ref up, .int (nI (nr + 1))])), (pv, .inl (cI, 10, .inl (wt_if (z = 0) fp (wt_jn fp a b)))), (up, .inl (cI, 10, .inl fu))] H := Eq.mp (congrArg (fun z9 : Nat → Int32 => va_P (dC, dI) vwCl [(hm, .inr (0, [.ref pv, .ref up, .int (nI (nr + 1))])), (pv, .inl (cI, 10, .inl z9)), (up, .inl (cI, 10, .inl fu))] H) e6) hP
        have e7 : fu = (wt_if (z = 0) (wt_jn fu a b) fu) := (by simp only [wt_fold_s, wt_jn, wt_if_t c_6_1, wt_if_t c_15_2, wt_if_f c_20_3])
        have hP : va_P (dC, dI) vwCl [(hm, .inr (0, [.ref pv, .ref up, .int (nI (nr + 1))])), (pv, .inl (cI, 10, .inl (wt_if (z = 0) fp (wt_jn fp a b)))), (up, .inl (cI, 10, .inl (wt_if (z = 0) (wt_jn fu a b) fu)))] H := Eq.mp (congrArg (fun z9 : Nat → Int32 => va_P (dC, dI) vwCl [(hm, .inr (0, [.ref pv, .ref up, .int (nI (nr + 1))])), (pv, .inl (cI, 10, .inl (wt_if (z = 0) fp (wt_jn fp a b)))), (up, .inl (cI, 10, .inl z9))] H) e7) hP
        have hD : va_D A [(hm, .inr (0, [.ref pv, .ref up, .int (nI (nr + 1))])), (pv, .inl (cI, 10, .inl (wt_if (z = 0) fp (wt_jn fp a b)))), (up, .inl (cI, 10, .inl (wt_if (z = 0) (wt_jn fu a b) fu)))] := wt_adr hD rfl
        exact wt_mvret hx hb hr hP hS dX0_join_68 hlocks
    · exfalso; omega
set_option maxHeartbeats 4000000 in
set_option maxRecDepth 100000 in
theorem k_X0_widened (l : Launch) (dC : Nat → ClassId) (dI : Nat → Nat → Nat) (cI : ClassId) (hm : Nat) (pv : Nat) (up : Nat) (fp : Nat → Int32) (fu : Nat → Int32) (nr : Nat) (x : Int32) (w : Int32) : Met l yX0_widened wsX0_widened ({ frames := 2, cells := 0, slots := 0, locals := 43 }) (va_Pc [.ref hm, .int x, .int w] (wt_pre (dC, dI) cI [(hm, .inr (0, [.ref pv, .ref up, .int (nI nr)])), (pv, .inl (cI, 10, .inl fp)), (up, .inl (cI, 10, .inl fu))])) (wt_ro (wt_wid fp fu x w)) 0 0 wt_no := by
  refine Met.ofW (cc := cX0_widened) (maxL := 5) (ret := (some .int)) (by decide) rfl ?_
  intro p e s m args below meth c s₁ B hml hv
  obtain ⟨rfl, hP, hK, hN⟩ := hv
  have hx := B.exec
  have hb := B.bytes
  have hr := B.returns
  have hts := atoms_spec (ws := wsX0_widened) B.pre
  have hown : s.vm.findClass RX0 = some m.cls := findClass_of_methodNamed B.named
  have hlocks := B.notSynchronized
  have inX0 : ∀ w ∈ wsX00, w ∈ wsX0_widened := wt_in [16, 17, 18] (by decide +kernel)
  have hl := lv_entry ([.ref hm, .int x, .int w]) (n := 5) (Nat.le_of_ble_eq_true rfl)
  rw [lg_entry_eq]
  generalize (lg_sl ([.ref hm, .int x, .int w]) ++ List.replicate (5 - (lg_sl ([.ref hm, .int x, .int w])).length) Slot.unset).toArray = ls at hl ⊢
  have hl : lv_has ls 5 [(0, .ref hm), (1, .int x), (2, .int w)] := hl
  refine lv_iload_n hx hb dX0_widened_0 rfl (lv_at hl 1 rfl) ?_
  refine lv_istore_n (lv' := [(3, .int x), (0, .ref hm), (1, .int x), (2, .int w)]) hx hb dX0_widened_1 rfl hl (by decide) rfl (fun ls hl => ?_)
  refine lv_iconst (v := nI 0) hx hb dX0_widened_2 (by decide +kernel) ?_
  refine lv_istore (lv' := [(4, .int (nI 0)), (3, .int x), (0, .ref hm), (1, .int x), (2, .int w)]) hx hb dX0_widened_3 hl (by decide) rfl (fun ls hl => ?_)
  have e1 : x = (wt_fold (wt_wds fp fu x w) 0 x) := rfl
  refine wt_lp (σ := Nat) 0 (fun i => 10 - i) (fun i ls => (i ≤ 10) ∧ lv_has ls 5 [(4, .int (nI i)), (3, .int (wt_fold (wt_wds fp fu x w) i x)), (0, .ref hm), (1, .int x), (2, .int w)]) ⟨(by omega), Eq.mp (congrArg (fun z9 : Int32 => lv_has ls 5 [(4, .int (nI 0)), (3, .int z9), (0, .ref hm), (1, .int x), (2, .int w)]) e1) (lv_sub hl [0, 1, 2, 3, 4] rfl)⟩ (fun i ls h9 ih_5 => ?_)
  obtain ⟨h_5_0, hl⟩ := h9
  refine lv_iload hx hb dX0_widened_5 (lv_at hl 0 rfl) ?_
  refine lv_bipush (v := nI 10) hx hb dX0_widened_7 (by decide +kernel) ?_
  refine wt_icmp_ge (tgt := 37) hx hb (by omega) (by omega) dX0_widened_9 (by decide) (fun c_9_2 => ?_) (fun c_9_2 => ?_)
  · refine lv_iload_n hx hb dX0_widened_37 rfl (lv_at hl 1 rfl) ?_
    exact wt_ret hx hb hr (by rw [show i = 10 by omega]; rfl) rfl dX0_widened_38 hlocks
  · refine lv_iload_n hx hb dX0_widened_12 rfl (lv_at hl 3 rfl) ?_
    refine lv_iload hx hb dX0_widened_13 (lv_at hl 0 rfl) ?_
    refine wt_ro_go (va_runSN (As := [.int x, .int (nI i)]) (rest := []) ⟨hx, hb, hml, hown, hts⟩ (k_X3_has l x (nI i)) ⟨va_cnB (host := RX3) 2 hts gX0_widened_X3_has_n26 rfl rfl rfl (hN _ (List.mem_of_getElem? (i := 3) rfl)) (hts (.initialized RX3) (List.mem_of_getElem? (i := 2) rfl)) (by decide +kernel) ⟨Nat.le_of_ble_eq_true rfl, Nat.le_of_ble_eq_true rfl⟩, (hts (.static yX3_has) (List.mem_of_getElem? (i := 1) rfl)), trivial⟩ wt_PS rfl rfl hl.1 rfl (lv_room (Nat.le_of_ble_eq_true rfl)) dX0_widened_15 ⟨Nat.zero_le _, Nat.zero_le _⟩) ?_
    refine wt_if_eqB (tgt := 31) hx hb dX0_widened_18 (by decide) (fun c_18_3 => ?_) (fun c_18_3 => ?_)
    · refine lv_iinc (v := nI (i + 1)) (lv' := [(4, .int (nI (i + 1))), (3, .int (wt_fold (wt_wds fp fu x w) i x)), (0, .ref hm), (1, .int x), (2, .int w)]) hx hb dX0_widened_31 hl (k := 0) rfl (nI_1 i) (by decide) rfl (fun ls hl => ?_)
      refine lv_goto (tgt := 5) hx hb dX0_widened_34 (by decide) ?_
      have e4 : (wt_fold (wt_wds fp fu x w) i x) = (wt_fold (wt_wds fp fu x w) (i + 1) x) := (by simp only [wt_fold_s, wt_wds, wt_if_f c_18_3])
      exact ih_5 (i + 1) _ (by omega) ⟨(by omega), Eq.mp (congrArg (fun z9 : Int32 => lv_has ls 5 [(4, .int (nI (i + 1))), (3, .int z9), (0, .ref hm), (1, .int x), (2, .int w)]) e4) (lv_sub hl [0, 1, 2, 3, 4] rfl)⟩
    · refine lv_iload_n hx hb dX0_widened_21 rfl (lv_at hl 1 rfl) ?_
      refine lv_aload_n hx hb dX0_widened_22 rfl (lv_at hl 2 rfl) ?_
      refine lv_iload hx hb dX0_widened_23 (lv_at hl 0 rfl) ?_
      refine lv_iload_n hx hb dX0_widened_25 rfl (lv_at hl 4 rfl) ?_
      refine wt_ro_go (va_runV (As := [.int (nI i), .int w]) (rest := [.int (wt_fold (wt_wds fp fu x w) i x)]) ⟨hx, hb, hml, hown, hts⟩ (k_X0_nextOverOpen l dC dI cI hm pv up fp fu nr (nI i) w) (cwV 2 hts gX0_widened_X0_nextOverOpen rfl rfl rfl (by decide +kernel) ⟨Nat.le_of_ble_eq_true rfl, Nat.le_of_ble_eq_true rfl⟩) (wt_PV (C := RX0) (T := TX0) (N := 3) (ci := 0) (q0 := 0) hK hP hN rfl rfl [0, 1, 2] rfl) rfl rfl hl.1 rfl (lv_room (Nat.le_of_ble_eq_true rfl)) dX0_widened_26 ⟨Nat.zero_le _, Nat.zero_le _⟩) ?_
      refine lv_ior hx hb dX0_widened_29 ?_
      refine lv_istore_n (lv' := [(3, .int ((wt_fold (wt_wds fp fu x w) i x) ||| (wt_nxt fp fu (nI i) w))), (4, .int (nI i)), (0, .ref hm), (1, .int x), (2, .int w)]) hx hb dX0_widened_30 rfl hl (by decide) rfl (fun ls hl => ?_)
      refine lv_iinc (v := nI (i + 1)) (lv' := [(4, .int (nI (i + 1))), (3, .int ((wt_fold (wt_wds fp fu x w) i x) ||| (wt_nxt fp fu (nI i) w))), (0, .ref hm), (1, .int x), (2, .int w)]) hx hb dX0_widened_31 hl (k := 1) rfl (nI_1 i) (by decide) rfl (fun ls hl => ?_)
      refine lv_goto (tgt := 5) hx hb dX0_widened_34 (by decide) ?_
      have e5 : ((wt_fold (wt_wds fp fu x w) i x) ||| (wt_nxt fp fu (nI i) w)) = (wt_fold (wt_wds fp fu x w) (i + 1) x) := (by simp only [wt_fold_s, wt_wds, wt_if_t c_18_3])
      exact ih_5 (i + 1) _ (by omega) ⟨(by omega), Eq.mp (congrArg (fun z9 : Int32 => lv_has ls 5 [(4, .int (nI (i + 1))), (3, .int z9), (0, .ref hm), (1, .int x), (2, .int w)]) e5) (lv_sub hl [0, 1, 2, 3, 4] rfl)⟩
set_option maxHeartbeats 4000000 in
set_option maxRecDepth 100000 in
theorem k_X1_count (l : Launch) (dC : Nat → ClassId) (dI : Nat → Nat → Nat) (cI : ClassId) (hr : Nat) (rt : Nat) (rw : Nat) (gt : Nat → Int32) (gw : Nat → Int32) (rc : Nat) : Met l yX1_count wsX1_count ({ frames := 0, cells := 0, slots := 0, locals := 0 }) (va_Pc [.ref hr] (wt_pre (dC, dI) cI [(hr, .inr (1, [.ref rt, .ref rw, .int (nI rc)])), (rt, .inl (cI, 512, .inl gt)), (rw, .inl (cI, 512, .inl gw))])) (wt_ro (nI rc)) 0 0 wt_no := by
  refine Met.ofW (cc := cX1_count) (maxL := 1) (ret := (some .int)) (by decide) rfl ?_
  intro p e s m args below meth c s₁ B hml hv
  obtain ⟨rfl, hP, hK, hN⟩ := hv
  have hx := B.exec
  have hb := B.bytes
  have hr := B.returns
  have hts := atoms_spec (ws := wsX1_count) B.pre
  have hown : s.vm.findClass RX1 = some m.cls := findClass_of_methodNamed B.named
  have hlocks := B.notSynchronized
  have inX1 : ∀ w ∈ wsX10, w ∈ wsX1_count := wt_in [2, 3, 4] (by decide +kernel)
  have hl := lv_entry ([.ref hr]) (n := 1) (Nat.le_of_ble_eq_true rfl)
  rw [lg_entry_eq]
  generalize (lg_sl ([.ref hr]) ++ List.replicate (1 - (lg_sl ([.ref hr])).length) Slot.unset).toArray = ls at hl ⊢
  have hl : lv_has ls 1 [(0, .ref hr)] := hl
  refine lv_aload_n hx hb dX1_count_0 rfl (lv_at hl 0 rfl) ?_
  refine va_get (D := (dC, dI)) (ci := 1) (v := .int (nI rc)) (C := RX1) (T := TX1) (N := 3) hx hb hts inX1 hown hK hP 0 rfl rfl 2 (by decide) (hts (.fieldLink RX1 18 "WarTable$Rulings" "count" "I") (List.mem_of_getElem? (i := 1) rfl)) (fun _ h9 => h9) rfl dX1_count_1 ?_
  exact wt_ret hx hb hr rfl rfl dX1_count_4 hlocks
set_option maxHeartbeats 4000000 in
set_option maxRecDepth 100000 in
theorem k_X1_isFull (l : Launch) (dC : Nat → ClassId) (dI : Nat → Nat → Nat) (cI : ClassId) (hr : Nat) (rt : Nat) (rw : Nat) (gt : Nat → Int32) (gw : Nat → Int32) (rc : Nat) (hrc : rc ≤ 512) : Met l yX1_isFull wsX1_isFull ({ frames := 0, cells := 0, slots := 0, locals := 0 }) (va_Pc [.ref hr] (wt_pre (dC, dI) cI [(hr, .inr (1, [.ref rt, .ref rw, .int (nI rc)])), (rt, .inl (cI, 512, .inl gt)), (rw, .inl (cI, 512, .inl gw))])) (wt_ro (wt_b (512 ≤ rc))) 0 0 wt_no := by
  refine Met.ofW (cc := cX1_isFull) (maxL := 1) (ret := (some .boolean)) (by decide) rfl ?_
  intro p e s m args below meth c s₁ B hml hv
  obtain ⟨rfl, hP, hK, hN⟩ := hv
  have hx := B.exec
  have hb := B.bytes
  have hr := B.returns
  have hts := atoms_spec (ws := wsX1_isFull) B.pre
  have hown : s.vm.findClass RX1 = some m.cls := findClass_of_methodNamed B.named
  have hlocks := B.notSynchronized
  have inX1 : ∀ w ∈ wsX10, w ∈ wsX1_isFull := wt_in [2, 3, 4] (by decide +kernel)
  have hl := lv_entry ([.ref hr]) (n := 1) (Nat.le_of_ble_eq_true rfl)
  rw [lg_entry_eq]
  generalize (lg_sl ([.ref hr]) ++ List.replicate (1 - (lg_sl ([.ref hr])).length) Slot.unset).toArray = ls at hl ⊢
  have hl : lv_has ls 1 [(0, .ref hr)] := hl
  refine lv_aload_n hx hb dX1_isFull_0 rfl (lv_at hl 0 rfl) ?_
  refine va_get (D := (dC, dI)) (ci := 1) (v := .int (nI rc)) (C := RX1) (T := TX1) (N := 3) hx hb hts inX1 hown hK hP 0 rfl rfl 2 (by decide) (hts (.fieldLink RX1 18 "WarTable$Rulings" "count" "I") (List.mem_of_getElem? (i := 1) rfl)) (fun _ h9 => h9) rfl dX1_isFull_1 ?_
  refine lv_sipush (v := nI 512) hx hb dX1_isFull_4 (by decide +kernel) ?_
  refine wt_icmp_lt (tgt := 14) hx hb (by omega) (by omega) dX1_isFull_7 (by decide) (fun c_7_1 => ?_) (fun c_7_1 => ?_)
  · refine lv_iconst (v := nI 0) hx hb dX1_isFull_14 (by decide +kernel) ?_
    exact wt_retz hx hb hr (by first | exact wt_bt1 (by omega) | exact wt_bf0 (by omega)) rfl dX1_isFull_15 hlocks
  · refine lv_iconst (v := nI 1) hx hb dX1_isFull_10 (by decide +kernel) ?_
    refine lv_goto (tgt := 15) hx hb dX1_isFull_11 (by decide) ?_
    exact wt_retz hx hb hr (by first | exact wt_bt1 (by omega) | exact wt_bf0 (by omega)) rfl dX1_isFull_15 hlocks
set_option maxHeartbeats 4000000 in
set_option maxRecDepth 100000 in
theorem k_X1_push (l : Launch) (dC : Nat → ClassId) (dI : Nat → Nat → Nat) (cI : ClassId) (hr : Nat) (rt : Nat) (rw : Nat) (gt : Nat → Int32) (gw : Nat → Int32) (rc : Nat) (x : Int32) (y : Int32) (sz : Nat) (hrc : rc < 512) : Met l yX1_push wsX1_push ({ frames := 1, cells := 0, slots := 0, locals := 21 }) (va_Pc [.ref hr, .int x, .int y] (wt_pm (dC, dI) cI [(hr, .inr (1, [.ref rt, .ref rw, .int (nI rc)])), (rt, .inl (cI, 512, .inl gt)), (rw, .inl (cI, 512, .inl gw))] sz)) (wt_mu none (dC, dI) [(hr, .inr (1, [.ref rt, .ref rw, .int (nI (rc + 1))])), (rt, .inl (cI, 512, .inl (upd gt rc x))), (rw, .inl (cI, 512, .inl (upd gw rc y)))] (va_A [(hr, .inr (1, [.ref rt, .ref rw, .int (nI rc)])), (rt, .inl (cI, 512, .inl gt)), (rw, .inl (cI, 512, .inl gw))] sz)) 0 0 (va_A [(hr, .inr (1, [.ref rt, .ref rw, .int (nI rc)])), (rt, .inl (cI, 512, .inl gt)), (rw, .inl (cI, 512, .inl gw))] sz) := by
  refine Met.ofW (cc := cX1_push) (maxL := 3) (ret := none) (by decide) rfl ?_
  intro p e s m args below meth c s₁ B hml hv
  obtain ⟨rfl, hsz, ⟨hP, hK, hN⟩, hD0⟩ := hv
  have hx := B.exec
  have hb := B.bytes
  have hr := B.returns
  have hts := atoms_spec (ws := wsX1_push) B.pre
  have hown : s.vm.findClass RX1 = some m.cls := findClass_of_methodNamed B.named
  have hlocks := B.notSynchronized
  subst hsz
  have hD := hD0.self (sz := s.heap.size)
  generalize hAe : va_A [(hr, .inr (1, [.ref rt, .ref rw, .int (nI rc)])), (rt, .inl (cI, 512, .inl gt)), (rw, .inl (cI, 512, .inl gw))] s.heap.size = A at hD ⊢
  have hA : ∀ q : Nat, s.heap.size ≤ q → A q := fun q h => by rw [← hAe]; exact Or.inr h
  have hS : va_S A s.heap s.heap [] := va_S.rf
  have inX1 : ∀ w ∈ wsX10, w ∈ wsX1_push := wt_in [7, 8, 9] (by decide +kernel)
  have hl := lv_entry ([.ref hr, .int x, .int y]) (n := 3) (Nat.le_of_ble_eq_true rfl)
  rw [lg_entry_eq]
  generalize (lg_sl ([.ref hr, .int x, .int y]) ++ List.replicate (3 - (lg_sl ([.ref hr, .int x, .int y])).length) Slot.unset).toArray = ls at hl ⊢
  have hl : lv_has ls 3 [(0, .ref hr), (1, .int x), (2, .int y)] := hl
  refine lv_aload_n hx hb dX1_push_0 rfl (lv_at hl 0 rfl) ?_
  refine va_get (D := (dC, dI)) (ci := 1) (v := .int (nI rc)) (C := RX1) (T := TX1) (N := 3) hx hb hts inX1 hown hK hP 0 rfl rfl 2 (by decide) (hts (.fieldLink RX1 18 "WarTable$Rulings" "count" "I") (List.mem_of_getElem? (i := 1) rfl)) (fun _ h9 => h9) rfl dX1_push_1 ?_
  refine lv_sipush (v := nI 512) hx hb dX1_push_4 (by decide +kernel) ?_
  refine wt_ro_go (va_runSN (As := [.int (nI rc), .int (nI 512)]) (rest := []) ⟨hx, hb, hml, hown, hts⟩ (k_X3_belowN l rc 512 (by omega) (by omega)) ⟨va_cnB (host := RX3) 2 hts gX1_push_X3_below_n22 rfl rfl rfl (hN _ (List.mem_of_getElem? (i := 6) rfl)) (hts (.initialized RX3) (List.mem_of_getElem? (i := 5) rfl)) (by decide +kernel) ⟨Nat.le_of_ble_eq_true rfl, Nat.le_of_ble_eq_true rfl⟩, (hts (.static yX3_below) (List.mem_of_getElem? (i := 4) rfl)), trivial⟩ wt_PS rfl rfl hl.1 rfl (lv_room (Nat.le_of_ble_eq_true rfl)) dX1_push_7 ⟨Nat.zero_le _, Nat.zero_le _⟩) ?_
  refine wt_if_eqB (tgt := 43) hx hb dX1_push_10 (by decide) (fun c_10_1 => ?_) (fun c_10_1 => ?_)
  · exfalso; omega
  · refine lv_aload_n hx hb dX1_push_13 rfl (lv_at hl 0 rfl) ?_
    refine va_get (D := (dC, dI)) (ci := 1) (v := .ref rt) (C := RX1) (T := TX1) (N := 3) hx hb hts inX1 hown hK hP 0 rfl rfl 0 (by decide) (hts (.fieldLink RX1 9 "WarTable$Rulings" "turns" "[I") (List.mem_of_getElem? (i := 2) rfl)) (fun _ h9 => h9) rfl dX1_push_14 ?_
    refine lv_aload_n hx hb dX1_push_17 rfl (lv_at hl 0 rfl) ?_
    refine va_get (D := (dC, dI)) (ci := 1) (v := .int (nI rc)) (C := RX1) (T := TX1) (N := 3) hx hb hts inX1 hown hK hP 0 rfl rfl 2 (by decide) (hts (.fieldLink RX1 18 "WarTable$Rulings" "count" "I") (List.mem_of_getElem? (i := 1) rfl)) (fun _ h9 => h9) rfl dX1_push_18 ?_
    refine lv_iload_n hx hb dX1_push_21 rfl (lv_at hl 1 rfl) ?_
    refine wt_iast hx hb hK hP hD hS 1 rfl (by omega) (by omega) dX1_push_22 (fun H locs hP hD hS => ?_)
    have hP : va_P (dC, dI) vwCl [(hr, .inr (1, [.ref rt, .ref rw, .int (nI rc)])), (rt, .inl (cI, 512, .inl (upd gt rc x))), (rw, .inl (cI, 512, .inl gw))] H := hP
    have hD : va_D A [(hr, .inr (1, [.ref rt, .ref rw, .int (nI rc)])), (rt, .inl (cI, 512, .inl (upd gt rc x))), (rw, .inl (cI, 512, .inl gw))] := hD
    refine lv_aload_n hx hb dX1_push_23 rfl (lv_at hl 0 rfl) ?_
    refine va_get (D := (dC, dI)) (ci := 1) (v := .ref rw) (C := RX1) (T := TX1) (N := 3) hx hb hts inX1 hown hK hP 0 rfl rfl 1 (by decide) (hts (.fieldLink RX1 15 "WarTable$Rulings" "weathersBefore" "[I") (List.mem_of_getElem? (i := 3) rfl)) (fun _ h9 => h9) rfl dX1_push_24 ?_
    refine lv_aload_n hx hb dX1_push_27 rfl (lv_at hl 0 rfl) ?_
    refine va_get (D := (dC, dI)) (ci := 1) (v := .int (nI rc)) (C := RX1) (T := TX1) (N := 3) hx hb hts inX1 hown hK hP 0 rfl rfl 2 (by decide) (hts (.fieldLink RX1 18 "WarTable$Rulings" "count" "I") (List.mem_of_getElem? (i := 1) rfl)) (fun _ h9 => h9) rfl dX1_push_28 ?_
    refine lv_iload_n hx hb dX1_push_31 rfl (lv_at hl 2 rfl) ?_
    refine wt_iast hx hb hK hP hD hS 2 rfl (by omega) (by omega) dX1_push_32 (fun H locs hP hD hS => ?_)
    have hP : va_P (dC, dI) vwCl [(hr, .inr (1, [.ref rt, .ref rw, .int (nI rc)])), (rt, .inl (cI, 512, .inl (upd gt rc x))), (rw, .inl (cI, 512, .inl (upd gw rc y)))] H := hP
    have hD : va_D A [(hr, .inr (1, [.ref rt, .ref rw, .int (nI rc)])), (rt, .inl (cI, 512, .inl (upd gt rc x))), (rw, .inl (cI, 512, .inl (upd gw rc y)))] := hD
    refine lv_aload_n hx hb dX1_push_33 rfl (lv_at hl 0 rfl) ?_
    refine lv_dup hx hb dX1_push_34 rfl ?_
    refine va_get (D := (dC, dI)) (ci := 1) (v := .int (nI rc)) (C := RX1) (T := TX1) (N := 3) hx hb hts inX1 hown hK hP 0 rfl rfl 2 (by decide) (hts (.fieldLink RX1 18 "WarTable$Rulings" "count" "I") (List.mem_of_getElem? (i := 1) rfl)) (fun _ h9 => h9) rfl dX1_push_35 ?_
    refine lv_iconst (v := nI 1) hx hb dX1_push_38 (by decide +kernel) ?_
    refine wt_iadd hx hb dX1_push_39 ?_
    refine va_put (D := (dC, dI)) (ci := 1) (v := .int (nI (rc + 1))) (ty := .int) (C := RX1) (T := TX1) (N := 3) hx hb hts inX1 tyX1 tyX1_ok nmX1 hown hK hP hD hS 0 rfl rfl 2 (by decide) (hts (.fieldLink RX1 18 "WarTable$Rulings" "count" "I") (List.mem_of_getElem? (i := 1) rfl)) (fun _ h9 => h9) rfl (by decide +kernel) rfl rfl (Nat.le_of_ble_eq_true rfl) dX1_push_40 (fun H locs hP hD hS => ?_)
    have hP : va_P (dC, dI) vwCl [(hr, .inr (1, [.ref rt, .ref rw, .int (nI (rc + 1))])), (rt, .inl (cI, 512, .inl (upd gt rc x))), (rw, .inl (cI, 512, .inl (upd gw rc y)))] H := hP
    have hD : va_D A [(hr, .inr (1, [.ref rt, .ref rw, .int (nI (rc + 1))])), (rt, .inl (cI, 512, .inl (upd gt rc x))), (rw, .inl (cI, 512, .inl (upd gw rc y)))] := hD
    exact wt_mvret hx hb hr hP hS dX1_push_43 hlocks
set_option maxHeartbeats 4000000 in
set_option maxRecDepth 100000 in
theorem k_X1_pop (l : Launch) (dC : Nat → ClassId) (dI : Nat → Nat → Nat) (cI : ClassId) (hr : Nat) (rt : Nat) (rw : Nat) (gt : Nat → Int32) (gw : Nat → Int32) (rc : Nat) (sz : Nat) (hrc : rc ≤ 512) : Met l yX1_pop wsX1_pop ({ frames := 0, cells := 0, slots := 0, locals := 0 }) (va_Pc [.ref hr] (wt_pm (dC, dI) cI [(hr, .inr (1, [.ref rt, .ref rw, .int (nI rc)])), (rt, .inl (cI, 512, .inl gt)), (rw, .inl (cI, 512, .inl gw))] sz)) (wt_mu none (dC, dI) [(hr, .inr (1, [.ref rt, .ref rw, .int (nI (rc - 1))])), (rt, .inl (cI, 512, .inl gt)), (rw, .inl (cI, 512, .inl gw))] (va_A [(hr, .inr (1, [.ref rt, .ref rw, .int (nI rc)])), (rt, .inl (cI, 512, .inl gt)), (rw, .inl (cI, 512, .inl gw))] sz)) 0 0 (va_A [(hr, .inr (1, [.ref rt, .ref rw, .int (nI rc)])), (rt, .inl (cI, 512, .inl gt)), (rw, .inl (cI, 512, .inl gw))] sz) := by
  refine Met.ofW (cc := cX1_pop) (maxL := 1) (ret := none) (by decide) rfl ?_
  intro p e s m args below meth c s₁ B hml hv
  obtain ⟨rfl, hsz, ⟨hP, hK, hN⟩, hD0⟩ := hv
  have hx := B.exec
  have hb := B.bytes
  have hr := B.returns
  have hts := atoms_spec (ws := wsX1_pop) B.pre
  have hown : s.vm.findClass RX1 = some m.cls := findClass_of_methodNamed B.named
  have hlocks := B.notSynchronized
  subst hsz
  have hD := hD0.self (sz := s.heap.size)
  generalize hAe : va_A [(hr, .inr (1, [.ref rt, .ref rw, .int (nI rc)])), (rt, .inl (cI, 512, .inl gt)), (rw, .inl (cI, 512, .inl gw))] s.heap.size = A at hD ⊢
  have hA : ∀ q : Nat, s.heap.size ≤ q → A q := fun q h => by rw [← hAe]; exact Or.inr h
  have hS : va_S A s.heap s.heap [] := va_S.rf
  have inX1 : ∀ w ∈ wsX10, w ∈ wsX1_pop := wt_in [2, 3, 4] (by decide +kernel)
  have hl := lv_entry ([.ref hr]) (n := 1) (Nat.le_of_ble_eq_true rfl)
  rw [lg_entry_eq]
  generalize (lg_sl ([.ref hr]) ++ List.replicate (1 - (lg_sl ([.ref hr])).length) Slot.unset).toArray = ls at hl ⊢
  have hl : lv_has ls 1 [(0, .ref hr)] := hl
  refine lv_aload_n hx hb dX1_pop_0 rfl (lv_at hl 0 rfl) ?_
  refine va_get (D := (dC, dI)) (ci := 1) (v := .int (nI rc)) (C := RX1) (T := TX1) (N := 3) hx hb hts inX1 hown hK hP 0 rfl rfl 2 (by decide) (hts (.fieldLink RX1 18 "WarTable$Rulings" "count" "I") (List.mem_of_getElem? (i := 1) rfl)) (fun _ h9 => h9) rfl dX1_pop_1 ?_
  refine wt_if_le (tgt := 17) hx hb (by omega) dX1_pop_4 (by decide) (fun c_4_1 => ?_) (fun c_4_1 => ?_)
  · have e3 : nI rc = nI (rc - 1) := (congrArg nI (by omega))
    have hP : va_P (dC, dI) vwCl [(hr, .inr (1, [.ref rt, .ref rw, .int (nI (rc - 1))])), (rt, .inl (cI, 512, .inl gt)), (rw, .inl (cI, 512, .inl gw))] s.heap := Eq.mp (congrArg (fun z9 : Int32 => va_P (dC, dI) vwCl [(hr, .inr (1, [.ref rt, .ref rw, .int z9])), (rt, .inl (cI, 512, .inl gt)), (rw, .inl (cI, 512, .inl gw))] s.heap) e3) hP
    have hD : va_D A [(hr, .inr (1, [.ref rt, .ref rw, .int (nI (rc - 1))])), (rt, .inl (cI, 512, .inl gt)), (rw, .inl (cI, 512, .inl gw))] := wt_adr hD rfl
    exact wt_mvret hx hb hr hP hS dX1_pop_17 hlocks
  · refine lv_aload_n hx hb dX1_pop_7 rfl (lv_at hl 0 rfl) ?_
    refine lv_dup hx hb dX1_pop_8 rfl ?_
    refine va_get (D := (dC, dI)) (ci := 1) (v := .int (nI rc)) (C := RX1) (T := TX1) (N := 3) hx hb hts inX1 hown hK hP 0 rfl rfl 2 (by decide) (hts (.fieldLink RX1 18 "WarTable$Rulings" "count" "I") (List.mem_of_getElem? (i := 1) rfl)) (fun _ h9 => h9) rfl dX1_pop_9 ?_
    refine lv_iconst (v := nI 1) hx hb dX1_pop_12 (by decide +kernel) ?_
    refine wt_isub hx hb (by omega) dX1_pop_13 ?_
    refine va_put (D := (dC, dI)) (ci := 1) (v := .int (nI (rc - 1))) (ty := .int) (C := RX1) (T := TX1) (N := 3) hx hb hts inX1 tyX1 tyX1_ok nmX1 hown hK hP hD hS 0 rfl rfl 2 (by decide) (hts (.fieldLink RX1 18 "WarTable$Rulings" "count" "I") (List.mem_of_getElem? (i := 1) rfl)) (fun _ h9 => h9) rfl (by decide +kernel) rfl rfl (Nat.le_of_ble_eq_true rfl) dX1_pop_14 (fun H locs hP hD hS => ?_)
    have hP : va_P (dC, dI) vwCl [(hr, .inr (1, [.ref rt, .ref rw, .int (nI (rc - 1))])), (rt, .inl (cI, 512, .inl gt)), (rw, .inl (cI, 512, .inl gw))] H := hP
    have hD : va_D A [(hr, .inr (1, [.ref rt, .ref rw, .int (nI (rc - 1))])), (rt, .inl (cI, 512, .inl gt)), (rw, .inl (cI, 512, .inl gw))] := hD
    exact wt_mvret hx hb hr hP hS dX1_pop_17 hlocks
set_option maxHeartbeats 4000000 in
set_option maxRecDepth 100000 in
theorem k_X1_lastTurnZ (l : Launch) (dC : Nat → ClassId) (dI : Nat → Nat → Nat) (cI : ClassId) (hr : Nat) (rt : Nat) (rw : Nat) (gt : Nat → Int32) (gw : Nat → Int32) : Met l yX1_lastTurn wsX1_lastTurn ({ frames := 1, cells := 0, slots := 0, locals := 21 }) (va_Pc [.ref hr] (wt_pre (dC, dI) cI [(hr, .inr (1, [.ref rt, .ref rw, .int (nI 0)])), (rt, .inl (cI, 512, .inl gt)), (rw, .inl (cI, 512, .inl gw))])) (wt_ro (-1)) 0 0 wt_no := by
  refine Met.ofW (cc := cX1_lastTurn) (maxL := 1) (ret := (some .int)) (by decide) rfl ?_
  intro p e s m args below meth c s₁ B hml hv
  obtain ⟨rfl, hP, hK, hN⟩ := hv
  have hx := B.exec
  have hb := B.bytes
  have hr := B.returns
  have hts := atoms_spec (ws := wsX1_lastTurn) B.pre
  have hown : s.vm.findClass RX1 = some m.cls := findClass_of_methodNamed B.named
  have hlocks := B.notSynchronized
  have inX1 : ∀ w ∈ wsX10, w ∈ wsX1_lastTurn := wt_in [6, 7, 8] (by decide +kernel)
  have hl := lv_entry ([.ref hr]) (n := 1) (Nat.le_of_ble_eq_true rfl)
  rw [lg_entry_eq]
  generalize (lg_sl ([.ref hr]) ++ List.replicate (1 - (lg_sl ([.ref hr])).length) Slot.unset).toArray = ls at hl ⊢
  have hl : lv_has ls 1 [(0, .ref hr)] := hl
  refine lv_aload_n hx hb dX1_lastTurn_0 rfl (lv_at hl 0 rfl) ?_
  refine va_get (D := (dC, dI)) (ci := 1) (v := .int (nI 0)) (C := RX1) (T := TX1) (N := 3) hx hb hts inX1 hown hK hP 0 rfl rfl 2 (by decide) (hts (.fieldLink RX1 18 "WarTable$Rulings" "count" "I") (List.mem_of_getElem? (i := 1) rfl)) (fun _ h9 => h9) rfl dX1_lastTurn_1 ?_
  refine lv_iconst (v := nI 1) hx hb dX1_lastTurn_4 (by decide +kernel) ?_
  refine lv_isub hx hb dX1_lastTurn_5 ?_
  refine wt_top (y := (-1)) (by decide +kernel) ?_
  refine lv_sipush (v := nI 512) hx hb dX1_lastTurn_6 (by decide +kernel) ?_
  refine wt_ro_go (va_runSN (As := [.int (-1), .int (nI 512)]) (rest := []) ⟨hx, hb, hml, hown, hts⟩ (k_X3_belowI l (-1) 512 (by omega)) ⟨va_cnB (host := RX3) 2 hts gX1_lastTurn_X3_below_n22 rfl rfl rfl (hN _ (List.mem_of_getElem? (i := 6) rfl)) (hts (.initialized RX3) (List.mem_of_getElem? (i := 4) rfl)) (by decide +kernel) ⟨Nat.le_of_ble_eq_true rfl, Nat.le_of_ble_eq_true rfl⟩, (hts (.static yX3_below) (List.mem_of_getElem? (i := 3) rfl)), trivial⟩ wt_PS rfl rfl hl.1 rfl (lv_room (Nat.le_of_ble_eq_true rfl)) dX1_lastTurn_9 ⟨Nat.zero_le _, Nat.zero_le _⟩) ?_
  refine wt_if_eqB (tgt := 29) hx hb dX1_lastTurn_12 (by decide) (fun c_12_1 => ?_) (fun c_12_1 => ?_)
  · refine lv_iconst (v := (-1)) hx hb dX1_lastTurn_29 (by decide +kernel) ?_
    exact wt_ret hx hb hr rfl rfl dX1_lastTurn_30 hlocks
  · exact absurd c_12_1 (fun h => h (Or.inl (by decide)))
set_option maxHeartbeats 4000000 in
set_option maxRecDepth 100000 in
theorem k_X1_lastTurnS (l : Launch) (dC : Nat → ClassId) (dI : Nat → Nat → Nat) (cI : ClassId) (hr : Nat) (rt : Nat) (rw : Nat) (gt : Nat → Int32) (gw : Nat → Int32) (rc : Nat) (h0 : 0 < rc) (hrc : rc ≤ 512) : Met l yX1_lastTurn wsX1_lastTurn ({ frames := 1, cells := 0, slots := 0, locals := 21 }) (va_Pc [.ref hr] (wt_pre (dC, dI) cI [(hr, .inr (1, [.ref rt, .ref rw, .int (nI rc)])), (rt, .inl (cI, 512, .inl gt)), (rw, .inl (cI, 512, .inl gw))])) (wt_ro (gt (rc - 1))) 0 0 wt_no := by
  refine Met.ofW (cc := cX1_lastTurn) (maxL := 1) (ret := (some .int)) (by decide) rfl ?_
  intro p e s m args below meth c s₁ B hml hv
  obtain ⟨rfl, hP, hK, hN⟩ := hv
  have hx := B.exec
  have hb := B.bytes
  have hr := B.returns
  have hts := atoms_spec (ws := wsX1_lastTurn) B.pre
  have hown : s.vm.findClass RX1 = some m.cls := findClass_of_methodNamed B.named
  have hlocks := B.notSynchronized
  have inX1 : ∀ w ∈ wsX10, w ∈ wsX1_lastTurn := wt_in [6, 7, 8] (by decide +kernel)
  have hl := lv_entry ([.ref hr]) (n := 1) (Nat.le_of_ble_eq_true rfl)
  rw [lg_entry_eq]
  generalize (lg_sl ([.ref hr]) ++ List.replicate (1 - (lg_sl ([.ref hr])).length) Slot.unset).toArray = ls at hl ⊢
  have hl : lv_has ls 1 [(0, .ref hr)] := hl
  refine lv_aload_n hx hb dX1_lastTurn_0 rfl (lv_at hl 0 rfl) ?_
  refine va_get (D := (dC, dI)) (ci := 1) (v := .int (nI rc)) (C := RX1) (T := TX1) (N := 3) hx hb hts inX1 hown hK hP 0 rfl rfl 2 (by decide) (hts (.fieldLink RX1 18 "WarTable$Rulings" "count" "I") (List.mem_of_getElem? (i := 1) rfl)) (fun _ h9 => h9) rfl dX1_lastTurn_1 ?_
  refine lv_iconst (v := nI 1) hx hb dX1_lastTurn_4 (by decide +kernel) ?_
  refine wt_isub hx hb (by omega) dX1_lastTurn_5 ?_
  refine lv_sipush (v := nI 512) hx hb dX1_lastTurn_6 (by decide +kernel) ?_
  refine wt_ro_go (va_runSN (As := [.int (nI (rc - 1)), .int (nI 512)]) (rest := []) ⟨hx, hb, hml, hown, hts⟩ (k_X3_belowN l (rc - 1) 512 (by omega) (by omega)) ⟨va_cnB (host := RX3) 2 hts gX1_lastTurn_X3_below_n22 rfl rfl rfl (hN _ (List.mem_of_getElem? (i := 6) rfl)) (hts (.initialized RX3) (List.mem_of_getElem? (i := 4) rfl)) (by decide +kernel) ⟨Nat.le_of_ble_eq_true rfl, Nat.le_of_ble_eq_true rfl⟩, (hts (.static yX3_below) (List.mem_of_getElem? (i := 3) rfl)), trivial⟩ wt_PS rfl rfl hl.1 rfl (lv_room (Nat.le_of_ble_eq_true rfl)) dX1_lastTurn_9 ⟨Nat.zero_le _, Nat.zero_le _⟩) ?_
  refine wt_if_eqB (tgt := 29) hx hb dX1_lastTurn_12 (by decide) (fun c_12_1 => ?_) (fun c_12_1 => ?_)
  · exfalso; omega
  · refine lv_aload_n hx hb dX1_lastTurn_15 rfl (lv_at hl 0 rfl) ?_
    refine va_get (D := (dC, dI)) (ci := 1) (v := .ref rt) (C := RX1) (T := TX1) (N := 3) hx hb hts inX1 hown hK hP 0 rfl rfl 0 (by decide) (hts (.fieldLink RX1 9 "WarTable$Rulings" "turns" "[I") (List.mem_of_getElem? (i := 2) rfl)) (fun _ h9 => h9) rfl dX1_lastTurn_16 ?_
    refine lv_aload_n hx hb dX1_lastTurn_19 rfl (lv_at hl 0 rfl) ?_
    refine va_get (D := (dC, dI)) (ci := 1) (v := .int (nI rc)) (C := RX1) (T := TX1) (N := 3) hx hb hts inX1 hown hK hP 0 rfl rfl 2 (by decide) (hts (.fieldLink RX1 18 "WarTable$Rulings" "count" "I") (List.mem_of_getElem? (i := 1) rfl)) (fun _ h9 => h9) rfl dX1_lastTurn_20 ?_
    refine lv_iconst (v := nI 1) hx hb dX1_lastTurn_23 (by decide +kernel) ?_
    refine wt_isub hx hb (by omega) dX1_lastTurn_24 ?_
    refine wt_iald hx hb hK hP 1 rfl (by omega) (by omega) dX1_lastTurn_25 ?_
    refine lv_goto (tgt := 30) hx hb dX1_lastTurn_26 (by decide) ?_
    exact wt_ret hx hb hr rfl rfl dX1_lastTurn_30 hlocks
set_option maxHeartbeats 4000000 in
set_option maxRecDepth 100000 in
theorem k_X1_lastWeatherBeforeS (l : Launch) (dC : Nat → ClassId) (dI : Nat → Nat → Nat) (cI : ClassId) (hr : Nat) (rt : Nat) (rw : Nat) (gt : Nat → Int32) (gw : Nat → Int32) (rc : Nat) (h0 : 0 < rc) (hrc : rc ≤ 512) : Met l yX1_lastWeatherBefore wsX1_lastWeatherBefore ({ frames := 1, cells := 0, slots := 0, locals := 21 }) (va_Pc [.ref hr] (wt_pre (dC, dI) cI [(hr, .inr (1, [.ref rt, .ref rw, .int (nI rc)])), (rt, .inl (cI, 512, .inl gt)), (rw, .inl (cI, 512, .inl gw))])) (wt_ro (gw (rc - 1))) 0 0 wt_no := by
  refine Met.ofW (cc := cX1_lastWeatherBefore) (maxL := 1) (ret := (some .int)) (by decide) rfl ?_
  intro p e s m args below meth c s₁ B hml hv
  obtain ⟨rfl, hP, hK, hN⟩ := hv
  have hx := B.exec
  have hb := B.bytes
  have hr := B.returns
  have hts := atoms_spec (ws := wsX1_lastWeatherBefore) B.pre
  have hown : s.vm.findClass RX1 = some m.cls := findClass_of_methodNamed B.named
  have hlocks := B.notSynchronized
  have inX1 : ∀ w ∈ wsX10, w ∈ wsX1_lastWeatherBefore := wt_in [6, 7, 8] (by decide +kernel)
  have hl := lv_entry ([.ref hr]) (n := 1) (Nat.le_of_ble_eq_true rfl)
  rw [lg_entry_eq]
  generalize (lg_sl ([.ref hr]) ++ List.replicate (1 - (lg_sl ([.ref hr])).length) Slot.unset).toArray = ls at hl ⊢
  have hl : lv_has ls 1 [(0, .ref hr)] := hl
  refine lv_aload_n hx hb dX1_lastWeatherBefore_0 rfl (lv_at hl 0 rfl) ?_
  refine va_get (D := (dC, dI)) (ci := 1) (v := .int (nI rc)) (C := RX1) (T := TX1) (N := 3) hx hb hts inX1 hown hK hP 0 rfl rfl 2 (by decide) (hts (.fieldLink RX1 18 "WarTable$Rulings" "count" "I") (List.mem_of_getElem? (i := 1) rfl)) (fun _ h9 => h9) rfl dX1_lastWeatherBefore_1 ?_
  refine lv_iconst (v := nI 1) hx hb dX1_lastWeatherBefore_4 (by decide +kernel) ?_
  refine wt_isub hx hb (by omega) dX1_lastWeatherBefore_5 ?_
  refine lv_sipush (v := nI 512) hx hb dX1_lastWeatherBefore_6 (by decide +kernel) ?_
  refine wt_ro_go (va_runSN (As := [.int (nI (rc - 1)), .int (nI 512)]) (rest := []) ⟨hx, hb, hml, hown, hts⟩ (k_X3_belowN l (rc - 1) 512 (by omega) (by omega)) ⟨va_cnB (host := RX3) 2 hts gX1_lastWeatherBefore_X3_below_n22 rfl rfl rfl (hN _ (List.mem_of_getElem? (i := 6) rfl)) (hts (.initialized RX3) (List.mem_of_getElem? (i := 4) rfl)) (by decide +kernel) ⟨Nat.le_of_ble_eq_true rfl, Nat.le_of_ble_eq_true rfl⟩, (hts (.static yX3_below) (List.mem_of_getElem? (i := 3) rfl)), trivial⟩ wt_PS rfl rfl hl.1 rfl (lv_room (Nat.le_of_ble_eq_true rfl)) dX1_lastWeatherBefore_9 ⟨Nat.zero_le _, Nat.zero_le _⟩) ?_
  refine wt_if_eqB (tgt := 29) hx hb dX1_lastWeatherBefore_12 (by decide) (fun c_12_1 => ?_) (fun c_12_1 => ?_)
  · exfalso; omega
  · refine lv_aload_n hx hb dX1_lastWeatherBefore_15 rfl (lv_at hl 0 rfl) ?_
    refine va_get (D := (dC, dI)) (ci := 1) (v := .ref rw) (C := RX1) (T := TX1) (N := 3) hx hb hts inX1 hown hK hP 0 rfl rfl 1 (by decide) (hts (.fieldLink RX1 15 "WarTable$Rulings" "weathersBefore" "[I") (List.mem_of_getElem? (i := 2) rfl)) (fun _ h9 => h9) rfl dX1_lastWeatherBefore_16 ?_
    refine lv_aload_n hx hb dX1_lastWeatherBefore_19 rfl (lv_at hl 0 rfl) ?_
    refine va_get (D := (dC, dI)) (ci := 1) (v := .int (nI rc)) (C := RX1) (T := TX1) (N := 3) hx hb hts inX1 hown hK hP 0 rfl rfl 2 (by decide) (hts (.fieldLink RX1 18 "WarTable$Rulings" "count" "I") (List.mem_of_getElem? (i := 1) rfl)) (fun _ h9 => h9) rfl dX1_lastWeatherBefore_20 ?_
    refine lv_iconst (v := nI 1) hx hb dX1_lastWeatherBefore_23 (by decide +kernel) ?_
    refine wt_isub hx hb (by omega) dX1_lastWeatherBefore_24 ?_
    refine wt_iald hx hb hK hP 2 rfl (by omega) (by omega) dX1_lastWeatherBefore_25 ?_
    refine lv_goto (tgt := 30) hx hb dX1_lastWeatherBefore_26 (by decide) ?_
    exact wt_ret hx hb hr rfl rfl dX1_lastWeatherBefore_30 hlocks
end
