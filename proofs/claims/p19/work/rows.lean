section
/-- a private method of a class that the tables say can be made, by its rows of tables_1 -/
def lw_okq (q : MethodName × Nat) : Prop := (q.1.cls ≠ "java/lang/invoke/MethodHandle" ∧ q.1.cls ≠ "java/lang/invoke/VarHandle") ∧ Cond.instantiable q.1.cls q.2 ∈ tables_1 ∧ Cond.privateMethod q.1 ∈ tables_1 ∧ Cond.instanceMethod q.1 ∈ tables_1
theorem lw_p0 : lw_okq (⟨"WarTable", "checkUnit", "(I)V"⟩, 7) := ⟨⟨by decide +kernel, by decide +kernel⟩, List.mem_of_getElem? (i := 13) (by decide +kernel), List.mem_of_getElem? (i := 102) (by decide +kernel), List.mem_of_getElem? (i := 103) (by decide +kernel)⟩
theorem lw_p1 : lw_okq (⟨"java/lang/Throwable", "fillInStackTrace", "(I)Ljava/lang/Throwable;"⟩, 6) := ⟨⟨by decide +kernel, by decide +kernel⟩, List.mem_of_getElem? (i := 151) (by decide +kernel), List.mem_of_getElem? (i := 149) (by decide +kernel), List.mem_of_getElem? (i := 150) (by decide +kernel)⟩
theorem lw_p2 : lw_okq (⟨"WarTable", "playFrom", "(I)V"⟩, 7) := ⟨⟨by decide +kernel, by decide +kernel⟩, List.mem_of_getElem? (i := 13) (by decide +kernel), List.mem_of_getElem? (i := 235) (by decide +kernel), List.mem_of_getElem? (i := 236) (by decide +kernel)⟩
theorem lw_p3 : lw_okq (⟨"WarTable", "suppliedUnits", "(II)I"⟩, 7) := ⟨⟨by decide +kernel, by decide +kernel⟩, List.mem_of_getElem? (i := 13) (by decide +kernel), List.mem_of_getElem? (i := 242) (by decide +kernel), List.mem_of_getElem? (i := 243) (by decide +kernel)⟩
theorem lw_p4 : lw_okq (⟨"WarTable", "suppliedTowns", "(IIII)I"⟩, 7) := ⟨⟨by decide +kernel, by decide +kernel⟩, List.mem_of_getElem? (i := 13) (by decide +kernel), List.mem_of_getElem? (i := 246) (by decide +kernel), List.mem_of_getElem? (i := 247) (by decide +kernel)⟩
theorem lw_p5 : lw_okq (⟨"WarTable", "goers", "(III)I"⟩, 7) := ⟨⟨by decide +kernel, by decide +kernel⟩, List.mem_of_getElem? (i := 13) (by decide +kernel), List.mem_of_getElem? (i := 285) (by decide +kernel), List.mem_of_getElem? (i := 286) (by decide +kernel)⟩
theorem lw_p6 : lw_okq (⟨"WarTable", "march", "(II)V"⟩, 7) := ⟨⟨by decide +kernel, by decide +kernel⟩, List.mem_of_getElem? (i := 13) (by decide +kernel), List.mem_of_getElem? (i := 290) (by decide +kernel), List.mem_of_getElem? (i := 291) (by decide +kernel)⟩
theorem lw_p7 : lw_okq (⟨"WarTable", "isMetOnRoad", "(III)Z"⟩, 7) := ⟨⟨by decide +kernel, by decide +kernel⟩, List.mem_of_getElem? (i := 13) (by decide +kernel), List.mem_of_getElem? (i := 294) (by decide +kernel), List.mem_of_getElem? (i := 295) (by decide +kernel)⟩
theorem lw_p8 : lw_okq (⟨"WarTable", "fightEverywhere", "(II)V"⟩, 7) := ⟨⟨by decide +kernel, by decide +kernel⟩, List.mem_of_getElem? (i := 13) (by decide +kernel), List.mem_of_getElem? (i := 307) (by decide +kernel), List.mem_of_getElem? (i := 308) (by decide +kernel)⟩
theorem lw_p9 : lw_okq (⟨"WarTable", "fight", "(III)V"⟩, 7) := ⟨⟨by decide +kernel, by decide +kernel⟩, List.mem_of_getElem? (i := 13) (by decide +kernel), List.mem_of_getElem? (i := 311) (by decide +kernel), List.mem_of_getElem? (i := 312) (by decide +kernel)⟩
theorem lw_p10 : lw_okq (⟨"WarTable", "sumInFight", "(IIII)I"⟩, 7) := ⟨⟨by decide +kernel, by decide +kernel⟩, List.mem_of_getElem? (i := 13) (by decide +kernel), List.mem_of_getElem? (i := 315) (by decide +kernel), List.mem_of_getElem? (i := 316) (by decide +kernel)⟩
theorem lw_p11 : lw_okq (⟨"WarTable", "unitsInSight", "(I)I"⟩, 7) := ⟨⟨by decide +kernel, by decide +kernel⟩, List.mem_of_getElem? (i := 13) (by decide +kernel), List.mem_of_getElem? (i := 322) (by decide +kernel), List.mem_of_getElem? (i := 323) (by decide +kernel)⟩
theorem lw_p12 : lw_okq (⟨"WarTable", "checkTurn", "(I)V"⟩, 7) := ⟨⟨by decide +kernel, by decide +kernel⟩, List.mem_of_getElem? (i := 13) (by decide +kernel), List.mem_of_getElem? (i := 401) (by decide +kernel), List.mem_of_getElem? (i := 402) (by decide +kernel)⟩
def lw_privs_1 : List (MethodName × Nat) := [(⟨"WarTable", "checkUnit", "(I)V"⟩, 7), (⟨"java/lang/Throwable", "fillInStackTrace", "(I)Ljava/lang/Throwable;"⟩, 6), (⟨"WarTable", "playFrom", "(I)V"⟩, 7), (⟨"WarTable", "suppliedUnits", "(II)I"⟩, 7), (⟨"WarTable", "suppliedTowns", "(IIII)I"⟩, 7), (⟨"WarTable", "goers", "(III)I"⟩, 7), (⟨"WarTable", "march", "(II)V"⟩, 7), (⟨"WarTable", "isMetOnRoad", "(III)Z"⟩, 7), (⟨"WarTable", "fightEverywhere", "(II)V"⟩, 7), (⟨"WarTable", "fight", "(III)V"⟩, 7), (⟨"WarTable", "sumInFight", "(IIII)I"⟩, 7), (⟨"WarTable", "unitsInSight", "(I)I"⟩, 7), (⟨"WarTable", "checkTurn", "(I)V"⟩, 7)]
theorem lw_r1 : ∀ q ∈ lw_privs_1, lw_okq q := List.forall_mem_cons.mpr ⟨lw_p0, List.forall_mem_cons.mpr ⟨lw_p1, List.forall_mem_cons.mpr ⟨lw_p2, List.forall_mem_cons.mpr ⟨lw_p3, List.forall_mem_cons.mpr ⟨lw_p4, List.forall_mem_cons.mpr ⟨lw_p5, List.forall_mem_cons.mpr ⟨lw_p6, List.forall_mem_cons.mpr ⟨lw_p7, List.forall_mem_cons.mpr ⟨lw_p8, List.forall_mem_cons.mpr ⟨lw_p9, List.forall_mem_cons.mpr ⟨lw_p10, List.forall_mem_cons.mpr ⟨lw_p11, List.forall_mem_cons.mpr ⟨lw_p12, fun _ h => absurd h List.not_mem_nil⟩⟩⟩⟩⟩⟩⟩⟩⟩⟩⟩⟩⟩
def lw_privs : List (MethodName × Nat) := lw_privs_1
def lw_tbl : List Cond := k2_sels lw_privs ++ tables_1
theorem lw_privs_ok : ∀ q ∈ lw_privs, lw_okq q := lw_r1
end
section
/-! ===== BEGIN words of one list among another's, by their places ===== -/
theorem goodIn_r {big : List Cond} (ws : List Cond) (ps : List Nat) (hp : ws = ps.filterMap (fun i => big[i]?)) (h : ws.all goodWord = true) : GoodIn big ws := by
  intro w hw
  have h1 := List.all_eq_true.mp h w hw
  rw [hp] at hw
  obtain ⟨i, -, hi⟩ := List.mem_filterMap.mp hw
  have hm : w ∈ big := by first | exact List.mem_of_getElem? hi | exact List.getElem?_mem hi
  exact ⟨hm, good_of_word h1⟩
theorem goodIn_app {big a b : List Cond} (ha : GoodIn big a) (hb : GoodIn big b) : GoodIn big (a ++ b) := fun w h => (List.mem_append.mp h).elim (ha w) (hb w)
theorem goodIn_ca {big a b : List Cond} {c : Cond} (ha : GoodIn big (c :: a)) (hb : GoodIn big b) : GoodIn big (c :: (a ++ b)) := fun w h => (List.mem_cons.mp h).elim (fun e => ha w (List.mem_cons.mpr (Or.inl e))) (fun h => (List.mem_append.mp h).elim (fun h => ha w (List.mem_cons.mpr (Or.inr h))) (hb w))
theorem goodIn_sub {big ws : List Cond} (hm : ∀ w ∈ ws, w ∈ big) (h : ws.all goodWord = true) : GoodIn big ws := fun w hw => ⟨hm w hw, good_of_word (List.all_eq_true.mp h w hw)⟩
/-! ===== END ===== -/

/-! ===== BEGIN exceptions that leave a method, and their catching by the caller (launches without stack traces) ===== -/
section VXA
/-! The laws vx_back, vx_callV, vx_callS, vx_callSW, vx_throw0, vx_throwS follow proofs of the library, with one case more: JvmDerived/Free/Laws.lean (Back.of_free), Shelf42/LK1.lean (callV, callS), Shelf/KitTraced.lean (throwNew0V, throwNewS). -/
/-- where a method has thrown q: the class by its name, the cell, what was written, the world -/
def vx_T (XC : String → State → State → Prop) (st : State) (q : Addr) (t : State) (mc ms : Nat) (free : Addr → Prop) : Prop :=
  ∃ (E : String) (ce : Cell) (L : List Loc), XC E st t ∧ t.heap[q]? = some ce ∧ ce.vm = .none ∧ st.vm.findClass E = some ce.cls ∧ st.WarmedH t.vm ∧ st.sameButNew ({ t with vm := st.vm } : State) L mc ms ∧ ∀ z ∈ L, free z.base
def vx_Q (Qc : Array Value → State → Outcome → State → Prop) (XC : String → State → State → Prop) (mc ms : Nat) (free : Addr → Prop) : Array Value → State → Outcome → State → Prop := fun a st o t =>
  (Qc a st o t ∧ ∃ L, FrameEnd st o t L mc ms ∧ ∀ q ∈ L, free q.base) ∨ ∃ q, o = .threw q ∧ vx_T XC st q t mc ms free
/-- a callee that returns or throws -/
def vx_Met (l : Launch) (y : MethodName) (ws : List Cond) (rm : Room) (Pc : Array Value → State → Prop) (Qc : Array Value → State → Outcome → State → Prop) (XC : String → State → State → Prop) (mc ms : Nat) (free : Addr → Prop) : Prop :=
  MetFree l y (headSpec ws rm) Pc (fun _ _ _ _ _ => True) (vx_Q Qc XC mc ms free)
def vx_Post (XC : String → State → State → Prop) (mc ms : Nat) (free : Addr → Prop) : Pt → Array Value → Addr → Pt → Prop := fun A a q B =>
  ∃ (g : JFrame) (mk : MethodId) (t : State) (L : List Loc) (E : String) (ce : Cell), B.U.heap = t.heap ∧ B.U.vm = t.vm ∧ XC E (A.U.calling g mk a) t ∧ t.heap[q]? = some ce ∧ ce.vm = .none ∧ A.U.vm.findClass E = some ce.cls ∧ B.locs = A.locs ++ L ∧ (∀ z ∈ L, free z.base) ∧ B.cells = A.cells + mc ∧ B.slots = A.slots + ms
def vx_Back (l : Launch) (R : Room) (p : Program) (e : Env) (below : List Frame) (s : State) (sargs : Array Value) (y : MethodName) (len W9 : Nat)
    (Pre : Pt → Array Value → Prop) (Post : Pt → Array Value → Option Value → Pt → Prop) (PostX : Pt → Array Value → Addr → Pt → Prop) : Prop :=
  ∀ (m : MethodId) (meth : Method) (c : Code) (A : Pt) (g : JFrame) (ig : Instr) (mk : MethodId) (a : Array Value),
    Stand p l e R s m sargs below meth c A.U A.locs A.cells A.slots → g.method = m → g.locals.size = c.maxLocals → decode c.code g.pc = .ok (ig, len) →
    2 * g.monitorRoom + (g.stack.map fun v => v.category).sum ≤ W9 → A.U.methodNamed? y = some mk → Pre A a →
    (∃ (v : Option Value) (B : Pt), Stand p l e R s m sargs below meth c B.U B.locs B.cells B.slots ∧ Post A a v B ∧
      Steps p.tables e below (doInvoke e (A.U.setTop g) [] mk a).1 (B.U.setTop { g with pc := g.pc + len, stack := v.toList ++ g.stack })) ∨
    (∃ (q : Addr) (B : Pt), Stand p l e R s m sargs below meth c B.U B.locs B.cells B.slots ∧ PostX A a q B ∧
      Steps p.tables e below (doInvoke e (A.U.setTop g) [] mk a).1 ((B.U.setTop g).pushFrame (.throwing q)))
section Payer
variable {l : Launch} {R : Room} {p : Program} {e : Env} {below : List Frame} {s : State} {sargs : Array Value} {y : MethodName} {len W9 : Nat}
theorem vx_back {ws : List Cond} {rm : Room} {Pc : Array Value → State → Prop} {Qc : Array Value → State → Outcome → State → Prop} {XC : String → State → State → Prop} {mc ms : Nat} {free : Addr → Prop} {bytes : ByteArray} {maxL : Nat} {ret : Option FieldType}
    (hM : vx_Met l y ws rm Pc Qc XC mc ms free) (hblind : FrameBlind Pc) (hrc : rm.cells = mc) (hrs : rm.slots = ms)
    (hframes : rm.frames + 1 ≤ R.frames) (hlocals : W9 + (maxL + 11) + rm.locals ≤ R.locals)
    (hws : ∀ w ∈ ws, ∀ a' U, s.WarmedH U.vm → w.before a' U = true) (hcode : Cond.code y bytes maxL ret ∈ ws) (hinit : ∀ a' U, s.WarmedH U.vm → (Cond.initialized y.cls).before a' U = true) :
    vx_Back l R p e below s sargs y len W9 (PreOf R mc ms Pc) (PostOf Qc mc ms free) (vx_Post XC mc ms free) := by
  intro m meth c A g ig mk a X hg hsize hdg hW hn hp
  have h1 : (headSpec ws rm).pre.before a A.U = true := atoms_intro fun w hw => hws w hw _ _ X.warmed
  have h2 : (Cond.code y bytes maxL ret).before a A.U = true := hws _ hcode _ _ X.warmed
  have h3 : (Cond.initialized y.cls).before a A.U = true := hinit _ _ X.warmed
  have h4 : A.cells + (headSpec ws rm).room.cells ≤ R.cells := by rw [show (headSpec ws rm).room.cells = mc from hrc]; exact hp.1
  have h5 : A.slots + (headSpec ws rm).room.slots ≤ R.slots := by rw [show (headSpec ws rm).room.slots = ms from hrs]; exact hp.2.1
  have hPc : Pc a (A.U.calling g mk a) := hblind _ _ _ _ hp.2.2
  obtain ⟨U, Ls, c0, s0⟩ := A
  dsimp only [Pt.U, Pt.locs, Pt.cells, Pt.slots] at h1 h2 h3 h4 h5 X hn hPc ⊢
  obtain ⟨methY, cY, hmY, hcY, -, hlY, -, -, -, -⟩ := Cond.code_spec hn h2
  obtain ⟨kY, hkY, -⟩ := className_of_methodNamed hn
  have hinitY : kY.init = .initialized := Cond.initialized_spec (findClass_of_methodNamed hn) hkY h3
  have h : At U g.method c below := by rw [hg]; exact X.here
  have hlocals9 : W9 + (maxL + 11) + (headSpec ws rm).room.locals ≤ R.locals := hlocals
  have happ : (headSpec ws rm).appliesLoose y e.platform (U.calling g mk a) = true :=
    Spec.appliesLoose_calling (g := g) h hdg hn hkY hinitY
      (X.room_calling (g := g) (R' := (headSpec ws rm).room) hsize hmY hcY hframes (by rw [hlY]; omega) h4 h5) h1
  obtain ⟨mid, hmid⟩ := h.above
  have hfr : (U.setTop g).frames = (.java g :: mid) ++ below := by rw [State.frames_setTop' g h.top, hmid]; rfl
  obtain ⟨o, s₂, hsteps, -, hend, hq⟩ := Steps.callFree hM p X.admits X.cas X.clock (acts := []) hfr happ hPc trivial
  have hq' : vx_Q Qc XC mc ms free a (U.calling g mk a) o s₂ := hq
  rw [State.frames_setTop' g h.top] at hend
  obtain ⟨g₀, hg0⟩ := Option.isSome_iff_exists.mp h.top
  obtain ⟨r, hr⟩ := State.topJava?_eq_some.mp hg0
  have hr' : (({ U with heap := s₂.heap, slotsUsed := s₂.slotsUsed } : State).setVm s₂.vm).frames = .java g₀ :: r := hr
  rcases hq' with ⟨hqc, L, hfe, hL⟩ | ⟨q, rfl, E, ce, L, hx, hce, hcv, hcl, hW₂, hsm, hL⟩
  · obtain ⟨⟨v, rfl⟩, hW₂, e2, q2, q3, q4, q5, q6⟩ := id hfe
    have e3 : s₂ = ({ (U.calling g mk a).setFrames s₂.frames with heap := s₂.heap, slotsUsed := s₂.slotsUsed } : State).setVm s₂.vm := by
      have : s₂ = ({ s₂ with vm := (U.calling g mk a).vm } : State).setVm s₂.vm := rfl
      rw [e2] at this
      exact this
    obtain ⟨c₂, i₂, len₂, hc₂, hd₂, hf₂⟩ := hend
    have hW' : U.WarmedH s₂.vm := hW₂
    have hcc : c₂ = c := by
      have h1 : s₂.code? g.method = U.code? g.method := by
        rw [State.code?_eq, State.code?_eq, hW'.alike.method?]
      exact Option.some.inj (hc₂.symm.trans (h1.trans h.code))
    subst hcc
    have hlen : len₂ = len := by rw [hdg] at hd₂; cases hd₂; rfl
    subst hlen
    have hs₂ : s₂ = (({ U with heap := s₂.heap, slotsUsed := s₂.slotsUsed } : State).setVm s₂.vm).setTop { g with pc := g.pc + len₂, stack := v.toList ++ g.stack } := by
      refine e3.trans ?_
      rw [hf₂, State.calling_eq h.top, State.setFrames_setFrames, State.setTop_of_frames _ hr', hr]
      rfl
    have hsame : U.sameButNew ({ U with heap := s₂.heap, slotsUsed := s₂.slotsUsed } : State) L mc ms := by
      refine ⟨?_, q2, q3, q4, q5, q6⟩
      obtain ⟨t, ht, -⟩ := State.frames_cons hr
      show ({ U with heap := s₂.heap, slotsUsed := s₂.slotsUsed } : State) = { U.setFrames U.frames with heap := s₂.heap, slotsUsed := s₂.slotsUsed }
      rw [State.setFrames_self ht]
    subst hg
    refine Or.inl ⟨v, ⟨(({ U with heap := s₂.heap, slotsUsed := s₂.slotsUsed } : State).setVm s₂.vm), Ls ++ L, c0 + mc, s0 + ms⟩,
      ⟨X.admits, X.cas, X.clock, X.frames, X.room, X.hears, X.method, X.code, (X.here.setHeapUsed s₂.heap s₂.slotsUsed).setVm hW'.alike, X.tail, State.WarmedH.trans X.warmed hW', X.limits, X.bytes, X.same.trans (hsame.setVm s.vm)⟩,
      ⟨g, mk, s₂, L, rfl, rfl, hqc, rfl, hL, rfl, rfl⟩, ?_⟩
    show Steps p.tables e below _ ((({ U with heap := s₂.heap, slotsUsed := s₂.slotsUsed } : State).setVm s₂.vm).setTop { g with pc := g.pc + len₂, stack := v.toList ++ g.stack })
    rw [← hs₂]
    exact hsteps
  · obtain ⟨e2, q2, q3, q4, q5, q6⟩ := id hsm
    have e3 : s₂ = ({ (U.calling g mk a).setFrames s₂.frames with heap := s₂.heap, slotsUsed := s₂.slotsUsed } : State).setVm s₂.vm := by
      have : s₂ = ({ s₂ with vm := (U.calling g mk a).vm } : State).setVm s₂.vm := rfl
      rw [e2] at this
      exact this
    have hf₂ : s₂.frames = .throwing q :: .java g :: U.frames.tail := hend
    have hW' : U.WarmedH s₂.vm := hW₂
    have hs₂ : s₂ = ((({ U with heap := s₂.heap, slotsUsed := s₂.slotsUsed } : State).setVm s₂.vm).setTop g).pushFrame (.throwing q) := by
      refine e3.trans ?_
      rw [hf₂, State.calling_eq h.top, State.setFrames_setFrames, State.pushFrame, State.frames_setTop _ hr', State.setTop_of_frames _ hr', State.setFrames_setFrames, hr]
      rfl
    have hsame : U.sameButNew ({ U with heap := s₂.heap, slotsUsed := s₂.slotsUsed } : State) L mc ms := by
      refine ⟨?_, q2, q3, q4, q5, q6⟩
      obtain ⟨t, ht, -⟩ := State.frames_cons hr
      show ({ U with heap := s₂.heap, slotsUsed := s₂.slotsUsed } : State) = { U.setFrames U.frames with heap := s₂.heap, slotsUsed := s₂.slotsUsed }
      rw [State.setFrames_self ht]
    subst hg
    refine Or.inr ⟨q, ⟨(({ U with heap := s₂.heap, slotsUsed := s₂.slotsUsed } : State).setVm s₂.vm), Ls ++ L, c0 + mc, s0 + ms⟩,
      ⟨X.admits, X.cas, X.clock, X.frames, X.room, X.hears, X.method, X.code, (X.here.setHeapUsed s₂.heap s₂.slotsUsed).setVm hW'.alike, X.tail, State.WarmedH.trans X.warmed hW', X.limits, X.bytes, X.same.trans (hsame.setVm s.vm)⟩,
      ⟨g, mk, s₂, L, E, ce, rfl, rfl, hx, hce, hcv, hcl, rfl, hL, rfl, rfl⟩, ?_⟩
    show Steps p.tables e below _ (((({ U with heap := s₂.heap, slotsUsed := s₂.slotsUsed } : State).setVm s₂.vm).setTop g).pushFrame (.throwing q))
    rw [← hs₂]
    exact hsteps
end Payer
section Calls
variable {p : Program} {l : Launch} {e : Env} {R : Room} {s : State} {m : MethodId} {args : Array Value} {below : List Frame} {meth : Method} {c : Code} {T : State} {locs : List Loc} {cells slots : Nat}
theorem vx_callV (X : Stand p l e R s m args below meth c T locs cells slots) (hexec : p.tables.exec = Jvm.exec) {own C : String} {index : Nat} {y : MethodName} {bytes : ByteArray} {maxL : Nat} {ret : Option FieldType}
    (hown : s.vm.findClass own = some m.cls) (hlink : (Cond.methodLink own index y).before args s = true) (hinst : (Cond.instanceMethod y).before args s = true) (hsel : (Cond.selects C y y).before args s = true)
    (hcode : (Cond.code y bytes maxL ret).before args s = true) (hy : y.cls ≠ "java/lang/invoke/MethodHandle" ∧ y.cls ≠ "java/lang/invoke/VarHandle")
    {W9 : Nat} {Pre : Pt → Array Value → Prop} {Post : Pt → Array Value → Option Value → Pt → Prop} {PostX : Pt → Array Value → Addr → Pt → Prop} (hK : vx_Back l R p e below s args y 3 W9 Pre Post PostX)
    {b : Addr} {cellB : Cell} (hcell : T.heap[b]? = some cellB) (hobj : cellB.vm.isStatics = false) (hcls : s.vm.findClass C = some cellB.cls)
    {g : JFrame} (hg : g.method = m) (hsize : g.locals.size = c.maxLocals) {argsL rest : List Value} (hlen : ∀ sig, parseMethodDescriptor y.desc = some sig → argsL.length = sig.parameters.length)
    (hstack : g.stack = argsL.reverse ++ .ref b :: rest) (hW : 2 * g.monitorRoom + (rest.map fun v => v.category).sum ≤ W9) (hdg : decode c.code g.pc = .ok (.invokevirtual index, 3))
    (hpre : ∀ vm₁, s.WarmedH vm₁ → Pre ⟨T.setVm vm₁, locs, cells, slots⟩ (Value.ref b :: argsL).toArray) :
    (∃ (v : Option Value) (vm₁ : Vm) (B : Pt), s.WarmedH vm₁ ∧ Stand p l e R s m args below meth c B.U B.locs B.cells B.slots ∧ Post ⟨T.setVm vm₁, locs, cells, slots⟩ (Value.ref b :: argsL).toArray v B ∧
      ∀ target, Steps p.tables e below (B.U.setTop { g with pc := g.pc + 3, stack := v.toList ++ rest }) target → Steps p.tables e below (T.setTop g) target) ∨
    (∃ (q : Addr) (vm₁ : Vm) (B : Pt), s.WarmedH vm₁ ∧ Stand p l e R s m args below meth c B.U B.locs B.cells B.slots ∧ PostX ⟨T.setVm vm₁, locs, cells, slots⟩ (Value.ref b :: argsL).toArray q B ∧
      Steps p.tables e below (T.setTop g) ((B.U.setTop { g with stack := rest }).pushFrame (.throwing q))) := by
  obtain ⟨mk, methM, hnamed, hmethM, hstM, habM⟩ := Cond.instanceMethod_spec hinst
  obtain ⟨methM', cM, hmethM', -, -, -, -, -, -, hsigM⟩ := Cond.code_spec hnamed hcode
  cases hmethM.symm.trans hmethM'
  obtain ⟨c2, r2, m2, q1, q2, q3, q4, kP, hkP, hkPi⟩ := Cond.selects_spec hsel
  cases hcls.symm.trans q1
  cases (State.methodFound?_of_named hnamed hy).symm.trans q2
  cases hnamed.symm.trans q3
  have hselP : selectMethod e.platform s.vm cellB.cls mk = .method mk := by rw [Launch.admits_selectMethod X.admits]; exact q4
  obtain ⟨vm₁, X₁, hstep₁⟩ := X.invokevirtual hexec hown hlink hnamed hmethM hstM hkP hkPi hy (a := b) (cell := cellB) hcell
    (fun z h => by rw [h] at hobj; cases hobj) hselP hmethM habM hkP hkPi (g := g) hg (argsL := argsL) (rest := rest) (hlen _ hsigM) hstack hdg
  rcases hK m meth c ⟨T.setVm vm₁, locs, cells, slots⟩ { g with stack := rest } (.invokevirtual index) mk (Value.ref b :: argsL).toArray X₁ hg hsize hdg hW (X₁.named hnamed) (hpre vm₁ X₁.warmed) with ⟨v, B, X', hpost, hsteps⟩ | ⟨q, B, X', hpost, hsteps⟩
  · exact Or.inl ⟨v, vm₁, B, X₁.warmed, X', hpost, fun target h => hstep₁ _ fun acts => by rw [doInvoke_state]; exact hsteps.trans h⟩
  · exact Or.inr ⟨q, vm₁, B, X₁.warmed, X', hpost, hstep₁ _ fun acts => by rw [doInvoke_state]; exact hsteps⟩
theorem vx_callS (X : Stand p l e R s m args below meth c T locs cells slots) (hexec : p.tables.exec = Jvm.exec) {own : String} {index : Nat} {y : MethodName} {bytes : ByteArray} {maxL : Nat} {ret : Option FieldType}
    (hown : s.vm.findClass own = some m.cls) (hlink : (Cond.methodLink own index y).before args s = true) (hstat : (Cond.static y).before args s = true) (hinit : (Cond.initialized y.cls).before args s = true)
    (hcode : (Cond.code y bytes maxL ret).before args s = true) (hy : y.cls ≠ "java/lang/invoke/MethodHandle" ∧ y.cls ≠ "java/lang/invoke/VarHandle")
    {W9 : Nat} {Pre : Pt → Array Value → Prop} {Post : Pt → Array Value → Option Value → Pt → Prop} {PostX : Pt → Array Value → Addr → Pt → Prop} (hK : vx_Back l R p e below s args y 3 W9 Pre Post PostX)
    {g : JFrame} (hg : g.method = m) (hsize : g.locals.size = c.maxLocals) {argsL rest : List Value} (hlen : ∀ sig, parseMethodDescriptor y.desc = some sig → argsL.length = sig.parameters.length)
    (hstack : g.stack = argsL.reverse ++ rest) (hW : 2 * g.monitorRoom + (rest.map fun v => v.category).sum ≤ W9) (hdg : decode c.code g.pc = .ok (.invokestatic index, 3))
    (hpre : ∀ vm₁, s.WarmedH vm₁ → Pre ⟨T.setVm vm₁, locs, cells, slots⟩ argsL.toArray) :
    (∃ (v : Option Value) (vm₁ : Vm) (B : Pt), s.WarmedH vm₁ ∧ Stand p l e R s m args below meth c B.U B.locs B.cells B.slots ∧ Post ⟨T.setVm vm₁, locs, cells, slots⟩ argsL.toArray v B ∧
      ∀ target, Steps p.tables e below (B.U.setTop { g with pc := g.pc + 3, stack := v.toList ++ rest }) target → Steps p.tables e below (T.setTop g) target) ∨
    (∃ (q : Addr) (vm₁ : Vm) (B : Pt), s.WarmedH vm₁ ∧ Stand p l e R s m args below meth c B.U B.locs B.cells B.slots ∧ PostX ⟨T.setVm vm₁, locs, cells, slots⟩ argsL.toArray q B ∧
      Steps p.tables e below (T.setTop g) ((B.U.setTop { g with stack := rest }).pushFrame (.throwing q))) := by
  obtain ⟨mk, hnamed⟩ := Cond.code_named hcode
  obtain ⟨methM, cM, hmethM, -, -, -, -, -, -, hsigM⟩ := Cond.code_spec hnamed hcode
  have hstatic : methM.isStatic = true := Cond.static_spec hnamed hmethM hstat
  obtain ⟨kP, hkP, -⟩ := className_of_methodNamed hnamed
  have hinitP : kP.init = .initialized := Cond.initialized_spec (findClass_of_methodNamed hnamed) hkP hinit
  obtain ⟨vm₁, X₁, hstep₁⟩ := X.invokestatic hexec hown hlink hnamed hmethM hstatic hkP hinitP hy (g := g) hg (argsL := argsL) (rest := rest) (hlen _ hsigM) hstack hdg
  rcases hK m meth c ⟨T.setVm vm₁, locs, cells, slots⟩ { g with stack := rest } (.invokestatic index) mk argsL.toArray X₁ hg hsize hdg hW (X₁.named hnamed) (hpre vm₁ X₁.warmed) with ⟨v, B, X', hpost, hsteps⟩ | ⟨q, B, X', hpost, hsteps⟩
  · exact Or.inl ⟨v, vm₁, B, X₁.warmed, X', hpost, fun target h => hstep₁ _ fun acts => by rw [doInvoke_state]; exact hsteps.trans h⟩
  · exact Or.inr ⟨q, vm₁, B, X₁.warmed, X', hpost, hstep₁ _ fun acts => by rw [doInvoke_state]; exact hsteps⟩
end Calls
theorem vx_cls {s : State} {T : State} {vm₁ : Vm} {E : String} {k : ClassId} (hW : s.WarmedH vm₁) (h : (T.setVm vm₁).vm.findClass E = some k) : s.vm.findClass E = some k := by
  have h1 : vm₁.findClass E = some k := h
  rw [hW.alike.findClass] at h1
  exact h1
/-- the method's frame g, with q thrown over it -/
def vx_W (p : Program) (l : Launch) (e : Env) (R : Room) (s : State) (m : MethodId) (args : Array Value) (below : List Frame) (meth : Method) (c : Code) (H : Heap) (locs : List Loc) (cells slots : Nat) (Q : State → Prop) (g : JFrame) (q : Addr) : Prop :=
  ∀ T : State, T.heap = H → Stand p l e R s m args below meth c T locs cells slots → ∃ t, Steps p.tables e below ((T.setTop g).pushFrame (.throwing q)) t ∧ Q t
def vx_Run (p : Program) (l : Launch) (e : Env) (R : Room) (s : State) (m : MethodId) (args : Array Value) (below : List Frame) (meth : Method) (c : Code) (H : Heap) (locs : List Loc) (cells slots mc ms : Nat) (g : JFrame) (rest : List Value) (Qa : State → Outcome → State → Prop) (XC : String → State → State → Prop) (free : Addr → Prop) : Prop :=
  ∀ T : State, T.heap = H → Stand p l e R s m args below meth c T locs cells slots →
    (∃ (v : Option Value) (st₀ t T' : State) (L : List Loc), st₀.heap = H ∧ Stand p l e R s m args below meth c T' (locs ++ L) (cells + mc) (slots + ms) ∧ (∀ q ∈ L, free q.base) ∧ T'.heap = t.heap ∧ T'.vm = t.vm ∧ Qa st₀ (.returned v) t ∧
      Goes p e below T g T' { g with pc := g.pc + 3, stack := v.toList ++ rest }) ∨
    (∃ (q : Addr) (st₀ t T' : State) (L : List Loc) (E : String) (ce : Cell), st₀.heap = H ∧ Stand p l e R s m args below meth c T' (locs ++ L) (cells + mc) (slots + ms) ∧ (∀ z ∈ L, free z.base) ∧ T'.heap = t.heap ∧ T'.vm = t.vm ∧ XC E st₀ t ∧ t.heap[q]? = some ce ∧ ce.vm = .none ∧ s.vm.findClass E = some ce.cls ∧
      Steps p.tables e below (T.setTop g) ((T'.setTop { g with stack := rest }).pushFrame (.throwing q)))
def vx_X {S : Type} (px : S → Prop) (B : String → S → State → Prop) (A : Nat → Prop) : String → State → State → Prop := fun E st t => ∃ u : S, px u ∧ B E u t ∧ va_F A st t
section Runs
variable {p : Program} {l : Launch} {e : Env} {R : Room} {s : State} {m : MethodId} {args : Array Value} {below : List Frame} {meth : Method} {c : Code} {H : Heap} {locs : List Loc} {cells slots : Nat}
variable {y : MethodName} {bytes cc : ByteArray} {maxL nL mc ms n index : Nat} {ret : Option FieldType} {ws : List Cond} {rm : Room} {Pc : Array Value → State → Prop} {Qc : Array Value → State → Outcome → State → Prop} {XC : String → State → State → Prop} {free : Addr → Prop} {Ts : List Cond} {own C : String} {b : Addr} {As rest : List Value} {g : JFrame}
theorem vx_callBack (cb : CallB R s args own index y bytes maxL ret ws rm mc ms n) (hM : vx_Met l y ws rm Pc Qc XC mc ms free) (hbl : FrameBlind Pc) : vx_Back l R p e below s args y 3 8 (PreOf R mc ms Pc) (PostOf Qc mc ms free) (vx_Post XC mc ms free) := by
  obtain ⟨hrc, hrs, hfr, hlo, hws, hcw, -, hini, -⟩ := cb
  exact vx_back (bytes := bytes) (maxL := maxL) (ret := ret) hM hbl hrc hrs hfr hlo hws hcw (fun a' U hW => word_at hW (Or.inl (by first | rfl | simp [Cond.onTables, Cond.keeps, Cond.steady])) hini)
theorem vx_runV (S : CallFix p m c cc nL s args Ts own) (hM : vx_Met l y ws rm Pc Qc XC mc ms free) (cw : CallW R s args own C index y bytes maxL ret ws rm mc ms n) (hp : PreV s H C b Pc As)
    (hg : g.method = m) (hn : As.length = n) (hsize : g.locals.size = nL) (hstack : g.stack = As.reverse ++ .ref b :: rest) (hW : 2 * g.monitorRoom + (rest.map fun v => v.category).sum ≤ 8) (hdg : decode cc g.pc = .ok (.invokevirtual index, 3)) (hf : cells + mc ≤ R.cells ∧ slots + ms ≤ R.slots) :
    vx_Run p l e R s m args below meth c H locs cells slots mc ms g rest (Qc (Value.ref b :: As).toArray) XC free := by
  have hK : vx_Back l R p e below s args y 3 8 (PreOf R mc ms Pc) (PostOf Qc mc ms free) (vx_Post XC mc ms free) := vx_callBack cw.1 hM hp.1
  obtain ⟨⟨-, -, -, -, -, -, hcode, -, hy, hlen, hl⟩, hin, hse⟩ := cw
  obtain ⟨hx, hb, hml, ho, -⟩ := S
  obtain ⟨-, ⟨cellB, hcB, hoB, hclB⟩, hPc⟩ := hp
  intro T hT X
  rcases vx_callV X hx (C := C) (bytes := bytes) (maxL := maxL) (ret := ret) ho hl hin hse hcode hy hK (by rw [hT]; exact hcB) hoB hclB hg (hsize.trans hml.symm) (argsL := As) (rest := rest) (fun sig h => hn.trans (hlen sig h)) hstack hW (by rw [hb]; exact hdg)
    (fun vm₁ hW₁ => ⟨hf.1, hf.2, hPc (T.setVm vm₁) hT hW₁⟩) with ⟨v, vm₁, ⟨U', l2, c2, s2⟩, hW₁, X', ⟨g', mk, t, L, e1, e2, hq, h1, hL, h2, h3⟩, st⟩ | ⟨q, vm₁, ⟨U', l2, c2, s2⟩, hW₁, X', ⟨g', mk, t, L, E, ce, e1, e2, hq, hce, hcv, hcl, h1, hL, h2, h3⟩, st⟩
  · dsimp only [Pt.U, Pt.locs, Pt.cells, Pt.slots] at X' e1 e2 h1 h2 h3 st
    subst h1; subst h2; subst h3
    exact Or.inl ⟨v, (T.setVm vm₁).calling g' mk (Value.ref b :: As).toArray, t, U', L, hT, X', hL, e1, e2, hq, st⟩
  · dsimp only [Pt.U, Pt.locs, Pt.cells, Pt.slots] at X' e1 e2 h1 h2 h3 st hcl
    subst h1; subst h2; subst h3
    exact Or.inr ⟨q, (T.setVm vm₁).calling g' mk (Value.ref b :: As).toArray, t, U', L, E, ce, hT, X', hL, e1, e2, hq, hce, hcv, vx_cls hW₁ hcl, st⟩
theorem vx_runS (S : CallFix p m c cc nL s args Ts own) (hM : vx_Met l y ws rm Pc Qc XC mc ms free) (cw : CallB R s args own index y bytes maxL ret ws rm mc ms n ∧ (Cond.static y).before args s = true) (hp : PreS s H Pc As)
    (hg : g.method = m) (hn : As.length = n) (hsize : g.locals.size = nL) (hstack : g.stack = As.reverse ++ rest) (hW : 2 * g.monitorRoom + (rest.map fun v => v.category).sum ≤ 8) (hdg : decode cc g.pc = .ok (.invokestatic index, 3)) (hf : cells + mc ≤ R.cells ∧ slots + ms ≤ R.slots) :
    vx_Run p l e R s m args below meth c H locs cells slots mc ms g rest (Qc As.toArray) XC free := by
  have hK : vx_Back l R p e below s args y 3 8 (PreOf R mc ms Pc) (PostOf Qc mc ms free) (vx_Post XC mc ms free) := vx_callBack cw.1 hM hp.1
  obtain ⟨⟨-, -, -, -, -, -, hcode, hini, hy, hlen, hl⟩, hstt⟩ := cw
  obtain ⟨hx, hb, hml, ho, -⟩ := S
  intro T hT X
  rcases vx_callS X hx (bytes := bytes) (maxL := maxL) (ret := ret) ho hl hstt hini hcode hy hK hg (hsize.trans hml.symm) (argsL := As) (rest := rest) (fun sig h => hn.trans (hlen sig h)) hstack hW (by rw [hb]; exact hdg)
    (fun vm₁ hW₁ => ⟨hf.1, hf.2, hp.2 (T.setVm vm₁) hT hW₁⟩) with ⟨v, vm₁, ⟨U', l2, c2, s2⟩, hW₁, X', ⟨g', mk, t, L, e1, e2, hq, h1, hL, h2, h3⟩, st⟩ | ⟨q, vm₁, ⟨U', l2, c2, s2⟩, hW₁, X', ⟨g', mk, t, L, E, ce, e1, e2, hq, hce, hcv, hcl, h1, hL, h2, h3⟩, st⟩
  · dsimp only [Pt.U, Pt.locs, Pt.cells, Pt.slots] at X' e1 e2 h1 h2 h3 st
    subst h1; subst h2; subst h3
    exact Or.inl ⟨v, (T.setVm vm₁).calling g' mk As.toArray, t, U', L, hT, X', hL, e1, e2, hq, st⟩
  · dsimp only [Pt.U, Pt.locs, Pt.cells, Pt.slots] at X' e1 e2 h1 h2 h3 st hcl
    subst h1; subst h2; subst h3
    exact Or.inr ⟨q, (T.setVm vm₁).calling g' mk As.toArray, t, U', L, E, ce, hT, X', hL, e1, e2, hq, hce, hcv, vx_cls hW₁ hcl, st⟩
end Runs
section Rows
variable {p : Program} {l : Launch} {e : Env} {R : Room} {s : State} {m : MethodId} {args : Array Value} {below : List Frame} {meth : Method} {c : Code} {H : Heap} {locs : List Loc} {cells slots : Nat} {Q : State → Prop}
variable {mc ms : Nat} {free : Addr → Prop} {A0 A1 : Nat → Prop} {H0 : Heap} {a : Array Value} {pc : Nat} {ls : Array Slot} {st0 rest : List Value}
theorem vx_keep {st₀ t T' : State} {L : List Loc} (h0 : st₀.heap = H) (e1 : T'.heap = t.heap) (hS : va_S A0 H0 H locs) (hA : ∀ q, q < H.size → A1 q → A0 q) (hf : ∀ q, free q → A0 q) (hL : ∀ q ∈ L, free q.base) (hF : va_F A1 st₀ t) :
    H.size ≤ T'.heap.size ∧ (∀ q : Nat, q < H.size → ¬ A1 q → T'.heap[q]? = H[q]?) ∧ va_S A0 H0 T'.heap (locs ++ L) := by
  obtain ⟨hz, hk⟩ := hF
  rw [h0] at hz hk
  exact ⟨by rw [e1]; exact hz, fun q h1 h2 => by rw [e1]; exact hk q h1 h2,
    ⟨Nat.le_trans hS.1 (by rw [e1]; exact hz), fun q h1 h2 => by rw [e1, hk q (Nat.lt_of_lt_of_le h1 hS.1) (fun z => h2 (hA q (Nat.lt_of_lt_of_le h1 hS.1) z))]; exact hS.2.1 q h1 h2, fun q hq => by
      rcases List.mem_append.mp hq with h | h
      · exact hS.2.2 q h
      · exact hf _ (hL q h)⟩⟩
theorem vx_calli {S SX : Type} {post : Int32 → S → Prop} {px : SX → Prop} {B : S → State → Prop} {BX : String → SX → State → Prop} {AX : Nat → Prop} (hr : vx_Run p l e R s m args below meth c H locs cells slots mc ms (F0 m pc ls st0) rest (va_Qi post B A1 a) (vx_X px BX AX) free) (hS : va_S A0 H0 H locs) (hA : ∀ q, q < H.size → A1 q → A0 q) (hf : ∀ q, free q → A0 q) (hAX : ∀ q, q < H.size → AX q → A0 q)
    (kx : ∀ (E : String) (ce : Cell) (q9 : Addr) (u : SX) (t : State) (H1 : Heap) (locs1 : List Loc), t.heap = H1 → s.vm.Alike t.vm → px u → BX E u t → H.size ≤ H1.size → (∀ q : Nat, q < H.size → ¬ AX q → H1[q]? = H[q]?) → va_S A0 H0 H1 locs1 → H1[q9]? = some ce → ce.vm = .none → s.vm.findClass E = some ce.cls → vx_W p l e R s m args below meth c H1 locs1 (cells + mc) (slots + ms) Q (F0 m pc ls rest) q9)
    (kk : ∀ (r : Int32) (u : S) (t : State) (H1 : Heap) (locs1 : List Loc), t.heap = H1 → s.vm.Alike t.vm → post r u → B u t → H.size ≤ H1.size → (∀ q : Nat, q < H.size → ¬ A1 q → H1[q]? = H[q]?) → va_S A0 H0 H1 locs1 → W p l e R s m args below meth c H1 locs1 (cells + mc) (slots + ms) Q (F0 m (pc + 3) ls (.int r :: rest))) : W p l e R s m args below meth c H locs cells slots Q (F0 m pc ls st0) := by
  intro T hT X
  rcases hr T hT X with ⟨v, st₀, t, T', L, h0, X', hL, e1, e2, ⟨⟨r, u, hv, hp, hb⟩, hF⟩, st⟩ | ⟨q, st₀, t, T', L, E, ce, h0, X', hL, e1, e2, ⟨u, hp, hb, hF⟩, hce, hcv, hcl, st⟩
  · cases hv
    obtain ⟨k1, k2, k3⟩ := vx_keep h0 e1 hS hA hf hL hF
    obtain ⟨t2, a1, b1⟩ := kk r u t T'.heap (locs ++ L) e1.symm (by rw [← e2]; exact X'.warmed.alike) hp hb k1 k2 k3 T' rfl X'
    exact ⟨t2, st t2 a1, b1⟩
  · obtain ⟨k1, k2, k3⟩ := vx_keep h0 e1 hS hAX hf hL hF
    obtain ⟨t2, a1, b1⟩ := kx E ce q u t T'.heap (locs ++ L) e1.symm (by rw [← e2]; exact X'.warmed.alike) hp hb k1 k2 k3 (by rw [e1]; exact hce) hcv hcl T' rfl X'
    exact ⟨t2, st.trans a1, b1⟩
theorem vx_calll {S SX : Type} {post : Int64 → S → Prop} {px : SX → Prop} {B : S → State → Prop} {BX : String → SX → State → Prop} {AX : Nat → Prop} (hr : vx_Run p l e R s m args below meth c H locs cells slots mc ms (F0 m pc ls st0) rest (va_Ql post B A1 a) (vx_X px BX AX) free) (hS : va_S A0 H0 H locs) (hA : ∀ q, q < H.size → A1 q → A0 q) (hf : ∀ q, free q → A0 q) (hAX : ∀ q, q < H.size → AX q → A0 q)
    (kx : ∀ (E : String) (ce : Cell) (q9 : Addr) (u : SX) (t : State) (H1 : Heap) (locs1 : List Loc), t.heap = H1 → s.vm.Alike t.vm → px u → BX E u t → H.size ≤ H1.size → (∀ q : Nat, q < H.size → ¬ AX q → H1[q]? = H[q]?) → va_S A0 H0 H1 locs1 → H1[q9]? = some ce → ce.vm = .none → s.vm.findClass E = some ce.cls → vx_W p l e R s m args below meth c H1 locs1 (cells + mc) (slots + ms) Q (F0 m pc ls rest) q9)
    (kk : ∀ (r : Int64) (u : S) (t : State) (H1 : Heap) (locs1 : List Loc), t.heap = H1 → s.vm.Alike t.vm → post r u → B u t → H.size ≤ H1.size → (∀ q : Nat, q < H.size → ¬ A1 q → H1[q]? = H[q]?) → va_S A0 H0 H1 locs1 → W p l e R s m args below meth c H1 locs1 (cells + mc) (slots + ms) Q (F0 m (pc + 3) ls (.long r :: rest))) : W p l e R s m args below meth c H locs cells slots Q (F0 m pc ls st0) := by
  intro T hT X
  rcases hr T hT X with ⟨v, st₀, t, T', L, h0, X', hL, e1, e2, ⟨⟨r, u, hv, hp, hb⟩, hF⟩, st⟩ | ⟨q, st₀, t, T', L, E, ce, h0, X', hL, e1, e2, ⟨u, hp, hb, hF⟩, hce, hcv, hcl, st⟩
  · cases hv
    obtain ⟨k1, k2, k3⟩ := vx_keep h0 e1 hS hA hf hL hF
    obtain ⟨t2, a1, b1⟩ := kk r u t T'.heap (locs ++ L) e1.symm (by rw [← e2]; exact X'.warmed.alike) hp hb k1 k2 k3 T' rfl X'
    exact ⟨t2, st t2 a1, b1⟩
  · obtain ⟨k1, k2, k3⟩ := vx_keep h0 e1 hS hAX hf hL hF
    obtain ⟨t2, a1, b1⟩ := kx E ce q u t T'.heap (locs ++ L) e1.symm (by rw [← e2]; exact X'.warmed.alike) hp hb k1 k2 k3 (by rw [e1]; exact hce) hcv hcl T' rfl X'
    exact ⟨t2, st.trans a1, b1⟩
theorem vx_callf {S SX : Type} {post : UInt32 → S → Prop} {px : SX → Prop} {B : S → State → Prop} {BX : String → SX → State → Prop} {AX : Nat → Prop} (hr : vx_Run p l e R s m args below meth c H locs cells slots mc ms (F0 m pc ls st0) rest (va_Qf post B A1 a) (vx_X px BX AX) free) (hS : va_S A0 H0 H locs) (hA : ∀ q, q < H.size → A1 q → A0 q) (hf : ∀ q, free q → A0 q) (hAX : ∀ q, q < H.size → AX q → A0 q)
    (kx : ∀ (E : String) (ce : Cell) (q9 : Addr) (u : SX) (t : State) (H1 : Heap) (locs1 : List Loc), t.heap = H1 → s.vm.Alike t.vm → px u → BX E u t → H.size ≤ H1.size → (∀ q : Nat, q < H.size → ¬ AX q → H1[q]? = H[q]?) → va_S A0 H0 H1 locs1 → H1[q9]? = some ce → ce.vm = .none → s.vm.findClass E = some ce.cls → vx_W p l e R s m args below meth c H1 locs1 (cells + mc) (slots + ms) Q (F0 m pc ls rest) q9)
    (kk : ∀ (r : UInt32) (u : S) (t : State) (H1 : Heap) (locs1 : List Loc), t.heap = H1 → s.vm.Alike t.vm → post r u → B u t → H.size ≤ H1.size → (∀ q : Nat, q < H.size → ¬ A1 q → H1[q]? = H[q]?) → va_S A0 H0 H1 locs1 → W p l e R s m args below meth c H1 locs1 (cells + mc) (slots + ms) Q (F0 m (pc + 3) ls (.float r :: rest))) : W p l e R s m args below meth c H locs cells slots Q (F0 m pc ls st0) := by
  intro T hT X
  rcases hr T hT X with ⟨v, st₀, t, T', L, h0, X', hL, e1, e2, ⟨⟨r, u, hv, hp, hb⟩, hF⟩, st⟩ | ⟨q, st₀, t, T', L, E, ce, h0, X', hL, e1, e2, ⟨u, hp, hb, hF⟩, hce, hcv, hcl, st⟩
  · cases hv
    obtain ⟨k1, k2, k3⟩ := vx_keep h0 e1 hS hA hf hL hF
    obtain ⟨t2, a1, b1⟩ := kk r u t T'.heap (locs ++ L) e1.symm (by rw [← e2]; exact X'.warmed.alike) hp hb k1 k2 k3 T' rfl X'
    exact ⟨t2, st t2 a1, b1⟩
  · obtain ⟨k1, k2, k3⟩ := vx_keep h0 e1 hS hAX hf hL hF
    obtain ⟨t2, a1, b1⟩ := kx E ce q u t T'.heap (locs ++ L) e1.symm (by rw [← e2]; exact X'.warmed.alike) hp hb k1 k2 k3 (by rw [e1]; exact hce) hcv hcl T' rfl X'
    exact ⟨t2, st.trans a1, b1⟩
theorem vx_calld {S SX : Type} {post : UInt64 → S → Prop} {px : SX → Prop} {B : S → State → Prop} {BX : String → SX → State → Prop} {AX : Nat → Prop} (hr : vx_Run p l e R s m args below meth c H locs cells slots mc ms (F0 m pc ls st0) rest (va_Qd post B A1 a) (vx_X px BX AX) free) (hS : va_S A0 H0 H locs) (hA : ∀ q, q < H.size → A1 q → A0 q) (hf : ∀ q, free q → A0 q) (hAX : ∀ q, q < H.size → AX q → A0 q)
    (kx : ∀ (E : String) (ce : Cell) (q9 : Addr) (u : SX) (t : State) (H1 : Heap) (locs1 : List Loc), t.heap = H1 → s.vm.Alike t.vm → px u → BX E u t → H.size ≤ H1.size → (∀ q : Nat, q < H.size → ¬ AX q → H1[q]? = H[q]?) → va_S A0 H0 H1 locs1 → H1[q9]? = some ce → ce.vm = .none → s.vm.findClass E = some ce.cls → vx_W p l e R s m args below meth c H1 locs1 (cells + mc) (slots + ms) Q (F0 m pc ls rest) q9)
    (kk : ∀ (r : UInt64) (u : S) (t : State) (H1 : Heap) (locs1 : List Loc), t.heap = H1 → s.vm.Alike t.vm → post r u → B u t → H.size ≤ H1.size → (∀ q : Nat, q < H.size → ¬ A1 q → H1[q]? = H[q]?) → va_S A0 H0 H1 locs1 → W p l e R s m args below meth c H1 locs1 (cells + mc) (slots + ms) Q (F0 m (pc + 3) ls (.double r :: rest))) : W p l e R s m args below meth c H locs cells slots Q (F0 m pc ls st0) := by
  intro T hT X
  rcases hr T hT X with ⟨v, st₀, t, T', L, h0, X', hL, e1, e2, ⟨⟨r, u, hv, hp, hb⟩, hF⟩, st⟩ | ⟨q, st₀, t, T', L, E, ce, h0, X', hL, e1, e2, ⟨u, hp, hb, hF⟩, hce, hcv, hcl, st⟩
  · cases hv
    obtain ⟨k1, k2, k3⟩ := vx_keep h0 e1 hS hA hf hL hF
    obtain ⟨t2, a1, b1⟩ := kk r u t T'.heap (locs ++ L) e1.symm (by rw [← e2]; exact X'.warmed.alike) hp hb k1 k2 k3 T' rfl X'
    exact ⟨t2, st t2 a1, b1⟩
  · obtain ⟨k1, k2, k3⟩ := vx_keep h0 e1 hS hAX hf hL hF
    obtain ⟨t2, a1, b1⟩ := kx E ce q u t T'.heap (locs ++ L) e1.symm (by rw [← e2]; exact X'.warmed.alike) hp hb k1 k2 k3 (by rw [e1]; exact hce) hcv hcl T' rfl X'
    exact ⟨t2, st.trans a1, b1⟩
theorem vx_callv {S SX : Type} {post : S → Prop} {px : SX → Prop} {B : S → State → Prop} {BX : String → SX → State → Prop} {AX : Nat → Prop} (hr : vx_Run p l e R s m args below meth c H locs cells slots mc ms (F0 m pc ls st0) rest (va_Qv post B A1 a) (vx_X px BX AX) free) (hS : va_S A0 H0 H locs) (hA : ∀ q, q < H.size → A1 q → A0 q) (hf : ∀ q, free q → A0 q) (hAX : ∀ q, q < H.size → AX q → A0 q)
    (kx : ∀ (E : String) (ce : Cell) (q9 : Addr) (u : SX) (t : State) (H1 : Heap) (locs1 : List Loc), t.heap = H1 → s.vm.Alike t.vm → px u → BX E u t → H.size ≤ H1.size → (∀ q : Nat, q < H.size → ¬ AX q → H1[q]? = H[q]?) → va_S A0 H0 H1 locs1 → H1[q9]? = some ce → ce.vm = .none → s.vm.findClass E = some ce.cls → vx_W p l e R s m args below meth c H1 locs1 (cells + mc) (slots + ms) Q (F0 m pc ls rest) q9)
    (kk : ∀ (u : S) (t : State) (H1 : Heap) (locs1 : List Loc), t.heap = H1 → s.vm.Alike t.vm → post u → B u t → H.size ≤ H1.size → (∀ q : Nat, q < H.size → ¬ A1 q → H1[q]? = H[q]?) → va_S A0 H0 H1 locs1 → W p l e R s m args below meth c H1 locs1 (cells + mc) (slots + ms) Q (F0 m (pc + 3) ls (rest))) : W p l e R s m args below meth c H locs cells slots Q (F0 m pc ls st0) := by
  intro T hT X
  rcases hr T hT X with ⟨v, st₀, t, T', L, h0, X', hL, e1, e2, ⟨⟨u, hv, hp, hb⟩, hF⟩, st⟩ | ⟨q, st₀, t, T', L, E, ce, h0, X', hL, e1, e2, ⟨u, hp, hb, hF⟩, hce, hcv, hcl, st⟩
  · cases hv
    obtain ⟨k1, k2, k3⟩ := vx_keep h0 e1 hS hA hf hL hF
    obtain ⟨t2, a1, b1⟩ := kk u t T'.heap (locs ++ L) e1.symm (by rw [← e2]; exact X'.warmed.alike) hp hb k1 k2 k3 T' rfl X'
    exact ⟨t2, st t2 a1, b1⟩
  · obtain ⟨k1, k2, k3⟩ := vx_keep h0 e1 hS hAX hf hL hF
    obtain ⟨t2, a1, b1⟩ := kx E ce q u t T'.heap (locs ++ L) e1.symm (by rw [← e2]; exact X'.warmed.alike) hp hb k1 k2 k3 (by rw [e1]; exact hce) hcv hcl T' rfl X'
    exact ⟨t2, st.trans a1, b1⟩
/-- caught by the row x of this method's table; the rows ahead don't take it -/
theorem vx_catch {own name : String} {E : String} {ce : Cell} {q : Addr} (hown : s.vm.findClass own = some m.cls) (pre : List ExceptionTableEntry) (x : ExceptionTableEntry) (suf : List ExceptionTableEntry) (hsplit : c.exceptionTable.toList = pre ++ x :: suf)
    (hpass : ∀ z ∈ pre, covers z pc = false ∨ (z.catchType ≠ 0 ∧ ∃ nm : String, (Cond.classLink own z.catchType nm).before args s = true ∧ va_Nc E nm s)) (hx : covers x pc = true) (h0 : x.catchType ≠ 0)
    (hlink : (Cond.classLink own x.catchType name).before args s = true) (hcast : (Cond.castable E name).before args s = true) (hcell : H[q]? = some ce) (hv : ce.vm = .none) (hcl : s.vm.findClass E = some ce.cls)
    (kk : W p l e R s m args below meth c H locs cells slots Q (F0 m x.handlerPc ls [.ref q])) : vx_W p l e R s m args below meth c H locs cells slots Q (F0 m pc ls rest) q := by
  intro T hT X
  have hpl : e.platform.magicAccessors = ({} : Platform).magicAccessors := by rw [X.admits.platform]
  obtain ⟨c3, c4, hc3, hc4, hasg⟩ := Cond.castable_spec hcast
  cases Option.some.inj (hc3.symm.trans hcl)
  obtain ⟨c5, hc5, hcl5⟩ := Cond.classLink_spec hown hlink e.platform hpl
  cases Option.some.inj (hc4.symm.trans hc5)
  obtain ⟨vm', X', st⟩ := X.thenCaughtThrough q (g := F0 m pc ls rest) rfl (Steps.refl _) (by rw [hT]; exact hcell) (by rw [hv]; rfl) (by obtain ⟨k9, h9, -⟩ := Vm.findClass_spec hcl; exact ⟨k9, h9⟩) pre x suf hsplit
    (fun z hz => by
      rcases hpass z hz with h | ⟨hz0, nm, hl1, hn1⟩
      · exact Or.inl h
      · obtain ⟨c6, hc6, hcl6⟩ := Cond.classLink_spec hown hl1 e.platform hpl
        obtain ⟨a8, b8, h1, h2, h3⟩ := hn1
        cases Option.some.inj (h1.symm.trans hcl)
        cases Option.some.inj (h2.symm.trans hc6)
        exact Or.inr ⟨hz0, _, hcl6, h3⟩) hx (Or.inr ⟨h0, c4, hcl5, hasg⟩)
  obtain ⟨t, a1, b1⟩ := kk (T.setVm vm') hT X'
  exact ⟨t, st.trans a1, b1⟩
end Rows
section Ends
variable {p : Program} {l : Launch} {e : Env} {R : Room} {s : State} {m : MethodId} {args : Array Value} {below : List Frame} {meth : Method} {c : Code} {H : Heap} {locs : List Loc} {cells slots : Nat} {Q : State → Prop}
variable {mc ms : Nat} {free : Addr → Prop} {A0 A1 : Nat → Prop} {H0 : Heap} {a : Array Value} {ls : Array Slot} {st0 rest : List Value}
variable {Qc : Array Value → State → Outcome → State → Prop} {XC : String → State → State → Prop}
/-- what a body that may throw owes at its end -/
def vx_MQ (below : List Frame) (Qc : Array Value → State → Outcome → State → Prop) (XC : String → State → State → Prop) (a : Array Value) (s : State) (mc ms : Nat) (free : Addr → Prop) : State → Prop := fun t =>
  ∃ o, t.status = .running ∧ Ended t below o ∧ vx_Q Qc XC mc ms free a s o t
theorem vx_ret {g : JFrame} {mc ms : Nat} (k : W p l e R s m args below meth c H locs cells slots (MQ below Qc args s mc ms free) g) : W p l e R s m args below meth c H locs cells slots (vx_MQ below Qc XC args s mc ms free) g := by
  intro T hT X
  obtain ⟨t, a1, o, b1, b2, b3, b4⟩ := k T hT X
  exact ⟨t, a1, o, b1, b2, Or.inl ⟨b3, b4⟩⟩
/-- not caught here: it goes on to the caller -/
theorem vx_widen {g : JFrame} {q : Addr} {k n : Nat} (h1 : cells ≤ k) (h2 : slots ≤ n) (kk : vx_W p l e R s m args below meth c H locs k n Q g q) : vx_W p l e R s m args below meth c H locs cells slots Q g q := fun T hT X => kk T hT (stand_widen X h1 h2)
theorem vx_out {pc : Nat} {E : String} {ce : Cell} {q : Addr} {mc ms : Nat} (hout : ∀ x ∈ c.exceptionTable.toList, covers x pc = false) (hlocks : meth.locks = false) (hcell : H[q]? = some ce) (hv : ce.vm = .none) (hcl : s.vm.findClass E = some ce.cls)
    (hx : ∀ t : State, t.heap = H → s.vm.Alike t.vm → XC E s t) (hf : ∀ z ∈ locs, free z.base) (hc : cells ≤ mc) (hs : slots ≤ ms) :
    vx_W p l e R s m args below meth c H locs cells slots (vx_MQ below Qc XC args s mc ms free) (F0 m pc ls rest) q := by
  intro T hT X
  obtain ⟨st1, hrun, hend, hW, hsm⟩ := X.leaveThrown q (g := F0 m pc ls rest) rfl rfl rfl hout hlocks
  have hcell9 : (T.setFrames (.throwing q :: below)).heap[q]? = some ce := by
    show T.heap[q]? = some ce
    rw [hT]; exact hcell
  exact ⟨_, st1, .threw q, hrun, hend, Or.inr ⟨q, rfl, E, ce, locs, hx _ hT hW.alike, hcell9, hv, hcl, hW, hsm.mono hc hs, hf⟩⟩
theorem vx_frame {U : State} {k n : Nat} (h : s.sameButNew ({ U with vm := s.vm } : State) locs k n) : s.heap.size ≤ U.heap.size ∧ ∀ q : Nat, q < s.heap.size → (∀ z ∈ locs, z.base ≠ q) → U.heap[q]? = s.heap[q]? := by
  obtain ⟨-, h2, -, -, -, h6⟩ := h
  refine ⟨h2, fun q hq hz => ?_⟩
  obtain ⟨c9, e1, e2, e3, e4⟩ := h6 q _ (Array.getElem?_eq_getElem hq)
  have hs : c9.slots = (s.heap[q]).slots := Array.ext_getElem? fun i => e4 i fun hm => hz _ hm rfl
  have h9 : c9 = s.heap[q] := by
    rw [hs] at e2
    exact e2
  have e5 : U.heap[q]? = some c9 := e1
  rw [e5, h9, Array.getElem?_eq_getElem hq]
/-- the words of a throw but the four that speak of the heap -/
def vx_no (w : Cond) : Bool := decide (w ≠ .isRef (.static Bundle.tN "UNASSIGNED_STACK" Bundle.steD)) && decide (w ≠ .isRef (.static Bundle.tN "SUPPRESSED_SENTINEL" Bundle.listD)) && decide (w ≠ .laysStatic Bundle.tN "UNASSIGNED_STACK" Bundle.steD) && decide (w ≠ .laysStatic Bundle.tN "SUPPRESSED_SENTINEL" Bundle.listD)
def vx_at0 (own : String) (ic : Nat) (X : String) (names : List String) : List Cond := (Bundle.ownAtoms0 own ic X names).filter vx_no
def vx_atS (own : String) (ic : Nat) (X : String) (names : List String) : List Cond := (Bundle.ownAtoms own ic X names).filter vx_no
/-- a word that the tables alone decide, or a good one -/
def vx_ot (w : Cond) : Bool := w.onTables || goodWord w
theorem vx_ot_at {args a' : Array Value} {s U : State} {w : Cond} (hW : s.WarmedH U.vm) (hvm : s.vm = U.vm) (hg : vx_ot w = true) (h : w.before args s = true) : w.before a' U = true := by
  simp only [vx_ot, Bool.or_eq_true] at hg
  rcases hg with hg | hg
  · exact va_tabs hg hvm h
  · exact word_at hW (good_of_word hg) h
/-- a list's words: the good ones out of the method's own list, the others by premises of their own -/
theorem vx_hat {args : Array Value} {s : State} {L B : List Cond} (h1 : ∀ w ∈ L.filter goodWord, w.before args s = true) (h2 : ∀ w ∈ L.filter (fun w => !goodWord w), w ∈ B) (h3 : ∀ w ∈ B, w.before args s = true) : ∀ w ∈ L, w.before args s = true := by
  intro w hw
  by_cases g : goodWord w = true
  · exact h1 w (List.mem_filter.mpr ⟨hw, g⟩)
  · refine h3 w (h2 w (List.mem_filter.mpr ⟨hw, ?_⟩))
    show (!goodWord w) = true
    cases hgw : goodWord w
    · rfl
    · exact absurd hgw g
theorem vx_c {args : Array Value} {s : State} {w : Cond} {B : List Cond} (h : w.before args s = true) (t : ∀ w ∈ B, w.before args s = true) : ∀ w' ∈ w :: B, w'.before args s = true := fun w' h' => (List.mem_cons.mp h').elim (fun e => by rw [e]; exact h) (t w')
theorem vx_n {args : Array Value} {s : State} : ∀ w ∈ ([] : List Cond), w.before args s = true := fun _ h => nomatch h
theorem vx_own {args : Array Value} {s : State} {L : List Cond} (h1 : ∀ w ∈ L.filter vx_no, w.before args s = true)
    (hU : (Cond.isRef (.static Bundle.tN "UNASSIGNED_STACK" Bundle.steD)).before args s = true) (hN : (Cond.isRef (.static Bundle.tN "SUPPRESSED_SENTINEL" Bundle.listD)).before args s = true)
    (lU : (Cond.laysStatic Bundle.tN "UNASSIGNED_STACK" Bundle.steD).before args s = true) (lN : (Cond.laysStatic Bundle.tN "SUPPRESSED_SENTINEL" Bundle.listD).before args s = true) : ∀ w ∈ L, w.before args s = true := by
  intro w hw
  by_cases e1 : w = .isRef (.static Bundle.tN "UNASSIGNED_STACK" Bundle.steD)
  · rw [e1]; exact hU
  · by_cases e2 : w = .isRef (.static Bundle.tN "SUPPRESSED_SENTINEL" Bundle.listD)
    · rw [e2]; exact hN
    · by_cases e3 : w = .laysStatic Bundle.tN "UNASSIGNED_STACK" Bundle.steD
      · rw [e3]; exact lU
      · by_cases e4 : w = .laysStatic Bundle.tN "SUPPRESSED_SENTINEL" Bundle.listD
        · rw [e4]; exact lN
        · exact h1 w (List.mem_filter.mpr ⟨hw, by unfold vx_no; rw [decide_eq_true e1, decide_eq_true e2, decide_eq_true e3, decide_eq_true e4]; rfl⟩)
/-- where a static field lies, its class's statics cell in H -/
def vx_L (C n d : String) (A : Nat → Prop) (U : State) (H : Heap) : Prop := ∃ (c : ClassId) (k : Class) (i : Nat) (f : Field) (a : Nat) (cell : Cell), U.vm.findClass C = some c ∧ U.fieldFound? C n d = some (c, k, i, f) ∧ f.isStatic = true ∧ k.statics = some a ∧ H[a]? = some cell ∧ cell.vm.isStatics = true ∧ cell.cls = c ∧ f.slot < cell.slots.size ∧ k.staticTypes[f.slot]? = some f.type ∧ ¬ A a
theorem vx_L.moved {C n d : String} {A : Nat → Prop} {u U : State} {H : Heap} (hvm : u.vm.Alike U.vm) (h : vx_L C n d A u H) : vx_L C n d A U H := by
  obtain ⟨c, k, i, f, a, cell, h1, h2, h3, h4, h5, h6, h7, h8, h9, h10⟩ := h
  obtain ⟨k', hi', he⟩ := State.fieldFound?_setVm hvm h2
  exact ⟨c, k', i, f, a, cell, by rw [hvm.findClass]; exact h1, hi', h3, by rw [he]; exact h4, h5, h6, h7, h8, by rw [he]; exact h9, h10⟩
theorem vx_L.kept {C n d : String} {A : Nat → Prop} {U : State} {H H1 : Heap} (h : vx_L C n d A U H) (hq : ∀ a : Nat, a < H.size → ¬ A a → H1[a]? = H[a]?) : vx_L C n d A U H1 := by
  obtain ⟨c, k, i, f, a, cell, h1, h2, h3, h4, h5, h6, h7, h8, h9, h10⟩ := h
  exact ⟨c, k, i, f, a, cell, h1, h2, h3, h4, by rw [hq a (Array.getElem?_eq_some_iff.mp h5).1 h10]; exact h5, h6, h7, h8, h9, h10⟩
theorem vx_L.narrow {C n d : String} {A B : Nat → Prop} {U : State} {H : Heap} (h : vx_L C n d A U H) (hAB : ∀ q, B q → A q) : vx_L C n d B U H := by
  obtain ⟨c, k, i, f, a, cell, h1, h2, h3, h4, h5, h6, h7, h8, h9, h10⟩ := h
  exact ⟨c, k, i, f, a, cell, h1, h2, h3, h4, h5, h6, h7, h8, h9, fun z => h10 (hAB _ z)⟩
theorem vx_L.word {C n d : String} {A : Nat → Prop} {s : State} {args : Array Value} (h : vx_L C n d A s s.heap) : (Cond.laysStatic C n d).before args s = true := by
  obtain ⟨c, k, i, f, a, cell, h1, h2, h3, h4, h5, h6, h7, h8, h9, -⟩ := h
  show (Cond.laysStatic C n d).holds args s none s [] = true
  exact Cond.laysStatic_of h1 h2 h3 h4 h5 h6 h7 h8 h9
/-- .. and what it holds: null or some reference -/
def vx_Zq (C n d : String) (A : Nat → Prop) (U : State) (H : Heap) : Prop := va_Zq C n d A U H ∧ vx_L C n d A U H
theorem vx_Zq.moved {C n d : String} {A : Nat → Prop} {u U : State} {H : Heap} (hvm : u.vm.Alike U.vm) (h : vx_Zq C n d A u H) : vx_Zq C n d A U H := ⟨va_Zq.moved hvm h.1, vx_L.moved hvm h.2⟩
theorem vx_Zq.kept {C n d : String} {A : Nat → Prop} {U : State} {H H1 : Heap} (h : vx_Zq C n d A U H) (hq : ∀ a : Nat, a < H.size → ¬ A a → H1[a]? = H[a]?) : vx_Zq C n d A U H1 := ⟨va_Zq.kept h.1 hq, vx_L.kept h.2 hq⟩
theorem vx_Zq.narrow {C n d : String} {A B : Nat → Prop} {U : State} {H : Heap} (h : vx_Zq C n d A U H) (hAB : ∀ q, B q → A q) : vx_Zq C n d B U H := ⟨va_Zq.narrow h.1 hAB, vx_L.narrow h.2 hAB⟩
theorem vx_Zqof {args : Array Value} {s : State} {C n d : String} {A : Nat → Prop} (hl : (Cond.laysStatic C n d).before args s = true) (hini : (Cond.initialized C).before args s = true) (h : (Cond.isRef (.static C n d)).before args s = true) (hA : ∀ a : Nat, a < s.heap.size → ¬ A a) : vx_Zq C n d A s s.heap := by
  refine ⟨va_Zqof hl hini h hA, ?_⟩
  obtain ⟨c, k, i, f, a, cell, h1, h2, h3, h4, h5, h6, h7, h8, h9⟩ := Cond.laysStatic_spec hl
  exact ⟨c, k, i, f, a, cell, h1, h2, h3, h4, h5, h6, h7, h8, h9, hA a (Array.getElem?_eq_some_iff.mp h5).1⟩
theorem vx_isRef {C n d : String} {v : Value} {A : Nat → Prop} {s : State} {args : Array Value} (h : va_Z C n d v A s s.heap) (hv : v.isRef = true) : (Cond.isRef (.static C n d)).before args s = true := by
  obtain ⟨cf, kf, fi, f, a, cell, h1, h2, h3, h4, h5, h6, h7, -⟩ := h
  have he : (Term.static C n d).eval args s none [] s = some v := by
    simp [Term.eval, State.fieldNamed?, h1, h2, h4, h5, h6, h7]
  simp only [Cond.before, Cond.holds, Cond.value, he]
  cases v <;> simp_all [Value.isRef]
theorem vx_isRefq {C n d : String} {A : Nat → Prop} {s : State} {args : Array Value} (h : va_Zq C n d A s s.heap) : (Cond.isRef (.static C n d)).before args s = true := by
  rcases h with h | ⟨t, h⟩
  · exact vx_isRef h rfl
  · exact vx_isRef h rfl
/-- the same frame, seen from here: as if the method were called anew in this heap -/
theorem vx_rebase {T : State} (X : Stand p l e R s m args below meth c T locs cells slots) {R' : Room} (hf : R'.frames ≤ R.frames) (hl : R'.locals ≤ R.locals) (hc : cells + R'.cells ≤ R.cells) (hs : slots + R'.slots ≤ R.slots) :
    Stand p l e R' ((T.setVm s.vm).setFrames (.invoking m args :: below)) m args below meth c T [] 0 0 := by
  have htop : (T.setVm s.vm).topJava?.isSome := X.here.top
  have hF : ((T.setVm s.vm).setFrames (.invoking m args :: below)).frames = .invoking m args :: below := State.frames_setFrames _ (State.cur_lt_of_top htop)
  obtain ⟨g₀, hg0⟩ := Option.isSome_iff_exists.mp htop
  obtain ⟨r, hr⟩ := State.topJava?_eq_some.mp hg0
  have hl9 : e.platform.stackLimits (T.setVm s.vm).me = e.platform.stackLimits s.me := X.limits
  have hb9 : (T.setVm s.vm).me.stackBytes = s.me.stackBytes := X.bytes
  refine ⟨X.admits, X.cas, X.clock, hF, ?_, X.hears, X.method, X.code, X.here, X.tail, X.warmed, ?_, ?_, ?_⟩
  · have h := X.room
    have hU : ((T.setVm s.vm).setFrames (.invoking m args :: below)).localsInUse = s.localsInUse := by
      rw [State.localsInUse_invoking hF (meth := meth) (c := c) X.method X.code, State.localsInUse_invoking X.frames X.method X.code]
    simp only [State.hasRoom, Bool.and_eq_true, decide_eq_true_eq] at h ⊢
    obtain ⟨⟨⟨⟨h1, h2, h3, h4, h5, h6⟩, h7⟩, h8⟩, h9⟩ := h
    rw [X.frames, List.length_cons] at h2 h3
    have q1 := X.heapSize
    have q2 := X.used
    simp only [hF, hU, List.length_cons, State.stackLimits_setFrames, State.stackBytes_setFrames, hl9, hb9]
    refine ⟨⟨⟨⟨by omega, by omega, by omega, by omega, by omega, h6⟩, ?_⟩, ?_⟩, X.book⟩
    · show T.heap.size + R'.cells ≤ e.platform.maxCells
      omega
    · show T.slotsUsed + R'.slots ≤ e.platform.maxSlots
      omega
  · rw [State.stackLimits_setFrames]; rfl
  · rw [State.stackBytes_setFrames]; rfl
  · refine ⟨?_, Nat.le_refl _, Nat.le_refl _, ?_, ?_, fun a c9 h9 => ⟨c9, h9, rfl, rfl, fun _ _ => rfl⟩⟩
    · obtain ⟨t, ht, -⟩ := State.frames_cons hr
      show T.setVm s.vm = { ((T.setVm s.vm).setFrames (.invoking m args :: below)).setFrames (T.setVm s.vm).frames with heap := T.heap, slotsUsed := T.slotsUsed }
      rw [State.setFrames_setFrames, State.setFrames_self ht]
      rfl
    · show T.slotsUsed = T.slotsUsed + ((T.heap.toList.drop T.heap.size).map (·.slots.size)).sum
      rw [List.drop_eq_nil_of_le (Nat.le_of_eq Array.length_toList)]
      rfl
    · show ((T.heap.toList.drop T.heap.size).map (·.slots.size)).sum ≤ 0
      rw [List.drop_eq_nil_of_le (Nat.le_of_eq Array.length_toList)]
      exact Nat.le_refl _
/-- 'throw new E()': new; dup; invokespecial; athrow -/
theorem vx_throw0 {cc : ByteArray} {pc : Nat} (hexec : p.tables.exec = Jvm.exec) (hb : c.code = cc) (hl : l.stackTraces = false) {own cls : String} {names : List String} {ik ic mc ms : Nat} {A : Nat → Prop}
    (hown : s.vm.findClass own = some m.cls) (hcls : Bundle.fit cls = true) (hnames : ∀ n ∈ names, Bundle.fit n = true)
    (hk : (Cond.classLink own ik cls).before args s = true) (hini : (Cond.initialized cls).before args s = true) (hat : ∀ w ∈ vx_at0 own ic cls names, w.before args s = true)
    (hgood : ∀ w ∈ Cond.classLink own ik cls :: Cond.initialized cls :: vx_at0 own ic cls names, vx_ot w = true)
    (hU : vx_Zq Bundle.tN "UNASSIGNED_STACK" Bundle.steD A s s.heap) (hN : vx_Zq Bundle.tN "SUPPRESSED_SENTINEL" Bundle.listD A s s.heap) (hS : va_S A s.heap H locs) (hsize : ls.size = c.maxLocals)
    (d0 : decode cc pc = .ok (.new ik, 3)) (d3 : decode cc (pc + 3) = .ok (.dup, 1)) (d4 : decode cc (pc + 4) = .ok (.invokespecial ic, 3)) (d7 : decode cc (pc + 7) = .ok (.athrow, 1))
    (hout : ∀ x ∈ c.exceptionTable.toList, covers x (pc + 7) = false)
    (hRframes : names.length + 3 < R.frames) (hRlocals : (rest.map fun v => v.category).sum + (13 * (names.length + 1) + 42) ≤ R.locals) (hRcells : cells + 1 ≤ R.cells) (hRslots : slots + 6 ≤ R.slots) (hlocks : meth.locks = false)
    (hx : ∀ t : State, s.vm.Alike t.vm → H.size ≤ t.heap.size → (∀ q : Nat, q < H.size → t.heap[q]? = H[q]?) → XC cls s t)
    (hf : ∀ z ∈ locs, free z.base) (hc : cells + 1 ≤ mc) (hs : slots + 6 ≤ ms) :
    W p l e R s m args below meth c H locs cells slots (vx_MQ below Qc XC args s mc ms free) (F0 m pc ls rest) := by
  intro T hT X
  have htr : e.platform.stackTraces = false := (show e.platform.stackTraces = l.stackTraces by rw [X.admits.platform]).trans hl
  have Y := vx_rebase X (R' := { frames := R.frames, locals := R.locals, cells := 1, slots := 6 }) (Nat.le_refl _) (Nat.le_refl _) hRcells hRslots
  obtain ⟨s', hA⟩ : ∃ z, z = (T.setVm s.vm).setFrames (.invoking m args :: below) := ⟨_, rfl⟩
  rw [← hA] at Y
  have hvm : s'.vm = s.vm := by rw [hA]; rfl
  have hhp : s'.heap = H := by rw [hA]; exact hT
  have hW0 : s.WarmedH s'.vm := by rw [hvm]; exact State.WarmedH.refl s
  have hat' : ∀ w ∈ vx_at0 own ic cls names, w.before args s' = true := fun w hw => vx_ot_at hW0 hvm.symm (hgood w (List.mem_cons_of_mem _ (List.mem_cons_of_mem _ hw))) (hat w hw)
  have hk' : (Cond.classLink own ik cls).before args s' = true := vx_ot_at hW0 hvm.symm (hgood _ List.mem_cons_self) hk
  have hini' : (Cond.initialized cls).before args s' = true := vx_ot_at hW0 hvm.symm (hgood _ (List.mem_cons_of_mem _ List.mem_cons_self)) hini
  have hU' : vx_Zq Bundle.tN "UNASSIGNED_STACK" Bundle.steD A s' s'.heap := by rw [hhp]; exact vx_Zq.moved hW0.alike (hU.kept hS.2.1)
  have hN' : vx_Zq Bundle.tN "SUPPRESSED_SENTINEL" Bundle.listD A s' s'.heap := by rw [hhp]; exact vx_Zq.moved hW0.alike (hN.kept hS.2.1)
  have h : ∀ w ∈ Bundle.ownAtoms0 own ic cls names, w.before args s' = true := vx_own hat' (vx_isRefq hU'.1) (vx_isRefq hN'.1) hU'.2.word hN'.2.word
  have hown' : s'.vm.findClass own = some m.cls := by rw [hvm]; exact hown
  have hins : (Cond.instantiable cls 6).before args s' = true := h _ (by simp [Bundle.ownAtoms0])
  obtain ⟨vm₁, cX, kX, hfX, hkX, -, -, X₁, st1⟩ := Y.newCold hexec (own := own) (C := cls) (index := ik) (n := 6) hown' hk' hins hini'
    (g := F0 m pc ls rest) rfl (by rw [hb]; exact d0) (Nat.le_refl _) (Nat.le_refl _)
  generalize hT1 : (T.setVm vm₁).pushCell { cls := cX, slots := kX.instanceTypes.map defaultValue, vm := .none } = T1 at X₁ st1
  have hcat : (Value.ref T.heap.size).category = 1 := rfl
  have hcellA : T1.heap[T.heap.size]? = some (freshCell cX kX) := by rw [← hT1]; exact State.heap_pushCell_size _ _
  have d3' : decode c.code (pc + 3) = .ok (.dup, 1) := by rw [hb]; exact d3
  obtain ⟨U, hsteps, hrun, hend, hW, hsame, ce, hce, hO⟩ := X₁.ctorThrow0 hexec htr (own := own) (cls := cls) (names := names) (ic := ic) hown' hcls hnames h (fun x hx => nomatch hx) hfX hkX hcellA (by rw [hhp, hT]; exact Nat.le_refl _)
    (g := { method := m, pc := pc + 4, locals := ls, stack := .ref T.heap.size :: .ref T.heap.size :: rest, locked := none }) rfl hsize rfl rfl (rest := rest) rfl
    (by rw [hb]; exact d4) (by rw [hb]; exact d7) hout hRframes (by simp only [List.map_cons, List.sum_cons, hcat]; omega) hlocks
  obtain ⟨f1, f2⟩ := vx_frame hsame
  rw [hhp] at f1 f2
  have hWs : s.WarmedH U.vm := State.WarmedH.trans hW0 hW
  have hcl : s.vm.findClass cls = some ce.cls := by
    have h9 := hO.cls
    rw [hvm] at h9
    exact h9
  have hall : s.sameButNew ({ U with vm := s.vm } : State) locs mc ms := by
    subst hA
    obtain ⟨e1, e2⟩ := hsame
    rw [State.setFrames_setFrames] at e1
    have h2 : (T.setVm s.vm).sameButNew ({ U with vm := s.vm } : State) [] (0 + 1) (0 + 6) := ⟨e1, e2⟩
    have h3 := X.same.trans h2
    rw [List.append_nil] at h3
    exact h3.mono hc hs
  refine ⟨U, ?_, .threw T.heap.size, hrun, hend, Or.inr ⟨T.heap.size, rfl, cls, ce, locs, hx U hWs.alike f1 (fun q hq => f2 q hq (fun z hz => nomatch hz)), hce, hO.vm, hcl, hWs, hall, hf⟩⟩
  refine st1 _ ?_
  show Steps p.tables e below (T1.setTop { method := m, pc := pc + 3, locals := ls, stack := .ref T.heap.size :: rest, locked := none }) _
  jvm_step X₁.here [X₁.here.top, hexec, d3', Value.category]
  exact hsteps
/-- 'throw new E("text")': new; dup; ldc; invokespecial; athrow -/
theorem vx_throwS {cc : ByteArray} {pc : Nat} (hexec : p.tables.exec = Jvm.exec) (hb : c.code = cc) (hl : l.stackTraces = false) {own cls text : String} {names : List String} {ik is ic mc ms sa : Nat} {A : Nat → Prop}
    (hown : s.vm.findClass own = some m.cls) (hcls : Bundle.fit cls = true) (hnames : ∀ n ∈ names, Bundle.fit n = true)
    (hk : (Cond.classLink own ik cls).before args s = true) (hini : (Cond.initialized cls).before args s = true) (hstr : vk_R own is text sa s) (hat : ∀ w ∈ vx_atS own ic cls names, w.before args s = true)
    (hgood : ∀ w ∈ Cond.classLink own ik cls :: Cond.initialized cls :: vx_atS own ic cls names, vx_ot w = true)
    (hU : vx_Zq Bundle.tN "UNASSIGNED_STACK" Bundle.steD A s s.heap) (hN : vx_Zq Bundle.tN "SUPPRESSED_SENTINEL" Bundle.listD A s s.heap) (hS : va_S A s.heap H locs) (hsize : ls.size = c.maxLocals)
    (d0 : decode cc pc = .ok (.new ik, 3)) (d3 : decode cc (pc + 3) = .ok (.dup, 1)) (d4 : decode cc (pc + 4) = .ok (.ldc is, 2)) (d6 : decode cc (pc + 6) = .ok (.invokespecial ic, 3)) (d9 : decode cc (pc + 9) = .ok (.athrow, 1))
    (hout : ∀ x ∈ c.exceptionTable.toList, covers x (pc + 9) = false)
    (hRframes : names.length + 3 < R.frames) (hRlocals : (rest.map fun v => v.category).sum + (13 * (names.length + 1) + 43) ≤ R.locals) (hRcells : cells + 1 ≤ R.cells) (hRslots : slots + 6 ≤ R.slots) (hlocks : meth.locks = false)
    (hx : ∀ t : State, s.vm.Alike t.vm → H.size ≤ t.heap.size → (∀ q : Nat, q < H.size → t.heap[q]? = H[q]?) → XC cls s t)
    (hf : ∀ z ∈ locs, free z.base) (hc : cells + 1 ≤ mc) (hs : slots + 6 ≤ ms) :
    W p l e R s m args below meth c H locs cells slots (vx_MQ below Qc XC args s mc ms free) (F0 m pc ls rest) := by
  intro T hT X
  have htr : e.platform.stackTraces = false := (show e.platform.stackTraces = l.stackTraces by rw [X.admits.platform]).trans hl
  have Y := vx_rebase X (R' := { frames := R.frames, locals := R.locals, cells := 1, slots := 6 }) (Nat.le_refl _) (Nat.le_refl _) hRcells hRslots
  obtain ⟨s', hA⟩ : ∃ z, z = (T.setVm s.vm).setFrames (.invoking m args :: below) := ⟨_, rfl⟩
  rw [← hA] at Y
  have hvm : s'.vm = s.vm := by rw [hA]; rfl
  have hhp : s'.heap = H := by rw [hA]; exact hT
  have hW0 : s.WarmedH s'.vm := by rw [hvm]; exact State.WarmedH.refl s
  have hat' : ∀ w ∈ vx_atS own ic cls names, w.before args s' = true := fun w hw => vx_ot_at hW0 hvm.symm (hgood w (List.mem_cons_of_mem _ (List.mem_cons_of_mem _ hw))) (hat w hw)
  have hk' : (Cond.classLink own ik cls).before args s' = true := vx_ot_at hW0 hvm.symm (hgood _ List.mem_cons_self) hk
  have hini' : (Cond.initialized cls).before args s' = true := vx_ot_at hW0 hvm.symm (hgood _ (List.mem_cons_of_mem _ List.mem_cons_self)) hini
  have hU' : vx_Zq Bundle.tN "UNASSIGNED_STACK" Bundle.steD A s' s'.heap := by rw [hhp]; exact vx_Zq.moved hW0.alike (hU.kept hS.2.1)
  have hN' : vx_Zq Bundle.tN "SUPPRESSED_SENTINEL" Bundle.listD A s' s'.heap := by rw [hhp]; exact vx_Zq.moved hW0.alike (hN.kept hS.2.1)
  have h : ∀ w ∈ Bundle.ownAtoms own ic cls names, w.before args s' = true := vx_own hat' (vx_isRefq hU'.1) (vx_isRefq hN'.1) hU'.2.word hN'.2.word
  have hown' : s'.vm.findClass own = some m.cls := by rw [hvm]; exact hown
  have hins : (Cond.instantiable cls 6).before args s' = true := h _ (by simp [Bundle.ownAtoms])
  obtain ⟨vm₁, cX, kX, hfX, hkX, -, -, X₁, st1⟩ := Y.newCold hexec (own := own) (C := cls) (index := ik) (n := 6) hown' hk' hins hini'
    (g := F0 m pc ls rest) rfl (by rw [hb]; exact d0) (Nat.le_refl _) (Nat.le_refl _)
  generalize hT1 : (T.setVm vm₁).pushCell { cls := cX, slots := kX.instanceTypes.map defaultValue, vm := .none } = T1 at X₁ st1
  have hcat : (Value.ref T.heap.size).category = 1 := rfl
  have hcellA : T1.heap[T.heap.size]? = some (freshCell cX kX) := by rw [← hT1]; exact State.heap_pushCell_size _ _
  have d3' : decode c.code (pc + 3) = .ok (.dup, 1) := by rw [hb]; exact d3
  have d4' : decode c.code (pc + 4) = .ok (.ldc is, 2) := by rw [hb]; exact d4
  have hstr' : vk_R own is text sa s' := vk_R.warm hW0 hstr
  obtain ⟨U, hsteps, hrun, hend, hW, hsame, ce, hce, hO⟩ := X₁.ctorThrowS hexec htr (own := own) (cls := cls) (names := names) (ic := ic) hown' hcls hnames h (fun x hx => nomatch hx) hfX hkX hcellA (by rw [hhp, hT]; exact Nat.le_refl _) (msg := .ref sa) rfl
    (g := { method := m, pc := pc + 6, locals := ls, stack := .ref sa :: .ref T.heap.size :: .ref T.heap.size :: rest, locked := none }) rfl hsize rfl rfl (rest := rest) rfl
    (by rw [hb]; exact d6) (by rw [hb]; exact d9) hout hRframes (by simp only [List.map_cons, List.sum_cons, hcat]; omega) hlocks
  obtain ⟨f1, f2⟩ := vx_frame hsame
  rw [hhp] at f1 f2
  have hWs : s.WarmedH U.vm := State.WarmedH.trans hW0 hW
  have hcl : s.vm.findClass cls = some ce.cls := by
    have h9 := hO.cls
    rw [hvm] at h9
    exact h9
  have hall : s.sameButNew ({ U with vm := s.vm } : State) locs mc ms := by
    subst hA
    obtain ⟨e1, e2⟩ := hsame
    rw [State.setFrames_setFrames] at e1
    have h2 : (T.setVm s.vm).sameButNew ({ U with vm := s.vm } : State) [] (0 + 1) (0 + 6) := ⟨e1, e2⟩
    have h3 := X.same.trans h2
    rw [List.append_nil] at h3
    exact h3.mono hc hs
  refine ⟨U, ?_, .threw T.heap.size, hrun, hend, Or.inr ⟨T.heap.size, rfl, cls, ce, locs, hx U hWs.alike f1 (fun q hq => f2 q hq (fun z hz => nomatch hz)), hce, hO.vm, hcl, hWs, hall, hf⟩⟩
  refine st1 _ ?_
  show Steps p.tables e below (T1.setTop { method := m, pc := pc + 3, locals := ls, stack := .ref T.heap.size :: rest, locked := none }) _
  jvm_step X₁.here [X₁.here.top, hexec, d3', Value.category]
  exact X₁.ldcString hexec (own := own) (text := text) (index := is) (a := sa) hown' hstr'.1 hstr'.2
    (g := { method := m, pc := pc + 4, locals := ls, stack := .ref T.heap.size :: .ref T.heap.size :: rest, locked := none }) rfl d4' _ hsteps
/-- 'throw new E("text")', the text by a wide index -/
theorem vx_throwSW {cc : ByteArray} {pc : Nat} (hexec : p.tables.exec = Jvm.exec) (hb : c.code = cc) (hl : l.stackTraces = false) {own cls text : String} {names : List String} {ik is ic mc ms sa : Nat} {A : Nat → Prop}
    (hown : s.vm.findClass own = some m.cls) (hcls : Bundle.fit cls = true) (hnames : ∀ n ∈ names, Bundle.fit n = true)
    (hk : (Cond.classLink own ik cls).before args s = true) (hini : (Cond.initialized cls).before args s = true) (hstr : vk_R own is text sa s) (hat : ∀ w ∈ vx_atS own ic cls names, w.before args s = true)
    (hgood : ∀ w ∈ Cond.classLink own ik cls :: Cond.initialized cls :: vx_atS own ic cls names, vx_ot w = true)
    (hU : vx_Zq Bundle.tN "UNASSIGNED_STACK" Bundle.steD A s s.heap) (hN : vx_Zq Bundle.tN "SUPPRESSED_SENTINEL" Bundle.listD A s s.heap) (hS : va_S A s.heap H locs) (hsize : ls.size = c.maxLocals)
    (d0 : decode cc pc = .ok (.new ik, 3)) (d3 : decode cc (pc + 3) = .ok (.dup, 1)) (d4 : decode cc (pc + 4) = .ok (.ldc_w is, 3)) (d7 : decode cc (pc + 7) = .ok (.invokespecial ic, 3)) (d10 : decode cc (pc + 10) = .ok (.athrow, 1))
    (hout : ∀ x ∈ c.exceptionTable.toList, covers x (pc + 10) = false)
    (hRframes : names.length + 3 < R.frames) (hRlocals : (rest.map fun v => v.category).sum + (13 * (names.length + 1) + 43) ≤ R.locals) (hRcells : cells + 1 ≤ R.cells) (hRslots : slots + 6 ≤ R.slots) (hlocks : meth.locks = false)
    (hx : ∀ t : State, s.vm.Alike t.vm → H.size ≤ t.heap.size → (∀ q : Nat, q < H.size → t.heap[q]? = H[q]?) → XC cls s t)
    (hf : ∀ z ∈ locs, free z.base) (hc : cells + 1 ≤ mc) (hs : slots + 6 ≤ ms) :
    W p l e R s m args below meth c H locs cells slots (vx_MQ below Qc XC args s mc ms free) (F0 m pc ls rest) := by
  intro T hT X
  have htr : e.platform.stackTraces = false := (show e.platform.stackTraces = l.stackTraces by rw [X.admits.platform]).trans hl
  have Y := vx_rebase X (R' := { frames := R.frames, locals := R.locals, cells := 1, slots := 6 }) (Nat.le_refl _) (Nat.le_refl _) hRcells hRslots
  obtain ⟨s', hA⟩ : ∃ z, z = (T.setVm s.vm).setFrames (.invoking m args :: below) := ⟨_, rfl⟩
  rw [← hA] at Y
  have hvm : s'.vm = s.vm := by rw [hA]; rfl
  have hhp : s'.heap = H := by rw [hA]; exact hT
  have hW0 : s.WarmedH s'.vm := by rw [hvm]; exact State.WarmedH.refl s
  have hat' : ∀ w ∈ vx_atS own ic cls names, w.before args s' = true := fun w hw => vx_ot_at hW0 hvm.symm (hgood w (List.mem_cons_of_mem _ (List.mem_cons_of_mem _ hw))) (hat w hw)
  have hk' : (Cond.classLink own ik cls).before args s' = true := vx_ot_at hW0 hvm.symm (hgood _ List.mem_cons_self) hk
  have hini' : (Cond.initialized cls).before args s' = true := vx_ot_at hW0 hvm.symm (hgood _ (List.mem_cons_of_mem _ List.mem_cons_self)) hini
  have hU' : vx_Zq Bundle.tN "UNASSIGNED_STACK" Bundle.steD A s' s'.heap := by rw [hhp]; exact vx_Zq.moved hW0.alike (hU.kept hS.2.1)
  have hN' : vx_Zq Bundle.tN "SUPPRESSED_SENTINEL" Bundle.listD A s' s'.heap := by rw [hhp]; exact vx_Zq.moved hW0.alike (hN.kept hS.2.1)
  have h : ∀ w ∈ Bundle.ownAtoms own ic cls names, w.before args s' = true := vx_own hat' (vx_isRefq hU'.1) (vx_isRefq hN'.1) hU'.2.word hN'.2.word
  have hown' : s'.vm.findClass own = some m.cls := by rw [hvm]; exact hown
  have hins : (Cond.instantiable cls 6).before args s' = true := h _ (by simp [Bundle.ownAtoms])
  obtain ⟨vm₁, cX, kX, hfX, hkX, -, -, X₁, st1⟩ := Y.newCold hexec (own := own) (C := cls) (index := ik) (n := 6) hown' hk' hins hini'
    (g := F0 m pc ls rest) rfl (by rw [hb]; exact d0) (Nat.le_refl _) (Nat.le_refl _)
  generalize hT1 : (T.setVm vm₁).pushCell { cls := cX, slots := kX.instanceTypes.map defaultValue, vm := .none } = T1 at X₁ st1
  have hcat : (Value.ref T.heap.size).category = 1 := rfl
  have hcellA : T1.heap[T.heap.size]? = some (freshCell cX kX) := by rw [← hT1]; exact State.heap_pushCell_size _ _
  have d3' : decode c.code (pc + 3) = .ok (.dup, 1) := by rw [hb]; exact d3
  have d4' : decode c.code (pc + 4) = .ok (.ldc_w is, 3) := by rw [hb]; exact d4
  have hstr' : vk_R own is text sa s' := vk_R.warm hW0 hstr
  obtain ⟨U, hsteps, hrun, hend, hW, hsame, ce, hce, hO⟩ := X₁.ctorThrowS hexec htr (own := own) (cls := cls) (names := names) (ic := ic) hown' hcls hnames h (fun x hx => nomatch hx) hfX hkX hcellA (by rw [hhp, hT]; exact Nat.le_refl _) (msg := .ref sa) rfl
    (g := { method := m, pc := pc + 7, locals := ls, stack := .ref sa :: .ref T.heap.size :: .ref T.heap.size :: rest, locked := none }) rfl hsize rfl rfl (rest := rest) rfl
    (by rw [hb]; exact d7) (by rw [hb]; exact d10) hout hRframes (by simp only [List.map_cons, List.sum_cons, hcat]; omega) hlocks
  obtain ⟨f1, f2⟩ := vx_frame hsame
  rw [hhp] at f1 f2
  have hWs : s.WarmedH U.vm := State.WarmedH.trans hW0 hW
  have hcl : s.vm.findClass cls = some ce.cls := by
    have h9 := hO.cls
    rw [hvm] at h9
    exact h9
  have hall : s.sameButNew ({ U with vm := s.vm } : State) locs mc ms := by
    subst hA
    obtain ⟨e1, e2⟩ := hsame
    rw [State.setFrames_setFrames] at e1
    have h2 : (T.setVm s.vm).sameButNew ({ U with vm := s.vm } : State) [] (0 + 1) (0 + 6) := ⟨e1, e2⟩
    have h3 := X.same.trans h2
    rw [List.append_nil] at h3
    exact h3.mono hc hs
  refine ⟨U, ?_, .threw T.heap.size, hrun, hend, Or.inr ⟨T.heap.size, rfl, cls, ce, locs, hx U hWs.alike f1 (fun q hq => f2 q hq (fun z hz => nomatch hz)), hce, hO.vm, hcl, hWs, hall, hf⟩⟩
  refine st1 _ ?_
  show Steps p.tables e below (T1.setTop { method := m, pc := pc + 3, locals := ls, stack := .ref T.heap.size :: rest, locked := none }) _
  jvm_step X₁.here [X₁.here.top, hexec, d3', Value.category]
  exact X₁.ldcStringW hexec (own := own) (text := text) (index := is) (a := sa) hown' hstr'.1 hstr'.2
    (g := { method := m, pc := pc + 4, locals := ls, stack := .ref T.heap.size :: .ref T.heap.size :: rest, locked := none }) rfl d4' _ hsteps
end Ends
section Bodies
variable {l : Launch}
theorem vx_ofW {y : MethodName} {ws ws' : List Cond} {rm : Room} {Pc : Array Value → State → Prop} {Qc : Array Value → State → Outcome → State → Prop} {XC : String → State → State → Prop} {mc ms : Nat} {free : Addr → Prop} {cc : ByteArray} {maxL : Nat} {ret : Option FieldType}
    (hy : plainName y.cls = true) (hw : ws = Cond.code y cc maxL ret :: ws')
    (body : ∀ p e s m args below meth c s₁, BodyLoose p l y (headSpec ws rm) cc maxL ret e s m args below meth c s₁ → c.maxLocals = maxL → (∀ x ∈ c.exceptionTable.toList, False) → Pc args s →
      W p l e (headSpec ws rm).room s m args below meth c s.heap [] 0 0 (vx_MQ below Qc XC args s mc ms free) (entryFrame m args maxL)) : vx_Met l y ws rm Pc Qc XC mc ms free := by
  refine MetFree.of_bodyS (code := cc) (maxLocals := maxL) (ret := ret) hy ?_ ?_
  · intro args s m h hn
    obtain ⟨meth, c, h1, h2, h3, h4, h5, h6, -, -⟩ := Cond.code_spec hn (atoms_spec (ws := ws) h _ (by rw [hw]; exact List.mem_cons_self))
    exact ⟨meth, c, h1, h2, h3, h4, h5, h6⟩
  · intro p e s m args below meth c s₁ B hml hP _
    have hh0 : s₁.heap = s.heap := by rw [B.state]; rfl
    have ht : ∀ x ∈ c.exceptionTable.toList, False := by
      obtain ⟨meth9, c9, h1, h2, -, -, -, -, h7, -⟩ := Cond.code_spec B.named (atoms_spec (ws := ws) B.pre _ (by rw [hw]; exact List.mem_cons_self))
      cases Option.some.inj (h1.symm.trans B.method)
      cases Option.some.inj (h2.symm.trans (Stand.of_body B).code)
      intro x hx
      rw [Array.isEmpty_iff.mp h7] at hx
      cases hx
    obtain ⟨t, a1, o, b1, b2, b3⟩ := body p e s m args below meth c s₁ B hml ht hP s₁ hh0 (Stand.of_body B)
    exact ⟨t, o, a1, b1, b2, b3⟩
/-- the table of a body with handlers -/
theorem vx_table {p : Program} {x y : MethodName} {S : Spec} {cc bytes : ByteArray} {maxL maxL' : Nat} {ret ret' : Option FieldType} {e : Env} {s s₁ : State} {m : MethodId} {args : Array Value} {below : List Frame} {meth : Method} {c : Code} {hh : List (Nat × Nat × Nat × Nat)}
    (B : BodyLoose p l y S cc maxL ret e s m args below meth c s₁) (h : (Cond.codeWith y bytes maxL' ret' hh).before args s = true) : c.exceptionTable.toList = tableOf hh := by
  obtain ⟨m9, meth9, c9, hn9, h1, h2, -, -, h6, -⟩ := Cond.codeWith_spec h
  cases Option.some.inj (hn9.symm.trans B.named)
  cases Option.some.inj (h1.symm.trans B.method)
  cases Option.some.inj (h2.symm.trans (Stand.of_body B).code)
  rw [← h6, table_eq]
end Bodies
end VXA
/-! ===== END ===== -/
/-! ===== BEGIN a static call of a method with an exception table ===== -/
section VXS
variable {p : Program} {l : Launch} {e : Env} {R : Room} {s : State} {m : MethodId} {args : Array Value} {below : List Frame} {meth : Method} {c : Code} {T : State} {H : Heap} {locs : List Loc} {cells slots : Nat}
abbrev vx_CSW (R : Room) (s : State) (args : Array Value) (own : String) (index : Nat) (y : MethodName) (bytes : ByteArray) (maxL : Nat) (ret : Option FieldType) (hh : List (Nat × Nat × Nat × Nat)) (ws : List Cond) (rm : Room) (mc ms n : Nat) : Prop :=
  (rm.cells = mc ∧ rm.slots = ms ∧ rm.frames + 1 ≤ R.frames ∧ 8 + (maxL + 11) + rm.locals ≤ R.locals ∧ (∀ w ∈ ws, ∀ (a' : Array Value) (U : State), s.WarmedH U.vm → w.before a' U = true) ∧ Cond.codeWith y bytes maxL ret hh ∈ ws) ∧
  (Cond.codeWith y bytes maxL ret hh).before args s = true ∧ (Cond.initialized y.cls).before args s = true ∧ (y.cls ≠ "java/lang/invoke/MethodHandle" ∧ y.cls ≠ "java/lang/invoke/VarHandle") ∧
  (∀ sig, parseMethodDescriptor y.desc = some sig → n = sig.parameters.length) ∧ (Cond.methodLink own index y).before args s = true ∧ (Cond.static y).before args s = true
theorem vx_cwSW {own : String} {index maxL mc ms : Nat} {y : MethodName} {bytes : ByteArray} {ret : Option FieldType} {hh : List (Nat × Nat × Nat × Nat)} {Ts ws ws' : List Cond} {rm : Room} (n : Nat) (ht : ∀ w ∈ Ts, w.before args s = true) (hT : GoodIn Ts (va_wsS own index y ws)) (hw : ws = Cond.codeWith y bytes maxL ret hh :: ws') (hrc : rm.cells = mc) (hrs : rm.slots = ms)
    (hd : y.cls ≠ "java/lang/invoke/MethodHandle" ∧ y.cls ≠ "java/lang/invoke/VarHandle" ∧ (parseMethodDescriptor y.desc).map (fun d => d.parameters.length) = some n) (hR : rm.frames + 1 ≤ R.frames ∧ 8 + (maxL + 11) + rm.locals ≤ R.locals) :
    vx_CSW R s args own index y bytes maxL ret hh ws rm mc ms n := by
  have ok : ∀ w ∈ va_wsS own index y ws, w.before args s = true := fun w h => ht w (hT w h).1
  have hG : GoodIn Ts ws := fun w h => hT w (by unfold va_wsS; exact List.mem_append_right _ h)
  have hc : Cond.codeWith y bytes maxL ret hh ∈ ws := by rw [hw]; exact List.mem_cons_self
  refine ⟨⟨hrc, hrs, hR.1, hR.2, pay_in ht hG, hc⟩, ht _ (hG _ hc).1, ok _ (by simp [va_wsS]), ⟨hd.1, hd.2.1⟩, fun sig h => ?_, ok _ (by simp [va_wsS]), ok _ (by simp [va_wsS])⟩
  have h2 := hd.2.2
  rw [h] at h2
  exact (Option.some.inj h2).symm
theorem vx_callSW (X : Stand p l e R s m args below meth c T locs cells slots) (hexec : p.tables.exec = Jvm.exec) {own : String} {index : Nat} {y : MethodName} {bytes : ByteArray} {maxL : Nat} {ret : Option FieldType} {hh : List (Nat × Nat × Nat × Nat)}
    (hown : s.vm.findClass own = some m.cls) (hlink : (Cond.methodLink own index y).before args s = true) (hstat : (Cond.static y).before args s = true) (hinit : (Cond.initialized y.cls).before args s = true)
    (hcode : (Cond.codeWith y bytes maxL ret hh).before args s = true) (hy : y.cls ≠ "java/lang/invoke/MethodHandle" ∧ y.cls ≠ "java/lang/invoke/VarHandle")
    {W9 : Nat} {Pre : Pt → Array Value → Prop} {Post : Pt → Array Value → Option Value → Pt → Prop} (hK : Back l R p e below s args y 3 W9 Pre Post)
    {g : JFrame} (hg : g.method = m) (hsize : g.locals.size = c.maxLocals) {argsL rest : List Value} (hlen : ∀ sig, parseMethodDescriptor y.desc = some sig → argsL.length = sig.parameters.length)
    (hstack : g.stack = argsL.reverse ++ rest) (hW : 2 * g.monitorRoom + (rest.map fun v => v.category).sum ≤ W9) (hdg : decode c.code g.pc = .ok (.invokestatic index, 3))
    (hpre : ∀ vm₁, s.WarmedH vm₁ → Pre ⟨T.setVm vm₁, locs, cells, slots⟩ argsL.toArray) :
    ∃ (v : Option Value) (vm₁ : Vm) (B : Pt), s.WarmedH vm₁ ∧ Stand p l e R s m args below meth c B.U B.locs B.cells B.slots ∧ Post ⟨T.setVm vm₁, locs, cells, slots⟩ argsL.toArray v B ∧
      ∀ target, Steps p.tables e below (B.U.setTop { g with pc := g.pc + 3, stack := v.toList ++ rest }) target → Steps p.tables e below (T.setTop g) target := by
  obtain ⟨mk, methM, cM, hnamed, hmethM, -, -, -, -, -, -, hsigM⟩ := Cond.codeWith_spec hcode
  have hstatic : methM.isStatic = true := Cond.static_spec hnamed hmethM hstat
  obtain ⟨kP, hkP, -⟩ := className_of_methodNamed hnamed
  have hinitP : kP.init = .initialized := Cond.initialized_spec (findClass_of_methodNamed hnamed) hkP hinit
  obtain ⟨vm₁, X₁, hstep₁⟩ := X.invokestatic hexec hown hlink hnamed hmethM hstatic hkP hinitP hy (g := g) hg (argsL := argsL) (rest := rest) (hlen _ hsigM) hstack hdg
  obtain ⟨v, B, X', hpost, hsteps⟩ := hK m meth c ⟨T.setVm vm₁, locs, cells, slots⟩ { g with stack := rest } (.invokestatic index) mk argsL.toArray X₁ hg hsize hdg hW (X₁.named hnamed) (hpre vm₁ X₁.warmed)
  exact ⟨v, vm₁, B, X₁.warmed, X', hpost, fun target h => hstep₁ _ fun acts => by rw [doInvoke_state]; exact hsteps.trans h⟩
theorem vx_runSW {y : MethodName} {bytes cc : ByteArray} {maxL nL mc ms n index : Nat} {ret : Option FieldType} {hh : List (Nat × Nat × Nat × Nat)} {ws : List Cond} {rm : Room} {Pc : Array Value → State → Prop} {Qc : Array Value → State → Outcome → State → Prop} {free : Addr → Prop} {Ts : List Cond} {own : String} {As rest : List Value} {g : JFrame}
    (S : CallFix p m c cc nL s args Ts own) (hM : Met l y ws rm Pc Qc mc ms free) (cw : vx_CSW R s args own index y bytes maxL ret hh ws rm mc ms n) (hp : PreS s H Pc As)
    (hg : g.method = m) (hn : As.length = n) (hsize : g.locals.size = nL) (hstack : g.stack = As.reverse ++ rest) (hW : 2 * g.monitorRoom + (rest.map fun v => v.category).sum ≤ 8) (hdg : decode cc g.pc = .ok (.invokestatic index, 3)) (hf : cells + mc ≤ R.cells ∧ slots + ms ≤ R.slots) :
    va_Run p l e R s m args below meth c H locs cells slots mc ms g rest (Qc As.toArray) (free) := by
  obtain ⟨⟨hrc, hrs, hfr, hlo, hws, hcw⟩, hcode, hini, hy, hlen, hl, hstt⟩ := cw
  have hK : Back l R p e below s args y 3 8 (PreOf R mc ms Pc) (PostOf Qc mc ms free) := va_backW (hh := hh) (bytes := bytes) (maxL := maxL) (ret := ret) hM hp.1 hrc hrs hfr hlo hws hcw (fun a' U hW => word_at hW (Or.inl (by first | rfl | simp [Cond.onTables, Cond.keeps, Cond.steady])) hini)
  obtain ⟨hx, hb, hml, ho, -⟩ := S
  intro T hT X
  obtain ⟨v, vm₁, ⟨U', l2, c2, s2⟩, hW₁, X', ⟨g', mk, t, L, e1, e2, hq, h1, hL, h2, h3⟩, st⟩ := vx_callSW X hx (hh := hh) (bytes := bytes) (maxL := maxL) (ret := ret) ho hl hstt hini hcode hy hK hg (hsize.trans hml.symm) (argsL := As) (rest := rest) (fun sig h => hn.trans (hlen sig h)) hstack hW (by rw [hb]; exact hdg)
    (fun vm₁ hW₁ => ⟨hf.1, hf.2, hp.2 (T.setVm vm₁) hT hW₁⟩)
  dsimp only [Pt.U, Pt.locs, Pt.cells, Pt.slots] at X' e1 e2 h1 h2 h3 st
  subst h1; subst h2; subst h3
  exact ⟨v, (T.setVm vm₁).calling g' mk As.toArray, t, U', L, hT, X', hL, e1, e2, hq, st⟩
/-- not caught here, past rows that name other classes: it goes on to the caller -/
theorem vx_outP {p : Program} {l : Launch} {e : Env} {R : Room} {s : State} {m : MethodId} {args : Array Value} {below : List Frame} {meth : Method} {c : Code} {H : Heap} {locs : List Loc} {cells slots : Nat} {free : Addr → Prop} {ls : Array Slot} {rest : List Value} {Qc : Array Value → State → Outcome → State → Prop} {XC : String → State → State → Prop}
    {pc : Nat} {own E : String} {ce : Cell} {q : Addr} {mc ms : Nat} (hown : s.vm.findClass own = some m.cls) (hlocks : meth.locks = false)
    (hpass : ∀ z ∈ c.exceptionTable.toList, covers z pc = false ∨ (z.catchType ≠ 0 ∧ ∃ nm : String, (Cond.classLink own z.catchType nm).before args s = true ∧ va_Nc E nm s)) (hcell : H[q]? = some ce) (hv : ce.vm = .none) (hcl : s.vm.findClass E = some ce.cls)
    (hx : ∀ t : State, t.heap = H → s.vm.Alike t.vm → XC E s t) (hf : ∀ z ∈ locs, free z.base) (hc : cells ≤ mc) (hs : slots ≤ ms) :
    vx_W p l e R s m args below meth c H locs cells slots (vx_MQ below Qc XC args s mc ms free) (F0 m pc ls rest) q := by
  intro T hT X
  have hpl : e.platform.magicAccessors = ({} : Platform).magicAccessors := by rw [X.admits.platform]
  obtain ⟨vm', hW', X', st⟩ := X.outThrough hlocks q (g := F0 m pc ls rest) rfl rfl rfl (cell := ce) (by rw [hT]; exact hcell) (by rw [hv]; rfl)
    (by obtain ⟨k9, h9, -⟩ := Vm.findClass_spec hcl; exact ⟨k9, h9⟩) (fun z hz => by
      rcases hpass z hz with h | ⟨hz0, nm, hl1, hn1⟩
      · exact Or.inl h
      · obtain ⟨c6, hc6, hcl6⟩ := Cond.classLink_spec hown hl1 e.platform hpl
        obtain ⟨a8, b8, h1, h2, h3⟩ := hn1
        cases Option.some.inj (h1.symm.trans hcl)
        cases Option.some.inj (h2.symm.trans hc6)
        exact Or.inr ⟨hz0, _, hcl6, h3⟩)
  obtain ⟨g₀, hfr⟩ := X'.frames_eq
  have hcell9 : ((T.setVm vm').setFrames (.throwing q :: below)).heap[q]? = some ce := by
    show T.heap[q]? = some ce
    rw [hT]; exact hcell
  have hend : Ended ((T.setVm vm').setFrames (.throwing q :: below)) below (.threw q) := State.frames_setFrames _ (State.cur_lt_of_frames hfr)
  refine ⟨(T.setVm vm').setFrames (.throwing q :: below), ?_, .threw q, X'.here.running, hend, Or.inr ⟨q, rfl, E, ce, locs, hx _ hT (X'.ends _).1.alike, hcell9, hv, hcl, (X'.ends _).1, (X'.ends _).2.mono hc hs, hf⟩⟩
  rw [X.pushThrowing_eq]
  exact st
/-- a thing of a world lies in the heap -/
theorem vx_lt {D : va_G} {cl : List vw_C} {ws : va_W} {H1 : Heap} (h : va_P D cl ws H1) {k : Nat} {q : Nat × va_E} (hk : ws[k]? = some q) : q.1 < H1.size := (h k q hk).lt
end VXS
/-! ===== END ===== -/
/-! ===== BEGIN methods with a table of their own: called by a name, returning or throwing ===== -/
section VXH
/-! vx_backW, vx_callVX, vx_callSX, vx_callVW, vx_runVW, vx_runVX, vx_runSX, vx_ofWH follow the same proofs as their sisters above (Free/Laws.lean, Shelf42/LK1.lean); vx_outP calls Shelf42/NT130.lean (outThrough). -/
section
variable {l : Launch} {R : Room} {p : Program} {e : Env} {below : List Frame} {s : State} {sargs : Array Value} {y : MethodName} {len W9 : Nat}
theorem vx_backW {ws : List Cond} {rm : Room} {Pc : Array Value → State → Prop} {Qc : Array Value → State → Outcome → State → Prop} {XC : String → State → State → Prop} {mc ms : Nat} {free : Addr → Prop} {bytes : ByteArray} {maxL : Nat} {ret : Option FieldType} {hh : List (Nat × Nat × Nat × Nat)}
    (hM : vx_Met l y ws rm Pc Qc XC mc ms free) (hblind : FrameBlind Pc) (hrc : rm.cells = mc) (hrs : rm.slots = ms)
    (hframes : rm.frames + 1 ≤ R.frames) (hlocals : W9 + (maxL + 11) + rm.locals ≤ R.locals)
    (hws : ∀ w ∈ ws, ∀ a' U, s.WarmedH U.vm → w.before a' U = true) (hcode : Cond.codeWith y bytes maxL ret hh ∈ ws) (hinit : ∀ a' U, s.WarmedH U.vm → (Cond.initialized y.cls).before a' U = true) :
    vx_Back l R p e below s sargs y len W9 (PreOf R mc ms Pc) (PostOf Qc mc ms free) (vx_Post XC mc ms free) := by
  intro m meth c A g ig mk a X hg hsize hdg hW hn hp
  have h1 : (headSpec ws rm).pre.before a A.U = true := atoms_intro fun w hw => hws w hw _ _ X.warmed
  have h2 : (Cond.codeWith y bytes maxL ret hh).before a A.U = true := hws _ hcode _ _ X.warmed
  have h3 : (Cond.initialized y.cls).before a A.U = true := hinit _ _ X.warmed
  have h4 : A.cells + (headSpec ws rm).room.cells ≤ R.cells := by rw [show (headSpec ws rm).room.cells = mc from hrc]; exact hp.1
  have h5 : A.slots + (headSpec ws rm).room.slots ≤ R.slots := by rw [show (headSpec ws rm).room.slots = ms from hrs]; exact hp.2.1
  have hPc : Pc a (A.U.calling g mk a) := hblind _ _ _ _ hp.2.2
  obtain ⟨U, Ls, c0, s0⟩ := A
  dsimp only [Pt.U, Pt.locs, Pt.cells, Pt.slots] at h1 h2 h3 h4 h5 X hn hPc ⊢
  obtain ⟨m9, methY, cY, hn9, hmY, hcY, -, hlY, -⟩ := Cond.codeWith_spec h2
  cases Option.some.inj (hn9.symm.trans hn)
  obtain ⟨kY, hkY, -⟩ := className_of_methodNamed hn
  have hinitY : kY.init = .initialized := Cond.initialized_spec (findClass_of_methodNamed hn) hkY h3
  have h : At U g.method c below := by rw [hg]; exact X.here
  have hlocals9 : W9 + (maxL + 11) + (headSpec ws rm).room.locals ≤ R.locals := hlocals
  have happ : (headSpec ws rm).appliesLoose y e.platform (U.calling g mk a) = true :=
    Spec.appliesLoose_calling (g := g) h hdg hn hkY hinitY
      (X.room_calling (g := g) (R' := (headSpec ws rm).room) hsize hmY hcY hframes (by rw [hlY]; omega) h4 h5) h1
  obtain ⟨mid, hmid⟩ := h.above
  have hfr : (U.setTop g).frames = (.java g :: mid) ++ below := by rw [State.frames_setTop' g h.top, hmid]; rfl
  obtain ⟨o, s₂, hsteps, -, hend, hq⟩ := Steps.callFree hM p X.admits X.cas X.clock (acts := []) hfr happ hPc trivial
  have hq' : vx_Q Qc XC mc ms free a (U.calling g mk a) o s₂ := hq
  rw [State.frames_setTop' g h.top] at hend
  obtain ⟨g₀, hg0⟩ := Option.isSome_iff_exists.mp h.top
  obtain ⟨r, hr⟩ := State.topJava?_eq_some.mp hg0
  have hr' : (({ U with heap := s₂.heap, slotsUsed := s₂.slotsUsed } : State).setVm s₂.vm).frames = .java g₀ :: r := hr
  rcases hq' with ⟨hqc, L, hfe, hL⟩ | ⟨q, rfl, E, ce, L, hx, hce, hcv, hcl, hW₂, hsm, hL⟩
  · obtain ⟨⟨v, rfl⟩, hW₂, e2, q2, q3, q4, q5, q6⟩ := id hfe
    have e3 : s₂ = ({ (U.calling g mk a).setFrames s₂.frames with heap := s₂.heap, slotsUsed := s₂.slotsUsed } : State).setVm s₂.vm := by
      have : s₂ = ({ s₂ with vm := (U.calling g mk a).vm } : State).setVm s₂.vm := rfl
      rw [e2] at this
      exact this
    obtain ⟨c₂, i₂, len₂, hc₂, hd₂, hf₂⟩ := hend
    have hW' : U.WarmedH s₂.vm := hW₂
    have hcc : c₂ = c := by
      have h1 : s₂.code? g.method = U.code? g.method := by
        rw [State.code?_eq, State.code?_eq, hW'.alike.method?]
      exact Option.some.inj (hc₂.symm.trans (h1.trans h.code))
    subst hcc
    have hlen : len₂ = len := by rw [hdg] at hd₂; cases hd₂; rfl
    subst hlen
    have hs₂ : s₂ = (({ U with heap := s₂.heap, slotsUsed := s₂.slotsUsed } : State).setVm s₂.vm).setTop { g with pc := g.pc + len₂, stack := v.toList ++ g.stack } := by
      refine e3.trans ?_
      rw [hf₂, State.calling_eq h.top, State.setFrames_setFrames, State.setTop_of_frames _ hr', hr]
      rfl
    have hsame : U.sameButNew ({ U with heap := s₂.heap, slotsUsed := s₂.slotsUsed } : State) L mc ms := by
      refine ⟨?_, q2, q3, q4, q5, q6⟩
      obtain ⟨t, ht, -⟩ := State.frames_cons hr
      show ({ U with heap := s₂.heap, slotsUsed := s₂.slotsUsed } : State) = { U.setFrames U.frames with heap := s₂.heap, slotsUsed := s₂.slotsUsed }
      rw [State.setFrames_self ht]
    subst hg
    refine Or.inl ⟨v, ⟨(({ U with heap := s₂.heap, slotsUsed := s₂.slotsUsed } : State).setVm s₂.vm), Ls ++ L, c0 + mc, s0 + ms⟩,
      ⟨X.admits, X.cas, X.clock, X.frames, X.room, X.hears, X.method, X.code, (X.here.setHeapUsed s₂.heap s₂.slotsUsed).setVm hW'.alike, X.tail, State.WarmedH.trans X.warmed hW', X.limits, X.bytes, X.same.trans (hsame.setVm s.vm)⟩,
      ⟨g, mk, s₂, L, rfl, rfl, hqc, rfl, hL, rfl, rfl⟩, ?_⟩
    show Steps p.tables e below _ ((({ U with heap := s₂.heap, slotsUsed := s₂.slotsUsed } : State).setVm s₂.vm).setTop { g with pc := g.pc + len₂, stack := v.toList ++ g.stack })
    rw [← hs₂]
    exact hsteps
  · obtain ⟨e2, q2, q3, q4, q5, q6⟩ := id hsm
    have e3 : s₂ = ({ (U.calling g mk a).setFrames s₂.frames with heap := s₂.heap, slotsUsed := s₂.slotsUsed } : State).setVm s₂.vm := by
      have : s₂ = ({ s₂ with vm := (U.calling g mk a).vm } : State).setVm s₂.vm := rfl
      rw [e2] at this
      exact this
    have hf₂ : s₂.frames = .throwing q :: .java g :: U.frames.tail := hend
    have hW' : U.WarmedH s₂.vm := hW₂
    have hs₂ : s₂ = ((({ U with heap := s₂.heap, slotsUsed := s₂.slotsUsed } : State).setVm s₂.vm).setTop g).pushFrame (.throwing q) := by
      refine e3.trans ?_
      rw [hf₂, State.calling_eq h.top, State.setFrames_setFrames, State.pushFrame, State.frames_setTop _ hr', State.setTop_of_frames _ hr', State.setFrames_setFrames, hr]
      rfl
    have hsame : U.sameButNew ({ U with heap := s₂.heap, slotsUsed := s₂.slotsUsed } : State) L mc ms := by
      refine ⟨?_, q2, q3, q4, q5, q6⟩
      obtain ⟨t, ht, -⟩ := State.frames_cons hr
      show ({ U with heap := s₂.heap, slotsUsed := s₂.slotsUsed } : State) = { U.setFrames U.frames with heap := s₂.heap, slotsUsed := s₂.slotsUsed }
      rw [State.setFrames_self ht]
    subst hg
    refine Or.inr ⟨q, ⟨(({ U with heap := s₂.heap, slotsUsed := s₂.slotsUsed } : State).setVm s₂.vm), Ls ++ L, c0 + mc, s0 + ms⟩,
      ⟨X.admits, X.cas, X.clock, X.frames, X.room, X.hears, X.method, X.code, (X.here.setHeapUsed s₂.heap s₂.slotsUsed).setVm hW'.alike, X.tail, State.WarmedH.trans X.warmed hW', X.limits, X.bytes, X.same.trans (hsame.setVm s.vm)⟩,
      ⟨g, mk, s₂, L, E, ce, rfl, rfl, hx, hce, hcv, hcl, rfl, hL, rfl, rfl⟩, ?_⟩
    show Steps p.tables e below _ (((({ U with heap := s₂.heap, slotsUsed := s₂.slotsUsed } : State).setVm s₂.vm).setTop g).pushFrame (.throwing q))
    rw [← hs₂]
    exact hsteps
end
variable {p : Program} {l : Launch} {e : Env} {R : Room} {s : State} {m : MethodId} {args : Array Value} {below : List Frame} {meth : Method} {c : Code} {T : State} {H : Heap} {locs : List Loc} {cells slots : Nat}
theorem vx_callVX (X : Stand p l e R s m args below meth c T locs cells slots) (hexec : p.tables.exec = Jvm.exec) {own C : String} {index : Nat} {y : MethodName} {bytes : ByteArray} {maxL : Nat} {ret : Option FieldType} {hh : List (Nat × Nat × Nat × Nat)}
    (hown : s.vm.findClass own = some m.cls) (hlink : (Cond.methodLink own index y).before args s = true) (hinst : (Cond.instanceMethod y).before args s = true) (hsel : (Cond.selects C y y).before args s = true)
    (hcode : (Cond.codeWith y bytes maxL ret hh).before args s = true) (hy : y.cls ≠ "java/lang/invoke/MethodHandle" ∧ y.cls ≠ "java/lang/invoke/VarHandle")
    {W9 : Nat} {Pre : Pt → Array Value → Prop} {Post : Pt → Array Value → Option Value → Pt → Prop} {PostX : Pt → Array Value → Addr → Pt → Prop} (hK : vx_Back l R p e below s args y 3 W9 Pre Post PostX)
    {b : Addr} {cellB : Cell} (hcell : T.heap[b]? = some cellB) (hobj : cellB.vm.isStatics = false) (hcls : s.vm.findClass C = some cellB.cls)
    {g : JFrame} (hg : g.method = m) (hsize : g.locals.size = c.maxLocals) {argsL rest : List Value} (hlen : ∀ sig, parseMethodDescriptor y.desc = some sig → argsL.length = sig.parameters.length)
    (hstack : g.stack = argsL.reverse ++ .ref b :: rest) (hW : 2 * g.monitorRoom + (rest.map fun v => v.category).sum ≤ W9) (hdg : decode c.code g.pc = .ok (.invokevirtual index, 3))
    (hpre : ∀ vm₁, s.WarmedH vm₁ → Pre ⟨T.setVm vm₁, locs, cells, slots⟩ (Value.ref b :: argsL).toArray) :
    (∃ (v : Option Value) (vm₁ : Vm) (B : Pt), s.WarmedH vm₁ ∧ Stand p l e R s m args below meth c B.U B.locs B.cells B.slots ∧ Post ⟨T.setVm vm₁, locs, cells, slots⟩ (Value.ref b :: argsL).toArray v B ∧
      ∀ target, Steps p.tables e below (B.U.setTop { g with pc := g.pc + 3, stack := v.toList ++ rest }) target → Steps p.tables e below (T.setTop g) target) ∨
    (∃ (q : Addr) (vm₁ : Vm) (B : Pt), s.WarmedH vm₁ ∧ Stand p l e R s m args below meth c B.U B.locs B.cells B.slots ∧ PostX ⟨T.setVm vm₁, locs, cells, slots⟩ (Value.ref b :: argsL).toArray q B ∧
      Steps p.tables e below (T.setTop g) ((B.U.setTop { g with stack := rest }).pushFrame (.throwing q))) := by
  obtain ⟨mk, methM, hnamed, hmethM, hstM, habM⟩ := Cond.instanceMethod_spec hinst
  obtain ⟨m8, methM', cM, hn8, hmethM', -, -, -, -, -, -, hsigM⟩ := Cond.codeWith_spec hcode
  cases Option.some.inj (hn8.symm.trans hnamed)
  cases hmethM.symm.trans hmethM'
  obtain ⟨c2, r2, m2, q1, q2, q3, q4, kP, hkP, hkPi⟩ := Cond.selects_spec hsel
  cases hcls.symm.trans q1
  cases (State.methodFound?_of_named hnamed hy).symm.trans q2
  cases hnamed.symm.trans q3
  have hselP : selectMethod e.platform s.vm cellB.cls mk = .method mk := by rw [Launch.admits_selectMethod X.admits]; exact q4
  obtain ⟨vm₁, X₁, hstep₁⟩ := X.invokevirtual hexec hown hlink hnamed hmethM hstM hkP hkPi hy (a := b) (cell := cellB) hcell
    (fun z h => by rw [h] at hobj; cases hobj) hselP hmethM habM hkP hkPi (g := g) hg (argsL := argsL) (rest := rest) (hlen _ hsigM) hstack hdg
  rcases hK m meth c ⟨T.setVm vm₁, locs, cells, slots⟩ { g with stack := rest } (.invokevirtual index) mk (Value.ref b :: argsL).toArray X₁ hg hsize hdg hW (X₁.named hnamed) (hpre vm₁ X₁.warmed) with ⟨v, B, X', hpost, hsteps⟩ | ⟨q, B, X', hpost, hsteps⟩
  · exact Or.inl ⟨v, vm₁, B, X₁.warmed, X', hpost, fun target h => hstep₁ _ fun acts => by rw [doInvoke_state]; exact hsteps.trans h⟩
  · exact Or.inr ⟨q, vm₁, B, X₁.warmed, X', hpost, hstep₁ _ fun acts => by rw [doInvoke_state]; exact hsteps⟩
theorem vx_callSX (X : Stand p l e R s m args below meth c T locs cells slots) (hexec : p.tables.exec = Jvm.exec) {own : String} {index : Nat} {y : MethodName} {bytes : ByteArray} {maxL : Nat} {ret : Option FieldType} {hh : List (Nat × Nat × Nat × Nat)}
    (hown : s.vm.findClass own = some m.cls) (hlink : (Cond.methodLink own index y).before args s = true) (hstat : (Cond.static y).before args s = true) (hinit : (Cond.initialized y.cls).before args s = true)
    (hcode : (Cond.codeWith y bytes maxL ret hh).before args s = true) (hy : y.cls ≠ "java/lang/invoke/MethodHandle" ∧ y.cls ≠ "java/lang/invoke/VarHandle")
    {W9 : Nat} {Pre : Pt → Array Value → Prop} {Post : Pt → Array Value → Option Value → Pt → Prop} {PostX : Pt → Array Value → Addr → Pt → Prop} (hK : vx_Back l R p e below s args y 3 W9 Pre Post PostX)
    {g : JFrame} (hg : g.method = m) (hsize : g.locals.size = c.maxLocals) {argsL rest : List Value} (hlen : ∀ sig, parseMethodDescriptor y.desc = some sig → argsL.length = sig.parameters.length)
    (hstack : g.stack = argsL.reverse ++ rest) (hW : 2 * g.monitorRoom + (rest.map fun v => v.category).sum ≤ W9) (hdg : decode c.code g.pc = .ok (.invokestatic index, 3))
    (hpre : ∀ vm₁, s.WarmedH vm₁ → Pre ⟨T.setVm vm₁, locs, cells, slots⟩ argsL.toArray) :
    (∃ (v : Option Value) (vm₁ : Vm) (B : Pt), s.WarmedH vm₁ ∧ Stand p l e R s m args below meth c B.U B.locs B.cells B.slots ∧ Post ⟨T.setVm vm₁, locs, cells, slots⟩ argsL.toArray v B ∧
      ∀ target, Steps p.tables e below (B.U.setTop { g with pc := g.pc + 3, stack := v.toList ++ rest }) target → Steps p.tables e below (T.setTop g) target) ∨
    (∃ (q : Addr) (vm₁ : Vm) (B : Pt), s.WarmedH vm₁ ∧ Stand p l e R s m args below meth c B.U B.locs B.cells B.slots ∧ PostX ⟨T.setVm vm₁, locs, cells, slots⟩ argsL.toArray q B ∧
      Steps p.tables e below (T.setTop g) ((B.U.setTop { g with stack := rest }).pushFrame (.throwing q))) := by
  obtain ⟨mk, methM, cM, hnamed, hmethM, -, -, -, -, -, -, hsigM⟩ := Cond.codeWith_spec hcode
  have hstatic : methM.isStatic = true := Cond.static_spec hnamed hmethM hstat
  obtain ⟨kP, hkP, -⟩ := className_of_methodNamed hnamed
  have hinitP : kP.init = .initialized := Cond.initialized_spec (findClass_of_methodNamed hnamed) hkP hinit
  obtain ⟨vm₁, X₁, hstep₁⟩ := X.invokestatic hexec hown hlink hnamed hmethM hstatic hkP hinitP hy (g := g) hg (argsL := argsL) (rest := rest) (hlen _ hsigM) hstack hdg
  rcases hK m meth c ⟨T.setVm vm₁, locs, cells, slots⟩ { g with stack := rest } (.invokestatic index) mk argsL.toArray X₁ hg hsize hdg hW (X₁.named hnamed) (hpre vm₁ X₁.warmed) with ⟨v, B, X', hpost, hsteps⟩ | ⟨q, B, X', hpost, hsteps⟩
  · exact Or.inl ⟨v, vm₁, B, X₁.warmed, X', hpost, fun target h => hstep₁ _ fun acts => by rw [doInvoke_state]; exact hsteps.trans h⟩
  · exact Or.inr ⟨q, vm₁, B, X₁.warmed, X', hpost, hstep₁ _ fun acts => by rw [doInvoke_state]; exact hsteps⟩
theorem vx_callVW (X : Stand p l e R s m args below meth c T locs cells slots) (hexec : p.tables.exec = Jvm.exec) {own C : String} {index : Nat} {y : MethodName} {bytes : ByteArray} {maxL : Nat} {ret : Option FieldType} {hh : List (Nat × Nat × Nat × Nat)}
    (hown : s.vm.findClass own = some m.cls) (hlink : (Cond.methodLink own index y).before args s = true) (hinst : (Cond.instanceMethod y).before args s = true) (hsel : (Cond.selects C y y).before args s = true)
    (hcode : (Cond.codeWith y bytes maxL ret hh).before args s = true) (hy : y.cls ≠ "java/lang/invoke/MethodHandle" ∧ y.cls ≠ "java/lang/invoke/VarHandle")
    {W9 : Nat} {Pre : Pt → Array Value → Prop} {Post : Pt → Array Value → Option Value → Pt → Prop} (hK : Back l R p e below s args y 3 W9 Pre Post)
    {b : Addr} {cellB : Cell} (hcell : T.heap[b]? = some cellB) (hobj : cellB.vm.isStatics = false) (hcls : s.vm.findClass C = some cellB.cls)
    {g : JFrame} (hg : g.method = m) (hsize : g.locals.size = c.maxLocals) {argsL rest : List Value} (hlen : ∀ sig, parseMethodDescriptor y.desc = some sig → argsL.length = sig.parameters.length)
    (hstack : g.stack = argsL.reverse ++ .ref b :: rest) (hW : 2 * g.monitorRoom + (rest.map fun v => v.category).sum ≤ W9) (hdg : decode c.code g.pc = .ok (.invokevirtual index, 3))
    (hpre : ∀ vm₁, s.WarmedH vm₁ → Pre ⟨T.setVm vm₁, locs, cells, slots⟩ (Value.ref b :: argsL).toArray) :
    ∃ (v : Option Value) (vm₁ : Vm) (B : Pt), s.WarmedH vm₁ ∧ Stand p l e R s m args below meth c B.U B.locs B.cells B.slots ∧ Post ⟨T.setVm vm₁, locs, cells, slots⟩ (Value.ref b :: argsL).toArray v B ∧
      ∀ target, Steps p.tables e below (B.U.setTop { g with pc := g.pc + 3, stack := v.toList ++ rest }) target → Steps p.tables e below (T.setTop g) target := by
  obtain ⟨mk, methM, hnamed, hmethM, hstM, habM⟩ := Cond.instanceMethod_spec hinst
  obtain ⟨m8, methM', cM, hn8, hmethM', -, -, -, -, -, -, hsigM⟩ := Cond.codeWith_spec hcode
  cases Option.some.inj (hn8.symm.trans hnamed)
  cases hmethM.symm.trans hmethM'
  obtain ⟨c2, r2, m2, q1, q2, q3, q4, kP, hkP, hkPi⟩ := Cond.selects_spec hsel
  cases hcls.symm.trans q1
  cases (State.methodFound?_of_named hnamed hy).symm.trans q2
  cases hnamed.symm.trans q3
  have hselP : selectMethod e.platform s.vm cellB.cls mk = .method mk := by rw [Launch.admits_selectMethod X.admits]; exact q4
  obtain ⟨vm₁, X₁, hstep₁⟩ := X.invokevirtual hexec hown hlink hnamed hmethM hstM hkP hkPi hy (a := b) (cell := cellB) hcell
    (fun z h => by rw [h] at hobj; cases hobj) hselP hmethM habM hkP hkPi (g := g) hg (argsL := argsL) (rest := rest) (hlen _ hsigM) hstack hdg
  obtain ⟨v, B, X', hpost, hsteps⟩ := hK m meth c ⟨T.setVm vm₁, locs, cells, slots⟩ { g with stack := rest } (.invokevirtual index) mk (Value.ref b :: argsL).toArray X₁ hg hsize hdg hW (X₁.named hnamed) (hpre vm₁ X₁.warmed)
  exact ⟨v, vm₁, B, X₁.warmed, X', hpost, fun target h => hstep₁ _ fun acts => by rw [doInvoke_state]; exact hsteps.trans h⟩
abbrev vx_CVW (R : Room) (s : State) (args : Array Value) (own C : String) (index : Nat) (y : MethodName) (bytes : ByteArray) (maxL : Nat) (ret : Option FieldType) (hh : List (Nat × Nat × Nat × Nat)) (ws : List Cond) (rm : Room) (mc ms n : Nat) : Prop :=
  (rm.cells = mc ∧ rm.slots = ms ∧ rm.frames + 1 ≤ R.frames ∧ 8 + (maxL + 11) + rm.locals ≤ R.locals ∧ (∀ w ∈ ws, ∀ (a' : Array Value) (U : State), s.WarmedH U.vm → w.before a' U = true) ∧ Cond.codeWith y bytes maxL ret hh ∈ ws) ∧
  (Cond.codeWith y bytes maxL ret hh).before args s = true ∧ (Cond.initialized y.cls).before args s = true ∧ (y.cls ≠ "java/lang/invoke/MethodHandle" ∧ y.cls ≠ "java/lang/invoke/VarHandle") ∧
  (∀ sig, parseMethodDescriptor y.desc = some sig → n = sig.parameters.length) ∧ (Cond.methodLink own index y).before args s = true ∧ (Cond.instanceMethod y).before args s = true ∧ (Cond.selects C y y).before args s = true
theorem vx_cwVW {own C : String} {index maxL mc ms : Nat} {y : MethodName} {bytes : ByteArray} {ret : Option FieldType} {hh : List (Nat × Nat × Nat × Nat)} {Ts ws ws' : List Cond} {rm : Room} (n : Nat) (ht : ∀ w ∈ Ts, w.before args s = true) (hT : GoodIn Ts (wsV own index C y ws)) (hw : ws = Cond.codeWith y bytes maxL ret hh :: ws') (hrc : rm.cells = mc) (hrs : rm.slots = ms)
    (hd : y.cls = C ∧ y.cls ≠ "java/lang/invoke/MethodHandle" ∧ y.cls ≠ "java/lang/invoke/VarHandle" ∧ (parseMethodDescriptor y.desc).map (fun d => d.parameters.length) = some n) (hR : rm.frames + 1 ≤ R.frames ∧ 8 + (maxL + 11) + rm.locals ≤ R.locals) :
    vx_CVW R s args own C index y bytes maxL ret hh ws rm mc ms n := by
  obtain ⟨hC, hd⟩ := hd
  subst hC
  have ok : ∀ w ∈ wsV own index y.cls y ws, w.before args s = true := fun w h => ht w (hT w h).1
  have hG : GoodIn Ts ws := fun w h => hT w (by unfold wsV; exact List.mem_append_right _ h)
  have hc : Cond.codeWith y bytes maxL ret hh ∈ ws := by rw [hw]; exact List.mem_cons_self
  refine ⟨⟨hrc, hrs, hR.1, hR.2, pay_in ht hG, hc⟩, ht _ (hG _ hc).1, ok _ (by simp [wsV]), ⟨hd.1, hd.2.1⟩, fun sig h => ?_, ok _ (by simp [wsV]), ok _ (by simp [wsV]), ok _ (by simp [wsV])⟩
  have h2 := hd.2.2
  rw [h] at h2
  exact (Option.some.inj h2).symm
theorem vx_runVW {y : MethodName} {bytes cc : ByteArray} {maxL nL mc ms n index : Nat} {ret : Option FieldType} {hh : List (Nat × Nat × Nat × Nat)} {ws : List Cond} {rm : Room} {Pc : Array Value → State → Prop} {Qc : Array Value → State → Outcome → State → Prop} {free : Addr → Prop} {Ts : List Cond} {own C : String} {b : Addr} {As rest : List Value} {g : JFrame}
    (S : CallFix p m c cc nL s args Ts own) (hM : Met l y ws rm Pc Qc mc ms free) (cw : vx_CVW R s args own C index y bytes maxL ret hh ws rm mc ms n) (hp : PreV s H C b Pc As)
    (hg : g.method = m) (hn : As.length = n) (hsize : g.locals.size = nL) (hstack : g.stack = As.reverse ++ .ref b :: rest) (hW : 2 * g.monitorRoom + (rest.map fun v => v.category).sum ≤ 8) (hdg : decode cc g.pc = .ok (.invokevirtual index, 3)) (hf : cells + mc ≤ R.cells ∧ slots + ms ≤ R.slots) :
    va_Run p l e R s m args below meth c H locs cells slots mc ms g rest (Qc (Value.ref b :: As).toArray) free := by
  obtain ⟨⟨hrc, hrs, hfr, hlo, hws, hcw⟩, hcode, hini, hy, hlen, hl, hin, hse⟩ := cw
  have hK : Back l R p e below s args y 3 8 (PreOf R mc ms Pc) (PostOf Qc mc ms free) := va_backW (hh := hh) (bytes := bytes) (maxL := maxL) (ret := ret) hM hp.1 hrc hrs hfr hlo hws hcw (fun a' U hW => word_at hW (Or.inl (by first | rfl | simp [Cond.onTables, Cond.keeps, Cond.steady])) hini)
  obtain ⟨hx, hb, hml, ho, -⟩ := S
  obtain ⟨-, ⟨cellB, hcB, hoB, hclB⟩, hPc⟩ := hp
  intro T hT X
  obtain ⟨v, vm₁, ⟨U', l2, c2, s2⟩, hW₁, X', ⟨g', mk, t, L, e1, e2, hq, h1, hL, h2, h3⟩, st⟩ := vx_callVW X hx (C := C) (hh := hh) (bytes := bytes) (maxL := maxL) (ret := ret) ho hl hin hse hcode hy hK (by rw [hT]; exact hcB) hoB hclB hg (hsize.trans hml.symm) (argsL := As) (rest := rest) (fun sig h => hn.trans (hlen sig h)) hstack hW (by rw [hb]; exact hdg)
    (fun vm₁ hW₁ => ⟨hf.1, hf.2, hPc (T.setVm vm₁) hT hW₁⟩)
  dsimp only [Pt.U, Pt.locs, Pt.cells, Pt.slots] at X' e1 e2 h1 h2 h3 st
  subst h1; subst h2; subst h3
  exact ⟨v, (T.setVm vm₁).calling g' mk (Value.ref b :: As).toArray, t, U', L, hT, X', hL, e1, e2, hq, st⟩
section
variable {y : MethodName} {bytes cc : ByteArray} {maxL nL mc ms n index : Nat} {ret : Option FieldType} {ws : List Cond} {rm : Room} {Pc : Array Value → State → Prop} {Qc : Array Value → State → Outcome → State → Prop} {XC : String → State → State → Prop} {free : Addr → Prop} {Ts : List Cond} {own C : String} {b : Addr} {As rest : List Value} {g : JFrame}
theorem vx_runVX {hh : List (Nat × Nat × Nat × Nat)} (S : CallFix p m c cc nL s args Ts own) (hM : vx_Met l y ws rm Pc Qc XC mc ms free) (cw : vx_CVW R s args own C index y bytes maxL ret hh ws rm mc ms n) (hp : PreV s H C b Pc As)
    (hg : g.method = m) (hn : As.length = n) (hsize : g.locals.size = nL) (hstack : g.stack = As.reverse ++ .ref b :: rest) (hW : 2 * g.monitorRoom + (rest.map fun v => v.category).sum ≤ 8) (hdg : decode cc g.pc = .ok (.invokevirtual index, 3)) (hf : cells + mc ≤ R.cells ∧ slots + ms ≤ R.slots) :
    vx_Run p l e R s m args below meth c H locs cells slots mc ms g rest (Qc (Value.ref b :: As).toArray) XC free := by
  obtain ⟨⟨hrc, hrs, hfr, hlo, hws, hcw⟩, hcode, hini, hy, hlen, hl, hin, hse⟩ := cw
  have hK : vx_Back l R p e below s args y 3 8 (PreOf R mc ms Pc) (PostOf Qc mc ms free) (vx_Post XC mc ms free) := vx_backW (hh := hh) (bytes := bytes) (maxL := maxL) (ret := ret) hM hp.1 hrc hrs hfr hlo hws hcw (fun a' U hW => word_at hW (Or.inl (by first | rfl | simp [Cond.onTables, Cond.keeps, Cond.steady])) hini)
  obtain ⟨hx, hb, hml, ho, -⟩ := S
  obtain ⟨-, ⟨cellB, hcB, hoB, hclB⟩, hPc⟩ := hp
  intro T hT X
  rcases vx_callVX X hx (C := C) (hh := hh) (bytes := bytes) (maxL := maxL) (ret := ret) ho hl hin hse hcode hy hK (by rw [hT]; exact hcB) hoB hclB hg (hsize.trans hml.symm) (argsL := As) (rest := rest) (fun sig h => hn.trans (hlen sig h)) hstack hW (by rw [hb]; exact hdg)
    (fun vm₁ hW₁ => ⟨hf.1, hf.2, hPc (T.setVm vm₁) hT hW₁⟩) with ⟨v, vm₁, ⟨U', l2, c2, s2⟩, hW₁, X', ⟨g', mk, t, L, e1, e2, hq, h1, hL, h2, h3⟩, st⟩ | ⟨q, vm₁, ⟨U', l2, c2, s2⟩, hW₁, X', ⟨g', mk, t, L, E, ce, e1, e2, hq, hce, hcv, hcl, h1, hL, h2, h3⟩, st⟩
  · dsimp only [Pt.U, Pt.locs, Pt.cells, Pt.slots] at X' e1 e2 h1 h2 h3 st
    subst h1; subst h2; subst h3
    exact Or.inl ⟨v, (T.setVm vm₁).calling g' mk (Value.ref b :: As).toArray, t, U', L, hT, X', hL, e1, e2, hq, st⟩
  · dsimp only [Pt.U, Pt.locs, Pt.cells, Pt.slots] at X' e1 e2 h1 h2 h3 st hcl
    subst h1; subst h2; subst h3
    exact Or.inr ⟨q, (T.setVm vm₁).calling g' mk (Value.ref b :: As).toArray, t, U', L, E, ce, hT, X', hL, e1, e2, hq, hce, hcv, vx_cls hW₁ hcl, st⟩
theorem vx_runSX {hh : List (Nat × Nat × Nat × Nat)} (S : CallFix p m c cc nL s args Ts own) (hM : vx_Met l y ws rm Pc Qc XC mc ms free) (cw : vx_CSW R s args own index y bytes maxL ret hh ws rm mc ms n) (hp : PreS s H Pc As)
    (hg : g.method = m) (hn : As.length = n) (hsize : g.locals.size = nL) (hstack : g.stack = As.reverse ++ rest) (hW : 2 * g.monitorRoom + (rest.map fun v => v.category).sum ≤ 8) (hdg : decode cc g.pc = .ok (.invokestatic index, 3)) (hf : cells + mc ≤ R.cells ∧ slots + ms ≤ R.slots) :
    vx_Run p l e R s m args below meth c H locs cells slots mc ms g rest (Qc As.toArray) XC free := by
  obtain ⟨⟨hrc, hrs, hfr, hlo, hws, hcw⟩, hcode, hini, hy, hlen, hl, hstt⟩ := cw
  have hK : vx_Back l R p e below s args y 3 8 (PreOf R mc ms Pc) (PostOf Qc mc ms free) (vx_Post XC mc ms free) := vx_backW (hh := hh) (bytes := bytes) (maxL := maxL) (ret := ret) hM hp.1 hrc hrs hfr hlo hws hcw (fun a' U hW => word_at hW (Or.inl (by first | rfl | simp [Cond.onTables, Cond.keeps, Cond.steady])) hini)
  obtain ⟨hx, hb, hml, ho, -⟩ := S
  intro T hT X
  rcases vx_callSX X hx (hh := hh) (bytes := bytes) (maxL := maxL) (ret := ret) ho hl hstt hini hcode hy hK hg (hsize.trans hml.symm) (argsL := As) (rest := rest) (fun sig h => hn.trans (hlen sig h)) hstack hW (by rw [hb]; exact hdg)
    (fun vm₁ hW₁ => ⟨hf.1, hf.2, hp.2 (T.setVm vm₁) hT hW₁⟩) with ⟨v, vm₁, ⟨U', l2, c2, s2⟩, hW₁, X', ⟨g', mk, t, L, e1, e2, hq, h1, hL, h2, h3⟩, st⟩ | ⟨q, vm₁, ⟨U', l2, c2, s2⟩, hW₁, X', ⟨g', mk, t, L, E, ce, e1, e2, hq, hce, hcv, hcl, h1, hL, h2, h3⟩, st⟩
  · dsimp only [Pt.U, Pt.locs, Pt.cells, Pt.slots] at X' e1 e2 h1 h2 h3 st
    subst h1; subst h2; subst h3
    exact Or.inl ⟨v, (T.setVm vm₁).calling g' mk As.toArray, t, U', L, hT, X', hL, e1, e2, hq, st⟩
  · dsimp only [Pt.U, Pt.locs, Pt.cells, Pt.slots] at X' e1 e2 h1 h2 h3 st hcl
    subst h1; subst h2; subst h3
    exact Or.inr ⟨q, (T.setVm vm₁).calling g' mk As.toArray, t, U', L, E, ce, hT, X', hL, e1, e2, hq, hce, hcv, vx_cls hW₁ hcl, st⟩
end
end VXH
theorem vx_ofWH {l : Launch} {y : MethodName} {ws ws' : List Cond} {rm : Room} {Pc : Array Value → State → Prop} {Qc : Array Value → State → Outcome → State → Prop} {XC : String → State → State → Prop} {mc ms : Nat} {free : Addr → Prop} {cc : ByteArray} {maxL : Nat} {ret : Option FieldType} {hh : List (Nat × Nat × Nat × Nat)}
    (hy : plainName y.cls = true) (hw : ws = Cond.codeWith y cc maxL ret hh :: ws')
    (body : ∀ p e s m args below meth c s₁, BodyLoose p l y (headSpec ws rm) cc maxL ret e s m args below meth c s₁ → c.maxLocals = maxL → Pc args s →
      W p l e (headSpec ws rm).room s m args below meth c s.heap [] 0 0 (vx_MQ below Qc XC args s mc ms free) (entryFrame m args maxL)) : vx_Met l y ws rm Pc Qc XC mc ms free := by
  refine MetFree.of_bodyS (code := cc) (maxLocals := maxL) (ret := ret) hy ?_ ?_
  · intro args s m h hn
    obtain ⟨m9, meth, c, hn9, h1, h2, h3, h4, -, h5, h6, -⟩ := Cond.codeWith_spec (atoms_spec (ws := ws) h _ (by rw [hw]; exact List.mem_cons_self))
    cases hn.symm.trans hn9
    exact ⟨meth, c, h1, h2, h3, h4, h5, h6⟩
  · intro p e s m args below meth c s₁ B hml hP _
    have hh0 : s₁.heap = s.heap := by rw [B.state]; rfl
    obtain ⟨t, a1, o, b1, b2, b3⟩ := body p e s m args below meth c s₁ B hml hP s₁ hh0 (Stand.of_body B)
    exact ⟨t, o, a1, b1, b2, b3⟩
/-! ===== END ===== -/
end
section
/-! ===== BEGIN printed: names, fields, word lists, decode rows ===== -/
def RX0 : String := "WarTable$RoadMap"
def TX0 : u_T := fun k => match k with
  | 0 => ("WarTable$RoadMap", "nextOverPaved", "[I", true)
  | 1 => ("WarTable$RoadMap", "nextOverUnpaved", "[I", true)
  | _ => ("WarTable$RoadMap", "roads", "I", false)
def tyX0 : Nat → FieldType := fun k => match k with
  | 0 => .array .int
  | 1 => .array .int
  | _ => .int
abbrev wsX00 : List Cond := u_ws RX0 TX0 3
theorem nmX0 : ∀ a, a < 3 → ∀ b, b < 3 → a ≠ b → (TX0 a).2.1 ≠ (TX0 b).2.1 := by decide +kernel
theorem tyX0_ok : ∀ k, k < 3 → parseFieldDescriptor (TX0 k).2.2.1 = some (tyX0 k) := by decide +kernel
abbrev cX0_init : ByteArray := prog_2_method_1_code
def yX0_init : MethodName := ⟨RX0, "<init>", "()V"⟩
abbrev cX0_roads : ByteArray := prog_2_method_2_code
def yX0_roads : MethodName := ⟨RX0, "roads", "()I"⟩
abbrev cX0_joins : ByteArray := prog_2_method_3_code
def yX0_joins : MethodName := ⟨RX0, "joins", "(II)Z"⟩
abbrev cX0_join : ByteArray := prog_2_method_4_code
def yX0_join : MethodName := ⟨RX0, "join", "(IIZ)V"⟩
abbrev cX0_nextOverOpen : ByteArray := prog_2_method_5_code
def yX0_nextOverOpen : MethodName := ⟨RX0, "nextOverOpen", "(II)I"⟩
abbrev cX0_widened : ByteArray := prog_2_method_6_code
def yX0_widened : MethodName := ⟨RX0, "widened", "(II)I"⟩
def RX1 : String := "WarTable$Rulings"
def TX1 : u_T := fun k => match k with
  | 0 => ("WarTable$Rulings", "turns", "[I", true)
  | 1 => ("WarTable$Rulings", "weathersBefore", "[I", true)
  | _ => ("WarTable$Rulings", "count", "I", false)
def tyX1 : Nat → FieldType := fun k => match k with
  | 0 => .array .int
  | 1 => .array .int
  | _ => .int
abbrev wsX10 : List Cond := u_ws RX1 TX1 3
theorem nmX1 : ∀ a, a < 3 → ∀ b, b < 3 → a ≠ b → (TX1 a).2.1 ≠ (TX1 b).2.1 := by decide +kernel
theorem tyX1_ok : ∀ k, k < 3 → parseFieldDescriptor (TX1 k).2.2.1 = some (tyX1 k) := by decide +kernel
abbrev cX1_init : ByteArray := prog_3_method_1_code
def yX1_init : MethodName := ⟨RX1, "<init>", "()V"⟩
def RX2 : String := "WarTable$Units"
def TX2 : u_T := fun k => match k with
  | 0 => ("WarTable$Units", "sides", "[I", true)
  | 1 => ("WarTable$Units", "towns", "[I", true)
  | 2 => ("WarTable$Units", "strengths", "[I", true)
  | 3 => ("WarTable$Units", "orders", "[I", true)
  | _ => ("WarTable$Units", "count", "I", false)
def tyX2 : Nat → FieldType := fun k => match k with
  | 0 => .array .int
  | 1 => .array .int
  | 2 => .array .int
  | 3 => .array .int
  | _ => .int
abbrev wsX20 : List Cond := u_ws RX2 TX2 5
theorem nmX2 : ∀ a, a < 5 → ∀ b, b < 5 → a ≠ b → (TX2 a).2.1 ≠ (TX2 b).2.1 := by decide +kernel
theorem tyX2_ok : ∀ k, k < 5 → parseFieldDescriptor (TX2 k).2.2.1 = some (tyX2 k) := by decide +kernel
abbrev cX2_init : ByteArray := prog_4_method_1_code
def yX2_init : MethodName := ⟨RX2, "<init>", "()V"⟩
abbrev cX2_count : ByteArray := prog_4_method_2_code
def yX2_count : MethodName := ⟨RX2, "count", "()I"⟩
abbrev cX2_add : ByteArray := prog_4_method_3_code
def yX2_add : MethodName := ⟨RX2, "add", "(III)I"⟩
abbrev cX2_sideOf : ByteArray := prog_4_method_4_code
def yX2_sideOf : MethodName := ⟨RX2, "sideOf", "(I)I"⟩
abbrev cX2_townAt : ByteArray := prog_4_method_5_code
def yX2_townAt : MethodName := ⟨RX2, "townAt", "(II)I"⟩
abbrev cX2_strengthAt : ByteArray := prog_4_method_6_code
def yX2_strengthAt : MethodName := ⟨RX2, "strengthAt", "(II)I"⟩
abbrev cX2_orderFor : ByteArray := prog_4_method_7_code
def yX2_orderFor : MethodName := ⟨RX2, "orderFor", "(II)I"⟩
abbrev cX2_giveOrder : ByteArray := prog_4_method_8_code
def yX2_giveOrder : MethodName := ⟨RX2, "giveOrder", "(III)V"⟩
abbrev cX2_place : ByteArray := prog_4_method_9_code
def yX2_place : MethodName := ⟨RX2, "place", "(IIII)V"⟩
abbrev cX2_livingAt : ByteArray := prog_4_method_12_code
def yX2_livingAt : MethodName := ⟨RX2, "livingAt", "(I)I"⟩
abbrev cX2_townsHeld : ByteArray := prog_4_method_13_code
def yX2_townsHeld : MethodName := ⟨RX2, "townsHeld", "(II)I"⟩
abbrev cX2_isKept : ByteArray := prog_4_method_14_code
def yX2_isKept : MethodName := ⟨RX2, "isKept", "(II)Z"⟩
abbrev cX2_index : ByteArray := prog_4_method_15_code
def yX2_index : MethodName := ⟨RX2, "index", "(II)I"⟩
def RX3 : String := "WarTable"
def TX3 : u_T := fun k => match k with
  | 0 => ("WarTable", "map", "LWarTable$RoadMap;", true)
  | 1 => ("WarTable", "depots", "[I", true)
  | 2 => ("WarTable", "units", "LWarTable$Units;", true)
  | 3 => ("WarTable", "weathers", "[I", true)
  | 4 => ("WarTable", "seen", "[I", true)
  | 5 => ("WarTable", "standing", "LWarTable$Rulings;", true)
  | _ => ("WarTable", "turns", "I", false)
def tyX3 : Nat → FieldType := fun k => match k with
  | 0 => .object "WarTable$RoadMap"
  | 1 => .array .int
  | 2 => .object "WarTable$Units"
  | 3 => .array .int
  | 4 => .array .int
  | 5 => .object "WarTable$Rulings"
  | _ => .int
abbrev wsX30 : List Cond := u_ws RX3 TX3 7
theorem nmX3 : ∀ a, a < 7 → ∀ b, b < 7 → a ≠ b → (TX3 a).2.1 ≠ (TX3 b).2.1 := by decide +kernel
theorem tyX3_ok : ∀ k, k < 7 → parseFieldDescriptor (TX3 k).2.2.1 = some (tyX3 k) := by decide +kernel
abbrev cX3_init : ByteArray := prog_1_method_1_code
def yX3_init : MethodName := ⟨RX3, "<init>", "()V"⟩
abbrev cX3_addRoad : ByteArray := prog_1_method_2_code
def yX3_addRoad : MethodName := ⟨RX3, "addRoad", "(IIZ)I"⟩
abbrev cX3_addUnit : ByteArray := prog_1_method_4_code
def yX3_addUnit : MethodName := ⟨RX3, "addUnit", "(III)I"⟩
abbrev cX3_order : ByteArray := prog_1_method_5_code
def yX3_order : MethodName := ⟨RX3, "order", "(II)I"⟩
abbrev cX3_play : ByteArray := prog_1_method_6_code
def yX3_play : MethodName := ⟨RX3, "play", "(I)I"⟩
abbrev cX3_played : ByteArray := prog_1_method_7_code
def yX3_played : MethodName := ⟨RX3, "played", "()I"⟩
abbrev cX3_townOf : ByteArray := prog_1_method_10_code
def yX3_townOf : MethodName := ⟨RX3, "townOf", "(I)I"⟩
abbrev cX3_strength : ByteArray := prog_1_method_11_code
def yX3_strength : MethodName := ⟨RX3, "strength", "(I)I"⟩
abbrev cX3_supply : ByteArray := prog_1_method_12_code
def yX3_supply : MethodName := ⟨RX3, "supply", "(II)I"⟩
abbrev cX3_townAfter : ByteArray := prog_1_method_13_code
def yX3_townAfter : MethodName := ⟨RX3, "townAfter", "(II)I"⟩
abbrev cX3_reported : ByteArray := prog_1_method_14_code
def yX3_reported : MethodName := ⟨RX3, "reported", "(II)I"⟩
abbrev cX3_force : ByteArray := prog_1_method_15_code
def yX3_force : MethodName := ⟨RX3, "force", "(I)I"⟩
abbrev cX3_checkSide : ByteArray := prog_1_method_18_code
def yX3_checkSide : MethodName := ⟨RX3, "checkSide", "(I)V"⟩
abbrev cX3_checkWeather : ByteArray := prog_1_method_19_code
def yX3_checkWeather : MethodName := ⟨RX3, "checkWeather", "(I)V"⟩
abbrev cX3_checkUnit : ByteArray := prog_1_method_20_code
def yX3_checkUnit : MethodName := ⟨RX3, "checkUnit", "(I)V"⟩
abbrev cX3_checkTurn : ByteArray := prog_1_method_21_code
def yX3_checkTurn : MethodName := ⟨RX3, "checkTurn", "(I)V"⟩
abbrev cX3_playFrom : ByteArray := prog_1_method_22_code
def yX3_playFrom : MethodName := ⟨RX3, "playFrom", "(I)V"⟩
abbrev cX3_suppliedTowns : ByteArray := prog_1_method_23_code
def yX3_suppliedTowns : MethodName := ⟨RX3, "suppliedTowns", "(IIII)I"⟩
abbrev cX3_suppliedUnits : ByteArray := prog_1_method_24_code
def yX3_suppliedUnits : MethodName := ⟨RX3, "suppliedUnits", "(II)I"⟩
abbrev cX3_goers : ByteArray := prog_1_method_25_code
def yX3_goers : MethodName := ⟨RX3, "goers", "(III)I"⟩
abbrev cX3_march : ByteArray := prog_1_method_26_code
def yX3_march : MethodName := ⟨RX3, "march", "(II)V"⟩
abbrev cX3_isMetOnRoad : ByteArray := prog_1_method_27_code
def yX3_isMetOnRoad : MethodName := ⟨RX3, "isMetOnRoad", "(III)Z"⟩
abbrev cX3_fightEverywhere : ByteArray := prog_1_method_28_code
def yX3_fightEverywhere : MethodName := ⟨RX3, "fightEverywhere", "(II)V"⟩
abbrev cX3_fight : ByteArray := prog_1_method_29_code
def yX3_fight : MethodName := ⟨RX3, "fight", "(III)V"⟩
abbrev cX3_sumInFight : ByteArray := prog_1_method_30_code
def yX3_sumInFight : MethodName := ⟨RX3, "sumInFight", "(IIII)I"⟩
abbrev cX3_loss : ByteArray := prog_1_method_31_code
def yX3_loss : MethodName := ⟨RX3, "loss", "(II)I"⟩
abbrev cX3_unitsInSight : ByteArray := prog_1_method_32_code
def yX3_unitsInSight : MethodName := ⟨RX3, "unitsInSight", "(I)I"⟩
abbrev cX3_below : ByteArray := prog_1_method_33_code
def yX3_below : MethodName := ⟨RX3, "below", "(II)Z"⟩
abbrev cX3_opponent : ByteArray := prog_1_method_34_code
def yX3_opponent : MethodName := ⟨RX3, "opponent", "(I)I"⟩
abbrev cX3_bit : ByteArray := prog_1_method_35_code
def yX3_bit : MethodName := ⟨RX3, "bit", "(I)I"⟩
abbrev cX3_has : ByteArray := prog_1_method_36_code
def yX3_has : MethodName := ⟨RX3, "has", "(II)Z"⟩
def RX4 : String := "WarTableModel"
def TX4 : u_T := fun k => match k with
  | _ => ("", "", "", false)
def tyX4 : Nat → FieldType := fun k => match k with
  | _ => .int
abbrev wsX40 : List Cond := u_ws RX4 TX4 0
theorem nmX4 : ∀ a, a < 0 → ∀ b, b < 0 → a ≠ b → (TX4 a).2.1 ≠ (TX4 b).2.1 := by decide +kernel
theorem tyX4_ok : ∀ k, k < 0 → parseFieldDescriptor (TX4 k).2.2.1 = some (tyX4 k) := by decide +kernel
def RJ9 : String := "java/lang/Math"
def TJ9 : u_T := fun k => match k with
  | _ => ("", "", "", false)
def tyJ9 : Nat → FieldType := fun k => match k with
  | _ => .int
abbrev wsJ90 : List Cond := u_ws RJ9 TJ9 0
theorem nmJ9 : ∀ a, a < 0 → ∀ b, b < 0 → a ≠ b → (TJ9 a).2.1 ≠ (TJ9 b).2.1 := by decide +kernel
theorem tyJ9_ok : ∀ k, k < 0 → parseFieldDescriptor (TJ9 k).2.2.1 = some (tyJ9 k) := by decide +kernel
abbrev cJ9_max_7cf53 : ByteArray := prog_11_method_65_code
def yJ9_max_7cf53 : MethodName := ⟨RJ9, "max", "(II)I"⟩
abbrev cJ9_min_7cf53 : ByteArray := prog_11_method_69_code
def yJ9_min_7cf53 : MethodName := ⟨RJ9, "min", "(II)I"⟩
def RJ0 : String := "java/lang/String"
def TJ0 : u_T := fun k => match k with
  | _ => ("", "", "", false)
def tyJ0 : Nat → FieldType := fun k => match k with
  | _ => .int
abbrev wsJ00 : List Cond := u_ws RJ0 TJ0 0
theorem nmJ0 : ∀ a, a < 0 → ∀ b, b < 0 → a ≠ b → (TJ0 a).2.1 ≠ (TJ0 b).2.1 := by decide +kernel
theorem tyJ0_ok : ∀ k, k < 0 → parseFieldDescriptor (TJ0 k).2.2.1 = some (tyJ0 k) := by decide +kernel
def RL : String := "WarTableLaw"
abbrev cL_cell : ByteArray := method_2_code
def yL_cell : MethodName := ⟨RL, "cell", "([II)I"⟩
abbrev cL_at : ByteArray := method_3_code
def yL_at : MethodName := ⟨RL, "at", "(II)I"⟩
abbrev cL_lay : ByteArray := method_4_code
def yL_lay : MethodName := ⟨RL, "lay", "(LWarTable;[I[I[I)I"⟩
abbrev cL_sum : ByteArray := method_5_code
def yL_sum : MethodName := ⟨RL, "sum", "(LWarTable;II[I)I"⟩
abbrev cL_moved : ByteArray := method_6_code
def yL_moved : MethodName := ⟨RL, "moved", "(LWarTable;II[I[I[I[I[I)Z"⟩
abbrev cL_supplied : ByteArray := method_7_code
def yL_supplied : MethodName := ⟨RL, "supplied", "(LWarTable;II[I[I)Z"⟩
abbrev cL_law : ByteArray := code
def yL_law : MethodName := ⟨RL, "law", "([I)Z"⟩
def wsX0_init : List Cond := .code yX0_init cX0_init 1 none :: ([.methodLink RX0 3 objectInit, .instanceMethod objectInit, .code objectInit ⟨#[0xb1]⟩ 1 none, .arrayClass .int, .fieldLink RX0 9 "WarTable$RoadMap" "nextOverPaved" "[I", .fieldLink RX0 15 "WarTable$RoadMap" "nextOverUnpaved" "[I", .fieldLink RX0 18 "WarTable$RoadMap" "roads" "I"] ++ wsX00)
def wsX0_roads : List Cond := .code yX0_roads cX0_roads 1 (some .int) :: ([.fieldLink RX0 18 "WarTable$RoadMap" "roads" "I"] ++ wsX00)
def wsX3_below : List Cond := .code yX3_below cX3_below 2 (some .boolean) :: ([])
def wsX0_nextOverOpen : List Cond := .code yX0_nextOverOpen cX0_nextOverOpen 3 (some .int) :: ([.fieldLink RX0 9 "WarTable$RoadMap" "nextOverPaved" "[I", .fieldLink RX0 15 "WarTable$RoadMap" "nextOverUnpaved" "[I", .static yX3_below, .initialized RX3, .code yX3_below cX3_below 2 (some .boolean)] ++ wsX00)
def wsX3_bit : List Cond := .code yX3_bit cX3_bit 1 (some .int) :: ([])
def wsX3_has : List Cond := .code yX3_has cX3_has 2 (some .boolean) :: ([.methodLink RX3 202 yX3_bit, .static yX3_bit, .initialized RX3, .code yX3_bit cX3_bit 1 (some .int)])
def wsX0_joins : List Cond := .code yX0_joins cX0_joins 3 (some .boolean) :: ([.methodLink RX0 22 yX0_nextOverOpen, .instanceMethod yX0_nextOverOpen, .selects RX0 yX0_nextOverOpen yX0_nextOverOpen, .initialized RX0, .code yX0_nextOverOpen cX0_nextOverOpen 3 (some .int), .fieldLink RX0 9 "WarTable$RoadMap" "nextOverPaved" "[I", .fieldLink RX0 15 "WarTable$RoadMap" "nextOverUnpaved" "[I", .static yX3_below, .initialized RX3, .code yX3_below cX3_below 2 (some .boolean), .static yX3_has, .code yX3_has cX3_has 2 (some .boolean), .methodLink RX3 202 yX3_bit, .static yX3_bit, .code yX3_bit cX3_bit 1 (some .int)] ++ wsX00)
def wsX0_join : List Cond := .code yX0_join cX0_join 5 none :: ([.fieldLink RX0 9 "WarTable$RoadMap" "nextOverPaved" "[I", .fieldLink RX0 15 "WarTable$RoadMap" "nextOverUnpaved" "[I", .fieldLink RX0 18 "WarTable$RoadMap" "roads" "I", .static yX3_below, .initialized RX3, .code yX3_below cX3_below 2 (some .boolean), .static yX3_bit, .code yX3_bit cX3_bit 1 (some .int)] ++ wsX00)
def wsX0_widened : List Cond := .code yX0_widened cX0_widened 5 (some .int) :: ([.static yX3_has, .initialized RX3, .code yX3_has cX3_has 2 (some .boolean), .methodLink RX3 202 yX3_bit, .static yX3_bit, .code yX3_bit cX3_bit 1 (some .int), .methodLink RX0 22 yX0_nextOverOpen, .instanceMethod yX0_nextOverOpen, .selects RX0 yX0_nextOverOpen yX0_nextOverOpen, .initialized RX0, .code yX0_nextOverOpen cX0_nextOverOpen 3 (some .int), .fieldLink RX0 9 "WarTable$RoadMap" "nextOverPaved" "[I", .fieldLink RX0 15 "WarTable$RoadMap" "nextOverUnpaved" "[I", .static yX3_below, .code yX3_below cX3_below 2 (some .boolean)] ++ wsX00)
def wsX1_init : List Cond := .code yX1_init cX1_init 1 none :: ([.methodLink RX1 3 objectInit, .instanceMethod objectInit, .code objectInit ⟨#[0xb1]⟩ 1 none, .arrayClass .int, .fieldLink RX1 9 "WarTable$Rulings" "turns" "[I", .fieldLink RX1 15 "WarTable$Rulings" "weathersBefore" "[I", .fieldLink RX1 18 "WarTable$Rulings" "count" "I"] ++ wsX10)
def wsX2_init : List Cond := .code yX2_init cX2_init 1 none :: ([.methodLink RX2 3 objectInit, .instanceMethod objectInit, .code objectInit ⟨#[0xb1]⟩ 1 none, .arrayClass .int, .fieldLink RX2 9 "WarTable$Units" "sides" "[I", .fieldLink RX2 15 "WarTable$Units" "towns" "[I", .fieldLink RX2 18 "WarTable$Units" "strengths" "[I", .fieldLink RX2 21 "WarTable$Units" "orders" "[I", .fieldLink RX2 24 "WarTable$Units" "count" "I"] ++ wsX20)
def wsX2_count : List Cond := .code yX2_count cX2_count 1 (some .int) :: ([.fieldLink RX2 24 "WarTable$Units" "count" "I"] ++ wsX20)
def wsX2_isKept : List Cond := .code yX2_isKept cX2_isKept 2 (some .boolean) :: ([])
def wsX2_index : List Cond := .code yX2_index cX2_index 2 (some .int) :: ([])
def wsX2_place : List Cond := .code yX2_place cX2_place 5 none :: ([.fieldLink RX2 15 "WarTable$Units" "towns" "[I", .fieldLink RX2 18 "WarTable$Units" "strengths" "[I", .methodLink RX2 43 Lib.Math.max.name, .static Lib.Math.max.name, .initialized "java/lang/Math", .code Lib.Math.max.name Lib.Math.max.code 2 (some .int), .methodLink RX2 36 yX2_isKept, .static yX2_isKept, .initialized RX2, .code yX2_isKept cX2_isKept 2 (some .boolean), .methodLink RX2 39 yX2_index, .static yX2_index, .code yX2_index cX2_index 2 (some .int)] ++ wsX20)
def wsX2_add : List Cond := .code yX2_add cX2_add 5 (some .int) :: ([.fieldLink RX2 24 "WarTable$Units" "count" "I", .fieldLink RX2 9 "WarTable$Units" "sides" "[I", .static yX3_below, .initialized RX3, .code yX3_below cX3_below 2 (some .boolean), .methodLink RX2 32 yX2_place, .instanceMethod yX2_place, .selects RX2 yX2_place yX2_place, .initialized RX2, .code yX2_place cX2_place 5 none, .fieldLink RX2 15 "WarTable$Units" "towns" "[I", .fieldLink RX2 18 "WarTable$Units" "strengths" "[I", .methodLink RX2 43 Lib.Math.max.name, .static Lib.Math.max.name, .initialized "java/lang/Math", .code Lib.Math.max.name Lib.Math.max.code 2 (some .int), .methodLink RX2 36 yX2_isKept, .static yX2_isKept, .code yX2_isKept cX2_isKept 2 (some .boolean), .methodLink RX2 39 yX2_index, .static yX2_index, .code yX2_index cX2_index 2 (some .int)] ++ wsX20)
def wsX2_sideOf : List Cond := .code yX2_sideOf cX2_sideOf 2 (some .int) :: ([.fieldLink RX2 9 "WarTable$Units" "sides" "[I", .static yX3_below, .initialized RX3, .code yX3_below cX3_below 2 (some .boolean)] ++ wsX20)
def wsX2_townAt : List Cond := .code yX2_townAt cX2_townAt 3 (some .int) :: ([.fieldLink RX2 15 "WarTable$Units" "towns" "[I", .methodLink RX2 36 yX2_isKept, .static yX2_isKept, .initialized RX2, .code yX2_isKept cX2_isKept 2 (some .boolean), .methodLink RX2 39 yX2_index, .static yX2_index, .code yX2_index cX2_index 2 (some .int)] ++ wsX20)
def wsX2_strengthAt : List Cond := .code yX2_strengthAt cX2_strengthAt 3 (some .int) :: ([.fieldLink RX2 18 "WarTable$Units" "strengths" "[I", .methodLink RX2 36 yX2_isKept, .static yX2_isKept, .initialized RX2, .code yX2_isKept cX2_isKept 2 (some .boolean), .methodLink RX2 39 yX2_index, .static yX2_index, .code yX2_index cX2_index 2 (some .int)] ++ wsX20)
def wsX2_orderFor : List Cond := .code yX2_orderFor cX2_orderFor 3 (some .int) :: ([.fieldLink RX2 21 "WarTable$Units" "orders" "[I", .methodLink RX2 36 yX2_isKept, .static yX2_isKept, .initialized RX2, .code yX2_isKept cX2_isKept 2 (some .boolean), .methodLink RX2 39 yX2_index, .static yX2_index, .code yX2_index cX2_index 2 (some .int)] ++ wsX20)
def wsX2_giveOrder : List Cond := .code yX2_giveOrder cX2_giveOrder 4 none :: ([.fieldLink RX2 21 "WarTable$Units" "orders" "[I", .methodLink RX2 36 yX2_isKept, .static yX2_isKept, .initialized RX2, .code yX2_isKept cX2_isKept 2 (some .boolean), .methodLink RX2 39 yX2_index, .static yX2_index, .code yX2_index cX2_index 2 (some .int)] ++ wsX20)
def wsX2_livingAt : List Cond := .code yX2_livingAt cX2_livingAt 4 (some .int) :: ([.fieldLink RX2 24 "WarTable$Units" "count" "I", .methodLink RX2 48 yX2_townAt, .instanceMethod yX2_townAt, .selects RX2 yX2_townAt yX2_townAt, .initialized RX2, .code yX2_townAt cX2_townAt 3 (some .int), .fieldLink RX2 15 "WarTable$Units" "towns" "[I", .methodLink RX2 36 yX2_isKept, .static yX2_isKept, .code yX2_isKept cX2_isKept 2 (some .boolean), .methodLink RX2 39 yX2_index, .static yX2_index, .code yX2_index cX2_index 2 (some .int)] ++ wsX20)
def wsX2_townsHeld : List Cond := .code yX2_townsHeld cX2_townsHeld 6 (some .int) :: ([.fieldLink RX2 24 "WarTable$Units" "count" "I", .methodLink RX2 48 yX2_townAt, .instanceMethod yX2_townAt, .selects RX2 yX2_townAt yX2_townAt, .initialized RX2, .code yX2_townAt cX2_townAt 3 (some .int), .fieldLink RX2 15 "WarTable$Units" "towns" "[I", .methodLink RX2 36 yX2_isKept, .static yX2_isKept, .code yX2_isKept cX2_isKept 2 (some .boolean), .methodLink RX2 39 yX2_index, .static yX2_index, .code yX2_index cX2_index 2 (some .int), .methodLink RX2 54 yX2_sideOf, .instanceMethod yX2_sideOf, .selects RX2 yX2_sideOf yX2_sideOf, .code yX2_sideOf cX2_sideOf 2 (some .int), .fieldLink RX2 9 "WarTable$Units" "sides" "[I", .static yX3_below, .initialized RX3, .code yX3_below cX3_below 2 (some .boolean), .static yX3_bit, .code yX3_bit cX3_bit 1 (some .int)] ++ wsX20)
def wsX3_init_r1 : List Cond := [Cond.methodLink RX3 3 objectInit, Cond.instanceMethod objectInit, Cond.code objectInit ⟨#[0xb1]⟩ 1 none, Cond.classLink RX3 9 RX0, Cond.instantiable RX0 3, Cond.initialized RX0, Cond.fieldLink RX3 12 "WarTable" "map" "LWarTable$RoadMap;", Cond.arrayClass .int, Cond.fieldLink RX3 16 "WarTable" "depots" "[I", Cond.classLink RX3 20 RX2, Cond.instantiable RX2 5, Cond.initialized RX2, Cond.fieldLink RX3 23 "WarTable" "units" "LWarTable$Units;", Cond.fieldLink RX3 27 "WarTable" "weathers" "[I", Cond.fieldLink RX3 30 "WarTable" "seen" "[I", Cond.classLink RX3 33 RX1, Cond.instantiable RX1 3, Cond.initialized RX1, Cond.fieldLink RX3 36 "WarTable" "standing" "LWarTable$Rulings;", Cond.fieldLink RX3 40 "WarTable" "turns" "I", Cond.instanceMethod yX0_init, Cond.code yX0_init cX0_init 1 none, Cond.methodLink RX0 3 objectInit, Cond.fieldLink RX0 9 "WarTable$RoadMap" "nextOverPaved" "[I"]
def wsX3_init_r2 : List Cond := [Cond.fieldLink RX0 15 "WarTable$RoadMap" "nextOverUnpaved" "[I", Cond.fieldLink RX0 18 "WarTable$RoadMap" "roads" "I", Cond.instanceMethod yX2_init, Cond.code yX2_init cX2_init 1 none, Cond.methodLink RX2 3 objectInit, Cond.fieldLink RX2 9 "WarTable$Units" "sides" "[I", Cond.fieldLink RX2 15 "WarTable$Units" "towns" "[I", Cond.fieldLink RX2 18 "WarTable$Units" "strengths" "[I", Cond.fieldLink RX2 21 "WarTable$Units" "orders" "[I", Cond.fieldLink RX2 24 "WarTable$Units" "count" "I", Cond.instanceMethod yX1_init, Cond.code yX1_init cX1_init 1 none, Cond.methodLink RX1 3 objectInit, Cond.fieldLink RX1 9 "WarTable$Rulings" "turns" "[I", Cond.fieldLink RX1 15 "WarTable$Rulings" "weathersBefore" "[I", Cond.fieldLink RX1 18 "WarTable$Rulings" "count" "I"]
def wsX3_init : List Cond := .code yX3_init cX3_init 1 none :: ((wsX3_init_r1 ++ wsX3_init_r2) ++ wsX00 ++ wsX30 ++ wsX20 ++ wsX10)
def wsX3_addRoad_r1 : List Cond := [Cond.classLink RX3 48 "java/lang/IllegalArgumentException", Cond.initialized "java/lang/IllegalArgumentException", Cond.classLink RX3 62 "java/lang/IllegalStateException", Cond.initialized "java/lang/IllegalStateException", Cond.fieldLink RX3 40 "WarTable" "turns" "I", Cond.fieldLink RX3 12 "WarTable" "map" "LWarTable$RoadMap;", Cond.methodLink RX3 44 yX3_below, Cond.static yX3_below, Cond.initialized RX3, Cond.code yX3_below cX3_below 2 (some .boolean), Cond.methodLink RX3 55 yX0_joins, Cond.instanceMethod yX0_joins, Cond.selects RX0 yX0_joins yX0_joins, Cond.initialized RX0, Cond.code yX0_joins cX0_joins 3 (some .boolean), Cond.methodLink RX0 22 yX0_nextOverOpen, Cond.instanceMethod yX0_nextOverOpen, Cond.selects RX0 yX0_nextOverOpen yX0_nextOverOpen, Cond.code yX0_nextOverOpen cX0_nextOverOpen 3 (some .int), Cond.fieldLink RX0 9 "WarTable$RoadMap" "nextOverPaved" "[I", Cond.fieldLink RX0 15 "WarTable$RoadMap" "nextOverUnpaved" "[I", Cond.static yX3_has, Cond.code yX3_has cX3_has 2 (some .boolean), Cond.methodLink RX3 202 yX3_bit]
def wsX3_addRoad_r2 : List Cond := [Cond.static yX3_bit, Cond.code yX3_bit cX3_bit 1 (some .int), Cond.methodLink RX3 58 yX0_roads, Cond.instanceMethod yX0_roads, Cond.selects RX0 yX0_roads yX0_roads, Cond.code yX0_roads cX0_roads 1 (some .int), Cond.fieldLink RX0 18 "WarTable$RoadMap" "roads" "I", Cond.methodLink RX3 67 yX0_join, Cond.instanceMethod yX0_join, Cond.selects RX0 yX0_join yX0_join, Cond.code yX0_join cX0_join 5 none]
def wsX3_addRoad : List Cond := .code yX3_addRoad cX3_addRoad 4 (some .int) :: ((wsX3_addRoad_r1 ++ wsX3_addRoad_r2) ++ wsX30 ++ wsX00 ++ (vx_atS RX3 52 "java/lang/IllegalArgumentException" ["java/lang/RuntimeException", "java/lang/Exception"]).filter goodWord ++ (vx_atS RX3 66 "java/lang/IllegalStateException" ["java/lang/RuntimeException", "java/lang/Exception"]).filter goodWord)
def wsX3_opponent : List Cond := .code yX3_opponent cX3_opponent 1 (some .int) :: ([])
def wsX3_addUnit_r1 : List Cond := [Cond.classLink RX3 48 "java/lang/IllegalArgumentException", Cond.initialized "java/lang/IllegalArgumentException", Cond.classLink RX3 62 "java/lang/IllegalStateException", Cond.initialized "java/lang/IllegalStateException", Cond.fieldLink RX3 40 "WarTable" "turns" "I", Cond.fieldLink RX3 23 "WarTable" "units" "LWarTable$Units;", Cond.methodLink RX3 44 yX3_below, Cond.static yX3_below, Cond.initialized RX3, Cond.code yX3_below cX3_below 2 (some .boolean), Cond.methodLink RX3 77 yX3_opponent, Cond.static yX3_opponent, Cond.code yX3_opponent cX3_opponent 1 (some .int), Cond.methodLink RX3 81 yX2_townsHeld, Cond.instanceMethod yX2_townsHeld, Cond.selects RX2 yX2_townsHeld yX2_townsHeld, Cond.initialized RX2, Cond.code yX2_townsHeld cX2_townsHeld 6 (some .int), Cond.fieldLink RX2 24 "WarTable$Units" "count" "I", Cond.methodLink RX2 48 yX2_townAt, Cond.instanceMethod yX2_townAt, Cond.selects RX2 yX2_townAt yX2_townAt, Cond.code yX2_townAt cX2_townAt 3 (some .int), Cond.fieldLink RX2 15 "WarTable$Units" "towns" "[I"]
def wsX3_addUnit_r2 : List Cond := [Cond.methodLink RX2 36 yX2_isKept, Cond.static yX2_isKept, Cond.code yX2_isKept cX2_isKept 2 (some .boolean), Cond.methodLink RX2 39 yX2_index, Cond.static yX2_index, Cond.code yX2_index cX2_index 2 (some .int), Cond.methodLink RX2 54 yX2_sideOf, Cond.instanceMethod yX2_sideOf, Cond.selects RX2 yX2_sideOf yX2_sideOf, Cond.code yX2_sideOf cX2_sideOf 2 (some .int), Cond.fieldLink RX2 9 "WarTable$Units" "sides" "[I", Cond.static yX3_bit, Cond.code yX3_bit cX3_bit 1 (some .int), Cond.methodLink RX3 85 yX3_has, Cond.static yX3_has, Cond.code yX3_has cX3_has 2 (some .boolean), Cond.methodLink RX3 202 yX3_bit, Cond.methodLink RX3 88 yX2_count, Cond.instanceMethod yX2_count, Cond.selects RX2 yX2_count yX2_count, Cond.code yX2_count cX2_count 1 (some .int), Cond.methodLink RX3 93 yX2_add, Cond.instanceMethod yX2_add, Cond.selects RX2 yX2_add yX2_add]
def wsX3_addUnit_r3 : List Cond := [Cond.code yX2_add cX2_add 5 (some .int), Cond.methodLink RX2 32 yX2_place, Cond.instanceMethod yX2_place, Cond.selects RX2 yX2_place yX2_place, Cond.code yX2_place cX2_place 5 none, Cond.fieldLink RX2 18 "WarTable$Units" "strengths" "[I", Cond.methodLink RX2 43 Lib.Math.max.name, Cond.static Lib.Math.max.name, Cond.initialized "java/lang/Math", Cond.code Lib.Math.max.name Lib.Math.max.code 2 (some .int)]
def wsX3_addUnit : List Cond := .code yX3_addUnit cX3_addUnit 4 (some .int) :: ((wsX3_addUnit_r1 ++ (wsX3_addUnit_r2 ++ wsX3_addUnit_r3)) ++ wsX30 ++ wsX20 ++ (vx_atS RX3 52 "java/lang/IllegalArgumentException" ["java/lang/RuntimeException", "java/lang/Exception"]).filter goodWord ++ (vx_atS RX3 66 "java/lang/IllegalStateException" ["java/lang/RuntimeException", "java/lang/Exception"]).filter goodWord)
def wsX3_checkUnit : List Cond := .code yX3_checkUnit cX3_checkUnit 2 none :: ([.classLink RX3 165 "java/lang/IndexOutOfBoundsException", .initialized "java/lang/IndexOutOfBoundsException", .fieldLink RX3 23 "WarTable" "units" "LWarTable$Units;", .methodLink RX3 88 yX2_count, .instanceMethod yX2_count, .selects RX2 yX2_count yX2_count, .initialized RX2, .code yX2_count cX2_count 1 (some .int), .fieldLink RX2 24 "WarTable$Units" "count" "I", .methodLink RX3 44 yX3_below, .static yX3_below, .initialized RX3, .code yX3_below cX3_below 2 (some .boolean)] ++ wsX30 ++ wsX20 ++ (vx_atS RX3 169 "java/lang/IndexOutOfBoundsException" ["java/lang/RuntimeException", "java/lang/Exception"]).filter goodWord)
def wsX3_order_r1 : List Cond := [Cond.classLink RX3 48 "java/lang/IllegalArgumentException", Cond.initialized "java/lang/IllegalArgumentException", Cond.fieldLink RX3 23 "WarTable" "units" "LWarTable$Units;", Cond.fieldLink RX3 40 "WarTable" "turns" "I", Cond.methodLink RX3 97 yX3_checkUnit, Cond.instanceMethod yX3_checkUnit, Cond.selects RX3 yX3_checkUnit yX3_checkUnit, Cond.initialized RX3, Cond.code yX3_checkUnit cX3_checkUnit 2 none, Cond.classLink RX3 165 "java/lang/IndexOutOfBoundsException", Cond.initialized "java/lang/IndexOutOfBoundsException", Cond.methodLink RX3 88 yX2_count, Cond.instanceMethod yX2_count, Cond.selects RX2 yX2_count yX2_count, Cond.initialized RX2, Cond.code yX2_count cX2_count 1 (some .int), Cond.fieldLink RX2 24 "WarTable$Units" "count" "I", Cond.methodLink RX3 44 yX3_below, Cond.static yX3_below, Cond.code yX3_below cX3_below 2 (some .boolean), Cond.methodLink RX3 103 yX2_orderFor, Cond.instanceMethod yX2_orderFor, Cond.selects RX2 yX2_orderFor yX2_orderFor, Cond.code yX2_orderFor cX2_orderFor 3 (some .int)]
def wsX3_order_r2 : List Cond := [Cond.fieldLink RX2 21 "WarTable$Units" "orders" "[I", Cond.methodLink RX2 36 yX2_isKept, Cond.static yX2_isKept, Cond.code yX2_isKept cX2_isKept 2 (some .boolean), Cond.methodLink RX2 39 yX2_index, Cond.static yX2_index, Cond.code yX2_index cX2_index 2 (some .int), Cond.methodLink RX3 106 yX2_giveOrder, Cond.instanceMethod yX2_giveOrder, Cond.selects RX2 yX2_giveOrder yX2_giveOrder, Cond.code yX2_giveOrder cX2_giveOrder 4 none]
def wsX3_order : List Cond := .code yX3_order cX3_order 4 (some .int) :: ((wsX3_order_r1 ++ wsX3_order_r2) ++ wsX30 ++ wsX20 ++ (vx_atS RX3 52 "java/lang/IllegalArgumentException" ["java/lang/RuntimeException", "java/lang/Exception"]).filter goodWord ++ (vx_atS RX3 169 "java/lang/IndexOutOfBoundsException" ["java/lang/RuntimeException", "java/lang/Exception"]).filter goodWord)
def wsX3_checkWeather : List Cond := .code yX3_checkWeather cX3_checkWeather 1 none :: ([.classLink RX3 48 "java/lang/IllegalArgumentException", .initialized "java/lang/IllegalArgumentException", .methodLink RX3 44 yX3_below, .static yX3_below, .initialized RX3, .code yX3_below cX3_below 2 (some .boolean)] ++ (vx_atS RX3 52 "java/lang/IllegalArgumentException" ["java/lang/RuntimeException", "java/lang/Exception"]).filter goodWord)
def wsX3_suppliedTowns_r1 : List Cond := [Cond.fieldLink RX3 23 "WarTable" "units" "LWarTable$Units;", Cond.fieldLink RX3 16 "WarTable" "depots" "[I", Cond.fieldLink RX3 12 "WarTable" "map" "LWarTable$RoadMap;", Cond.methodLink RX3 44 yX3_below, Cond.static yX3_below, Cond.initialized RX3, Cond.code yX3_below cX3_below 2 (some .boolean), Cond.methodLink RX3 77 yX3_opponent, Cond.static yX3_opponent, Cond.code yX3_opponent cX3_opponent 1 (some .int), Cond.methodLink RX3 81 yX2_townsHeld, Cond.instanceMethod yX2_townsHeld, Cond.selects RX2 yX2_townsHeld yX2_townsHeld, Cond.initialized RX2, Cond.code yX2_townsHeld cX2_townsHeld 6 (some .int), Cond.fieldLink RX2 24 "WarTable$Units" "count" "I", Cond.methodLink RX2 48 yX2_townAt, Cond.instanceMethod yX2_townAt, Cond.selects RX2 yX2_townAt yX2_townAt, Cond.code yX2_townAt cX2_townAt 3 (some .int), Cond.fieldLink RX2 15 "WarTable$Units" "towns" "[I", Cond.methodLink RX2 36 yX2_isKept, Cond.static yX2_isKept, Cond.code yX2_isKept cX2_isKept 2 (some .boolean)]
def wsX3_suppliedTowns_r2 : List Cond := [Cond.methodLink RX2 39 yX2_index, Cond.static yX2_index, Cond.code yX2_index cX2_index 2 (some .int), Cond.methodLink RX2 54 yX2_sideOf, Cond.instanceMethod yX2_sideOf, Cond.selects RX2 yX2_sideOf yX2_sideOf, Cond.code yX2_sideOf cX2_sideOf 2 (some .int), Cond.fieldLink RX2 9 "WarTable$Units" "sides" "[I", Cond.static yX3_bit, Cond.code yX3_bit cX3_bit 1 (some .int), Cond.methodLink RX3 202 yX3_bit, Cond.methodLink RX3 205 yX0_widened, Cond.instanceMethod yX0_widened, Cond.selects RX0 yX0_widened yX0_widened, Cond.initialized RX0, Cond.code yX0_widened cX0_widened 5 (some .int), Cond.static yX3_has, Cond.code yX3_has cX3_has 2 (some .boolean), Cond.methodLink RX0 22 yX0_nextOverOpen, Cond.instanceMethod yX0_nextOverOpen, Cond.selects RX0 yX0_nextOverOpen yX0_nextOverOpen, Cond.code yX0_nextOverOpen cX0_nextOverOpen 3 (some .int), Cond.fieldLink RX0 9 "WarTable$RoadMap" "nextOverPaved" "[I", Cond.fieldLink RX0 15 "WarTable$RoadMap" "nextOverUnpaved" "[I"]
def wsX3_suppliedTowns : List Cond := .code yX3_suppliedTowns cX3_suppliedTowns 8 (some .int) :: ((wsX3_suppliedTowns_r1 ++ wsX3_suppliedTowns_r2) ++ wsX30 ++ wsX20 ++ wsX00)
def wsX3_suppliedUnits_r1 : List Cond := [Cond.fieldLink RX3 23 "WarTable" "units" "LWarTable$Units;", Cond.methodLink RX3 158 yX3_suppliedTowns, Cond.instanceMethod yX3_suppliedTowns, Cond.selects RX3 yX3_suppliedTowns yX3_suppliedTowns, Cond.initialized RX3, Cond.code yX3_suppliedTowns cX3_suppliedTowns 8 (some .int), Cond.fieldLink RX3 16 "WarTable" "depots" "[I", Cond.fieldLink RX3 12 "WarTable" "map" "LWarTable$RoadMap;", Cond.methodLink RX3 44 yX3_below, Cond.static yX3_below, Cond.code yX3_below cX3_below 2 (some .boolean), Cond.methodLink RX3 77 yX3_opponent, Cond.static yX3_opponent, Cond.code yX3_opponent cX3_opponent 1 (some .int), Cond.methodLink RX3 81 yX2_townsHeld, Cond.instanceMethod yX2_townsHeld, Cond.selects RX2 yX2_townsHeld yX2_townsHeld, Cond.initialized RX2, Cond.code yX2_townsHeld cX2_townsHeld 6 (some .int), Cond.fieldLink RX2 24 "WarTable$Units" "count" "I", Cond.methodLink RX2 48 yX2_townAt, Cond.instanceMethod yX2_townAt, Cond.selects RX2 yX2_townAt yX2_townAt, Cond.code yX2_townAt cX2_townAt 3 (some .int)]
def wsX3_suppliedUnits_r2 : List Cond := [Cond.fieldLink RX2 15 "WarTable$Units" "towns" "[I", Cond.methodLink RX2 36 yX2_isKept, Cond.static yX2_isKept, Cond.code yX2_isKept cX2_isKept 2 (some .boolean), Cond.methodLink RX2 39 yX2_index, Cond.static yX2_index, Cond.code yX2_index cX2_index 2 (some .int), Cond.methodLink RX2 54 yX2_sideOf, Cond.instanceMethod yX2_sideOf, Cond.selects RX2 yX2_sideOf yX2_sideOf, Cond.code yX2_sideOf cX2_sideOf 2 (some .int), Cond.fieldLink RX2 9 "WarTable$Units" "sides" "[I", Cond.static yX3_bit, Cond.code yX3_bit cX3_bit 1 (some .int), Cond.methodLink RX3 202 yX3_bit, Cond.methodLink RX3 205 yX0_widened, Cond.instanceMethod yX0_widened, Cond.selects RX0 yX0_widened yX0_widened, Cond.initialized RX0, Cond.code yX0_widened cX0_widened 5 (some .int), Cond.static yX3_has, Cond.code yX3_has cX3_has 2 (some .boolean), Cond.methodLink RX0 22 yX0_nextOverOpen, Cond.instanceMethod yX0_nextOverOpen]
def wsX3_suppliedUnits_r3 : List Cond := [Cond.selects RX0 yX0_nextOverOpen yX0_nextOverOpen, Cond.code yX0_nextOverOpen cX0_nextOverOpen 3 (some .int), Cond.fieldLink RX0 9 "WarTable$RoadMap" "nextOverPaved" "[I", Cond.fieldLink RX0 15 "WarTable$RoadMap" "nextOverUnpaved" "[I", Cond.methodLink RX3 88 yX2_count, Cond.instanceMethod yX2_count, Cond.selects RX2 yX2_count yX2_count, Cond.code yX2_count cX2_count 1 (some .int), Cond.methodLink RX3 155 yX2_sideOf, Cond.methodLink RX3 149 yX2_townAt, Cond.methodLink RX3 85 yX3_has]
def wsX3_suppliedUnits : List Cond := .code yX3_suppliedUnits cX3_suppliedUnits 7 (some .int) :: ((wsX3_suppliedUnits_r1 ++ (wsX3_suppliedUnits_r2 ++ wsX3_suppliedUnits_r3)) ++ wsX30 ++ wsX20 ++ wsX00)
def wsX3_goers_r1 : List Cond := [Cond.fieldLink RX3 23 "WarTable" "units" "LWarTable$Units;", Cond.fieldLink RX3 12 "WarTable" "map" "LWarTable$RoadMap;", Cond.methodLink RX3 88 yX2_count, Cond.instanceMethod yX2_count, Cond.selects RX2 yX2_count yX2_count, Cond.initialized RX2, Cond.code yX2_count cX2_count 1 (some .int), Cond.fieldLink RX2 24 "WarTable$Units" "count" "I", Cond.methodLink RX3 149 yX2_townAt, Cond.instanceMethod yX2_townAt, Cond.selects RX2 yX2_townAt yX2_townAt, Cond.code yX2_townAt cX2_townAt 3 (some .int), Cond.fieldLink RX2 15 "WarTable$Units" "towns" "[I", Cond.methodLink RX2 36 yX2_isKept, Cond.static yX2_isKept, Cond.code yX2_isKept cX2_isKept 2 (some .boolean), Cond.methodLink RX2 39 yX2_index, Cond.static yX2_index, Cond.code yX2_index cX2_index 2 (some .int), Cond.methodLink RX3 208 yX0_nextOverOpen, Cond.instanceMethod yX0_nextOverOpen, Cond.selects RX0 yX0_nextOverOpen yX0_nextOverOpen, Cond.initialized RX0, Cond.code yX0_nextOverOpen cX0_nextOverOpen 3 (some .int)]
def wsX3_goers_r2 : List Cond := [Cond.fieldLink RX0 9 "WarTable$RoadMap" "nextOverPaved" "[I", Cond.fieldLink RX0 15 "WarTable$RoadMap" "nextOverUnpaved" "[I", Cond.static yX3_below, Cond.initialized RX3, Cond.code yX3_below cX3_below 2 (some .boolean), Cond.methodLink RX3 85 yX3_has, Cond.static yX3_has, Cond.code yX3_has cX3_has 2 (some .boolean), Cond.methodLink RX3 202 yX3_bit, Cond.static yX3_bit, Cond.code yX3_bit cX3_bit 1 (some .int), Cond.methodLink RX3 103 yX2_orderFor, Cond.instanceMethod yX2_orderFor, Cond.selects RX2 yX2_orderFor yX2_orderFor, Cond.code yX2_orderFor cX2_orderFor 3 (some .int), Cond.fieldLink RX2 21 "WarTable$Units" "orders" "[I"]
def wsX3_goers : List Cond := .code yX3_goers cX3_goers 7 (some .int) :: ((wsX3_goers_r1 ++ wsX3_goers_r2) ++ wsX30 ++ wsX20 ++ wsX00)
def wsX3_isMetOnRoad_r1 : List Cond := [Cond.fieldLink RX3 23 "WarTable" "units" "LWarTable$Units;", Cond.methodLink RX3 88 yX2_count, Cond.instanceMethod yX2_count, Cond.selects RX2 yX2_count yX2_count, Cond.initialized RX2, Cond.code yX2_count cX2_count 1 (some .int), Cond.fieldLink RX2 24 "WarTable$Units" "count" "I", Cond.methodLink RX3 85 yX3_has, Cond.static yX3_has, Cond.initialized RX3, Cond.code yX3_has cX3_has 2 (some .boolean), Cond.methodLink RX3 202 yX3_bit, Cond.static yX3_bit, Cond.code yX3_bit cX3_bit 1 (some .int), Cond.methodLink RX3 155 yX2_sideOf, Cond.instanceMethod yX2_sideOf, Cond.selects RX2 yX2_sideOf yX2_sideOf, Cond.code yX2_sideOf cX2_sideOf 2 (some .int), Cond.fieldLink RX2 9 "WarTable$Units" "sides" "[I", Cond.static yX3_below, Cond.code yX3_below cX3_below 2 (some .boolean), Cond.methodLink RX3 149 yX2_townAt, Cond.instanceMethod yX2_townAt, Cond.selects RX2 yX2_townAt yX2_townAt]
def wsX3_isMetOnRoad_r2 : List Cond := [Cond.code yX2_townAt cX2_townAt 3 (some .int), Cond.fieldLink RX2 15 "WarTable$Units" "towns" "[I", Cond.methodLink RX2 36 yX2_isKept, Cond.static yX2_isKept, Cond.code yX2_isKept cX2_isKept 2 (some .boolean), Cond.methodLink RX2 39 yX2_index, Cond.static yX2_index, Cond.code yX2_index cX2_index 2 (some .int), Cond.methodLink RX3 103 yX2_orderFor, Cond.instanceMethod yX2_orderFor, Cond.selects RX2 yX2_orderFor yX2_orderFor, Cond.code yX2_orderFor cX2_orderFor 3 (some .int), Cond.fieldLink RX2 21 "WarTable$Units" "orders" "[I"]
def wsX3_isMetOnRoad : List Cond := .code yX3_isMetOnRoad cX3_isMetOnRoad 5 (some .boolean) :: ((wsX3_isMetOnRoad_r1 ++ wsX3_isMetOnRoad_r2) ++ wsX30 ++ wsX20)
def wsX3_march_r1 : List Cond := [Cond.fieldLink RX3 23 "WarTable" "units" "LWarTable$Units;", Cond.methodLink RX3 88 yX2_count, Cond.instanceMethod yX2_count, Cond.selects RX2 yX2_count yX2_count, Cond.initialized RX2, Cond.code yX2_count cX2_count 1 (some .int), Cond.fieldLink RX2 24 "WarTable$Units" "count" "I", Cond.methodLink RX3 85 yX3_has, Cond.static yX3_has, Cond.initialized RX3, Cond.code yX3_has cX3_has 2 (some .boolean), Cond.methodLink RX3 202 yX3_bit, Cond.static yX3_bit, Cond.code yX3_bit cX3_bit 1 (some .int), Cond.methodLink RX3 211 yX3_isMetOnRoad, Cond.instanceMethod yX3_isMetOnRoad, Cond.selects RX3 yX3_isMetOnRoad yX3_isMetOnRoad, Cond.code yX3_isMetOnRoad cX3_isMetOnRoad 5 (some .boolean), Cond.methodLink RX3 155 yX2_sideOf, Cond.instanceMethod yX2_sideOf, Cond.selects RX2 yX2_sideOf yX2_sideOf, Cond.code yX2_sideOf cX2_sideOf 2 (some .int), Cond.fieldLink RX2 9 "WarTable$Units" "sides" "[I", Cond.static yX3_below]
def wsX3_march_r2 : List Cond := [Cond.code yX3_below cX3_below 2 (some .boolean), Cond.methodLink RX3 149 yX2_townAt, Cond.instanceMethod yX2_townAt, Cond.selects RX2 yX2_townAt yX2_townAt, Cond.code yX2_townAt cX2_townAt 3 (some .int), Cond.fieldLink RX2 15 "WarTable$Units" "towns" "[I", Cond.methodLink RX2 36 yX2_isKept, Cond.static yX2_isKept, Cond.code yX2_isKept cX2_isKept 2 (some .boolean), Cond.methodLink RX2 39 yX2_index, Cond.static yX2_index, Cond.code yX2_index cX2_index 2 (some .int), Cond.methodLink RX3 103 yX2_orderFor, Cond.instanceMethod yX2_orderFor, Cond.selects RX2 yX2_orderFor yX2_orderFor, Cond.code yX2_orderFor cX2_orderFor 3 (some .int), Cond.fieldLink RX2 21 "WarTable$Units" "orders" "[I", Cond.methodLink RX3 152 yX2_strengthAt, Cond.instanceMethod yX2_strengthAt, Cond.selects RX2 yX2_strengthAt yX2_strengthAt, Cond.code yX2_strengthAt cX2_strengthAt 3 (some .int), Cond.fieldLink RX2 18 "WarTable$Units" "strengths" "[I", Cond.methodLink RX3 215 yX2_place, Cond.instanceMethod yX2_place]
def wsX3_march_r3 : List Cond := [Cond.selects RX2 yX2_place yX2_place, Cond.code yX2_place cX2_place 5 none, Cond.methodLink RX2 43 Lib.Math.max.name, Cond.static Lib.Math.max.name, Cond.initialized "java/lang/Math", Cond.code Lib.Math.max.name Lib.Math.max.code 2 (some .int)]
def wsX3_march : List Cond := .code yX3_march cX3_march 6 none :: ((wsX3_march_r1 ++ (wsX3_march_r2 ++ wsX3_march_r3)) ++ wsX30 ++ wsX20)
def wsX3_sumInFight_r1 : List Cond := [Cond.fieldLink RX3 23 "WarTable" "units" "LWarTable$Units;", Cond.methodLink RX3 88 yX2_count, Cond.instanceMethod yX2_count, Cond.selects RX2 yX2_count yX2_count, Cond.initialized RX2, Cond.code yX2_count cX2_count 1 (some .int), Cond.fieldLink RX2 24 "WarTable$Units" "count" "I", Cond.methodLink RX3 155 yX2_sideOf, Cond.instanceMethod yX2_sideOf, Cond.selects RX2 yX2_sideOf yX2_sideOf, Cond.code yX2_sideOf cX2_sideOf 2 (some .int), Cond.fieldLink RX2 9 "WarTable$Units" "sides" "[I", Cond.static yX3_below, Cond.initialized RX3, Cond.code yX3_below cX3_below 2 (some .boolean), Cond.methodLink RX3 149 yX2_townAt, Cond.instanceMethod yX2_townAt, Cond.selects RX2 yX2_townAt yX2_townAt, Cond.code yX2_townAt cX2_townAt 3 (some .int), Cond.fieldLink RX2 15 "WarTable$Units" "towns" "[I", Cond.methodLink RX2 36 yX2_isKept, Cond.static yX2_isKept, Cond.code yX2_isKept cX2_isKept 2 (some .boolean), Cond.methodLink RX2 39 yX2_index]
def wsX3_sumInFight_r2 : List Cond := [Cond.static yX2_index, Cond.code yX2_index cX2_index 2 (some .int), Cond.methodLink RX3 152 yX2_strengthAt, Cond.instanceMethod yX2_strengthAt, Cond.selects RX2 yX2_strengthAt yX2_strengthAt, Cond.code yX2_strengthAt cX2_strengthAt 3 (some .int), Cond.fieldLink RX2 18 "WarTable$Units" "strengths" "[I", Cond.methodLink RX3 85 yX3_has, Cond.static yX3_has, Cond.code yX3_has cX3_has 2 (some .boolean), Cond.methodLink RX3 202 yX3_bit, Cond.static yX3_bit, Cond.code yX3_bit cX3_bit 1 (some .int)]
def wsX3_sumInFight : List Cond := .code yX3_sumInFight cX3_sumInFight 8 (some .int) :: ((wsX3_sumInFight_r1 ++ wsX3_sumInFight_r2) ++ wsX30 ++ wsX20)
def wsX3_loss : List Cond := .code yX3_loss cX3_loss 2 (some .int) :: ([])
def wsX3_fight_r1 : List Cond := [Cond.fieldLink RX3 23 "WarTable" "units" "LWarTable$Units;", Cond.methodLink RX3 222 yX3_sumInFight, Cond.instanceMethod yX3_sumInFight, Cond.selects RX3 yX3_sumInFight yX3_sumInFight, Cond.initialized RX3, Cond.code yX3_sumInFight cX3_sumInFight 8 (some .int), Cond.methodLink RX3 88 yX2_count, Cond.instanceMethod yX2_count, Cond.selects RX2 yX2_count yX2_count, Cond.initialized RX2, Cond.code yX2_count cX2_count 1 (some .int), Cond.fieldLink RX2 24 "WarTable$Units" "count" "I", Cond.methodLink RX3 155 yX2_sideOf, Cond.instanceMethod yX2_sideOf, Cond.selects RX2 yX2_sideOf yX2_sideOf, Cond.code yX2_sideOf cX2_sideOf 2 (some .int), Cond.fieldLink RX2 9 "WarTable$Units" "sides" "[I", Cond.static yX3_below, Cond.code yX3_below cX3_below 2 (some .boolean), Cond.methodLink RX3 149 yX2_townAt, Cond.instanceMethod yX2_townAt, Cond.selects RX2 yX2_townAt yX2_townAt, Cond.code yX2_townAt cX2_townAt 3 (some .int), Cond.fieldLink RX2 15 "WarTable$Units" "towns" "[I"]
def wsX3_fight_r2 : List Cond := [Cond.methodLink RX2 36 yX2_isKept, Cond.static yX2_isKept, Cond.code yX2_isKept cX2_isKept 2 (some .boolean), Cond.methodLink RX2 39 yX2_index, Cond.static yX2_index, Cond.code yX2_index cX2_index 2 (some .int), Cond.methodLink RX3 152 yX2_strengthAt, Cond.instanceMethod yX2_strengthAt, Cond.selects RX2 yX2_strengthAt yX2_strengthAt, Cond.code yX2_strengthAt cX2_strengthAt 3 (some .int), Cond.fieldLink RX2 18 "WarTable$Units" "strengths" "[I", Cond.methodLink RX3 85 yX3_has, Cond.static yX3_has, Cond.code yX3_has cX3_has 2 (some .boolean), Cond.methodLink RX3 202 yX3_bit, Cond.static yX3_bit, Cond.code yX3_bit cX3_bit 1 (some .int), Cond.methodLink RX3 225 yX3_loss, Cond.static yX3_loss, Cond.code yX3_loss cX3_loss 2 (some .int), Cond.methodLink RX3 215 yX2_place, Cond.instanceMethod yX2_place, Cond.selects RX2 yX2_place yX2_place, Cond.code yX2_place cX2_place 5 none]
def wsX3_fight_r3 : List Cond := [Cond.methodLink RX2 43 Lib.Math.max.name, Cond.static Lib.Math.max.name, Cond.initialized "java/lang/Math", Cond.code Lib.Math.max.name Lib.Math.max.code 2 (some .int)]
def wsX3_fight : List Cond := .code yX3_fight cX3_fight 8 none :: ((wsX3_fight_r1 ++ (wsX3_fight_r2 ++ wsX3_fight_r3)) ++ wsX30 ++ wsX20)
def wsX3_fightEverywhere_r1 : List Cond := [Cond.fieldLink RX3 23 "WarTable" "units" "LWarTable$Units;", Cond.methodLink RX3 81 yX2_townsHeld, Cond.instanceMethod yX2_townsHeld, Cond.selects RX2 yX2_townsHeld yX2_townsHeld, Cond.initialized RX2, Cond.code yX2_townsHeld cX2_townsHeld 6 (some .int), Cond.fieldLink RX2 24 "WarTable$Units" "count" "I", Cond.methodLink RX2 48 yX2_townAt, Cond.instanceMethod yX2_townAt, Cond.selects RX2 yX2_townAt yX2_townAt, Cond.code yX2_townAt cX2_townAt 3 (some .int), Cond.fieldLink RX2 15 "WarTable$Units" "towns" "[I", Cond.methodLink RX2 36 yX2_isKept, Cond.static yX2_isKept, Cond.code yX2_isKept cX2_isKept 2 (some .boolean), Cond.methodLink RX2 39 yX2_index, Cond.static yX2_index, Cond.code yX2_index cX2_index 2 (some .int), Cond.methodLink RX2 54 yX2_sideOf, Cond.instanceMethod yX2_sideOf, Cond.selects RX2 yX2_sideOf yX2_sideOf, Cond.code yX2_sideOf cX2_sideOf 2 (some .int), Cond.fieldLink RX2 9 "WarTable$Units" "sides" "[I", Cond.static yX3_below]
def wsX3_fightEverywhere_r2 : List Cond := [Cond.initialized RX3, Cond.code yX3_below cX3_below 2 (some .boolean), Cond.static yX3_bit, Cond.code yX3_bit cX3_bit 1 (some .int), Cond.methodLink RX3 85 yX3_has, Cond.static yX3_has, Cond.code yX3_has cX3_has 2 (some .boolean), Cond.methodLink RX3 202 yX3_bit, Cond.methodLink RX3 219 yX3_fight, Cond.instanceMethod yX3_fight, Cond.selects RX3 yX3_fight yX3_fight, Cond.code yX3_fight cX3_fight 8 none, Cond.methodLink RX3 222 yX3_sumInFight, Cond.instanceMethod yX3_sumInFight, Cond.selects RX3 yX3_sumInFight yX3_sumInFight, Cond.code yX3_sumInFight cX3_sumInFight 8 (some .int), Cond.methodLink RX3 88 yX2_count, Cond.instanceMethod yX2_count, Cond.selects RX2 yX2_count yX2_count, Cond.code yX2_count cX2_count 1 (some .int), Cond.methodLink RX3 155 yX2_sideOf, Cond.methodLink RX3 149 yX2_townAt, Cond.methodLink RX3 152 yX2_strengthAt, Cond.instanceMethod yX2_strengthAt]
def wsX3_fightEverywhere_r3 : List Cond := [Cond.selects RX2 yX2_strengthAt yX2_strengthAt, Cond.code yX2_strengthAt cX2_strengthAt 3 (some .int), Cond.fieldLink RX2 18 "WarTable$Units" "strengths" "[I", Cond.methodLink RX3 225 yX3_loss, Cond.static yX3_loss, Cond.code yX3_loss cX3_loss 2 (some .int), Cond.methodLink RX3 215 yX2_place, Cond.instanceMethod yX2_place, Cond.selects RX2 yX2_place yX2_place, Cond.code yX2_place cX2_place 5 none, Cond.methodLink RX2 43 Lib.Math.max.name, Cond.static Lib.Math.max.name, Cond.initialized "java/lang/Math", Cond.code Lib.Math.max.name Lib.Math.max.code 2 (some .int)]
def wsX3_fightEverywhere : List Cond := .code yX3_fightEverywhere cX3_fightEverywhere 5 none :: ((wsX3_fightEverywhere_r1 ++ (wsX3_fightEverywhere_r2 ++ wsX3_fightEverywhere_r3)) ++ wsX30 ++ wsX20)
def wsX3_unitsInSight_r1 : List Cond := [Cond.fieldLink RX3 12 "WarTable" "map" "LWarTable$RoadMap;", Cond.fieldLink RX3 23 "WarTable" "units" "LWarTable$Units;", Cond.methodLink RX3 81 yX2_townsHeld, Cond.instanceMethod yX2_townsHeld, Cond.selects RX2 yX2_townsHeld yX2_townsHeld, Cond.initialized RX2, Cond.code yX2_townsHeld cX2_townsHeld 6 (some .int), Cond.fieldLink RX2 24 "WarTable$Units" "count" "I", Cond.methodLink RX2 48 yX2_townAt, Cond.instanceMethod yX2_townAt, Cond.selects RX2 yX2_townAt yX2_townAt, Cond.code yX2_townAt cX2_townAt 3 (some .int), Cond.fieldLink RX2 15 "WarTable$Units" "towns" "[I", Cond.methodLink RX2 36 yX2_isKept, Cond.static yX2_isKept, Cond.code yX2_isKept cX2_isKept 2 (some .boolean), Cond.methodLink RX2 39 yX2_index, Cond.static yX2_index, Cond.code yX2_index cX2_index 2 (some .int), Cond.methodLink RX2 54 yX2_sideOf, Cond.instanceMethod yX2_sideOf, Cond.selects RX2 yX2_sideOf yX2_sideOf, Cond.code yX2_sideOf cX2_sideOf 2 (some .int), Cond.fieldLink RX2 9 "WarTable$Units" "sides" "[I"]
def wsX3_unitsInSight_r2 : List Cond := [Cond.static yX3_below, Cond.initialized RX3, Cond.code yX3_below cX3_below 2 (some .boolean), Cond.static yX3_bit, Cond.code yX3_bit cX3_bit 1 (some .int), Cond.methodLink RX3 205 yX0_widened, Cond.instanceMethod yX0_widened, Cond.selects RX0 yX0_widened yX0_widened, Cond.initialized RX0, Cond.code yX0_widened cX0_widened 5 (some .int), Cond.static yX3_has, Cond.code yX3_has cX3_has 2 (some .boolean), Cond.methodLink RX3 202 yX3_bit, Cond.methodLink RX0 22 yX0_nextOverOpen, Cond.instanceMethod yX0_nextOverOpen, Cond.selects RX0 yX0_nextOverOpen yX0_nextOverOpen, Cond.code yX0_nextOverOpen cX0_nextOverOpen 3 (some .int), Cond.fieldLink RX0 9 "WarTable$RoadMap" "nextOverPaved" "[I", Cond.fieldLink RX0 15 "WarTable$RoadMap" "nextOverUnpaved" "[I", Cond.methodLink RX3 88 yX2_count, Cond.instanceMethod yX2_count, Cond.selects RX2 yX2_count yX2_count, Cond.code yX2_count cX2_count 1 (some .int), Cond.methodLink RX3 155 yX2_sideOf]
def wsX3_unitsInSight_r3 : List Cond := [Cond.methodLink RX3 149 yX2_townAt, Cond.methodLink RX3 85 yX3_has]
def wsX3_unitsInSight : List Cond := .code yX3_unitsInSight cX3_unitsInSight 6 (some .int) :: ((wsX3_unitsInSight_r1 ++ (wsX3_unitsInSight_r2 ++ wsX3_unitsInSight_r3)) ++ wsX30 ++ wsX20 ++ wsX00)
def wsX3_playFrom_r1 : List Cond := [Cond.methodLink RX3 184 Lib.Math.max.name, Cond.static Lib.Math.max.name, Cond.initialized "java/lang/Math", Cond.code Lib.Math.max.name Lib.Math.max.code 2 (some .int), Cond.fieldLink RX3 40 "WarTable" "turns" "I", Cond.fieldLink RX3 27 "WarTable" "weathers" "[I", Cond.fieldLink RX3 30 "WarTable" "seen" "[I", Cond.methodLink RX3 187 yX3_suppliedUnits, Cond.instanceMethod yX3_suppliedUnits, Cond.selects RX3 yX3_suppliedUnits yX3_suppliedUnits, Cond.initialized RX3, Cond.code yX3_suppliedUnits cX3_suppliedUnits 7 (some .int), Cond.fieldLink RX3 23 "WarTable" "units" "LWarTable$Units;", Cond.methodLink RX3 158 yX3_suppliedTowns, Cond.instanceMethod yX3_suppliedTowns, Cond.selects RX3 yX3_suppliedTowns yX3_suppliedTowns, Cond.code yX3_suppliedTowns cX3_suppliedTowns 8 (some .int), Cond.fieldLink RX3 16 "WarTable" "depots" "[I", Cond.fieldLink RX3 12 "WarTable" "map" "LWarTable$RoadMap;", Cond.methodLink RX3 44 yX3_below, Cond.static yX3_below, Cond.code yX3_below cX3_below 2 (some .boolean), Cond.methodLink RX3 77 yX3_opponent, Cond.static yX3_opponent]
def wsX3_playFrom_r2 : List Cond := [Cond.code yX3_opponent cX3_opponent 1 (some .int), Cond.methodLink RX3 81 yX2_townsHeld, Cond.instanceMethod yX2_townsHeld, Cond.selects RX2 yX2_townsHeld yX2_townsHeld, Cond.initialized RX2, Cond.code yX2_townsHeld cX2_townsHeld 6 (some .int), Cond.fieldLink RX2 24 "WarTable$Units" "count" "I", Cond.methodLink RX2 48 yX2_townAt, Cond.instanceMethod yX2_townAt, Cond.selects RX2 yX2_townAt yX2_townAt, Cond.code yX2_townAt cX2_townAt 3 (some .int), Cond.fieldLink RX2 15 "WarTable$Units" "towns" "[I", Cond.methodLink RX2 36 yX2_isKept, Cond.static yX2_isKept, Cond.code yX2_isKept cX2_isKept 2 (some .boolean), Cond.methodLink RX2 39 yX2_index, Cond.static yX2_index, Cond.code yX2_index cX2_index 2 (some .int), Cond.methodLink RX2 54 yX2_sideOf, Cond.instanceMethod yX2_sideOf, Cond.selects RX2 yX2_sideOf yX2_sideOf, Cond.code yX2_sideOf cX2_sideOf 2 (some .int), Cond.fieldLink RX2 9 "WarTable$Units" "sides" "[I", Cond.static yX3_bit]
def wsX3_playFrom_r3 : List Cond := [Cond.code yX3_bit cX3_bit 1 (some .int), Cond.methodLink RX3 202 yX3_bit, Cond.methodLink RX3 205 yX0_widened, Cond.instanceMethod yX0_widened, Cond.selects RX0 yX0_widened yX0_widened, Cond.initialized RX0, Cond.code yX0_widened cX0_widened 5 (some .int), Cond.static yX3_has, Cond.code yX3_has cX3_has 2 (some .boolean), Cond.methodLink RX0 22 yX0_nextOverOpen, Cond.instanceMethod yX0_nextOverOpen, Cond.selects RX0 yX0_nextOverOpen yX0_nextOverOpen, Cond.code yX0_nextOverOpen cX0_nextOverOpen 3 (some .int), Cond.fieldLink RX0 9 "WarTable$RoadMap" "nextOverPaved" "[I", Cond.fieldLink RX0 15 "WarTable$RoadMap" "nextOverUnpaved" "[I", Cond.methodLink RX3 88 yX2_count, Cond.instanceMethod yX2_count, Cond.selects RX2 yX2_count yX2_count, Cond.code yX2_count cX2_count 1 (some .int), Cond.methodLink RX3 155 yX2_sideOf, Cond.methodLink RX3 149 yX2_townAt, Cond.methodLink RX3 85 yX3_has, Cond.methodLink RX3 190 yX3_goers, Cond.instanceMethod yX3_goers]
def wsX3_playFrom_r4 : List Cond := [Cond.selects RX3 yX3_goers yX3_goers, Cond.code yX3_goers cX3_goers 7 (some .int), Cond.methodLink RX3 208 yX0_nextOverOpen, Cond.methodLink RX3 103 yX2_orderFor, Cond.instanceMethod yX2_orderFor, Cond.selects RX2 yX2_orderFor yX2_orderFor, Cond.code yX2_orderFor cX2_orderFor 3 (some .int), Cond.fieldLink RX2 21 "WarTable$Units" "orders" "[I", Cond.methodLink RX3 193 yX3_march, Cond.instanceMethod yX3_march, Cond.selects RX3 yX3_march yX3_march, Cond.code yX3_march cX3_march 6 none, Cond.methodLink RX3 211 yX3_isMetOnRoad, Cond.instanceMethod yX3_isMetOnRoad, Cond.selects RX3 yX3_isMetOnRoad yX3_isMetOnRoad, Cond.code yX3_isMetOnRoad cX3_isMetOnRoad 5 (some .boolean), Cond.methodLink RX3 152 yX2_strengthAt, Cond.instanceMethod yX2_strengthAt, Cond.selects RX2 yX2_strengthAt yX2_strengthAt, Cond.code yX2_strengthAt cX2_strengthAt 3 (some .int), Cond.fieldLink RX2 18 "WarTable$Units" "strengths" "[I", Cond.methodLink RX3 215 yX2_place, Cond.instanceMethod yX2_place, Cond.selects RX2 yX2_place yX2_place]
def wsX3_playFrom_r5 : List Cond := [Cond.code yX2_place cX2_place 5 none, Cond.methodLink RX2 43 Lib.Math.max.name, Cond.methodLink RX3 196 yX3_fightEverywhere, Cond.instanceMethod yX3_fightEverywhere, Cond.selects RX3 yX3_fightEverywhere yX3_fightEverywhere, Cond.code yX3_fightEverywhere cX3_fightEverywhere 5 none, Cond.methodLink RX3 219 yX3_fight, Cond.instanceMethod yX3_fight, Cond.selects RX3 yX3_fight yX3_fight, Cond.code yX3_fight cX3_fight 8 none, Cond.methodLink RX3 222 yX3_sumInFight, Cond.instanceMethod yX3_sumInFight, Cond.selects RX3 yX3_sumInFight yX3_sumInFight, Cond.code yX3_sumInFight cX3_sumInFight 8 (some .int), Cond.methodLink RX3 225 yX3_loss, Cond.static yX3_loss, Cond.code yX3_loss cX3_loss 2 (some .int), Cond.methodLink RX3 199 yX3_unitsInSight, Cond.instanceMethod yX3_unitsInSight, Cond.selects RX3 yX3_unitsInSight yX3_unitsInSight, Cond.code yX3_unitsInSight cX3_unitsInSight 6 (some .int)]
def wsX3_playFrom : List Cond := .code yX3_playFrom cX3_playFrom 5 none :: ((wsX3_playFrom_r1 ++ (wsX3_playFrom_r2 ++ (wsX3_playFrom_r3 ++ (wsX3_playFrom_r4 ++ wsX3_playFrom_r5)))) ++ wsX30 ++ wsX20 ++ wsX00)
def wsX3_play_r1 : List Cond := [Cond.classLink RX3 62 "java/lang/IllegalStateException", Cond.initialized "java/lang/IllegalStateException", Cond.fieldLink RX3 40 "WarTable" "turns" "I", Cond.fieldLink RX3 27 "WarTable" "weathers" "[I", Cond.fieldLink RX3 23 "WarTable" "units" "LWarTable$Units;", Cond.methodLink RX3 110 yX3_checkWeather, Cond.static yX3_checkWeather, Cond.initialized RX3, Cond.code yX3_checkWeather cX3_checkWeather 1 none, Cond.classLink RX3 48 "java/lang/IllegalArgumentException", Cond.initialized "java/lang/IllegalArgumentException", Cond.methodLink RX3 44 yX3_below, Cond.static yX3_below, Cond.code yX3_below cX3_below 2 (some .boolean), Cond.methodLink RX3 115 yX3_playFrom, Cond.instanceMethod yX3_playFrom, Cond.selects RX3 yX3_playFrom yX3_playFrom, Cond.code yX3_playFrom cX3_playFrom 5 none, Cond.methodLink RX3 184 Lib.Math.max.name, Cond.static Lib.Math.max.name, Cond.initialized "java/lang/Math", Cond.code Lib.Math.max.name Lib.Math.max.code 2 (some .int), Cond.fieldLink RX3 30 "WarTable" "seen" "[I", Cond.methodLink RX3 187 yX3_suppliedUnits]
def wsX3_play_r2 : List Cond := [Cond.instanceMethod yX3_suppliedUnits, Cond.selects RX3 yX3_suppliedUnits yX3_suppliedUnits, Cond.code yX3_suppliedUnits cX3_suppliedUnits 7 (some .int), Cond.methodLink RX3 158 yX3_suppliedTowns, Cond.instanceMethod yX3_suppliedTowns, Cond.selects RX3 yX3_suppliedTowns yX3_suppliedTowns, Cond.code yX3_suppliedTowns cX3_suppliedTowns 8 (some .int), Cond.fieldLink RX3 16 "WarTable" "depots" "[I", Cond.fieldLink RX3 12 "WarTable" "map" "LWarTable$RoadMap;", Cond.methodLink RX3 77 yX3_opponent, Cond.static yX3_opponent, Cond.code yX3_opponent cX3_opponent 1 (some .int), Cond.methodLink RX3 81 yX2_townsHeld, Cond.instanceMethod yX2_townsHeld, Cond.selects RX2 yX2_townsHeld yX2_townsHeld, Cond.initialized RX2, Cond.code yX2_townsHeld cX2_townsHeld 6 (some .int), Cond.fieldLink RX2 24 "WarTable$Units" "count" "I", Cond.methodLink RX2 48 yX2_townAt, Cond.instanceMethod yX2_townAt, Cond.selects RX2 yX2_townAt yX2_townAt, Cond.code yX2_townAt cX2_townAt 3 (some .int), Cond.fieldLink RX2 15 "WarTable$Units" "towns" "[I", Cond.methodLink RX2 36 yX2_isKept]
def wsX3_play_r3 : List Cond := [Cond.static yX2_isKept, Cond.code yX2_isKept cX2_isKept 2 (some .boolean), Cond.methodLink RX2 39 yX2_index, Cond.static yX2_index, Cond.code yX2_index cX2_index 2 (some .int), Cond.methodLink RX2 54 yX2_sideOf, Cond.instanceMethod yX2_sideOf, Cond.selects RX2 yX2_sideOf yX2_sideOf, Cond.code yX2_sideOf cX2_sideOf 2 (some .int), Cond.fieldLink RX2 9 "WarTable$Units" "sides" "[I", Cond.static yX3_bit, Cond.code yX3_bit cX3_bit 1 (some .int), Cond.methodLink RX3 202 yX3_bit, Cond.methodLink RX3 205 yX0_widened, Cond.instanceMethod yX0_widened, Cond.selects RX0 yX0_widened yX0_widened, Cond.initialized RX0, Cond.code yX0_widened cX0_widened 5 (some .int), Cond.static yX3_has, Cond.code yX3_has cX3_has 2 (some .boolean), Cond.methodLink RX0 22 yX0_nextOverOpen, Cond.instanceMethod yX0_nextOverOpen, Cond.selects RX0 yX0_nextOverOpen yX0_nextOverOpen, Cond.code yX0_nextOverOpen cX0_nextOverOpen 3 (some .int)]
def wsX3_play_r4 : List Cond := [Cond.fieldLink RX0 9 "WarTable$RoadMap" "nextOverPaved" "[I", Cond.fieldLink RX0 15 "WarTable$RoadMap" "nextOverUnpaved" "[I", Cond.methodLink RX3 88 yX2_count, Cond.instanceMethod yX2_count, Cond.selects RX2 yX2_count yX2_count, Cond.code yX2_count cX2_count 1 (some .int), Cond.methodLink RX3 155 yX2_sideOf, Cond.methodLink RX3 149 yX2_townAt, Cond.methodLink RX3 85 yX3_has, Cond.methodLink RX3 190 yX3_goers, Cond.instanceMethod yX3_goers, Cond.selects RX3 yX3_goers yX3_goers, Cond.code yX3_goers cX3_goers 7 (some .int), Cond.methodLink RX3 208 yX0_nextOverOpen, Cond.methodLink RX3 103 yX2_orderFor, Cond.instanceMethod yX2_orderFor, Cond.selects RX2 yX2_orderFor yX2_orderFor, Cond.code yX2_orderFor cX2_orderFor 3 (some .int), Cond.fieldLink RX2 21 "WarTable$Units" "orders" "[I", Cond.methodLink RX3 193 yX3_march, Cond.instanceMethod yX3_march, Cond.selects RX3 yX3_march yX3_march, Cond.code yX3_march cX3_march 6 none, Cond.methodLink RX3 211 yX3_isMetOnRoad]
def wsX3_play_r5 : List Cond := [Cond.instanceMethod yX3_isMetOnRoad, Cond.selects RX3 yX3_isMetOnRoad yX3_isMetOnRoad, Cond.code yX3_isMetOnRoad cX3_isMetOnRoad 5 (some .boolean), Cond.methodLink RX3 152 yX2_strengthAt, Cond.instanceMethod yX2_strengthAt, Cond.selects RX2 yX2_strengthAt yX2_strengthAt, Cond.code yX2_strengthAt cX2_strengthAt 3 (some .int), Cond.fieldLink RX2 18 "WarTable$Units" "strengths" "[I", Cond.methodLink RX3 215 yX2_place, Cond.instanceMethod yX2_place, Cond.selects RX2 yX2_place yX2_place, Cond.code yX2_place cX2_place 5 none, Cond.methodLink RX2 43 Lib.Math.max.name, Cond.methodLink RX3 196 yX3_fightEverywhere, Cond.instanceMethod yX3_fightEverywhere, Cond.selects RX3 yX3_fightEverywhere yX3_fightEverywhere, Cond.code yX3_fightEverywhere cX3_fightEverywhere 5 none, Cond.methodLink RX3 219 yX3_fight, Cond.instanceMethod yX3_fight, Cond.selects RX3 yX3_fight yX3_fight, Cond.code yX3_fight cX3_fight 8 none, Cond.methodLink RX3 222 yX3_sumInFight, Cond.instanceMethod yX3_sumInFight, Cond.selects RX3 yX3_sumInFight yX3_sumInFight]
def wsX3_play_r6 : List Cond := [Cond.code yX3_sumInFight cX3_sumInFight 8 (some .int), Cond.methodLink RX3 225 yX3_loss, Cond.static yX3_loss, Cond.code yX3_loss cX3_loss 2 (some .int), Cond.methodLink RX3 199 yX3_unitsInSight, Cond.instanceMethod yX3_unitsInSight, Cond.selects RX3 yX3_unitsInSight yX3_unitsInSight, Cond.code yX3_unitsInSight cX3_unitsInSight 6 (some .int), Cond.methodLink RX3 118 yX2_livingAt, Cond.instanceMethod yX2_livingAt, Cond.selects RX2 yX2_livingAt yX2_livingAt, Cond.code yX2_livingAt cX2_livingAt 4 (some .int)]
def wsX3_play : List Cond := .code yX3_play cX3_play 3 (some .int) :: ((wsX3_play_r1 ++ (wsX3_play_r2 ++ (wsX3_play_r3 ++ (wsX3_play_r4 ++ (wsX3_play_r5 ++ wsX3_play_r6))))) ++ wsX30 ++ wsX20 ++ wsX00 ++ (vx_atS RX3 66 "java/lang/IllegalStateException" ["java/lang/RuntimeException", "java/lang/Exception"]).filter goodWord ++ (vx_atS RX3 52 "java/lang/IllegalArgumentException" ["java/lang/RuntimeException", "java/lang/Exception"]).filter goodWord)
def wsX3_played : List Cond := .code yX3_played cX3_played 1 (some .int) :: ([.fieldLink RX3 40 "WarTable" "turns" "I"] ++ wsX30)
def wsX3_townOf_r1 : List Cond := [Cond.fieldLink RX3 23 "WarTable" "units" "LWarTable$Units;", Cond.fieldLink RX3 40 "WarTable" "turns" "I", Cond.methodLink RX3 97 yX3_checkUnit, Cond.instanceMethod yX3_checkUnit, Cond.selects RX3 yX3_checkUnit yX3_checkUnit, Cond.initialized RX3, Cond.code yX3_checkUnit cX3_checkUnit 2 none, Cond.classLink RX3 165 "java/lang/IndexOutOfBoundsException", Cond.initialized "java/lang/IndexOutOfBoundsException", Cond.methodLink RX3 88 yX2_count, Cond.instanceMethod yX2_count, Cond.selects RX2 yX2_count yX2_count, Cond.initialized RX2, Cond.code yX2_count cX2_count 1 (some .int), Cond.fieldLink RX2 24 "WarTable$Units" "count" "I", Cond.methodLink RX3 44 yX3_below, Cond.static yX3_below, Cond.code yX3_below cX3_below 2 (some .boolean), Cond.methodLink RX3 149 yX2_townAt, Cond.instanceMethod yX2_townAt, Cond.selects RX2 yX2_townAt yX2_townAt, Cond.code yX2_townAt cX2_townAt 3 (some .int), Cond.fieldLink RX2 15 "WarTable$Units" "towns" "[I", Cond.methodLink RX2 36 yX2_isKept]
def wsX3_townOf_r2 : List Cond := [Cond.static yX2_isKept, Cond.code yX2_isKept cX2_isKept 2 (some .boolean), Cond.methodLink RX2 39 yX2_index, Cond.static yX2_index, Cond.code yX2_index cX2_index 2 (some .int)]
def wsX3_townOf : List Cond := .code yX3_townOf cX3_townOf 2 (some .int) :: ((wsX3_townOf_r1 ++ wsX3_townOf_r2) ++ wsX30 ++ wsX20 ++ (vx_atS RX3 169 "java/lang/IndexOutOfBoundsException" ["java/lang/RuntimeException", "java/lang/Exception"]).filter goodWord)
def wsX3_strength_r1 : List Cond := [Cond.fieldLink RX3 23 "WarTable" "units" "LWarTable$Units;", Cond.fieldLink RX3 40 "WarTable" "turns" "I", Cond.methodLink RX3 97 yX3_checkUnit, Cond.instanceMethod yX3_checkUnit, Cond.selects RX3 yX3_checkUnit yX3_checkUnit, Cond.initialized RX3, Cond.code yX3_checkUnit cX3_checkUnit 2 none, Cond.classLink RX3 165 "java/lang/IndexOutOfBoundsException", Cond.initialized "java/lang/IndexOutOfBoundsException", Cond.methodLink RX3 88 yX2_count, Cond.instanceMethod yX2_count, Cond.selects RX2 yX2_count yX2_count, Cond.initialized RX2, Cond.code yX2_count cX2_count 1 (some .int), Cond.fieldLink RX2 24 "WarTable$Units" "count" "I", Cond.methodLink RX3 44 yX3_below, Cond.static yX3_below, Cond.code yX3_below cX3_below 2 (some .boolean), Cond.methodLink RX3 152 yX2_strengthAt, Cond.instanceMethod yX2_strengthAt, Cond.selects RX2 yX2_strengthAt yX2_strengthAt, Cond.code yX2_strengthAt cX2_strengthAt 3 (some .int), Cond.fieldLink RX2 18 "WarTable$Units" "strengths" "[I", Cond.methodLink RX2 36 yX2_isKept]
def wsX3_strength_r2 : List Cond := [Cond.static yX2_isKept, Cond.code yX2_isKept cX2_isKept 2 (some .boolean), Cond.methodLink RX2 39 yX2_index, Cond.static yX2_index, Cond.code yX2_index cX2_index 2 (some .int)]
def wsX3_strength : List Cond := .code yX3_strength cX3_strength 2 (some .int) :: ((wsX3_strength_r1 ++ wsX3_strength_r2) ++ wsX30 ++ wsX20 ++ (vx_atS RX3 169 "java/lang/IndexOutOfBoundsException" ["java/lang/RuntimeException", "java/lang/Exception"]).filter goodWord)
def wsX3_supply_r1 : List Cond := [Cond.fieldLink RX3 23 "WarTable" "units" "LWarTable$Units;", Cond.fieldLink RX3 40 "WarTable" "turns" "I", Cond.methodLink RX3 97 yX3_checkUnit, Cond.instanceMethod yX3_checkUnit, Cond.selects RX3 yX3_checkUnit yX3_checkUnit, Cond.initialized RX3, Cond.code yX3_checkUnit cX3_checkUnit 2 none, Cond.classLink RX3 165 "java/lang/IndexOutOfBoundsException", Cond.initialized "java/lang/IndexOutOfBoundsException", Cond.methodLink RX3 88 yX2_count, Cond.instanceMethod yX2_count, Cond.selects RX2 yX2_count yX2_count, Cond.initialized RX2, Cond.code yX2_count cX2_count 1 (some .int), Cond.fieldLink RX2 24 "WarTable$Units" "count" "I", Cond.methodLink RX3 44 yX3_below, Cond.static yX3_below, Cond.code yX3_below cX3_below 2 (some .boolean), Cond.methodLink RX3 110 yX3_checkWeather, Cond.static yX3_checkWeather, Cond.code yX3_checkWeather cX3_checkWeather 1 none, Cond.classLink RX3 48 "java/lang/IllegalArgumentException", Cond.initialized "java/lang/IllegalArgumentException", Cond.methodLink RX3 149 yX2_townAt]
def wsX3_supply_r2 : List Cond := [Cond.instanceMethod yX2_townAt, Cond.selects RX2 yX2_townAt yX2_townAt, Cond.code yX2_townAt cX2_townAt 3 (some .int), Cond.fieldLink RX2 15 "WarTable$Units" "towns" "[I", Cond.methodLink RX2 36 yX2_isKept, Cond.static yX2_isKept, Cond.code yX2_isKept cX2_isKept 2 (some .boolean), Cond.methodLink RX2 39 yX2_index, Cond.static yX2_index, Cond.code yX2_index cX2_index 2 (some .int), Cond.methodLink RX3 155 yX2_sideOf, Cond.instanceMethod yX2_sideOf, Cond.selects RX2 yX2_sideOf yX2_sideOf, Cond.code yX2_sideOf cX2_sideOf 2 (some .int), Cond.fieldLink RX2 9 "WarTable$Units" "sides" "[I", Cond.methodLink RX3 158 yX3_suppliedTowns, Cond.instanceMethod yX3_suppliedTowns, Cond.selects RX3 yX3_suppliedTowns yX3_suppliedTowns, Cond.code yX3_suppliedTowns cX3_suppliedTowns 8 (some .int), Cond.fieldLink RX3 16 "WarTable" "depots" "[I", Cond.fieldLink RX3 12 "WarTable" "map" "LWarTable$RoadMap;", Cond.methodLink RX3 77 yX3_opponent, Cond.static yX3_opponent, Cond.code yX3_opponent cX3_opponent 1 (some .int)]
def wsX3_supply_r3 : List Cond := [Cond.methodLink RX3 81 yX2_townsHeld, Cond.instanceMethod yX2_townsHeld, Cond.selects RX2 yX2_townsHeld yX2_townsHeld, Cond.code yX2_townsHeld cX2_townsHeld 6 (some .int), Cond.methodLink RX2 48 yX2_townAt, Cond.methodLink RX2 54 yX2_sideOf, Cond.static yX3_bit, Cond.code yX3_bit cX3_bit 1 (some .int), Cond.methodLink RX3 202 yX3_bit, Cond.methodLink RX3 205 yX0_widened, Cond.instanceMethod yX0_widened, Cond.selects RX0 yX0_widened yX0_widened, Cond.initialized RX0, Cond.code yX0_widened cX0_widened 5 (some .int), Cond.static yX3_has, Cond.code yX3_has cX3_has 2 (some .boolean), Cond.methodLink RX0 22 yX0_nextOverOpen, Cond.instanceMethod yX0_nextOverOpen, Cond.selects RX0 yX0_nextOverOpen yX0_nextOverOpen, Cond.code yX0_nextOverOpen cX0_nextOverOpen 3 (some .int), Cond.fieldLink RX0 9 "WarTable$RoadMap" "nextOverPaved" "[I", Cond.fieldLink RX0 15 "WarTable$RoadMap" "nextOverUnpaved" "[I", Cond.methodLink RX3 85 yX3_has]
def wsX3_supply : List Cond := .code yX3_supply cX3_supply 5 (some .int) :: ((wsX3_supply_r1 ++ (wsX3_supply_r2 ++ wsX3_supply_r3)) ++ wsX30 ++ wsX20 ++ wsX00 ++ (vx_atS RX3 169 "java/lang/IndexOutOfBoundsException" ["java/lang/RuntimeException", "java/lang/Exception"]).filter goodWord ++ (vx_atS RX3 52 "java/lang/IllegalArgumentException" ["java/lang/RuntimeException", "java/lang/Exception"]).filter goodWord)
def wsX3_checkTurn : List Cond := .code yX3_checkTurn cX3_checkTurn 2 none :: ([.classLink RX3 165 "java/lang/IndexOutOfBoundsException", .initialized "java/lang/IndexOutOfBoundsException", .fieldLink RX3 40 "WarTable" "turns" "I", .methodLink RX3 170 Lib.Math.min.name, .static Lib.Math.min.name, .initialized "java/lang/Math", .code Lib.Math.min.name Lib.Math.min.code 2 (some .int), .methodLink RX3 44 yX3_below, .static yX3_below, .initialized RX3, .code yX3_below cX3_below 2 (some .boolean)] ++ wsX30 ++ (vx_atS RX3 169 "java/lang/IndexOutOfBoundsException" ["java/lang/RuntimeException", "java/lang/Exception"]).filter goodWord)
def wsX3_townAfter_r1 : List Cond := [Cond.fieldLink RX3 23 "WarTable" "units" "LWarTable$Units;", Cond.methodLink RX3 97 yX3_checkUnit, Cond.instanceMethod yX3_checkUnit, Cond.selects RX3 yX3_checkUnit yX3_checkUnit, Cond.initialized RX3, Cond.code yX3_checkUnit cX3_checkUnit 2 none, Cond.classLink RX3 165 "java/lang/IndexOutOfBoundsException", Cond.initialized "java/lang/IndexOutOfBoundsException", Cond.methodLink RX3 88 yX2_count, Cond.instanceMethod yX2_count, Cond.selects RX2 yX2_count yX2_count, Cond.initialized RX2, Cond.code yX2_count cX2_count 1 (some .int), Cond.fieldLink RX2 24 "WarTable$Units" "count" "I", Cond.methodLink RX3 44 yX3_below, Cond.static yX3_below, Cond.code yX3_below cX3_below 2 (some .boolean), Cond.methodLink RX3 121 yX3_checkTurn, Cond.instanceMethod yX3_checkTurn, Cond.selects RX3 yX3_checkTurn yX3_checkTurn, Cond.code yX3_checkTurn cX3_checkTurn 2 none, Cond.fieldLink RX3 40 "WarTable" "turns" "I", Cond.methodLink RX3 170 Lib.Math.min.name, Cond.static Lib.Math.min.name]
def wsX3_townAfter_r2 : List Cond := [Cond.initialized "java/lang/Math", Cond.code Lib.Math.min.name Lib.Math.min.code 2 (some .int), Cond.methodLink RX3 149 yX2_townAt, Cond.instanceMethod yX2_townAt, Cond.selects RX2 yX2_townAt yX2_townAt, Cond.code yX2_townAt cX2_townAt 3 (some .int), Cond.fieldLink RX2 15 "WarTable$Units" "towns" "[I", Cond.methodLink RX2 36 yX2_isKept, Cond.static yX2_isKept, Cond.code yX2_isKept cX2_isKept 2 (some .boolean), Cond.methodLink RX2 39 yX2_index, Cond.static yX2_index, Cond.code yX2_index cX2_index 2 (some .int)]
def wsX3_townAfter : List Cond := .code yX3_townAfter cX3_townAfter 3 (some .int) :: ((wsX3_townAfter_r1 ++ wsX3_townAfter_r2) ++ wsX30 ++ wsX20 ++ (vx_atS RX3 169 "java/lang/IndexOutOfBoundsException" ["java/lang/RuntimeException", "java/lang/Exception"]).filter goodWord)
def wsX3_checkSide : List Cond := .code yX3_checkSide cX3_checkSide 1 none :: ([.classLink RX3 48 "java/lang/IllegalArgumentException", .initialized "java/lang/IllegalArgumentException", .methodLink RX3 44 yX3_below, .static yX3_below, .initialized RX3, .code yX3_below cX3_below 2 (some .boolean)] ++ (vx_atS RX3 52 "java/lang/IllegalArgumentException" ["java/lang/RuntimeException", "java/lang/Exception"]).filter goodWord)
def wsX3_reported_r1 : List Cond := [Cond.classLink RX3 165 "java/lang/IndexOutOfBoundsException", Cond.initialized "java/lang/IndexOutOfBoundsException", Cond.fieldLink RX3 23 "WarTable" "units" "LWarTable$Units;", Cond.fieldLink RX3 40 "WarTable" "turns" "I", Cond.methodLink RX3 170 Lib.Math.min.name, Cond.static Lib.Math.min.name, Cond.initialized "java/lang/Math", Cond.code Lib.Math.min.name Lib.Math.min.code 2 (some .int), Cond.fieldLink RX3 30 "WarTable" "seen" "[I", Cond.methodLink RX3 162 yX3_checkSide, Cond.static yX3_checkSide, Cond.initialized RX3, Cond.code yX3_checkSide cX3_checkSide 1 none, Cond.classLink RX3 48 "java/lang/IllegalArgumentException", Cond.initialized "java/lang/IllegalArgumentException", Cond.methodLink RX3 44 yX3_below, Cond.static yX3_below, Cond.code yX3_below cX3_below 2 (some .boolean), Cond.methodLink RX3 97 yX3_checkUnit, Cond.instanceMethod yX3_checkUnit, Cond.selects RX3 yX3_checkUnit yX3_checkUnit, Cond.code yX3_checkUnit cX3_checkUnit 2 none, Cond.methodLink RX3 88 yX2_count, Cond.instanceMethod yX2_count]
def wsX3_reported_r2 : List Cond := [Cond.selects RX2 yX2_count yX2_count, Cond.initialized RX2, Cond.code yX2_count cX2_count 1 (some .int), Cond.fieldLink RX2 24 "WarTable$Units" "count" "I", Cond.methodLink RX3 155 yX2_sideOf, Cond.instanceMethod yX2_sideOf, Cond.selects RX2 yX2_sideOf yX2_sideOf, Cond.code yX2_sideOf cX2_sideOf 2 (some .int), Cond.fieldLink RX2 9 "WarTable$Units" "sides" "[I", Cond.methodLink RX3 85 yX3_has, Cond.static yX3_has, Cond.code yX3_has cX3_has 2 (some .boolean), Cond.methodLink RX3 202 yX3_bit, Cond.static yX3_bit, Cond.code yX3_bit cX3_bit 1 (some .int), Cond.methodLink RX3 149 yX2_townAt, Cond.instanceMethod yX2_townAt, Cond.selects RX2 yX2_townAt yX2_townAt, Cond.code yX2_townAt cX2_townAt 3 (some .int), Cond.fieldLink RX2 15 "WarTable$Units" "towns" "[I", Cond.methodLink RX2 36 yX2_isKept, Cond.static yX2_isKept, Cond.code yX2_isKept cX2_isKept 2 (some .boolean), Cond.methodLink RX2 39 yX2_index]
def wsX3_reported_r3 : List Cond := [Cond.static yX2_index, Cond.code yX2_index cX2_index 2 (some .int)]
def wsX3_reported : List Cond := .code yX3_reported cX3_reported 4 (some .int) :: ((wsX3_reported_r1 ++ (wsX3_reported_r2 ++ wsX3_reported_r3)) ++ wsX30 ++ wsX20 ++ (vx_atS RX3 169 "java/lang/IndexOutOfBoundsException" ["java/lang/RuntimeException", "java/lang/Exception"]).filter goodWord ++ (vx_atS RX3 52 "java/lang/IllegalArgumentException" ["java/lang/RuntimeException", "java/lang/Exception"]).filter goodWord)
def wsX3_force_r1 : List Cond := [Cond.fieldLink RX3 23 "WarTable" "units" "LWarTable$Units;", Cond.fieldLink RX3 40 "WarTable" "turns" "I", Cond.methodLink RX3 162 yX3_checkSide, Cond.static yX3_checkSide, Cond.initialized RX3, Cond.code yX3_checkSide cX3_checkSide 1 none, Cond.classLink RX3 48 "java/lang/IllegalArgumentException", Cond.initialized "java/lang/IllegalArgumentException", Cond.methodLink RX3 44 yX3_below, Cond.static yX3_below, Cond.code yX3_below cX3_below 2 (some .boolean), Cond.methodLink RX3 88 yX2_count, Cond.instanceMethod yX2_count, Cond.selects RX2 yX2_count yX2_count, Cond.initialized RX2, Cond.code yX2_count cX2_count 1 (some .int), Cond.fieldLink RX2 24 "WarTable$Units" "count" "I", Cond.methodLink RX3 155 yX2_sideOf, Cond.instanceMethod yX2_sideOf, Cond.selects RX2 yX2_sideOf yX2_sideOf, Cond.code yX2_sideOf cX2_sideOf 2 (some .int), Cond.fieldLink RX2 9 "WarTable$Units" "sides" "[I", Cond.methodLink RX3 152 yX2_strengthAt, Cond.instanceMethod yX2_strengthAt]
def wsX3_force_r2 : List Cond := [Cond.selects RX2 yX2_strengthAt yX2_strengthAt, Cond.code yX2_strengthAt cX2_strengthAt 3 (some .int), Cond.fieldLink RX2 18 "WarTable$Units" "strengths" "[I", Cond.methodLink RX2 36 yX2_isKept, Cond.static yX2_isKept, Cond.code yX2_isKept cX2_isKept 2 (some .boolean), Cond.methodLink RX2 39 yX2_index, Cond.static yX2_index, Cond.code yX2_index cX2_index 2 (some .int)]
def wsX3_force : List Cond := .code yX3_force cX3_force 4 (some .int) :: ((wsX3_force_r1 ++ wsX3_force_r2) ++ wsX30 ++ wsX20 ++ (vx_atS RX3 52 "java/lang/IllegalArgumentException" ["java/lang/RuntimeException", "java/lang/Exception"]).filter goodWord)
def wsJ9_max_7cf53 : List Cond := .code yJ9_max_7cf53 cJ9_max_7cf53 2 (some .int) :: ([])
def wsJ9_min_7cf53 : List Cond := .code yJ9_min_7cf53 cJ9_min_7cf53 2 (some .int) :: ([])
def wsL_cell : List Cond := .code yL_cell cL_cell 2 (some .int) :: ([.constant RL 7 (936751593)])
def wsL_at : List Cond := .code yL_at cL_at 2 (some .int) :: ([])
def wsL_lay_r1 : List Cond := [Cond.constant RL 14 (2147483647), Cond.methodLink RL 8 yL_cell, Cond.static yL_cell, Cond.initialized RL, Cond.code yL_cell cL_cell 2 (some .int), Cond.constant RL 7 (936751593), Cond.methodLink RL 15 yL_at, Cond.static yL_at, Cond.code yL_at cL_at 2 (some .int), Cond.methodLink RL 19 yX3_addRoad, Cond.instanceMethod yX3_addRoad, Cond.selects RX3 yX3_addRoad yX3_addRoad, Cond.initialized RX3, Cond.code yX3_addRoad cX3_addRoad 4 (some .int), Cond.classLink RX3 48 "java/lang/IllegalArgumentException", Cond.initialized "java/lang/IllegalArgumentException", Cond.classLink RX3 62 "java/lang/IllegalStateException", Cond.initialized "java/lang/IllegalStateException", Cond.fieldLink RX3 40 "WarTable" "turns" "I", Cond.fieldLink RX3 12 "WarTable" "map" "LWarTable$RoadMap;", Cond.methodLink RX3 44 yX3_below, Cond.static yX3_below, Cond.code yX3_below cX3_below 2 (some .boolean), Cond.methodLink RX3 55 yX0_joins]
def wsL_lay_r2 : List Cond := [Cond.instanceMethod yX0_joins, Cond.selects RX0 yX0_joins yX0_joins, Cond.initialized RX0, Cond.code yX0_joins cX0_joins 3 (some .boolean), Cond.methodLink RX0 22 yX0_nextOverOpen, Cond.instanceMethod yX0_nextOverOpen, Cond.selects RX0 yX0_nextOverOpen yX0_nextOverOpen, Cond.code yX0_nextOverOpen cX0_nextOverOpen 3 (some .int), Cond.fieldLink RX0 9 "WarTable$RoadMap" "nextOverPaved" "[I", Cond.fieldLink RX0 15 "WarTable$RoadMap" "nextOverUnpaved" "[I", Cond.static yX3_has, Cond.code yX3_has cX3_has 2 (some .boolean), Cond.methodLink RX3 202 yX3_bit, Cond.static yX3_bit, Cond.code yX3_bit cX3_bit 1 (some .int), Cond.methodLink RX3 58 yX0_roads, Cond.instanceMethod yX0_roads, Cond.selects RX0 yX0_roads yX0_roads, Cond.code yX0_roads cX0_roads 1 (some .int), Cond.fieldLink RX0 18 "WarTable$RoadMap" "roads" "I", Cond.methodLink RX3 67 yX0_join, Cond.instanceMethod yX0_join, Cond.selects RX0 yX0_join yX0_join, Cond.code yX0_join cX0_join 5 none]
def wsL_lay_r3 : List Cond := [Cond.methodLink RL 25 yX3_addUnit, Cond.instanceMethod yX3_addUnit, Cond.selects RX3 yX3_addUnit yX3_addUnit, Cond.code yX3_addUnit cX3_addUnit 4 (some .int), Cond.fieldLink RX3 23 "WarTable" "units" "LWarTable$Units;", Cond.methodLink RX3 77 yX3_opponent, Cond.static yX3_opponent, Cond.code yX3_opponent cX3_opponent 1 (some .int), Cond.methodLink RX3 81 yX2_townsHeld, Cond.instanceMethod yX2_townsHeld, Cond.selects RX2 yX2_townsHeld yX2_townsHeld, Cond.initialized RX2, Cond.code yX2_townsHeld cX2_townsHeld 6 (some .int), Cond.fieldLink RX2 24 "WarTable$Units" "count" "I", Cond.methodLink RX2 48 yX2_townAt, Cond.instanceMethod yX2_townAt, Cond.selects RX2 yX2_townAt yX2_townAt, Cond.code yX2_townAt cX2_townAt 3 (some .int), Cond.fieldLink RX2 15 "WarTable$Units" "towns" "[I", Cond.methodLink RX2 36 yX2_isKept, Cond.static yX2_isKept, Cond.code yX2_isKept cX2_isKept 2 (some .boolean), Cond.methodLink RX2 39 yX2_index, Cond.static yX2_index]
def wsL_lay_r4 : List Cond := [Cond.code yX2_index cX2_index 2 (some .int), Cond.methodLink RX2 54 yX2_sideOf, Cond.instanceMethod yX2_sideOf, Cond.selects RX2 yX2_sideOf yX2_sideOf, Cond.code yX2_sideOf cX2_sideOf 2 (some .int), Cond.fieldLink RX2 9 "WarTable$Units" "sides" "[I", Cond.methodLink RX3 85 yX3_has, Cond.methodLink RX3 88 yX2_count, Cond.instanceMethod yX2_count, Cond.selects RX2 yX2_count yX2_count, Cond.code yX2_count cX2_count 1 (some .int), Cond.methodLink RX3 93 yX2_add, Cond.instanceMethod yX2_add, Cond.selects RX2 yX2_add yX2_add, Cond.code yX2_add cX2_add 5 (some .int), Cond.methodLink RX2 32 yX2_place, Cond.instanceMethod yX2_place, Cond.selects RX2 yX2_place yX2_place, Cond.code yX2_place cX2_place 5 none, Cond.fieldLink RX2 18 "WarTable$Units" "strengths" "[I", Cond.methodLink RX2 43 Lib.Math.max.name, Cond.static Lib.Math.max.name, Cond.initialized "java/lang/Math", Cond.code Lib.Math.max.name Lib.Math.max.code 2 (some .int)]
def wsL_lay : List Cond := .code yL_lay cL_lay 9 (some .int) :: ((wsL_lay_r1 ++ (wsL_lay_r2 ++ (wsL_lay_r3 ++ wsL_lay_r4))) ++ wsX30 ++ wsX00 ++ wsX20 ++ (vx_atS RX3 52 "java/lang/IllegalArgumentException" ["java/lang/RuntimeException", "java/lang/Exception"]).filter goodWord ++ (vx_atS RX3 66 "java/lang/IllegalStateException" ["java/lang/RuntimeException", "java/lang/Exception"]).filter goodWord)
def wsL_sum_r1 : List Cond := [Cond.methodLink RL 29 yX3_strength, Cond.instanceMethod yX3_strength, Cond.selects RX3 yX3_strength yX3_strength, Cond.initialized RX3, Cond.code yX3_strength cX3_strength 2 (some .int), Cond.fieldLink RX3 23 "WarTable" "units" "LWarTable$Units;", Cond.fieldLink RX3 40 "WarTable" "turns" "I", Cond.methodLink RX3 97 yX3_checkUnit, Cond.instanceMethod yX3_checkUnit, Cond.selects RX3 yX3_checkUnit yX3_checkUnit, Cond.code yX3_checkUnit cX3_checkUnit 2 none, Cond.classLink RX3 165 "java/lang/IndexOutOfBoundsException", Cond.initialized "java/lang/IndexOutOfBoundsException", Cond.methodLink RX3 88 yX2_count, Cond.instanceMethod yX2_count, Cond.selects RX2 yX2_count yX2_count, Cond.initialized RX2, Cond.code yX2_count cX2_count 1 (some .int), Cond.fieldLink RX2 24 "WarTable$Units" "count" "I", Cond.methodLink RX3 44 yX3_below, Cond.static yX3_below, Cond.code yX3_below cX3_below 2 (some .boolean), Cond.methodLink RX3 152 yX2_strengthAt, Cond.instanceMethod yX2_strengthAt]
def wsL_sum_r2 : List Cond := [Cond.selects RX2 yX2_strengthAt yX2_strengthAt, Cond.code yX2_strengthAt cX2_strengthAt 3 (some .int), Cond.fieldLink RX2 18 "WarTable$Units" "strengths" "[I", Cond.methodLink RX2 36 yX2_isKept, Cond.static yX2_isKept, Cond.code yX2_isKept cX2_isKept 2 (some .boolean), Cond.methodLink RX2 39 yX2_index, Cond.static yX2_index, Cond.code yX2_index cX2_index 2 (some .int)]
def wsL_sum : List Cond := .code yL_sum cL_sum 6 (some .int) :: ((wsL_sum_r1 ++ wsL_sum_r2) ++ wsX30 ++ wsX20 ++ (vx_atS RX3 169 "java/lang/IndexOutOfBoundsException" ["java/lang/RuntimeException", "java/lang/Exception"]).filter goodWord)
def wsL_moved_r1 : List Cond := [Cond.methodLink RL 33 yX3_townOf, Cond.instanceMethod yX3_townOf, Cond.selects RX3 yX3_townOf yX3_townOf, Cond.initialized RX3, Cond.code yX3_townOf cX3_townOf 2 (some .int), Cond.fieldLink RX3 23 "WarTable" "units" "LWarTable$Units;", Cond.fieldLink RX3 40 "WarTable" "turns" "I", Cond.methodLink RX3 97 yX3_checkUnit, Cond.instanceMethod yX3_checkUnit, Cond.selects RX3 yX3_checkUnit yX3_checkUnit, Cond.code yX3_checkUnit cX3_checkUnit 2 none, Cond.classLink RX3 165 "java/lang/IndexOutOfBoundsException", Cond.initialized "java/lang/IndexOutOfBoundsException", Cond.methodLink RX3 88 yX2_count, Cond.instanceMethod yX2_count, Cond.selects RX2 yX2_count yX2_count, Cond.initialized RX2, Cond.code yX2_count cX2_count 1 (some .int), Cond.fieldLink RX2 24 "WarTable$Units" "count" "I", Cond.methodLink RX3 44 yX3_below, Cond.static yX3_below, Cond.code yX3_below cX3_below 2 (some .boolean), Cond.methodLink RX3 149 yX2_townAt, Cond.instanceMethod yX2_townAt]
def wsL_moved_r2 : List Cond := [Cond.selects RX2 yX2_townAt yX2_townAt, Cond.code yX2_townAt cX2_townAt 3 (some .int), Cond.fieldLink RX2 15 "WarTable$Units" "towns" "[I", Cond.methodLink RX2 36 yX2_isKept, Cond.static yX2_isKept, Cond.code yX2_isKept cX2_isKept 2 (some .boolean), Cond.methodLink RX2 39 yX2_index, Cond.static yX2_index, Cond.code yX2_index cX2_index 2 (some .int), Cond.methodLink RL 29 yX3_strength, Cond.instanceMethod yX3_strength, Cond.selects RX3 yX3_strength yX3_strength, Cond.code yX3_strength cX3_strength 2 (some .int), Cond.methodLink RX3 152 yX2_strengthAt, Cond.instanceMethod yX2_strengthAt, Cond.selects RX2 yX2_strengthAt yX2_strengthAt, Cond.code yX2_strengthAt cX2_strengthAt 3 (some .int), Cond.fieldLink RX2 18 "WarTable$Units" "strengths" "[I", Cond.methodLink RL 36 yX3_played, Cond.instanceMethod yX3_played, Cond.selects RX3 yX3_played yX3_played, Cond.code yX3_played cX3_played 1 (some .int), Cond.methodLink RL 40 yX3_townAfter, Cond.instanceMethod yX3_townAfter]
def wsL_moved_r3 : List Cond := [Cond.selects RX3 yX3_townAfter yX3_townAfter, Cond.code yX3_townAfter cX3_townAfter 3 (some .int), Cond.methodLink RX3 121 yX3_checkTurn, Cond.instanceMethod yX3_checkTurn, Cond.selects RX3 yX3_checkTurn yX3_checkTurn, Cond.code yX3_checkTurn cX3_checkTurn 2 none, Cond.methodLink RX3 170 Lib.Math.min.name, Cond.static Lib.Math.min.name, Cond.initialized "java/lang/Math", Cond.code Lib.Math.min.name Lib.Math.min.code 2 (some .int), Cond.methodLink RL 43 yX3_reported, Cond.instanceMethod yX3_reported, Cond.selects RX3 yX3_reported yX3_reported, Cond.code yX3_reported cX3_reported 4 (some .int), Cond.fieldLink RX3 30 "WarTable" "seen" "[I", Cond.methodLink RX3 162 yX3_checkSide, Cond.static yX3_checkSide, Cond.code yX3_checkSide cX3_checkSide 1 none, Cond.classLink RX3 48 "java/lang/IllegalArgumentException", Cond.initialized "java/lang/IllegalArgumentException", Cond.methodLink RX3 155 yX2_sideOf, Cond.instanceMethod yX2_sideOf, Cond.selects RX2 yX2_sideOf yX2_sideOf, Cond.code yX2_sideOf cX2_sideOf 2 (some .int)]
def wsL_moved_r4 : List Cond := [Cond.fieldLink RX2 9 "WarTable$Units" "sides" "[I", Cond.methodLink RX3 85 yX3_has, Cond.static yX3_has, Cond.code yX3_has cX3_has 2 (some .boolean), Cond.methodLink RX3 202 yX3_bit, Cond.static yX3_bit, Cond.code yX3_bit cX3_bit 1 (some .int)]
def wsL_moved : List Cond := .code yL_moved cL_moved 13 (some .boolean) :: ((wsL_moved_r1 ++ (wsL_moved_r2 ++ (wsL_moved_r3 ++ wsL_moved_r4))) ++ wsX30 ++ wsX20 ++ (vx_atS RX3 169 "java/lang/IndexOutOfBoundsException" ["java/lang/RuntimeException", "java/lang/Exception"]).filter goodWord ++ (vx_atS RX3 52 "java/lang/IllegalArgumentException" ["java/lang/RuntimeException", "java/lang/Exception"]).filter goodWord)
def wsL_supplied_r1 : List Cond := [Cond.methodLink RL 46 yX3_supply, Cond.instanceMethod yX3_supply, Cond.selects RX3 yX3_supply yX3_supply, Cond.initialized RX3, Cond.code yX3_supply cX3_supply 5 (some .int), Cond.fieldLink RX3 23 "WarTable" "units" "LWarTable$Units;", Cond.fieldLink RX3 40 "WarTable" "turns" "I", Cond.methodLink RX3 97 yX3_checkUnit, Cond.instanceMethod yX3_checkUnit, Cond.selects RX3 yX3_checkUnit yX3_checkUnit, Cond.code yX3_checkUnit cX3_checkUnit 2 none, Cond.classLink RX3 165 "java/lang/IndexOutOfBoundsException", Cond.initialized "java/lang/IndexOutOfBoundsException", Cond.methodLink RX3 88 yX2_count, Cond.instanceMethod yX2_count, Cond.selects RX2 yX2_count yX2_count, Cond.initialized RX2, Cond.code yX2_count cX2_count 1 (some .int), Cond.fieldLink RX2 24 "WarTable$Units" "count" "I", Cond.methodLink RX3 44 yX3_below, Cond.static yX3_below, Cond.code yX3_below cX3_below 2 (some .boolean), Cond.methodLink RX3 110 yX3_checkWeather, Cond.static yX3_checkWeather]
def wsL_supplied_r2 : List Cond := [Cond.code yX3_checkWeather cX3_checkWeather 1 none, Cond.classLink RX3 48 "java/lang/IllegalArgumentException", Cond.initialized "java/lang/IllegalArgumentException", Cond.methodLink RX3 149 yX2_townAt, Cond.instanceMethod yX2_townAt, Cond.selects RX2 yX2_townAt yX2_townAt, Cond.code yX2_townAt cX2_townAt 3 (some .int), Cond.fieldLink RX2 15 "WarTable$Units" "towns" "[I", Cond.methodLink RX2 36 yX2_isKept, Cond.static yX2_isKept, Cond.code yX2_isKept cX2_isKept 2 (some .boolean), Cond.methodLink RX2 39 yX2_index, Cond.static yX2_index, Cond.code yX2_index cX2_index 2 (some .int), Cond.methodLink RX3 155 yX2_sideOf, Cond.instanceMethod yX2_sideOf, Cond.selects RX2 yX2_sideOf yX2_sideOf, Cond.code yX2_sideOf cX2_sideOf 2 (some .int), Cond.fieldLink RX2 9 "WarTable$Units" "sides" "[I", Cond.methodLink RX3 158 yX3_suppliedTowns, Cond.instanceMethod yX3_suppliedTowns, Cond.selects RX3 yX3_suppliedTowns yX3_suppliedTowns, Cond.code yX3_suppliedTowns cX3_suppliedTowns 8 (some .int), Cond.fieldLink RX3 16 "WarTable" "depots" "[I"]
def wsL_supplied_r3 : List Cond := [Cond.fieldLink RX3 12 "WarTable" "map" "LWarTable$RoadMap;", Cond.methodLink RX3 77 yX3_opponent, Cond.static yX3_opponent, Cond.code yX3_opponent cX3_opponent 1 (some .int), Cond.methodLink RX3 81 yX2_townsHeld, Cond.instanceMethod yX2_townsHeld, Cond.selects RX2 yX2_townsHeld yX2_townsHeld, Cond.code yX2_townsHeld cX2_townsHeld 6 (some .int), Cond.methodLink RX2 48 yX2_townAt, Cond.methodLink RX2 54 yX2_sideOf, Cond.static yX3_bit, Cond.code yX3_bit cX3_bit 1 (some .int), Cond.methodLink RX3 202 yX3_bit, Cond.methodLink RX3 205 yX0_widened, Cond.instanceMethod yX0_widened, Cond.selects RX0 yX0_widened yX0_widened, Cond.initialized RX0, Cond.code yX0_widened cX0_widened 5 (some .int), Cond.static yX3_has, Cond.code yX3_has cX3_has 2 (some .boolean), Cond.methodLink RX0 22 yX0_nextOverOpen, Cond.instanceMethod yX0_nextOverOpen, Cond.selects RX0 yX0_nextOverOpen yX0_nextOverOpen, Cond.code yX0_nextOverOpen cX0_nextOverOpen 3 (some .int)]
def wsL_supplied_r4 : List Cond := [Cond.fieldLink RX0 9 "WarTable$RoadMap" "nextOverPaved" "[I", Cond.fieldLink RX0 15 "WarTable$RoadMap" "nextOverUnpaved" "[I", Cond.methodLink RX3 85 yX3_has, Cond.methodLink RL 33 yX3_townOf, Cond.instanceMethod yX3_townOf, Cond.selects RX3 yX3_townOf yX3_townOf, Cond.code yX3_townOf cX3_townOf 2 (some .int)]
def wsL_supplied : List Cond := .code yL_supplied cL_supplied 9 (some .boolean) :: ((wsL_supplied_r1 ++ (wsL_supplied_r2 ++ (wsL_supplied_r3 ++ wsL_supplied_r4))) ++ wsX30 ++ wsX20 ++ wsX00 ++ (vx_atS RX3 169 "java/lang/IndexOutOfBoundsException" ["java/lang/RuntimeException", "java/lang/Exception"]).filter goodWord ++ (vx_atS RX3 52 "java/lang/IllegalArgumentException" ["java/lang/RuntimeException", "java/lang/Exception"]).filter goodWord)
def wsL_law0_r1 : List Cond := [Cond.classLink RL 20 RX3, Cond.instantiable RX3 7, Cond.initialized RX3, Cond.arrayClass .int, Cond.constant RL 14 (2147483647), Cond.methodLink RL 49 yX3_init, Cond.instanceMethod yX3_init, Cond.code yX3_init cX3_init 1 none, Cond.methodLink RX3 3 objectInit, Cond.instanceMethod objectInit, Cond.code objectInit ⟨#[0xb1]⟩ 1 none, Cond.classLink RX3 9 RX0, Cond.instantiable RX0 3, Cond.initialized RX0, Cond.fieldLink RX3 12 "WarTable" "map" "LWarTable$RoadMap;", Cond.fieldLink RX3 16 "WarTable" "depots" "[I", Cond.classLink RX3 20 RX2, Cond.instantiable RX2 5, Cond.initialized RX2, Cond.fieldLink RX3 23 "WarTable" "units" "LWarTable$Units;", Cond.fieldLink RX3 27 "WarTable" "weathers" "[I", Cond.fieldLink RX3 30 "WarTable" "seen" "[I", Cond.classLink RX3 33 RX1, Cond.instantiable RX1 3]
def wsL_law0_r2 : List Cond := [Cond.initialized RX1, Cond.fieldLink RX3 36 "WarTable" "standing" "LWarTable$Rulings;", Cond.fieldLink RX3 40 "WarTable" "turns" "I", Cond.instanceMethod yX0_init, Cond.code yX0_init cX0_init 1 none, Cond.methodLink RX0 3 objectInit, Cond.fieldLink RX0 9 "WarTable$RoadMap" "nextOverPaved" "[I", Cond.fieldLink RX0 15 "WarTable$RoadMap" "nextOverUnpaved" "[I", Cond.fieldLink RX0 18 "WarTable$RoadMap" "roads" "I", Cond.instanceMethod yX2_init, Cond.code yX2_init cX2_init 1 none, Cond.methodLink RX2 3 objectInit, Cond.fieldLink RX2 9 "WarTable$Units" "sides" "[I", Cond.fieldLink RX2 15 "WarTable$Units" "towns" "[I", Cond.fieldLink RX2 18 "WarTable$Units" "strengths" "[I", Cond.fieldLink RX2 21 "WarTable$Units" "orders" "[I", Cond.fieldLink RX2 24 "WarTable$Units" "count" "I", Cond.instanceMethod yX1_init, Cond.code yX1_init cX1_init 1 none, Cond.methodLink RX1 3 objectInit, Cond.fieldLink RX1 9 "WarTable$Rulings" "turns" "[I", Cond.fieldLink RX1 15 "WarTable$Rulings" "weathersBefore" "[I", Cond.fieldLink RX1 18 "WarTable$Rulings" "count" "I", Cond.methodLink RL 50 yL_lay]
def wsL_law0_r3 : List Cond := [Cond.static yL_lay, Cond.initialized RL, Cond.code yL_lay cL_lay 9 (some .int), Cond.methodLink RL 8 yL_cell, Cond.static yL_cell, Cond.code yL_cell cL_cell 2 (some .int), Cond.constant RL 7 (936751593), Cond.methodLink RL 15 yL_at, Cond.static yL_at, Cond.code yL_at cL_at 2 (some .int), Cond.methodLink RL 19 yX3_addRoad, Cond.instanceMethod yX3_addRoad, Cond.selects RX3 yX3_addRoad yX3_addRoad, Cond.code yX3_addRoad cX3_addRoad 4 (some .int), Cond.classLink RX3 48 "java/lang/IllegalArgumentException", Cond.initialized "java/lang/IllegalArgumentException", Cond.classLink RX3 62 "java/lang/IllegalStateException", Cond.initialized "java/lang/IllegalStateException", Cond.methodLink RX3 44 yX3_below, Cond.static yX3_below, Cond.code yX3_below cX3_below 2 (some .boolean), Cond.methodLink RX3 55 yX0_joins, Cond.instanceMethod yX0_joins, Cond.selects RX0 yX0_joins yX0_joins]
def wsL_law0_r4 : List Cond := [Cond.code yX0_joins cX0_joins 3 (some .boolean), Cond.methodLink RX0 22 yX0_nextOverOpen, Cond.instanceMethod yX0_nextOverOpen, Cond.selects RX0 yX0_nextOverOpen yX0_nextOverOpen, Cond.code yX0_nextOverOpen cX0_nextOverOpen 3 (some .int), Cond.static yX3_has, Cond.code yX3_has cX3_has 2 (some .boolean), Cond.methodLink RX3 202 yX3_bit, Cond.static yX3_bit, Cond.code yX3_bit cX3_bit 1 (some .int), Cond.methodLink RX3 58 yX0_roads, Cond.instanceMethod yX0_roads, Cond.selects RX0 yX0_roads yX0_roads, Cond.code yX0_roads cX0_roads 1 (some .int), Cond.methodLink RX3 67 yX0_join, Cond.instanceMethod yX0_join, Cond.selects RX0 yX0_join yX0_join, Cond.code yX0_join cX0_join 5 none, Cond.methodLink RL 25 yX3_addUnit, Cond.instanceMethod yX3_addUnit, Cond.selects RX3 yX3_addUnit yX3_addUnit, Cond.code yX3_addUnit cX3_addUnit 4 (some .int), Cond.methodLink RX3 77 yX3_opponent, Cond.static yX3_opponent]
def wsL_law0_r5 : List Cond := [Cond.code yX3_opponent cX3_opponent 1 (some .int), Cond.methodLink RX3 81 yX2_townsHeld, Cond.instanceMethod yX2_townsHeld, Cond.selects RX2 yX2_townsHeld yX2_townsHeld, Cond.code yX2_townsHeld cX2_townsHeld 6 (some .int), Cond.methodLink RX2 48 yX2_townAt, Cond.instanceMethod yX2_townAt, Cond.selects RX2 yX2_townAt yX2_townAt, Cond.code yX2_townAt cX2_townAt 3 (some .int), Cond.methodLink RX2 36 yX2_isKept, Cond.static yX2_isKept, Cond.code yX2_isKept cX2_isKept 2 (some .boolean), Cond.methodLink RX2 39 yX2_index, Cond.static yX2_index, Cond.code yX2_index cX2_index 2 (some .int), Cond.methodLink RX2 54 yX2_sideOf, Cond.instanceMethod yX2_sideOf, Cond.selects RX2 yX2_sideOf yX2_sideOf, Cond.code yX2_sideOf cX2_sideOf 2 (some .int), Cond.methodLink RX3 85 yX3_has, Cond.methodLink RX3 88 yX2_count, Cond.instanceMethod yX2_count, Cond.selects RX2 yX2_count yX2_count, Cond.code yX2_count cX2_count 1 (some .int)]
def wsL_law0_r6 : List Cond := [Cond.methodLink RX3 93 yX2_add, Cond.instanceMethod yX2_add, Cond.selects RX2 yX2_add yX2_add, Cond.code yX2_add cX2_add 5 (some .int), Cond.methodLink RX2 32 yX2_place, Cond.instanceMethod yX2_place, Cond.selects RX2 yX2_place yX2_place, Cond.code yX2_place cX2_place 5 none, Cond.methodLink RX2 43 Lib.Math.max.name, Cond.static Lib.Math.max.name, Cond.initialized "java/lang/Math", Cond.code Lib.Math.max.name Lib.Math.max.code 2 (some .int), Cond.methodLink RL 33 yX3_townOf, Cond.instanceMethod yX3_townOf, Cond.selects RX3 yX3_townOf yX3_townOf, Cond.code yX3_townOf cX3_townOf 2 (some .int), Cond.methodLink RX3 97 yX3_checkUnit, Cond.instanceMethod yX3_checkUnit, Cond.selects RX3 yX3_checkUnit yX3_checkUnit, Cond.code yX3_checkUnit cX3_checkUnit 2 none, Cond.classLink RX3 165 "java/lang/IndexOutOfBoundsException", Cond.initialized "java/lang/IndexOutOfBoundsException", Cond.methodLink RX3 149 yX2_townAt, Cond.methodLink RL 29 yX3_strength]
def wsL_law0_r7 : List Cond := [Cond.instanceMethod yX3_strength, Cond.selects RX3 yX3_strength yX3_strength, Cond.code yX3_strength cX3_strength 2 (some .int), Cond.methodLink RX3 152 yX2_strengthAt, Cond.instanceMethod yX2_strengthAt, Cond.selects RX2 yX2_strengthAt yX2_strengthAt, Cond.code yX2_strengthAt cX2_strengthAt 3 (some .int), Cond.methodLink RL 54 yX3_order, Cond.instanceMethod yX3_order, Cond.selects RX3 yX3_order yX3_order, Cond.code yX3_order cX3_order 4 (some .int), Cond.methodLink RX3 103 yX2_orderFor, Cond.instanceMethod yX2_orderFor, Cond.selects RX2 yX2_orderFor yX2_orderFor, Cond.code yX2_orderFor cX2_orderFor 3 (some .int), Cond.methodLink RX3 106 yX2_giveOrder, Cond.instanceMethod yX2_giveOrder, Cond.selects RX2 yX2_giveOrder yX2_giveOrder, Cond.code yX2_giveOrder cX2_giveOrder 4 none, Cond.methodLink RL 57 yX3_force, Cond.instanceMethod yX3_force, Cond.selects RX3 yX3_force yX3_force, Cond.code yX3_force cX3_force 4 (some .int), Cond.methodLink RX3 162 yX3_checkSide]
def wsL_law0_r8 : List Cond := [Cond.static yX3_checkSide, Cond.code yX3_checkSide cX3_checkSide 1 none, Cond.methodLink RX3 155 yX2_sideOf, Cond.methodLink RL 60 yL_sum, Cond.static yL_sum, Cond.code yL_sum cL_sum 6 (some .int), Cond.methodLink RL 64 yL_supplied, Cond.static yL_supplied, Cond.code yL_supplied cL_supplied 9 (some .boolean), Cond.methodLink RL 46 yX3_supply, Cond.instanceMethod yX3_supply, Cond.selects RX3 yX3_supply yX3_supply, Cond.code yX3_supply cX3_supply 5 (some .int), Cond.methodLink RX3 110 yX3_checkWeather, Cond.static yX3_checkWeather, Cond.code yX3_checkWeather cX3_checkWeather 1 none, Cond.methodLink RX3 158 yX3_suppliedTowns, Cond.instanceMethod yX3_suppliedTowns, Cond.selects RX3 yX3_suppliedTowns yX3_suppliedTowns, Cond.code yX3_suppliedTowns cX3_suppliedTowns 8 (some .int), Cond.methodLink RX3 205 yX0_widened, Cond.instanceMethod yX0_widened, Cond.selects RX0 yX0_widened yX0_widened, Cond.code yX0_widened cX0_widened 5 (some .int)]
def wsL_law0_r9 : List Cond := [Cond.methodLink RL 68 yX3_play, Cond.instanceMethod yX3_play, Cond.selects RX3 yX3_play yX3_play, Cond.code yX3_play cX3_play 3 (some .int), Cond.methodLink RX3 115 yX3_playFrom, Cond.instanceMethod yX3_playFrom, Cond.selects RX3 yX3_playFrom yX3_playFrom, Cond.code yX3_playFrom cX3_playFrom 5 none, Cond.methodLink RX3 184 Lib.Math.max.name, Cond.methodLink RX3 187 yX3_suppliedUnits, Cond.instanceMethod yX3_suppliedUnits, Cond.selects RX3 yX3_suppliedUnits yX3_suppliedUnits, Cond.code yX3_suppliedUnits cX3_suppliedUnits 7 (some .int), Cond.methodLink RX3 190 yX3_goers, Cond.instanceMethod yX3_goers, Cond.selects RX3 yX3_goers yX3_goers, Cond.code yX3_goers cX3_goers 7 (some .int), Cond.methodLink RX3 208 yX0_nextOverOpen, Cond.methodLink RX3 193 yX3_march, Cond.instanceMethod yX3_march, Cond.selects RX3 yX3_march yX3_march, Cond.code yX3_march cX3_march 6 none, Cond.methodLink RX3 211 yX3_isMetOnRoad, Cond.instanceMethod yX3_isMetOnRoad]
def wsL_law0_r10 : List Cond := [Cond.selects RX3 yX3_isMetOnRoad yX3_isMetOnRoad, Cond.code yX3_isMetOnRoad cX3_isMetOnRoad 5 (some .boolean), Cond.methodLink RX3 215 yX2_place, Cond.methodLink RX3 196 yX3_fightEverywhere, Cond.instanceMethod yX3_fightEverywhere, Cond.selects RX3 yX3_fightEverywhere yX3_fightEverywhere, Cond.code yX3_fightEverywhere cX3_fightEverywhere 5 none, Cond.methodLink RX3 219 yX3_fight, Cond.instanceMethod yX3_fight, Cond.selects RX3 yX3_fight yX3_fight, Cond.code yX3_fight cX3_fight 8 none, Cond.methodLink RX3 222 yX3_sumInFight, Cond.instanceMethod yX3_sumInFight, Cond.selects RX3 yX3_sumInFight yX3_sumInFight, Cond.code yX3_sumInFight cX3_sumInFight 8 (some .int), Cond.methodLink RX3 225 yX3_loss, Cond.static yX3_loss, Cond.code yX3_loss cX3_loss 2 (some .int), Cond.methodLink RX3 199 yX3_unitsInSight, Cond.instanceMethod yX3_unitsInSight, Cond.selects RX3 yX3_unitsInSight yX3_unitsInSight, Cond.code yX3_unitsInSight cX3_unitsInSight 6 (some .int), Cond.methodLink RX3 118 yX2_livingAt, Cond.instanceMethod yX2_livingAt]
def wsL_law0_r11 : List Cond := [Cond.selects RX2 yX2_livingAt yX2_livingAt, Cond.code yX2_livingAt cX2_livingAt 4 (some .int), Cond.methodLink RL 36 yX3_played, Cond.instanceMethod yX3_played, Cond.selects RX3 yX3_played yX3_played, Cond.code yX3_played cX3_played 1 (some .int), Cond.methodLink RL 71 yL_moved, Cond.static yL_moved, Cond.code yL_moved cL_moved 13 (some .boolean), Cond.methodLink RL 40 yX3_townAfter, Cond.instanceMethod yX3_townAfter, Cond.selects RX3 yX3_townAfter yX3_townAfter, Cond.code yX3_townAfter cX3_townAfter 3 (some .int), Cond.methodLink RX3 121 yX3_checkTurn, Cond.instanceMethod yX3_checkTurn, Cond.selects RX3 yX3_checkTurn yX3_checkTurn, Cond.code yX3_checkTurn cX3_checkTurn 2 none, Cond.methodLink RX3 170 Lib.Math.min.name, Cond.static Lib.Math.min.name, Cond.code Lib.Math.min.name Lib.Math.min.code 2 (some .int), Cond.methodLink RL 43 yX3_reported, Cond.instanceMethod yX3_reported, Cond.selects RX3 yX3_reported yX3_reported, Cond.code yX3_reported cX3_reported 4 (some .int)]
def wsL_law0 : List Cond := (wsL_law0_r1 ++ (wsL_law0_r2 ++ (wsL_law0_r3 ++ (wsL_law0_r4 ++ (wsL_law0_r5 ++ (wsL_law0_r6 ++ (wsL_law0_r7 ++ (wsL_law0_r8 ++ (wsL_law0_r9 ++ (wsL_law0_r10 ++ wsL_law0_r11)))))))))) ++ wsX30 ++ wsX00 ++ wsX20 ++ wsX10 ++ ([] : List Cond)
def wsL_law : List Cond := wsL_law0 ++ (vx_atS RX3 52 "java/lang/IllegalArgumentException" ["java/lang/RuntimeException", "java/lang/Exception"]).filter goodWord ++ (vx_atS RX3 66 "java/lang/IllegalStateException" ["java/lang/RuntimeException", "java/lang/Exception"]).filter goodWord ++ (vx_atS RX3 169 "java/lang/IndexOutOfBoundsException" ["java/lang/RuntimeException", "java/lang/Exception"]).filter goodWord
end
section
set_option maxRecDepth 20000 in
theorem wsL_law0_r1_in : ∀ w ∈ wsL_law0_r1, w ∈ lw_tbl := fun w h => (goodIn_p wsL_law0_r1 [29, 32] (by decide +kernel) (by decide +kernel) w h).1
set_option maxRecDepth 20000 in
theorem wsL_law0_r2_in : ∀ w ∈ wsL_law0_r2, w ∈ lw_tbl := fun w h => (goodIn_p wsL_law0_r2 [37, 54, 76] (by decide +kernel) (by decide +kernel) w h).1
set_option maxRecDepth 20000 in
theorem wsL_law0_r3_in : ∀ w ∈ wsL_law0_r3, w ∈ lw_tbl := fun w h => (goodIn_p wsL_law0_r3 [371, 364, 368, 376, 124] (by decide +kernel) (by decide +kernel) w h).1
set_option maxRecDepth 20000 in
theorem wsL_law0_r4_in : ∀ w ∈ wsL_law0_r4, w ∈ lw_tbl := fun w h => (goodIn_p wsL_law0_r4 [381, 292, 288, 280, 385, 390, 395] (by decide +kernel) (by decide +kernel) w h).1
set_option maxRecDepth 20000 in
theorem wsL_law0_r5_in : ∀ w ∈ wsL_law0_r5, w ∈ lw_tbl := fun w h => (goodIn_p wsL_law0_r5 [264, 268, 272, 215, 218, 276, 121] (by decide +kernel) (by decide +kernel) w h).1
end
section
set_option maxRecDepth 20000 in
theorem wsL_law0_r6_in : ∀ w ∈ wsL_law0_r6, w ∈ lw_tbl := fun w h => (goodIn_p wsL_law0_r6 [401, 317, 253, 349, 117] (by decide +kernel) (by decide +kernel) w h).1
set_option maxRecDepth 20000 in
theorem wsL_law0_r7_in : ∀ w ∈ wsL_law0_r7, w ∈ lw_tbl := fun w h => (goodIn_p wsL_law0_r7 [353, 313, 113, 212, 222, 357] (by decide +kernel) (by decide +kernel) w h).1
set_option maxRecDepth 20000 in
theorem wsL_law0_r8_in : ∀ w ∈ wsL_law0_r8, w ∈ lw_tbl := fun w h => (goodIn_p wsL_law0_r8 [360, 405, 428, 432, 229, 261, 285] (by decide +kernel) (by decide +kernel) w h).1
set_option maxRecDepth 20000 in
theorem wsL_law0_r9_in : ∀ w ∈ wsL_law0_r9, w ∈ lw_tbl := fun w h => (goodIn_p wsL_law0_r9 [226, 250, 257, 300, 305] (by decide +kernel) (by decide +kernel) w h).1
set_option maxRecDepth 20000 in
theorem wsL_law0_r10_in : ∀ w ∈ wsL_law0_r10, w ∈ lw_tbl := fun w h => (goodIn_p wsL_law0_r10 [309, 322, 326, 330, 333, 337] (by decide +kernel) (by decide +kernel) w h).1
set_option maxRecDepth 20000 in
theorem wsL_law0_r11_in : ∀ w ∈ wsL_law0_r11, w ∈ lw_tbl := fun w h => (goodIn_p wsL_law0_r11 [341, 345, 408, 412, 416, 419, 424] (by decide +kernel) (by decide +kernel) w h).1
end
section
set_option maxRecDepth 20000 in
theorem wt_inX30 : ∀ w ∈ wsX30, w ∈ lw_tbl := by decide +kernel
set_option maxRecDepth 20000 in
theorem wt_inX00 : ∀ w ∈ wsX00, w ∈ lw_tbl := by decide +kernel
set_option maxRecDepth 20000 in
theorem wt_inX20 : ∀ w ∈ wsX20, w ∈ lw_tbl := by decide +kernel
set_option maxRecDepth 20000 in
theorem wt_inX10 : ∀ w ∈ wsX10, w ∈ lw_tbl := by decide +kernel
theorem wsL_law_in0 : ∀ w ∈ wsL_law0, w ∈ lw_tbl := fun w h => (List.mem_append.mp h).elim (fun h => (List.mem_append.mp h).elim (fun h => (List.mem_append.mp h).elim (fun h => (List.mem_append.mp h).elim (fun h => (List.mem_append.mp h).elim (fun h => (List.mem_append.mp h).elim (fun h => wsL_law0_r1_in w h) (fun h => (List.mem_append.mp h).elim (fun h => wsL_law0_r2_in w h) (fun h => (List.mem_append.mp h).elim (fun h => wsL_law0_r3_in w h) (fun h => (List.mem_append.mp h).elim (fun h => wsL_law0_r4_in w h) (fun h => (List.mem_append.mp h).elim (fun h => wsL_law0_r5_in w h) (fun h => (List.mem_append.mp h).elim (fun h => wsL_law0_r6_in w h) (fun h => (List.mem_append.mp h).elim (fun h => wsL_law0_r7_in w h) (fun h => (List.mem_append.mp h).elim (fun h => wsL_law0_r8_in w h) (fun h => (List.mem_append.mp h).elim (fun h => wsL_law0_r9_in w h) (fun h => (List.mem_append.mp h).elim (fun h => wsL_law0_r10_in w h) (fun h => wsL_law0_r11_in w h))))))))))) (fun h => wt_inX30 w h)) (fun h => wt_inX00 w h)) (fun h => wt_inX20 w h)) (fun h => wt_inX10 w h)) (fun h => absurd h List.not_mem_nil)
theorem wsL_law_x0 : ∀ w ∈ (vx_atS RX3 52 "java/lang/IllegalArgumentException" ["java/lang/RuntimeException", "java/lang/Exception"]).filter goodWord, w ∈ lw_tbl := by decide +kernel
theorem wsL_law_x1 : ∀ w ∈ (vx_atS RX3 66 "java/lang/IllegalStateException" ["java/lang/RuntimeException", "java/lang/Exception"]).filter goodWord, w ∈ lw_tbl := by decide +kernel
theorem wsL_law_x2 : ∀ w ∈ (vx_atS RX3 169 "java/lang/IndexOutOfBoundsException" ["java/lang/RuntimeException", "java/lang/Exception"]).filter goodWord, w ∈ lw_tbl := by decide +kernel
theorem wsL_law_in : ∀ w ∈ wsL_law, w ∈ lw_tbl := fun w h => (List.mem_append.mp h).elim (fun h => (List.mem_append.mp h).elim (fun h => (List.mem_append.mp h).elim (fun h => wsL_law_in0 w h) (fun h => wsL_law_x0 w h)) (fun h => wsL_law_x1 w h)) (fun h => wsL_law_x2 w h)
theorem inlX0 : ∀ w ∈ wsX00, w ∈ wsL_law := fun _ h => List.mem_append_left _ (List.mem_append_left _ (List.mem_append_left _ (List.mem_append_left _ (List.mem_append_left _ (List.mem_append_left _ (List.mem_append_right _ h))))))
theorem inX0 : ∀ w ∈ wsX00, w ∈ lw_tbl := fun w h => wsL_law_in w (inlX0 w h)
theorem inlX1 : ∀ w ∈ wsX10, w ∈ wsL_law := fun _ h => List.mem_append_left _ (List.mem_append_left _ (List.mem_append_left _ (List.mem_append_left _ (List.mem_append_right _ h))))
theorem inX1 : ∀ w ∈ wsX10, w ∈ lw_tbl := fun w h => wsL_law_in w (inlX1 w h)
theorem inlX2 : ∀ w ∈ wsX20, w ∈ wsL_law := fun _ h => List.mem_append_left _ (List.mem_append_left _ (List.mem_append_left _ (List.mem_append_left _ (List.mem_append_left _ (List.mem_append_right _ h)))))
theorem inX2 : ∀ w ∈ wsX20, w ∈ lw_tbl := fun w h => wsL_law_in w (inlX2 w h)
theorem inlX3 : ∀ w ∈ wsX30, w ∈ wsL_law := fun _ h => List.mem_append_left _ (List.mem_append_left _ (List.mem_append_left _ (List.mem_append_left _ (List.mem_append_left _ (List.mem_append_left _ (List.mem_append_left _ (List.mem_append_right _ h)))))))
theorem inX3 : ∀ w ∈ wsX30, w ∈ lw_tbl := fun w h => wsL_law_in w (inlX3 w h)
theorem inX4 : ∀ w ∈ wsX40, w ∈ lw_tbl := by decide +kernel
theorem inJ9 : ∀ w ∈ wsJ90, w ∈ lw_tbl := by decide +kernel
theorem inJ0 : ∀ w ∈ wsJ00, w ∈ lw_tbl := by decide +kernel
end
section
theorem dX0_init_0 : decode cX0_init 0 = .ok (.aload_n 0, 1) := by decide +kernel
theorem dX0_init_1 : decode cX0_init 1 = .ok (.invokespecial 3, 3) := by decide +kernel
theorem dX0_init_4 : decode cX0_init 4 = .ok (.aload_n 0, 1) := by decide +kernel
theorem dX0_init_5 : decode cX0_init 5 = .ok (.bipush 10, 2) := by decide +kernel
theorem dX0_init_7 : decode cX0_init 7 = .ok (.newarray .int, 2) := by decide +kernel
theorem dX0_init_9 : decode cX0_init 9 = .ok (.putfield 9, 3) := by decide +kernel
theorem dX0_init_12 : decode cX0_init 12 = .ok (.aload_n 0, 1) := by decide +kernel
theorem dX0_init_13 : decode cX0_init 13 = .ok (.bipush 10, 2) := by decide +kernel
theorem dX0_init_15 : decode cX0_init 15 = .ok (.newarray .int, 2) := by decide +kernel
theorem dX0_init_17 : decode cX0_init 17 = .ok (.putfield 15, 3) := by decide +kernel
theorem dX0_init_20 : decode cX0_init 20 = .ok (.aload_n 0, 1) := by decide +kernel
theorem dX0_init_21 : decode cX0_init 21 = .ok (.iconst 0, 1) := by decide +kernel
theorem dX0_init_22 : decode cX0_init 22 = .ok (.putfield 18, 3) := by decide +kernel
theorem dX0_init_25 : decode cX0_init 25 = .ok (.return_, 1) := by decide +kernel
theorem dX0_roads_0 : decode cX0_roads 0 = .ok (.aload_n 0, 1) := by decide +kernel
theorem dX0_roads_1 : decode cX0_roads 1 = .ok (.getfield 18, 3) := by decide +kernel
theorem dX0_roads_4 : decode cX0_roads 4 = .ok (.ireturn, 1) := by decide +kernel
set_option maxRecDepth 20000 in
theorem ggX0_joins_X0_nextOverOpen : GoodIn wsX0_joins wsX0_nextOverOpen := goodIn_r _ [5, 6, 7, 8, 9, 10, 16, 17, 18] (by decide +kernel) (by decide +kernel)
set_option maxRecDepth 20000 in
theorem gX0_joins_X0_nextOverOpen : GoodIn wsX0_joins (wsV RX0 22 RX0 yX0_nextOverOpen wsX0_nextOverOpen) := goodIn_app (goodIn_of _ (by decide +kernel)) ggX0_joins_X0_nextOverOpen
set_option maxRecDepth 20000 in
theorem ggX0_joins_X3_has : GoodIn wsX0_joins wsX3_has := goodIn_r _ [12, 13, 14, 9, 15] (by decide +kernel) (by decide +kernel)
set_option maxRecDepth 20000 in
theorem gX0_joins_X3_has_n26 : GoodIn wsX0_joins (wsX3_has) := ggX0_joins_X3_has
theorem dX0_joins_0 : decode cX0_joins 0 = .ok (.aload_n 0, 1) := by decide +kernel
theorem dX0_joins_1 : decode cX0_joins 1 = .ok (.iload_n 1, 1) := by decide +kernel
theorem dX0_joins_2 : decode cX0_joins 2 = .ok (.iconst 0, 1) := by decide +kernel
theorem dX0_joins_3 : decode cX0_joins 3 = .ok (.invokevirtual 22, 3) := by decide +kernel
theorem dX0_joins_6 : decode cX0_joins 6 = .ok (.iload_n 2, 1) := by decide +kernel
theorem dX0_joins_7 : decode cX0_joins 7 = .ok (.invokestatic 26, 3) := by decide +kernel
theorem dX0_joins_10 : decode cX0_joins 10 = .ok (.ireturn, 1) := by decide +kernel
set_option maxRecDepth 20000 in
theorem ggX0_join_X3_below : GoodIn wsX0_join wsX3_below := goodIn_r _ [6] (by decide +kernel) (by decide +kernel)
set_option maxRecDepth 20000 in
theorem gX0_join_X3_below_n30 : GoodIn wsX0_join (wsX3_below) := ggX0_join_X3_below
set_option maxRecDepth 20000 in
theorem ggX0_join_X3_bit : GoodIn wsX0_join wsX3_bit := goodIn_r _ [8] (by decide +kernel) (by decide +kernel)
set_option maxRecDepth 20000 in
theorem gX0_join_X3_bit_n33 : GoodIn wsX0_join (wsX3_bit) := ggX0_join_X3_bit
theorem dX0_join_0 : decode cX0_join 0 = .ok (.iload_n 1, 1) := by decide +kernel
theorem dX0_join_1 : decode cX0_join 1 = .ok (.bipush 10, 2) := by decide +kernel
theorem dX0_join_3 : decode cX0_join 3 = .ok (.invokestatic 30, 3) := by decide +kernel
theorem dX0_join_6 : decode cX0_join 6 = .ok (.ifCond .eq 12, 3) := by decide +kernel
theorem dX0_join_9 : decode cX0_join 9 = .ok (.iload_n 2, 1) := by decide +kernel
theorem dX0_join_10 : decode cX0_join 10 = .ok (.bipush 10, 2) := by decide +kernel
theorem dX0_join_12 : decode cX0_join 12 = .ok (.invokestatic 30, 3) := by decide +kernel
theorem dX0_join_15 : decode cX0_join 15 = .ok (.ifCond .ne 4, 3) := by decide +kernel
theorem dX0_join_18 : decode cX0_join 18 = .ok (.return_, 1) := by decide +kernel
theorem dX0_join_19 : decode cX0_join 19 = .ok (.iload_n 3, 1) := by decide +kernel
theorem dX0_join_20 : decode cX0_join 20 = .ok (.ifCond .eq 10, 3) := by decide +kernel
theorem dX0_join_23 : decode cX0_join 23 = .ok (.aload_n 0, 1) := by decide +kernel
theorem dX0_join_24 : decode cX0_join 24 = .ok (.getfield 9, 3) := by decide +kernel
theorem dX0_join_27 : decode cX0_join 27 = .ok (.goto 7, 3) := by decide +kernel
theorem dX0_join_30 : decode cX0_join 30 = .ok (.aload_n 0, 1) := by decide +kernel
theorem dX0_join_31 : decode cX0_join 31 = .ok (.getfield 15, 3) := by decide +kernel
theorem dX0_join_34 : decode cX0_join 34 = .ok (.astore 4, 2) := by decide +kernel
theorem dX0_join_36 : decode cX0_join 36 = .ok (.aload 4, 2) := by decide +kernel
theorem dX0_join_38 : decode cX0_join 38 = .ok (.iload_n 1, 1) := by decide +kernel
theorem dX0_join_39 : decode cX0_join 39 = .ok (.dup2, 1) := by decide +kernel
theorem dX0_join_40 : decode cX0_join 40 = .ok (.iaload, 1) := by decide +kernel
theorem dX0_join_41 : decode cX0_join 41 = .ok (.iload_n 2, 1) := by decide +kernel
theorem dX0_join_42 : decode cX0_join 42 = .ok (.invokestatic 33, 3) := by decide +kernel
theorem dX0_join_45 : decode cX0_join 45 = .ok (.ior, 1) := by decide +kernel
theorem dX0_join_46 : decode cX0_join 46 = .ok (.iastore, 1) := by decide +kernel
theorem dX0_join_47 : decode cX0_join 47 = .ok (.aload 4, 2) := by decide +kernel
theorem dX0_join_49 : decode cX0_join 49 = .ok (.iload_n 2, 1) := by decide +kernel
theorem dX0_join_50 : decode cX0_join 50 = .ok (.dup2, 1) := by decide +kernel
theorem dX0_join_51 : decode cX0_join 51 = .ok (.iaload, 1) := by decide +kernel
theorem dX0_join_52 : decode cX0_join 52 = .ok (.iload_n 1, 1) := by decide +kernel
theorem dX0_join_53 : decode cX0_join 53 = .ok (.invokestatic 33, 3) := by decide +kernel
theorem dX0_join_56 : decode cX0_join 56 = .ok (.ior, 1) := by decide +kernel
theorem dX0_join_57 : decode cX0_join 57 = .ok (.iastore, 1) := by decide +kernel
theorem dX0_join_58 : decode cX0_join 58 = .ok (.aload_n 0, 1) := by decide +kernel
theorem dX0_join_59 : decode cX0_join 59 = .ok (.dup, 1) := by decide +kernel
theorem dX0_join_60 : decode cX0_join 60 = .ok (.getfield 18, 3) := by decide +kernel
theorem dX0_join_63 : decode cX0_join 63 = .ok (.iconst 1, 1) := by decide +kernel
theorem dX0_join_64 : decode cX0_join 64 = .ok (.iadd, 1) := by decide +kernel
theorem dX0_join_65 : decode cX0_join 65 = .ok (.putfield 18, 3) := by decide +kernel
theorem dX0_join_68 : decode cX0_join 68 = .ok (.return_, 1) := by decide +kernel
set_option maxRecDepth 20000 in
theorem ggX0_nextOverOpen_X3_below : GoodIn wsX0_nextOverOpen wsX3_below := goodIn_r _ [5] (by decide +kernel) (by decide +kernel)
set_option maxRecDepth 20000 in
theorem gX0_nextOverOpen_X3_below_n30 : GoodIn wsX0_nextOverOpen (wsX3_below) := ggX0_nextOverOpen_X3_below
theorem dX0_nextOverOpen_0 : decode cX0_nextOverOpen 0 = .ok (.iload_n 1, 1) := by decide +kernel
theorem dX0_nextOverOpen_1 : decode cX0_nextOverOpen 1 = .ok (.bipush 10, 2) := by decide +kernel
theorem dX0_nextOverOpen_3 : decode cX0_nextOverOpen 3 = .ok (.invokestatic 30, 3) := by decide +kernel
theorem dX0_nextOverOpen_6 : decode cX0_nextOverOpen 6 = .ok (.ifCond .eq 8, 3) := by decide +kernel
theorem dX0_nextOverOpen_9 : decode cX0_nextOverOpen 9 = .ok (.iload_n 2, 1) := by decide +kernel
theorem dX0_nextOverOpen_10 : decode cX0_nextOverOpen 10 = .ok (.iconst 2, 1) := by decide +kernel
theorem dX0_nextOverOpen_11 : decode cX0_nextOverOpen 11 = .ok (.if_icmp .ne 5, 3) := by decide +kernel
theorem dX0_nextOverOpen_14 : decode cX0_nextOverOpen 14 = .ok (.iconst 0, 1) := by decide +kernel
theorem dX0_nextOverOpen_15 : decode cX0_nextOverOpen 15 = .ok (.ireturn, 1) := by decide +kernel
theorem dX0_nextOverOpen_16 : decode cX0_nextOverOpen 16 = .ok (.iload_n 2, 1) := by decide +kernel
theorem dX0_nextOverOpen_17 : decode cX0_nextOverOpen 17 = .ok (.iconst 1, 1) := by decide +kernel
theorem dX0_nextOverOpen_18 : decode cX0_nextOverOpen 18 = .ok (.if_icmp .ne 12, 3) := by decide +kernel
theorem dX0_nextOverOpen_21 : decode cX0_nextOverOpen 21 = .ok (.aload_n 0, 1) := by decide +kernel
theorem dX0_nextOverOpen_22 : decode cX0_nextOverOpen 22 = .ok (.getfield 9, 3) := by decide +kernel
theorem dX0_nextOverOpen_25 : decode cX0_nextOverOpen 25 = .ok (.iload_n 1, 1) := by decide +kernel
theorem dX0_nextOverOpen_26 : decode cX0_nextOverOpen 26 = .ok (.iaload, 1) := by decide +kernel
theorem dX0_nextOverOpen_27 : decode cX0_nextOverOpen 27 = .ok (.goto 16, 3) := by decide +kernel
theorem dX0_nextOverOpen_30 : decode cX0_nextOverOpen 30 = .ok (.aload_n 0, 1) := by decide +kernel
theorem dX0_nextOverOpen_31 : decode cX0_nextOverOpen 31 = .ok (.getfield 9, 3) := by decide +kernel
theorem dX0_nextOverOpen_34 : decode cX0_nextOverOpen 34 = .ok (.iload_n 1, 1) := by decide +kernel
theorem dX0_nextOverOpen_35 : decode cX0_nextOverOpen 35 = .ok (.iaload, 1) := by decide +kernel
theorem dX0_nextOverOpen_36 : decode cX0_nextOverOpen 36 = .ok (.aload_n 0, 1) := by decide +kernel
theorem dX0_nextOverOpen_37 : decode cX0_nextOverOpen 37 = .ok (.getfield 15, 3) := by decide +kernel
theorem dX0_nextOverOpen_40 : decode cX0_nextOverOpen 40 = .ok (.iload_n 1, 1) := by decide +kernel
theorem dX0_nextOverOpen_41 : decode cX0_nextOverOpen 41 = .ok (.iaload, 1) := by decide +kernel
theorem dX0_nextOverOpen_42 : decode cX0_nextOverOpen 42 = .ok (.ior, 1) := by decide +kernel
theorem dX0_nextOverOpen_43 : decode cX0_nextOverOpen 43 = .ok (.ireturn, 1) := by decide +kernel
set_option maxRecDepth 20000 in
theorem ggX0_widened_X3_has : GoodIn wsX0_widened wsX3_has := goodIn_r _ [3, 4, 5, 2, 6] (by decide +kernel) (by decide +kernel)
set_option maxRecDepth 20000 in
theorem gX0_widened_X3_has_n26 : GoodIn wsX0_widened (wsX3_has) := ggX0_widened_X3_has
set_option maxRecDepth 20000 in
theorem ggX0_widened_X0_nextOverOpen : GoodIn wsX0_widened wsX0_nextOverOpen := goodIn_r _ [11, 12, 13, 14, 2, 15, 16, 17, 18] (by decide +kernel) (by decide +kernel)
set_option maxRecDepth 20000 in
theorem gX0_widened_X0_nextOverOpen : GoodIn wsX0_widened (wsV RX0 22 RX0 yX0_nextOverOpen wsX0_nextOverOpen) := goodIn_app (goodIn_of _ (by decide +kernel)) ggX0_widened_X0_nextOverOpen
theorem dX0_widened_0 : decode cX0_widened 0 = .ok (.iload_n 1, 1) := by decide +kernel
theorem dX0_widened_1 : decode cX0_widened 1 = .ok (.istore_n 3, 1) := by decide +kernel
theorem dX0_widened_2 : decode cX0_widened 2 = .ok (.iconst 0, 1) := by decide +kernel
theorem dX0_widened_3 : decode cX0_widened 3 = .ok (.istore 4, 2) := by decide +kernel
theorem dX0_widened_5 : decode cX0_widened 5 = .ok (.iload 4, 2) := by decide +kernel
theorem dX0_widened_7 : decode cX0_widened 7 = .ok (.bipush 10, 2) := by decide +kernel
theorem dX0_widened_9 : decode cX0_widened 9 = .ok (.if_icmp .ge 28, 3) := by decide +kernel
theorem dX0_widened_12 : decode cX0_widened 12 = .ok (.iload_n 1, 1) := by decide +kernel
theorem dX0_widened_13 : decode cX0_widened 13 = .ok (.iload 4, 2) := by decide +kernel
theorem dX0_widened_15 : decode cX0_widened 15 = .ok (.invokestatic 26, 3) := by decide +kernel
theorem dX0_widened_18 : decode cX0_widened 18 = .ok (.ifCond .eq 13, 3) := by decide +kernel
theorem dX0_widened_21 : decode cX0_widened 21 = .ok (.iload_n 3, 1) := by decide +kernel
theorem dX0_widened_22 : decode cX0_widened 22 = .ok (.aload_n 0, 1) := by decide +kernel
theorem dX0_widened_23 : decode cX0_widened 23 = .ok (.iload 4, 2) := by decide +kernel
theorem dX0_widened_25 : decode cX0_widened 25 = .ok (.iload_n 2, 1) := by decide +kernel
theorem dX0_widened_26 : decode cX0_widened 26 = .ok (.invokevirtual 22, 3) := by decide +kernel
theorem dX0_widened_29 : decode cX0_widened 29 = .ok (.ior, 1) := by decide +kernel
theorem dX0_widened_30 : decode cX0_widened 30 = .ok (.istore_n 3, 1) := by decide +kernel
theorem dX0_widened_31 : decode cX0_widened 31 = .ok (.iinc 4 1, 3) := by decide +kernel
theorem dX0_widened_34 : decode cX0_widened 34 = .ok (.goto (-29), 3) := by decide +kernel
theorem dX0_widened_37 : decode cX0_widened 37 = .ok (.iload_n 3, 1) := by decide +kernel
theorem dX0_widened_38 : decode cX0_widened 38 = .ok (.ireturn, 1) := by decide +kernel
theorem dX1_init_0 : decode cX1_init 0 = .ok (.aload_n 0, 1) := by decide +kernel
theorem dX1_init_1 : decode cX1_init 1 = .ok (.invokespecial 3, 3) := by decide +kernel
theorem dX1_init_4 : decode cX1_init 4 = .ok (.aload_n 0, 1) := by decide +kernel
theorem dX1_init_5 : decode cX1_init 5 = .ok (.sipush 512, 3) := by decide +kernel
theorem dX1_init_8 : decode cX1_init 8 = .ok (.newarray .int, 2) := by decide +kernel
theorem dX1_init_10 : decode cX1_init 10 = .ok (.putfield 9, 3) := by decide +kernel
theorem dX1_init_13 : decode cX1_init 13 = .ok (.aload_n 0, 1) := by decide +kernel
theorem dX1_init_14 : decode cX1_init 14 = .ok (.sipush 512, 3) := by decide +kernel
theorem dX1_init_17 : decode cX1_init 17 = .ok (.newarray .int, 2) := by decide +kernel
theorem dX1_init_19 : decode cX1_init 19 = .ok (.putfield 15, 3) := by decide +kernel
theorem dX1_init_22 : decode cX1_init 22 = .ok (.aload_n 0, 1) := by decide +kernel
theorem dX1_init_23 : decode cX1_init 23 = .ok (.iconst 0, 1) := by decide +kernel
theorem dX1_init_24 : decode cX1_init 24 = .ok (.putfield 18, 3) := by decide +kernel
theorem dX1_init_27 : decode cX1_init 27 = .ok (.return_, 1) := by decide +kernel
theorem dX2_init_0 : decode cX2_init 0 = .ok (.aload_n 0, 1) := by decide +kernel
theorem dX2_init_1 : decode cX2_init 1 = .ok (.invokespecial 3, 3) := by decide +kernel
theorem dX2_init_4 : decode cX2_init 4 = .ok (.aload_n 0, 1) := by decide +kernel
theorem dX2_init_5 : decode cX2_init 5 = .ok (.bipush 12, 2) := by decide +kernel
theorem dX2_init_7 : decode cX2_init 7 = .ok (.newarray .int, 2) := by decide +kernel
theorem dX2_init_9 : decode cX2_init 9 = .ok (.putfield 9, 3) := by decide +kernel
theorem dX2_init_12 : decode cX2_init 12 = .ok (.aload_n 0, 1) := by decide +kernel
theorem dX2_init_13 : decode cX2_init 13 = .ok (.sipush 264, 3) := by decide +kernel
theorem dX2_init_16 : decode cX2_init 16 = .ok (.newarray .int, 2) := by decide +kernel
theorem dX2_init_18 : decode cX2_init 18 = .ok (.putfield 15, 3) := by decide +kernel
theorem dX2_init_21 : decode cX2_init 21 = .ok (.aload_n 0, 1) := by decide +kernel
theorem dX2_init_22 : decode cX2_init 22 = .ok (.sipush 264, 3) := by decide +kernel
theorem dX2_init_25 : decode cX2_init 25 = .ok (.newarray .int, 2) := by decide +kernel
theorem dX2_init_27 : decode cX2_init 27 = .ok (.putfield 18, 3) := by decide +kernel
theorem dX2_init_30 : decode cX2_init 30 = .ok (.aload_n 0, 1) := by decide +kernel
theorem dX2_init_31 : decode cX2_init 31 = .ok (.sipush 264, 3) := by decide +kernel
theorem dX2_init_34 : decode cX2_init 34 = .ok (.newarray .int, 2) := by decide +kernel
theorem dX2_init_36 : decode cX2_init 36 = .ok (.putfield 21, 3) := by decide +kernel
theorem dX2_init_39 : decode cX2_init 39 = .ok (.aload_n 0, 1) := by decide +kernel
theorem dX2_init_40 : decode cX2_init 40 = .ok (.iconst 0, 1) := by decide +kernel
theorem dX2_init_41 : decode cX2_init 41 = .ok (.putfield 24, 3) := by decide +kernel
theorem dX2_init_44 : decode cX2_init 44 = .ok (.return_, 1) := by decide +kernel
theorem dX2_count_0 : decode cX2_count 0 = .ok (.aload_n 0, 1) := by decide +kernel
theorem dX2_count_1 : decode cX2_count 1 = .ok (.getfield 24, 3) := by decide +kernel
theorem dX2_count_4 : decode cX2_count 4 = .ok (.ireturn, 1) := by decide +kernel
set_option maxRecDepth 20000 in
theorem ggX2_add_X3_below : GoodIn wsX2_add wsX3_below := goodIn_r _ [5] (by decide +kernel) (by decide +kernel)
set_option maxRecDepth 20000 in
theorem gX2_add_X3_below_n28 : GoodIn wsX2_add (wsX3_below) := ggX2_add_X3_below
set_option maxRecDepth 20000 in
theorem ggX2_add_X2_place : GoodIn wsX2_add wsX2_place := goodIn_r _ [10, 11, 12, 13, 14, 15, 16, 17, 18, 9, 19, 20, 21, 22, 23, 24, 25, 26, 27] (by decide +kernel) (by decide +kernel)
set_option maxRecDepth 20000 in
theorem gX2_add_X2_place : GoodIn wsX2_add (wsV RX2 32 RX2 yX2_place wsX2_place) := goodIn_app (goodIn_of _ (by decide +kernel)) ggX2_add_X2_place
theorem dX2_add_0 : decode cX2_add 0 = .ok (.aload_n 0, 1) := by decide +kernel
theorem dX2_add_1 : decode cX2_add 1 = .ok (.getfield 24, 3) := by decide +kernel
theorem dX2_add_4 : decode cX2_add 4 = .ok (.istore 4, 2) := by decide +kernel
theorem dX2_add_6 : decode cX2_add 6 = .ok (.iload 4, 2) := by decide +kernel
theorem dX2_add_8 : decode cX2_add 8 = .ok (.bipush 12, 2) := by decide +kernel
theorem dX2_add_10 : decode cX2_add 10 = .ok (.invokestatic 28, 3) := by decide +kernel
theorem dX2_add_13 : decode cX2_add 13 = .ok (.ifCond .ne 5, 3) := by decide +kernel
theorem dX2_add_16 : decode cX2_add 16 = .ok (.iconst (-1), 1) := by decide +kernel
theorem dX2_add_17 : decode cX2_add 17 = .ok (.ireturn, 1) := by decide +kernel
theorem dX2_add_18 : decode cX2_add 18 = .ok (.aload_n 0, 1) := by decide +kernel
theorem dX2_add_19 : decode cX2_add 19 = .ok (.getfield 9, 3) := by decide +kernel
theorem dX2_add_22 : decode cX2_add 22 = .ok (.iload 4, 2) := by decide +kernel
theorem dX2_add_24 : decode cX2_add 24 = .ok (.iload_n 1, 1) := by decide +kernel
theorem dX2_add_25 : decode cX2_add 25 = .ok (.iastore, 1) := by decide +kernel
theorem dX2_add_26 : decode cX2_add 26 = .ok (.aload_n 0, 1) := by decide +kernel
theorem dX2_add_27 : decode cX2_add 27 = .ok (.iload 4, 2) := by decide +kernel
theorem dX2_add_29 : decode cX2_add 29 = .ok (.iconst 1, 1) := by decide +kernel
theorem dX2_add_30 : decode cX2_add 30 = .ok (.iadd, 1) := by decide +kernel
theorem dX2_add_31 : decode cX2_add 31 = .ok (.putfield 24, 3) := by decide +kernel
theorem dX2_add_34 : decode cX2_add 34 = .ok (.aload_n 0, 1) := by decide +kernel
theorem dX2_add_35 : decode cX2_add 35 = .ok (.iconst 0, 1) := by decide +kernel
theorem dX2_add_36 : decode cX2_add 36 = .ok (.iload 4, 2) := by decide +kernel
theorem dX2_add_38 : decode cX2_add 38 = .ok (.iload_n 2, 1) := by decide +kernel
theorem dX2_add_39 : decode cX2_add 39 = .ok (.iload_n 3, 1) := by decide +kernel
theorem dX2_add_40 : decode cX2_add 40 = .ok (.invokevirtual 32, 3) := by decide +kernel
theorem dX2_add_43 : decode cX2_add 43 = .ok (.iload 4, 2) := by decide +kernel
theorem dX2_add_45 : decode cX2_add 45 = .ok (.ireturn, 1) := by decide +kernel
set_option maxRecDepth 20000 in
theorem ggX2_sideOf_X3_below : GoodIn wsX2_sideOf wsX3_below := goodIn_r _ [4] (by decide +kernel) (by decide +kernel)
set_option maxRecDepth 20000 in
theorem gX2_sideOf_X3_below_n28 : GoodIn wsX2_sideOf (wsX3_below) := ggX2_sideOf_X3_below
theorem dX2_sideOf_0 : decode cX2_sideOf 0 = .ok (.iload_n 1, 1) := by decide +kernel
theorem dX2_sideOf_1 : decode cX2_sideOf 1 = .ok (.bipush 12, 2) := by decide +kernel
theorem dX2_sideOf_3 : decode cX2_sideOf 3 = .ok (.invokestatic 28, 3) := by decide +kernel
theorem dX2_sideOf_6 : decode cX2_sideOf 6 = .ok (.ifCond .eq 12, 3) := by decide +kernel
theorem dX2_sideOf_9 : decode cX2_sideOf 9 = .ok (.aload_n 0, 1) := by decide +kernel
theorem dX2_sideOf_10 : decode cX2_sideOf 10 = .ok (.getfield 9, 3) := by decide +kernel
theorem dX2_sideOf_13 : decode cX2_sideOf 13 = .ok (.iload_n 1, 1) := by decide +kernel
theorem dX2_sideOf_14 : decode cX2_sideOf 14 = .ok (.iaload, 1) := by decide +kernel
theorem dX2_sideOf_15 : decode cX2_sideOf 15 = .ok (.goto 4, 3) := by decide +kernel
theorem dX2_sideOf_18 : decode cX2_sideOf 18 = .ok (.iconst (-1), 1) := by decide +kernel
theorem dX2_sideOf_19 : decode cX2_sideOf 19 = .ok (.ireturn, 1) := by decide +kernel
set_option maxRecDepth 20000 in
theorem ggX2_townAt_X2_isKept : GoodIn wsX2_townAt wsX2_isKept := goodIn_r _ [5] (by decide +kernel) (by decide +kernel)
set_option maxRecDepth 20000 in
theorem gX2_townAt_X2_isKept : GoodIn wsX2_townAt (va_wsS RX2 36 yX2_isKept wsX2_isKept) := goodIn_app (goodIn_of _ (by decide +kernel)) ggX2_townAt_X2_isKept
set_option maxRecDepth 20000 in
theorem ggX2_townAt_X2_index : GoodIn wsX2_townAt wsX2_index := goodIn_r _ [8] (by decide +kernel) (by decide +kernel)
set_option maxRecDepth 20000 in
theorem gX2_townAt_X2_index : GoodIn wsX2_townAt (va_wsS RX2 39 yX2_index wsX2_index) := goodIn_app (goodIn_of _ (by decide +kernel)) ggX2_townAt_X2_index
theorem dX2_townAt_0 : decode cX2_townAt 0 = .ok (.iload_n 1, 1) := by decide +kernel
theorem dX2_townAt_1 : decode cX2_townAt 1 = .ok (.iload_n 2, 1) := by decide +kernel
theorem dX2_townAt_2 : decode cX2_townAt 2 = .ok (.invokestatic 36, 3) := by decide +kernel
theorem dX2_townAt_5 : decode cX2_townAt 5 = .ok (.ifCond .eq 16, 3) := by decide +kernel
theorem dX2_townAt_8 : decode cX2_townAt 8 = .ok (.aload_n 0, 1) := by decide +kernel
theorem dX2_townAt_9 : decode cX2_townAt 9 = .ok (.getfield 15, 3) := by decide +kernel
theorem dX2_townAt_12 : decode cX2_townAt 12 = .ok (.iload_n 1, 1) := by decide +kernel
theorem dX2_townAt_13 : decode cX2_townAt 13 = .ok (.iload_n 2, 1) := by decide +kernel
theorem dX2_townAt_14 : decode cX2_townAt 14 = .ok (.invokestatic 39, 3) := by decide +kernel
theorem dX2_townAt_17 : decode cX2_townAt 17 = .ok (.iaload, 1) := by decide +kernel
theorem dX2_townAt_18 : decode cX2_townAt 18 = .ok (.goto 4, 3) := by decide +kernel
theorem dX2_townAt_21 : decode cX2_townAt 21 = .ok (.iconst (-1), 1) := by decide +kernel
theorem dX2_townAt_22 : decode cX2_townAt 22 = .ok (.ireturn, 1) := by decide +kernel
set_option maxRecDepth 20000 in
theorem ggX2_strengthAt_X2_isKept : GoodIn wsX2_strengthAt wsX2_isKept := goodIn_r _ [5] (by decide +kernel) (by decide +kernel)
set_option maxRecDepth 20000 in
theorem gX2_strengthAt_X2_isKept : GoodIn wsX2_strengthAt (va_wsS RX2 36 yX2_isKept wsX2_isKept) := goodIn_app (goodIn_of _ (by decide +kernel)) ggX2_strengthAt_X2_isKept
set_option maxRecDepth 20000 in
theorem ggX2_strengthAt_X2_index : GoodIn wsX2_strengthAt wsX2_index := goodIn_r _ [8] (by decide +kernel) (by decide +kernel)
set_option maxRecDepth 20000 in
theorem gX2_strengthAt_X2_index : GoodIn wsX2_strengthAt (va_wsS RX2 39 yX2_index wsX2_index) := goodIn_app (goodIn_of _ (by decide +kernel)) ggX2_strengthAt_X2_index
theorem dX2_strengthAt_0 : decode cX2_strengthAt 0 = .ok (.iload_n 1, 1) := by decide +kernel
theorem dX2_strengthAt_1 : decode cX2_strengthAt 1 = .ok (.iload_n 2, 1) := by decide +kernel
theorem dX2_strengthAt_2 : decode cX2_strengthAt 2 = .ok (.invokestatic 36, 3) := by decide +kernel
theorem dX2_strengthAt_5 : decode cX2_strengthAt 5 = .ok (.ifCond .eq 16, 3) := by decide +kernel
theorem dX2_strengthAt_8 : decode cX2_strengthAt 8 = .ok (.aload_n 0, 1) := by decide +kernel
theorem dX2_strengthAt_9 : decode cX2_strengthAt 9 = .ok (.getfield 18, 3) := by decide +kernel
theorem dX2_strengthAt_12 : decode cX2_strengthAt 12 = .ok (.iload_n 1, 1) := by decide +kernel
theorem dX2_strengthAt_13 : decode cX2_strengthAt 13 = .ok (.iload_n 2, 1) := by decide +kernel
theorem dX2_strengthAt_14 : decode cX2_strengthAt 14 = .ok (.invokestatic 39, 3) := by decide +kernel
theorem dX2_strengthAt_17 : decode cX2_strengthAt 17 = .ok (.iaload, 1) := by decide +kernel
theorem dX2_strengthAt_18 : decode cX2_strengthAt 18 = .ok (.goto 4, 3) := by decide +kernel
theorem dX2_strengthAt_21 : decode cX2_strengthAt 21 = .ok (.iconst 0, 1) := by decide +kernel
theorem dX2_strengthAt_22 : decode cX2_strengthAt 22 = .ok (.ireturn, 1) := by decide +kernel
set_option maxRecDepth 20000 in
theorem ggX2_orderFor_X2_isKept : GoodIn wsX2_orderFor wsX2_isKept := goodIn_r _ [5] (by decide +kernel) (by decide +kernel)
set_option maxRecDepth 20000 in
theorem gX2_orderFor_X2_isKept : GoodIn wsX2_orderFor (va_wsS RX2 36 yX2_isKept wsX2_isKept) := goodIn_app (goodIn_of _ (by decide +kernel)) ggX2_orderFor_X2_isKept
set_option maxRecDepth 20000 in
theorem ggX2_orderFor_X2_index : GoodIn wsX2_orderFor wsX2_index := goodIn_r _ [8] (by decide +kernel) (by decide +kernel)
set_option maxRecDepth 20000 in
theorem gX2_orderFor_X2_index : GoodIn wsX2_orderFor (va_wsS RX2 39 yX2_index wsX2_index) := goodIn_app (goodIn_of _ (by decide +kernel)) ggX2_orderFor_X2_index
theorem dX2_orderFor_0 : decode cX2_orderFor 0 = .ok (.iload_n 1, 1) := by decide +kernel
theorem dX2_orderFor_1 : decode cX2_orderFor 1 = .ok (.iload_n 2, 1) := by decide +kernel
theorem dX2_orderFor_2 : decode cX2_orderFor 2 = .ok (.invokestatic 36, 3) := by decide +kernel
theorem dX2_orderFor_5 : decode cX2_orderFor 5 = .ok (.ifCond .eq 18, 3) := by decide +kernel
theorem dX2_orderFor_8 : decode cX2_orderFor 8 = .ok (.aload_n 0, 1) := by decide +kernel
theorem dX2_orderFor_9 : decode cX2_orderFor 9 = .ok (.getfield 21, 3) := by decide +kernel
theorem dX2_orderFor_12 : decode cX2_orderFor 12 = .ok (.iload_n 1, 1) := by decide +kernel
theorem dX2_orderFor_13 : decode cX2_orderFor 13 = .ok (.iload_n 2, 1) := by decide +kernel
theorem dX2_orderFor_14 : decode cX2_orderFor 14 = .ok (.invokestatic 39, 3) := by decide +kernel
theorem dX2_orderFor_17 : decode cX2_orderFor 17 = .ok (.iaload, 1) := by decide +kernel
theorem dX2_orderFor_18 : decode cX2_orderFor 18 = .ok (.iconst 1, 1) := by decide +kernel
theorem dX2_orderFor_19 : decode cX2_orderFor 19 = .ok (.isub, 1) := by decide +kernel
theorem dX2_orderFor_20 : decode cX2_orderFor 20 = .ok (.goto 4, 3) := by decide +kernel
theorem dX2_orderFor_23 : decode cX2_orderFor 23 = .ok (.iconst (-1), 1) := by decide +kernel
theorem dX2_orderFor_24 : decode cX2_orderFor 24 = .ok (.ireturn, 1) := by decide +kernel
set_option maxRecDepth 20000 in
theorem ggX2_giveOrder_X2_isKept : GoodIn wsX2_giveOrder wsX2_isKept := goodIn_r _ [5] (by decide +kernel) (by decide +kernel)
set_option maxRecDepth 20000 in
theorem gX2_giveOrder_X2_isKept : GoodIn wsX2_giveOrder (va_wsS RX2 36 yX2_isKept wsX2_isKept) := goodIn_app (goodIn_of _ (by decide +kernel)) ggX2_giveOrder_X2_isKept
set_option maxRecDepth 20000 in
theorem ggX2_giveOrder_X2_index : GoodIn wsX2_giveOrder wsX2_index := goodIn_r _ [8] (by decide +kernel) (by decide +kernel)
set_option maxRecDepth 20000 in
theorem gX2_giveOrder_X2_index : GoodIn wsX2_giveOrder (va_wsS RX2 39 yX2_index wsX2_index) := goodIn_app (goodIn_of _ (by decide +kernel)) ggX2_giveOrder_X2_index
theorem dX2_giveOrder_0 : decode cX2_giveOrder 0 = .ok (.iload_n 1, 1) := by decide +kernel
theorem dX2_giveOrder_1 : decode cX2_giveOrder 1 = .ok (.iload_n 2, 1) := by decide +kernel
theorem dX2_giveOrder_2 : decode cX2_giveOrder 2 = .ok (.invokestatic 36, 3) := by decide +kernel
theorem dX2_giveOrder_5 : decode cX2_giveOrder 5 = .ok (.ifCond .eq 16, 3) := by decide +kernel
theorem dX2_giveOrder_8 : decode cX2_giveOrder 8 = .ok (.aload_n 0, 1) := by decide +kernel
theorem dX2_giveOrder_9 : decode cX2_giveOrder 9 = .ok (.getfield 21, 3) := by decide +kernel
theorem dX2_giveOrder_12 : decode cX2_giveOrder 12 = .ok (.iload_n 1, 1) := by decide +kernel
theorem dX2_giveOrder_13 : decode cX2_giveOrder 13 = .ok (.iload_n 2, 1) := by decide +kernel
theorem dX2_giveOrder_14 : decode cX2_giveOrder 14 = .ok (.invokestatic 39, 3) := by decide +kernel
theorem dX2_giveOrder_17 : decode cX2_giveOrder 17 = .ok (.iload_n 3, 1) := by decide +kernel
theorem dX2_giveOrder_18 : decode cX2_giveOrder 18 = .ok (.iconst 1, 1) := by decide +kernel
theorem dX2_giveOrder_19 : decode cX2_giveOrder 19 = .ok (.iadd, 1) := by decide +kernel
theorem dX2_giveOrder_20 : decode cX2_giveOrder 20 = .ok (.iastore, 1) := by decide +kernel
theorem dX2_giveOrder_21 : decode cX2_giveOrder 21 = .ok (.return_, 1) := by decide +kernel
set_option maxRecDepth 20000 in
theorem ggX2_place_X2_isKept : GoodIn wsX2_place wsX2_isKept := goodIn_r _ [10] (by decide +kernel) (by decide +kernel)
set_option maxRecDepth 20000 in
theorem gX2_place_X2_isKept : GoodIn wsX2_place (va_wsS RX2 36 yX2_isKept wsX2_isKept) := goodIn_app (goodIn_of _ (by decide +kernel)) ggX2_place_X2_isKept
set_option maxRecDepth 20000 in
theorem ggX2_place_X2_index : GoodIn wsX2_place wsX2_index := goodIn_r _ [13] (by decide +kernel) (by decide +kernel)
set_option maxRecDepth 20000 in
theorem gX2_place_X2_index : GoodIn wsX2_place (va_wsS RX2 39 yX2_index wsX2_index) := goodIn_app (goodIn_of _ (by decide +kernel)) ggX2_place_X2_index
theorem dX2_place_0 : decode cX2_place 0 = .ok (.iload_n 1, 1) := by decide +kernel
theorem dX2_place_1 : decode cX2_place 1 = .ok (.iload_n 2, 1) := by decide +kernel
theorem dX2_place_2 : decode cX2_place 2 = .ok (.invokestatic 36, 3) := by decide +kernel
theorem dX2_place_5 : decode cX2_place 5 = .ok (.ifCond .eq 39, 3) := by decide +kernel
theorem dX2_place_8 : decode cX2_place 8 = .ok (.aload_n 0, 1) := by decide +kernel
theorem dX2_place_9 : decode cX2_place 9 = .ok (.getfield 15, 3) := by decide +kernel
theorem dX2_place_12 : decode cX2_place 12 = .ok (.iload_n 1, 1) := by decide +kernel
theorem dX2_place_13 : decode cX2_place 13 = .ok (.iload_n 2, 1) := by decide +kernel
theorem dX2_place_14 : decode cX2_place 14 = .ok (.invokestatic 39, 3) := by decide +kernel
theorem dX2_place_17 : decode cX2_place 17 = .ok (.iload 4, 2) := by decide +kernel
theorem dX2_place_19 : decode cX2_place 19 = .ok (.ifCond .le 7, 3) := by decide +kernel
theorem dX2_place_22 : decode cX2_place 22 = .ok (.iload_n 3, 1) := by decide +kernel
theorem dX2_place_23 : decode cX2_place 23 = .ok (.goto 4, 3) := by decide +kernel
theorem dX2_place_26 : decode cX2_place 26 = .ok (.iconst (-1), 1) := by decide +kernel
theorem dX2_place_27 : decode cX2_place 27 = .ok (.iastore, 1) := by decide +kernel
theorem dX2_place_28 : decode cX2_place 28 = .ok (.aload_n 0, 1) := by decide +kernel
theorem dX2_place_29 : decode cX2_place 29 = .ok (.getfield 18, 3) := by decide +kernel
theorem dX2_place_32 : decode cX2_place 32 = .ok (.iload_n 1, 1) := by decide +kernel
theorem dX2_place_33 : decode cX2_place 33 = .ok (.iload_n 2, 1) := by decide +kernel
theorem dX2_place_34 : decode cX2_place 34 = .ok (.invokestatic 39, 3) := by decide +kernel
theorem dX2_place_37 : decode cX2_place 37 = .ok (.iload 4, 2) := by decide +kernel
theorem dX2_place_39 : decode cX2_place 39 = .ok (.iconst 0, 1) := by decide +kernel
theorem dX2_place_40 : decode cX2_place 40 = .ok (.invokestatic 43, 3) := by decide +kernel
theorem dX2_place_43 : decode cX2_place 43 = .ok (.iastore, 1) := by decide +kernel
theorem dX2_place_44 : decode cX2_place 44 = .ok (.return_, 1) := by decide +kernel
set_option maxRecDepth 20000 in
theorem ggX2_livingAt_X2_townAt : GoodIn wsX2_livingAt wsX2_townAt := goodIn_r _ [6, 7, 8, 9, 5, 10, 11, 12, 13, 14, 15, 16, 17, 18] (by decide +kernel) (by decide +kernel)
set_option maxRecDepth 20000 in
theorem gX2_livingAt_X2_townAt : GoodIn wsX2_livingAt (wsV RX2 48 RX2 yX2_townAt wsX2_townAt) := goodIn_app (goodIn_of _ (by decide +kernel)) ggX2_livingAt_X2_townAt
theorem dX2_livingAt_0 : decode cX2_livingAt 0 = .ok (.iconst 0, 1) := by decide +kernel
theorem dX2_livingAt_1 : decode cX2_livingAt 1 = .ok (.istore_n 2, 1) := by decide +kernel
theorem dX2_livingAt_2 : decode cX2_livingAt 2 = .ok (.iconst 0, 1) := by decide +kernel
theorem dX2_livingAt_3 : decode cX2_livingAt 3 = .ok (.istore_n 3, 1) := by decide +kernel
theorem dX2_livingAt_4 : decode cX2_livingAt 4 = .ok (.iload_n 3, 1) := by decide +kernel
theorem dX2_livingAt_5 : decode cX2_livingAt 5 = .ok (.aload_n 0, 1) := by decide +kernel
theorem dX2_livingAt_6 : decode cX2_livingAt 6 = .ok (.getfield 24, 3) := by decide +kernel
theorem dX2_livingAt_9 : decode cX2_livingAt 9 = .ok (.if_icmp .ge 22, 3) := by decide +kernel
theorem dX2_livingAt_12 : decode cX2_livingAt 12 = .ok (.aload_n 0, 1) := by decide +kernel
theorem dX2_livingAt_13 : decode cX2_livingAt 13 = .ok (.iload_n 1, 1) := by decide +kernel
theorem dX2_livingAt_14 : decode cX2_livingAt 14 = .ok (.iload_n 3, 1) := by decide +kernel
theorem dX2_livingAt_15 : decode cX2_livingAt 15 = .ok (.invokevirtual 48, 3) := by decide +kernel
theorem dX2_livingAt_18 : decode cX2_livingAt 18 = .ok (.iconst (-1), 1) := by decide +kernel
theorem dX2_livingAt_19 : decode cX2_livingAt 19 = .ok (.if_icmp .eq 6, 3) := by decide +kernel
theorem dX2_livingAt_22 : decode cX2_livingAt 22 = .ok (.iinc 2 1, 3) := by decide +kernel
theorem dX2_livingAt_25 : decode cX2_livingAt 25 = .ok (.iinc 3 1, 3) := by decide +kernel
theorem dX2_livingAt_28 : decode cX2_livingAt 28 = .ok (.goto (-24), 3) := by decide +kernel
theorem dX2_livingAt_31 : decode cX2_livingAt 31 = .ok (.iload_n 2, 1) := by decide +kernel
theorem dX2_livingAt_32 : decode cX2_livingAt 32 = .ok (.ireturn, 1) := by decide +kernel
set_option maxRecDepth 20000 in
theorem ggX2_townsHeld_X2_townAt : GoodIn wsX2_townsHeld wsX2_townAt := goodIn_r _ [6, 7, 8, 9, 5, 10, 11, 12, 13, 24, 25, 26, 27, 28] (by decide +kernel) (by decide +kernel)
set_option maxRecDepth 20000 in
theorem gX2_townsHeld_X2_townAt : GoodIn wsX2_townsHeld (wsV RX2 48 RX2 yX2_townAt wsX2_townAt) := goodIn_app (goodIn_of _ (by decide +kernel)) ggX2_townsHeld_X2_townAt
set_option maxRecDepth 20000 in
theorem ggX2_townsHeld_X2_sideOf : GoodIn wsX2_townsHeld wsX2_sideOf := goodIn_r _ [17, 18, 19, 20, 21, 24, 25, 26, 27, 28] (by decide +kernel) (by decide +kernel)
set_option maxRecDepth 20000 in
theorem gX2_townsHeld_X2_sideOf : GoodIn wsX2_townsHeld (wsV RX2 54 RX2 yX2_sideOf wsX2_sideOf) := goodIn_app (goodIn_of _ (by decide +kernel)) ggX2_townsHeld_X2_sideOf
set_option maxRecDepth 20000 in
theorem ggX2_townsHeld_X3_bit : GoodIn wsX2_townsHeld wsX3_bit := goodIn_r _ [23] (by decide +kernel) (by decide +kernel)
set_option maxRecDepth 20000 in
theorem gX2_townsHeld_X3_bit_n58 : GoodIn wsX2_townsHeld (wsX3_bit) := ggX2_townsHeld_X3_bit
theorem dX2_townsHeld_0 : decode cX2_townsHeld 0 = .ok (.iconst 0, 1) := by decide +kernel
theorem dX2_townsHeld_1 : decode cX2_townsHeld 1 = .ok (.istore_n 3, 1) := by decide +kernel
theorem dX2_townsHeld_2 : decode cX2_townsHeld 2 = .ok (.iconst 0, 1) := by decide +kernel
theorem dX2_townsHeld_3 : decode cX2_townsHeld 3 = .ok (.istore 4, 2) := by decide +kernel
theorem dX2_townsHeld_5 : decode cX2_townsHeld 5 = .ok (.iload 4, 2) := by decide +kernel
theorem dX2_townsHeld_7 : decode cX2_townsHeld 7 = .ok (.aload_n 0, 1) := by decide +kernel
theorem dX2_townsHeld_8 : decode cX2_townsHeld 8 = .ok (.getfield 24, 3) := by decide +kernel
theorem dX2_townsHeld_11 : decode cX2_townsHeld 11 = .ok (.if_icmp .ge 42, 3) := by decide +kernel
theorem dX2_townsHeld_14 : decode cX2_townsHeld 14 = .ok (.aload_n 0, 1) := by decide +kernel
theorem dX2_townsHeld_15 : decode cX2_townsHeld 15 = .ok (.iload_n 1, 1) := by decide +kernel
theorem dX2_townsHeld_16 : decode cX2_townsHeld 16 = .ok (.iload 4, 2) := by decide +kernel
theorem dX2_townsHeld_18 : decode cX2_townsHeld 18 = .ok (.invokevirtual 48, 3) := by decide +kernel
theorem dX2_townsHeld_21 : decode cX2_townsHeld 21 = .ok (.istore 5, 2) := by decide +kernel
theorem dX2_townsHeld_23 : decode cX2_townsHeld 23 = .ok (.aload_n 0, 1) := by decide +kernel
theorem dX2_townsHeld_24 : decode cX2_townsHeld 24 = .ok (.iload 4, 2) := by decide +kernel
theorem dX2_townsHeld_26 : decode cX2_townsHeld 26 = .ok (.invokevirtual 54, 3) := by decide +kernel
theorem dX2_townsHeld_29 : decode cX2_townsHeld 29 = .ok (.iload_n 2, 1) := by decide +kernel
theorem dX2_townsHeld_30 : decode cX2_townsHeld 30 = .ok (.if_icmp .ne 17, 3) := by decide +kernel
theorem dX2_townsHeld_33 : decode cX2_townsHeld 33 = .ok (.iload 5, 2) := by decide +kernel
theorem dX2_townsHeld_35 : decode cX2_townsHeld 35 = .ok (.iconst (-1), 1) := by decide +kernel
theorem dX2_townsHeld_36 : decode cX2_townsHeld 36 = .ok (.if_icmp .eq 11, 3) := by decide +kernel
theorem dX2_townsHeld_39 : decode cX2_townsHeld 39 = .ok (.iload_n 3, 1) := by decide +kernel
theorem dX2_townsHeld_40 : decode cX2_townsHeld 40 = .ok (.iload 5, 2) := by decide +kernel
theorem dX2_townsHeld_42 : decode cX2_townsHeld 42 = .ok (.invokestatic 58, 3) := by decide +kernel
theorem dX2_townsHeld_45 : decode cX2_townsHeld 45 = .ok (.ior, 1) := by decide +kernel
theorem dX2_townsHeld_46 : decode cX2_townsHeld 46 = .ok (.istore_n 3, 1) := by decide +kernel
theorem dX2_townsHeld_47 : decode cX2_townsHeld 47 = .ok (.iinc 4 1, 3) := by decide +kernel
theorem dX2_townsHeld_50 : decode cX2_townsHeld 50 = .ok (.goto (-45), 3) := by decide +kernel
theorem dX2_townsHeld_53 : decode cX2_townsHeld 53 = .ok (.iload_n 3, 1) := by decide +kernel
theorem dX2_townsHeld_54 : decode cX2_townsHeld 54 = .ok (.ireturn, 1) := by decide +kernel
theorem dX2_isKept_0 : decode cX2_isKept 0 = .ok (.iload_n 0, 1) := by decide +kernel
theorem dX2_isKept_1 : decode cX2_isKept 1 = .ok (.ifCond .lt 23, 3) := by decide +kernel
theorem dX2_isKept_4 : decode cX2_isKept 4 = .ok (.iload_n 0, 1) := by decide +kernel
theorem dX2_isKept_5 : decode cX2_isKept 5 = .ok (.bipush 22, 2) := by decide +kernel
theorem dX2_isKept_7 : decode cX2_isKept 7 = .ok (.if_icmp .ge 17, 3) := by decide +kernel
theorem dX2_isKept_10 : decode cX2_isKept 10 = .ok (.iload_n 1, 1) := by decide +kernel
theorem dX2_isKept_11 : decode cX2_isKept 11 = .ok (.ifCond .lt 13, 3) := by decide +kernel
theorem dX2_isKept_14 : decode cX2_isKept 14 = .ok (.iload_n 1, 1) := by decide +kernel
theorem dX2_isKept_15 : decode cX2_isKept 15 = .ok (.bipush 12, 2) := by decide +kernel
theorem dX2_isKept_17 : decode cX2_isKept 17 = .ok (.if_icmp .ge 7, 3) := by decide +kernel
theorem dX2_isKept_20 : decode cX2_isKept 20 = .ok (.iconst 1, 1) := by decide +kernel
theorem dX2_isKept_21 : decode cX2_isKept 21 = .ok (.goto 4, 3) := by decide +kernel
theorem dX2_isKept_24 : decode cX2_isKept 24 = .ok (.iconst 0, 1) := by decide +kernel
theorem dX2_isKept_25 : decode cX2_isKept 25 = .ok (.ireturn, 1) := by decide +kernel
theorem dX2_index_0 : decode cX2_index 0 = .ok (.iload_n 0, 1) := by decide +kernel
theorem dX2_index_1 : decode cX2_index 1 = .ok (.bipush 12, 2) := by decide +kernel
theorem dX2_index_3 : decode cX2_index 3 = .ok (.imul, 1) := by decide +kernel
theorem dX2_index_4 : decode cX2_index 4 = .ok (.iload_n 1, 1) := by decide +kernel
theorem dX2_index_5 : decode cX2_index 5 = .ok (.iadd, 1) := by decide +kernel
theorem dX2_index_6 : decode cX2_index 6 = .ok (.ireturn, 1) := by decide +kernel
end
section
set_option maxRecDepth 20000 in
theorem ggX3_init_X0_init : GoodIn wsX3_init wsX0_init := goodIn_r _ [22, 23, 2, 3, 8, 24, 25, 26, 41, 42, 43] (by decide +kernel) (by decide +kernel)
set_option maxRecDepth 20000 in
theorem gX3_init_X0_init_n11 : GoodIn wsX3_init (wsX0_init) := ggX3_init_X0_init
set_option maxRecDepth 20000 in
theorem ggX3_init_X2_init : GoodIn wsX3_init wsX2_init := goodIn_r _ [28, 29, 2, 3, 8, 30, 31, 32, 33, 34, 51, 52, 53, 54, 55] (by decide +kernel) (by decide +kernel)
set_option maxRecDepth 20000 in
theorem gX3_init_X2_init_n22 : GoodIn wsX3_init (wsX2_init) := ggX3_init_X2_init
set_option maxRecDepth 20000 in
theorem ggX3_init_X1_init : GoodIn wsX3_init wsX1_init := goodIn_r _ [36, 37, 2, 3, 8, 38, 39, 40, 56, 57, 58] (by decide +kernel) (by decide +kernel)
set_option maxRecDepth 20000 in
theorem gX3_init_X1_init_n35 : GoodIn wsX3_init (wsX1_init) := ggX3_init_X1_init
theorem dX3_init_0 : decode cX3_init 0 = .ok (.aload_n 0, 1) := by decide +kernel
theorem dX3_init_1 : decode cX3_init 1 = .ok (.invokespecial 3, 3) := by decide +kernel
theorem dX3_init_4 : decode cX3_init 4 = .ok (.aload_n 0, 1) := by decide +kernel
theorem dX3_init_5 : decode cX3_init 5 = .ok (.new 9, 3) := by decide +kernel
theorem dX3_init_8 : decode cX3_init 8 = .ok (.dup, 1) := by decide +kernel
theorem dX3_init_9 : decode cX3_init 9 = .ok (.invokespecial 11, 3) := by decide +kernel
theorem dX3_init_12 : decode cX3_init 12 = .ok (.putfield 12, 3) := by decide +kernel
theorem dX3_init_15 : decode cX3_init 15 = .ok (.aload_n 0, 1) := by decide +kernel
theorem dX3_init_16 : decode cX3_init 16 = .ok (.iconst 2, 1) := by decide +kernel
theorem dX3_init_17 : decode cX3_init 17 = .ok (.newarray .int, 2) := by decide +kernel
theorem dX3_init_19 : decode cX3_init 19 = .ok (.putfield 16, 3) := by decide +kernel
theorem dX3_init_22 : decode cX3_init 22 = .ok (.aload_n 0, 1) := by decide +kernel
theorem dX3_init_23 : decode cX3_init 23 = .ok (.new 20, 3) := by decide +kernel
theorem dX3_init_26 : decode cX3_init 26 = .ok (.dup, 1) := by decide +kernel
theorem dX3_init_27 : decode cX3_init 27 = .ok (.invokespecial 22, 3) := by decide +kernel
theorem dX3_init_30 : decode cX3_init 30 = .ok (.putfield 23, 3) := by decide +kernel
theorem dX3_init_33 : decode cX3_init 33 = .ok (.aload_n 0, 1) := by decide +kernel
theorem dX3_init_34 : decode cX3_init 34 = .ok (.bipush 20, 2) := by decide +kernel
theorem dX3_init_36 : decode cX3_init 36 = .ok (.newarray .int, 2) := by decide +kernel
theorem dX3_init_38 : decode cX3_init 38 = .ok (.putfield 27, 3) := by decide +kernel
theorem dX3_init_41 : decode cX3_init 41 = .ok (.aload_n 0, 1) := by decide +kernel
theorem dX3_init_42 : decode cX3_init 42 = .ok (.bipush 20, 2) := by decide +kernel
theorem dX3_init_44 : decode cX3_init 44 = .ok (.newarray .int, 2) := by decide +kernel
theorem dX3_init_46 : decode cX3_init 46 = .ok (.putfield 30, 3) := by decide +kernel
theorem dX3_init_49 : decode cX3_init 49 = .ok (.aload_n 0, 1) := by decide +kernel
theorem dX3_init_50 : decode cX3_init 50 = .ok (.new 33, 3) := by decide +kernel
theorem dX3_init_53 : decode cX3_init 53 = .ok (.dup, 1) := by decide +kernel
theorem dX3_init_54 : decode cX3_init 54 = .ok (.invokespecial 35, 3) := by decide +kernel
theorem dX3_init_57 : decode cX3_init 57 = .ok (.putfield 36, 3) := by decide +kernel
theorem dX3_init_60 : decode cX3_init 60 = .ok (.aload_n 0, 1) := by decide +kernel
theorem dX3_init_61 : decode cX3_init 61 = .ok (.iconst 0, 1) := by decide +kernel
theorem dX3_init_62 : decode cX3_init 62 = .ok (.putfield 40, 3) := by decide +kernel
theorem dX3_init_65 : decode cX3_init 65 = .ok (.aload_n 0, 1) := by decide +kernel
theorem dX3_init_66 : decode cX3_init 66 = .ok (.getfield 16, 3) := by decide +kernel
theorem dX3_init_69 : decode cX3_init 69 = .ok (.iconst 1, 1) := by decide +kernel
theorem dX3_init_70 : decode cX3_init 70 = .ok (.bipush 9, 2) := by decide +kernel
theorem dX3_init_72 : decode cX3_init 72 = .ok (.iastore, 1) := by decide +kernel
theorem dX3_init_73 : decode cX3_init 73 = .ok (.return_, 1) := by decide +kernel
set_option maxRecDepth 20000 in
theorem ggX3_addRoad_X3_below : GoodIn wsX3_addRoad wsX3_below := goodIn_r _ [10] (by decide +kernel) (by decide +kernel)
set_option maxRecDepth 20000 in
theorem gX3_addRoad_X3_below : GoodIn wsX3_addRoad (va_wsS RX3 44 yX3_below wsX3_below) := goodIn_app (goodIn_of _ (by decide +kernel)) ggX3_addRoad_X3_below
set_option maxRecDepth 20000 in
theorem ggX3_addRoad_X0_joins : GoodIn wsX3_addRoad wsX0_joins := goodIn_r _ [15, 16, 17, 18, 14, 19, 20, 21, 8, 9, 10, 22, 23, 24, 25, 26, 43, 44, 45] (by decide +kernel) (by decide +kernel)
set_option maxRecDepth 20000 in
theorem gX3_addRoad_X0_joins : GoodIn wsX3_addRoad (wsV RX3 55 RX0 yX0_joins wsX0_joins) := goodIn_app (goodIn_of _ (by decide +kernel)) ggX3_addRoad_X0_joins
set_option maxRecDepth 20000 in
theorem ggX3_addRoad_X0_roads : GoodIn wsX3_addRoad wsX0_roads := goodIn_r _ [30, 31, 43, 44, 45] (by decide +kernel) (by decide +kernel)
set_option maxRecDepth 20000 in
theorem gX3_addRoad_X0_roads : GoodIn wsX3_addRoad (wsV RX3 58 RX0 yX0_roads wsX0_roads) := goodIn_app (goodIn_of _ (by decide +kernel)) ggX3_addRoad_X0_roads
set_option maxRecDepth 20000 in
theorem ggX3_addRoad_X0_join : GoodIn wsX3_addRoad wsX0_join := goodIn_r _ [35, 20, 21, 31, 8, 9, 10, 25, 26, 43, 44, 45] (by decide +kernel) (by decide +kernel)
set_option maxRecDepth 20000 in
theorem gX3_addRoad_X0_join : GoodIn wsX3_addRoad (wsV RX3 67 RX0 yX0_join wsX0_join) := goodIn_app (goodIn_of _ (by decide +kernel)) ggX3_addRoad_X0_join
theorem dX3_addRoad_0 : decode cX3_addRoad 0 = .ok (.iload_n 1, 1) := by decide +kernel
theorem dX3_addRoad_1 : decode cX3_addRoad 1 = .ok (.bipush 10, 2) := by decide +kernel
theorem dX3_addRoad_3 : decode cX3_addRoad 3 = .ok (.invokestatic 44, 3) := by decide +kernel
theorem dX3_addRoad_6 : decode cX3_addRoad 6 = .ok (.ifCond .eq 17, 3) := by decide +kernel
theorem dX3_addRoad_9 : decode cX3_addRoad 9 = .ok (.iload_n 2, 1) := by decide +kernel
theorem dX3_addRoad_10 : decode cX3_addRoad 10 = .ok (.bipush 10, 2) := by decide +kernel
theorem dX3_addRoad_12 : decode cX3_addRoad 12 = .ok (.invokestatic 44, 3) := by decide +kernel
theorem dX3_addRoad_15 : decode cX3_addRoad 15 = .ok (.ifCond .eq 8, 3) := by decide +kernel
theorem dX3_addRoad_18 : decode cX3_addRoad 18 = .ok (.iload_n 1, 1) := by decide +kernel
theorem dX3_addRoad_19 : decode cX3_addRoad 19 = .ok (.iload_n 2, 1) := by decide +kernel
theorem dX3_addRoad_20 : decode cX3_addRoad 20 = .ok (.if_icmp .ne 13, 3) := by decide +kernel
theorem dX3_addRoad_23 : decode cX3_addRoad 23 = .ok (.new 48, 3) := by decide +kernel
theorem dX3_addRoad_26 : decode cX3_addRoad 26 = .ok (.dup, 1) := by decide +kernel
theorem dX3_addRoad_27 : decode cX3_addRoad 27 = .ok (.ldc 50, 2) := by decide +kernel
theorem dX3_addRoad_29 : decode cX3_addRoad 29 = .ok (.invokespecial 52, 3) := by decide +kernel
theorem dX3_addRoad_32 : decode cX3_addRoad 32 = .ok (.athrow, 1) := by decide +kernel
theorem dX3_addRoad_33 : decode cX3_addRoad 33 = .ok (.aload_n 0, 1) := by decide +kernel
theorem dX3_addRoad_34 : decode cX3_addRoad 34 = .ok (.getfield 40, 3) := by decide +kernel
theorem dX3_addRoad_37 : decode cX3_addRoad 37 = .ok (.ifCond .gt 27, 3) := by decide +kernel
theorem dX3_addRoad_40 : decode cX3_addRoad 40 = .ok (.aload_n 0, 1) := by decide +kernel
theorem dX3_addRoad_41 : decode cX3_addRoad 41 = .ok (.getfield 12, 3) := by decide +kernel
theorem dX3_addRoad_44 : decode cX3_addRoad 44 = .ok (.iload_n 1, 1) := by decide +kernel
theorem dX3_addRoad_45 : decode cX3_addRoad 45 = .ok (.iload_n 2, 1) := by decide +kernel
theorem dX3_addRoad_46 : decode cX3_addRoad 46 = .ok (.invokevirtual 55, 3) := by decide +kernel
theorem dX3_addRoad_49 : decode cX3_addRoad 49 = .ok (.ifCond .ne 15, 3) := by decide +kernel
theorem dX3_addRoad_52 : decode cX3_addRoad 52 = .ok (.aload_n 0, 1) := by decide +kernel
theorem dX3_addRoad_53 : decode cX3_addRoad 53 = .ok (.getfield 12, 3) := by decide +kernel
theorem dX3_addRoad_56 : decode cX3_addRoad 56 = .ok (.invokevirtual 58, 3) := by decide +kernel
theorem dX3_addRoad_59 : decode cX3_addRoad 59 = .ok (.bipush 15, 2) := by decide +kernel
theorem dX3_addRoad_61 : decode cX3_addRoad 61 = .ok (.if_icmp .lt 13, 3) := by decide +kernel
theorem dX3_addRoad_64 : decode cX3_addRoad 64 = .ok (.new 62, 3) := by decide +kernel
theorem dX3_addRoad_67 : decode cX3_addRoad 67 = .ok (.dup, 1) := by decide +kernel
theorem dX3_addRoad_68 : decode cX3_addRoad 68 = .ok (.ldc 64, 2) := by decide +kernel
theorem dX3_addRoad_70 : decode cX3_addRoad 70 = .ok (.invokespecial 66, 3) := by decide +kernel
theorem dX3_addRoad_73 : decode cX3_addRoad 73 = .ok (.athrow, 1) := by decide +kernel
theorem dX3_addRoad_74 : decode cX3_addRoad 74 = .ok (.aload_n 0, 1) := by decide +kernel
theorem dX3_addRoad_75 : decode cX3_addRoad 75 = .ok (.getfield 12, 3) := by decide +kernel
theorem dX3_addRoad_78 : decode cX3_addRoad 78 = .ok (.iload_n 1, 1) := by decide +kernel
theorem dX3_addRoad_79 : decode cX3_addRoad 79 = .ok (.iload_n 2, 1) := by decide +kernel
theorem dX3_addRoad_80 : decode cX3_addRoad 80 = .ok (.iload_n 3, 1) := by decide +kernel
theorem dX3_addRoad_81 : decode cX3_addRoad 81 = .ok (.invokevirtual 67, 3) := by decide +kernel
theorem dX3_addRoad_84 : decode cX3_addRoad 84 = .ok (.aload_n 0, 1) := by decide +kernel
theorem dX3_addRoad_85 : decode cX3_addRoad 85 = .ok (.getfield 12, 3) := by decide +kernel
theorem dX3_addRoad_88 : decode cX3_addRoad 88 = .ok (.invokevirtual 58, 3) := by decide +kernel
theorem dX3_addRoad_91 : decode cX3_addRoad 91 = .ok (.ireturn, 1) := by decide +kernel
set_option maxRecDepth 20000 in
theorem ggX3_addUnit_X3_below : GoodIn wsX3_addUnit wsX3_below := goodIn_r _ [10] (by decide +kernel) (by decide +kernel)
set_option maxRecDepth 20000 in
theorem gX3_addUnit_X3_below : GoodIn wsX3_addUnit (va_wsS RX3 44 yX3_below wsX3_below) := goodIn_app (goodIn_of _ (by decide +kernel)) ggX3_addUnit_X3_below
set_option maxRecDepth 20000 in
theorem ggX3_addUnit_X3_opponent : GoodIn wsX3_addUnit wsX3_opponent := goodIn_r _ [13] (by decide +kernel) (by decide +kernel)
set_option maxRecDepth 20000 in
theorem gX3_addUnit_X3_opponent : GoodIn wsX3_addUnit (va_wsS RX3 77 yX3_opponent wsX3_opponent) := goodIn_app (goodIn_of _ (by decide +kernel)) ggX3_addUnit_X3_opponent
set_option maxRecDepth 20000 in
theorem ggX3_addUnit_X2_townsHeld : GoodIn wsX3_addUnit wsX2_townsHeld := goodIn_r _ [18, 19, 20, 21, 22, 17, 23, 24, 25, 26, 27, 28, 29, 30, 31, 32, 33, 34, 35, 8, 9, 10, 36, 37, 66, 67, 68, 69, 70] (by decide +kernel) (by decide +kernel)
set_option maxRecDepth 20000 in
theorem gX3_addUnit_X2_townsHeld : GoodIn wsX3_addUnit (wsV RX3 81 RX2 yX2_townsHeld wsX2_townsHeld) := goodIn_app (goodIn_of _ (by decide +kernel)) ggX3_addUnit_X2_townsHeld
set_option maxRecDepth 20000 in
theorem ggX3_addUnit_X3_has : GoodIn wsX3_addUnit wsX3_has := goodIn_r _ [40, 41, 36, 9, 37] (by decide +kernel) (by decide +kernel)
set_option maxRecDepth 20000 in
theorem gX3_addUnit_X3_has : GoodIn wsX3_addUnit (va_wsS RX3 85 yX3_has wsX3_has) := goodIn_app (goodIn_of _ (by decide +kernel)) ggX3_addUnit_X3_has
set_option maxRecDepth 20000 in
theorem ggX3_addUnit_X2_count : GoodIn wsX3_addUnit wsX2_count := goodIn_r _ [45, 19, 66, 67, 68, 69, 70] (by decide +kernel) (by decide +kernel)
set_option maxRecDepth 20000 in
theorem gX3_addUnit_X2_count : GoodIn wsX3_addUnit (wsV RX3 88 RX2 yX2_count wsX2_count) := goodIn_app (goodIn_of _ (by decide +kernel)) ggX3_addUnit_X2_count
set_option maxRecDepth 20000 in
theorem ggX3_addUnit_X2_add : GoodIn wsX3_addUnit wsX2_add := goodIn_r _ [49, 19, 35, 8, 9, 10, 50, 51, 52, 17, 53, 24, 54, 55, 56, 57, 58, 25, 26, 27, 28, 29, 30, 66, 67, 68, 69, 70] (by decide +kernel) (by decide +kernel)
set_option maxRecDepth 20000 in
theorem gX3_addUnit_X2_add : GoodIn wsX3_addUnit (wsV RX3 93 RX2 yX2_add wsX2_add) := goodIn_app (goodIn_of _ (by decide +kernel)) ggX3_addUnit_X2_add
theorem dX3_addUnit_0 : decode cX3_addUnit 0 = .ok (.iload_n 1, 1) := by decide +kernel
theorem dX3_addUnit_1 : decode cX3_addUnit 1 = .ok (.iconst 2, 1) := by decide +kernel
theorem dX3_addUnit_2 : decode cX3_addUnit 2 = .ok (.invokestatic 44, 3) := by decide +kernel
theorem dX3_addUnit_5 : decode cX3_addUnit 5 = .ok (.ifCond .eq 23, 3) := by decide +kernel
theorem dX3_addUnit_8 : decode cX3_addUnit 8 = .ok (.iload_n 2, 1) := by decide +kernel
theorem dX3_addUnit_9 : decode cX3_addUnit 9 = .ok (.bipush 10, 2) := by decide +kernel
theorem dX3_addUnit_11 : decode cX3_addUnit 11 = .ok (.invokestatic 44, 3) := by decide +kernel
theorem dX3_addUnit_14 : decode cX3_addUnit 14 = .ok (.ifCond .eq 14, 3) := by decide +kernel
theorem dX3_addUnit_17 : decode cX3_addUnit 17 = .ok (.iload_n 3, 1) := by decide +kernel
theorem dX3_addUnit_18 : decode cX3_addUnit 18 = .ok (.iconst 1, 1) := by decide +kernel
theorem dX3_addUnit_19 : decode cX3_addUnit 19 = .ok (.if_icmp .lt 9, 3) := by decide +kernel
theorem dX3_addUnit_22 : decode cX3_addUnit 22 = .ok (.iload_n 3, 1) := by decide +kernel
theorem dX3_addUnit_23 : decode cX3_addUnit 23 = .ok (.bipush 9, 2) := by decide +kernel
theorem dX3_addUnit_25 : decode cX3_addUnit 25 = .ok (.if_icmp .le 13, 3) := by decide +kernel
theorem dX3_addUnit_28 : decode cX3_addUnit 28 = .ok (.new 48, 3) := by decide +kernel
theorem dX3_addUnit_31 : decode cX3_addUnit 31 = .ok (.dup, 1) := by decide +kernel
theorem dX3_addUnit_32 : decode cX3_addUnit 32 = .ok (.ldc 75, 2) := by decide +kernel
theorem dX3_addUnit_34 : decode cX3_addUnit 34 = .ok (.invokespecial 52, 3) := by decide +kernel
theorem dX3_addUnit_37 : decode cX3_addUnit 37 = .ok (.athrow, 1) := by decide +kernel
theorem dX3_addUnit_38 : decode cX3_addUnit 38 = .ok (.aload_n 0, 1) := by decide +kernel
theorem dX3_addUnit_39 : decode cX3_addUnit 39 = .ok (.getfield 40, 3) := by decide +kernel
theorem dX3_addUnit_42 : decode cX3_addUnit 42 = .ok (.ifCond .gt 37, 3) := by decide +kernel
theorem dX3_addUnit_45 : decode cX3_addUnit 45 = .ok (.aload_n 0, 1) := by decide +kernel
theorem dX3_addUnit_46 : decode cX3_addUnit 46 = .ok (.getfield 23, 3) := by decide +kernel
theorem dX3_addUnit_49 : decode cX3_addUnit 49 = .ok (.aload_n 0, 1) := by decide +kernel
theorem dX3_addUnit_50 : decode cX3_addUnit 50 = .ok (.getfield 40, 3) := by decide +kernel
theorem dX3_addUnit_53 : decode cX3_addUnit 53 = .ok (.iload_n 1, 1) := by decide +kernel
theorem dX3_addUnit_54 : decode cX3_addUnit 54 = .ok (.invokestatic 77, 3) := by decide +kernel
theorem dX3_addUnit_57 : decode cX3_addUnit 57 = .ok (.invokevirtual 81, 3) := by decide +kernel
theorem dX3_addUnit_60 : decode cX3_addUnit 60 = .ok (.iload_n 2, 1) := by decide +kernel
theorem dX3_addUnit_61 : decode cX3_addUnit 61 = .ok (.invokestatic 85, 3) := by decide +kernel
theorem dX3_addUnit_64 : decode cX3_addUnit 64 = .ok (.ifCond .ne 15, 3) := by decide +kernel
theorem dX3_addUnit_67 : decode cX3_addUnit 67 = .ok (.aload_n 0, 1) := by decide +kernel
theorem dX3_addUnit_68 : decode cX3_addUnit 68 = .ok (.getfield 23, 3) := by decide +kernel
theorem dX3_addUnit_71 : decode cX3_addUnit 71 = .ok (.invokevirtual 88, 3) := by decide +kernel
theorem dX3_addUnit_74 : decode cX3_addUnit 74 = .ok (.bipush 12, 2) := by decide +kernel
theorem dX3_addUnit_76 : decode cX3_addUnit 76 = .ok (.if_icmp .lt 13, 3) := by decide +kernel
theorem dX3_addUnit_79 : decode cX3_addUnit 79 = .ok (.new 62, 3) := by decide +kernel
theorem dX3_addUnit_82 : decode cX3_addUnit 82 = .ok (.dup, 1) := by decide +kernel
theorem dX3_addUnit_83 : decode cX3_addUnit 83 = .ok (.ldc 91, 2) := by decide +kernel
theorem dX3_addUnit_85 : decode cX3_addUnit 85 = .ok (.invokespecial 66, 3) := by decide +kernel
theorem dX3_addUnit_88 : decode cX3_addUnit 88 = .ok (.athrow, 1) := by decide +kernel
theorem dX3_addUnit_89 : decode cX3_addUnit 89 = .ok (.aload_n 0, 1) := by decide +kernel
theorem dX3_addUnit_90 : decode cX3_addUnit 90 = .ok (.getfield 23, 3) := by decide +kernel
theorem dX3_addUnit_93 : decode cX3_addUnit 93 = .ok (.iload_n 1, 1) := by decide +kernel
theorem dX3_addUnit_94 : decode cX3_addUnit 94 = .ok (.iload_n 2, 1) := by decide +kernel
theorem dX3_addUnit_95 : decode cX3_addUnit 95 = .ok (.iload_n 3, 1) := by decide +kernel
theorem dX3_addUnit_96 : decode cX3_addUnit 96 = .ok (.invokevirtual 93, 3) := by decide +kernel
theorem dX3_addUnit_99 : decode cX3_addUnit 99 = .ok (.ireturn, 1) := by decide +kernel
set_option maxRecDepth 20000 in
theorem ggX3_order_X3_checkUnit : GoodIn wsX3_order wsX3_checkUnit := goodIn_ca (goodIn_r _ [9, 10, 11, 3, 12, 13, 14, 15, 16, 17, 18, 19, 8, 20, 36, 37, 38, 39, 40, 41, 42, 43, 44, 45, 46, 47] (by decide +kernel) (by decide +kernel)) (goodIn_sub (fun _ h => List.mem_cons_of_mem _ (List.mem_append_right _ h)) (by decide +kernel))
set_option maxRecDepth 20000 in
theorem gX3_order_X3_checkUnit : GoodIn wsX3_order (wsV RX3 97 RX3 yX3_checkUnit wsX3_checkUnit) := goodIn_app (goodIn_of _ (by decide +kernel)) ggX3_order_X3_checkUnit
set_option maxRecDepth 20000 in
theorem ggX3_order_X3_below : GoodIn wsX3_order wsX3_below := goodIn_r _ [20] (by decide +kernel) (by decide +kernel)
set_option maxRecDepth 20000 in
theorem gX3_order_X3_below : GoodIn wsX3_order (va_wsS RX3 44 yX3_below wsX3_below) := goodIn_app (goodIn_of _ (by decide +kernel)) ggX3_order_X3_below
set_option maxRecDepth 20000 in
theorem ggX3_order_X2_orderFor : GoodIn wsX3_order wsX2_orderFor := goodIn_r _ [24, 25, 26, 27, 15, 28, 29, 30, 31, 43, 44, 45, 46, 47] (by decide +kernel) (by decide +kernel)
set_option maxRecDepth 20000 in
theorem gX3_order_X2_orderFor : GoodIn wsX3_order (wsV RX3 103 RX2 yX2_orderFor wsX2_orderFor) := goodIn_app (goodIn_of _ (by decide +kernel)) ggX3_order_X2_orderFor
set_option maxRecDepth 20000 in
theorem ggX3_order_X2_giveOrder : GoodIn wsX3_order wsX2_giveOrder := goodIn_r _ [35, 25, 26, 27, 15, 28, 29, 30, 31, 43, 44, 45, 46, 47] (by decide +kernel) (by decide +kernel)
set_option maxRecDepth 20000 in
theorem gX3_order_X2_giveOrder : GoodIn wsX3_order (wsV RX3 106 RX2 yX2_giveOrder wsX2_giveOrder) := goodIn_app (goodIn_of _ (by decide +kernel)) ggX3_order_X2_giveOrder
theorem dX3_order_0 : decode cX3_order 0 = .ok (.aload_n 0, 1) := by decide +kernel
theorem dX3_order_1 : decode cX3_order 1 = .ok (.iload_n 1, 1) := by decide +kernel
theorem dX3_order_2 : decode cX3_order 2 = .ok (.invokevirtual 97, 3) := by decide +kernel
theorem dX3_order_5 : decode cX3_order 5 = .ok (.iload_n 2, 1) := by decide +kernel
theorem dX3_order_6 : decode cX3_order 6 = .ok (.iconst (-1), 1) := by decide +kernel
theorem dX3_order_7 : decode cX3_order 7 = .ok (.if_icmp .eq 22, 3) := by decide +kernel
theorem dX3_order_10 : decode cX3_order 10 = .ok (.iload_n 2, 1) := by decide +kernel
theorem dX3_order_11 : decode cX3_order 11 = .ok (.bipush 10, 2) := by decide +kernel
theorem dX3_order_13 : decode cX3_order 13 = .ok (.invokestatic 44, 3) := by decide +kernel
theorem dX3_order_16 : decode cX3_order 16 = .ok (.ifCond .ne 13, 3) := by decide +kernel
theorem dX3_order_19 : decode cX3_order 19 = .ok (.new 48, 3) := by decide +kernel
theorem dX3_order_22 : decode cX3_order 22 = .ok (.dup, 1) := by decide +kernel
theorem dX3_order_23 : decode cX3_order 23 = .ok (.ldc 101, 2) := by decide +kernel
theorem dX3_order_25 : decode cX3_order 25 = .ok (.invokespecial 52, 3) := by decide +kernel
theorem dX3_order_28 : decode cX3_order 28 = .ok (.athrow, 1) := by decide +kernel
theorem dX3_order_29 : decode cX3_order 29 = .ok (.aload_n 0, 1) := by decide +kernel
theorem dX3_order_30 : decode cX3_order 30 = .ok (.getfield 23, 3) := by decide +kernel
theorem dX3_order_33 : decode cX3_order 33 = .ok (.aload_n 0, 1) := by decide +kernel
theorem dX3_order_34 : decode cX3_order 34 = .ok (.getfield 40, 3) := by decide +kernel
theorem dX3_order_37 : decode cX3_order 37 = .ok (.iload_n 1, 1) := by decide +kernel
theorem dX3_order_38 : decode cX3_order 38 = .ok (.invokevirtual 103, 3) := by decide +kernel
theorem dX3_order_41 : decode cX3_order 41 = .ok (.istore_n 3, 1) := by decide +kernel
theorem dX3_order_42 : decode cX3_order 42 = .ok (.aload_n 0, 1) := by decide +kernel
theorem dX3_order_43 : decode cX3_order 43 = .ok (.getfield 23, 3) := by decide +kernel
theorem dX3_order_46 : decode cX3_order 46 = .ok (.aload_n 0, 1) := by decide +kernel
theorem dX3_order_47 : decode cX3_order 47 = .ok (.getfield 40, 3) := by decide +kernel
theorem dX3_order_50 : decode cX3_order 50 = .ok (.iload_n 1, 1) := by decide +kernel
theorem dX3_order_51 : decode cX3_order 51 = .ok (.iload_n 2, 1) := by decide +kernel
theorem dX3_order_52 : decode cX3_order 52 = .ok (.invokevirtual 106, 3) := by decide +kernel
theorem dX3_order_55 : decode cX3_order 55 = .ok (.iload_n 3, 1) := by decide +kernel
theorem dX3_order_56 : decode cX3_order 56 = .ok (.ireturn, 1) := by decide +kernel
set_option maxRecDepth 20000 in
theorem ggX3_play_X3_checkWeather : GoodIn wsX3_play wsX3_checkWeather := goodIn_ca (goodIn_r _ [9, 10, 11, 12, 13, 8, 14] (by decide +kernel) (by decide +kernel)) (goodIn_sub (fun _ h => List.mem_cons_of_mem _ (List.mem_append_right _ h)) (by decide +kernel))
set_option maxRecDepth 20000 in
theorem gX3_play_X3_checkWeather : GoodIn wsX3_play (va_wsS RX3 110 yX3_checkWeather wsX3_checkWeather) := goodIn_app (goodIn_of _ (by decide +kernel)) ggX3_play_X3_checkWeather
set_option maxRecDepth 20000 in
theorem ggX3_play_X3_below : GoodIn wsX3_play wsX3_below := goodIn_r _ [14] (by decide +kernel) (by decide +kernel)
set_option maxRecDepth 20000 in
theorem gX3_play_X3_below : GoodIn wsX3_play (va_wsS RX3 44 yX3_below wsX3_below) := goodIn_app (goodIn_of _ (by decide +kernel)) ggX3_play_X3_below
set_option maxRecDepth 20000 in
theorem ggX3_play_X3_playFrom : GoodIn wsX3_play wsX3_playFrom := goodIn_r _ [18, 19, 20, 21, 22, 3, 4, 23, 24, 25, 26, 8, 27, 5, 28, 29, 30, 31, 32, 33, 12, 13, 14, 34, 35, 36, 37, 38, 39, 40, 41, 42, 43, 44, 45, 46, 47, 48, 49, 50, 51, 52, 53, 54, 55, 56, 57, 58, 59, 60, 61, 62, 63, 64, 65, 66, 67, 68, 69, 70, 71, 72, 73, 74, 75, 76, 77, 78, 79, 80, 81, 82, 83, 84, 85, 86, 87, 88, 89, 90, 91, 92, 93, 94, 95, 96, 97, 98, 99, 100, 101, 102, 103, 104, 105, 106, 107, 108, 109, 110, 111, 112, 113, 114, 115, 116, 117, 118, 119, 120, 121, 122, 123, 124, 125, 126, 127, 128, 133, 134, 135, 136, 137, 138, 139, 140, 141, 142, 143, 144, 145, 146, 147] (by decide +kernel) (by decide +kernel)
set_option maxRecDepth 20000 in
theorem gX3_play_X3_playFrom : GoodIn wsX3_play (wsV RX3 115 RX3 yX3_playFrom wsX3_playFrom) := goodIn_app (goodIn_of _ (by decide +kernel)) ggX3_play_X3_playFrom
set_option maxRecDepth 20000 in
theorem ggX3_play_X2_livingAt : GoodIn wsX3_play wsX2_livingAt := goodIn_r _ [132, 42, 43, 44, 45, 40, 46, 47, 48, 49, 50, 51, 52, 53, 140, 141, 142, 143, 144] (by decide +kernel) (by decide +kernel)
set_option maxRecDepth 20000 in
theorem gX3_play_X2_livingAt : GoodIn wsX3_play (wsV RX3 118 RX2 yX2_livingAt wsX2_livingAt) := goodIn_app (goodIn_of _ (by decide +kernel)) ggX3_play_X2_livingAt
theorem dX3_play_0 : decode cX3_play 0 = .ok (.iload_n 1, 1) := by decide +kernel
theorem dX3_play_1 : decode cX3_play 1 = .ok (.invokestatic 110, 3) := by decide +kernel
theorem dX3_play_4 : decode cX3_play 4 = .ok (.aload_n 0, 1) := by decide +kernel
theorem dX3_play_5 : decode cX3_play 5 = .ok (.getfield 40, 3) := by decide +kernel
theorem dX3_play_8 : decode cX3_play 8 = .ok (.bipush 20, 2) := by decide +kernel
theorem dX3_play_10 : decode cX3_play 10 = .ok (.invokestatic 44, 3) := by decide +kernel
theorem dX3_play_13 : decode cX3_play 13 = .ok (.ifCond .ne 13, 3) := by decide +kernel
theorem dX3_play_16 : decode cX3_play 16 = .ok (.new 62, 3) := by decide +kernel
theorem dX3_play_19 : decode cX3_play 19 = .ok (.dup, 1) := by decide +kernel
theorem dX3_play_20 : decode cX3_play 20 = .ok (.ldc 113, 2) := by decide +kernel
theorem dX3_play_22 : decode cX3_play 22 = .ok (.invokespecial 66, 3) := by decide +kernel
theorem dX3_play_25 : decode cX3_play 25 = .ok (.athrow, 1) := by decide +kernel
theorem dX3_play_26 : decode cX3_play 26 = .ok (.aload_n 0, 1) := by decide +kernel
theorem dX3_play_27 : decode cX3_play 27 = .ok (.getfield 40, 3) := by decide +kernel
theorem dX3_play_30 : decode cX3_play 30 = .ok (.istore_n 2, 1) := by decide +kernel
theorem dX3_play_31 : decode cX3_play 31 = .ok (.aload_n 0, 1) := by decide +kernel
theorem dX3_play_32 : decode cX3_play 32 = .ok (.getfield 27, 3) := by decide +kernel
theorem dX3_play_35 : decode cX3_play 35 = .ok (.iload_n 2, 1) := by decide +kernel
theorem dX3_play_36 : decode cX3_play 36 = .ok (.iload_n 1, 1) := by decide +kernel
theorem dX3_play_37 : decode cX3_play 37 = .ok (.iastore, 1) := by decide +kernel
theorem dX3_play_38 : decode cX3_play 38 = .ok (.aload_n 0, 1) := by decide +kernel
theorem dX3_play_39 : decode cX3_play 39 = .ok (.iload_n 2, 1) := by decide +kernel
theorem dX3_play_40 : decode cX3_play 40 = .ok (.iconst 1, 1) := by decide +kernel
theorem dX3_play_41 : decode cX3_play 41 = .ok (.iadd, 1) := by decide +kernel
theorem dX3_play_42 : decode cX3_play 42 = .ok (.putfield 40, 3) := by decide +kernel
theorem dX3_play_45 : decode cX3_play 45 = .ok (.aload_n 0, 1) := by decide +kernel
theorem dX3_play_46 : decode cX3_play 46 = .ok (.iload_n 2, 1) := by decide +kernel
theorem dX3_play_47 : decode cX3_play 47 = .ok (.invokevirtual 115, 3) := by decide +kernel
theorem dX3_play_50 : decode cX3_play 50 = .ok (.aload_n 0, 1) := by decide +kernel
theorem dX3_play_51 : decode cX3_play 51 = .ok (.getfield 23, 3) := by decide +kernel
theorem dX3_play_54 : decode cX3_play 54 = .ok (.iload_n 2, 1) := by decide +kernel
theorem dX3_play_55 : decode cX3_play 55 = .ok (.invokevirtual 118, 3) := by decide +kernel
theorem dX3_play_58 : decode cX3_play 58 = .ok (.aload_n 0, 1) := by decide +kernel
theorem dX3_play_59 : decode cX3_play 59 = .ok (.getfield 23, 3) := by decide +kernel
theorem dX3_play_62 : decode cX3_play 62 = .ok (.iload_n 2, 1) := by decide +kernel
theorem dX3_play_63 : decode cX3_play 63 = .ok (.iconst 1, 1) := by decide +kernel
theorem dX3_play_64 : decode cX3_play 64 = .ok (.iadd, 1) := by decide +kernel
theorem dX3_play_65 : decode cX3_play 65 = .ok (.invokevirtual 118, 3) := by decide +kernel
theorem dX3_play_68 : decode cX3_play 68 = .ok (.isub, 1) := by decide +kernel
theorem dX3_play_69 : decode cX3_play 69 = .ok (.ireturn, 1) := by decide +kernel
theorem dX3_played_0 : decode cX3_played 0 = .ok (.aload_n 0, 1) := by decide +kernel
theorem dX3_played_1 : decode cX3_played 1 = .ok (.getfield 40, 3) := by decide +kernel
theorem dX3_played_4 : decode cX3_played 4 = .ok (.ireturn, 1) := by decide +kernel
set_option maxRecDepth 20000 in
theorem ggX3_townOf_X3_checkUnit : GoodIn wsX3_townOf wsX3_checkUnit := goodIn_ca (goodIn_r _ [7, 8, 9, 1, 10, 11, 12, 13, 14, 15, 16, 17, 6, 18, 30, 31, 32, 33, 34, 35, 36, 37, 38, 39, 40, 41] (by decide +kernel) (by decide +kernel)) (goodIn_sub (fun _ h => List.mem_cons_of_mem _ (List.mem_append_right _ h)) (by decide +kernel))
set_option maxRecDepth 20000 in
theorem gX3_townOf_X3_checkUnit : GoodIn wsX3_townOf (wsV RX3 97 RX3 yX3_checkUnit wsX3_checkUnit) := goodIn_app (goodIn_of _ (by decide +kernel)) ggX3_townOf_X3_checkUnit
set_option maxRecDepth 20000 in
theorem ggX3_townOf_X2_townAt : GoodIn wsX3_townOf wsX2_townAt := goodIn_r _ [22, 23, 24, 25, 13, 26, 27, 28, 29, 37, 38, 39, 40, 41] (by decide +kernel) (by decide +kernel)
set_option maxRecDepth 20000 in
theorem gX3_townOf_X2_townAt : GoodIn wsX3_townOf (wsV RX3 149 RX2 yX2_townAt wsX2_townAt) := goodIn_app (goodIn_of _ (by decide +kernel)) ggX3_townOf_X2_townAt
theorem dX3_townOf_0 : decode cX3_townOf 0 = .ok (.aload_n 0, 1) := by decide +kernel
theorem dX3_townOf_1 : decode cX3_townOf 1 = .ok (.iload_n 1, 1) := by decide +kernel
theorem dX3_townOf_2 : decode cX3_townOf 2 = .ok (.invokevirtual 97, 3) := by decide +kernel
theorem dX3_townOf_5 : decode cX3_townOf 5 = .ok (.aload_n 0, 1) := by decide +kernel
theorem dX3_townOf_6 : decode cX3_townOf 6 = .ok (.getfield 23, 3) := by decide +kernel
theorem dX3_townOf_9 : decode cX3_townOf 9 = .ok (.aload_n 0, 1) := by decide +kernel
theorem dX3_townOf_10 : decode cX3_townOf 10 = .ok (.getfield 40, 3) := by decide +kernel
theorem dX3_townOf_13 : decode cX3_townOf 13 = .ok (.iload_n 1, 1) := by decide +kernel
theorem dX3_townOf_14 : decode cX3_townOf 14 = .ok (.invokevirtual 149, 3) := by decide +kernel
theorem dX3_townOf_17 : decode cX3_townOf 17 = .ok (.ireturn, 1) := by decide +kernel
set_option maxRecDepth 20000 in
theorem ggX3_strength_X3_checkUnit : GoodIn wsX3_strength wsX3_checkUnit := goodIn_ca (goodIn_r _ [7, 8, 9, 1, 10, 11, 12, 13, 14, 15, 16, 17, 6, 18, 30, 31, 32, 33, 34, 35, 36, 37, 38, 39, 40, 41] (by decide +kernel) (by decide +kernel)) (goodIn_sub (fun _ h => List.mem_cons_of_mem _ (List.mem_append_right _ h)) (by decide +kernel))
set_option maxRecDepth 20000 in
theorem gX3_strength_X3_checkUnit : GoodIn wsX3_strength (wsV RX3 97 RX3 yX3_checkUnit wsX3_checkUnit) := goodIn_app (goodIn_of _ (by decide +kernel)) ggX3_strength_X3_checkUnit
set_option maxRecDepth 20000 in
theorem ggX3_strength_X2_strengthAt : GoodIn wsX3_strength wsX2_strengthAt := goodIn_r _ [22, 23, 24, 25, 13, 26, 27, 28, 29, 37, 38, 39, 40, 41] (by decide +kernel) (by decide +kernel)
set_option maxRecDepth 20000 in
theorem gX3_strength_X2_strengthAt : GoodIn wsX3_strength (wsV RX3 152 RX2 yX2_strengthAt wsX2_strengthAt) := goodIn_app (goodIn_of _ (by decide +kernel)) ggX3_strength_X2_strengthAt
theorem dX3_strength_0 : decode cX3_strength 0 = .ok (.aload_n 0, 1) := by decide +kernel
theorem dX3_strength_1 : decode cX3_strength 1 = .ok (.iload_n 1, 1) := by decide +kernel
theorem dX3_strength_2 : decode cX3_strength 2 = .ok (.invokevirtual 97, 3) := by decide +kernel
theorem dX3_strength_5 : decode cX3_strength 5 = .ok (.aload_n 0, 1) := by decide +kernel
theorem dX3_strength_6 : decode cX3_strength 6 = .ok (.getfield 23, 3) := by decide +kernel
theorem dX3_strength_9 : decode cX3_strength 9 = .ok (.aload_n 0, 1) := by decide +kernel
theorem dX3_strength_10 : decode cX3_strength 10 = .ok (.getfield 40, 3) := by decide +kernel
theorem dX3_strength_13 : decode cX3_strength 13 = .ok (.iload_n 1, 1) := by decide +kernel
theorem dX3_strength_14 : decode cX3_strength 14 = .ok (.invokevirtual 152, 3) := by decide +kernel
theorem dX3_strength_17 : decode cX3_strength 17 = .ok (.ireturn, 1) := by decide +kernel
set_option maxRecDepth 20000 in
theorem ggX3_supply_X3_checkUnit : GoodIn wsX3_supply wsX3_checkUnit := goodIn_ca (goodIn_r _ [7, 8, 9, 1, 10, 11, 12, 13, 14, 15, 16, 17, 6, 18, 72, 73, 74, 75, 76, 77, 78, 79, 80, 81, 82, 83] (by decide +kernel) (by decide +kernel)) (goodIn_sub (fun _ h => List.mem_cons_of_mem _ (List.mem_append_left _ (List.mem_append_right _ h))) (by decide +kernel))
set_option maxRecDepth 20000 in
theorem gX3_supply_X3_checkUnit : GoodIn wsX3_supply (wsV RX3 97 RX3 yX3_checkUnit wsX3_checkUnit) := goodIn_app (goodIn_of _ (by decide +kernel)) ggX3_supply_X3_checkUnit
set_option maxRecDepth 20000 in
theorem ggX3_supply_X3_checkWeather : GoodIn wsX3_supply wsX3_checkWeather := goodIn_ca (goodIn_r _ [21, 22, 23, 16, 17, 6, 18] (by decide +kernel) (by decide +kernel)) (goodIn_sub (fun _ h => List.mem_cons_of_mem _ (List.mem_append_right _ h)) (by decide +kernel))
set_option maxRecDepth 20000 in
theorem gX3_supply_X3_checkWeather : GoodIn wsX3_supply (va_wsS RX3 110 yX3_checkWeather wsX3_checkWeather) := goodIn_app (goodIn_of _ (by decide +kernel)) ggX3_supply_X3_checkWeather
set_option maxRecDepth 20000 in
theorem ggX3_supply_X2_townAt : GoodIn wsX3_supply wsX2_townAt := goodIn_r _ [27, 28, 29, 30, 13, 31, 32, 33, 34, 79, 80, 81, 82, 83] (by decide +kernel) (by decide +kernel)
set_option maxRecDepth 20000 in
theorem gX3_supply_X2_townAt : GoodIn wsX3_supply (wsV RX3 149 RX2 yX2_townAt wsX2_townAt) := goodIn_app (goodIn_of _ (by decide +kernel)) ggX3_supply_X2_townAt
set_option maxRecDepth 20000 in
theorem ggX3_supply_X2_sideOf : GoodIn wsX3_supply wsX2_sideOf := goodIn_r _ [38, 39, 17, 6, 18, 79, 80, 81, 82, 83] (by decide +kernel) (by decide +kernel)
set_option maxRecDepth 20000 in
theorem gX3_supply_X2_sideOf : GoodIn wsX3_supply (wsV RX3 155 RX2 yX2_sideOf wsX2_sideOf) := goodIn_app (goodIn_of _ (by decide +kernel)) ggX3_supply_X2_sideOf
set_option maxRecDepth 20000 in
theorem ggX3_supply_X3_suppliedTowns : GoodIn wsX3_supply wsX3_suppliedTowns := goodIn_r _ [43, 1, 44, 45, 16, 17, 6, 18, 46, 47, 48, 49, 50, 51, 13, 52, 15, 53, 25, 26, 27, 28, 29, 30, 31, 32, 33, 34, 54, 36, 37, 38, 39, 55, 56, 57, 58, 59, 60, 61, 62, 63, 64, 65, 66, 67, 68, 69, 70, 72, 73, 74, 75, 76, 77, 78, 79, 80, 81, 82, 83, 84, 85, 86] (by decide +kernel) (by decide +kernel)
set_option maxRecDepth 20000 in
theorem gX3_supply_X3_suppliedTowns : GoodIn wsX3_supply (wsV RX3 158 RX3 yX3_suppliedTowns wsX3_suppliedTowns) := goodIn_app (goodIn_of _ (by decide +kernel)) ggX3_supply_X3_suppliedTowns
set_option maxRecDepth 20000 in
theorem ggX3_supply_X3_has : GoodIn wsX3_supply wsX3_has := goodIn_r _ [64, 57, 55, 6, 56] (by decide +kernel) (by decide +kernel)
set_option maxRecDepth 20000 in
theorem gX3_supply_X3_has : GoodIn wsX3_supply (va_wsS RX3 85 yX3_has wsX3_has) := goodIn_app (goodIn_of _ (by decide +kernel)) ggX3_supply_X3_has
theorem dX3_supply_0 : decode cX3_supply 0 = .ok (.aload_n 0, 1) := by decide +kernel
theorem dX3_supply_1 : decode cX3_supply 1 = .ok (.iload_n 1, 1) := by decide +kernel
theorem dX3_supply_2 : decode cX3_supply 2 = .ok (.invokevirtual 97, 3) := by decide +kernel
theorem dX3_supply_5 : decode cX3_supply 5 = .ok (.iload_n 2, 1) := by decide +kernel
theorem dX3_supply_6 : decode cX3_supply 6 = .ok (.invokestatic 110, 3) := by decide +kernel
theorem dX3_supply_9 : decode cX3_supply 9 = .ok (.aload_n 0, 1) := by decide +kernel
theorem dX3_supply_10 : decode cX3_supply 10 = .ok (.getfield 23, 3) := by decide +kernel
theorem dX3_supply_13 : decode cX3_supply 13 = .ok (.aload_n 0, 1) := by decide +kernel
theorem dX3_supply_14 : decode cX3_supply 14 = .ok (.getfield 40, 3) := by decide +kernel
theorem dX3_supply_17 : decode cX3_supply 17 = .ok (.iload_n 1, 1) := by decide +kernel
theorem dX3_supply_18 : decode cX3_supply 18 = .ok (.invokevirtual 149, 3) := by decide +kernel
theorem dX3_supply_21 : decode cX3_supply 21 = .ok (.istore_n 3, 1) := by decide +kernel
theorem dX3_supply_22 : decode cX3_supply 22 = .ok (.iconst 0, 1) := by decide +kernel
theorem dX3_supply_23 : decode cX3_supply 23 = .ok (.istore 4, 2) := by decide +kernel
theorem dX3_supply_25 : decode cX3_supply 25 = .ok (.iload 4, 2) := by decide +kernel
theorem dX3_supply_27 : decode cX3_supply 27 = .ok (.iconst 4, 1) := by decide +kernel
theorem dX3_supply_28 : decode cX3_supply 28 = .ok (.if_icmp .gt 38, 3) := by decide +kernel
theorem dX3_supply_31 : decode cX3_supply 31 = .ok (.aload_n 0, 1) := by decide +kernel
theorem dX3_supply_32 : decode cX3_supply 32 = .ok (.aload_n 0, 1) := by decide +kernel
theorem dX3_supply_33 : decode cX3_supply 33 = .ok (.getfield 40, 3) := by decide +kernel
theorem dX3_supply_36 : decode cX3_supply 36 = .ok (.aload_n 0, 1) := by decide +kernel
theorem dX3_supply_37 : decode cX3_supply 37 = .ok (.getfield 23, 3) := by decide +kernel
theorem dX3_supply_40 : decode cX3_supply 40 = .ok (.iload_n 1, 1) := by decide +kernel
theorem dX3_supply_41 : decode cX3_supply 41 = .ok (.invokevirtual 155, 3) := by decide +kernel
theorem dX3_supply_44 : decode cX3_supply 44 = .ok (.iload_n 2, 1) := by decide +kernel
theorem dX3_supply_45 : decode cX3_supply 45 = .ok (.iload 4, 2) := by decide +kernel
theorem dX3_supply_47 : decode cX3_supply 47 = .ok (.invokevirtual 158, 3) := by decide +kernel
theorem dX3_supply_50 : decode cX3_supply 50 = .ok (.iload_n 3, 1) := by decide +kernel
theorem dX3_supply_51 : decode cX3_supply 51 = .ok (.invokestatic 85, 3) := by decide +kernel
theorem dX3_supply_54 : decode cX3_supply 54 = .ok (.ifCond .eq 6, 3) := by decide +kernel
theorem dX3_supply_57 : decode cX3_supply 57 = .ok (.iload 4, 2) := by decide +kernel
theorem dX3_supply_59 : decode cX3_supply 59 = .ok (.ireturn, 1) := by decide +kernel
theorem dX3_supply_60 : decode cX3_supply 60 = .ok (.iinc 4 1, 3) := by decide +kernel
theorem dX3_supply_63 : decode cX3_supply 63 = .ok (.goto (-38), 3) := by decide +kernel
theorem dX3_supply_66 : decode cX3_supply 66 = .ok (.iconst (-1), 1) := by decide +kernel
theorem dX3_supply_67 : decode cX3_supply 67 = .ok (.ireturn, 1) := by decide +kernel
set_option maxRecDepth 20000 in
theorem ggX3_townAfter_X3_checkUnit : GoodIn wsX3_townAfter wsX3_checkUnit := goodIn_ca (goodIn_r _ [6, 7, 8, 1, 9, 10, 11, 12, 13, 14, 15, 16, 5, 17, 38, 39, 40, 41, 42, 43, 44, 45, 46, 47, 48, 49] (by decide +kernel) (by decide +kernel)) (goodIn_sub (fun _ h => List.mem_cons_of_mem _ (List.mem_append_right _ h)) (by decide +kernel))
set_option maxRecDepth 20000 in
theorem gX3_townAfter_X3_checkUnit : GoodIn wsX3_townAfter (wsV RX3 97 RX3 yX3_checkUnit wsX3_checkUnit) := goodIn_app (goodIn_of _ (by decide +kernel)) ggX3_townAfter_X3_checkUnit
set_option maxRecDepth 20000 in
theorem ggX3_townAfter_X3_checkTurn : GoodIn wsX3_townAfter wsX3_checkTurn := goodIn_ca (goodIn_r _ [21, 7, 8, 22, 23, 24, 25, 26, 15, 16, 5, 17, 38, 39, 40, 41, 42, 43, 44] (by decide +kernel) (by decide +kernel)) (goodIn_sub (fun _ h => List.mem_cons_of_mem _ (List.mem_append_right _ h)) (by decide +kernel))
set_option maxRecDepth 20000 in
theorem gX3_townAfter_X3_checkTurn : GoodIn wsX3_townAfter (wsV RX3 121 RX3 yX3_checkTurn wsX3_checkTurn) := goodIn_app (goodIn_of _ (by decide +kernel)) ggX3_townAfter_X3_checkTurn
set_option maxRecDepth 20000 in
theorem ggX3_townAfter_X2_townAt : GoodIn wsX3_townAfter wsX2_townAt := goodIn_r _ [30, 31, 32, 33, 12, 34, 35, 36, 37, 45, 46, 47, 48, 49] (by decide +kernel) (by decide +kernel)
set_option maxRecDepth 20000 in
theorem gX3_townAfter_X2_townAt : GoodIn wsX3_townAfter (wsV RX3 149 RX2 yX2_townAt wsX2_townAt) := goodIn_app (goodIn_of _ (by decide +kernel)) ggX3_townAfter_X2_townAt
theorem dX3_townAfter_0 : decode cX3_townAfter 0 = .ok (.aload_n 0, 1) := by decide +kernel
theorem dX3_townAfter_1 : decode cX3_townAfter 1 = .ok (.iload_n 1, 1) := by decide +kernel
theorem dX3_townAfter_2 : decode cX3_townAfter 2 = .ok (.invokevirtual 97, 3) := by decide +kernel
theorem dX3_townAfter_5 : decode cX3_townAfter 5 = .ok (.aload_n 0, 1) := by decide +kernel
theorem dX3_townAfter_6 : decode cX3_townAfter 6 = .ok (.iload_n 2, 1) := by decide +kernel
theorem dX3_townAfter_7 : decode cX3_townAfter 7 = .ok (.invokevirtual 121, 3) := by decide +kernel
theorem dX3_townAfter_10 : decode cX3_townAfter 10 = .ok (.aload_n 0, 1) := by decide +kernel
theorem dX3_townAfter_11 : decode cX3_townAfter 11 = .ok (.getfield 23, 3) := by decide +kernel
theorem dX3_townAfter_14 : decode cX3_townAfter 14 = .ok (.iload_n 2, 1) := by decide +kernel
theorem dX3_townAfter_15 : decode cX3_townAfter 15 = .ok (.iconst 1, 1) := by decide +kernel
theorem dX3_townAfter_16 : decode cX3_townAfter 16 = .ok (.iadd, 1) := by decide +kernel
theorem dX3_townAfter_17 : decode cX3_townAfter 17 = .ok (.iload_n 1, 1) := by decide +kernel
theorem dX3_townAfter_18 : decode cX3_townAfter 18 = .ok (.invokevirtual 149, 3) := by decide +kernel
theorem dX3_townAfter_21 : decode cX3_townAfter 21 = .ok (.ireturn, 1) := by decide +kernel
set_option maxRecDepth 20000 in
theorem ggX3_reported_X3_checkSide : GoodIn wsX3_reported wsX3_checkSide := goodIn_ca (goodIn_r _ [13, 14, 15, 16, 17, 12, 18] (by decide +kernel) (by decide +kernel)) (goodIn_sub (fun _ h => List.mem_cons_of_mem _ (List.mem_append_right _ h)) (by decide +kernel))
set_option maxRecDepth 20000 in
theorem gX3_reported_X3_checkSide : GoodIn wsX3_reported (va_wsS RX3 162 yX3_checkSide wsX3_checkSide) := goodIn_app (goodIn_of _ (by decide +kernel)) ggX3_reported_X3_checkSide
set_option maxRecDepth 20000 in
theorem ggX3_reported_X3_checkUnit : GoodIn wsX3_reported wsX3_checkUnit := goodIn_ca (goodIn_r _ [22, 1, 2, 3, 23, 24, 25, 26, 27, 28, 16, 17, 12, 18, 51, 52, 53, 54, 55, 56, 57, 58, 59, 60, 61, 62] (by decide +kernel) (by decide +kernel)) (goodIn_sub (fun _ h => List.mem_cons_of_mem _ (List.mem_append_left _ (List.mem_append_right _ h))) (by decide +kernel))
set_option maxRecDepth 20000 in
theorem gX3_reported_X3_checkUnit : GoodIn wsX3_reported (wsV RX3 97 RX3 yX3_checkUnit wsX3_checkUnit) := goodIn_app (goodIn_of _ (by decide +kernel)) ggX3_reported_X3_checkUnit
set_option maxRecDepth 20000 in
theorem ggX3_reported_X2_sideOf : GoodIn wsX3_reported wsX2_sideOf := goodIn_r _ [32, 33, 17, 12, 18, 58, 59, 60, 61, 62] (by decide +kernel) (by decide +kernel)
set_option maxRecDepth 20000 in
theorem gX3_reported_X2_sideOf : GoodIn wsX3_reported (wsV RX3 155 RX2 yX2_sideOf wsX2_sideOf) := goodIn_app (goodIn_of _ (by decide +kernel)) ggX3_reported_X2_sideOf
set_option maxRecDepth 20000 in
theorem ggX3_reported_X3_has : GoodIn wsX3_reported wsX3_has := goodIn_r _ [36, 37, 38, 12, 39] (by decide +kernel) (by decide +kernel)
set_option maxRecDepth 20000 in
theorem gX3_reported_X3_has : GoodIn wsX3_reported (va_wsS RX3 85 yX3_has wsX3_has) := goodIn_app (goodIn_of _ (by decide +kernel)) ggX3_reported_X3_has
set_option maxRecDepth 20000 in
theorem ggX3_reported_X2_townAt : GoodIn wsX3_reported wsX2_townAt := goodIn_r _ [43, 44, 45, 46, 26, 47, 48, 49, 50, 58, 59, 60, 61, 62] (by decide +kernel) (by decide +kernel)
set_option maxRecDepth 20000 in
theorem gX3_reported_X2_townAt : GoodIn wsX3_reported (wsV RX3 149 RX2 yX2_townAt wsX2_townAt) := goodIn_app (goodIn_of _ (by decide +kernel)) ggX3_reported_X2_townAt
theorem dX3_reported_0 : decode cX3_reported 0 = .ok (.iload_n 1, 1) := by decide +kernel
theorem dX3_reported_1 : decode cX3_reported 1 = .ok (.invokestatic 162, 3) := by decide +kernel
theorem dX3_reported_4 : decode cX3_reported 4 = .ok (.aload_n 0, 1) := by decide +kernel
theorem dX3_reported_5 : decode cX3_reported 5 = .ok (.iload_n 2, 1) := by decide +kernel
theorem dX3_reported_6 : decode cX3_reported 6 = .ok (.invokevirtual 97, 3) := by decide +kernel
theorem dX3_reported_9 : decode cX3_reported 9 = .ok (.aload_n 0, 1) := by decide +kernel
theorem dX3_reported_10 : decode cX3_reported 10 = .ok (.getfield 23, 3) := by decide +kernel
theorem dX3_reported_13 : decode cX3_reported 13 = .ok (.iload_n 2, 1) := by decide +kernel
theorem dX3_reported_14 : decode cX3_reported 14 = .ok (.invokevirtual 155, 3) := by decide +kernel
theorem dX3_reported_17 : decode cX3_reported 17 = .ok (.iload_n 1, 1) := by decide +kernel
theorem dX3_reported_18 : decode cX3_reported 18 = .ok (.if_icmp .ne 13, 3) := by decide +kernel
theorem dX3_reported_21 : decode cX3_reported 21 = .ok (.new 165, 3) := by decide +kernel
theorem dX3_reported_24 : decode cX3_reported 24 = .ok (.dup, 1) := by decide +kernel
theorem dX3_reported_25 : decode cX3_reported 25 = .ok (.ldc 167, 2) := by decide +kernel
theorem dX3_reported_27 : decode cX3_reported 27 = .ok (.invokespecial 169, 3) := by decide +kernel
theorem dX3_reported_30 : decode cX3_reported 30 = .ok (.athrow, 1) := by decide +kernel
theorem dX3_reported_31 : decode cX3_reported 31 = .ok (.aload_n 0, 1) := by decide +kernel
theorem dX3_reported_32 : decode cX3_reported 32 = .ok (.getfield 40, 3) := by decide +kernel
theorem dX3_reported_35 : decode cX3_reported 35 = .ok (.bipush 20, 2) := by decide +kernel
theorem dX3_reported_37 : decode cX3_reported 37 = .ok (.invokestatic 170, 3) := by decide +kernel
theorem dX3_reported_40 : decode cX3_reported 40 = .ok (.iconst 1, 1) := by decide +kernel
theorem dX3_reported_41 : decode cX3_reported 41 = .ok (.isub, 1) := by decide +kernel
theorem dX3_reported_42 : decode cX3_reported 42 = .ok (.iconst 2, 1) := by decide +kernel
theorem dX3_reported_43 : decode cX3_reported 43 = .ok (.isub, 1) := by decide +kernel
theorem dX3_reported_44 : decode cX3_reported 44 = .ok (.istore_n 3, 1) := by decide +kernel
theorem dX3_reported_45 : decode cX3_reported 45 = .ok (.iload_n 3, 1) := by decide +kernel
theorem dX3_reported_46 : decode cX3_reported 46 = .ok (.ifCond .lt 34, 3) := by decide +kernel
theorem dX3_reported_49 : decode cX3_reported 49 = .ok (.aload_n 0, 1) := by decide +kernel
theorem dX3_reported_50 : decode cX3_reported 50 = .ok (.getfield 30, 3) := by decide +kernel
theorem dX3_reported_53 : decode cX3_reported 53 = .ok (.iload_n 3, 1) := by decide +kernel
theorem dX3_reported_54 : decode cX3_reported 54 = .ok (.iaload, 1) := by decide +kernel
theorem dX3_reported_55 : decode cX3_reported 55 = .ok (.iload_n 2, 1) := by decide +kernel
theorem dX3_reported_56 : decode cX3_reported 56 = .ok (.invokestatic 85, 3) := by decide +kernel
theorem dX3_reported_59 : decode cX3_reported 59 = .ok (.ifCond .eq 15, 3) := by decide +kernel
theorem dX3_reported_62 : decode cX3_reported 62 = .ok (.aload_n 0, 1) := by decide +kernel
theorem dX3_reported_63 : decode cX3_reported 63 = .ok (.getfield 23, 3) := by decide +kernel
theorem dX3_reported_66 : decode cX3_reported 66 = .ok (.iload_n 3, 1) := by decide +kernel
theorem dX3_reported_67 : decode cX3_reported 67 = .ok (.iconst 1, 1) := by decide +kernel
theorem dX3_reported_68 : decode cX3_reported 68 = .ok (.iadd, 1) := by decide +kernel
theorem dX3_reported_69 : decode cX3_reported 69 = .ok (.iload_n 2, 1) := by decide +kernel
theorem dX3_reported_70 : decode cX3_reported 70 = .ok (.invokevirtual 149, 3) := by decide +kernel
theorem dX3_reported_73 : decode cX3_reported 73 = .ok (.ireturn, 1) := by decide +kernel
theorem dX3_reported_74 : decode cX3_reported 74 = .ok (.iinc 3 (-1), 3) := by decide +kernel
theorem dX3_reported_77 : decode cX3_reported 77 = .ok (.goto (-32), 3) := by decide +kernel
theorem dX3_reported_80 : decode cX3_reported 80 = .ok (.iconst (-1), 1) := by decide +kernel
theorem dX3_reported_81 : decode cX3_reported 81 = .ok (.ireturn, 1) := by decide +kernel
set_option maxRecDepth 20000 in
theorem ggX3_force_X3_checkSide : GoodIn wsX3_force wsX3_checkSide := goodIn_ca (goodIn_r _ [6, 7, 8, 9, 10, 5, 11] (by decide +kernel) (by decide +kernel)) (goodIn_sub (fun _ h => List.mem_cons_of_mem _ (List.mem_append_right _ h)) (by decide +kernel))
set_option maxRecDepth 20000 in
theorem gX3_force_X3_checkSide : GoodIn wsX3_force (va_wsS RX3 162 yX3_checkSide wsX3_checkSide) := goodIn_app (goodIn_of _ (by decide +kernel)) ggX3_force_X3_checkSide
set_option maxRecDepth 20000 in
theorem ggX3_force_X2_count : GoodIn wsX3_force wsX2_count := goodIn_r _ [16, 17, 41, 42, 43, 44, 45] (by decide +kernel) (by decide +kernel)
set_option maxRecDepth 20000 in
theorem gX3_force_X2_count : GoodIn wsX3_force (wsV RX3 88 RX2 yX2_count wsX2_count) := goodIn_app (goodIn_of _ (by decide +kernel)) ggX3_force_X2_count
set_option maxRecDepth 20000 in
theorem ggX3_force_X2_sideOf : GoodIn wsX3_force wsX2_sideOf := goodIn_r _ [21, 22, 10, 5, 11, 41, 42, 43, 44, 45] (by decide +kernel) (by decide +kernel)
set_option maxRecDepth 20000 in
theorem gX3_force_X2_sideOf : GoodIn wsX3_force (wsV RX3 155 RX2 yX2_sideOf wsX2_sideOf) := goodIn_app (goodIn_of _ (by decide +kernel)) ggX3_force_X2_sideOf
set_option maxRecDepth 20000 in
theorem ggX3_force_X2_strengthAt : GoodIn wsX3_force wsX2_strengthAt := goodIn_r _ [26, 27, 28, 29, 15, 30, 31, 32, 33, 41, 42, 43, 44, 45] (by decide +kernel) (by decide +kernel)
set_option maxRecDepth 20000 in
theorem gX3_force_X2_strengthAt : GoodIn wsX3_force (wsV RX3 152 RX2 yX2_strengthAt wsX2_strengthAt) := goodIn_app (goodIn_of _ (by decide +kernel)) ggX3_force_X2_strengthAt
theorem dX3_force_0 : decode cX3_force 0 = .ok (.iload_n 1, 1) := by decide +kernel
theorem dX3_force_1 : decode cX3_force 1 = .ok (.invokestatic 162, 3) := by decide +kernel
theorem dX3_force_4 : decode cX3_force 4 = .ok (.iconst 0, 1) := by decide +kernel
theorem dX3_force_5 : decode cX3_force 5 = .ok (.istore_n 2, 1) := by decide +kernel
theorem dX3_force_6 : decode cX3_force 6 = .ok (.iconst 0, 1) := by decide +kernel
theorem dX3_force_7 : decode cX3_force 7 = .ok (.istore_n 3, 1) := by decide +kernel
theorem dX3_force_8 : decode cX3_force 8 = .ok (.iload_n 3, 1) := by decide +kernel
theorem dX3_force_9 : decode cX3_force 9 = .ok (.aload_n 0, 1) := by decide +kernel
theorem dX3_force_10 : decode cX3_force 10 = .ok (.getfield 23, 3) := by decide +kernel
theorem dX3_force_13 : decode cX3_force 13 = .ok (.invokevirtual 88, 3) := by decide +kernel
theorem dX3_force_16 : decode cX3_force 16 = .ok (.if_icmp .ge 36, 3) := by decide +kernel
theorem dX3_force_19 : decode cX3_force 19 = .ok (.aload_n 0, 1) := by decide +kernel
theorem dX3_force_20 : decode cX3_force 20 = .ok (.getfield 23, 3) := by decide +kernel
theorem dX3_force_23 : decode cX3_force 23 = .ok (.iload_n 3, 1) := by decide +kernel
theorem dX3_force_24 : decode cX3_force 24 = .ok (.invokevirtual 155, 3) := by decide +kernel
theorem dX3_force_27 : decode cX3_force 27 = .ok (.iload_n 1, 1) := by decide +kernel
theorem dX3_force_28 : decode cX3_force 28 = .ok (.if_icmp .ne 18, 3) := by decide +kernel
theorem dX3_force_31 : decode cX3_force 31 = .ok (.iload_n 2, 1) := by decide +kernel
theorem dX3_force_32 : decode cX3_force 32 = .ok (.aload_n 0, 1) := by decide +kernel
theorem dX3_force_33 : decode cX3_force 33 = .ok (.getfield 23, 3) := by decide +kernel
theorem dX3_force_36 : decode cX3_force 36 = .ok (.aload_n 0, 1) := by decide +kernel
theorem dX3_force_37 : decode cX3_force 37 = .ok (.getfield 40, 3) := by decide +kernel
theorem dX3_force_40 : decode cX3_force 40 = .ok (.iload_n 3, 1) := by decide +kernel
theorem dX3_force_41 : decode cX3_force 41 = .ok (.invokevirtual 152, 3) := by decide +kernel
theorem dX3_force_44 : decode cX3_force 44 = .ok (.iadd, 1) := by decide +kernel
theorem dX3_force_45 : decode cX3_force 45 = .ok (.istore_n 2, 1) := by decide +kernel
theorem dX3_force_46 : decode cX3_force 46 = .ok (.iinc 3 1, 3) := by decide +kernel
theorem dX3_force_49 : decode cX3_force 49 = .ok (.goto (-41), 3) := by decide +kernel
theorem dX3_force_52 : decode cX3_force 52 = .ok (.iload_n 2, 1) := by decide +kernel
theorem dX3_force_53 : decode cX3_force 53 = .ok (.ireturn, 1) := by decide +kernel
set_option maxRecDepth 20000 in
theorem ggX3_checkSide_X3_below : GoodIn wsX3_checkSide wsX3_below := goodIn_r _ [6] (by decide +kernel) (by decide +kernel)
set_option maxRecDepth 20000 in
theorem gX3_checkSide_X3_below : GoodIn wsX3_checkSide (va_wsS RX3 44 yX3_below wsX3_below) := goodIn_app (goodIn_of _ (by decide +kernel)) ggX3_checkSide_X3_below
theorem dX3_checkSide_0 : decode cX3_checkSide 0 = .ok (.iload_n 0, 1) := by decide +kernel
theorem dX3_checkSide_1 : decode cX3_checkSide 1 = .ok (.iconst 2, 1) := by decide +kernel
theorem dX3_checkSide_2 : decode cX3_checkSide 2 = .ok (.invokestatic 44, 3) := by decide +kernel
theorem dX3_checkSide_5 : decode cX3_checkSide 5 = .ok (.ifCond .ne 13, 3) := by decide +kernel
theorem dX3_checkSide_8 : decode cX3_checkSide 8 = .ok (.new 48, 3) := by decide +kernel
theorem dX3_checkSide_11 : decode cX3_checkSide 11 = .ok (.dup, 1) := by decide +kernel
theorem dX3_checkSide_12 : decode cX3_checkSide 12 = .ok (.ldc 176, 2) := by decide +kernel
theorem dX3_checkSide_14 : decode cX3_checkSide 14 = .ok (.invokespecial 52, 3) := by decide +kernel
theorem dX3_checkSide_17 : decode cX3_checkSide 17 = .ok (.athrow, 1) := by decide +kernel
theorem dX3_checkSide_18 : decode cX3_checkSide 18 = .ok (.return_, 1) := by decide +kernel
set_option maxRecDepth 20000 in
theorem ggX3_checkWeather_X3_below : GoodIn wsX3_checkWeather wsX3_below := goodIn_r _ [6] (by decide +kernel) (by decide +kernel)
set_option maxRecDepth 20000 in
theorem gX3_checkWeather_X3_below : GoodIn wsX3_checkWeather (va_wsS RX3 44 yX3_below wsX3_below) := goodIn_app (goodIn_of _ (by decide +kernel)) ggX3_checkWeather_X3_below
theorem dX3_checkWeather_0 : decode cX3_checkWeather 0 = .ok (.iload_n 0, 1) := by decide +kernel
theorem dX3_checkWeather_1 : decode cX3_checkWeather 1 = .ok (.iconst 3, 1) := by decide +kernel
theorem dX3_checkWeather_2 : decode cX3_checkWeather 2 = .ok (.invokestatic 44, 3) := by decide +kernel
theorem dX3_checkWeather_5 : decode cX3_checkWeather 5 = .ok (.ifCond .ne 13, 3) := by decide +kernel
theorem dX3_checkWeather_8 : decode cX3_checkWeather 8 = .ok (.new 48, 3) := by decide +kernel
theorem dX3_checkWeather_11 : decode cX3_checkWeather 11 = .ok (.dup, 1) := by decide +kernel
theorem dX3_checkWeather_12 : decode cX3_checkWeather 12 = .ok (.ldc 178, 2) := by decide +kernel
theorem dX3_checkWeather_14 : decode cX3_checkWeather 14 = .ok (.invokespecial 52, 3) := by decide +kernel
theorem dX3_checkWeather_17 : decode cX3_checkWeather 17 = .ok (.athrow, 1) := by decide +kernel
theorem dX3_checkWeather_18 : decode cX3_checkWeather 18 = .ok (.return_, 1) := by decide +kernel
set_option maxRecDepth 20000 in
theorem ggX3_checkUnit_X2_count : GoodIn wsX3_checkUnit wsX2_count := goodIn_r _ [8, 9, 21, 22, 23, 24, 25] (by decide +kernel) (by decide +kernel)
set_option maxRecDepth 20000 in
theorem gX3_checkUnit_X2_count : GoodIn wsX3_checkUnit (wsV RX3 88 RX2 yX2_count wsX2_count) := goodIn_app (goodIn_of _ (by decide +kernel)) ggX3_checkUnit_X2_count
set_option maxRecDepth 20000 in
theorem ggX3_checkUnit_X3_below : GoodIn wsX3_checkUnit wsX3_below := goodIn_r _ [13] (by decide +kernel) (by decide +kernel)
set_option maxRecDepth 20000 in
theorem gX3_checkUnit_X3_below : GoodIn wsX3_checkUnit (va_wsS RX3 44 yX3_below wsX3_below) := goodIn_app (goodIn_of _ (by decide +kernel)) ggX3_checkUnit_X3_below
theorem dX3_checkUnit_0 : decode cX3_checkUnit 0 = .ok (.iload_n 1, 1) := by decide +kernel
theorem dX3_checkUnit_1 : decode cX3_checkUnit 1 = .ok (.aload_n 0, 1) := by decide +kernel
theorem dX3_checkUnit_2 : decode cX3_checkUnit 2 = .ok (.getfield 23, 3) := by decide +kernel
theorem dX3_checkUnit_5 : decode cX3_checkUnit 5 = .ok (.invokevirtual 88, 3) := by decide +kernel
theorem dX3_checkUnit_8 : decode cX3_checkUnit 8 = .ok (.invokestatic 44, 3) := by decide +kernel
theorem dX3_checkUnit_11 : decode cX3_checkUnit 11 = .ok (.ifCond .ne 13, 3) := by decide +kernel
theorem dX3_checkUnit_14 : decode cX3_checkUnit 14 = .ok (.new 165, 3) := by decide +kernel
theorem dX3_checkUnit_17 : decode cX3_checkUnit 17 = .ok (.dup, 1) := by decide +kernel
theorem dX3_checkUnit_18 : decode cX3_checkUnit 18 = .ok (.ldc 180, 2) := by decide +kernel
theorem dX3_checkUnit_20 : decode cX3_checkUnit 20 = .ok (.invokespecial 169, 3) := by decide +kernel
theorem dX3_checkUnit_23 : decode cX3_checkUnit 23 = .ok (.athrow, 1) := by decide +kernel
theorem dX3_checkUnit_24 : decode cX3_checkUnit 24 = .ok (.return_, 1) := by decide +kernel
set_option maxRecDepth 20000 in
theorem ggX3_checkTurn_X3_below : GoodIn wsX3_checkTurn wsX3_below := goodIn_r _ [11] (by decide +kernel) (by decide +kernel)
set_option maxRecDepth 20000 in
theorem gX3_checkTurn_X3_below : GoodIn wsX3_checkTurn (va_wsS RX3 44 yX3_below wsX3_below) := goodIn_app (goodIn_of _ (by decide +kernel)) ggX3_checkTurn_X3_below
theorem dX3_checkTurn_0 : decode cX3_checkTurn 0 = .ok (.iload_n 1, 1) := by decide +kernel
theorem dX3_checkTurn_1 : decode cX3_checkTurn 1 = .ok (.aload_n 0, 1) := by decide +kernel
theorem dX3_checkTurn_2 : decode cX3_checkTurn 2 = .ok (.getfield 40, 3) := by decide +kernel
theorem dX3_checkTurn_5 : decode cX3_checkTurn 5 = .ok (.bipush 20, 2) := by decide +kernel
theorem dX3_checkTurn_7 : decode cX3_checkTurn 7 = .ok (.invokestatic 170, 3) := by decide +kernel
theorem dX3_checkTurn_10 : decode cX3_checkTurn 10 = .ok (.invokestatic 44, 3) := by decide +kernel
theorem dX3_checkTurn_13 : decode cX3_checkTurn 13 = .ok (.ifCond .ne 13, 3) := by decide +kernel
theorem dX3_checkTurn_16 : decode cX3_checkTurn 16 = .ok (.new 165, 3) := by decide +kernel
theorem dX3_checkTurn_19 : decode cX3_checkTurn 19 = .ok (.dup, 1) := by decide +kernel
theorem dX3_checkTurn_20 : decode cX3_checkTurn 20 = .ok (.ldc 182, 2) := by decide +kernel
theorem dX3_checkTurn_22 : decode cX3_checkTurn 22 = .ok (.invokespecial 169, 3) := by decide +kernel
theorem dX3_checkTurn_25 : decode cX3_checkTurn 25 = .ok (.athrow, 1) := by decide +kernel
theorem dX3_checkTurn_26 : decode cX3_checkTurn 26 = .ok (.return_, 1) := by decide +kernel
set_option maxRecDepth 20000 in
theorem ggX3_playFrom_X3_suppliedUnits : GoodIn wsX3_playFrom wsX3_suppliedUnits := goodIn_r _ [12, 13, 14, 15, 16, 11, 17, 18, 19, 20, 21, 22, 23, 24, 25, 26, 27, 28, 29, 30, 31, 32, 33, 34, 35, 36, 37, 38, 39, 40, 41, 42, 43, 44, 45, 46, 47, 48, 49, 50, 51, 52, 53, 54, 55, 56, 57, 58, 59, 60, 61, 62, 63, 64, 65, 66, 67, 68, 69, 70, 118, 119, 120, 121, 122, 123, 124, 125, 126, 127, 128, 129, 130, 131, 132] (by decide +kernel) (by decide +kernel)
set_option maxRecDepth 20000 in
theorem gX3_playFrom_X3_suppliedUnits : GoodIn wsX3_playFrom (wsV RX3 187 RX3 yX3_suppliedUnits wsX3_suppliedUnits) := goodIn_app (goodIn_of _ (by decide +kernel)) ggX3_playFrom_X3_suppliedUnits
set_option maxRecDepth 20000 in
theorem ggX3_playFrom_X3_goers : GoodIn wsX3_playFrom wsX3_goers := goodIn_r _ [74, 13, 19, 64, 65, 66, 29, 67, 31, 69, 33, 34, 35, 36, 37, 38, 39, 40, 41, 42, 75, 59, 60, 54, 61, 62, 63, 21, 11, 22, 70, 56, 57, 50, 48, 49, 76, 77, 78, 79, 80, 118, 119, 120, 121, 122, 123, 124, 125, 126, 127, 128, 129, 130, 131, 132] (by decide +kernel) (by decide +kernel)
set_option maxRecDepth 20000 in
theorem gX3_playFrom_X3_goers : GoodIn wsX3_playFrom (wsV RX3 190 RX3 yX3_goers wsX3_goers) := goodIn_app (goodIn_of _ (by decide +kernel)) ggX3_playFrom_X3_goers
set_option maxRecDepth 20000 in
theorem ggX3_playFrom_X3_march : GoodIn wsX3_playFrom wsX3_march := goodIn_r _ [84, 13, 64, 65, 66, 29, 67, 31, 70, 56, 11, 57, 50, 48, 49, 85, 86, 87, 88, 68, 44, 45, 46, 47, 21, 22, 69, 33, 34, 35, 36, 37, 38, 39, 40, 41, 42, 76, 77, 78, 79, 80, 89, 90, 91, 92, 93, 94, 95, 96, 97, 98, 2, 3, 4, 118, 119, 120, 121, 122, 123, 124, 125, 126, 127, 128, 129] (by decide +kernel) (by decide +kernel)
set_option maxRecDepth 20000 in
theorem gX3_playFrom_X3_march : GoodIn wsX3_playFrom (wsV RX3 193 RX3 yX3_march wsX3_march) := goodIn_app (goodIn_of _ (by decide +kernel)) ggX3_playFrom_X3_march
set_option maxRecDepth 20000 in
theorem ggX3_playFrom_X3_fightEverywhere : GoodIn wsX3_playFrom wsX3_fightEverywhere := goodIn_r _ [102, 13, 26, 27, 28, 29, 30, 31, 32, 33, 34, 35, 36, 37, 38, 39, 40, 41, 42, 43, 44, 45, 46, 47, 21, 11, 22, 48, 49, 70, 56, 57, 50, 103, 104, 105, 106, 107, 108, 109, 110, 64, 65, 66, 67, 68, 69, 89, 90, 91, 92, 93, 111, 112, 113, 94, 95, 96, 97, 98, 2, 3, 4, 118, 119, 120, 121, 122, 123, 124, 125, 126, 127, 128, 129] (by decide +kernel) (by decide +kernel)
set_option maxRecDepth 20000 in
theorem gX3_playFrom_X3_fightEverywhere : GoodIn wsX3_playFrom (wsV RX3 196 RX3 yX3_fightEverywhere wsX3_fightEverywhere) := goodIn_app (goodIn_of _ (by decide +kernel)) ggX3_playFrom_X3_fightEverywhere
set_option maxRecDepth 20000 in
theorem ggX3_playFrom_X3_unitsInSight : GoodIn wsX3_playFrom wsX3_unitsInSight := goodIn_r _ [117, 19, 13, 26, 27, 28, 29, 30, 31, 32, 33, 34, 35, 36, 37, 38, 39, 40, 41, 42, 43, 44, 45, 46, 47, 21, 11, 22, 48, 49, 51, 52, 53, 54, 55, 56, 57, 50, 58, 59, 60, 61, 62, 63, 64, 65, 66, 67, 68, 69, 70, 118, 119, 120, 121, 122, 123, 124, 125, 126, 127, 128, 129, 130, 131, 132] (by decide +kernel) (by decide +kernel)
set_option maxRecDepth 20000 in
theorem gX3_playFrom_X3_unitsInSight : GoodIn wsX3_playFrom (wsV RX3 199 RX3 yX3_unitsInSight wsX3_unitsInSight) := goodIn_app (goodIn_of _ (by decide +kernel)) ggX3_playFrom_X3_unitsInSight
theorem dX3_playFrom_0 : decode cX3_playFrom 0 = .ok (.iload_n 1, 1) := by decide +kernel
theorem dX3_playFrom_1 : decode cX3_playFrom 1 = .ok (.iconst 0, 1) := by decide +kernel
theorem dX3_playFrom_2 : decode cX3_playFrom 2 = .ok (.invokestatic 184, 3) := by decide +kernel
theorem dX3_playFrom_5 : decode cX3_playFrom 5 = .ok (.istore_n 2, 1) := by decide +kernel
theorem dX3_playFrom_6 : decode cX3_playFrom 6 = .ok (.iload_n 2, 1) := by decide +kernel
theorem dX3_playFrom_7 : decode cX3_playFrom 7 = .ok (.aload_n 0, 1) := by decide +kernel
theorem dX3_playFrom_8 : decode cX3_playFrom 8 = .ok (.getfield 40, 3) := by decide +kernel
theorem dX3_playFrom_11 : decode cX3_playFrom 11 = .ok (.if_icmp .ge 65, 3) := by decide +kernel
theorem dX3_playFrom_14 : decode cX3_playFrom 14 = .ok (.iload_n 2, 1) := by decide +kernel
theorem dX3_playFrom_15 : decode cX3_playFrom 15 = .ok (.bipush 20, 2) := by decide +kernel
theorem dX3_playFrom_17 : decode cX3_playFrom 17 = .ok (.if_icmp .ge 59, 3) := by decide +kernel
theorem dX3_playFrom_20 : decode cX3_playFrom 20 = .ok (.aload_n 0, 1) := by decide +kernel
theorem dX3_playFrom_21 : decode cX3_playFrom 21 = .ok (.getfield 27, 3) := by decide +kernel
theorem dX3_playFrom_24 : decode cX3_playFrom 24 = .ok (.iload_n 2, 1) := by decide +kernel
theorem dX3_playFrom_25 : decode cX3_playFrom 25 = .ok (.iaload, 1) := by decide +kernel
theorem dX3_playFrom_26 : decode cX3_playFrom 26 = .ok (.istore_n 3, 1) := by decide +kernel
theorem dX3_playFrom_27 : decode cX3_playFrom 27 = .ok (.aload_n 0, 1) := by decide +kernel
theorem dX3_playFrom_28 : decode cX3_playFrom 28 = .ok (.iload_n 2, 1) := by decide +kernel
theorem dX3_playFrom_29 : decode cX3_playFrom 29 = .ok (.iload_n 3, 1) := by decide +kernel
theorem dX3_playFrom_30 : decode cX3_playFrom 30 = .ok (.invokevirtual 187, 3) := by decide +kernel
theorem dX3_playFrom_33 : decode cX3_playFrom 33 = .ok (.istore 4, 2) := by decide +kernel
theorem dX3_playFrom_35 : decode cX3_playFrom 35 = .ok (.aload_n 0, 1) := by decide +kernel
theorem dX3_playFrom_36 : decode cX3_playFrom 36 = .ok (.iload_n 2, 1) := by decide +kernel
theorem dX3_playFrom_37 : decode cX3_playFrom 37 = .ok (.aload_n 0, 1) := by decide +kernel
theorem dX3_playFrom_38 : decode cX3_playFrom 38 = .ok (.iload_n 2, 1) := by decide +kernel
theorem dX3_playFrom_39 : decode cX3_playFrom 39 = .ok (.iload_n 3, 1) := by decide +kernel
theorem dX3_playFrom_40 : decode cX3_playFrom 40 = .ok (.iload 4, 2) := by decide +kernel
theorem dX3_playFrom_42 : decode cX3_playFrom 42 = .ok (.invokevirtual 190, 3) := by decide +kernel
theorem dX3_playFrom_45 : decode cX3_playFrom 45 = .ok (.invokevirtual 193, 3) := by decide +kernel
theorem dX3_playFrom_48 : decode cX3_playFrom 48 = .ok (.aload_n 0, 1) := by decide +kernel
theorem dX3_playFrom_49 : decode cX3_playFrom 49 = .ok (.iload_n 2, 1) := by decide +kernel
theorem dX3_playFrom_50 : decode cX3_playFrom 50 = .ok (.iconst 1, 1) := by decide +kernel
theorem dX3_playFrom_51 : decode cX3_playFrom 51 = .ok (.iadd, 1) := by decide +kernel
theorem dX3_playFrom_52 : decode cX3_playFrom 52 = .ok (.iload 4, 2) := by decide +kernel
theorem dX3_playFrom_54 : decode cX3_playFrom 54 = .ok (.invokevirtual 196, 3) := by decide +kernel
theorem dX3_playFrom_57 : decode cX3_playFrom 57 = .ok (.aload_n 0, 1) := by decide +kernel
theorem dX3_playFrom_58 : decode cX3_playFrom 58 = .ok (.getfield 30, 3) := by decide +kernel
theorem dX3_playFrom_61 : decode cX3_playFrom 61 = .ok (.iload_n 2, 1) := by decide +kernel
theorem dX3_playFrom_62 : decode cX3_playFrom 62 = .ok (.aload_n 0, 1) := by decide +kernel
theorem dX3_playFrom_63 : decode cX3_playFrom 63 = .ok (.iload_n 2, 1) := by decide +kernel
theorem dX3_playFrom_64 : decode cX3_playFrom 64 = .ok (.iconst 1, 1) := by decide +kernel
theorem dX3_playFrom_65 : decode cX3_playFrom 65 = .ok (.iadd, 1) := by decide +kernel
theorem dX3_playFrom_66 : decode cX3_playFrom 66 = .ok (.invokevirtual 199, 3) := by decide +kernel
theorem dX3_playFrom_69 : decode cX3_playFrom 69 = .ok (.iastore, 1) := by decide +kernel
theorem dX3_playFrom_70 : decode cX3_playFrom 70 = .ok (.iinc 2 1, 3) := by decide +kernel
theorem dX3_playFrom_73 : decode cX3_playFrom 73 = .ok (.goto (-67), 3) := by decide +kernel
theorem dX3_playFrom_76 : decode cX3_playFrom 76 = .ok (.return_, 1) := by decide +kernel
set_option maxRecDepth 20000 in
theorem ggX3_suppliedTowns_X3_below : GoodIn wsX3_suppliedTowns wsX3_below := goodIn_r _ [7] (by decide +kernel) (by decide +kernel)
set_option maxRecDepth 20000 in
theorem gX3_suppliedTowns_X3_below : GoodIn wsX3_suppliedTowns (va_wsS RX3 44 yX3_below wsX3_below) := goodIn_app (goodIn_of _ (by decide +kernel)) ggX3_suppliedTowns_X3_below
set_option maxRecDepth 20000 in
theorem ggX3_suppliedTowns_X3_opponent : GoodIn wsX3_suppliedTowns wsX3_opponent := goodIn_r _ [10] (by decide +kernel) (by decide +kernel)
set_option maxRecDepth 20000 in
theorem gX3_suppliedTowns_X3_opponent : GoodIn wsX3_suppliedTowns (va_wsS RX3 77 yX3_opponent wsX3_opponent) := goodIn_app (goodIn_of _ (by decide +kernel)) ggX3_suppliedTowns_X3_opponent
set_option maxRecDepth 20000 in
theorem ggX3_suppliedTowns_X2_townsHeld : GoodIn wsX3_suppliedTowns wsX2_townsHeld := goodIn_r _ [15, 16, 17, 18, 19, 14, 20, 21, 22, 23, 24, 25, 26, 27, 28, 29, 30, 31, 32, 5, 6, 7, 33, 34, 56, 57, 58, 59, 60] (by decide +kernel) (by decide +kernel)
set_option maxRecDepth 20000 in
theorem gX3_suppliedTowns_X2_townsHeld : GoodIn wsX3_suppliedTowns (wsV RX3 81 RX2 yX2_townsHeld wsX2_townsHeld) := goodIn_app (goodIn_of _ (by decide +kernel)) ggX3_suppliedTowns_X2_townsHeld
set_option maxRecDepth 20000 in
theorem ggX3_suppliedTowns_X3_bit : GoodIn wsX3_suppliedTowns wsX3_bit := goodIn_r _ [34] (by decide +kernel) (by decide +kernel)
set_option maxRecDepth 20000 in
theorem gX3_suppliedTowns_X3_bit : GoodIn wsX3_suppliedTowns (va_wsS RX3 202 yX3_bit wsX3_bit) := goodIn_app (goodIn_of _ (by decide +kernel)) ggX3_suppliedTowns_X3_bit
set_option maxRecDepth 20000 in
theorem ggX3_suppliedTowns_X0_widened : GoodIn wsX3_suppliedTowns wsX0_widened := goodIn_r _ [40, 41, 6, 42, 35, 33, 34, 43, 44, 45, 39, 46, 47, 48, 5, 7, 61, 62, 63] (by decide +kernel) (by decide +kernel)
set_option maxRecDepth 20000 in
theorem gX3_suppliedTowns_X0_widened : GoodIn wsX3_suppliedTowns (wsV RX3 205 RX0 yX0_widened wsX0_widened) := goodIn_app (goodIn_of _ (by decide +kernel)) ggX3_suppliedTowns_X0_widened
theorem dX3_suppliedTowns_0 : decode cX3_suppliedTowns 0 = .ok (.iload_n 2, 1) := by decide +kernel
theorem dX3_suppliedTowns_1 : decode cX3_suppliedTowns 1 = .ok (.iconst 2, 1) := by decide +kernel
theorem dX3_suppliedTowns_2 : decode cX3_suppliedTowns 2 = .ok (.invokestatic 44, 3) := by decide +kernel
theorem dX3_suppliedTowns_5 : decode cX3_suppliedTowns 5 = .ok (.ifCond .ne 5, 3) := by decide +kernel
theorem dX3_suppliedTowns_8 : decode cX3_suppliedTowns 8 = .ok (.iconst 0, 1) := by decide +kernel
theorem dX3_suppliedTowns_9 : decode cX3_suppliedTowns 9 = .ok (.ireturn, 1) := by decide +kernel
theorem dX3_suppliedTowns_10 : decode cX3_suppliedTowns 10 = .ok (.aload_n 0, 1) := by decide +kernel
theorem dX3_suppliedTowns_11 : decode cX3_suppliedTowns 11 = .ok (.getfield 23, 3) := by decide +kernel
theorem dX3_suppliedTowns_14 : decode cX3_suppliedTowns 14 = .ok (.iload_n 1, 1) := by decide +kernel
theorem dX3_suppliedTowns_15 : decode cX3_suppliedTowns 15 = .ok (.iload_n 2, 1) := by decide +kernel
theorem dX3_suppliedTowns_16 : decode cX3_suppliedTowns 16 = .ok (.invokestatic 77, 3) := by decide +kernel
theorem dX3_suppliedTowns_19 : decode cX3_suppliedTowns 19 = .ok (.invokevirtual 81, 3) := by decide +kernel
theorem dX3_suppliedTowns_22 : decode cX3_suppliedTowns 22 = .ok (.iconst (-1), 1) := by decide +kernel
theorem dX3_suppliedTowns_23 : decode cX3_suppliedTowns 23 = .ok (.ixor, 1) := by decide +kernel
theorem dX3_suppliedTowns_24 : decode cX3_suppliedTowns 24 = .ok (.istore 5, 2) := by decide +kernel
theorem dX3_suppliedTowns_26 : decode cX3_suppliedTowns 26 = .ok (.aload_n 0, 1) := by decide +kernel
theorem dX3_suppliedTowns_27 : decode cX3_suppliedTowns 27 = .ok (.getfield 16, 3) := by decide +kernel
theorem dX3_suppliedTowns_30 : decode cX3_suppliedTowns 30 = .ok (.iload_n 2, 1) := by decide +kernel
theorem dX3_suppliedTowns_31 : decode cX3_suppliedTowns 31 = .ok (.iaload, 1) := by decide +kernel
theorem dX3_suppliedTowns_32 : decode cX3_suppliedTowns 32 = .ok (.invokestatic 202, 3) := by decide +kernel
theorem dX3_suppliedTowns_35 : decode cX3_suppliedTowns 35 = .ok (.iload 5, 2) := by decide +kernel
theorem dX3_suppliedTowns_37 : decode cX3_suppliedTowns 37 = .ok (.iand, 1) := by decide +kernel
theorem dX3_suppliedTowns_38 : decode cX3_suppliedTowns 38 = .ok (.istore 6, 2) := by decide +kernel
theorem dX3_suppliedTowns_40 : decode cX3_suppliedTowns 40 = .ok (.iconst 0, 1) := by decide +kernel
theorem dX3_suppliedTowns_41 : decode cX3_suppliedTowns 41 = .ok (.istore 7, 2) := by decide +kernel
theorem dX3_suppliedTowns_43 : decode cX3_suppliedTowns 43 = .ok (.iload 7, 2) := by decide +kernel
theorem dX3_suppliedTowns_45 : decode cX3_suppliedTowns 45 = .ok (.iload 4, 2) := by decide +kernel
theorem dX3_suppliedTowns_47 : decode cX3_suppliedTowns 47 = .ok (.if_icmp .ge 24, 3) := by decide +kernel
theorem dX3_suppliedTowns_50 : decode cX3_suppliedTowns 50 = .ok (.aload_n 0, 1) := by decide +kernel
theorem dX3_suppliedTowns_51 : decode cX3_suppliedTowns 51 = .ok (.getfield 12, 3) := by decide +kernel
theorem dX3_suppliedTowns_54 : decode cX3_suppliedTowns 54 = .ok (.iload 6, 2) := by decide +kernel
theorem dX3_suppliedTowns_56 : decode cX3_suppliedTowns 56 = .ok (.iload_n 3, 1) := by decide +kernel
theorem dX3_suppliedTowns_57 : decode cX3_suppliedTowns 57 = .ok (.invokevirtual 205, 3) := by decide +kernel
theorem dX3_suppliedTowns_60 : decode cX3_suppliedTowns 60 = .ok (.iload 5, 2) := by decide +kernel
theorem dX3_suppliedTowns_62 : decode cX3_suppliedTowns 62 = .ok (.iand, 1) := by decide +kernel
theorem dX3_suppliedTowns_63 : decode cX3_suppliedTowns 63 = .ok (.istore 6, 2) := by decide +kernel
theorem dX3_suppliedTowns_65 : decode cX3_suppliedTowns 65 = .ok (.iinc 7 1, 3) := by decide +kernel
theorem dX3_suppliedTowns_68 : decode cX3_suppliedTowns 68 = .ok (.goto (-25), 3) := by decide +kernel
theorem dX3_suppliedTowns_71 : decode cX3_suppliedTowns 71 = .ok (.iload 6, 2) := by decide +kernel
theorem dX3_suppliedTowns_73 : decode cX3_suppliedTowns 73 = .ok (.ireturn, 1) := by decide +kernel
set_option maxRecDepth 20000 in
theorem ggX3_suppliedUnits_X3_suppliedTowns : GoodIn wsX3_suppliedUnits wsX3_suppliedTowns := goodIn_r _ [6, 1, 7, 8, 9, 10, 5, 11, 12, 13, 14, 15, 16, 17, 18, 19, 20, 21, 22, 23, 24, 25, 26, 27, 28, 29, 30, 31, 32, 33, 34, 35, 36, 37, 38, 39, 40, 41, 42, 43, 44, 45, 46, 47, 48, 49, 50, 51, 52, 60, 61, 62, 63, 64, 65, 66, 67, 68, 69, 70, 71, 72, 73, 74] (by decide +kernel) (by decide +kernel)
set_option maxRecDepth 20000 in
theorem gX3_suppliedUnits_X3_suppliedTowns : GoodIn wsX3_suppliedUnits (wsV RX3 158 RX3 yX3_suppliedTowns wsX3_suppliedTowns) := goodIn_app (goodIn_of _ (by decide +kernel)) ggX3_suppliedUnits_X3_suppliedTowns
set_option maxRecDepth 20000 in
theorem ggX3_suppliedUnits_X2_count : GoodIn wsX3_suppliedUnits wsX2_count := goodIn_r _ [56, 20, 67, 68, 69, 70, 71] (by decide +kernel) (by decide +kernel)
set_option maxRecDepth 20000 in
theorem gX3_suppliedUnits_X2_count : GoodIn wsX3_suppliedUnits (wsV RX3 88 RX2 yX2_count wsX2_count) := goodIn_app (goodIn_of _ (by decide +kernel)) ggX3_suppliedUnits_X2_count
set_option maxRecDepth 20000 in
theorem ggX3_suppliedUnits_X2_sideOf : GoodIn wsX3_suppliedUnits wsX2_sideOf := goodIn_r _ [35, 36, 10, 5, 11, 67, 68, 69, 70, 71] (by decide +kernel) (by decide +kernel)
set_option maxRecDepth 20000 in
theorem gX3_suppliedUnits_X2_sideOf : GoodIn wsX3_suppliedUnits (wsV RX3 155 RX2 yX2_sideOf wsX2_sideOf) := goodIn_app (goodIn_of _ (by decide +kernel)) ggX3_suppliedUnits_X2_sideOf
set_option maxRecDepth 20000 in
theorem ggX3_suppliedUnits_X2_townAt : GoodIn wsX3_suppliedUnits wsX2_townAt := goodIn_r _ [24, 25, 26, 27, 18, 28, 29, 30, 31, 67, 68, 69, 70, 71] (by decide +kernel) (by decide +kernel)
set_option maxRecDepth 20000 in
theorem gX3_suppliedUnits_X2_townAt : GoodIn wsX3_suppliedUnits (wsV RX3 149 RX2 yX2_townAt wsX2_townAt) := goodIn_app (goodIn_of _ (by decide +kernel)) ggX3_suppliedUnits_X2_townAt
set_option maxRecDepth 20000 in
theorem ggX3_suppliedUnits_X3_has : GoodIn wsX3_suppliedUnits wsX3_has := goodIn_r _ [46, 39, 37, 5, 38] (by decide +kernel) (by decide +kernel)
set_option maxRecDepth 20000 in
theorem gX3_suppliedUnits_X3_has : GoodIn wsX3_suppliedUnits (va_wsS RX3 85 yX3_has wsX3_has) := goodIn_app (goodIn_of _ (by decide +kernel)) ggX3_suppliedUnits_X3_has
set_option maxRecDepth 20000 in
theorem ggX3_suppliedUnits_X3_bit : GoodIn wsX3_suppliedUnits wsX3_bit := goodIn_r _ [38] (by decide +kernel) (by decide +kernel)
set_option maxRecDepth 20000 in
theorem gX3_suppliedUnits_X3_bit : GoodIn wsX3_suppliedUnits (va_wsS RX3 202 yX3_bit wsX3_bit) := goodIn_app (goodIn_of _ (by decide +kernel)) ggX3_suppliedUnits_X3_bit
theorem dX3_suppliedUnits_0 : decode cX3_suppliedUnits 0 = .ok (.aload_n 0, 1) := by decide +kernel
theorem dX3_suppliedUnits_1 : decode cX3_suppliedUnits 1 = .ok (.iload_n 1, 1) := by decide +kernel
theorem dX3_suppliedUnits_2 : decode cX3_suppliedUnits 2 = .ok (.iconst 0, 1) := by decide +kernel
theorem dX3_suppliedUnits_3 : decode cX3_suppliedUnits 3 = .ok (.iload_n 2, 1) := by decide +kernel
theorem dX3_suppliedUnits_4 : decode cX3_suppliedUnits 4 = .ok (.iconst 4, 1) := by decide +kernel
theorem dX3_suppliedUnits_5 : decode cX3_suppliedUnits 5 = .ok (.invokevirtual 158, 3) := by decide +kernel
theorem dX3_suppliedUnits_8 : decode cX3_suppliedUnits 8 = .ok (.istore_n 3, 1) := by decide +kernel
theorem dX3_suppliedUnits_9 : decode cX3_suppliedUnits 9 = .ok (.aload_n 0, 1) := by decide +kernel
theorem dX3_suppliedUnits_10 : decode cX3_suppliedUnits 10 = .ok (.iload_n 1, 1) := by decide +kernel
theorem dX3_suppliedUnits_11 : decode cX3_suppliedUnits 11 = .ok (.iconst 1, 1) := by decide +kernel
theorem dX3_suppliedUnits_12 : decode cX3_suppliedUnits 12 = .ok (.iload_n 2, 1) := by decide +kernel
theorem dX3_suppliedUnits_13 : decode cX3_suppliedUnits 13 = .ok (.iconst 4, 1) := by decide +kernel
theorem dX3_suppliedUnits_14 : decode cX3_suppliedUnits 14 = .ok (.invokevirtual 158, 3) := by decide +kernel
theorem dX3_suppliedUnits_17 : decode cX3_suppliedUnits 17 = .ok (.istore 4, 2) := by decide +kernel
theorem dX3_suppliedUnits_19 : decode cX3_suppliedUnits 19 = .ok (.iconst 0, 1) := by decide +kernel
theorem dX3_suppliedUnits_20 : decode cX3_suppliedUnits 20 = .ok (.istore 5, 2) := by decide +kernel
theorem dX3_suppliedUnits_22 : decode cX3_suppliedUnits 22 = .ok (.iconst 0, 1) := by decide +kernel
theorem dX3_suppliedUnits_23 : decode cX3_suppliedUnits 23 = .ok (.istore 6, 2) := by decide +kernel
theorem dX3_suppliedUnits_25 : decode cX3_suppliedUnits 25 = .ok (.iload 6, 2) := by decide +kernel
theorem dX3_suppliedUnits_27 : decode cX3_suppliedUnits 27 = .ok (.aload_n 0, 1) := by decide +kernel
theorem dX3_suppliedUnits_28 : decode cX3_suppliedUnits 28 = .ok (.getfield 23, 3) := by decide +kernel
theorem dX3_suppliedUnits_31 : decode cX3_suppliedUnits 31 = .ok (.invokevirtual 88, 3) := by decide +kernel
theorem dX3_suppliedUnits_34 : decode cX3_suppliedUnits 34 = .ok (.if_icmp .ge 53, 3) := by decide +kernel
theorem dX3_suppliedUnits_37 : decode cX3_suppliedUnits 37 = .ok (.aload_n 0, 1) := by decide +kernel
theorem dX3_suppliedUnits_38 : decode cX3_suppliedUnits 38 = .ok (.getfield 23, 3) := by decide +kernel
theorem dX3_suppliedUnits_41 : decode cX3_suppliedUnits 41 = .ok (.iload 6, 2) := by decide +kernel
theorem dX3_suppliedUnits_43 : decode cX3_suppliedUnits 43 = .ok (.invokevirtual 155, 3) := by decide +kernel
theorem dX3_suppliedUnits_46 : decode cX3_suppliedUnits 46 = .ok (.ifCond .ne 7, 3) := by decide +kernel
theorem dX3_suppliedUnits_49 : decode cX3_suppliedUnits 49 = .ok (.iload_n 3, 1) := by decide +kernel
theorem dX3_suppliedUnits_50 : decode cX3_suppliedUnits 50 = .ok (.goto 5, 3) := by decide +kernel
theorem dX3_suppliedUnits_53 : decode cX3_suppliedUnits 53 = .ok (.iload 4, 2) := by decide +kernel
theorem dX3_suppliedUnits_55 : decode cX3_suppliedUnits 55 = .ok (.aload_n 0, 1) := by decide +kernel
theorem dX3_suppliedUnits_56 : decode cX3_suppliedUnits 56 = .ok (.getfield 23, 3) := by decide +kernel
theorem dX3_suppliedUnits_59 : decode cX3_suppliedUnits 59 = .ok (.iload_n 1, 1) := by decide +kernel
theorem dX3_suppliedUnits_60 : decode cX3_suppliedUnits 60 = .ok (.iload 6, 2) := by decide +kernel
theorem dX3_suppliedUnits_62 : decode cX3_suppliedUnits 62 = .ok (.invokevirtual 149, 3) := by decide +kernel
theorem dX3_suppliedUnits_65 : decode cX3_suppliedUnits 65 = .ok (.invokestatic 85, 3) := by decide +kernel
theorem dX3_suppliedUnits_68 : decode cX3_suppliedUnits 68 = .ok (.ifCond .eq 13, 3) := by decide +kernel
theorem dX3_suppliedUnits_71 : decode cX3_suppliedUnits 71 = .ok (.iload 5, 2) := by decide +kernel
theorem dX3_suppliedUnits_73 : decode cX3_suppliedUnits 73 = .ok (.iload 6, 2) := by decide +kernel
theorem dX3_suppliedUnits_75 : decode cX3_suppliedUnits 75 = .ok (.invokestatic 202, 3) := by decide +kernel
theorem dX3_suppliedUnits_78 : decode cX3_suppliedUnits 78 = .ok (.ior, 1) := by decide +kernel
theorem dX3_suppliedUnits_79 : decode cX3_suppliedUnits 79 = .ok (.istore 5, 2) := by decide +kernel
theorem dX3_suppliedUnits_81 : decode cX3_suppliedUnits 81 = .ok (.iinc 6 1, 3) := by decide +kernel
theorem dX3_suppliedUnits_84 : decode cX3_suppliedUnits 84 = .ok (.goto (-59), 3) := by decide +kernel
theorem dX3_suppliedUnits_87 : decode cX3_suppliedUnits 87 = .ok (.iload 5, 2) := by decide +kernel
theorem dX3_suppliedUnits_89 : decode cX3_suppliedUnits 89 = .ok (.ireturn, 1) := by decide +kernel
set_option maxRecDepth 20000 in
theorem ggX3_goers_X2_count : GoodIn wsX3_goers wsX2_count := goodIn_r _ [7, 8, 48, 49, 50, 51, 52] (by decide +kernel) (by decide +kernel)
set_option maxRecDepth 20000 in
theorem gX3_goers_X2_count : GoodIn wsX3_goers (wsV RX3 88 RX2 yX2_count wsX2_count) := goodIn_app (goodIn_of _ (by decide +kernel)) ggX3_goers_X2_count
set_option maxRecDepth 20000 in
theorem ggX3_goers_X2_townAt : GoodIn wsX3_goers wsX2_townAt := goodIn_r _ [12, 13, 14, 15, 6, 16, 17, 18, 19, 48, 49, 50, 51, 52] (by decide +kernel) (by decide +kernel)
set_option maxRecDepth 20000 in
theorem gX3_goers_X2_townAt : GoodIn wsX3_goers (wsV RX3 149 RX2 yX2_townAt wsX2_townAt) := goodIn_app (goodIn_of _ (by decide +kernel)) ggX3_goers_X2_townAt
set_option maxRecDepth 20000 in
theorem ggX3_goers_X0_nextOverOpen : GoodIn wsX3_goers wsX0_nextOverOpen := goodIn_r _ [24, 25, 26, 27, 28, 29, 53, 54, 55] (by decide +kernel) (by decide +kernel)
set_option maxRecDepth 20000 in
theorem gX3_goers_X0_nextOverOpen : GoodIn wsX3_goers (wsV RX3 208 RX0 yX0_nextOverOpen wsX0_nextOverOpen) := goodIn_app (goodIn_of _ (by decide +kernel)) ggX3_goers_X0_nextOverOpen
set_option maxRecDepth 20000 in
theorem ggX3_goers_X3_has : GoodIn wsX3_goers wsX3_has := goodIn_r _ [32, 33, 34, 28, 35] (by decide +kernel) (by decide +kernel)
set_option maxRecDepth 20000 in
theorem gX3_goers_X3_has : GoodIn wsX3_goers (va_wsS RX3 85 yX3_has wsX3_has) := goodIn_app (goodIn_of _ (by decide +kernel)) ggX3_goers_X3_has
set_option maxRecDepth 20000 in
theorem ggX3_goers_X2_orderFor : GoodIn wsX3_goers wsX2_orderFor := goodIn_r _ [39, 40, 14, 15, 6, 16, 17, 18, 19, 48, 49, 50, 51, 52] (by decide +kernel) (by decide +kernel)
set_option maxRecDepth 20000 in
theorem gX3_goers_X2_orderFor : GoodIn wsX3_goers (wsV RX3 103 RX2 yX2_orderFor wsX2_orderFor) := goodIn_app (goodIn_of _ (by decide +kernel)) ggX3_goers_X2_orderFor
set_option maxRecDepth 20000 in
theorem ggX3_goers_X3_bit : GoodIn wsX3_goers wsX3_bit := goodIn_r _ [35] (by decide +kernel) (by decide +kernel)
set_option maxRecDepth 20000 in
theorem gX3_goers_X3_bit : GoodIn wsX3_goers (va_wsS RX3 202 yX3_bit wsX3_bit) := goodIn_app (goodIn_of _ (by decide +kernel)) ggX3_goers_X3_bit
theorem dX3_goers_0 : decode cX3_goers 0 = .ok (.iconst 0, 1) := by decide +kernel
theorem dX3_goers_1 : decode cX3_goers 1 = .ok (.istore 4, 2) := by decide +kernel
theorem dX3_goers_3 : decode cX3_goers 3 = .ok (.iconst 0, 1) := by decide +kernel
theorem dX3_goers_4 : decode cX3_goers 4 = .ok (.istore 5, 2) := by decide +kernel
theorem dX3_goers_6 : decode cX3_goers 6 = .ok (.iload 5, 2) := by decide +kernel
theorem dX3_goers_8 : decode cX3_goers 8 = .ok (.aload_n 0, 1) := by decide +kernel
theorem dX3_goers_9 : decode cX3_goers 9 = .ok (.getfield 23, 3) := by decide +kernel
theorem dX3_goers_12 : decode cX3_goers 12 = .ok (.invokevirtual 88, 3) := by decide +kernel
theorem dX3_goers_15 : decode cX3_goers 15 = .ok (.if_icmp .ge 66, 3) := by decide +kernel
theorem dX3_goers_18 : decode cX3_goers 18 = .ok (.aload_n 0, 1) := by decide +kernel
theorem dX3_goers_19 : decode cX3_goers 19 = .ok (.getfield 12, 3) := by decide +kernel
theorem dX3_goers_22 : decode cX3_goers 22 = .ok (.aload_n 0, 1) := by decide +kernel
theorem dX3_goers_23 : decode cX3_goers 23 = .ok (.getfield 23, 3) := by decide +kernel
theorem dX3_goers_26 : decode cX3_goers 26 = .ok (.iload_n 1, 1) := by decide +kernel
theorem dX3_goers_27 : decode cX3_goers 27 = .ok (.iload 5, 2) := by decide +kernel
theorem dX3_goers_29 : decode cX3_goers 29 = .ok (.invokevirtual 149, 3) := by decide +kernel
theorem dX3_goers_32 : decode cX3_goers 32 = .ok (.iload_n 2, 1) := by decide +kernel
theorem dX3_goers_33 : decode cX3_goers 33 = .ok (.invokevirtual 208, 3) := by decide +kernel
theorem dX3_goers_36 : decode cX3_goers 36 = .ok (.istore 6, 2) := by decide +kernel
theorem dX3_goers_38 : decode cX3_goers 38 = .ok (.iload_n 3, 1) := by decide +kernel
theorem dX3_goers_39 : decode cX3_goers 39 = .ok (.iload 5, 2) := by decide +kernel
theorem dX3_goers_41 : decode cX3_goers 41 = .ok (.invokestatic 85, 3) := by decide +kernel
theorem dX3_goers_44 : decode cX3_goers 44 = .ok (.ifCond .eq 31, 3) := by decide +kernel
theorem dX3_goers_47 : decode cX3_goers 47 = .ok (.iload 6, 2) := by decide +kernel
theorem dX3_goers_49 : decode cX3_goers 49 = .ok (.aload_n 0, 1) := by decide +kernel
theorem dX3_goers_50 : decode cX3_goers 50 = .ok (.getfield 23, 3) := by decide +kernel
theorem dX3_goers_53 : decode cX3_goers 53 = .ok (.iload_n 1, 1) := by decide +kernel
theorem dX3_goers_54 : decode cX3_goers 54 = .ok (.iload 5, 2) := by decide +kernel
theorem dX3_goers_56 : decode cX3_goers 56 = .ok (.invokevirtual 103, 3) := by decide +kernel
theorem dX3_goers_59 : decode cX3_goers 59 = .ok (.invokestatic 85, 3) := by decide +kernel
theorem dX3_goers_62 : decode cX3_goers 62 = .ok (.ifCond .eq 13, 3) := by decide +kernel
theorem dX3_goers_65 : decode cX3_goers 65 = .ok (.iload 4, 2) := by decide +kernel
theorem dX3_goers_67 : decode cX3_goers 67 = .ok (.iload 5, 2) := by decide +kernel
theorem dX3_goers_69 : decode cX3_goers 69 = .ok (.invokestatic 202, 3) := by decide +kernel
theorem dX3_goers_72 : decode cX3_goers 72 = .ok (.ior, 1) := by decide +kernel
theorem dX3_goers_73 : decode cX3_goers 73 = .ok (.istore 4, 2) := by decide +kernel
theorem dX3_goers_75 : decode cX3_goers 75 = .ok (.iinc 5 1, 3) := by decide +kernel
theorem dX3_goers_78 : decode cX3_goers 78 = .ok (.goto (-72), 3) := by decide +kernel
theorem dX3_goers_81 : decode cX3_goers 81 = .ok (.iload 4, 2) := by decide +kernel
theorem dX3_goers_83 : decode cX3_goers 83 = .ok (.ireturn, 1) := by decide +kernel
set_option maxRecDepth 20000 in
theorem ggX3_march_X2_count : GoodIn wsX3_march wsX2_count := goodIn_r _ [6, 7, 62, 63, 64, 65, 66] (by decide +kernel) (by decide +kernel)
set_option maxRecDepth 20000 in
theorem gX3_march_X2_count : GoodIn wsX3_march (wsV RX3 88 RX2 yX2_count wsX2_count) := goodIn_app (goodIn_of _ (by decide +kernel)) ggX3_march_X2_count
set_option maxRecDepth 20000 in
theorem ggX3_march_X3_has : GoodIn wsX3_march wsX3_has := goodIn_r _ [11, 12, 13, 10, 14] (by decide +kernel) (by decide +kernel)
set_option maxRecDepth 20000 in
theorem gX3_march_X3_has : GoodIn wsX3_march (va_wsS RX3 85 yX3_has wsX3_has) := goodIn_app (goodIn_of _ (by decide +kernel)) ggX3_march_X3_has
set_option maxRecDepth 20000 in
theorem ggX3_march_X3_isMetOnRoad : GoodIn wsX3_march wsX3_isMetOnRoad := goodIn_r _ [18, 1, 2, 3, 4, 5, 6, 7, 8, 9, 10, 11, 12, 13, 14, 19, 20, 21, 22, 23, 24, 25, 26, 27, 28, 29, 30, 31, 32, 33, 34, 35, 36, 37, 38, 39, 40, 41, 55, 56, 57, 58, 59, 60, 61, 62, 63, 64, 65, 66] (by decide +kernel) (by decide +kernel)
set_option maxRecDepth 20000 in
theorem gX3_march_X3_isMetOnRoad : GoodIn wsX3_march (wsV RX3 211 RX3 yX3_isMetOnRoad wsX3_isMetOnRoad) := goodIn_app (goodIn_of _ (by decide +kernel)) ggX3_march_X3_isMetOnRoad
set_option maxRecDepth 20000 in
theorem ggX3_march_X2_orderFor : GoodIn wsX3_march wsX2_orderFor := goodIn_r _ [40, 41, 31, 32, 5, 33, 34, 35, 36, 62, 63, 64, 65, 66] (by decide +kernel) (by decide +kernel)
set_option maxRecDepth 20000 in
theorem gX3_march_X2_orderFor : GoodIn wsX3_march (wsV RX3 103 RX2 yX2_orderFor wsX2_orderFor) := goodIn_app (goodIn_of _ (by decide +kernel)) ggX3_march_X2_orderFor
set_option maxRecDepth 20000 in
theorem ggX3_march_X2_townAt : GoodIn wsX3_march wsX2_townAt := goodIn_r _ [29, 30, 31, 32, 5, 33, 34, 35, 36, 62, 63, 64, 65, 66] (by decide +kernel) (by decide +kernel)
set_option maxRecDepth 20000 in
theorem gX3_march_X2_townAt : GoodIn wsX3_march (wsV RX3 149 RX2 yX2_townAt wsX2_townAt) := goodIn_app (goodIn_of _ (by decide +kernel)) ggX3_march_X2_townAt
set_option maxRecDepth 20000 in
theorem ggX3_march_X2_strengthAt : GoodIn wsX3_march wsX2_strengthAt := goodIn_r _ [45, 46, 31, 32, 5, 33, 34, 35, 36, 62, 63, 64, 65, 66] (by decide +kernel) (by decide +kernel)
set_option maxRecDepth 20000 in
theorem gX3_march_X2_strengthAt : GoodIn wsX3_march (wsV RX3 152 RX2 yX2_strengthAt wsX2_strengthAt) := goodIn_app (goodIn_of _ (by decide +kernel)) ggX3_march_X2_strengthAt
set_option maxRecDepth 20000 in
theorem ggX3_march_X2_place : GoodIn wsX3_march wsX2_place := goodIn_r _ [50, 30, 46, 51, 52, 53, 54, 31, 32, 5, 33, 34, 35, 36, 62, 63, 64, 65, 66] (by decide +kernel) (by decide +kernel)
set_option maxRecDepth 20000 in
theorem gX3_march_X2_place : GoodIn wsX3_march (wsV RX3 215 RX2 yX2_place wsX2_place) := goodIn_app (goodIn_of _ (by decide +kernel)) ggX3_march_X2_place
theorem dX3_march_0 : decode cX3_march 0 = .ok (.iconst 0, 1) := by decide +kernel
theorem dX3_march_1 : decode cX3_march 1 = .ok (.istore_n 3, 1) := by decide +kernel
theorem dX3_march_2 : decode cX3_march 2 = .ok (.iload_n 3, 1) := by decide +kernel
theorem dX3_march_3 : decode cX3_march 3 = .ok (.aload_n 0, 1) := by decide +kernel
theorem dX3_march_4 : decode cX3_march 4 = .ok (.getfield 23, 3) := by decide +kernel
theorem dX3_march_7 : decode cX3_march 7 = .ok (.invokevirtual 88, 3) := by decide +kernel
theorem dX3_march_10 : decode cX3_march 10 = .ok (.if_icmp .ge 84, 3) := by decide +kernel
theorem dX3_march_13 : decode cX3_march 13 = .ok (.iload_n 2, 1) := by decide +kernel
theorem dX3_march_14 : decode cX3_march 14 = .ok (.iload_n 3, 1) := by decide +kernel
theorem dX3_march_15 : decode cX3_march 15 = .ok (.invokestatic 85, 3) := by decide +kernel
theorem dX3_march_18 : decode cX3_march 18 = .ok (.ifCond .eq 17, 3) := by decide +kernel
theorem dX3_march_21 : decode cX3_march 21 = .ok (.aload_n 0, 1) := by decide +kernel
theorem dX3_march_22 : decode cX3_march 22 = .ok (.iload_n 1, 1) := by decide +kernel
theorem dX3_march_23 : decode cX3_march 23 = .ok (.iload_n 3, 1) := by decide +kernel
theorem dX3_march_24 : decode cX3_march 24 = .ok (.iload_n 2, 1) := by decide +kernel
theorem dX3_march_25 : decode cX3_march 25 = .ok (.invokevirtual 211, 3) := by decide +kernel
theorem dX3_march_28 : decode cX3_march 28 = .ok (.ifCond .ne 7, 3) := by decide +kernel
theorem dX3_march_31 : decode cX3_march 31 = .ok (.iconst 1, 1) := by decide +kernel
theorem dX3_march_32 : decode cX3_march 32 = .ok (.goto 4, 3) := by decide +kernel
theorem dX3_march_35 : decode cX3_march 35 = .ok (.iconst 0, 1) := by decide +kernel
theorem dX3_march_36 : decode cX3_march 36 = .ok (.istore 4, 2) := by decide +kernel
theorem dX3_march_38 : decode cX3_march 38 = .ok (.iload 4, 2) := by decide +kernel
theorem dX3_march_40 : decode cX3_march 40 = .ok (.ifCond .eq 15, 3) := by decide +kernel
theorem dX3_march_43 : decode cX3_march 43 = .ok (.aload_n 0, 1) := by decide +kernel
theorem dX3_march_44 : decode cX3_march 44 = .ok (.getfield 23, 3) := by decide +kernel
theorem dX3_march_47 : decode cX3_march 47 = .ok (.iload_n 1, 1) := by decide +kernel
theorem dX3_march_48 : decode cX3_march 48 = .ok (.iload_n 3, 1) := by decide +kernel
theorem dX3_march_49 : decode cX3_march 49 = .ok (.invokevirtual 103, 3) := by decide +kernel
theorem dX3_march_52 : decode cX3_march 52 = .ok (.goto 12, 3) := by decide +kernel
theorem dX3_march_55 : decode cX3_march 55 = .ok (.aload_n 0, 1) := by decide +kernel
theorem dX3_march_56 : decode cX3_march 56 = .ok (.getfield 23, 3) := by decide +kernel
theorem dX3_march_59 : decode cX3_march 59 = .ok (.iload_n 1, 1) := by decide +kernel
theorem dX3_march_60 : decode cX3_march 60 = .ok (.iload_n 3, 1) := by decide +kernel
theorem dX3_march_61 : decode cX3_march 61 = .ok (.invokevirtual 149, 3) := by decide +kernel
theorem dX3_march_64 : decode cX3_march 64 = .ok (.istore 5, 2) := by decide +kernel
theorem dX3_march_66 : decode cX3_march 66 = .ok (.aload_n 0, 1) := by decide +kernel
theorem dX3_march_67 : decode cX3_march 67 = .ok (.getfield 23, 3) := by decide +kernel
theorem dX3_march_70 : decode cX3_march 70 = .ok (.iload_n 1, 1) := by decide +kernel
theorem dX3_march_71 : decode cX3_march 71 = .ok (.iconst 1, 1) := by decide +kernel
theorem dX3_march_72 : decode cX3_march 72 = .ok (.iadd, 1) := by decide +kernel
theorem dX3_march_73 : decode cX3_march 73 = .ok (.iload_n 3, 1) := by decide +kernel
theorem dX3_march_74 : decode cX3_march 74 = .ok (.iload 5, 2) := by decide +kernel
theorem dX3_march_76 : decode cX3_march 76 = .ok (.aload_n 0, 1) := by decide +kernel
theorem dX3_march_77 : decode cX3_march 77 = .ok (.getfield 23, 3) := by decide +kernel
theorem dX3_march_80 : decode cX3_march 80 = .ok (.iload_n 1, 1) := by decide +kernel
theorem dX3_march_81 : decode cX3_march 81 = .ok (.iload_n 3, 1) := by decide +kernel
theorem dX3_march_82 : decode cX3_march 82 = .ok (.invokevirtual 152, 3) := by decide +kernel
theorem dX3_march_85 : decode cX3_march 85 = .ok (.invokevirtual 215, 3) := by decide +kernel
theorem dX3_march_88 : decode cX3_march 88 = .ok (.iinc 3 1, 3) := by decide +kernel
theorem dX3_march_91 : decode cX3_march 91 = .ok (.goto (-89), 3) := by decide +kernel
theorem dX3_march_94 : decode cX3_march 94 = .ok (.return_, 1) := by decide +kernel
set_option maxRecDepth 20000 in
theorem ggX3_isMetOnRoad_X2_count : GoodIn wsX3_isMetOnRoad wsX2_count := goodIn_r _ [6, 7, 45, 46, 47, 48, 49] (by decide +kernel) (by decide +kernel)
set_option maxRecDepth 20000 in
theorem gX3_isMetOnRoad_X2_count : GoodIn wsX3_isMetOnRoad (wsV RX3 88 RX2 yX2_count wsX2_count) := goodIn_app (goodIn_of _ (by decide +kernel)) ggX3_isMetOnRoad_X2_count
set_option maxRecDepth 20000 in
theorem ggX3_isMetOnRoad_X3_has : GoodIn wsX3_isMetOnRoad wsX3_has := goodIn_r _ [11, 12, 13, 10, 14] (by decide +kernel) (by decide +kernel)
set_option maxRecDepth 20000 in
theorem gX3_isMetOnRoad_X3_has : GoodIn wsX3_isMetOnRoad (va_wsS RX3 85 yX3_has wsX3_has) := goodIn_app (goodIn_of _ (by decide +kernel)) ggX3_isMetOnRoad_X3_has
set_option maxRecDepth 20000 in
theorem ggX3_isMetOnRoad_X2_sideOf : GoodIn wsX3_isMetOnRoad wsX2_sideOf := goodIn_r _ [18, 19, 20, 10, 21, 45, 46, 47, 48, 49] (by decide +kernel) (by decide +kernel)
set_option maxRecDepth 20000 in
theorem gX3_isMetOnRoad_X2_sideOf : GoodIn wsX3_isMetOnRoad (wsV RX3 155 RX2 yX2_sideOf wsX2_sideOf) := goodIn_app (goodIn_of _ (by decide +kernel)) ggX3_isMetOnRoad_X2_sideOf
set_option maxRecDepth 20000 in
theorem ggX3_isMetOnRoad_X2_townAt : GoodIn wsX3_isMetOnRoad wsX2_townAt := goodIn_r _ [25, 26, 27, 28, 5, 29, 30, 31, 32, 45, 46, 47, 48, 49] (by decide +kernel) (by decide +kernel)
set_option maxRecDepth 20000 in
theorem gX3_isMetOnRoad_X2_townAt : GoodIn wsX3_isMetOnRoad (wsV RX3 149 RX2 yX2_townAt wsX2_townAt) := goodIn_app (goodIn_of _ (by decide +kernel)) ggX3_isMetOnRoad_X2_townAt
set_option maxRecDepth 20000 in
theorem ggX3_isMetOnRoad_X2_orderFor : GoodIn wsX3_isMetOnRoad wsX2_orderFor := goodIn_r _ [36, 37, 27, 28, 5, 29, 30, 31, 32, 45, 46, 47, 48, 49] (by decide +kernel) (by decide +kernel)
set_option maxRecDepth 20000 in
theorem gX3_isMetOnRoad_X2_orderFor : GoodIn wsX3_isMetOnRoad (wsV RX3 103 RX2 yX2_orderFor wsX2_orderFor) := goodIn_app (goodIn_of _ (by decide +kernel)) ggX3_isMetOnRoad_X2_orderFor
theorem dX3_isMetOnRoad_0 : decode cX3_isMetOnRoad 0 = .ok (.iconst 0, 1) := by decide +kernel
theorem dX3_isMetOnRoad_1 : decode cX3_isMetOnRoad 1 = .ok (.istore 4, 2) := by decide +kernel
theorem dX3_isMetOnRoad_3 : decode cX3_isMetOnRoad 3 = .ok (.iload 4, 2) := by decide +kernel
theorem dX3_isMetOnRoad_5 : decode cX3_isMetOnRoad 5 = .ok (.aload_n 0, 1) := by decide +kernel
theorem dX3_isMetOnRoad_6 : decode cX3_isMetOnRoad 6 = .ok (.getfield 23, 3) := by decide +kernel
theorem dX3_isMetOnRoad_9 : decode cX3_isMetOnRoad 9 = .ok (.invokevirtual 88, 3) := by decide +kernel
theorem dX3_isMetOnRoad_12 : decode cX3_isMetOnRoad 12 = .ok (.if_icmp .ge 84, 3) := by decide +kernel
theorem dX3_isMetOnRoad_15 : decode cX3_isMetOnRoad 15 = .ok (.iload_n 3, 1) := by decide +kernel
theorem dX3_isMetOnRoad_16 : decode cX3_isMetOnRoad 16 = .ok (.iload 4, 2) := by decide +kernel
theorem dX3_isMetOnRoad_18 : decode cX3_isMetOnRoad 18 = .ok (.invokestatic 85, 3) := by decide +kernel
theorem dX3_isMetOnRoad_21 : decode cX3_isMetOnRoad 21 = .ok (.ifCond .eq 69, 3) := by decide +kernel
theorem dX3_isMetOnRoad_24 : decode cX3_isMetOnRoad 24 = .ok (.aload_n 0, 1) := by decide +kernel
theorem dX3_isMetOnRoad_25 : decode cX3_isMetOnRoad 25 = .ok (.getfield 23, 3) := by decide +kernel
theorem dX3_isMetOnRoad_28 : decode cX3_isMetOnRoad 28 = .ok (.iload 4, 2) := by decide +kernel
theorem dX3_isMetOnRoad_30 : decode cX3_isMetOnRoad 30 = .ok (.invokevirtual 155, 3) := by decide +kernel
theorem dX3_isMetOnRoad_33 : decode cX3_isMetOnRoad 33 = .ok (.aload_n 0, 1) := by decide +kernel
theorem dX3_isMetOnRoad_34 : decode cX3_isMetOnRoad 34 = .ok (.getfield 23, 3) := by decide +kernel
theorem dX3_isMetOnRoad_37 : decode cX3_isMetOnRoad 37 = .ok (.iload_n 2, 1) := by decide +kernel
theorem dX3_isMetOnRoad_38 : decode cX3_isMetOnRoad 38 = .ok (.invokevirtual 155, 3) := by decide +kernel
theorem dX3_isMetOnRoad_41 : decode cX3_isMetOnRoad 41 = .ok (.if_icmp .eq 49, 3) := by decide +kernel
theorem dX3_isMetOnRoad_44 : decode cX3_isMetOnRoad 44 = .ok (.aload_n 0, 1) := by decide +kernel
theorem dX3_isMetOnRoad_45 : decode cX3_isMetOnRoad 45 = .ok (.getfield 23, 3) := by decide +kernel
theorem dX3_isMetOnRoad_48 : decode cX3_isMetOnRoad 48 = .ok (.iload_n 1, 1) := by decide +kernel
theorem dX3_isMetOnRoad_49 : decode cX3_isMetOnRoad 49 = .ok (.iload 4, 2) := by decide +kernel
theorem dX3_isMetOnRoad_51 : decode cX3_isMetOnRoad 51 = .ok (.invokevirtual 149, 3) := by decide +kernel
theorem dX3_isMetOnRoad_54 : decode cX3_isMetOnRoad 54 = .ok (.aload_n 0, 1) := by decide +kernel
theorem dX3_isMetOnRoad_55 : decode cX3_isMetOnRoad 55 = .ok (.getfield 23, 3) := by decide +kernel
theorem dX3_isMetOnRoad_58 : decode cX3_isMetOnRoad 58 = .ok (.iload_n 1, 1) := by decide +kernel
theorem dX3_isMetOnRoad_59 : decode cX3_isMetOnRoad 59 = .ok (.iload_n 2, 1) := by decide +kernel
theorem dX3_isMetOnRoad_60 : decode cX3_isMetOnRoad 60 = .ok (.invokevirtual 103, 3) := by decide +kernel
theorem dX3_isMetOnRoad_63 : decode cX3_isMetOnRoad 63 = .ok (.if_icmp .ne 27, 3) := by decide +kernel
theorem dX3_isMetOnRoad_66 : decode cX3_isMetOnRoad 66 = .ok (.aload_n 0, 1) := by decide +kernel
theorem dX3_isMetOnRoad_67 : decode cX3_isMetOnRoad 67 = .ok (.getfield 23, 3) := by decide +kernel
theorem dX3_isMetOnRoad_70 : decode cX3_isMetOnRoad 70 = .ok (.iload_n 1, 1) := by decide +kernel
theorem dX3_isMetOnRoad_71 : decode cX3_isMetOnRoad 71 = .ok (.iload 4, 2) := by decide +kernel
theorem dX3_isMetOnRoad_73 : decode cX3_isMetOnRoad 73 = .ok (.invokevirtual 103, 3) := by decide +kernel
theorem dX3_isMetOnRoad_76 : decode cX3_isMetOnRoad 76 = .ok (.aload_n 0, 1) := by decide +kernel
theorem dX3_isMetOnRoad_77 : decode cX3_isMetOnRoad 77 = .ok (.getfield 23, 3) := by decide +kernel
theorem dX3_isMetOnRoad_80 : decode cX3_isMetOnRoad 80 = .ok (.iload_n 1, 1) := by decide +kernel
theorem dX3_isMetOnRoad_81 : decode cX3_isMetOnRoad 81 = .ok (.iload_n 2, 1) := by decide +kernel
theorem dX3_isMetOnRoad_82 : decode cX3_isMetOnRoad 82 = .ok (.invokevirtual 149, 3) := by decide +kernel
theorem dX3_isMetOnRoad_85 : decode cX3_isMetOnRoad 85 = .ok (.if_icmp .ne 5, 3) := by decide +kernel
theorem dX3_isMetOnRoad_88 : decode cX3_isMetOnRoad 88 = .ok (.iconst 1, 1) := by decide +kernel
theorem dX3_isMetOnRoad_89 : decode cX3_isMetOnRoad 89 = .ok (.ireturn, 1) := by decide +kernel
theorem dX3_isMetOnRoad_90 : decode cX3_isMetOnRoad 90 = .ok (.iinc 4 1, 3) := by decide +kernel
theorem dX3_isMetOnRoad_93 : decode cX3_isMetOnRoad 93 = .ok (.goto (-90), 3) := by decide +kernel
theorem dX3_isMetOnRoad_96 : decode cX3_isMetOnRoad 96 = .ok (.iconst 0, 1) := by decide +kernel
theorem dX3_isMetOnRoad_97 : decode cX3_isMetOnRoad 97 = .ok (.ireturn, 1) := by decide +kernel
set_option maxRecDepth 20000 in
theorem ggX3_fightEverywhere_X2_townsHeld : GoodIn wsX3_fightEverywhere wsX2_townsHeld := goodIn_r _ [6, 7, 8, 9, 10, 5, 11, 12, 13, 14, 15, 16, 17, 18, 19, 20, 21, 22, 23, 24, 25, 26, 27, 28, 70, 71, 72, 73, 74] (by decide +kernel) (by decide +kernel)
set_option maxRecDepth 20000 in
theorem gX3_fightEverywhere_X2_townsHeld : GoodIn wsX3_fightEverywhere (wsV RX3 81 RX2 yX2_townsHeld wsX2_townsHeld) := goodIn_app (goodIn_of _ (by decide +kernel)) ggX3_fightEverywhere_X2_townsHeld
set_option maxRecDepth 20000 in
theorem ggX3_fightEverywhere_X3_has : GoodIn wsX3_fightEverywhere wsX3_has := goodIn_r _ [31, 32, 27, 25, 28] (by decide +kernel) (by decide +kernel)
set_option maxRecDepth 20000 in
theorem gX3_fightEverywhere_X3_has : GoodIn wsX3_fightEverywhere (va_wsS RX3 85 yX3_has wsX3_has) := goodIn_app (goodIn_of _ (by decide +kernel)) ggX3_fightEverywhere_X3_has
set_option maxRecDepth 20000 in
theorem ggX3_fightEverywhere_X3_fight : GoodIn wsX3_fightEverywhere wsX3_fight := goodIn_r _ [36, 1, 37, 38, 39, 25, 40, 41, 42, 43, 5, 44, 7, 45, 20, 21, 22, 23, 24, 26, 46, 9, 10, 11, 12, 13, 14, 15, 16, 17, 18, 47, 48, 49, 50, 51, 29, 30, 31, 32, 27, 28, 52, 53, 54, 55, 56, 57, 58, 59, 60, 61, 62, 63, 64, 65, 66, 67, 68, 69, 70, 71, 72, 73, 74] (by decide +kernel) (by decide +kernel)
set_option maxRecDepth 20000 in
theorem gX3_fightEverywhere_X3_fight : GoodIn wsX3_fightEverywhere (wsV RX3 219 RX3 yX3_fight wsX3_fight) := goodIn_app (goodIn_of _ (by decide +kernel)) ggX3_fightEverywhere_X3_fight
theorem dX3_fightEverywhere_0 : decode cX3_fightEverywhere 0 = .ok (.aload_n 0, 1) := by decide +kernel
theorem dX3_fightEverywhere_1 : decode cX3_fightEverywhere 1 = .ok (.getfield 23, 3) := by decide +kernel
theorem dX3_fightEverywhere_4 : decode cX3_fightEverywhere 4 = .ok (.iload_n 1, 1) := by decide +kernel
theorem dX3_fightEverywhere_5 : decode cX3_fightEverywhere 5 = .ok (.iconst 0, 1) := by decide +kernel
theorem dX3_fightEverywhere_6 : decode cX3_fightEverywhere 6 = .ok (.invokevirtual 81, 3) := by decide +kernel
theorem dX3_fightEverywhere_9 : decode cX3_fightEverywhere 9 = .ok (.aload_n 0, 1) := by decide +kernel
theorem dX3_fightEverywhere_10 : decode cX3_fightEverywhere 10 = .ok (.getfield 23, 3) := by decide +kernel
theorem dX3_fightEverywhere_13 : decode cX3_fightEverywhere 13 = .ok (.iload_n 1, 1) := by decide +kernel
theorem dX3_fightEverywhere_14 : decode cX3_fightEverywhere 14 = .ok (.iconst 1, 1) := by decide +kernel
theorem dX3_fightEverywhere_15 : decode cX3_fightEverywhere 15 = .ok (.invokevirtual 81, 3) := by decide +kernel
theorem dX3_fightEverywhere_18 : decode cX3_fightEverywhere 18 = .ok (.iand, 1) := by decide +kernel
theorem dX3_fightEverywhere_19 : decode cX3_fightEverywhere 19 = .ok (.istore_n 3, 1) := by decide +kernel
theorem dX3_fightEverywhere_20 : decode cX3_fightEverywhere 20 = .ok (.iconst 0, 1) := by decide +kernel
theorem dX3_fightEverywhere_21 : decode cX3_fightEverywhere 21 = .ok (.istore 4, 2) := by decide +kernel
theorem dX3_fightEverywhere_23 : decode cX3_fightEverywhere 23 = .ok (.iload 4, 2) := by decide +kernel
theorem dX3_fightEverywhere_25 : decode cX3_fightEverywhere 25 = .ok (.bipush 10, 2) := by decide +kernel
theorem dX3_fightEverywhere_27 : decode cX3_fightEverywhere 27 = .ok (.if_icmp .ge 26, 3) := by decide +kernel
theorem dX3_fightEverywhere_30 : decode cX3_fightEverywhere 30 = .ok (.iload_n 3, 1) := by decide +kernel
theorem dX3_fightEverywhere_31 : decode cX3_fightEverywhere 31 = .ok (.iload 4, 2) := by decide +kernel
theorem dX3_fightEverywhere_33 : decode cX3_fightEverywhere 33 = .ok (.invokestatic 85, 3) := by decide +kernel
theorem dX3_fightEverywhere_36 : decode cX3_fightEverywhere 36 = .ok (.ifCond .eq 11, 3) := by decide +kernel
theorem dX3_fightEverywhere_39 : decode cX3_fightEverywhere 39 = .ok (.aload_n 0, 1) := by decide +kernel
theorem dX3_fightEverywhere_40 : decode cX3_fightEverywhere 40 = .ok (.iload_n 1, 1) := by decide +kernel
theorem dX3_fightEverywhere_41 : decode cX3_fightEverywhere 41 = .ok (.iload 4, 2) := by decide +kernel
theorem dX3_fightEverywhere_43 : decode cX3_fightEverywhere 43 = .ok (.iload_n 2, 1) := by decide +kernel
theorem dX3_fightEverywhere_44 : decode cX3_fightEverywhere 44 = .ok (.invokevirtual 219, 3) := by decide +kernel
theorem dX3_fightEverywhere_47 : decode cX3_fightEverywhere 47 = .ok (.iinc 4 1, 3) := by decide +kernel
theorem dX3_fightEverywhere_50 : decode cX3_fightEverywhere 50 = .ok (.goto (-27), 3) := by decide +kernel
theorem dX3_fightEverywhere_53 : decode cX3_fightEverywhere 53 = .ok (.return_, 1) := by decide +kernel
set_option maxRecDepth 20000 in
theorem ggX3_fight_X3_sumInFight : GoodIn wsX3_fight wsX3_sumInFight := goodIn_r _ [6, 1, 7, 8, 9, 10, 11, 12, 13, 14, 15, 16, 17, 18, 5, 19, 20, 21, 22, 23, 24, 25, 26, 27, 28, 29, 30, 31, 32, 33, 34, 35, 36, 37, 38, 39, 40, 41, 53, 54, 55, 56, 57, 58, 59, 60, 61, 62, 63, 64] (by decide +kernel) (by decide +kernel)
set_option maxRecDepth 20000 in
theorem gX3_fight_X3_sumInFight : GoodIn wsX3_fight (wsV RX3 222 RX3 yX3_sumInFight wsX3_sumInFight) := goodIn_app (goodIn_of _ (by decide +kernel)) ggX3_fight_X3_sumInFight
set_option maxRecDepth 20000 in
theorem ggX3_fight_X2_count : GoodIn wsX3_fight wsX2_count := goodIn_r _ [11, 12, 60, 61, 62, 63, 64] (by decide +kernel) (by decide +kernel)
set_option maxRecDepth 20000 in
theorem gX3_fight_X2_count : GoodIn wsX3_fight (wsV RX3 88 RX2 yX2_count wsX2_count) := goodIn_app (goodIn_of _ (by decide +kernel)) ggX3_fight_X2_count
set_option maxRecDepth 20000 in
theorem ggX3_fight_X2_townAt : GoodIn wsX3_fight wsX2_townAt := goodIn_r _ [23, 24, 25, 26, 10, 27, 28, 29, 30, 60, 61, 62, 63, 64] (by decide +kernel) (by decide +kernel)
set_option maxRecDepth 20000 in
theorem gX3_fight_X2_townAt : GoodIn wsX3_fight (wsV RX3 149 RX2 yX2_townAt wsX2_townAt) := goodIn_app (goodIn_of _ (by decide +kernel)) ggX3_fight_X2_townAt
set_option maxRecDepth 20000 in
theorem ggX3_fight_X2_sideOf : GoodIn wsX3_fight wsX2_sideOf := goodIn_r _ [16, 17, 18, 5, 19, 60, 61, 62, 63, 64] (by decide +kernel) (by decide +kernel)
set_option maxRecDepth 20000 in
theorem gX3_fight_X2_sideOf : GoodIn wsX3_fight (wsV RX3 155 RX2 yX2_sideOf wsX2_sideOf) := goodIn_app (goodIn_of _ (by decide +kernel)) ggX3_fight_X2_sideOf
set_option maxRecDepth 20000 in
theorem ggX3_fight_X3_loss : GoodIn wsX3_fight wsX3_loss := goodIn_r _ [44] (by decide +kernel) (by decide +kernel)
set_option maxRecDepth 20000 in
theorem gX3_fight_X3_loss : GoodIn wsX3_fight (va_wsS RX3 225 yX3_loss wsX3_loss) := goodIn_app (goodIn_of _ (by decide +kernel)) ggX3_fight_X3_loss
set_option maxRecDepth 20000 in
theorem ggX3_fight_X2_strengthAt : GoodIn wsX3_fight wsX2_strengthAt := goodIn_r _ [34, 35, 25, 26, 10, 27, 28, 29, 30, 60, 61, 62, 63, 64] (by decide +kernel) (by decide +kernel)
set_option maxRecDepth 20000 in
theorem gX3_fight_X2_strengthAt : GoodIn wsX3_fight (wsV RX3 152 RX2 yX2_strengthAt wsX2_strengthAt) := goodIn_app (goodIn_of _ (by decide +kernel)) ggX3_fight_X2_strengthAt
set_option maxRecDepth 20000 in
theorem ggX3_fight_X2_place : GoodIn wsX3_fight wsX2_place := goodIn_r _ [48, 24, 35, 49, 50, 51, 52, 25, 26, 10, 27, 28, 29, 30, 60, 61, 62, 63, 64] (by decide +kernel) (by decide +kernel)
set_option maxRecDepth 20000 in
theorem gX3_fight_X2_place : GoodIn wsX3_fight (wsV RX3 215 RX2 yX2_place wsX2_place) := goodIn_app (goodIn_of _ (by decide +kernel)) ggX3_fight_X2_place
theorem dX3_fight_0 : decode cX3_fight 0 = .ok (.aload_n 0, 1) := by decide +kernel
theorem dX3_fight_1 : decode cX3_fight 1 = .ok (.iload_n 1, 1) := by decide +kernel
theorem dX3_fight_2 : decode cX3_fight 2 = .ok (.iload_n 2, 1) := by decide +kernel
theorem dX3_fight_3 : decode cX3_fight 3 = .ok (.iconst 0, 1) := by decide +kernel
theorem dX3_fight_4 : decode cX3_fight 4 = .ok (.iload_n 3, 1) := by decide +kernel
theorem dX3_fight_5 : decode cX3_fight 5 = .ok (.invokevirtual 222, 3) := by decide +kernel
theorem dX3_fight_8 : decode cX3_fight 8 = .ok (.istore 4, 2) := by decide +kernel
theorem dX3_fight_10 : decode cX3_fight 10 = .ok (.aload_n 0, 1) := by decide +kernel
theorem dX3_fight_11 : decode cX3_fight 11 = .ok (.iload_n 1, 1) := by decide +kernel
theorem dX3_fight_12 : decode cX3_fight 12 = .ok (.iload_n 2, 1) := by decide +kernel
theorem dX3_fight_13 : decode cX3_fight 13 = .ok (.iconst 1, 1) := by decide +kernel
theorem dX3_fight_14 : decode cX3_fight 14 = .ok (.iload_n 3, 1) := by decide +kernel
theorem dX3_fight_15 : decode cX3_fight 15 = .ok (.invokevirtual 222, 3) := by decide +kernel
theorem dX3_fight_18 : decode cX3_fight 18 = .ok (.istore 5, 2) := by decide +kernel
theorem dX3_fight_20 : decode cX3_fight 20 = .ok (.iconst 0, 1) := by decide +kernel
theorem dX3_fight_21 : decode cX3_fight 21 = .ok (.istore 6, 2) := by decide +kernel
theorem dX3_fight_23 : decode cX3_fight 23 = .ok (.iload 6, 2) := by decide +kernel
theorem dX3_fight_25 : decode cX3_fight 25 = .ok (.aload_n 0, 1) := by decide +kernel
theorem dX3_fight_26 : decode cX3_fight 26 = .ok (.getfield 23, 3) := by decide +kernel
theorem dX3_fight_29 : decode cX3_fight 29 = .ok (.invokevirtual 88, 3) := by decide +kernel
theorem dX3_fight_32 : decode cX3_fight 32 = .ok (.if_icmp .ge 78, 3) := by decide +kernel
theorem dX3_fight_35 : decode cX3_fight 35 = .ok (.aload_n 0, 1) := by decide +kernel
theorem dX3_fight_36 : decode cX3_fight 36 = .ok (.getfield 23, 3) := by decide +kernel
theorem dX3_fight_39 : decode cX3_fight 39 = .ok (.iload_n 1, 1) := by decide +kernel
theorem dX3_fight_40 : decode cX3_fight 40 = .ok (.iload 6, 2) := by decide +kernel
theorem dX3_fight_42 : decode cX3_fight 42 = .ok (.invokevirtual 149, 3) := by decide +kernel
theorem dX3_fight_45 : decode cX3_fight 45 = .ok (.iload_n 2, 1) := by decide +kernel
theorem dX3_fight_46 : decode cX3_fight 46 = .ok (.if_icmp .ne 58, 3) := by decide +kernel
theorem dX3_fight_49 : decode cX3_fight 49 = .ok (.aload_n 0, 1) := by decide +kernel
theorem dX3_fight_50 : decode cX3_fight 50 = .ok (.getfield 23, 3) := by decide +kernel
theorem dX3_fight_53 : decode cX3_fight 53 = .ok (.iload 6, 2) := by decide +kernel
theorem dX3_fight_55 : decode cX3_fight 55 = .ok (.invokevirtual 155, 3) := by decide +kernel
theorem dX3_fight_58 : decode cX3_fight 58 = .ok (.ifCond .ne 13, 3) := by decide +kernel
theorem dX3_fight_61 : decode cX3_fight 61 = .ok (.iload 4, 2) := by decide +kernel
theorem dX3_fight_63 : decode cX3_fight 63 = .ok (.iload 5, 2) := by decide +kernel
theorem dX3_fight_65 : decode cX3_fight 65 = .ok (.invokestatic 225, 3) := by decide +kernel
theorem dX3_fight_68 : decode cX3_fight 68 = .ok (.goto 10, 3) := by decide +kernel
theorem dX3_fight_71 : decode cX3_fight 71 = .ok (.iload 5, 2) := by decide +kernel
theorem dX3_fight_73 : decode cX3_fight 73 = .ok (.iload 4, 2) := by decide +kernel
theorem dX3_fight_75 : decode cX3_fight 75 = .ok (.invokestatic 225, 3) := by decide +kernel
theorem dX3_fight_78 : decode cX3_fight 78 = .ok (.istore 7, 2) := by decide +kernel
theorem dX3_fight_80 : decode cX3_fight 80 = .ok (.aload_n 0, 1) := by decide +kernel
theorem dX3_fight_81 : decode cX3_fight 81 = .ok (.getfield 23, 3) := by decide +kernel
theorem dX3_fight_84 : decode cX3_fight 84 = .ok (.iload_n 1, 1) := by decide +kernel
theorem dX3_fight_85 : decode cX3_fight 85 = .ok (.iload 6, 2) := by decide +kernel
theorem dX3_fight_87 : decode cX3_fight 87 = .ok (.iload_n 2, 1) := by decide +kernel
theorem dX3_fight_88 : decode cX3_fight 88 = .ok (.aload_n 0, 1) := by decide +kernel
theorem dX3_fight_89 : decode cX3_fight 89 = .ok (.getfield 23, 3) := by decide +kernel
theorem dX3_fight_92 : decode cX3_fight 92 = .ok (.iload_n 1, 1) := by decide +kernel
theorem dX3_fight_93 : decode cX3_fight 93 = .ok (.iload 6, 2) := by decide +kernel
theorem dX3_fight_95 : decode cX3_fight 95 = .ok (.invokevirtual 152, 3) := by decide +kernel
theorem dX3_fight_98 : decode cX3_fight 98 = .ok (.iload 7, 2) := by decide +kernel
theorem dX3_fight_100 : decode cX3_fight 100 = .ok (.isub, 1) := by decide +kernel
theorem dX3_fight_101 : decode cX3_fight 101 = .ok (.invokevirtual 215, 3) := by decide +kernel
theorem dX3_fight_104 : decode cX3_fight 104 = .ok (.iinc 6 1, 3) := by decide +kernel
theorem dX3_fight_107 : decode cX3_fight 107 = .ok (.goto (-84), 3) := by decide +kernel
theorem dX3_fight_110 : decode cX3_fight 110 = .ok (.return_, 1) := by decide +kernel
set_option maxRecDepth 20000 in
theorem ggX3_sumInFight_X2_count : GoodIn wsX3_sumInFight wsX2_count := goodIn_r _ [6, 7, 45, 46, 47, 48, 49] (by decide +kernel) (by decide +kernel)
set_option maxRecDepth 20000 in
theorem gX3_sumInFight_X2_count : GoodIn wsX3_sumInFight (wsV RX3 88 RX2 yX2_count wsX2_count) := goodIn_app (goodIn_of _ (by decide +kernel)) ggX3_sumInFight_X2_count
set_option maxRecDepth 20000 in
theorem ggX3_sumInFight_X2_sideOf : GoodIn wsX3_sumInFight wsX2_sideOf := goodIn_r _ [11, 12, 13, 14, 15, 45, 46, 47, 48, 49] (by decide +kernel) (by decide +kernel)
set_option maxRecDepth 20000 in
theorem gX3_sumInFight_X2_sideOf : GoodIn wsX3_sumInFight (wsV RX3 155 RX2 yX2_sideOf wsX2_sideOf) := goodIn_app (goodIn_of _ (by decide +kernel)) ggX3_sumInFight_X2_sideOf
set_option maxRecDepth 20000 in
theorem ggX3_sumInFight_X2_townAt : GoodIn wsX3_sumInFight wsX2_townAt := goodIn_r _ [19, 20, 21, 22, 5, 23, 24, 25, 26, 45, 46, 47, 48, 49] (by decide +kernel) (by decide +kernel)
set_option maxRecDepth 20000 in
theorem gX3_sumInFight_X2_townAt : GoodIn wsX3_sumInFight (wsV RX3 149 RX2 yX2_townAt wsX2_townAt) := goodIn_app (goodIn_of _ (by decide +kernel)) ggX3_sumInFight_X2_townAt
set_option maxRecDepth 20000 in
theorem ggX3_sumInFight_X2_strengthAt : GoodIn wsX3_sumInFight wsX2_strengthAt := goodIn_r _ [30, 31, 21, 22, 5, 23, 24, 25, 26, 45, 46, 47, 48, 49] (by decide +kernel) (by decide +kernel)
set_option maxRecDepth 20000 in
theorem gX3_sumInFight_X2_strengthAt : GoodIn wsX3_sumInFight (wsV RX3 152 RX2 yX2_strengthAt wsX2_strengthAt) := goodIn_app (goodIn_of _ (by decide +kernel)) ggX3_sumInFight_X2_strengthAt
set_option maxRecDepth 20000 in
theorem ggX3_sumInFight_X3_has : GoodIn wsX3_sumInFight wsX3_has := goodIn_r _ [34, 35, 36, 14, 37] (by decide +kernel) (by decide +kernel)
set_option maxRecDepth 20000 in
theorem gX3_sumInFight_X3_has : GoodIn wsX3_sumInFight (va_wsS RX3 85 yX3_has wsX3_has) := goodIn_app (goodIn_of _ (by decide +kernel)) ggX3_sumInFight_X3_has
theorem dX3_sumInFight_0 : decode cX3_sumInFight 0 = .ok (.iconst 0, 1) := by decide +kernel
theorem dX3_sumInFight_1 : decode cX3_sumInFight 1 = .ok (.istore 5, 2) := by decide +kernel
theorem dX3_sumInFight_3 : decode cX3_sumInFight 3 = .ok (.iconst 0, 1) := by decide +kernel
theorem dX3_sumInFight_4 : decode cX3_sumInFight 4 = .ok (.istore 6, 2) := by decide +kernel
theorem dX3_sumInFight_6 : decode cX3_sumInFight 6 = .ok (.iload 6, 2) := by decide +kernel
theorem dX3_sumInFight_8 : decode cX3_sumInFight 8 = .ok (.aload_n 0, 1) := by decide +kernel
theorem dX3_sumInFight_9 : decode cX3_sumInFight 9 = .ok (.getfield 23, 3) := by decide +kernel
theorem dX3_sumInFight_12 : decode cX3_sumInFight 12 = .ok (.invokevirtual 88, 3) := by decide +kernel
theorem dX3_sumInFight_15 : decode cX3_sumInFight 15 = .ok (.if_icmp .ge 72, 3) := by decide +kernel
theorem dX3_sumInFight_18 : decode cX3_sumInFight 18 = .ok (.aload_n 0, 1) := by decide +kernel
theorem dX3_sumInFight_19 : decode cX3_sumInFight 19 = .ok (.getfield 23, 3) := by decide +kernel
theorem dX3_sumInFight_22 : decode cX3_sumInFight 22 = .ok (.iload 6, 2) := by decide +kernel
theorem dX3_sumInFight_24 : decode cX3_sumInFight 24 = .ok (.invokevirtual 155, 3) := by decide +kernel
theorem dX3_sumInFight_27 : decode cX3_sumInFight 27 = .ok (.iload_n 3, 1) := by decide +kernel
theorem dX3_sumInFight_28 : decode cX3_sumInFight 28 = .ok (.if_icmp .ne 53, 3) := by decide +kernel
theorem dX3_sumInFight_31 : decode cX3_sumInFight 31 = .ok (.aload_n 0, 1) := by decide +kernel
theorem dX3_sumInFight_32 : decode cX3_sumInFight 32 = .ok (.getfield 23, 3) := by decide +kernel
theorem dX3_sumInFight_35 : decode cX3_sumInFight 35 = .ok (.iload_n 1, 1) := by decide +kernel
theorem dX3_sumInFight_36 : decode cX3_sumInFight 36 = .ok (.iload 6, 2) := by decide +kernel
theorem dX3_sumInFight_38 : decode cX3_sumInFight 38 = .ok (.invokevirtual 149, 3) := by decide +kernel
theorem dX3_sumInFight_41 : decode cX3_sumInFight 41 = .ok (.iload_n 2, 1) := by decide +kernel
theorem dX3_sumInFight_42 : decode cX3_sumInFight 42 = .ok (.if_icmp .ne 39, 3) := by decide +kernel
theorem dX3_sumInFight_45 : decode cX3_sumInFight 45 = .ok (.aload_n 0, 1) := by decide +kernel
theorem dX3_sumInFight_46 : decode cX3_sumInFight 46 = .ok (.getfield 23, 3) := by decide +kernel
theorem dX3_sumInFight_49 : decode cX3_sumInFight 49 = .ok (.iload_n 1, 1) := by decide +kernel
theorem dX3_sumInFight_50 : decode cX3_sumInFight 50 = .ok (.iload 6, 2) := by decide +kernel
theorem dX3_sumInFight_52 : decode cX3_sumInFight 52 = .ok (.invokevirtual 152, 3) := by decide +kernel
theorem dX3_sumInFight_55 : decode cX3_sumInFight 55 = .ok (.istore 7, 2) := by decide +kernel
theorem dX3_sumInFight_57 : decode cX3_sumInFight 57 = .ok (.iload 5, 2) := by decide +kernel
theorem dX3_sumInFight_59 : decode cX3_sumInFight 59 = .ok (.iload 4, 2) := by decide +kernel
theorem dX3_sumInFight_61 : decode cX3_sumInFight 61 = .ok (.iload 6, 2) := by decide +kernel
theorem dX3_sumInFight_63 : decode cX3_sumInFight 63 = .ok (.invokestatic 85, 3) := by decide +kernel
theorem dX3_sumInFight_66 : decode cX3_sumInFight 66 = .ok (.ifCond .eq 8, 3) := by decide +kernel
theorem dX3_sumInFight_69 : decode cX3_sumInFight 69 = .ok (.iload 7, 2) := by decide +kernel
theorem dX3_sumInFight_71 : decode cX3_sumInFight 71 = .ok (.goto 7, 3) := by decide +kernel
theorem dX3_sumInFight_74 : decode cX3_sumInFight 74 = .ok (.iload 7, 2) := by decide +kernel
theorem dX3_sumInFight_76 : decode cX3_sumInFight 76 = .ok (.iconst 2, 1) := by decide +kernel
theorem dX3_sumInFight_77 : decode cX3_sumInFight 77 = .ok (.idiv, 1) := by decide +kernel
theorem dX3_sumInFight_78 : decode cX3_sumInFight 78 = .ok (.iadd, 1) := by decide +kernel
theorem dX3_sumInFight_79 : decode cX3_sumInFight 79 = .ok (.istore 5, 2) := by decide +kernel
theorem dX3_sumInFight_81 : decode cX3_sumInFight 81 = .ok (.iinc 6 1, 3) := by decide +kernel
theorem dX3_sumInFight_84 : decode cX3_sumInFight 84 = .ok (.goto (-78), 3) := by decide +kernel
theorem dX3_sumInFight_87 : decode cX3_sumInFight 87 = .ok (.iload 5, 2) := by decide +kernel
theorem dX3_sumInFight_89 : decode cX3_sumInFight 89 = .ok (.ireturn, 1) := by decide +kernel
theorem dX3_loss_0 : decode cX3_loss 0 = .ok (.iload_n 0, 1) := by decide +kernel
theorem dX3_loss_1 : decode cX3_loss 1 = .ok (.iload_n 1, 1) := by decide +kernel
theorem dX3_loss_2 : decode cX3_loss 2 = .ok (.if_icmp .ge 5, 3) := by decide +kernel
theorem dX3_loss_5 : decode cX3_loss 5 = .ok (.iconst 2, 1) := by decide +kernel
theorem dX3_loss_6 : decode cX3_loss 6 = .ok (.ireturn, 1) := by decide +kernel
theorem dX3_loss_7 : decode cX3_loss 7 = .ok (.iload_n 0, 1) := by decide +kernel
theorem dX3_loss_8 : decode cX3_loss 8 = .ok (.iload_n 1, 1) := by decide +kernel
theorem dX3_loss_9 : decode cX3_loss 9 = .ok (.if_icmp .ne 5, 3) := by decide +kernel
theorem dX3_loss_12 : decode cX3_loss 12 = .ok (.iconst 1, 1) := by decide +kernel
theorem dX3_loss_13 : decode cX3_loss 13 = .ok (.ireturn, 1) := by decide +kernel
theorem dX3_loss_14 : decode cX3_loss 14 = .ok (.iconst 2, 1) := by decide +kernel
theorem dX3_loss_15 : decode cX3_loss 15 = .ok (.iload_n 1, 1) := by decide +kernel
theorem dX3_loss_16 : decode cX3_loss 16 = .ok (.imul, 1) := by decide +kernel
theorem dX3_loss_17 : decode cX3_loss 17 = .ok (.iload_n 0, 1) := by decide +kernel
theorem dX3_loss_18 : decode cX3_loss 18 = .ok (.if_icmp .le 7, 3) := by decide +kernel
theorem dX3_loss_21 : decode cX3_loss 21 = .ok (.iconst 1, 1) := by decide +kernel
theorem dX3_loss_22 : decode cX3_loss 22 = .ok (.goto 4, 3) := by decide +kernel
theorem dX3_loss_25 : decode cX3_loss 25 = .ok (.iconst 0, 1) := by decide +kernel
theorem dX3_loss_26 : decode cX3_loss 26 = .ok (.ireturn, 1) := by decide +kernel
set_option maxRecDepth 20000 in
theorem ggX3_unitsInSight_X2_townsHeld : GoodIn wsX3_unitsInSight wsX2_townsHeld := goodIn_r _ [7, 8, 9, 10, 11, 6, 12, 13, 14, 15, 16, 17, 18, 19, 20, 21, 22, 23, 24, 25, 26, 27, 28, 29, 58, 59, 60, 61, 62] (by decide +kernel) (by decide +kernel)
set_option maxRecDepth 20000 in
theorem gX3_unitsInSight_X2_townsHeld : GoodIn wsX3_unitsInSight (wsV RX3 81 RX2 yX2_townsHeld wsX2_townsHeld) := goodIn_app (goodIn_of _ (by decide +kernel)) ggX3_unitsInSight_X2_townsHeld
set_option maxRecDepth 20000 in
theorem ggX3_unitsInSight_X0_widened : GoodIn wsX3_unitsInSight wsX0_widened := goodIn_r _ [34, 35, 26, 36, 37, 28, 29, 38, 39, 40, 33, 41, 42, 43, 25, 27, 63, 64, 65] (by decide +kernel) (by decide +kernel)
set_option maxRecDepth 20000 in
theorem gX3_unitsInSight_X0_widened : GoodIn wsX3_unitsInSight (wsV RX3 205 RX0 yX0_widened wsX0_widened) := goodIn_app (goodIn_of _ (by decide +kernel)) ggX3_unitsInSight_X0_widened
set_option maxRecDepth 20000 in
theorem ggX3_unitsInSight_X2_count : GoodIn wsX3_unitsInSight wsX2_count := goodIn_r _ [47, 8, 58, 59, 60, 61, 62] (by decide +kernel) (by decide +kernel)
set_option maxRecDepth 20000 in
theorem gX3_unitsInSight_X2_count : GoodIn wsX3_unitsInSight (wsV RX3 88 RX2 yX2_count wsX2_count) := goodIn_app (goodIn_of _ (by decide +kernel)) ggX3_unitsInSight_X2_count
set_option maxRecDepth 20000 in
theorem ggX3_unitsInSight_X2_sideOf : GoodIn wsX3_unitsInSight wsX2_sideOf := goodIn_r _ [23, 24, 25, 26, 27, 58, 59, 60, 61, 62] (by decide +kernel) (by decide +kernel)
set_option maxRecDepth 20000 in
theorem gX3_unitsInSight_X2_sideOf : GoodIn wsX3_unitsInSight (wsV RX3 155 RX2 yX2_sideOf wsX2_sideOf) := goodIn_app (goodIn_of _ (by decide +kernel)) ggX3_unitsInSight_X2_sideOf
set_option maxRecDepth 20000 in
theorem ggX3_unitsInSight_X2_townAt : GoodIn wsX3_unitsInSight wsX2_townAt := goodIn_r _ [12, 13, 14, 15, 6, 16, 17, 18, 19, 58, 59, 60, 61, 62] (by decide +kernel) (by decide +kernel)
set_option maxRecDepth 20000 in
theorem gX3_unitsInSight_X2_townAt : GoodIn wsX3_unitsInSight (wsV RX3 149 RX2 yX2_townAt wsX2_townAt) := goodIn_app (goodIn_of _ (by decide +kernel)) ggX3_unitsInSight_X2_townAt
set_option maxRecDepth 20000 in
theorem ggX3_unitsInSight_X3_has : GoodIn wsX3_unitsInSight wsX3_has := goodIn_r _ [36, 37, 28, 26, 29] (by decide +kernel) (by decide +kernel)
set_option maxRecDepth 20000 in
theorem gX3_unitsInSight_X3_has : GoodIn wsX3_unitsInSight (va_wsS RX3 85 yX3_has wsX3_has) := goodIn_app (goodIn_of _ (by decide +kernel)) ggX3_unitsInSight_X3_has
set_option maxRecDepth 20000 in
theorem ggX3_unitsInSight_X3_bit : GoodIn wsX3_unitsInSight wsX3_bit := goodIn_r _ [29] (by decide +kernel) (by decide +kernel)
set_option maxRecDepth 20000 in
theorem gX3_unitsInSight_X3_bit : GoodIn wsX3_unitsInSight (va_wsS RX3 202 yX3_bit wsX3_bit) := goodIn_app (goodIn_of _ (by decide +kernel)) ggX3_unitsInSight_X3_bit
theorem dX3_unitsInSight_0 : decode cX3_unitsInSight 0 = .ok (.aload_n 0, 1) := by decide +kernel
theorem dX3_unitsInSight_1 : decode cX3_unitsInSight 1 = .ok (.getfield 12, 3) := by decide +kernel
theorem dX3_unitsInSight_4 : decode cX3_unitsInSight 4 = .ok (.aload_n 0, 1) := by decide +kernel
theorem dX3_unitsInSight_5 : decode cX3_unitsInSight 5 = .ok (.getfield 23, 3) := by decide +kernel
theorem dX3_unitsInSight_8 : decode cX3_unitsInSight 8 = .ok (.iload_n 1, 1) := by decide +kernel
theorem dX3_unitsInSight_9 : decode cX3_unitsInSight 9 = .ok (.iconst 0, 1) := by decide +kernel
theorem dX3_unitsInSight_10 : decode cX3_unitsInSight 10 = .ok (.invokevirtual 81, 3) := by decide +kernel
theorem dX3_unitsInSight_13 : decode cX3_unitsInSight 13 = .ok (.iconst 0, 1) := by decide +kernel
theorem dX3_unitsInSight_14 : decode cX3_unitsInSight 14 = .ok (.invokevirtual 205, 3) := by decide +kernel
theorem dX3_unitsInSight_17 : decode cX3_unitsInSight 17 = .ok (.istore_n 2, 1) := by decide +kernel
theorem dX3_unitsInSight_18 : decode cX3_unitsInSight 18 = .ok (.aload_n 0, 1) := by decide +kernel
theorem dX3_unitsInSight_19 : decode cX3_unitsInSight 19 = .ok (.getfield 12, 3) := by decide +kernel
theorem dX3_unitsInSight_22 : decode cX3_unitsInSight 22 = .ok (.aload_n 0, 1) := by decide +kernel
theorem dX3_unitsInSight_23 : decode cX3_unitsInSight 23 = .ok (.getfield 23, 3) := by decide +kernel
theorem dX3_unitsInSight_26 : decode cX3_unitsInSight 26 = .ok (.iload_n 1, 1) := by decide +kernel
theorem dX3_unitsInSight_27 : decode cX3_unitsInSight 27 = .ok (.iconst 1, 1) := by decide +kernel
theorem dX3_unitsInSight_28 : decode cX3_unitsInSight 28 = .ok (.invokevirtual 81, 3) := by decide +kernel
theorem dX3_unitsInSight_31 : decode cX3_unitsInSight 31 = .ok (.iconst 0, 1) := by decide +kernel
theorem dX3_unitsInSight_32 : decode cX3_unitsInSight 32 = .ok (.invokevirtual 205, 3) := by decide +kernel
theorem dX3_unitsInSight_35 : decode cX3_unitsInSight 35 = .ok (.istore_n 3, 1) := by decide +kernel
theorem dX3_unitsInSight_36 : decode cX3_unitsInSight 36 = .ok (.iconst 0, 1) := by decide +kernel
theorem dX3_unitsInSight_37 : decode cX3_unitsInSight 37 = .ok (.istore 4, 2) := by decide +kernel
theorem dX3_unitsInSight_39 : decode cX3_unitsInSight 39 = .ok (.iconst 0, 1) := by decide +kernel
theorem dX3_unitsInSight_40 : decode cX3_unitsInSight 40 = .ok (.istore 5, 2) := by decide +kernel
theorem dX3_unitsInSight_42 : decode cX3_unitsInSight 42 = .ok (.iload 5, 2) := by decide +kernel
theorem dX3_unitsInSight_44 : decode cX3_unitsInSight 44 = .ok (.aload_n 0, 1) := by decide +kernel
theorem dX3_unitsInSight_45 : decode cX3_unitsInSight 45 = .ok (.getfield 23, 3) := by decide +kernel
theorem dX3_unitsInSight_48 : decode cX3_unitsInSight 48 = .ok (.invokevirtual 88, 3) := by decide +kernel
theorem dX3_unitsInSight_51 : decode cX3_unitsInSight 51 = .ok (.if_icmp .ge 52, 3) := by decide +kernel
theorem dX3_unitsInSight_54 : decode cX3_unitsInSight 54 = .ok (.aload_n 0, 1) := by decide +kernel
theorem dX3_unitsInSight_55 : decode cX3_unitsInSight 55 = .ok (.getfield 23, 3) := by decide +kernel
theorem dX3_unitsInSight_58 : decode cX3_unitsInSight 58 = .ok (.iload 5, 2) := by decide +kernel
theorem dX3_unitsInSight_60 : decode cX3_unitsInSight 60 = .ok (.invokevirtual 155, 3) := by decide +kernel
theorem dX3_unitsInSight_63 : decode cX3_unitsInSight 63 = .ok (.ifCond .ne 7, 3) := by decide +kernel
theorem dX3_unitsInSight_66 : decode cX3_unitsInSight 66 = .ok (.iload_n 3, 1) := by decide +kernel
theorem dX3_unitsInSight_67 : decode cX3_unitsInSight 67 = .ok (.goto 4, 3) := by decide +kernel
theorem dX3_unitsInSight_70 : decode cX3_unitsInSight 70 = .ok (.iload_n 2, 1) := by decide +kernel
theorem dX3_unitsInSight_71 : decode cX3_unitsInSight 71 = .ok (.aload_n 0, 1) := by decide +kernel
theorem dX3_unitsInSight_72 : decode cX3_unitsInSight 72 = .ok (.getfield 23, 3) := by decide +kernel
theorem dX3_unitsInSight_75 : decode cX3_unitsInSight 75 = .ok (.iload_n 1, 1) := by decide +kernel
theorem dX3_unitsInSight_76 : decode cX3_unitsInSight 76 = .ok (.iload 5, 2) := by decide +kernel
theorem dX3_unitsInSight_78 : decode cX3_unitsInSight 78 = .ok (.invokevirtual 149, 3) := by decide +kernel
theorem dX3_unitsInSight_81 : decode cX3_unitsInSight 81 = .ok (.invokestatic 85, 3) := by decide +kernel
theorem dX3_unitsInSight_84 : decode cX3_unitsInSight 84 = .ok (.ifCond .eq 13, 3) := by decide +kernel
theorem dX3_unitsInSight_87 : decode cX3_unitsInSight 87 = .ok (.iload 4, 2) := by decide +kernel
theorem dX3_unitsInSight_89 : decode cX3_unitsInSight 89 = .ok (.iload 5, 2) := by decide +kernel
theorem dX3_unitsInSight_91 : decode cX3_unitsInSight 91 = .ok (.invokestatic 202, 3) := by decide +kernel
theorem dX3_unitsInSight_94 : decode cX3_unitsInSight 94 = .ok (.ior, 1) := by decide +kernel
theorem dX3_unitsInSight_95 : decode cX3_unitsInSight 95 = .ok (.istore 4, 2) := by decide +kernel
theorem dX3_unitsInSight_97 : decode cX3_unitsInSight 97 = .ok (.iinc 5 1, 3) := by decide +kernel
theorem dX3_unitsInSight_100 : decode cX3_unitsInSight 100 = .ok (.goto (-58), 3) := by decide +kernel
theorem dX3_unitsInSight_103 : decode cX3_unitsInSight 103 = .ok (.iload 4, 2) := by decide +kernel
theorem dX3_unitsInSight_105 : decode cX3_unitsInSight 105 = .ok (.ireturn, 1) := by decide +kernel
theorem dX3_below_0 : decode cX3_below 0 = .ok (.iload_n 0, 1) := by decide +kernel
theorem dX3_below_1 : decode cX3_below 1 = .ok (.ifCond .lt 12, 3) := by decide +kernel
theorem dX3_below_4 : decode cX3_below 4 = .ok (.iload_n 0, 1) := by decide +kernel
theorem dX3_below_5 : decode cX3_below 5 = .ok (.iload_n 1, 1) := by decide +kernel
theorem dX3_below_6 : decode cX3_below 6 = .ok (.if_icmp .ge 7, 3) := by decide +kernel
theorem dX3_below_9 : decode cX3_below 9 = .ok (.iconst 1, 1) := by decide +kernel
theorem dX3_below_10 : decode cX3_below 10 = .ok (.goto 4, 3) := by decide +kernel
theorem dX3_below_13 : decode cX3_below 13 = .ok (.iconst 0, 1) := by decide +kernel
theorem dX3_below_14 : decode cX3_below 14 = .ok (.ireturn, 1) := by decide +kernel
theorem dX3_opponent_0 : decode cX3_opponent 0 = .ok (.iconst 1, 1) := by decide +kernel
theorem dX3_opponent_1 : decode cX3_opponent 1 = .ok (.iload_n 0, 1) := by decide +kernel
theorem dX3_opponent_2 : decode cX3_opponent 2 = .ok (.isub, 1) := by decide +kernel
theorem dX3_opponent_3 : decode cX3_opponent 3 = .ok (.ireturn, 1) := by decide +kernel
theorem dX3_bit_0 : decode cX3_bit 0 = .ok (.iconst 1, 1) := by decide +kernel
theorem dX3_bit_1 : decode cX3_bit 1 = .ok (.iload_n 0, 1) := by decide +kernel
theorem dX3_bit_2 : decode cX3_bit 2 = .ok (.ishl, 1) := by decide +kernel
theorem dX3_bit_3 : decode cX3_bit 3 = .ok (.ireturn, 1) := by decide +kernel
set_option maxRecDepth 20000 in
theorem ggX3_has_X3_bit : GoodIn wsX3_has wsX3_bit := goodIn_r _ [4] (by decide +kernel) (by decide +kernel)
set_option maxRecDepth 20000 in
theorem gX3_has_X3_bit : GoodIn wsX3_has (va_wsS RX3 202 yX3_bit wsX3_bit) := goodIn_app (goodIn_of _ (by decide +kernel)) ggX3_has_X3_bit
theorem dX3_has_0 : decode cX3_has 0 = .ok (.iload_n 1, 1) := by decide +kernel
theorem dX3_has_1 : decode cX3_has 1 = .ok (.ifCond .lt 22, 3) := by decide +kernel
theorem dX3_has_4 : decode cX3_has 4 = .ok (.iload_n 1, 1) := by decide +kernel
theorem dX3_has_5 : decode cX3_has 5 = .ok (.bipush 32, 2) := by decide +kernel
theorem dX3_has_7 : decode cX3_has 7 = .ok (.if_icmp .ge 16, 3) := by decide +kernel
theorem dX3_has_10 : decode cX3_has 10 = .ok (.iload_n 0, 1) := by decide +kernel
theorem dX3_has_11 : decode cX3_has 11 = .ok (.iload_n 1, 1) := by decide +kernel
theorem dX3_has_12 : decode cX3_has 12 = .ok (.invokestatic 202, 3) := by decide +kernel
theorem dX3_has_15 : decode cX3_has 15 = .ok (.iand, 1) := by decide +kernel
theorem dX3_has_16 : decode cX3_has 16 = .ok (.ifCond .eq 7, 3) := by decide +kernel
theorem dX3_has_19 : decode cX3_has 19 = .ok (.iconst 1, 1) := by decide +kernel
theorem dX3_has_20 : decode cX3_has 20 = .ok (.goto 4, 3) := by decide +kernel
theorem dX3_has_23 : decode cX3_has 23 = .ok (.iconst 0, 1) := by decide +kernel
theorem dX3_has_24 : decode cX3_has 24 = .ok (.ireturn, 1) := by decide +kernel
theorem dJ9_max_7cf53_0 : decode cJ9_max_7cf53 0 = .ok (.iload_n 0, 1) := by decide +kernel
theorem dJ9_max_7cf53_1 : decode cJ9_max_7cf53 1 = .ok (.iload_n 1, 1) := by decide +kernel
theorem dJ9_max_7cf53_2 : decode cJ9_max_7cf53 2 = .ok (.if_icmp .lt 7, 3) := by decide +kernel
theorem dJ9_max_7cf53_5 : decode cJ9_max_7cf53 5 = .ok (.iload_n 0, 1) := by decide +kernel
theorem dJ9_max_7cf53_6 : decode cJ9_max_7cf53 6 = .ok (.goto 4, 3) := by decide +kernel
theorem dJ9_max_7cf53_9 : decode cJ9_max_7cf53 9 = .ok (.iload_n 1, 1) := by decide +kernel
theorem dJ9_max_7cf53_10 : decode cJ9_max_7cf53 10 = .ok (.ireturn, 1) := by decide +kernel
theorem dJ9_min_7cf53_0 : decode cJ9_min_7cf53 0 = .ok (.iload_n 0, 1) := by decide +kernel
theorem dJ9_min_7cf53_1 : decode cJ9_min_7cf53 1 = .ok (.iload_n 1, 1) := by decide +kernel
theorem dJ9_min_7cf53_2 : decode cJ9_min_7cf53 2 = .ok (.if_icmp .gt 7, 3) := by decide +kernel
theorem dJ9_min_7cf53_5 : decode cJ9_min_7cf53 5 = .ok (.iload_n 0, 1) := by decide +kernel
theorem dJ9_min_7cf53_6 : decode cJ9_min_7cf53 6 = .ok (.goto 4, 3) := by decide +kernel
theorem dJ9_min_7cf53_9 : decode cJ9_min_7cf53 9 = .ok (.iload_n 1, 1) := by decide +kernel
theorem dJ9_min_7cf53_10 : decode cJ9_min_7cf53 10 = .ok (.ireturn, 1) := by decide +kernel
end
section
theorem dL_cell_0 : decode cL_cell 0 = .ok (.iload_n 1, 1) := by decide +kernel
theorem dL_cell_1 : decode cL_cell 1 = .ok (.aload_n 0, 1) := by decide +kernel
theorem dL_cell_2 : decode cL_cell 2 = .ok (.arraylength, 1) := by decide +kernel
theorem dL_cell_3 : decode cL_cell 3 = .ok (.if_icmp .ge 9, 3) := by decide +kernel
theorem dL_cell_6 : decode cL_cell 6 = .ok (.aload_n 0, 1) := by decide +kernel
theorem dL_cell_7 : decode cL_cell 7 = .ok (.iload_n 1, 1) := by decide +kernel
theorem dL_cell_8 : decode cL_cell 8 = .ok (.iaload, 1) := by decide +kernel
theorem dL_cell_9 : decode cL_cell 9 = .ok (.goto 9, 3) := by decide +kernel
theorem dL_cell_12 : decode cL_cell 12 = .ok (.ldc 7, 2) := by decide +kernel
theorem dL_cell_14 : decode cL_cell 14 = .ok (.iload_n 1, 1) := by decide +kernel
theorem dL_cell_15 : decode cL_cell 15 = .ok (.iconst 1, 1) := by decide +kernel
theorem dL_cell_16 : decode cL_cell 16 = .ok (.iadd, 1) := by decide +kernel
theorem dL_cell_17 : decode cL_cell 17 = .ok (.imul, 1) := by decide +kernel
theorem dL_cell_18 : decode cL_cell 18 = .ok (.ireturn, 1) := by decide +kernel
theorem dL_at_0 : decode cL_at 0 = .ok (.iload_n 0, 1) := by decide +kernel
theorem dL_at_1 : decode cL_at 1 = .ok (.iconst 1, 1) := by decide +kernel
theorem dL_at_2 : decode cL_at 2 = .ok (.iushr, 1) := by decide +kernel
theorem dL_at_3 : decode cL_at 3 = .ok (.iload_n 1, 1) := by decide +kernel
theorem dL_at_4 : decode cL_at 4 = .ok (.irem, 1) := by decide +kernel
theorem dL_at_5 : decode cL_at 5 = .ok (.ireturn, 1) := by decide +kernel
set_option maxRecDepth 20000 in
theorem ggL_lay_L_cell : GoodIn wsL_lay wsL_cell := goodIn_r _ [5, 6] (by decide +kernel) (by decide +kernel)
set_option maxRecDepth 20000 in
theorem gL_lay_L_cell : GoodIn wsL_lay (va_wsS RL 8 yL_cell wsL_cell) := goodIn_app (goodIn_of _ (by decide +kernel)) ggL_lay_L_cell
set_option maxRecDepth 20000 in
theorem ggL_lay_L_at : GoodIn wsL_lay wsL_at := goodIn_r _ [9] (by decide +kernel) (by decide +kernel)
set_option maxRecDepth 20000 in
theorem gL_lay_L_at : GoodIn wsL_lay (va_wsS RL 15 yL_at wsL_at) := goodIn_app (goodIn_of _ (by decide +kernel)) ggL_lay_L_at
set_option maxRecDepth 20000 in
theorem ggL_lay_X3_addRoad : GoodIn wsL_lay wsX3_addRoad := goodIn_ca (goodIn_ca (goodIn_r _ [14, 15, 16, 17, 18, 19, 20, 21, 22, 13, 23, 24, 25, 26, 27, 28, 29, 30, 31, 32, 33, 34, 35, 36, 37, 38, 39, 40, 41, 42, 43, 44, 45, 46, 47, 48, 97, 98, 99, 100, 101, 102, 103, 104, 105, 106] (by decide +kernel) (by decide +kernel)) (goodIn_sub (fun _ h => List.mem_cons_of_mem _ (List.mem_append_left _ (List.mem_append_right _ h))) (by decide +kernel))) (goodIn_sub (fun _ h => List.mem_cons_of_mem _ (List.mem_append_right _ h)) (by decide +kernel))
set_option maxRecDepth 20000 in
theorem gL_lay_X3_addRoad : GoodIn wsL_lay (wsV RL 19 RX3 yX3_addRoad wsX3_addRoad) := goodIn_app (goodIn_of _ (by decide +kernel)) ggL_lay_X3_addRoad
set_option maxRecDepth 20000 in
theorem ggL_lay_X3_addUnit : GoodIn wsL_lay wsX3_addUnit := goodIn_ca (goodIn_ca (goodIn_r _ [52, 15, 16, 17, 18, 19, 53, 21, 22, 13, 23, 54, 55, 56, 57, 58, 59, 60, 61, 62, 63, 64, 65, 66, 67, 68, 69, 70, 71, 72, 73, 74, 75, 76, 77, 78, 38, 39, 79, 35, 36, 37, 80, 81, 82, 83, 84, 85, 86, 87, 88, 89, 90, 91, 92, 93, 94, 95, 96, 97, 98, 99, 100, 101, 102, 103, 107, 108, 109, 110, 111] (by decide +kernel) (by decide +kernel)) (goodIn_sub (fun _ h => List.mem_cons_of_mem _ (List.mem_append_left _ (List.mem_append_right _ h))) (by decide +kernel))) (goodIn_sub (fun _ h => List.mem_cons_of_mem _ (List.mem_append_right _ h)) (by decide +kernel))
set_option maxRecDepth 20000 in
theorem gL_lay_X3_addUnit : GoodIn wsL_lay (wsV RL 25 RX3 yX3_addUnit wsX3_addUnit) := goodIn_app (goodIn_of _ (by decide +kernel)) ggL_lay_X3_addUnit
theorem dL_lay_0 : decode cL_lay 0 = .ok (.iconst 0, 1) := by decide +kernel
theorem dL_lay_1 : decode cL_lay 1 = .ok (.istore 4, 2) := by decide +kernel
theorem dL_lay_3 : decode cL_lay 3 = .ok (.iconst 0, 1) := by decide +kernel
theorem dL_lay_4 : decode cL_lay 4 = .ok (.istore 5, 2) := by decide +kernel
theorem dL_lay_6 : decode cL_lay 6 = .ok (.iload 5, 2) := by decide +kernel
theorem dL_lay_8 : decode cL_lay 8 = .ok (.bipush 14, 2) := by decide +kernel
theorem dL_lay_10 : decode cL_lay 10 = .ok (.if_icmp .ge 142, 3) := by decide +kernel
theorem dL_lay_13 : decode cL_lay 13 = .ok (.aload_n 1, 1) := by decide +kernel
theorem dL_lay_14 : decode cL_lay 14 = .ok (.iload 5, 2) := by decide +kernel
theorem dL_lay_16 : decode cL_lay 16 = .ok (.invokestatic 8, 3) := by decide +kernel
theorem dL_lay_19 : decode cL_lay 19 = .ok (.ldc 14, 2) := by decide +kernel
theorem dL_lay_21 : decode cL_lay 21 = .ok (.iand, 1) := by decide +kernel
theorem dL_lay_22 : decode cL_lay 22 = .ok (.istore 6, 2) := by decide +kernel
theorem dL_lay_24 : decode cL_lay 24 = .ok (.iload 5, 2) := by decide +kernel
theorem dL_lay_26 : decode cL_lay 26 = .ok (.bipush 9, 2) := by decide +kernel
theorem dL_lay_28 : decode cL_lay 28 = .ok (.if_icmp .ge 8, 3) := by decide +kernel
theorem dL_lay_31 : decode cL_lay 31 = .ok (.iload 5, 2) := by decide +kernel
theorem dL_lay_33 : decode cL_lay 33 = .ok (.goto 10, 3) := by decide +kernel
theorem dL_lay_36 : decode cL_lay 36 = .ok (.iload 6, 2) := by decide +kernel
theorem dL_lay_38 : decode cL_lay 38 = .ok (.bipush 10, 2) := by decide +kernel
theorem dL_lay_40 : decode cL_lay 40 = .ok (.invokestatic 15, 3) := by decide +kernel
theorem dL_lay_43 : decode cL_lay 43 = .ok (.istore 7, 2) := by decide +kernel
theorem dL_lay_45 : decode cL_lay 45 = .ok (.iload 5, 2) := by decide +kernel
theorem dL_lay_47 : decode cL_lay 47 = .ok (.bipush 9, 2) := by decide +kernel
theorem dL_lay_49 : decode cL_lay 49 = .ok (.if_icmp .ge 10, 3) := by decide +kernel
theorem dL_lay_52 : decode cL_lay 52 = .ok (.iload 5, 2) := by decide +kernel
theorem dL_lay_54 : decode cL_lay 54 = .ok (.iconst 1, 1) := by decide +kernel
theorem dL_lay_55 : decode cL_lay 55 = .ok (.iadd, 1) := by decide +kernel
theorem dL_lay_56 : decode cL_lay 56 = .ok (.goto 12, 3) := by decide +kernel
theorem dL_lay_59 : decode cL_lay 59 = .ok (.iload 6, 2) := by decide +kernel
theorem dL_lay_61 : decode cL_lay 61 = .ok (.iconst 4, 1) := by decide +kernel
theorem dL_lay_62 : decode cL_lay 62 = .ok (.ishr, 1) := by decide +kernel
theorem dL_lay_63 : decode cL_lay 63 = .ok (.bipush 10, 2) := by decide +kernel
theorem dL_lay_65 : decode cL_lay 65 = .ok (.invokestatic 15, 3) := by decide +kernel
theorem dL_lay_68 : decode cL_lay 68 = .ok (.istore 8, 2) := by decide +kernel
theorem dL_lay_70 : decode cL_lay 70 = .ok (.iload 7, 2) := by decide +kernel
theorem dL_lay_72 : decode cL_lay 72 = .ok (.iload 8, 2) := by decide +kernel
theorem dL_lay_74 : decode cL_lay 74 = .ok (.if_icmp .eq 72, 3) := by decide +kernel
theorem dL_lay_77 : decode cL_lay 77 = .ok (.aload_n 3, 1) := by decide +kernel
theorem dL_lay_78 : decode cL_lay 78 = .ok (.iload 7, 2) := by decide +kernel
theorem dL_lay_80 : decode cL_lay 80 = .ok (.iaload, 1) := by decide +kernel
theorem dL_lay_81 : decode cL_lay 81 = .ok (.iload 8, 2) := by decide +kernel
theorem dL_lay_83 : decode cL_lay 83 = .ok (.ishr, 1) := by decide +kernel
theorem dL_lay_84 : decode cL_lay 84 = .ok (.iconst 1, 1) := by decide +kernel
theorem dL_lay_85 : decode cL_lay 85 = .ok (.iand, 1) := by decide +kernel
theorem dL_lay_86 : decode cL_lay 86 = .ok (.iconst 1, 1) := by decide +kernel
theorem dL_lay_87 : decode cL_lay 87 = .ok (.if_icmp .ne 6, 3) := by decide +kernel
theorem dL_lay_90 : decode cL_lay 90 = .ok (.goto 56, 3) := by decide +kernel
theorem dL_lay_93 : decode cL_lay 93 = .ok (.aload_n 3, 1) := by decide +kernel
theorem dL_lay_94 : decode cL_lay 94 = .ok (.iload 7, 2) := by decide +kernel
theorem dL_lay_96 : decode cL_lay 96 = .ok (.dup2, 1) := by decide +kernel
theorem dL_lay_97 : decode cL_lay 97 = .ok (.iaload, 1) := by decide +kernel
theorem dL_lay_98 : decode cL_lay 98 = .ok (.iconst 1, 1) := by decide +kernel
theorem dL_lay_99 : decode cL_lay 99 = .ok (.iload 8, 2) := by decide +kernel
theorem dL_lay_101 : decode cL_lay 101 = .ok (.ishl, 1) := by decide +kernel
theorem dL_lay_102 : decode cL_lay 102 = .ok (.ior, 1) := by decide +kernel
theorem dL_lay_103 : decode cL_lay 103 = .ok (.iastore, 1) := by decide +kernel
theorem dL_lay_104 : decode cL_lay 104 = .ok (.aload_n 3, 1) := by decide +kernel
theorem dL_lay_105 : decode cL_lay 105 = .ok (.iload 8, 2) := by decide +kernel
theorem dL_lay_107 : decode cL_lay 107 = .ok (.dup2, 1) := by decide +kernel
theorem dL_lay_108 : decode cL_lay 108 = .ok (.iaload, 1) := by decide +kernel
theorem dL_lay_109 : decode cL_lay 109 = .ok (.iconst 1, 1) := by decide +kernel
theorem dL_lay_110 : decode cL_lay 110 = .ok (.iload 7, 2) := by decide +kernel
theorem dL_lay_112 : decode cL_lay 112 = .ok (.ishl, 1) := by decide +kernel
theorem dL_lay_113 : decode cL_lay 113 = .ok (.ior, 1) := by decide +kernel
theorem dL_lay_114 : decode cL_lay 114 = .ok (.iastore, 1) := by decide +kernel
theorem dL_lay_115 : decode cL_lay 115 = .ok (.aload_n 0, 1) := by decide +kernel
theorem dL_lay_116 : decode cL_lay 116 = .ok (.iload 7, 2) := by decide +kernel
theorem dL_lay_118 : decode cL_lay 118 = .ok (.iload 8, 2) := by decide +kernel
theorem dL_lay_120 : decode cL_lay 120 = .ok (.iload 6, 2) := by decide +kernel
theorem dL_lay_122 : decode cL_lay 122 = .ok (.bipush 8, 2) := by decide +kernel
theorem dL_lay_124 : decode cL_lay 124 = .ok (.ishr, 1) := by decide +kernel
theorem dL_lay_125 : decode cL_lay 125 = .ok (.iconst 3, 1) := by decide +kernel
theorem dL_lay_126 : decode cL_lay 126 = .ok (.invokestatic 15, 3) := by decide +kernel
theorem dL_lay_129 : decode cL_lay 129 = .ok (.ifCond .le 7, 3) := by decide +kernel
theorem dL_lay_132 : decode cL_lay 132 = .ok (.iconst 1, 1) := by decide +kernel
theorem dL_lay_133 : decode cL_lay 133 = .ok (.goto 4, 3) := by decide +kernel
theorem dL_lay_136 : decode cL_lay 136 = .ok (.iconst 0, 1) := by decide +kernel
theorem dL_lay_137 : decode cL_lay 137 = .ok (.invokevirtual 19, 3) := by decide +kernel
theorem dL_lay_140 : decode cL_lay 140 = .ok (.iconst 1, 1) := by decide +kernel
theorem dL_lay_141 : decode cL_lay 141 = .ok (.if_icmp .ge 5, 3) := by decide +kernel
theorem dL_lay_144 : decode cL_lay 144 = .ok (.iconst (-1), 1) := by decide +kernel
theorem dL_lay_145 : decode cL_lay 145 = .ok (.ireturn, 1) := by decide +kernel
theorem dL_lay_146 : decode cL_lay 146 = .ok (.iinc 5 1, 3) := by decide +kernel
theorem dL_lay_149 : decode cL_lay 149 = .ok (.goto (-143), 3) := by decide +kernel
theorem dL_lay_152 : decode cL_lay 152 = .ok (.iconst 0, 1) := by decide +kernel
theorem dL_lay_153 : decode cL_lay 153 = .ok (.istore 5, 2) := by decide +kernel
theorem dL_lay_155 : decode cL_lay 155 = .ok (.iload 5, 2) := by decide +kernel
theorem dL_lay_157 : decode cL_lay 157 = .ok (.bipush 10, 2) := by decide +kernel
theorem dL_lay_159 : decode cL_lay 159 = .ok (.if_icmp .ge 91, 3) := by decide +kernel
theorem dL_lay_162 : decode cL_lay 162 = .ok (.aload_n 1, 1) := by decide +kernel
theorem dL_lay_163 : decode cL_lay 163 = .ok (.bipush 20, 2) := by decide +kernel
theorem dL_lay_165 : decode cL_lay 165 = .ok (.iload 5, 2) := by decide +kernel
theorem dL_lay_167 : decode cL_lay 167 = .ok (.iadd, 1) := by decide +kernel
theorem dL_lay_168 : decode cL_lay 168 = .ok (.invokestatic 8, 3) := by decide +kernel
theorem dL_lay_171 : decode cL_lay 171 = .ok (.ldc 14, 2) := by decide +kernel
theorem dL_lay_173 : decode cL_lay 173 = .ok (.iand, 1) := by decide +kernel
theorem dL_lay_174 : decode cL_lay 174 = .ok (.istore 6, 2) := by decide +kernel
theorem dL_lay_176 : decode cL_lay 176 = .ok (.aload_n 2, 1) := by decide +kernel
theorem dL_lay_177 : decode cL_lay 177 = .ok (.iload 5, 2) := by decide +kernel
theorem dL_lay_179 : decode cL_lay 179 = .ok (.iload 6, 2) := by decide +kernel
theorem dL_lay_181 : decode cL_lay 181 = .ok (.iconst 2, 1) := by decide +kernel
theorem dL_lay_182 : decode cL_lay 182 = .ok (.invokestatic 15, 3) := by decide +kernel
theorem dL_lay_185 : decode cL_lay 185 = .ok (.iastore, 1) := by decide +kernel
theorem dL_lay_186 : decode cL_lay 186 = .ok (.aload_n 0, 1) := by decide +kernel
theorem dL_lay_187 : decode cL_lay 187 = .ok (.aload_n 2, 1) := by decide +kernel
theorem dL_lay_188 : decode cL_lay 188 = .ok (.iload 5, 2) := by decide +kernel
theorem dL_lay_190 : decode cL_lay 190 = .ok (.iaload, 1) := by decide +kernel
theorem dL_lay_191 : decode cL_lay 191 = .ok (.aload_n 2, 1) := by decide +kernel
theorem dL_lay_192 : decode cL_lay 192 = .ok (.iload 5, 2) := by decide +kernel
theorem dL_lay_194 : decode cL_lay 194 = .ok (.iaload, 1) := by decide +kernel
theorem dL_lay_195 : decode cL_lay 195 = .ok (.ifCond .ne 14, 3) := by decide +kernel
theorem dL_lay_198 : decode cL_lay 198 = .ok (.iload 6, 2) := by decide +kernel
theorem dL_lay_200 : decode cL_lay 200 = .ok (.iconst 2, 1) := by decide +kernel
theorem dL_lay_201 : decode cL_lay 201 = .ok (.ishr, 1) := by decide +kernel
theorem dL_lay_202 : decode cL_lay 202 = .ok (.iconst 4, 1) := by decide +kernel
theorem dL_lay_203 : decode cL_lay 203 = .ok (.invokestatic 15, 3) := by decide +kernel
theorem dL_lay_206 : decode cL_lay 206 = .ok (.goto 14, 3) := by decide +kernel
theorem dL_lay_209 : decode cL_lay 209 = .ok (.bipush 9, 2) := by decide +kernel
theorem dL_lay_211 : decode cL_lay 211 = .ok (.iload 6, 2) := by decide +kernel
theorem dL_lay_213 : decode cL_lay 213 = .ok (.iconst 2, 1) := by decide +kernel
theorem dL_lay_214 : decode cL_lay 214 = .ok (.ishr, 1) := by decide +kernel
theorem dL_lay_215 : decode cL_lay 215 = .ok (.iconst 4, 1) := by decide +kernel
theorem dL_lay_216 : decode cL_lay 216 = .ok (.invokestatic 15, 3) := by decide +kernel
theorem dL_lay_219 : decode cL_lay 219 = .ok (.isub, 1) := by decide +kernel
theorem dL_lay_220 : decode cL_lay 220 = .ok (.iconst 1, 1) := by decide +kernel
theorem dL_lay_221 : decode cL_lay 221 = .ok (.iload 6, 2) := by decide +kernel
theorem dL_lay_223 : decode cL_lay 223 = .ok (.iconst 5, 1) := by decide +kernel
theorem dL_lay_224 : decode cL_lay 224 = .ok (.ishr, 1) := by decide +kernel
theorem dL_lay_225 : decode cL_lay 225 = .ok (.bipush 9, 2) := by decide +kernel
theorem dL_lay_227 : decode cL_lay 227 = .ok (.invokestatic 15, 3) := by decide +kernel
theorem dL_lay_230 : decode cL_lay 230 = .ok (.iadd, 1) := by decide +kernel
theorem dL_lay_231 : decode cL_lay 231 = .ok (.invokevirtual 25, 3) := by decide +kernel
theorem dL_lay_234 : decode cL_lay 234 = .ok (.iload 4, 2) := by decide +kernel
theorem dL_lay_236 : decode cL_lay 236 = .ok (.if_icmp .eq 5, 3) := by decide +kernel
theorem dL_lay_239 : decode cL_lay 239 = .ok (.iconst (-1), 1) := by decide +kernel
theorem dL_lay_240 : decode cL_lay 240 = .ok (.ireturn, 1) := by decide +kernel
theorem dL_lay_241 : decode cL_lay 241 = .ok (.iinc 4 1, 3) := by decide +kernel
theorem dL_lay_244 : decode cL_lay 244 = .ok (.iinc 5 1, 3) := by decide +kernel
theorem dL_lay_247 : decode cL_lay 247 = .ok (.goto (-92), 3) := by decide +kernel
theorem dL_lay_250 : decode cL_lay 250 = .ok (.iload 4, 2) := by decide +kernel
theorem dL_lay_252 : decode cL_lay 252 = .ok (.ireturn, 1) := by decide +kernel
set_option maxRecDepth 20000 in
theorem ggL_sum_X3_strength : GoodIn wsL_sum wsX3_strength := goodIn_ca (goodIn_r _ [5, 6, 7, 8, 9, 10, 4, 11, 12, 13, 14, 15, 16, 17, 18, 19, 20, 21, 22, 23, 24, 25, 26, 27, 28, 29, 30, 31, 32, 33, 34, 35, 36, 37, 38, 39, 40, 41, 42, 43, 44, 45] (by decide +kernel) (by decide +kernel)) (goodIn_sub (fun _ h => List.mem_cons_of_mem _ (List.mem_append_right _ h)) (by decide +kernel))
set_option maxRecDepth 20000 in
theorem gL_sum_X3_strength : GoodIn wsL_sum (wsV RL 29 RX3 yX3_strength wsX3_strength) := goodIn_app (goodIn_of _ (by decide +kernel)) ggL_sum_X3_strength
theorem dL_sum_0 : decode cL_sum 0 = .ok (.iconst 0, 1) := by decide +kernel
theorem dL_sum_1 : decode cL_sum 1 = .ok (.istore 4, 2) := by decide +kernel
theorem dL_sum_3 : decode cL_sum 3 = .ok (.iconst 0, 1) := by decide +kernel
theorem dL_sum_4 : decode cL_sum 4 = .ok (.istore 5, 2) := by decide +kernel
theorem dL_sum_6 : decode cL_sum 6 = .ok (.iload 5, 2) := by decide +kernel
theorem dL_sum_8 : decode cL_sum 8 = .ok (.iload_n 2, 1) := by decide +kernel
theorem dL_sum_9 : decode cL_sum 9 = .ok (.if_icmp .ge 32, 3) := by decide +kernel
theorem dL_sum_12 : decode cL_sum 12 = .ok (.iload 4, 2) := by decide +kernel
theorem dL_sum_14 : decode cL_sum 14 = .ok (.aload_n 3, 1) := by decide +kernel
theorem dL_sum_15 : decode cL_sum 15 = .ok (.iload 5, 2) := by decide +kernel
theorem dL_sum_17 : decode cL_sum 17 = .ok (.iaload, 1) := by decide +kernel
theorem dL_sum_18 : decode cL_sum 18 = .ok (.iload_n 1, 1) := by decide +kernel
theorem dL_sum_19 : decode cL_sum 19 = .ok (.if_icmp .ne 12, 3) := by decide +kernel
theorem dL_sum_22 : decode cL_sum 22 = .ok (.aload_n 0, 1) := by decide +kernel
theorem dL_sum_23 : decode cL_sum 23 = .ok (.iload 5, 2) := by decide +kernel
theorem dL_sum_25 : decode cL_sum 25 = .ok (.invokevirtual 29, 3) := by decide +kernel
theorem dL_sum_28 : decode cL_sum 28 = .ok (.goto 4, 3) := by decide +kernel
theorem dL_sum_31 : decode cL_sum 31 = .ok (.iconst 0, 1) := by decide +kernel
theorem dL_sum_32 : decode cL_sum 32 = .ok (.iadd, 1) := by decide +kernel
theorem dL_sum_33 : decode cL_sum 33 = .ok (.istore 4, 2) := by decide +kernel
theorem dL_sum_35 : decode cL_sum 35 = .ok (.iinc 5 1, 3) := by decide +kernel
theorem dL_sum_38 : decode cL_sum 38 = .ok (.goto (-32), 3) := by decide +kernel
theorem dL_sum_41 : decode cL_sum 41 = .ok (.iload 4, 2) := by decide +kernel
theorem dL_sum_43 : decode cL_sum 43 = .ok (.ireturn, 1) := by decide +kernel
set_option maxRecDepth 20000 in
theorem ggL_moved_X3_townOf : GoodIn wsL_moved wsX3_townOf := goodIn_ca (goodIn_r _ [5, 6, 7, 8, 9, 10, 4, 11, 12, 13, 14, 15, 16, 17, 18, 19, 20, 21, 22, 23, 24, 25, 26, 27, 28, 29, 30, 31, 32, 33, 80, 81, 82, 83, 84, 85, 86, 87, 88, 89, 90, 91] (by decide +kernel) (by decide +kernel)) (goodIn_sub (fun _ h => List.mem_cons_of_mem _ (List.mem_append_left _ (List.mem_append_right _ h))) (by decide +kernel))
set_option maxRecDepth 20000 in
theorem gL_moved_X3_townOf : GoodIn wsL_moved (wsV RL 33 RX3 yX3_townOf wsX3_townOf) := goodIn_app (goodIn_of _ (by decide +kernel)) ggL_moved_X3_townOf
set_option maxRecDepth 20000 in
theorem ggL_moved_X3_strength : GoodIn wsL_moved wsX3_strength := goodIn_ca (goodIn_r _ [37, 6, 7, 8, 9, 10, 4, 11, 12, 13, 14, 15, 16, 17, 18, 19, 20, 21, 22, 38, 39, 40, 41, 42, 28, 29, 30, 31, 32, 33, 80, 81, 82, 83, 84, 85, 86, 87, 88, 89, 90, 91] (by decide +kernel) (by decide +kernel)) (goodIn_sub (fun _ h => List.mem_cons_of_mem _ (List.mem_append_left _ (List.mem_append_right _ h))) (by decide +kernel))
set_option maxRecDepth 20000 in
theorem gL_moved_X3_strength : GoodIn wsL_moved (wsV RL 29 RX3 yX3_strength wsX3_strength) := goodIn_app (goodIn_of _ (by decide +kernel)) ggL_moved_X3_strength
set_option maxRecDepth 20000 in
theorem ggL_moved_X3_played : GoodIn wsL_moved wsX3_played := goodIn_r _ [46, 7, 80, 81, 82, 83, 84, 85, 86] (by decide +kernel) (by decide +kernel)
set_option maxRecDepth 20000 in
theorem gL_moved_X3_played : GoodIn wsL_moved (wsV RL 36 RX3 yX3_played wsX3_played) := goodIn_app (goodIn_of _ (by decide +kernel)) ggL_moved_X3_played
set_option maxRecDepth 20000 in
theorem ggL_moved_X3_townAfter : GoodIn wsL_moved wsX3_townAfter := goodIn_ca (goodIn_r _ [50, 6, 8, 9, 10, 4, 11, 12, 13, 14, 15, 16, 17, 18, 19, 20, 21, 22, 51, 52, 53, 54, 7, 55, 56, 57, 58, 23, 24, 25, 26, 27, 28, 29, 30, 31, 32, 33, 80, 81, 82, 83, 84, 85, 86, 87, 88, 89, 90, 91] (by decide +kernel) (by decide +kernel)) (goodIn_sub (fun _ h => List.mem_cons_of_mem _ (List.mem_append_left _ (List.mem_append_right _ h))) (by decide +kernel))
set_option maxRecDepth 20000 in
theorem gL_moved_X3_townAfter : GoodIn wsL_moved (wsV RL 40 RX3 yX3_townAfter wsX3_townAfter) := goodIn_app (goodIn_of _ (by decide +kernel)) ggL_moved_X3_townAfter
set_option maxRecDepth 20000 in
theorem ggL_moved_X3_reported : GoodIn wsL_moved wsX3_reported := goodIn_ca (goodIn_ca (goodIn_r _ [62, 12, 13, 6, 7, 55, 56, 57, 58, 63, 64, 65, 4, 66, 67, 68, 20, 21, 22, 8, 9, 10, 11, 14, 15, 16, 17, 18, 19, 69, 70, 71, 72, 73, 74, 75, 76, 77, 78, 79, 23, 24, 25, 26, 27, 28, 29, 30, 31, 32, 33, 80, 81, 82, 83, 84, 85, 86, 87, 88, 89, 90, 91] (by decide +kernel) (by decide +kernel)) (goodIn_sub (fun _ h => List.mem_cons_of_mem _ (List.mem_append_left _ (List.mem_append_right _ h))) (by decide +kernel))) (goodIn_sub (fun _ h => List.mem_cons_of_mem _ (List.mem_append_right _ h)) (by decide +kernel))
set_option maxRecDepth 20000 in
theorem gL_moved_X3_reported : GoodIn wsL_moved (wsV RL 43 RX3 yX3_reported wsX3_reported) := goodIn_app (goodIn_of _ (by decide +kernel)) ggL_moved_X3_reported
theorem dL_moved_0 : decode cL_moved 0 = .ok (.iconst 0, 1) := by decide +kernel
theorem dL_moved_1 : decode cL_moved 1 = .ok (.istore 8, 2) := by decide +kernel
theorem dL_moved_3 : decode cL_moved 3 = .ok (.iload 8, 2) := by decide +kernel
theorem dL_moved_5 : decode cL_moved 5 = .ok (.iload_n 2, 1) := by decide +kernel
theorem dL_moved_6 : decode cL_moved 6 = .ok (.if_icmp .ge 203, 3) := by decide +kernel
theorem dL_moved_9 : decode cL_moved 9 = .ok (.aload 4, 2) := by decide +kernel
theorem dL_moved_11 : decode cL_moved 11 = .ok (.iload 8, 2) := by decide +kernel
theorem dL_moved_13 : decode cL_moved 13 = .ok (.iaload, 1) := by decide +kernel
theorem dL_moved_14 : decode cL_moved 14 = .ok (.istore 9, 2) := by decide +kernel
theorem dL_moved_16 : decode cL_moved 16 = .ok (.aload_n 0, 1) := by decide +kernel
theorem dL_moved_17 : decode cL_moved 17 = .ok (.iload 8, 2) := by decide +kernel
theorem dL_moved_19 : decode cL_moved 19 = .ok (.invokevirtual 33, 3) := by decide +kernel
theorem dL_moved_22 : decode cL_moved 22 = .ok (.istore 10, 2) := by decide +kernel
theorem dL_moved_24 : decode cL_moved 24 = .ok (.aload 4, 2) := by decide +kernel
theorem dL_moved_26 : decode cL_moved 26 = .ok (.bipush 12, 2) := by decide +kernel
theorem dL_moved_28 : decode cL_moved 28 = .ok (.iload 8, 2) := by decide +kernel
theorem dL_moved_30 : decode cL_moved 30 = .ok (.iadd, 1) := by decide +kernel
theorem dL_moved_31 : decode cL_moved 31 = .ok (.iaload, 1) := by decide +kernel
theorem dL_moved_32 : decode cL_moved 32 = .ok (.aload_n 0, 1) := by decide +kernel
theorem dL_moved_33 : decode cL_moved 33 = .ok (.iload 8, 2) := by decide +kernel
theorem dL_moved_35 : decode cL_moved 35 = .ok (.invokevirtual 29, 3) := by decide +kernel
theorem dL_moved_38 : decode cL_moved 38 = .ok (.isub, 1) := by decide +kernel
theorem dL_moved_39 : decode cL_moved 39 = .ok (.istore 11, 2) := by decide +kernel
theorem dL_moved_41 : decode cL_moved 41 = .ok (.iload 11, 2) := by decide +kernel
theorem dL_moved_43 : decode cL_moved 43 = .ok (.ifCond .lt 46, 3) := by decide +kernel
theorem dL_moved_46 : decode cL_moved 46 = .ok (.iload 11, 2) := by decide +kernel
theorem dL_moved_48 : decode cL_moved 48 = .ok (.iconst 2, 1) := by decide +kernel
theorem dL_moved_49 : decode cL_moved 49 = .ok (.if_icmp .gt 40, 3) := by decide +kernel
theorem dL_moved_52 : decode cL_moved 52 = .ok (.iload 10, 2) := by decide +kernel
theorem dL_moved_54 : decode cL_moved 54 = .ok (.ifCond .ge 7, 3) := by decide +kernel
theorem dL_moved_57 : decode cL_moved 57 = .ok (.iconst 1, 1) := by decide +kernel
theorem dL_moved_58 : decode cL_moved 58 = .ok (.goto 4, 3) := by decide +kernel
theorem dL_moved_61 : decode cL_moved 61 = .ok (.iconst 0, 1) := by decide +kernel
theorem dL_moved_62 : decode cL_moved 62 = .ok (.aload_n 0, 1) := by decide +kernel
theorem dL_moved_63 : decode cL_moved 63 = .ok (.iload 8, 2) := by decide +kernel
theorem dL_moved_65 : decode cL_moved 65 = .ok (.invokevirtual 29, 3) := by decide +kernel
theorem dL_moved_68 : decode cL_moved 68 = .ok (.ifCond .ne 7, 3) := by decide +kernel
theorem dL_moved_71 : decode cL_moved 71 = .ok (.iconst 1, 1) := by decide +kernel
theorem dL_moved_72 : decode cL_moved 72 = .ok (.goto 4, 3) := by decide +kernel
theorem dL_moved_75 : decode cL_moved 75 = .ok (.iconst 0, 1) := by decide +kernel
theorem dL_moved_76 : decode cL_moved 76 = .ok (.if_icmp .ne 13, 3) := by decide +kernel
theorem dL_moved_79 : decode cL_moved 79 = .ok (.iload 9, 2) := by decide +kernel
theorem dL_moved_81 : decode cL_moved 81 = .ok (.ifCond .ge 10, 3) := by decide +kernel
theorem dL_moved_84 : decode cL_moved 84 = .ok (.iload 10, 2) := by decide +kernel
theorem dL_moved_86 : decode cL_moved 86 = .ok (.ifCond .lt 5, 3) := by decide +kernel
theorem dL_moved_89 : decode cL_moved 89 = .ok (.iconst 0, 1) := by decide +kernel
theorem dL_moved_90 : decode cL_moved 90 = .ok (.ireturn, 1) := by decide +kernel
theorem dL_moved_91 : decode cL_moved 91 = .ok (.iload 10, 2) := by decide +kernel
theorem dL_moved_93 : decode cL_moved 93 = .ok (.ifCond .lt 48, 3) := by decide +kernel
theorem dL_moved_96 : decode cL_moved 96 = .ok (.iload 10, 2) := by decide +kernel
theorem dL_moved_98 : decode cL_moved 98 = .ok (.iload 9, 2) := by decide +kernel
theorem dL_moved_100 : decode cL_moved 100 = .ok (.if_icmp .eq 41, 3) := by decide +kernel
theorem dL_moved_103 : decode cL_moved 103 = .ok (.iload 10, 2) := by decide +kernel
theorem dL_moved_105 : decode cL_moved 105 = .ok (.aload 5, 2) := by decide +kernel
theorem dL_moved_107 : decode cL_moved 107 = .ok (.iload 8, 2) := by decide +kernel
theorem dL_moved_109 : decode cL_moved 109 = .ok (.iaload, 1) := by decide +kernel
theorem dL_moved_110 : decode cL_moved 110 = .ok (.if_icmp .ne 29, 3) := by decide +kernel
theorem dL_moved_113 : decode cL_moved 113 = .ok (.aload 7, 2) := by decide +kernel
theorem dL_moved_115 : decode cL_moved 115 = .ok (.iload 8, 2) := by decide +kernel
theorem dL_moved_117 : decode cL_moved 117 = .ok (.iaload, 1) := by decide +kernel
theorem dL_moved_118 : decode cL_moved 118 = .ok (.ifCond .lt 21, 3) := by decide +kernel
theorem dL_moved_121 : decode cL_moved 121 = .ok (.iload_n 1, 1) := by decide +kernel
theorem dL_moved_122 : decode cL_moved 122 = .ok (.iconst 2, 1) := by decide +kernel
theorem dL_moved_123 : decode cL_moved 123 = .ok (.if_icmp .eq 16, 3) := by decide +kernel
theorem dL_moved_126 : decode cL_moved 126 = .ok (.aload 6, 2) := by decide +kernel
theorem dL_moved_128 : decode cL_moved 128 = .ok (.iload 9, 2) := by decide +kernel
theorem dL_moved_130 : decode cL_moved 130 = .ok (.iaload, 1) := by decide +kernel
theorem dL_moved_131 : decode cL_moved 131 = .ok (.iload 10, 2) := by decide +kernel
theorem dL_moved_133 : decode cL_moved 133 = .ok (.ishr, 1) := by decide +kernel
theorem dL_moved_134 : decode cL_moved 134 = .ok (.iconst 1, 1) := by decide +kernel
theorem dL_moved_135 : decode cL_moved 135 = .ok (.iand, 1) := by decide +kernel
theorem dL_moved_136 : decode cL_moved 136 = .ok (.ifCond .ne 5, 3) := by decide +kernel
theorem dL_moved_139 : decode cL_moved 139 = .ok (.iconst 0, 1) := by decide +kernel
theorem dL_moved_140 : decode cL_moved 140 = .ok (.ireturn, 1) := by decide +kernel
theorem dL_moved_141 : decode cL_moved 141 = .ok (.aload_n 0, 1) := by decide +kernel
theorem dL_moved_142 : decode cL_moved 142 = .ok (.iload 8, 2) := by decide +kernel
theorem dL_moved_144 : decode cL_moved 144 = .ok (.aload_n 0, 1) := by decide +kernel
theorem dL_moved_145 : decode cL_moved 145 = .ok (.invokevirtual 36, 3) := by decide +kernel
theorem dL_moved_148 : decode cL_moved 148 = .ok (.iconst 1, 1) := by decide +kernel
theorem dL_moved_149 : decode cL_moved 149 = .ok (.isub, 1) := by decide +kernel
theorem dL_moved_150 : decode cL_moved 150 = .ok (.invokevirtual 40, 3) := by decide +kernel
theorem dL_moved_153 : decode cL_moved 153 = .ok (.iload 10, 2) := by decide +kernel
theorem dL_moved_155 : decode cL_moved 155 = .ok (.if_icmp .eq 5, 3) := by decide +kernel
theorem dL_moved_158 : decode cL_moved 158 = .ok (.iconst 0, 1) := by decide +kernel
theorem dL_moved_159 : decode cL_moved 159 = .ok (.ireturn, 1) := by decide +kernel
theorem dL_moved_160 : decode cL_moved 160 = .ok (.aload_n 0, 1) := by decide +kernel
theorem dL_moved_161 : decode cL_moved 161 = .ok (.iconst 1, 1) := by decide +kernel
theorem dL_moved_162 : decode cL_moved 162 = .ok (.aload_n 3, 1) := by decide +kernel
theorem dL_moved_163 : decode cL_moved 163 = .ok (.iload 8, 2) := by decide +kernel
theorem dL_moved_165 : decode cL_moved 165 = .ok (.iaload, 1) := by decide +kernel
theorem dL_moved_166 : decode cL_moved 166 = .ok (.isub, 1) := by decide +kernel
theorem dL_moved_167 : decode cL_moved 167 = .ok (.iload 8, 2) := by decide +kernel
theorem dL_moved_169 : decode cL_moved 169 = .ok (.invokevirtual 43, 3) := by decide +kernel
theorem dL_moved_172 : decode cL_moved 172 = .ok (.istore 12, 2) := by decide +kernel
theorem dL_moved_174 : decode cL_moved 174 = .ok (.aload_n 0, 1) := by decide +kernel
theorem dL_moved_175 : decode cL_moved 175 = .ok (.invokevirtual 36, 3) := by decide +kernel
theorem dL_moved_178 : decode cL_moved 178 = .ok (.iconst 3, 1) := by decide +kernel
theorem dL_moved_179 : decode cL_moved 179 = .ok (.if_icmp .ge 9, 3) := by decide +kernel
theorem dL_moved_182 : decode cL_moved 182 = .ok (.iload 12, 2) := by decide +kernel
theorem dL_moved_184 : decode cL_moved 184 = .ok (.iconst (-1), 1) := by decide +kernel
theorem dL_moved_185 : decode cL_moved 185 = .ok (.if_icmp .ne 16, 3) := by decide +kernel
theorem dL_moved_188 : decode cL_moved 188 = .ok (.iload 12, 2) := by decide +kernel
theorem dL_moved_190 : decode cL_moved 190 = .ok (.iconst (-1), 1) := by decide +kernel
theorem dL_moved_191 : decode cL_moved 191 = .ok (.if_icmp .lt 10, 3) := by decide +kernel
theorem dL_moved_194 : decode cL_moved 194 = .ok (.iload 12, 2) := by decide +kernel
theorem dL_moved_196 : decode cL_moved 196 = .ok (.bipush 9, 2) := by decide +kernel
theorem dL_moved_198 : decode cL_moved 198 = .ok (.if_icmp .le 5, 3) := by decide +kernel
theorem dL_moved_201 : decode cL_moved 201 = .ok (.iconst 0, 1) := by decide +kernel
theorem dL_moved_202 : decode cL_moved 202 = .ok (.ireturn, 1) := by decide +kernel
theorem dL_moved_203 : decode cL_moved 203 = .ok (.iinc 8 1, 3) := by decide +kernel
theorem dL_moved_206 : decode cL_moved 206 = .ok (.goto (-203), 3) := by decide +kernel
theorem dL_moved_209 : decode cL_moved 209 = .ok (.iconst 1, 1) := by decide +kernel
theorem dL_moved_210 : decode cL_moved 210 = .ok (.ireturn, 1) := by decide +kernel
set_option maxRecDepth 20000 in
theorem ggL_supplied_X3_supply : GoodIn wsL_supplied wsX3_supply := goodIn_ca (goodIn_ca (goodIn_r _ [5, 6, 7, 8, 9, 10, 4, 11, 12, 13, 14, 15, 16, 17, 18, 19, 20, 21, 22, 23, 24, 25, 26, 27, 28, 29, 30, 31, 32, 33, 34, 35, 36, 37, 38, 39, 40, 41, 42, 43, 44, 45, 46, 47, 48, 49, 50, 51, 52, 53, 54, 55, 56, 57, 58, 59, 60, 61, 62, 63, 64, 65, 66, 67, 68, 69, 70, 71, 72, 73, 74, 75, 80, 81, 82, 83, 84, 85, 86, 87, 88, 89, 90, 91, 92, 93, 94] (by decide +kernel) (by decide +kernel)) (goodIn_sub (fun _ h => List.mem_cons_of_mem _ (List.mem_append_left _ (List.mem_append_right _ h))) (by decide +kernel))) (goodIn_sub (fun _ h => List.mem_cons_of_mem _ (List.mem_append_right _ h)) (by decide +kernel))
set_option maxRecDepth 20000 in
theorem gL_supplied_X3_supply : GoodIn wsL_supplied (wsV RL 46 RX3 yX3_supply wsX3_supply) := goodIn_app (goodIn_of _ (by decide +kernel)) ggL_supplied_X3_supply
set_option maxRecDepth 20000 in
theorem ggL_supplied_X3_townOf : GoodIn wsL_supplied wsX3_townOf := goodIn_ca (goodIn_r _ [79, 6, 7, 8, 9, 10, 4, 11, 12, 13, 14, 15, 16, 17, 18, 19, 20, 21, 22, 28, 29, 30, 31, 32, 33, 34, 35, 36, 37, 38, 80, 81, 82, 83, 84, 85, 86, 87, 88, 89, 90, 91] (by decide +kernel) (by decide +kernel)) (goodIn_sub (fun _ h => List.mem_cons_of_mem _ (List.mem_append_left _ (List.mem_append_right _ h))) (by decide +kernel))
set_option maxRecDepth 20000 in
theorem gL_supplied_X3_townOf : GoodIn wsL_supplied (wsV RL 33 RX3 yX3_townOf wsX3_townOf) := goodIn_app (goodIn_of _ (by decide +kernel)) ggL_supplied_X3_townOf
theorem dL_supplied_0 : decode cL_supplied 0 = .ok (.iconst 0, 1) := by decide +kernel
theorem dL_supplied_1 : decode cL_supplied 1 = .ok (.istore 5, 2) := by decide +kernel
theorem dL_supplied_3 : decode cL_supplied 3 = .ok (.iload 5, 2) := by decide +kernel
theorem dL_supplied_5 : decode cL_supplied 5 = .ok (.iload_n 2, 1) := by decide +kernel
theorem dL_supplied_6 : decode cL_supplied 6 = .ok (.if_icmp .ge 199, 3) := by decide +kernel
theorem dL_supplied_9 : decode cL_supplied 9 = .ok (.aload 4, 2) := by decide +kernel
theorem dL_supplied_11 : decode cL_supplied 11 = .ok (.iload 5, 2) := by decide +kernel
theorem dL_supplied_13 : decode cL_supplied 13 = .ok (.aload_n 0, 1) := by decide +kernel
theorem dL_supplied_14 : decode cL_supplied 14 = .ok (.iload 5, 2) := by decide +kernel
theorem dL_supplied_16 : decode cL_supplied 16 = .ok (.iload_n 1, 1) := by decide +kernel
theorem dL_supplied_17 : decode cL_supplied 17 = .ok (.invokevirtual 46, 3) := by decide +kernel
theorem dL_supplied_20 : decode cL_supplied 20 = .ok (.iastore, 1) := by decide +kernel
theorem dL_supplied_21 : decode cL_supplied 21 = .ok (.aload_n 0, 1) := by decide +kernel
theorem dL_supplied_22 : decode cL_supplied 22 = .ok (.iload 5, 2) := by decide +kernel
theorem dL_supplied_24 : decode cL_supplied 24 = .ok (.invokevirtual 33, 3) := by decide +kernel
theorem dL_supplied_27 : decode cL_supplied 27 = .ok (.istore 6, 2) := by decide +kernel
theorem dL_supplied_29 : decode cL_supplied 29 = .ok (.aload 4, 2) := by decide +kernel
theorem dL_supplied_31 : decode cL_supplied 31 = .ok (.iload 5, 2) := by decide +kernel
theorem dL_supplied_33 : decode cL_supplied 33 = .ok (.iaload, 1) := by decide +kernel
theorem dL_supplied_34 : decode cL_supplied 34 = .ok (.iconst (-1), 1) := by decide +kernel
theorem dL_supplied_35 : decode cL_supplied 35 = .ok (.if_icmp .lt 26, 3) := by decide +kernel
theorem dL_supplied_38 : decode cL_supplied 38 = .ok (.aload 4, 2) := by decide +kernel
theorem dL_supplied_40 : decode cL_supplied 40 = .ok (.iload 5, 2) := by decide +kernel
theorem dL_supplied_42 : decode cL_supplied 42 = .ok (.iaload, 1) := by decide +kernel
theorem dL_supplied_43 : decode cL_supplied 43 = .ok (.iconst 4, 1) := by decide +kernel
theorem dL_supplied_44 : decode cL_supplied 44 = .ok (.if_icmp .gt 17, 3) := by decide +kernel
theorem dL_supplied_47 : decode cL_supplied 47 = .ok (.iload 6, 2) := by decide +kernel
theorem dL_supplied_49 : decode cL_supplied 49 = .ok (.ifCond .ge 14, 3) := by decide +kernel
theorem dL_supplied_52 : decode cL_supplied 52 = .ok (.aload 4, 2) := by decide +kernel
theorem dL_supplied_54 : decode cL_supplied 54 = .ok (.iload 5, 2) := by decide +kernel
theorem dL_supplied_56 : decode cL_supplied 56 = .ok (.iaload, 1) := by decide +kernel
theorem dL_supplied_57 : decode cL_supplied 57 = .ok (.iconst (-1), 1) := by decide +kernel
theorem dL_supplied_58 : decode cL_supplied 58 = .ok (.if_icmp .eq 5, 3) := by decide +kernel
theorem dL_supplied_61 : decode cL_supplied 61 = .ok (.iconst 0, 1) := by decide +kernel
theorem dL_supplied_62 : decode cL_supplied 62 = .ok (.ireturn, 1) := by decide +kernel
theorem dL_supplied_63 : decode cL_supplied 63 = .ok (.iconst 0, 1) := by decide +kernel
theorem dL_supplied_64 : decode cL_supplied 64 = .ok (.istore 7, 2) := by decide +kernel
theorem dL_supplied_66 : decode cL_supplied 66 = .ok (.iconst 0, 1) := by decide +kernel
theorem dL_supplied_67 : decode cL_supplied 67 = .ok (.istore 8, 2) := by decide +kernel
theorem dL_supplied_69 : decode cL_supplied 69 = .ok (.iload 8, 2) := by decide +kernel
theorem dL_supplied_71 : decode cL_supplied 71 = .ok (.iload_n 2, 1) := by decide +kernel
theorem dL_supplied_72 : decode cL_supplied 72 = .ok (.if_icmp .ge 46, 3) := by decide +kernel
theorem dL_supplied_75 : decode cL_supplied 75 = .ok (.iload 7, 2) := by decide +kernel
theorem dL_supplied_77 : decode cL_supplied 77 = .ok (.aload_n 3, 1) := by decide +kernel
theorem dL_supplied_78 : decode cL_supplied 78 = .ok (.iload 8, 2) := by decide +kernel
theorem dL_supplied_80 : decode cL_supplied 80 = .ok (.iaload, 1) := by decide +kernel
theorem dL_supplied_81 : decode cL_supplied 81 = .ok (.aload_n 3, 1) := by decide +kernel
theorem dL_supplied_82 : decode cL_supplied 82 = .ok (.iload 5, 2) := by decide +kernel
theorem dL_supplied_84 : decode cL_supplied 84 = .ok (.iaload, 1) := by decide +kernel
theorem dL_supplied_85 : decode cL_supplied 85 = .ok (.if_icmp .eq 23, 3) := by decide +kernel
theorem dL_supplied_88 : decode cL_supplied 88 = .ok (.iload 6, 2) := by decide +kernel
theorem dL_supplied_90 : decode cL_supplied 90 = .ok (.ifCond .lt 18, 3) := by decide +kernel
theorem dL_supplied_93 : decode cL_supplied 93 = .ok (.aload_n 0, 1) := by decide +kernel
theorem dL_supplied_94 : decode cL_supplied 94 = .ok (.iload 8, 2) := by decide +kernel
theorem dL_supplied_96 : decode cL_supplied 96 = .ok (.invokevirtual 33, 3) := by decide +kernel
theorem dL_supplied_99 : decode cL_supplied 99 = .ok (.iload 6, 2) := by decide +kernel
theorem dL_supplied_101 : decode cL_supplied 101 = .ok (.if_icmp .ne 7, 3) := by decide +kernel
theorem dL_supplied_104 : decode cL_supplied 104 = .ok (.iconst 1, 1) := by decide +kernel
theorem dL_supplied_105 : decode cL_supplied 105 = .ok (.goto 4, 3) := by decide +kernel
theorem dL_supplied_108 : decode cL_supplied 108 = .ok (.iconst 0, 1) := by decide +kernel
theorem dL_supplied_109 : decode cL_supplied 109 = .ok (.ior, 1) := by decide +kernel
theorem dL_supplied_110 : decode cL_supplied 110 = .ok (.istore 7, 2) := by decide +kernel
theorem dL_supplied_112 : decode cL_supplied 112 = .ok (.iinc 8 1, 3) := by decide +kernel
theorem dL_supplied_115 : decode cL_supplied 115 = .ok (.goto (-46), 3) := by decide +kernel
theorem dL_supplied_118 : decode cL_supplied 118 = .ok (.aload_n 3, 1) := by decide +kernel
theorem dL_supplied_119 : decode cL_supplied 119 = .ok (.iload 5, 2) := by decide +kernel
theorem dL_supplied_121 : decode cL_supplied 121 = .ok (.iaload, 1) := by decide +kernel
theorem dL_supplied_122 : decode cL_supplied 122 = .ok (.ifCond .ne 7, 3) := by decide +kernel
theorem dL_supplied_125 : decode cL_supplied 125 = .ok (.iconst 0, 1) := by decide +kernel
theorem dL_supplied_126 : decode cL_supplied 126 = .ok (.goto 5, 3) := by decide +kernel
theorem dL_supplied_129 : decode cL_supplied 129 = .ok (.bipush 9, 2) := by decide +kernel
theorem dL_supplied_131 : decode cL_supplied 131 = .ok (.istore 8, 2) := by decide +kernel
theorem dL_supplied_133 : decode cL_supplied 133 = .ok (.iload 7, 2) := by decide +kernel
theorem dL_supplied_135 : decode cL_supplied 135 = .ok (.ifCond .eq 12, 3) := by decide +kernel
theorem dL_supplied_138 : decode cL_supplied 138 = .ok (.aload 4, 2) := by decide +kernel
theorem dL_supplied_140 : decode cL_supplied 140 = .ok (.iload 5, 2) := by decide +kernel
theorem dL_supplied_142 : decode cL_supplied 142 = .ok (.iaload, 1) := by decide +kernel
theorem dL_supplied_143 : decode cL_supplied 143 = .ok (.iconst (-1), 1) := by decide +kernel
theorem dL_supplied_144 : decode cL_supplied 144 = .ok (.if_icmp .ne 38, 3) := by decide +kernel
theorem dL_supplied_147 : decode cL_supplied 147 = .ok (.aload 4, 2) := by decide +kernel
theorem dL_supplied_149 : decode cL_supplied 149 = .ok (.iload 5, 2) := by decide +kernel
theorem dL_supplied_151 : decode cL_supplied 151 = .ok (.iaload, 1) := by decide +kernel
theorem dL_supplied_152 : decode cL_supplied 152 = .ok (.ifCond .ne 10, 3) := by decide +kernel
theorem dL_supplied_155 : decode cL_supplied 155 = .ok (.iload 6, 2) := by decide +kernel
theorem dL_supplied_157 : decode cL_supplied 157 = .ok (.iload 8, 2) := by decide +kernel
theorem dL_supplied_159 : decode cL_supplied 159 = .ok (.if_icmp .ne 23, 3) := by decide +kernel
theorem dL_supplied_162 : decode cL_supplied 162 = .ok (.iload 6, 2) := by decide +kernel
theorem dL_supplied_164 : decode cL_supplied 164 = .ok (.iload 8, 2) := by decide +kernel
theorem dL_supplied_166 : decode cL_supplied 166 = .ok (.if_icmp .ne 18, 3) := by decide +kernel
theorem dL_supplied_169 : decode cL_supplied 169 = .ok (.iload 7, 2) := by decide +kernel
theorem dL_supplied_171 : decode cL_supplied 171 = .ok (.ifCond .ne 13, 3) := by decide +kernel
theorem dL_supplied_174 : decode cL_supplied 174 = .ok (.aload 4, 2) := by decide +kernel
theorem dL_supplied_176 : decode cL_supplied 176 = .ok (.iload 5, 2) := by decide +kernel
theorem dL_supplied_178 : decode cL_supplied 178 = .ok (.iaload, 1) := by decide +kernel
theorem dL_supplied_179 : decode cL_supplied 179 = .ok (.ifCond .eq 5, 3) := by decide +kernel
theorem dL_supplied_182 : decode cL_supplied 182 = .ok (.iconst 0, 1) := by decide +kernel
theorem dL_supplied_183 : decode cL_supplied 183 = .ok (.ireturn, 1) := by decide +kernel
theorem dL_supplied_184 : decode cL_supplied 184 = .ok (.iload_n 1, 1) := by decide +kernel
theorem dL_supplied_185 : decode cL_supplied 185 = .ok (.iconst 2, 1) := by decide +kernel
theorem dL_supplied_186 : decode cL_supplied 186 = .ok (.if_icmp .ne 13, 3) := by decide +kernel
theorem dL_supplied_189 : decode cL_supplied 189 = .ok (.aload 4, 2) := by decide +kernel
theorem dL_supplied_191 : decode cL_supplied 191 = .ok (.iload 5, 2) := by decide +kernel
theorem dL_supplied_193 : decode cL_supplied 193 = .ok (.iaload, 1) := by decide +kernel
theorem dL_supplied_194 : decode cL_supplied 194 = .ok (.ifCond .le 5, 3) := by decide +kernel
theorem dL_supplied_197 : decode cL_supplied 197 = .ok (.iconst 0, 1) := by decide +kernel
theorem dL_supplied_198 : decode cL_supplied 198 = .ok (.ireturn, 1) := by decide +kernel
theorem dL_supplied_199 : decode cL_supplied 199 = .ok (.iinc 5 1, 3) := by decide +kernel
theorem dL_supplied_202 : decode cL_supplied 202 = .ok (.goto (-199), 3) := by decide +kernel
theorem dL_supplied_205 : decode cL_supplied 205 = .ok (.iconst 1, 1) := by decide +kernel
theorem dL_supplied_206 : decode cL_supplied 206 = .ok (.ireturn, 1) := by decide +kernel
end
section
set_option maxRecDepth 20000 in
theorem ggL_law_X3_init : GoodIn wsL_law wsX3_init := goodIn_r _ [7, 8, 9, 10, 11, 12, 13, 14, 3, 15, 16, 17, 18, 19, 20, 21, 22, 23, 24, 25, 26, 27, 28, 29, 30, 31, 32, 33, 34, 35, 36, 37, 38, 39, 40, 41, 42, 43, 44, 45, 46, 271, 272, 273, 264, 265, 266, 267, 268, 269, 270, 274, 275, 276, 277, 278, 279, 280, 281] (by decide +kernel) (by decide +kernel)
set_option maxRecDepth 20000 in
theorem gL_law_X3_init : GoodIn wsL_law (wsX3_init) := ggL_law_X3_init
set_option maxRecDepth 20000 in
theorem ggL_law_L_lay : GoodIn wsL_law wsL_lay := goodIn_ca (goodIn_ca (goodIn_r _ [50, 4, 51, 52, 49, 53, 54, 55, 56, 57, 58, 59, 60, 2, 61, 62, 63, 64, 65, 26, 14, 66, 67, 68, 69, 70, 71, 13, 72, 73, 74, 75, 76, 30, 31, 77, 78, 79, 80, 81, 82, 83, 84, 85, 32, 86, 87, 88, 89, 90, 91, 92, 93, 19, 94, 95, 96, 97, 98, 99, 18, 100, 40, 101, 102, 103, 104, 37, 105, 106, 107, 108, 109, 110, 111, 112, 113, 114, 36, 115, 116, 117, 118, 119, 120, 121, 122, 123, 124, 125, 126, 127, 38, 128, 129, 130, 131, 264, 265, 266, 267, 268, 269, 270, 271, 272, 273, 274, 275, 276, 277, 278] (by decide +kernel) (by decide +kernel)) (goodIn_sub (fun _ h => List.mem_append_left _ (List.mem_append_left _ (List.mem_append_right _ h))) (by decide +kernel))) (goodIn_sub (fun _ h => List.mem_append_left _ (List.mem_append_right _ h)) (by decide +kernel))
set_option maxRecDepth 20000 in
theorem gL_law_L_lay : GoodIn wsL_law (va_wsS RL 50 yL_lay wsL_lay) := goodIn_app (goodIn_of _ (by decide +kernel)) ggL_law_L_lay
set_option maxRecDepth 20000 in
theorem ggL_law_L_cell : GoodIn wsL_law wsL_cell := goodIn_r _ [53, 54] (by decide +kernel) (by decide +kernel)
set_option maxRecDepth 20000 in
theorem gL_law_L_cell : GoodIn wsL_law (va_wsS RL 8 yL_cell wsL_cell) := goodIn_app (goodIn_of _ (by decide +kernel)) ggL_law_L_cell
set_option maxRecDepth 20000 in
theorem ggL_law_L_at : GoodIn wsL_law wsL_at := goodIn_r _ [57] (by decide +kernel) (by decide +kernel)
set_option maxRecDepth 20000 in
theorem gL_law_L_at : GoodIn wsL_law (va_wsS RL 15 yL_at wsL_at) := goodIn_app (goodIn_of _ (by decide +kernel)) ggL_law_L_at
set_option maxRecDepth 20000 in
theorem ggL_law_X3_townOf : GoodIn wsL_law wsX3_townOf := goodIn_ca (goodIn_r _ [135, 19, 26, 136, 137, 138, 2, 139, 140, 141, 116, 117, 118, 18, 119, 40, 66, 67, 68, 142, 102, 103, 104, 37, 105, 106, 107, 108, 109, 110, 264, 265, 266, 267, 268, 269, 270, 274, 275, 276, 277, 278] (by decide +kernel) (by decide +kernel)) (goodIn_sub (fun _ h => List.mem_append_right _ h) (by decide +kernel))
set_option maxRecDepth 20000 in
theorem gL_law_X3_townOf : GoodIn wsL_law (wsV RL 33 RX3 yX3_townOf wsX3_townOf) := goodIn_app (goodIn_of _ (by decide +kernel)) ggL_law_X3_townOf
set_option maxRecDepth 20000 in
theorem ggL_law_X3_strength : GoodIn wsL_law wsX3_strength := goodIn_ca (goodIn_r _ [146, 19, 26, 136, 137, 138, 2, 139, 140, 141, 116, 117, 118, 18, 119, 40, 66, 67, 68, 147, 148, 149, 150, 38, 105, 106, 107, 108, 109, 110, 264, 265, 266, 267, 268, 269, 270, 274, 275, 276, 277, 278] (by decide +kernel) (by decide +kernel)) (goodIn_sub (fun _ h => List.mem_append_right _ h) (by decide +kernel))
set_option maxRecDepth 20000 in
theorem gL_law_X3_strength : GoodIn wsL_law (wsV RL 29 RX3 yX3_strength wsX3_strength) := goodIn_app (goodIn_of _ (by decide +kernel)) ggL_law_X3_strength
set_option maxRecDepth 20000 in
theorem ggL_law_X3_order : GoodIn wsL_law wsX3_order := goodIn_ca (goodIn_ca (goodIn_r _ [154, 62, 63, 19, 26, 136, 137, 138, 2, 139, 140, 141, 116, 117, 118, 18, 119, 40, 66, 67, 68, 155, 156, 157, 158, 39, 105, 106, 107, 108, 109, 110, 159, 160, 161, 162, 264, 265, 266, 267, 268, 269, 270, 274, 275, 276, 277, 278] (by decide +kernel) (by decide +kernel)) (goodIn_sub (fun _ h => List.mem_append_left _ (List.mem_append_left _ (List.mem_append_right _ h))) (by decide +kernel))) (goodIn_sub (fun _ h => List.mem_append_right _ h) (by decide +kernel))
set_option maxRecDepth 20000 in
theorem gL_law_X3_order : GoodIn wsL_law (wsV RL 54 RX3 yX3_order wsX3_order) := goodIn_app (goodIn_of _ (by decide +kernel)) ggL_law_X3_order
set_option maxRecDepth 20000 in
theorem ggL_law_X3_force : GoodIn wsL_law wsX3_force := goodIn_ca (goodIn_r _ [166, 19, 26, 167, 168, 2, 169, 62, 63, 66, 67, 68, 116, 117, 118, 18, 119, 40, 170, 112, 113, 114, 36, 147, 148, 149, 150, 38, 105, 106, 107, 108, 109, 110, 264, 265, 266, 267, 268, 269, 270, 274, 275, 276, 277, 278] (by decide +kernel) (by decide +kernel)) (goodIn_sub (fun _ h => List.mem_append_left _ (List.mem_append_left _ (List.mem_append_right _ h))) (by decide +kernel))
set_option maxRecDepth 20000 in
theorem gL_law_X3_force : GoodIn wsL_law (wsV RL 57 RX3 yX3_force wsX3_force) := goodIn_app (goodIn_of _ (by decide +kernel)) ggL_law_X3_force
set_option maxRecDepth 20000 in
theorem ggL_law_L_sum : GoodIn wsL_law wsL_sum := goodIn_ca (goodIn_r _ [173, 143, 144, 145, 2, 146, 19, 26, 136, 137, 138, 139, 140, 141, 116, 117, 118, 18, 119, 40, 66, 67, 68, 147, 148, 149, 150, 38, 105, 106, 107, 108, 109, 110, 264, 265, 266, 267, 268, 269, 270, 274, 275, 276, 277, 278] (by decide +kernel) (by decide +kernel)) (goodIn_sub (fun _ h => List.mem_append_right _ h) (by decide +kernel))
set_option maxRecDepth 20000 in
theorem gL_law_L_sum : GoodIn wsL_law (va_wsS RL 60 yL_sum wsL_sum) := goodIn_app (goodIn_of _ (by decide +kernel)) ggL_law_L_sum
set_option maxRecDepth 20000 in
theorem ggL_law_L_supplied : GoodIn wsL_law wsL_supplied := goodIn_ca (goodIn_ca (goodIn_r _ [176, 177, 178, 179, 2, 180, 19, 26, 136, 137, 138, 139, 140, 141, 116, 117, 118, 18, 119, 40, 66, 67, 68, 181, 182, 183, 62, 63, 142, 102, 103, 104, 37, 105, 106, 107, 108, 109, 110, 170, 112, 113, 114, 36, 184, 185, 186, 187, 15, 14, 94, 95, 96, 97, 98, 99, 100, 101, 111, 80, 81, 79, 188, 189, 190, 13, 191, 77, 78, 73, 74, 75, 76, 30, 31, 115, 132, 133, 134, 135, 264, 265, 266, 267, 268, 269, 270, 274, 275, 276, 277, 278, 271, 272, 273] (by decide +kernel) (by decide +kernel)) (goodIn_sub (fun _ h => List.mem_append_right _ h) (by decide +kernel))) (goodIn_sub (fun _ h => List.mem_append_left _ (List.mem_append_left _ (List.mem_append_right _ h))) (by decide +kernel))
set_option maxRecDepth 20000 in
theorem gL_law_L_supplied : GoodIn wsL_law (va_wsS RL 64 yL_supplied wsL_supplied) := goodIn_app (goodIn_of _ (by decide +kernel)) ggL_law_L_supplied
set_option maxRecDepth 20000 in
theorem ggL_law_X3_play : GoodIn wsL_law wsX3_play := goodIn_ca (goodIn_ca (goodIn_r _ [195, 64, 65, 26, 20, 19, 181, 182, 2, 183, 62, 63, 66, 67, 68, 196, 197, 198, 199, 200, 129, 130, 131, 21, 201, 202, 203, 204, 184, 185, 186, 187, 15, 14, 94, 95, 96, 97, 98, 99, 18, 100, 40, 101, 102, 103, 104, 37, 105, 106, 107, 108, 109, 110, 111, 112, 113, 114, 36, 80, 81, 79, 188, 189, 190, 13, 191, 77, 78, 73, 74, 75, 76, 30, 31, 116, 117, 118, 119, 170, 142, 115, 205, 206, 207, 208, 209, 155, 156, 157, 158, 39, 210, 211, 212, 213, 214, 215, 216, 217, 147, 148, 149, 150, 38, 218, 125, 126, 127, 128, 219, 220, 221, 222, 223, 224, 225, 226, 227, 228, 229, 230, 231, 232, 233, 234, 235, 236, 237, 238, 239, 240, 241, 264, 265, 266, 267, 268, 269, 270, 274, 275, 276, 277, 278, 271, 272, 273] (by decide +kernel) (by decide +kernel)) (goodIn_sub (fun _ h => List.mem_append_left _ (List.mem_append_right _ h)) (by decide +kernel))) (goodIn_sub (fun _ h => List.mem_append_left _ (List.mem_append_left _ (List.mem_append_right _ h))) (by decide +kernel))
set_option maxRecDepth 20000 in
theorem gL_law_X3_play : GoodIn wsL_law (wsV RL 68 RX3 yX3_play wsX3_play) := goodIn_app (goodIn_of _ (by decide +kernel)) ggL_law_X3_play
set_option maxRecDepth 20000 in
theorem ggL_law_X3_played : GoodIn wsL_law wsX3_played := goodIn_r _ [245, 26, 264, 265, 266, 267, 268, 269, 270] (by decide +kernel) (by decide +kernel)
set_option maxRecDepth 20000 in
theorem gL_law_X3_played : GoodIn wsL_law (wsV RL 36 RX3 yX3_played wsX3_played) := goodIn_app (goodIn_of _ (by decide +kernel)) ggL_law_X3_played
set_option maxRecDepth 20000 in
theorem ggL_law_L_moved : GoodIn wsL_law wsL_moved := goodIn_ca (goodIn_ca (goodIn_r _ [248, 132, 133, 134, 2, 135, 19, 26, 136, 137, 138, 139, 140, 141, 116, 117, 118, 18, 119, 40, 66, 67, 68, 142, 102, 103, 104, 37, 105, 106, 107, 108, 109, 110, 143, 144, 145, 146, 147, 148, 149, 150, 38, 242, 243, 244, 245, 249, 250, 251, 252, 253, 254, 255, 256, 257, 258, 130, 259, 260, 261, 262, 263, 21, 167, 168, 169, 62, 63, 170, 112, 113, 114, 36, 115, 77, 78, 79, 80, 81, 264, 265, 266, 267, 268, 269, 270, 274, 275, 276, 277, 278] (by decide +kernel) (by decide +kernel)) (goodIn_sub (fun _ h => List.mem_append_right _ h) (by decide +kernel))) (goodIn_sub (fun _ h => List.mem_append_left _ (List.mem_append_left _ (List.mem_append_right _ h))) (by decide +kernel))
set_option maxRecDepth 20000 in
theorem gL_law_L_moved : GoodIn wsL_law (va_wsS RL 71 yL_moved wsL_moved) := goodIn_app (goodIn_of _ (by decide +kernel)) ggL_law_L_moved
theorem dL_law_0 : decode cL_law 0 = .ok (.new 20, 3) := by decide +kernel
theorem dL_law_3 : decode cL_law 3 = .ok (.dup, 1) := by decide +kernel
theorem dL_law_4 : decode cL_law 4 = .ok (.invokespecial 49, 3) := by decide +kernel
theorem dL_law_7 : decode cL_law 7 = .ok (.astore_n 1, 1) := by decide +kernel
theorem dL_law_8 : decode cL_law 8 = .ok (.bipush 12, 2) := by decide +kernel
theorem dL_law_10 : decode cL_law 10 = .ok (.newarray .int, 2) := by decide +kernel
theorem dL_law_12 : decode cL_law 12 = .ok (.astore_n 2, 1) := by decide +kernel
theorem dL_law_13 : decode cL_law 13 = .ok (.bipush 24, 2) := by decide +kernel
theorem dL_law_15 : decode cL_law 15 = .ok (.newarray .int, 2) := by decide +kernel
theorem dL_law_17 : decode cL_law 17 = .ok (.astore_n 3, 1) := by decide +kernel
theorem dL_law_18 : decode cL_law 18 = .ok (.bipush 12, 2) := by decide +kernel
theorem dL_law_20 : decode cL_law 20 = .ok (.newarray .int, 2) := by decide +kernel
theorem dL_law_22 : decode cL_law 22 = .ok (.astore 4, 2) := by decide +kernel
theorem dL_law_24 : decode cL_law 24 = .ok (.bipush 10, 2) := by decide +kernel
theorem dL_law_26 : decode cL_law 26 = .ok (.newarray .int, 2) := by decide +kernel
theorem dL_law_28 : decode cL_law 28 = .ok (.astore 5, 2) := by decide +kernel
theorem dL_law_30 : decode cL_law 30 = .ok (.bipush 12, 2) := by decide +kernel
theorem dL_law_32 : decode cL_law 32 = .ok (.newarray .int, 2) := by decide +kernel
theorem dL_law_34 : decode cL_law 34 = .ok (.astore 6, 2) := by decide +kernel
theorem dL_law_36 : decode cL_law 36 = .ok (.aload_n 1, 1) := by decide +kernel
theorem dL_law_37 : decode cL_law 37 = .ok (.aload_n 0, 1) := by decide +kernel
theorem dL_law_38 : decode cL_law 38 = .ok (.aload_n 2, 1) := by decide +kernel
theorem dL_law_39 : decode cL_law 39 = .ok (.aload 5, 2) := by decide +kernel
theorem dL_law_41 : decode cL_law 41 = .ok (.invokestatic 50, 3) := by decide +kernel
theorem dL_law_44 : decode cL_law 44 = .ok (.istore 7, 2) := by decide +kernel
theorem dL_law_46 : decode cL_law 46 = .ok (.iload 7, 2) := by decide +kernel
theorem dL_law_48 : decode cL_law 48 = .ok (.ifCond .ge 5, 3) := by decide +kernel
theorem dL_law_51 : decode cL_law 51 = .ok (.iconst 0, 1) := by decide +kernel
theorem dL_law_52 : decode cL_law 52 = .ok (.ireturn, 1) := by decide +kernel
theorem dL_law_53 : decode cL_law 53 = .ok (.iconst 0, 1) := by decide +kernel
theorem dL_law_54 : decode cL_law 54 = .ok (.istore 8, 2) := by decide +kernel
theorem dL_law_56 : decode cL_law 56 = .ok (.iload 8, 2) := by decide +kernel
theorem dL_law_58 : decode cL_law 58 = .ok (.bipush 12, 2) := by decide +kernel
theorem dL_law_60 : decode cL_law 60 = .ok (.if_icmp .ge 369, 3) := by decide +kernel
theorem dL_law_63 : decode cL_law 63 = .ok (.aload_n 0, 1) := by decide +kernel
theorem dL_law_64 : decode cL_law 64 = .ok (.bipush 40, 2) := by decide +kernel
theorem dL_law_66 : decode cL_law 66 = .ok (.iload 8, 2) := by decide +kernel
theorem dL_law_68 : decode cL_law 68 = .ok (.iadd, 1) := by decide +kernel
theorem dL_law_69 : decode cL_law 69 = .ok (.invokestatic 8, 3) := by decide +kernel
theorem dL_law_72 : decode cL_law 72 = .ok (.ldc 14, 2) := by decide +kernel
theorem dL_law_74 : decode cL_law 74 = .ok (.iand, 1) := by decide +kernel
theorem dL_law_75 : decode cL_law 75 = .ok (.bipush 6, 2) := by decide +kernel
theorem dL_law_77 : decode cL_law 77 = .ok (.invokestatic 15, 3) := by decide +kernel
theorem dL_law_80 : decode cL_law 80 = .ok (.istore 9, 2) := by decide +kernel
theorem dL_law_82 : decode cL_law 82 = .ok (.iload 9, 2) := by decide +kernel
theorem dL_law_84 : decode cL_law 84 = .ok (.iconst 2, 1) := by decide +kernel
theorem dL_law_85 : decode cL_law 85 = .ok (.if_icmp .le 7, 3) := by decide +kernel
theorem dL_law_88 : decode cL_law 88 = .ok (.iconst 0, 1) := by decide +kernel
theorem dL_law_89 : decode cL_law 89 = .ok (.goto 5, 3) := by decide +kernel
theorem dL_law_92 : decode cL_law 92 = .ok (.iload 9, 2) := by decide +kernel
theorem dL_law_94 : decode cL_law 94 = .ok (.istore 9, 2) := by decide +kernel
theorem dL_law_96 : decode cL_law 96 = .ok (.iconst 0, 1) := by decide +kernel
theorem dL_law_97 : decode cL_law 97 = .ok (.istore 10, 2) := by decide +kernel
theorem dL_law_99 : decode cL_law 99 = .ok (.iload 10, 2) := by decide +kernel
theorem dL_law_101 : decode cL_law 101 = .ok (.iload 7, 2) := by decide +kernel
theorem dL_law_103 : decode cL_law 103 = .ok (.if_icmp .ge 155, 3) := by decide +kernel
theorem dL_law_106 : decode cL_law 106 = .ok (.aload_n 0, 1) := by decide +kernel
theorem dL_law_107 : decode cL_law 107 = .ok (.bipush 60, 2) := by decide +kernel
theorem dL_law_109 : decode cL_law 109 = .ok (.bipush 10, 2) := by decide +kernel
theorem dL_law_111 : decode cL_law 111 = .ok (.iload 8, 2) := by decide +kernel
theorem dL_law_113 : decode cL_law 113 = .ok (.imul, 1) := by decide +kernel
theorem dL_law_114 : decode cL_law 114 = .ok (.iadd, 1) := by decide +kernel
theorem dL_law_115 : decode cL_law 115 = .ok (.iload 10, 2) := by decide +kernel
theorem dL_law_117 : decode cL_law 117 = .ok (.iadd, 1) := by decide +kernel
theorem dL_law_118 : decode cL_law 118 = .ok (.invokestatic 8, 3) := by decide +kernel
theorem dL_law_121 : decode cL_law 121 = .ok (.ldc 14, 2) := by decide +kernel
theorem dL_law_123 : decode cL_law 123 = .ok (.iand, 1) := by decide +kernel
theorem dL_law_124 : decode cL_law 124 = .ok (.istore 11, 2) := by decide +kernel
theorem dL_law_126 : decode cL_law 126 = .ok (.aload_n 3, 1) := by decide +kernel
theorem dL_law_127 : decode cL_law 127 = .ok (.iload 10, 2) := by decide +kernel
theorem dL_law_129 : decode cL_law 129 = .ok (.aload_n 1, 1) := by decide +kernel
theorem dL_law_130 : decode cL_law 130 = .ok (.iload 10, 2) := by decide +kernel
theorem dL_law_132 : decode cL_law 132 = .ok (.invokevirtual 33, 3) := by decide +kernel
theorem dL_law_135 : decode cL_law 135 = .ok (.iastore, 1) := by decide +kernel
theorem dL_law_136 : decode cL_law 136 = .ok (.aload_n 3, 1) := by decide +kernel
theorem dL_law_137 : decode cL_law 137 = .ok (.bipush 12, 2) := by decide +kernel
theorem dL_law_139 : decode cL_law 139 = .ok (.iload 10, 2) := by decide +kernel
theorem dL_law_141 : decode cL_law 141 = .ok (.iadd, 1) := by decide +kernel
theorem dL_law_142 : decode cL_law 142 = .ok (.aload_n 1, 1) := by decide +kernel
theorem dL_law_143 : decode cL_law 143 = .ok (.iload 10, 2) := by decide +kernel
theorem dL_law_145 : decode cL_law 145 = .ok (.invokevirtual 29, 3) := by decide +kernel
theorem dL_law_148 : decode cL_law 148 = .ok (.iastore, 1) := by decide +kernel
theorem dL_law_149 : decode cL_law 149 = .ok (.aload 4, 2) := by decide +kernel
theorem dL_law_151 : decode cL_law 151 = .ok (.iload 10, 2) := by decide +kernel
theorem dL_law_153 : decode cL_law 153 = .ok (.iload 11, 2) := by decide +kernel
theorem dL_law_155 : decode cL_law 155 = .ok (.iconst 3, 1) := by decide +kernel
theorem dL_law_156 : decode cL_law 156 = .ok (.invokestatic 15, 3) := by decide +kernel
theorem dL_law_159 : decode cL_law 159 = .ok (.ifCond .ne 17, 3) := by decide +kernel
theorem dL_law_162 : decode cL_law 162 = .ok (.iload 11, 2) := by decide +kernel
theorem dL_law_164 : decode cL_law 164 = .ok (.iconst 2, 1) := by decide +kernel
theorem dL_law_165 : decode cL_law 165 = .ok (.ishr, 1) := by decide +kernel
theorem dL_law_166 : decode cL_law 166 = .ok (.bipush 11, 2) := by decide +kernel
theorem dL_law_168 : decode cL_law 168 = .ok (.invokestatic 15, 3) := by decide +kernel
theorem dL_law_171 : decode cL_law 171 = .ok (.iconst 1, 1) := by decide +kernel
theorem dL_law_172 : decode cL_law 172 = .ok (.isub, 1) := by decide +kernel
theorem dL_law_173 : decode cL_law 173 = .ok (.goto 36, 3) := by decide +kernel
theorem dL_law_176 : decode cL_law 176 = .ok (.aload_n 3, 1) := by decide +kernel
theorem dL_law_177 : decode cL_law 177 = .ok (.iload 10, 2) := by decide +kernel
theorem dL_law_179 : decode cL_law 179 = .ok (.iaload, 1) := by decide +kernel
theorem dL_law_180 : decode cL_law 180 = .ok (.ifCond .ge 7, 3) := by decide +kernel
theorem dL_law_183 : decode cL_law 183 = .ok (.iconst (-1), 1) := by decide +kernel
theorem dL_law_184 : decode cL_law 184 = .ok (.goto 25, 3) := by decide +kernel
theorem dL_law_187 : decode cL_law 187 = .ok (.aload_n 2, 1) := by decide +kernel
theorem dL_law_188 : decode cL_law 188 = .ok (.iload 10, 2) := by decide +kernel
theorem dL_law_190 : decode cL_law 190 = .ok (.iaload, 1) := by decide +kernel
theorem dL_law_191 : decode cL_law 191 = .ok (.ifCond .ne 12, 3) := by decide +kernel
theorem dL_law_194 : decode cL_law 194 = .ok (.aload_n 3, 1) := by decide +kernel
theorem dL_law_195 : decode cL_law 195 = .ok (.iload 10, 2) := by decide +kernel
theorem dL_law_197 : decode cL_law 197 = .ok (.iaload, 1) := by decide +kernel
theorem dL_law_198 : decode cL_law 198 = .ok (.iconst 1, 1) := by decide +kernel
theorem dL_law_199 : decode cL_law 199 = .ok (.iadd, 1) := by decide +kernel
theorem dL_law_200 : decode cL_law 200 = .ok (.goto 9, 3) := by decide +kernel
theorem dL_law_203 : decode cL_law 203 = .ok (.aload_n 3, 1) := by decide +kernel
theorem dL_law_204 : decode cL_law 204 = .ok (.iload 10, 2) := by decide +kernel
theorem dL_law_206 : decode cL_law 206 = .ok (.iaload, 1) := by decide +kernel
theorem dL_law_207 : decode cL_law 207 = .ok (.iconst 1, 1) := by decide +kernel
theorem dL_law_208 : decode cL_law 208 = .ok (.isub, 1) := by decide +kernel
theorem dL_law_209 : decode cL_law 209 = .ok (.iastore, 1) := by decide +kernel
theorem dL_law_210 : decode cL_law 210 = .ok (.aload 4, 2) := by decide +kernel
theorem dL_law_212 : decode cL_law 212 = .ok (.iload 10, 2) := by decide +kernel
theorem dL_law_214 : decode cL_law 214 = .ok (.aload 4, 2) := by decide +kernel
theorem dL_law_216 : decode cL_law 216 = .ok (.iload 10, 2) := by decide +kernel
theorem dL_law_218 : decode cL_law 218 = .ok (.iaload, 1) := by decide +kernel
theorem dL_law_219 : decode cL_law 219 = .ok (.bipush 9, 2) := by decide +kernel
theorem dL_law_221 : decode cL_law 221 = .ok (.if_icmp .le 8, 3) := by decide +kernel
theorem dL_law_224 : decode cL_law 224 = .ok (.bipush 9, 2) := by decide +kernel
theorem dL_law_226 : decode cL_law 226 = .ok (.goto 8, 3) := by decide +kernel
theorem dL_law_229 : decode cL_law 229 = .ok (.aload 4, 2) := by decide +kernel
theorem dL_law_231 : decode cL_law 231 = .ok (.iload 10, 2) := by decide +kernel
theorem dL_law_233 : decode cL_law 233 = .ok (.iaload, 1) := by decide +kernel
theorem dL_law_234 : decode cL_law 234 = .ok (.iastore, 1) := by decide +kernel
theorem dL_law_235 : decode cL_law 235 = .ok (.aload_n 1, 1) := by decide +kernel
theorem dL_law_236 : decode cL_law 236 = .ok (.iload 10, 2) := by decide +kernel
theorem dL_law_238 : decode cL_law 238 = .ok (.aload 4, 2) := by decide +kernel
theorem dL_law_240 : decode cL_law 240 = .ok (.iload 10, 2) := by decide +kernel
theorem dL_law_242 : decode cL_law 242 = .ok (.iaload, 1) := by decide +kernel
theorem dL_law_243 : decode cL_law 243 = .ok (.invokevirtual 54, 3) := by decide +kernel
theorem dL_law_246 : decode cL_law 246 = .ok (.iconst (-1), 1) := by decide +kernel
theorem dL_law_247 : decode cL_law 247 = .ok (.if_icmp .eq 5, 3) := by decide +kernel
theorem dL_law_250 : decode cL_law 250 = .ok (.iconst 0, 1) := by decide +kernel
theorem dL_law_251 : decode cL_law 251 = .ok (.ireturn, 1) := by decide +kernel
theorem dL_law_252 : decode cL_law 252 = .ok (.iinc 10 1, 3) := by decide +kernel
theorem dL_law_255 : decode cL_law 255 = .ok (.goto (-156), 3) := by decide +kernel
theorem dL_law_258 : decode cL_law 258 = .ok (.aload_n 1, 1) := by decide +kernel
theorem dL_law_259 : decode cL_law 259 = .ok (.iconst 0, 1) := by decide +kernel
theorem dL_law_260 : decode cL_law 260 = .ok (.invokevirtual 57, 3) := by decide +kernel
theorem dL_law_263 : decode cL_law 263 = .ok (.istore 10, 2) := by decide +kernel
theorem dL_law_265 : decode cL_law 265 = .ok (.aload_n 1, 1) := by decide +kernel
theorem dL_law_266 : decode cL_law 266 = .ok (.iconst 1, 1) := by decide +kernel
theorem dL_law_267 : decode cL_law 267 = .ok (.invokevirtual 57, 3) := by decide +kernel
theorem dL_law_270 : decode cL_law 270 = .ok (.istore 11, 2) := by decide +kernel
theorem dL_law_272 : decode cL_law 272 = .ok (.iload 10, 2) := by decide +kernel
theorem dL_law_274 : decode cL_law 274 = .ok (.aload_n 1, 1) := by decide +kernel
theorem dL_law_275 : decode cL_law 275 = .ok (.iconst 0, 1) := by decide +kernel
theorem dL_law_276 : decode cL_law 276 = .ok (.iload 7, 2) := by decide +kernel
theorem dL_law_278 : decode cL_law 278 = .ok (.aload_n 2, 1) := by decide +kernel
theorem dL_law_279 : decode cL_law 279 = .ok (.invokestatic 60, 3) := by decide +kernel
theorem dL_law_282 : decode cL_law 282 = .ok (.if_icmp .ne 30, 3) := by decide +kernel
theorem dL_law_285 : decode cL_law 285 = .ok (.iload 11, 2) := by decide +kernel
theorem dL_law_287 : decode cL_law 287 = .ok (.aload_n 1, 1) := by decide +kernel
theorem dL_law_288 : decode cL_law 288 = .ok (.iconst 1, 1) := by decide +kernel
theorem dL_law_289 : decode cL_law 289 = .ok (.iload 7, 2) := by decide +kernel
theorem dL_law_291 : decode cL_law 291 = .ok (.aload_n 2, 1) := by decide +kernel
theorem dL_law_292 : decode cL_law 292 = .ok (.invokestatic 60, 3) := by decide +kernel
theorem dL_law_295 : decode cL_law 295 = .ok (.if_icmp .ne 17, 3) := by decide +kernel
theorem dL_law_298 : decode cL_law 298 = .ok (.aload_n 1, 1) := by decide +kernel
theorem dL_law_299 : decode cL_law 299 = .ok (.iload 9, 2) := by decide +kernel
theorem dL_law_301 : decode cL_law 301 = .ok (.iload 7, 2) := by decide +kernel
theorem dL_law_303 : decode cL_law 303 = .ok (.aload_n 2, 1) := by decide +kernel
theorem dL_law_304 : decode cL_law 304 = .ok (.aload 6, 2) := by decide +kernel
theorem dL_law_306 : decode cL_law 306 = .ok (.invokestatic 64, 3) := by decide +kernel
theorem dL_law_309 : decode cL_law 309 = .ok (.ifCond .ne 5, 3) := by decide +kernel
theorem dL_law_312 : decode cL_law 312 = .ok (.iconst 0, 1) := by decide +kernel
theorem dL_law_313 : decode cL_law 313 = .ok (.ireturn, 1) := by decide +kernel
theorem dL_law_314 : decode cL_law 314 = .ok (.aload_n 1, 1) := by decide +kernel
theorem dL_law_315 : decode cL_law 315 = .ok (.iload 9, 2) := by decide +kernel
theorem dL_law_317 : decode cL_law 317 = .ok (.invokevirtual 68, 3) := by decide +kernel
theorem dL_law_320 : decode cL_law 320 = .ok (.istore 12, 2) := by decide +kernel
theorem dL_law_322 : decode cL_law 322 = .ok (.iconst 0, 1) := by decide +kernel
theorem dL_law_323 : decode cL_law 323 = .ok (.istore 13, 2) := by decide +kernel
theorem dL_law_325 : decode cL_law 325 = .ok (.iload 13, 2) := by decide +kernel
theorem dL_law_327 : decode cL_law 327 = .ok (.iload 7, 2) := by decide +kernel
theorem dL_law_329 : decode cL_law 329 = .ok (.if_icmp .ge 35, 3) := by decide +kernel
theorem dL_law_332 : decode cL_law 332 = .ok (.iload 12, 2) := by decide +kernel
theorem dL_law_334 : decode cL_law 334 = .ok (.aload_n 3, 1) := by decide +kernel
theorem dL_law_335 : decode cL_law 335 = .ok (.iload 13, 2) := by decide +kernel
theorem dL_law_337 : decode cL_law 337 = .ok (.iaload, 1) := by decide +kernel
theorem dL_law_338 : decode cL_law 338 = .ok (.ifCond .lt 16, 3) := by decide +kernel
theorem dL_law_341 : decode cL_law 341 = .ok (.aload_n 1, 1) := by decide +kernel
theorem dL_law_342 : decode cL_law 342 = .ok (.iload 13, 2) := by decide +kernel
theorem dL_law_344 : decode cL_law 344 = .ok (.invokevirtual 33, 3) := by decide +kernel
theorem dL_law_347 : decode cL_law 347 = .ok (.ifCond .ge 7, 3) := by decide +kernel
theorem dL_law_350 : decode cL_law 350 = .ok (.iconst 1, 1) := by decide +kernel
theorem dL_law_351 : decode cL_law 351 = .ok (.goto 4, 3) := by decide +kernel
theorem dL_law_354 : decode cL_law 354 = .ok (.iconst 0, 1) := by decide +kernel
theorem dL_law_355 : decode cL_law 355 = .ok (.isub, 1) := by decide +kernel
theorem dL_law_356 : decode cL_law 356 = .ok (.istore 12, 2) := by decide +kernel
theorem dL_law_358 : decode cL_law 358 = .ok (.iinc 13 1, 3) := by decide +kernel
theorem dL_law_361 : decode cL_law 361 = .ok (.goto (-36), 3) := by decide +kernel
theorem dL_law_364 : decode cL_law 364 = .ok (.iload 12, 2) := by decide +kernel
theorem dL_law_366 : decode cL_law 366 = .ok (.ifCond .ne 34, 3) := by decide +kernel
theorem dL_law_369 : decode cL_law 369 = .ok (.aload_n 1, 1) := by decide +kernel
theorem dL_law_370 : decode cL_law 370 = .ok (.iconst 0, 1) := by decide +kernel
theorem dL_law_371 : decode cL_law 371 = .ok (.invokevirtual 57, 3) := by decide +kernel
theorem dL_law_374 : decode cL_law 374 = .ok (.iload 10, 2) := by decide +kernel
theorem dL_law_376 : decode cL_law 376 = .ok (.if_icmp .gt 24, 3) := by decide +kernel
theorem dL_law_379 : decode cL_law 379 = .ok (.aload_n 1, 1) := by decide +kernel
theorem dL_law_380 : decode cL_law 380 = .ok (.iconst 1, 1) := by decide +kernel
theorem dL_law_381 : decode cL_law 381 = .ok (.invokevirtual 57, 3) := by decide +kernel
theorem dL_law_384 : decode cL_law 384 = .ok (.iload 11, 2) := by decide +kernel
theorem dL_law_386 : decode cL_law 386 = .ok (.if_icmp .gt 14, 3) := by decide +kernel
theorem dL_law_389 : decode cL_law 389 = .ok (.aload_n 1, 1) := by decide +kernel
theorem dL_law_390 : decode cL_law 390 = .ok (.invokevirtual 36, 3) := by decide +kernel
theorem dL_law_393 : decode cL_law 393 = .ok (.iload 8, 2) := by decide +kernel
theorem dL_law_395 : decode cL_law 395 = .ok (.iconst 1, 1) := by decide +kernel
theorem dL_law_396 : decode cL_law 396 = .ok (.iadd, 1) := by decide +kernel
theorem dL_law_397 : decode cL_law 397 = .ok (.if_icmp .eq 5, 3) := by decide +kernel
theorem dL_law_400 : decode cL_law 400 = .ok (.iconst 0, 1) := by decide +kernel
theorem dL_law_401 : decode cL_law 401 = .ok (.ireturn, 1) := by decide +kernel
theorem dL_law_402 : decode cL_law 402 = .ok (.aload_n 1, 1) := by decide +kernel
theorem dL_law_403 : decode cL_law 403 = .ok (.iload 9, 2) := by decide +kernel
theorem dL_law_405 : decode cL_law 405 = .ok (.iload 7, 2) := by decide +kernel
theorem dL_law_407 : decode cL_law 407 = .ok (.aload_n 2, 1) := by decide +kernel
theorem dL_law_408 : decode cL_law 408 = .ok (.aload_n 3, 1) := by decide +kernel
theorem dL_law_409 : decode cL_law 409 = .ok (.aload 4, 2) := by decide +kernel
theorem dL_law_411 : decode cL_law 411 = .ok (.aload 5, 2) := by decide +kernel
theorem dL_law_413 : decode cL_law 413 = .ok (.aload 6, 2) := by decide +kernel
theorem dL_law_415 : decode cL_law 415 = .ok (.invokestatic 71, 3) := by decide +kernel
theorem dL_law_418 : decode cL_law 418 = .ok (.ifCond .ne 5, 3) := by decide +kernel
theorem dL_law_421 : decode cL_law 421 = .ok (.iconst 0, 1) := by decide +kernel
theorem dL_law_422 : decode cL_law 422 = .ok (.ireturn, 1) := by decide +kernel
theorem dL_law_423 : decode cL_law 423 = .ok (.iinc 8 1, 3) := by decide +kernel
theorem dL_law_426 : decode cL_law 426 = .ok (.goto (-370), 3) := by decide +kernel
theorem dL_law_429 : decode cL_law 429 = .ok (.iconst 1, 1) := by decide +kernel
theorem dL_law_430 : decode cL_law 430 = .ok (.ireturn, 1) := by decide +kernel
end
section
abbrev vwCl : List vw_C := [(RX0, TX0, 3), (RX1, TX1, 3), (RX2, TX2, 5), (RX3, TX3, 7)]
end
section
/-! MY OWN WORDS AND ROWS -/
/-- if, for any proposition -/
noncomputable def wt_if {α : Type} (P : Prop) (a b : α) : α := @ite α P (Classical.propDecidable P) a b
theorem wt_if_t {α : Type} {P : Prop} {a b : α} (h : P) : wt_if P a b = a := @if_pos P (Classical.propDecidable P) h α a b
theorem wt_if_f {α : Type} {P : Prop} {a b : α} (h : ¬ P) : wt_if P a b = b := @if_neg P (Classical.propDecidable P) h α a b
theorem wt_ifT {α : Type} {a b : α} : wt_if True a b = a := wt_if_t trivial
theorem wt_ifF {α : Type} {a b : α} : wt_if False a b = b := wt_if_f (fun h => h)
/-- the answer of a test -/
noncomputable def wt_b (P : Prop) : Int32 := wt_if P (nI 1) (nI 0)
theorem wt_b_t {P : Prop} (h : P) : wt_b P = nI 1 := wt_if_t h
theorem wt_b_f {P : Prop} (h : ¬ P) : wt_b P = nI 0 := wt_if_f h
theorem wt_bt1 {P : Prop} (h : P) : nI 1 = wt_b P := (wt_b_t h).symm
theorem wt_bf0 {P : Prop} (h : ¬ P) : nI 0 = wt_b P := (wt_b_f h).symm
theorem wt_b_0 {P : Prop} (h : wt_b P = 0) : ¬ P := fun q => by rw [wt_b_t q] at h; exact absurd h (by decide)
theorem wt_b_1 {P : Prop} (h : ¬ wt_b P = 0) : P := Classical.byContradiction fun q => h (by rw [wt_b_f q]; exact nI_0)
/-- the greater and the less of two, as the library has them -/
def wt_max (x y : Int32) : Int32 := if x < y then y else x
def wt_min (x y : Int32) : Int32 := if x < y then x else y
theorem wt_dec {i : Nat} (h : 0 < i) : nI i + Int32.ofInt (-1) = nI (i - 1) := by
  obtain ⟨j, rfl⟩ : ∃ j, i = j + 1 := ⟨i - 1, by omega⟩
  exact pk_m1 j
theorem wt_fm {α β : Type} (f : α → Option β) : ∀ (is : List α) (w : List β), is.map f = w.map some → is.filterMap f = w
  | [], [], _ => rfl
  | [], _ :: _, h => by simp at h
  | _ :: _, [], h => by simp at h
  | a :: is, b :: w, h => by
    simp only [List.map_cons, List.cons.injEq] at h
    rw [List.filterMap_cons_some h.1, wt_fm f is w h.2]
theorem wt_b_c {P Q : Prop} (h : P ↔ Q) : wt_b P = wt_b Q := by rw [propext h]
theorem wt_b_nar (P : Prop) : narrow .boolean (.int (wt_b P)) = .int (wt_b P) := by
  by_cases h : P
  · rw [wt_b_t h]; decide
  · rw [wt_b_f h]; decide
theorem wt_nar0 : narrow .boolean (.int (nI 0)) = .int (nI 0) := by decide
theorem wt_nar1 : narrow .boolean (.int (nI 1)) = .int (nI 1) := by decide
/-- n steps, each with its number -/
def wt_fold {α : Type} (f : Nat → α → α) : Nat → α → α
  | 0, x => x
  | n + 1, x => f n (wt_fold f n x)
theorem wt_fold_0 {α : Type} (f : Nat → α → α) (x : α) : wt_fold f 0 x = x := rfl
theorem wt_fold_s {α : Type} (f : Nat → α → α) (n : Nat) (x : α) : wt_fold f (n + 1) x = f n (wt_fold f n x) := rfl
/-- the nest mates' words -/
def wt_nsW : List Cond := [.methodLinkNest RX3 11 yX0_init RX3, .methodLinkNest RX3 22 yX2_init RX3, .methodLinkNest RX3 35 yX1_init RX3, .methodLinkNest RX0 26 yX3_has RX3, .methodLinkNest RX0 30 yX3_below RX3, .methodLinkNest RX0 33 yX3_bit RX3, .methodLinkNest RX2 28 yX3_below RX3, .methodLinkNest RX2 58 yX3_bit RX3]
def wt_nst (U : State) : Prop := ∀ w ∈ wt_nsW, va_Nw w U
theorem wt_nst_all {P : Cond → Prop} (h : ∀ (a : String) (i : Nat) (x : MethodName) (n : String), Cond.methodLinkNest a i x n ∈ wt_nsW → P (.methodLinkNest a i x n)) : ∀ w ∈ wt_nsW, P w := by
  intro w hw
  have h0 := hw
  simp only [wt_nsW, List.mem_cons, List.not_mem_nil, or_false] at h0
  rcases h0 with rfl | rfl | rfl | rfl | rfl | rfl | rfl | rfl <;> exact h _ _ _ _ hw
theorem wt_nst_warm {s U : State} (hW : s.WarmedH U.vm) (h : wt_nst s) : wt_nst U := wt_nst_all fun _ _ _ _ hw => va_Nw.warmM hW (h _ hw)
theorem wt_nst_same {u U : State} (e : u.vm = U.vm) (h : wt_nst u) : wt_nst U := wt_nst_all fun _ _ _ _ hw => va_Nw.same rfl e (h _ hw)
/-- a method's start: its world, the tables, the nest mates -/
def wt_pre (D : va_G) (cI : ClassId) (ws : va_W) (U : State) : Prop := va_P D vwCl ws U.heap ∧ va_K D vwCl [(cI, .int)] U ∧ wt_nst U
theorem wt_pre_blind {D : va_G} {cI : ClassId} {ws : va_W} {U : State} {g : JFrame} {mk : MethodId} {a : Array Value} (h : wt_pre D cI ws U) : wt_pre D cI ws (U.calling g mk a) := ⟨h.1, va_K.moved (u := U) (U := U.calling g mk a) (Vm.Alike.refl U.vm) h.2.1, wt_nst_same (u := U) rfl h.2.2⟩
theorem wt_pre_at {D : va_G} {cI : ClassId} {ws : va_W} {s U : State} {H : Heap} (hK : va_K D vwCl [(cI, .int)] s) (hP : va_P D vwCl ws H) (hN : wt_nst s) (hU : U.heap = H) (hW : s.WarmedH U.vm) : wt_pre D cI ws U := ⟨by rw [hU]; exact hP, va_K.moved hW.alike hK, wt_nst_warm hW hN⟩
/-- an answer alone: nothing is written -/
def wt_ro (r : Int32) : Array Value → State → Outcome → State → Prop := fun _ st o t => o = .returned (some (.int r)) ∧ t.heap = st.heap
def wt_no : Addr → Prop := fun _ => False
/-- what it answers, and the world behind it: the same cells -/
def wt_mu (v : Option Value) (D : va_G) (w1 : va_W) (A : Nat → Prop) : Array Value → State → Outcome → State → Prop := fun _ st o t => o = .returned v ∧ va_P D vwCl w1 t.heap ∧ va_F A st t
/-- the start of a method that writes -/
def wt_pm (D : va_G) (cI : ClassId) (ws : va_W) (sz : Nat) (U : State) : Prop := U.heap.size = sz ∧ wt_pre D cI ws U ∧ va_D (fun _ => True) ws
theorem wt_pm_blind {D : va_G} {cI : ClassId} {ws : va_W} {sz : Nat} {U : State} {g : JFrame} {mk : MethodId} {a : Array Value} (h : wt_pm D cI ws sz U) : wt_pm D cI ws sz (U.calling g mk a) := ⟨h.1, wt_pre_blind h.2.1, h.2.2⟩
theorem wt_adr {A : Nat → Prop} {w w1 : va_W} (h : va_D A w) (e : w1.map (·.1) = w.map (·.1)) : va_D A w1 := by
  have key : ∀ (k : Nat) (q : Nat × va_E), w1[k]? = some q → ∃ q' : Nat × va_E, w[k]? = some q' ∧ q'.1 = q.1 := by
    intro k q hq
    have h1 : (w1.map (·.1))[k]? = some q.1 := by rw [List.getElem?_map, hq]; rfl
    rw [e, List.getElem?_map] at h1
    cases hw : w[k]? with
    | none => rw [hw] at h1; cases h1
    | some z => rw [hw] at h1; exact ⟨z, rfl, Option.some.inj h1⟩
  refine ⟨fun i j p q hi hj hpq => ?_, fun k q hk => ?_⟩
  · obtain ⟨p', a1, a2⟩ := key i p hi
    obtain ⟨q', b1, b2⟩ := key j q hj
    exact h.1 i j p' q' a1 b1 (by rw [a2, b2, hpq])
  · obtain ⟨q', a1, a2⟩ := key k q hk
    rw [← a2]
    exact h.2 k q' a1
theorem wt_in {small big : List Cond} (ps : List Nat) (hp : small = ps.filterMap (fun i => big[i]?)) : ∀ w ∈ small, w ∈ big := by
  intro w hw
  rw [hp] at hw
  obtain ⟨i, -, hi⟩ := List.mem_filterMap.mp hw
  exact List.mem_of_getElem? hi
section WT1
variable {p : Program} {l : Launch} {e : Env} {R : Room} {s : State} {m : MethodId} {args : Array Value} {below : List Frame} {meth : Method} {c : Code} {H : Heap} {locs : List Loc} {cells slots : Nat} {Q : State → Prop}
variable {cc : ByteArray} {pc : Nat} {ls : Array Slot} {rest st0 : List Value} {D : va_G} {cI : ClassId} {A : Nat → Prop} {a : Nat} {ws : va_W} {H0 : Heap} {av : Array Value}
theorem wt_iadd (hexec : p.tables.exec = Jvm.exec) (hb : c.code = cc) {i j : Nat} (hdg : decode cc pc = .ok (.iadd, 1)) (k : W p l e R s m args below meth c H locs cells slots Q (F0 m (pc + 1) ls (.int (nI (i + j)) :: rest))) : W p l e R s m args below meth c H locs cells slots Q (F0 m pc ls (.int (nI j) :: .int (nI i) :: rest)) := lv_iadd hexec hb hdg (by rw [nI_add]; exact k)
theorem wt_imul (hexec : p.tables.exec = Jvm.exec) (hb : c.code = cc) {i j : Nat} (hdg : decode cc pc = .ok (.imul, 1)) (k : W p l e R s m args below meth c H locs cells slots Q (F0 m (pc + 1) ls (.int (nI (i * j)) :: rest))) : W p l e R s m args below meth c H locs cells slots Q (F0 m pc ls (.int (nI j) :: .int (nI i) :: rest)) := lv_imul hexec hb hdg (by rw [pk_mul]; exact k)
theorem wt_isub (hexec : p.tables.exec = Jvm.exec) (hb : c.code = cc) {i j : Nat} (h : j ≤ i) (hdg : decode cc pc = .ok (.isub, 1)) (k : W p l e R s m args below meth c H locs cells slots Q (F0 m (pc + 1) ls (.int (nI (i - j)) :: rest))) : W p l e R s m args below meth c H locs cells slots Q (F0 m pc ls (.int (nI j) :: .int (nI i) :: rest)) := lv_isub hexec hb hdg (by rw [pk_sub h]; exact k)
/-- the number on top by another name -/
theorem wt_top {x y : Int32} (h : x = y) (k : W p l e R s m args below meth c H locs cells slots Q (F0 m pc ls (.int y :: rest))) : W p l e R s m args below meth c H locs cells slots Q (F0 m pc ls (.int x :: rest)) := by rw [h]; exact k
theorem wt_icmp_ge (hexec : p.tables.exec = Jvm.exec) (hb : c.code = cc) {i j : Nat} (hi : i < 2 ^ 31) (hj : j < 2 ^ 31) {off : Int} {tgt : Nat} (hdg : decode cc pc = .ok (.if_icmp .ge off, 3)) (ht : (pc : Int) + off = (tgt : Int))
    (kt : j ≤ i → W p l e R s m args below meth c H locs cells slots Q (F0 m tgt ls rest)) (kf : i < j → W p l e R s m args below meth c H locs cells slots Q (F0 m (pc + 3) ls rest)) : W p l e R s m args below meth c H locs cells slots Q (F0 m pc ls (.int (nI j) :: .int (nI i) :: rest)) :=
  lv_icmp_ge hexec hb hdg ht (fun h => kt ((nI_leI hj hi).mp h)) (fun h => kf (Nat.lt_of_not_le fun q => h ((nI_leI hj hi).mpr q)))
theorem wt_icmp_lt (hexec : p.tables.exec = Jvm.exec) (hb : c.code = cc) {i j : Nat} (hi : i < 2 ^ 31) (hj : j < 2 ^ 31) {off : Int} {tgt : Nat} (hdg : decode cc pc = .ok (.if_icmp .lt off, 3)) (ht : (pc : Int) + off = (tgt : Int))
    (kt : i < j → W p l e R s m args below meth c H locs cells slots Q (F0 m tgt ls rest)) (kf : j ≤ i → W p l e R s m args below meth c H locs cells slots Q (F0 m (pc + 3) ls rest)) : W p l e R s m args below meth c H locs cells slots Q (F0 m pc ls (.int (nI j) :: .int (nI i) :: rest)) :=
  lv_icmp_lt hexec hb hdg ht (fun h => kt ((nI_ltI hi hj).mp h)) (fun h => kf (Nat.le_of_not_lt fun q => h ((nI_ltI hi hj).mpr q)))
theorem wt_icmp_gt (hexec : p.tables.exec = Jvm.exec) (hb : c.code = cc) {i j : Nat} (hi : i < 2 ^ 31) (hj : j < 2 ^ 31) {off : Int} {tgt : Nat} (hdg : decode cc pc = .ok (.if_icmp .gt off, 3)) (ht : (pc : Int) + off = (tgt : Int))
    (kt : j < i → W p l e R s m args below meth c H locs cells slots Q (F0 m tgt ls rest)) (kf : i ≤ j → W p l e R s m args below meth c H locs cells slots Q (F0 m (pc + 3) ls rest)) : W p l e R s m args below meth c H locs cells slots Q (F0 m pc ls (.int (nI j) :: .int (nI i) :: rest)) :=
  lv_icmp_gt hexec hb hdg ht (fun h => kt ((nI_ltI hj hi).mp h)) (fun h => kf (Nat.le_of_not_lt fun q => h ((nI_ltI hj hi).mpr q)))
theorem wt_icmp_le (hexec : p.tables.exec = Jvm.exec) (hb : c.code = cc) {i j : Nat} (hi : i < 2 ^ 31) (hj : j < 2 ^ 31) {off : Int} {tgt : Nat} (hdg : decode cc pc = .ok (.if_icmp .le off, 3)) (ht : (pc : Int) + off = (tgt : Int))
    (kt : i ≤ j → W p l e R s m args below meth c H locs cells slots Q (F0 m tgt ls rest)) (kf : j < i → W p l e R s m args below meth c H locs cells slots Q (F0 m (pc + 3) ls rest)) : W p l e R s m args below meth c H locs cells slots Q (F0 m pc ls (.int (nI j) :: .int (nI i) :: rest)) :=
  lv_icmp_le hexec hb hdg ht (fun h => kt ((nI_leI hi hj).mp h)) (fun h => kf (Nat.lt_of_not_le fun q => h ((nI_leI hi hj).mpr q)))
theorem wt_icmp_eq (hexec : p.tables.exec = Jvm.exec) (hb : c.code = cc) {i j : Nat} (hi : i < 2 ^ 31) (hj : j < 2 ^ 31) {off : Int} {tgt : Nat} (hdg : decode cc pc = .ok (.if_icmp .eq off, 3)) (ht : (pc : Int) + off = (tgt : Int))
    (kt : i = j → W p l e R s m args below meth c H locs cells slots Q (F0 m tgt ls rest)) (kf : i ≠ j → W p l e R s m args below meth c H locs cells slots Q (F0 m (pc + 3) ls rest)) : W p l e R s m args below meth c H locs cells slots Q (F0 m pc ls (.int (nI j) :: .int (nI i) :: rest)) :=
  lv_icmp_eq hexec hb hdg ht (fun h => kt ((nI_eq hi hj).mp h)) (fun h => kf fun q => h ((nI_eq hi hj).mpr q))
theorem wt_icmp_ne (hexec : p.tables.exec = Jvm.exec) (hb : c.code = cc) {i j : Nat} (hi : i < 2 ^ 31) (hj : j < 2 ^ 31) {off : Int} {tgt : Nat} (hdg : decode cc pc = .ok (.if_icmp .ne off, 3)) (ht : (pc : Int) + off = (tgt : Int))
    (kt : i ≠ j → W p l e R s m args below meth c H locs cells slots Q (F0 m tgt ls rest)) (kf : i = j → W p l e R s m args below meth c H locs cells slots Q (F0 m (pc + 3) ls rest)) : W p l e R s m args below meth c H locs cells slots Q (F0 m pc ls (.int (nI j) :: .int (nI i) :: rest)) :=
  lv_icmp_ne hexec hb hdg ht (fun h => kt fun q => h ((nI_eq hi hj).mpr q)) (fun h => kf ((nI_eq hi hj).mp h))
theorem wt_if_eq (hexec : p.tables.exec = Jvm.exec) (hb : c.code = cc) {i : Nat} (hi : i < 2 ^ 31) {off : Int} {tgt : Nat} (hdg : decode cc pc = .ok (.ifCond .eq off, 3)) (ht : (pc : Int) + off = (tgt : Int))
    (kt : i = 0 → W p l e R s m args below meth c H locs cells slots Q (F0 m tgt ls rest)) (kf : 0 < i → W p l e R s m args below meth c H locs cells slots Q (F0 m (pc + 3) ls rest)) : W p l e R s m args below meth c H locs cells slots Q (F0 m pc ls (.int (nI i) :: rest)) :=
  lv_if_eq hexec hb hdg ht (fun h => kt (Nat.eq_zero_of_not_pos fun q => nI_ne0 q hi h)) (fun h => kf (Nat.pos_of_ne_zero fun q => h (by rw [q]; exact nI_0)))
theorem wt_if_ne (hexec : p.tables.exec = Jvm.exec) (hb : c.code = cc) {i : Nat} (hi : i < 2 ^ 31) {off : Int} {tgt : Nat} (hdg : decode cc pc = .ok (.ifCond .ne off, 3)) (ht : (pc : Int) + off = (tgt : Int))
    (kt : 0 < i → W p l e R s m args below meth c H locs cells slots Q (F0 m tgt ls rest)) (kf : i = 0 → W p l e R s m args below meth c H locs cells slots Q (F0 m (pc + 3) ls rest)) : W p l e R s m args below meth c H locs cells slots Q (F0 m pc ls (.int (nI i) :: rest)) :=
  lv_if_ne hexec hb hdg ht (fun h => kt (Nat.pos_of_ne_zero fun q => h (by rw [q]; exact nI_0))) (fun h => kf (Nat.eq_zero_of_not_pos fun q => nI_ne0 q hi h))
theorem wt_if_le (hexec : p.tables.exec = Jvm.exec) (hb : c.code = cc) {i : Nat} (hi : i < 2 ^ 31) {off : Int} {tgt : Nat} (hdg : decode cc pc = .ok (.ifCond .le off, 3)) (ht : (pc : Int) + off = (tgt : Int))
    (kt : i = 0 → W p l e R s m args below meth c H locs cells slots Q (F0 m tgt ls rest)) (kf : 0 < i → W p l e R s m args below meth c H locs cells slots Q (F0 m (pc + 3) ls rest)) : W p l e R s m args below meth c H locs cells slots Q (F0 m pc ls (.int (nI i) :: rest)) :=
  lv_if_le hexec hb hdg ht (fun h => kt (Nat.eq_zero_of_not_pos fun q => nI_nle q hi h)) (fun h => kf (Nat.pos_of_ne_zero fun q => h (by rw [q]; exact Int32.le_refl _)))
theorem wt_if_gt (hexec : p.tables.exec = Jvm.exec) (hb : c.code = cc) {i : Nat} (hi : i < 2 ^ 31) {off : Int} {tgt : Nat} (hdg : decode cc pc = .ok (.ifCond .gt off, 3)) (ht : (pc : Int) + off = (tgt : Int))
    (kt : 0 < i → W p l e R s m args below meth c H locs cells slots Q (F0 m tgt ls rest)) (kf : i = 0 → W p l e R s m args below meth c H locs cells slots Q (F0 m (pc + 3) ls rest)) : W p l e R s m args below meth c H locs cells slots Q (F0 m pc ls (.int (nI i) :: rest)) :=
  lv_if_gt hexec hb hdg ht (fun h => kt (Nat.pos_of_ne_zero fun q => by rw [q, nI_0] at h; exact absurd h (by decide))) (fun h => kf (Nat.eq_zero_of_not_pos fun q => h (by have := nI_lt q hi; rw [nI_0] at this; exact this)))
/-- branches on the answer of a test -/
theorem wt_if_eqB (hexec : p.tables.exec = Jvm.exec) (hb : c.code = cc) {P : Prop} {off : Int} {tgt : Nat} (hdg : decode cc pc = .ok (.ifCond .eq off, 3)) (ht : (pc : Int) + off = (tgt : Int))
    (kt : ¬ P → W p l e R s m args below meth c H locs cells slots Q (F0 m tgt ls rest)) (kf : P → W p l e R s m args below meth c H locs cells slots Q (F0 m (pc + 3) ls rest)) : W p l e R s m args below meth c H locs cells slots Q (F0 m pc ls (.int (wt_b P) :: rest)) :=
  lv_if_eq hexec hb hdg ht (fun h => kt (wt_b_0 h)) (fun h => kf (wt_b_1 h))
theorem wt_if_neB (hexec : p.tables.exec = Jvm.exec) (hb : c.code = cc) {P : Prop} {off : Int} {tgt : Nat} (hdg : decode cc pc = .ok (.ifCond .ne off, 3)) (ht : (pc : Int) + off = (tgt : Int))
    (kt : P → W p l e R s m args below meth c H locs cells slots Q (F0 m tgt ls rest)) (kf : ¬ P → W p l e R s m args below meth c H locs cells slots Q (F0 m (pc + 3) ls rest)) : W p l e R s m args below meth c H locs cells slots Q (F0 m pc ls (.int (wt_b P) :: rest)) :=
  lv_if_ne hexec hb hdg ht (fun h => kt (wt_b_1 h)) (fun h => kf (wt_b_0 h))
/-- an int array's place, by a natural number -/
theorem wt_iald (hexec : p.tables.exec = Jvm.exec) (hb : c.code = cc) (hK : va_K D vwCl [(cI, .int)] s) (hP : va_P D vwCl ws H) (q0 : Nat) {n : Nat} {f : Nat → Int32} (ha : ws[q0]? = some (a, .inl (cI, n, .inl f))) {i : Nat} (hi : i < n) (hn : n < 2 ^ 31) (hdg : decode cc pc = .ok (.iaload, 1))
    (kk : W p l e R s m args below meth c H locs cells slots Q (F0 m (pc + 1) ls (.int (f i) :: rest))) : W p l e R s m args below meth c H locs cells slots Q (F0 m pc ls (.int (nI i) :: .ref a :: rest)) :=
  va_iald hexec hb hK hP q0 0 ha rfl (vp_in_nI hi hn) hdg (by rw [nI_clamp (Nat.lt_trans hi hn)]; exact kk)
theorem wt_iast (hexec : p.tables.exec = Jvm.exec) (hb : c.code = cc) (hK : va_K D vwCl [(cI, .int)] s) (hP : va_P D vwCl ws H) (hD : va_D A ws) (hS : va_S A H0 H locs) (q0 : Nat) {n : Nat} {f : Nat → Int32} (ha : ws[q0]? = some (a, .inl (cI, n, .inl f))) {i : Nat} {x : Int32} (hi : i < n) (hn : n < 2 ^ 31) (hdg : decode cc pc = .ok (.iastore, 1))
    (kk : ∀ (H1 : Heap) (locs1 : List Loc), va_P D vwCl (ws.set q0 (a, .inl (cI, n, .inl (upd f i x)))) H1 → va_D A (ws.set q0 (a, .inl (cI, n, .inl (upd f i x)))) → va_S A H0 H1 locs1 → W p l e R s m args below meth c H1 locs1 cells slots Q (F0 m (pc + 1) ls rest)) : W p l e R s m args below meth c H locs cells slots Q (F0 m pc ls (.int x :: .int (nI i) :: .ref a :: rest)) :=
  va_iast hexec hb hK hP hD hS q0 0 ha rfl (vp_in_nI hi hn) hdg (by rw [nI_clamp (Nat.lt_trans hi hn)]; exact kk)
/-- a new int array -/
theorem wt_newa (hexec : p.tables.exec = Jvm.exec) (hb : c.code = cc) (harr : (Cond.arrayClass .int).before args s = true) (hK : va_K D vwCl [(cI, .int)] s) (hP : va_P D vwCl ws H) (hD : va_D A ws) (hS : va_S A H0 H locs) (hA : ∀ q, H0.size ≤ q → A q)
    {N : Nat} (hN : N ≤ 10000) (hcells : cells + 1 ≤ R.cells) (hslots : slots + N ≤ R.slots) (hdg : decode cc pc = .ok (.newarray .int, 2))
    (kk : ∀ (q : Nat) (H1 : Heap), va_P D vwCl (ws ++ [(q, .inl (cI, N, .inl (fun _ => 0)))]) H1 → va_D A (ws ++ [(q, .inl (cI, N, .inl (fun _ => 0)))]) → va_S A H0 H1 locs →
      W p l e R s m args below meth c H1 locs (cells + 1) (slots + N) Q (F0 m (pc + 2) ls (.ref q :: rest))) : W p l e R s m args below meth c H locs cells slots Q (F0 m pc ls (.int (nI N) :: rest)) := by
  refine va_newa (atype := .int) (ty := .int) (a0 := (N, .inl (fun _ => 0))) hexec hb harr rfl hK hP hD hS hA (fun _ => rfl) (nI_pos (by omega)) (nI_clamp (by omega)) (by show N * 4 ≤ _; omega) hcells hslots hdg (fun q cA H1 hK1 hP1 hD1 hS1 => ?_)
  have e1 : s.vm.findClass "[I" = some cA := (hK1.2 1 (cA, .int) rfl).2
  have e2 : s.vm.findClass "[I" = some cI := (hK.2 0 (cI, .int) rfl).2
  have e3 : cA = cI := Option.some.inj (e1.symm.trans e2)
  subst e3
  exact kk q H1 hP1 hD1 hS1
/-- the end of a method that only answers -/
theorem wt_ret (hexec : p.tables.exec = Jvm.exec) (hb : c.code = cc) (hr : meth.sig.returnType = some .int) {v r : Int32} (h : v = r) (hH : H = s.heap) (hdg : decode cc pc = .ok (.ireturn, 1)) (hlocks : meth.locks = false) : W p l e R s m args below meth c H [] 0 0 (MQ below (wt_ro r) args s 0 0 wt_no) (F0 m pc ls [.int v]) :=
  W.iret hexec hb hr (fun t ht _ => ⟨by rw [h], by rw [ht, hH]⟩) (fun _ h => nomatch h) hdg hlocks
theorem wt_retz (hexec : p.tables.exec = Jvm.exec) (hb : c.code = cc) (hr : meth.sig.returnType = some .boolean) {v : Int32} {P : Prop} (h : v = wt_b P) (hH : H = s.heap) (hdg : decode cc pc = .ok (.ireturn, 1)) (hlocks : meth.locks = false) : W p l e R s m args below meth c H [] 0 0 (MQ below (wt_ro (wt_b P)) args s 0 0 wt_no) (F0 m pc ls [.int v]) :=
  W.zret hexec hb hr (by rw [h]; exact wt_b_nar P) (fun t ht _ => ⟨by rw [h], by rw [ht, hH]⟩) (fun _ h => nomatch h) hdg hlocks
/-- behind a call that only answers -/
theorem wt_ro_go {r : Int32} (hr : va_Run p l e R s m args below meth c H locs cells slots 0 0 (F0 m pc ls st0) rest (wt_ro r av) wt_no) (k : W p l e R s m args below meth c H locs cells slots Q (F0 m (pc + 3) ls (.int r :: rest))) : W p l e R s m args below meth c H locs cells slots Q (F0 m pc ls st0) := by
  intro T hT X
  obtain ⟨v, st₀, t, T', L, h0, X', hL, e1, -, ⟨hv, hh⟩, st⟩ := hr T hT X
  have hL0 : L = [] := by
    cases L with
    | nil => rfl
    | cons q L => exact (hL q List.mem_cons_self).elim
  subst hL0
  rw [List.append_nil] at X'
  cases hv
  obtain ⟨t2, a1, b1⟩ := k T' (by rw [e1, hh, h0]) X'
  exact ⟨t2, st t2 a1, b1⟩
/-- behind a call that writes in its world's cells -/
theorem wt_mu_go {v : Option Value} {mc ms : Nat} {wH wc w1 wr w2 : va_W} (hr : va_Run p l e R s m args below meth c H locs cells slots mc ms (F0 m pc ls st0) rest (wt_mu v D w1 (va_A wc H.size) av) (va_A wc H.size))
    (hP : va_P D vwCl wH H) (hD : va_D A wH) (hS : va_S A H0 H locs) (hA : ∀ q, H0.size ≤ q → A q) (isC isR : List Nat) (hC : isC.map (fun i => wH[i]?) = wc.map some) (hnC : va_nd isC = true) (hR : isR.map (fun i => wH[i]?) = wr.map some) (hn : va_nd isR = true) (hdis : ∀ i ∈ isR, i ∉ isC) (hadr : w1.map (·.1) = wc.map (·.1))
    (pm : List Nat) (hpm : pm.map (fun i => (wr ++ w1)[i]?) = w2.map some) (hpn : va_nd pm = true)
    (kk : ∀ (H1 : Heap) (locs1 : List Loc), va_P D vwCl w2 H1 → va_D A w2 → va_S A H0 H1 locs1 → H.size ≤ H1.size → W p l e R s m args below meth c H1 locs1 (cells + mc) (slots + ms) Q (F0 m (pc + 3) ls (v.toList ++ rest))) : W p l e R s m args below meth c H locs cells slots Q (F0 m pc ls st0) := by
  intro T hT X
  obtain ⟨v', st₀, t, T', L, h0, X', hL, e1, -, ⟨hv, hP1, hF⟩, st⟩ := hr T hT X
  have hf := va_free hD hS hA isC hC
  obtain ⟨k1, k2, k3⟩ := vx_keep h0 e1 hS (fun q _ h => hf q h) hf hL hF
  have hD1 : va_D (va_A wc H.size) w1 := wt_adr ((hD.sub isC hnC hC).self) hadr
  obtain ⟨j1, j2⟩ := va_join hP hD isC isR hC hR hn hdis k2 hf (by rw [← e1] at hP1; exact hP1) hD1
  cases hv
  obtain ⟨t2, a1, b1⟩ := kk T'.heap (locs ++ L) (j1.sub pm (wt_fm _ _ _ hpm)) (j2.sub pm hpn hpm) k3 k1 T' rfl X'
  exact ⟨t2, st t2 a1, b1⟩
/-- numbers against 0: the one way that is left -/
theorem wt_if_lt (hexec : p.tables.exec = Jvm.exec) (hb : c.code = cc) {i : Nat} (hi : i < 2 ^ 31) {off : Int} {tgt : Nat} (hdg : decode cc pc = .ok (.ifCond .lt off, 3)) (ht : (pc : Int) + off = (tgt : Int))
    (kf : W p l e R s m args below meth c H locs cells slots Q (F0 m (pc + 3) ls rest)) : W p l e R s m args below meth c H locs cells slots Q (F0 m pc ls (.int (nI i) :: rest)) :=
  lv_if_lt hexec hb hdg ht (fun h => absurd h (nI_pos hi)) (fun _ => kf)
theorem wt_if_ge (hexec : p.tables.exec = Jvm.exec) (hb : c.code = cc) {i : Nat} (hi : i < 2 ^ 31) {off : Int} {tgt : Nat} (hdg : decode cc pc = .ok (.ifCond .ge off, 3)) (ht : (pc : Int) + off = (tgt : Int))
    (kt : W p l e R s m args below meth c H locs cells slots Q (F0 m tgt ls rest)) : W p l e R s m args below meth c H locs cells slots Q (F0 m pc ls (.int (nI i) :: rest)) :=
  lv_if_ge hexec hb hdg ht (fun _ => kt) (fun h => absurd (nI_pos' hi) h)
theorem wt_lt_of {x y : Int32} (h : ¬ y ≤ x) : x < y := by
  rw [Int32.le_iff_toInt_le] at h
  rw [Int32.lt_iff_toInt_lt]
  omega
theorem wt_nlt_of {x y : Int32} (h : y ≤ x) : ¬ x < y := by
  rw [Int32.le_iff_toInt_le] at h
  rw [Int32.lt_iff_toInt_lt]
  omega
/-- any numbers: equal, or less -/
theorem wt_icmp_eqI (hexec : p.tables.exec = Jvm.exec) (hb : c.code = cc) {x y : Int32} {off : Int} {tgt : Nat} (hdg : decode cc pc = .ok (.if_icmp .eq off, 3)) (ht : (pc : Int) + off = (tgt : Int))
    (kt : x = y → W p l e R s m args below meth c H locs cells slots Q (F0 m tgt ls rest)) (kf : ¬ x = y → W p l e R s m args below meth c H locs cells slots Q (F0 m (pc + 3) ls rest)) : W p l e R s m args below meth c H locs cells slots Q (F0 m pc ls (.int y :: .int x :: rest)) := lv_icmp_eq hexec hb hdg ht kt kf
theorem wt_icmp_neI (hexec : p.tables.exec = Jvm.exec) (hb : c.code = cc) {x y : Int32} {off : Int} {tgt : Nat} (hdg : decode cc pc = .ok (.if_icmp .ne off, 3)) (ht : (pc : Int) + off = (tgt : Int))
    (kt : ¬ x = y → W p l e R s m args below meth c H locs cells slots Q (F0 m tgt ls rest)) (kf : x = y → W p l e R s m args below meth c H locs cells slots Q (F0 m (pc + 3) ls rest)) : W p l e R s m args below meth c H locs cells slots Q (F0 m pc ls (.int y :: .int x :: rest)) := lv_icmp_ne hexec hb hdg ht kt kf
theorem wt_icmp_ltI (hexec : p.tables.exec = Jvm.exec) (hb : c.code = cc) {x y : Int32} {off : Int} {tgt : Nat} (hdg : decode cc pc = .ok (.if_icmp .lt off, 3)) (ht : (pc : Int) + off = (tgt : Int))
    (kt : x < y → W p l e R s m args below meth c H locs cells slots Q (F0 m tgt ls rest)) (kf : ¬ x < y → W p l e R s m args below meth c H locs cells slots Q (F0 m (pc + 3) ls rest)) : W p l e R s m args below meth c H locs cells slots Q (F0 m pc ls (.int y :: .int x :: rest)) := lv_icmp_lt hexec hb hdg ht kt kf
theorem wt_icmp_geI (hexec : p.tables.exec = Jvm.exec) (hb : c.code = cc) {x y : Int32} {off : Int} {tgt : Nat} (hdg : decode cc pc = .ok (.if_icmp .ge off, 3)) (ht : (pc : Int) + off = (tgt : Int))
    (kt : ¬ x < y → W p l e R s m args below meth c H locs cells slots Q (F0 m tgt ls rest)) (kf : x < y → W p l e R s m args below meth c H locs cells slots Q (F0 m (pc + 3) ls rest)) : W p l e R s m args below meth c H locs cells slots Q (F0 m pc ls (.int y :: .int x :: rest)) := lv_icmp_ge hexec hb hdg ht (fun h => kt (wt_nlt_of h)) (fun h => kf (wt_lt_of h))
theorem wt_icmp_gtI (hexec : p.tables.exec = Jvm.exec) (hb : c.code = cc) {x y : Int32} {off : Int} {tgt : Nat} (hdg : decode cc pc = .ok (.if_icmp .gt off, 3)) (ht : (pc : Int) + off = (tgt : Int))
    (kt : y < x → W p l e R s m args below meth c H locs cells slots Q (F0 m tgt ls rest)) (kf : ¬ y < x → W p l e R s m args below meth c H locs cells slots Q (F0 m (pc + 3) ls rest)) : W p l e R s m args below meth c H locs cells slots Q (F0 m pc ls (.int y :: .int x :: rest)) := lv_icmp_gt hexec hb hdg ht kt kf
theorem wt_icmp_leI (hexec : p.tables.exec = Jvm.exec) (hb : c.code = cc) {x y : Int32} {off : Int} {tgt : Nat} (hdg : decode cc pc = .ok (.if_icmp .le off, 3)) (ht : (pc : Int) + off = (tgt : Int))
    (kt : ¬ y < x → W p l e R s m args below meth c H locs cells slots Q (F0 m tgt ls rest)) (kf : y < x → W p l e R s m args below meth c H locs cells slots Q (F0 m (pc + 3) ls rest)) : W p l e R s m args below meth c H locs cells slots Q (F0 m pc ls (.int y :: .int x :: rest)) := lv_icmp_le hexec hb hdg ht (fun h => kt (wt_nlt_of h)) (fun h => kf (wt_lt_of h))
theorem wt_if_eqI (hexec : p.tables.exec = Jvm.exec) (hb : c.code = cc) {x : Int32} {off : Int} {tgt : Nat} (hdg : decode cc pc = .ok (.ifCond .eq off, 3)) (ht : (pc : Int) + off = (tgt : Int))
    (kt : x = 0 → W p l e R s m args below meth c H locs cells slots Q (F0 m tgt ls rest)) (kf : ¬ x = 0 → W p l e R s m args below meth c H locs cells slots Q (F0 m (pc + 3) ls rest)) : W p l e R s m args below meth c H locs cells slots Q (F0 m pc ls (.int x :: rest)) := lv_if_eq hexec hb hdg ht kt kf
theorem wt_if_neI (hexec : p.tables.exec = Jvm.exec) (hb : c.code = cc) {x : Int32} {off : Int} {tgt : Nat} (hdg : decode cc pc = .ok (.ifCond .ne off, 3)) (ht : (pc : Int) + off = (tgt : Int))
    (kt : ¬ x = 0 → W p l e R s m args below meth c H locs cells slots Q (F0 m tgt ls rest)) (kf : x = 0 → W p l e R s m args below meth c H locs cells slots Q (F0 m (pc + 3) ls rest)) : W p l e R s m args below meth c H locs cells slots Q (F0 m pc ls (.int x :: rest)) := lv_if_ne hexec hb hdg ht kt kf
theorem wt_if_ltI (hexec : p.tables.exec = Jvm.exec) (hb : c.code = cc) {x : Int32} {off : Int} {tgt : Nat} (hdg : decode cc pc = .ok (.ifCond .lt off, 3)) (ht : (pc : Int) + off = (tgt : Int))
    (kt : x < 0 → W p l e R s m args below meth c H locs cells slots Q (F0 m tgt ls rest)) (kf : ¬ x < 0 → W p l e R s m args below meth c H locs cells slots Q (F0 m (pc + 3) ls rest)) : W p l e R s m args below meth c H locs cells slots Q (F0 m pc ls (.int x :: rest)) := lv_if_lt hexec hb hdg ht kt kf
theorem wt_if_geI (hexec : p.tables.exec = Jvm.exec) (hb : c.code = cc) {x : Int32} {off : Int} {tgt : Nat} (hdg : decode cc pc = .ok (.ifCond .ge off, 3)) (ht : (pc : Int) + off = (tgt : Int))
    (kt : ¬ x < 0 → W p l e R s m args below meth c H locs cells slots Q (F0 m tgt ls rest)) (kf : x < 0 → W p l e R s m args below meth c H locs cells slots Q (F0 m (pc + 3) ls rest)) : W p l e R s m args below meth c H locs cells slots Q (F0 m pc ls (.int x :: rest)) := lv_if_ge hexec hb hdg ht (fun h => kt (wt_nlt_of h)) (fun h => kf (wt_lt_of h))
theorem wt_if_gtI (hexec : p.tables.exec = Jvm.exec) (hb : c.code = cc) {x : Int32} {off : Int} {tgt : Nat} (hdg : decode cc pc = .ok (.ifCond .gt off, 3)) (ht : (pc : Int) + off = (tgt : Int))
    (kt : 0 < x → W p l e R s m args below meth c H locs cells slots Q (F0 m tgt ls rest)) (kf : ¬ 0 < x → W p l e R s m args below meth c H locs cells slots Q (F0 m (pc + 3) ls rest)) : W p l e R s m args below meth c H locs cells slots Q (F0 m pc ls (.int x :: rest)) := lv_if_gt hexec hb hdg ht kt kf
theorem wt_if_leI (hexec : p.tables.exec = Jvm.exec) (hb : c.code = cc) {x : Int32} {off : Int} {tgt : Nat} (hdg : decode cc pc = .ok (.ifCond .le off, 3)) (ht : (pc : Int) + off = (tgt : Int))
    (kt : ¬ 0 < x → W p l e R s m args below meth c H locs cells slots Q (F0 m tgt ls rest)) (kf : 0 < x → W p l e R s m args below meth c H locs cells slots Q (F0 m (pc + 3) ls rest)) : W p l e R s m args below meth c H locs cells slots Q (F0 m pc ls (.int x :: rest)) := lv_if_le hexec hb hdg ht (fun h => kt (wt_nlt_of h)) (fun h => kf (wt_lt_of h))
/-- a loop: from any of its states, those of a smaller measure done -/
theorem wt_lp {σ : Type} (x0 : σ) (μ : σ → Nat) (I : σ → Array Slot → Prop) (h0 : I x0 ls) (step : ∀ (x : σ) (ls : Array Slot), I x ls → (∀ (y : σ) (ls : Array Slot), μ y < μ x → I y ls → W p l e R s m args below meth c H locs cells slots Q (F0 m pc ls st0)) → W p l e R s m args below meth c H locs cells slots Q (F0 m pc ls st0)) : W p l e R s m args below meth c H locs cells slots Q (F0 m pc ls st0) := by
  have key : ∀ (n : Nat) (x : σ) (ls : Array Slot), μ x < n → I x ls → W p l e R s m args below meth c H locs cells slots Q (F0 m pc ls st0) := by
    intro n
    induction n with
    | zero => intro x ls h; exact absurd h (Nat.not_lt_zero _)
    | succ n ih => exact fun x ls h hI => step x ls hI fun y ls hy hIy => ih y ls (Nat.lt_of_lt_of_le hy (Nat.le_of_lt_succ h)) hIy
  exact key _ x0 ls (Nat.lt_succ_self _) h0
theorem wt_lpM {σ : Type} (x0 : σ) (μ : σ → Nat) (I : σ → Array Slot → Heap → List Loc → Prop) (h0 : I x0 ls H locs) (step : ∀ (x : σ) (ls : Array Slot) (H : Heap) (locs : List Loc), I x ls H locs → (∀ (y : σ) (ls : Array Slot) (H : Heap) (locs : List Loc), μ y < μ x → I y ls H locs → W p l e R s m args below meth c H locs cells slots Q (F0 m pc ls st0)) → W p l e R s m args below meth c H locs cells slots Q (F0 m pc ls st0)) : W p l e R s m args below meth c H locs cells slots Q (F0 m pc ls st0) := by
  have key : ∀ (n : Nat) (x : σ) (ls : Array Slot) (H : Heap) (locs : List Loc), μ x < n → I x ls H locs → W p l e R s m args below meth c H locs cells slots Q (F0 m pc ls st0) := by
    intro n
    induction n with
    | zero => intro x ls H locs h; exact absurd h (Nat.not_lt_zero _)
    | succ n ih => exact fun x ls H locs h hI => step x ls H locs hI fun y ls H locs hy hIy => ih y ls H locs (Nat.lt_of_lt_of_le hy (Nat.le_of_lt_succ h)) hIy
  exact key _ x0 ls H locs (Nat.lt_succ_self _) h0
/-- ways that meet again, with a number on top -/
theorem wt_join {v0 : Int32} {tgt : Nat} {st1 : List Value} (k : W p l e R s m args below meth c H locs cells slots Q (F0 m tgt ls (.int v0 :: st1))) (f : (∀ v : Int32, v = v0 → W p l e R s m args below meth c H locs cells slots Q (F0 m tgt ls (.int v :: st1))) → W p l e R s m args below meth c H locs cells slots Q (F0 m pc ls st0)) : W p l e R s m args below meth c H locs cells slots Q (F0 m pc ls st0) := f fun v hv => by rw [hv]; exact k
/-- a callee's start -/
theorem wt_PS {As : List Value} : PreS s H (va_Pc As (fun _ => True)) As := ⟨fun _ _ _ _ q => q, fun _ _ _ => ⟨rfl, trivial⟩⟩
theorem wt_PV {wH wc : va_W} {b : Nat} {As : List Value} {C : String} {T : u_T} {N ci q0 : Nat} {fs : List Value} (hK : va_K D vwCl [(cI, .int)] s) (hP : va_P D vwCl wH H) (hN : wt_nst s) (hc : vwCl[ci]? = some (C, T, N)) (he : wH[q0]? = some (b, .inr (ci, fs))) (is : List Nat) (his : is.filterMap (fun i => wH[i]?) = wc) : PreV s H C b (va_Pc (.ref b :: As) (wt_pre D cI wc)) As :=
  ⟨fun _ _ _ _ q => ⟨q.1, wt_pre_blind q.2⟩, va_recv hK hP hc he, fun _ hU hW => ⟨rfl, wt_pre_at hK (hP.sub is his) hN hU hW⟩⟩
theorem wt_pm_at {wH wc : va_W} (hK : va_K D vwCl [(cI, .int)] s) (hP : va_P D vwCl wH H) (hN : wt_nst s) (hD : va_D A wH) (is : List Nat) (hC : is.map (fun i => wH[i]?) = wc.map some) (hn : va_nd is = true) {U : State} (hU : U.heap = H) (hW : s.WarmedH U.vm) : wt_pm D cI wc H.size U :=
  ⟨by rw [hU], wt_pre_at hK (hP.sub is (wt_fm _ _ _ hC)) hN hU hW, (hD.sub is hn hC).weaken (fun _ _ _ _ => trivial)⟩
theorem wt_PVM {wH wc : va_W} {b : Nat} {As : List Value} {C : String} {T : u_T} {N ci q0 : Nat} {fs : List Value} (hK : va_K D vwCl [(cI, .int)] s) (hP : va_P D vwCl wH H) (hN : wt_nst s) (hD : va_D A wH) (hc : vwCl[ci]? = some (C, T, N)) (he : wH[q0]? = some (b, .inr (ci, fs))) (is : List Nat) (hC : is.map (fun i => wH[i]?) = wc.map some) (hn : va_nd is = true) : PreV s H C b (va_Pc (.ref b :: As) (wt_pm D cI wc H.size)) As :=
  ⟨fun _ _ _ _ q => ⟨q.1, wt_pm_blind q.2⟩, va_recv hK hP hc he, fun _ hU hW => ⟨rfl, wt_pm_at hK hP hN hD is hC hn hU hW⟩⟩
theorem wt_PI {wH wc : va_W} {b : Nat} {As : List Value} (hK : va_K D vwCl [(cI, .int)] s) (hP : va_P D vwCl wH H) (hN : wt_nst s) (hD : va_D A wH) (is : List Nat) (hC : is.map (fun i => wH[i]?) = wc.map some) (hn : va_nd is = true) : PreS s H (va_Pc (.ref b :: As) (wt_pm D cI wc H.size)) (.ref b :: As) :=
  ⟨fun _ _ _ _ q => ⟨q.1, wt_pm_blind q.2⟩, fun _ hU hW => ⟨rfl, wt_pm_at hK hP hN hD is hC hn hU hW⟩⟩
/-- the end of a method that writes -/
theorem wt_mvret {w1 : va_W} (hexec : p.tables.exec = Jvm.exec) (hb : c.code = cc) (hr : meth.sig.returnType = none) (hP : va_P D vwCl w1 H) (hS : va_S A s.heap H locs) (hdg : decode cc pc = .ok (.return_, 1)) (hlocks : meth.locks = false) : W p l e R s m args below meth c H locs cells slots (MQ below (wt_mu none D w1 A) args s cells slots A) (F0 m pc ls []) :=
  W.vret hexec hb hr (fun t ht _ => ⟨rfl, by rw [ht]; exact hP, hS.F ht⟩) hS.2.2 hdg hlocks
theorem wt_miret {w1 : va_W} {v r : Int32} (hexec : p.tables.exec = Jvm.exec) (hb : c.code = cc) (hr : meth.sig.returnType = some .int) (hv : v = r) (hP : va_P D vwCl w1 H) (hS : va_S A s.heap H locs) (hdg : decode cc pc = .ok (.ireturn, 1)) (hlocks : meth.locks = false) : W p l e R s m args below meth c H locs cells slots (MQ below (wt_mu (some (.int r)) D w1 A) args s cells slots A) (F0 m pc ls [.int v]) :=
  W.iret hexec hb hr (fun t ht _ => ⟨by rw [hv], by rw [ht]; exact hP, hS.F ht⟩) hS.2.2 hdg hlocks
end WT1
end
section
/-! What the class's methods compute, as functions of their cells' contents -/
theorem wt_all_s {P : Nat → Prop} {i : Nat} (h : ∀ q, q < i → P q) (hi : P i) : ∀ q, q < i + 1 → P q := fun q hq => (Nat.lt_or_ge q i).elim (h q) (fun z => by rw [show q = i by omega]; exact hi)
def wt_bit (m : Int32) : Int32 := nI 1 <<< (m &&& 31)
def wt_has (s m : Int32) : Prop := ¬ m < 0 ∧ m < nI 32 ∧ ¬ (s &&& wt_bit m) = 0
noncomputable def wt_loss (x y : Int32) : Int32 := wt_if (x < y) (nI 2) (wt_if (x = y) (nI 1) (wt_if (x < nI 2 * y) (nI 1) (nI 0)))
-- the map
noncomputable def wt_nxt (fp fu : Nat → Int32) (x w : Int32) : Int32 := wt_if (vp_in x 10) (wt_if (w = nI 2) (nI 0) (wt_if (w = nI 1) (fp x.toNatClampNeg) (fp x.toNatClampNeg ||| fu x.toNatClampNeg))) (nI 0)
noncomputable def wt_wds (fp fu : Nat → Int32) (x w : Int32) (t : Nat) (a : Int32) : Int32 := wt_if (wt_has x (nI t)) (a ||| wt_nxt fp fu (nI t) w) a
noncomputable def wt_wid (fp fu : Nat → Int32) (x w : Int32) : Int32 := wt_fold (wt_wds fp fu x w) 10 x
def wt_jn (f : Nat → Int32) (a b : Nat) : Nat → Int32 := upd (upd f a (f a ||| wt_bit (nI b))) b (upd f a (f a ||| wt_bit (nI b)) b ||| wt_bit (nI a))
-- the units
noncomputable def wt_plT (ft : Nat → Int32) (k u : Nat) (t s : Int32) : Nat → Int32 := upd ft (k * 12 + u) (wt_if (0 < s) t (-1))
def wt_plF (ff : Nat → Int32) (k u : Nat) (s : Int32) : Nat → Int32 := upd ff (k * 12 + u) (wt_max s (nI 0))
noncomputable def wt_pl (p : (Nat → Int32) × (Nat → Int32)) (k u : Nat) (t s : Int32) : (Nat → Int32) × (Nat → Int32) := (wt_plT p.1 k u t s, wt_plF p.2 k u s)
noncomputable def wt_cps (fr to : Nat) (u : Nat) (p : (Nat → Int32) × (Nat → Int32)) : (Nat → Int32) × (Nat → Int32) := wt_pl p to u (p.1 (fr * 12 + u)) (p.2 (fr * 12 + u))
noncomputable def wt_dfs (ft ff : Nat → Int32) (k j : Nat) (u n : Nat) : Nat := wt_if (ft (k * 12 + u) = ft (j * 12 + u)) (wt_if (ff (k * 12 + u) = ff (j * 12 + u)) n (n + 1)) (n + 1)
noncomputable def wt_lvs (ft : Nat → Int32) (k : Nat) (u n : Nat) : Nat := wt_if (ft (k * 12 + u) = -1) n (n + 1)
noncomputable def wt_hs (fs ft : Nat → Int32) (k sd : Nat) (u : Nat) (a : Int32) : Int32 := wt_if (fs u = nI sd) (wt_if (ft (k * 12 + u) = -1) a (a ||| wt_bit (ft (k * 12 + u)))) a
noncomputable def wt_held (fs ft : Nat → Int32) (k sd cn : Nat) : Int32 := wt_fold (wt_hs fs ft k sd) cn (nI 0)
-- a turn
noncomputable def wt_sup (fd fp fu fs ft : Nat → Int32) (cn k sd : Nat) (w : Int32) (r : Nat) : Int32 := wt_fold (fun _ t => wt_wid fp fu t w &&& (wt_held fs ft k (1 - sd) cn ^^^ (-1))) r (wt_bit (fd sd) &&& (wt_held fs ft k (1 - sd) cn ^^^ (-1)))
noncomputable def wt_sus (x y : Int32) (fs ft : Nat → Int32) (k : Nat) (u : Nat) (a : Int32) : Int32 := wt_if (fs u = 0) (wt_if (wt_has x (ft (k * 12 + u))) (a ||| wt_bit (nI u)) a) (wt_if (wt_has y (ft (k * 12 + u))) (a ||| wt_bit (nI u)) a)
noncomputable def wt_sun (fd fp fu fs ft : Nat → Int32) (cn k : Nat) (w : Int32) : Int32 := wt_fold (wt_sus (wt_sup fd fp fu fs ft cn k 0 w 4) (wt_sup fd fp fu fs ft cn k 1 w 4) fs ft k) cn (nI 0)
noncomputable def wt_gos (fp fu ft fo : Nat → Int32) (k : Nat) (w sp : Int32) (u : Nat) (a : Int32) : Int32 := wt_if (wt_has sp (nI u)) (wt_if (wt_has (wt_nxt fp fu (ft (k * 12 + u)) w) (fo (k * 12 + u) - nI 1)) (a ||| wt_bit (nI u)) a) a
noncomputable def wt_goe (fp fu ft fo : Nat → Int32) (cn k : Nat) (w sp : Int32) : Int32 := wt_fold (wt_gos fp fu ft fo k w sp) cn (nI 0)
def wt_met1 (fs ft fo : Nat → Int32) (k u : Nat) (go : Int32) (q : Nat) : Prop := wt_has go (nI q) ∧ ¬ fs q = fs u ∧ ft (k * 12 + q) = fo (k * 12 + u) - nI 1 ∧ fo (k * 12 + q) - nI 1 = ft (k * 12 + u)
def wt_met (fs ft fo : Nat → Int32) (cn k u : Nat) (go : Int32) : Prop := ∃ q : Nat, q < cn ∧ wt_met1 fs ft fo k u go q
noncomputable def wt_mrs (fs fo : Nat → Int32) (cn k : Nat) (go : Int32) (u : Nat) (p : (Nat → Int32) × (Nat → Int32)) : (Nat → Int32) × (Nat → Int32) := wt_if (wt_has go (nI u)) (wt_if (wt_met fs p.1 fo cn k u go) (wt_pl p (k + 1) u (p.1 (k * 12 + u)) (p.2 (k * 12 + u))) (wt_pl p (k + 1) u (fo (k * 12 + u) - nI 1) (p.2 (k * 12 + u)))) (wt_pl p (k + 1) u (p.1 (k * 12 + u)) (p.2 (k * 12 + u)))
noncomputable def wt_mar (fs fo : Nat → Int32) (cn k : Nat) (go : Int32) (p : (Nat → Int32) × (Nat → Int32)) : (Nat → Int32) × (Nat → Int32) := wt_fold (wt_mrs fs fo cn k go) cn p
noncomputable def wt_sms (fs ft ff : Nat → Int32) (k t sd : Nat) (sp : Int32) (u : Nat) (a : Int32) : Int32 := wt_if (fs u = nI sd) (wt_if (ft (k * 12 + u) = nI t) (wt_if (wt_has sp (nI u)) (a + ff (k * 12 + u)) (a + ff (k * 12 + u) / nI 2)) a) a
noncomputable def wt_sum (fs ft ff : Nat → Int32) (cn k t sd : Nat) (sp : Int32) : Int32 := wt_fold (wt_sms fs ft ff k t sd sp) cn (nI 0)
noncomputable def wt_fts (fs : Nat → Int32) (k t : Nat) (x y : Int32) (u : Nat) (p : (Nat → Int32) × (Nat → Int32)) : (Nat → Int32) × (Nat → Int32) := wt_if (p.1 (k * 12 + u) = nI t) (wt_if (fs u = 0) (wt_pl p k u (nI t) (p.2 (k * 12 + u) - wt_loss x y)) (wt_pl p k u (nI t) (p.2 (k * 12 + u) - wt_loss y x))) p
noncomputable def wt_fgt (fs : Nat → Int32) (cn k t : Nat) (sp : Int32) (p : (Nat → Int32) × (Nat → Int32)) : (Nat → Int32) × (Nat → Int32) := wt_fold (wt_fts fs k t (wt_sum fs p.1 p.2 cn k t 0 sp) (wt_sum fs p.1 p.2 cn k t 1 sp)) cn p
noncomputable def wt_fes (fs : Nat → Int32) (cn k : Nat) (sp ct : Int32) (t : Nat) (p : (Nat → Int32) × (Nat → Int32)) : (Nat → Int32) × (Nat → Int32) := wt_if (wt_has ct (nI t)) (wt_fgt fs cn k t sp p) p
noncomputable def wt_fev (fs : Nat → Int32) (cn k : Nat) (sp : Int32) (p : (Nat → Int32) × (Nat → Int32)) : (Nat → Int32) × (Nat → Int32) := wt_fold (wt_fes fs cn k sp (wt_held fs p.1 k 0 cn &&& wt_held fs p.1 k 1 cn)) 10 p
noncomputable def wt_sig (fp fu fs ft : Nat → Int32) (cn k : Nat) : Int32 := wt_fold (wt_sus (wt_wid fp fu (wt_held fs ft k 1 cn) (nI 0)) (wt_wid fp fu (wt_held fs ft k 0 cn) (nI 0)) fs ft k) cn (nI 0)
/-- towns, strengths and sight behind turn t -/
noncomputable def wt_tr2 (fd fp fu fs fo : Nat → Int32) (cn : Nat) (t : Nat) (w : Int32) (p : (Nat → Int32) × (Nat → Int32)) : (Nat → Int32) × (Nat → Int32) := wt_fev fs cn (t + 1) (wt_sun fd fp fu fs p.1 cn t w) (wt_mar fs fo cn t (wt_goe fp fu p.1 fo cn t w (wt_sun fd fp fu fs p.1 cn t w)) p)
noncomputable def wt_trn (fd fw fp fu fs fo : Nat → Int32) (cn f : Nat) (j : Nat) (q : ((Nat → Int32) × (Nat → Int32)) × (Nat → Int32)) : ((Nat → Int32) × (Nat → Int32)) × (Nat → Int32) := (wt_tr2 fd fp fu fs fo cn (f + j) (fw (f + j)) q.1, upd q.2 (f + j) (wt_sig fp fu fs (wt_tr2 fd fp fu fs fo cn (f + j) (fw (f + j)) q.1).1 cn (f + j + 1)))
theorem wt_max_0 {f : Nat} (h : f < 2 ^ 31) : wt_max (nI f) (nI 0) = nI f := by
  unfold wt_max
  exact if_neg (nI_nlt (Nat.zero_le f) h)
theorem wt_in_lt {x : Int32} {b : Nat} (hb : b < 2 ^ 31) (h0 : ¬ x < 0) (h : x < nI b) : vp_in x b := by
  obtain ⟨j, hj, rfl⟩ := nI_of h0
  exact vp_in_nI ((nI_ltI hj hb).mp h) hb
theorem wt_in_ge {x : Int32} {b : Nat} (hb : b < 2 ^ 31) (h : ¬ x < nI b) : ¬ vp_in x b := by
  intro q
  obtain ⟨j, hj, rfl⟩ := vp_in_of q hb
  exact h (nI_lt hj hb)
theorem wt_eta {α β : Type} (p : α × β) : (p.1, p.2) = p := rfl
end
section
set_option maxHeartbeats 4000000 in
set_option maxRecDepth 100000 in
theorem k_X3_belowN (l : Launch) (a : Nat) (b : Nat) (ha : a < 2 ^ 31) (hb2 : b < 2 ^ 31) : Met l yX3_below wsX3_below ({ frames := 0, cells := 0, slots := 0, locals := 0 }) (va_Pc [.int (nI a), .int (nI b)] (fun _ => True)) (wt_ro (wt_b (a < b))) 0 0 wt_no := by
  refine Met.ofW (cc := cX3_below) (maxL := 2) (ret := (some .boolean)) (by decide) rfl ?_
  intro p e s m args below meth c s₁ B hml hv
  obtain ⟨rfl, -⟩ := hv
  have hx := B.exec
  have hb := B.bytes
  have hr := B.returns
  have hts := atoms_spec (ws := wsX3_below) B.pre
  have hown : s.vm.findClass RX3 = some m.cls := findClass_of_methodNamed B.named
  have hlocks := B.notSynchronized
  have hl := lv_entry ([.int (nI a), .int (nI b)]) (n := 2) (Nat.le_of_ble_eq_true rfl)
  rw [lg_entry_eq]
  generalize (lg_sl ([.int (nI a), .int (nI b)]) ++ List.replicate (2 - (lg_sl ([.int (nI a), .int (nI b)])).length) Slot.unset).toArray = ls at hl ⊢
  have hl : lv_has ls 2 [(0, .int (nI a)), (1, .int (nI b))] := hl
  refine lv_iload_n hx hb dX3_below_0 rfl (lv_at hl 0 rfl) ?_
  refine wt_if_lt (tgt := 13) hx hb (by omega) dX3_below_1 (by decide) ?_
  refine lv_iload_n hx hb dX3_below_4 rfl (lv_at hl 0 rfl) ?_
  refine lv_iload_n hx hb dX3_below_5 rfl (lv_at hl 1 rfl) ?_
  refine wt_icmp_ge (tgt := 13) hx hb (by omega) (by omega) dX3_below_6 (by decide) (fun c_6_1 => ?_) (fun c_6_1 => ?_)
  · refine lv_iconst (v := nI 0) hx hb dX3_below_13 (by decide +kernel) ?_
    exact wt_retz hx hb hr (by first | exact wt_bt1 (by omega) | exact wt_bf0 (by omega)) rfl dX3_below_14 hlocks
  · refine lv_iconst (v := nI 1) hx hb dX3_below_9 (by decide +kernel) ?_
    refine lv_goto (tgt := 14) hx hb dX3_below_10 (by decide) ?_
    exact wt_retz hx hb hr (by first | exact wt_bt1 (by omega) | exact wt_bf0 (by omega)) rfl dX3_below_14 hlocks
set_option maxHeartbeats 4000000 in
set_option maxRecDepth 100000 in
theorem k_X3_belowI (l : Launch) (x : Int32) (b : Nat) (hb2 : b < 2 ^ 31) : Met l yX3_below wsX3_below ({ frames := 0, cells := 0, slots := 0, locals := 0 }) (va_Pc [.int x, .int (nI b)] (fun _ => True)) (wt_ro (wt_b (vp_in x b))) 0 0 wt_no := by
  refine Met.ofW (cc := cX3_below) (maxL := 2) (ret := (some .boolean)) (by decide) rfl ?_
  intro p e s m args below meth c s₁ B hml hv
  obtain ⟨rfl, -⟩ := hv
  have hx := B.exec
  have hb := B.bytes
  have hr := B.returns
  have hts := atoms_spec (ws := wsX3_below) B.pre
  have hown : s.vm.findClass RX3 = some m.cls := findClass_of_methodNamed B.named
  have hlocks := B.notSynchronized
  have hl := lv_entry ([.int x, .int (nI b)]) (n := 2) (Nat.le_of_ble_eq_true rfl)
  rw [lg_entry_eq]
  generalize (lg_sl ([.int x, .int (nI b)]) ++ List.replicate (2 - (lg_sl ([.int x, .int (nI b)])).length) Slot.unset).toArray = ls at hl ⊢
  have hl : lv_has ls 2 [(0, .int x), (1, .int (nI b))] := hl
  refine lv_iload_n hx hb dX3_below_0 rfl (lv_at hl 0 rfl) ?_
  refine wt_if_ltI (tgt := 13) hx hb dX3_below_1 (by decide) (fun c_1_1 => ?_) (fun c_1_1 => ?_)
  · refine lv_iconst (v := nI 0) hx hb dX3_below_13 (by decide +kernel) ?_
    exact wt_retz hx hb hr (by first | exact wt_bt1 (wt_in_lt hb2 (by assumption) (by assumption)) | exact wt_bf0 (fun q => q (Or.inl (by assumption))) | exact wt_bf0 (wt_in_ge hb2 (by assumption))) rfl dX3_below_14 hlocks
  · refine lv_iload_n hx hb dX3_below_4 rfl (lv_at hl 0 rfl) ?_
    refine lv_iload_n hx hb dX3_below_5 rfl (lv_at hl 1 rfl) ?_
    refine wt_icmp_geI (tgt := 13) hx hb dX3_below_6 (by decide) (fun c_6_2 => ?_) (fun c_6_2 => ?_)
    · refine lv_iconst (v := nI 0) hx hb dX3_below_13 (by decide +kernel) ?_
      exact wt_retz hx hb hr (by first | exact wt_bt1 (wt_in_lt hb2 (by assumption) (by assumption)) | exact wt_bf0 (fun q => q (Or.inl (by assumption))) | exact wt_bf0 (wt_in_ge hb2 (by assumption))) rfl dX3_below_14 hlocks
    · refine lv_iconst (v := nI 1) hx hb dX3_below_9 (by decide +kernel) ?_
      refine lv_goto (tgt := 14) hx hb dX3_below_10 (by decide) ?_
      exact wt_retz hx hb hr (by first | exact wt_bt1 (wt_in_lt hb2 (by assumption) (by assumption)) | exact wt_bf0 (fun q => q (Or.inl (by assumption))) | exact wt_bf0 (wt_in_ge hb2 (by assumption))) rfl dX3_below_14 hlocks
set_option maxHeartbeats 4000000 in
set_option maxRecDepth 100000 in
theorem k_X3_opponent (l : Launch) (a : Nat) (ha : a ≤ 1) : Met l yX3_opponent wsX3_opponent ({ frames := 0, cells := 0, slots := 0, locals := 0 }) (va_Pc [.int (nI a)] (fun _ => True)) (wt_ro (nI (1 - a))) 0 0 wt_no := by
  refine Met.ofW (cc := cX3_opponent) (maxL := 1) (ret := (some .int)) (by decide) rfl ?_
  intro p e s m args below meth c s₁ B hml hv
  obtain ⟨rfl, -⟩ := hv
  have hx := B.exec
  have hb := B.bytes
  have hr := B.returns
  have hts := atoms_spec (ws := wsX3_opponent) B.pre
  have hown : s.vm.findClass RX3 = some m.cls := findClass_of_methodNamed B.named
  have hlocks := B.notSynchronized
  have hl := lv_entry ([.int (nI a)]) (n := 1) (Nat.le_of_ble_eq_true rfl)
  rw [lg_entry_eq]
  generalize (lg_sl ([.int (nI a)]) ++ List.replicate (1 - (lg_sl ([.int (nI a)])).length) Slot.unset).toArray = ls at hl ⊢
  have hl : lv_has ls 1 [(0, .int (nI a))] := hl
  refine lv_iconst (v := nI 1) hx hb dX3_opponent_0 (by decide +kernel) ?_
  refine lv_iload_n hx hb dX3_opponent_1 rfl (lv_at hl 0 rfl) ?_
  refine wt_isub hx hb (by omega) dX3_opponent_2 ?_
  exact wt_ret hx hb hr rfl rfl dX3_opponent_3 hlocks
set_option maxHeartbeats 4000000 in
set_option maxRecDepth 100000 in
theorem k_X3_bit (l : Launch) (x : Int32) : Met l yX3_bit wsX3_bit ({ frames := 0, cells := 0, slots := 0, locals := 0 }) (va_Pc [.int x] (fun _ => True)) (wt_ro (wt_bit x)) 0 0 wt_no := by
  refine Met.ofW (cc := cX3_bit) (maxL := 1) (ret := (some .int)) (by decide) rfl ?_
  intro p e s m args below meth c s₁ B hml hv
  obtain ⟨rfl, -⟩ := hv
  have hx := B.exec
  have hb := B.bytes
  have hr := B.returns
  have hts := atoms_spec (ws := wsX3_bit) B.pre
  have hown : s.vm.findClass RX3 = some m.cls := findClass_of_methodNamed B.named
  have hlocks := B.notSynchronized
  have hl := lv_entry ([.int x]) (n := 1) (Nat.le_of_ble_eq_true rfl)
  rw [lg_entry_eq]
  generalize (lg_sl ([.int x]) ++ List.replicate (1 - (lg_sl ([.int x])).length) Slot.unset).toArray = ls at hl ⊢
  have hl : lv_has ls 1 [(0, .int x)] := hl
  refine lv_iconst (v := nI 1) hx hb dX3_bit_0 (by decide +kernel) ?_
  refine lv_iload_n hx hb dX3_bit_1 rfl (lv_at hl 0 rfl) ?_
  refine lv_ishl hx hb dX3_bit_2 ?_
  exact wt_ret hx hb hr rfl rfl dX3_bit_3 hlocks
set_option maxHeartbeats 4000000 in
set_option maxRecDepth 100000 in
theorem k_X3_has (l : Launch) (x : Int32) (y : Int32) : Met l yX3_has wsX3_has ({ frames := 1, cells := 0, slots := 0, locals := 20 }) (va_Pc [.int x, .int y] (fun _ => True)) (wt_ro (wt_b (wt_has x y))) 0 0 wt_no := by
  refine Met.ofW (cc := cX3_has) (maxL := 2) (ret := (some .boolean)) (by decide) rfl ?_
  intro p e s m args below meth c s₁ B hml hv
  obtain ⟨rfl, -⟩ := hv
  have hx := B.exec
  have hb := B.bytes
  have hr := B.returns
  have hts := atoms_spec (ws := wsX3_has) B.pre
  have hown : s.vm.findClass RX3 = some m.cls := findClass_of_methodNamed B.named
  have hlocks := B.notSynchronized
  have hl := lv_entry ([.int x, .int y]) (n := 2) (Nat.le_of_ble_eq_true rfl)
  rw [lg_entry_eq]
  generalize (lg_sl ([.int x, .int y]) ++ List.replicate (2 - (lg_sl ([.int x, .int y])).length) Slot.unset).toArray = ls at hl ⊢
  have hl : lv_has ls 2 [(0, .int x), (1, .int y)] := hl
  refine lv_iload_n hx hb dX3_has_0 rfl (lv_at hl 1 rfl) ?_
  refine wt_if_ltI (tgt := 23) hx hb dX3_has_1 (by decide) (fun c_1_1 => ?_) (fun c_1_1 => ?_)
  · refine lv_iconst (v := nI 0) hx hb dX3_has_23 (by decide +kernel) ?_
    exact wt_retz hx hb hr (wt_bf0 (by simp [c_1_1, wt_has])) rfl dX3_has_24 hlocks
  · refine lv_iload_n hx hb dX3_has_4 rfl (lv_at hl 1 rfl) ?_
    refine lv_bipush (v := nI 32) hx hb dX3_has_5 (by decide +kernel) ?_
    refine wt_icmp_geI (tgt := 23) hx hb dX3_has_7 (by decide) (fun c_7_2 => ?_) (fun c_7_2 => ?_)
    · refine lv_iconst (v := nI 0) hx hb dX3_has_23 (by decide +kernel) ?_
      exact wt_retz hx hb hr (wt_bf0 (by simp [c_1_1, c_7_2, wt_has])) rfl dX3_has_24 hlocks
    · refine lv_iload_n hx hb dX3_has_10 rfl (lv_at hl 0 rfl) ?_
      refine lv_iload_n hx hb dX3_has_11 rfl (lv_at hl 1 rfl) ?_
      refine wt_ro_go (va_runS (As := [.int y]) (rest := [.int x]) ⟨hx, hb, hml, hown, hts⟩ (k_X3_bit l y) (va_cwS 1 hts gX3_has_X3_bit rfl rfl rfl (by decide +kernel) ⟨Nat.le_of_ble_eq_true rfl, Nat.le_of_ble_eq_true rfl⟩) wt_PS rfl rfl hl.1 rfl (lv_room (Nat.le_of_ble_eq_true rfl)) dX3_has_12 ⟨Nat.zero_le _, Nat.zero_le _⟩) ?_
      refine lv_iand hx hb dX3_has_15 ?_
      refine wt_if_eqI (tgt := 23) hx hb dX3_has_16 (by decide) (fun c_16_3 => ?_) (fun c_16_3 => ?_)
      · refine lv_iconst (v := nI 0) hx hb dX3_has_23 (by decide +kernel) ?_
        exact wt_retz hx hb hr (wt_bf0 (by simp [c_1_1, c_7_2, c_16_3, wt_has])) rfl dX3_has_24 hlocks
      · refine lv_iconst (v := nI 1) hx hb dX3_has_19 (by decide +kernel) ?_
        refine lv_goto (tgt := 24) hx hb dX3_has_20 (by decide) ?_
        exact wt_retz hx hb hr (wt_bt1 (by simp [c_1_1, c_7_2, c_16_3, wt_has])) rfl dX3_has_24 hlocks
set_option maxHeartbeats 4000000 in
set_option maxRecDepth 100000 in
theorem k_X3_loss (l : Launch) (x : Int32) (y : Int32) : Met l yX3_loss wsX3_loss ({ frames := 0, cells := 0, slots := 0, locals := 0 }) (va_Pc [.int x, .int y] (fun _ => True)) (wt_ro (wt_loss x y)) 0 0 wt_no := by
  refine Met.ofW (cc := cX3_loss) (maxL := 2) (ret := (some .int)) (by decide) rfl ?_
  intro p e s m args below meth c s₁ B hml hv
  obtain ⟨rfl, -⟩ := hv
  have hx := B.exec
  have hb := B.bytes
  have hr := B.returns
  have hts := atoms_spec (ws := wsX3_loss) B.pre
  have hown : s.vm.findClass RX3 = some m.cls := findClass_of_methodNamed B.named
  have hlocks := B.notSynchronized
  have hl := lv_entry ([.int x, .int y]) (n := 2) (Nat.le_of_ble_eq_true rfl)
  rw [lg_entry_eq]
  generalize (lg_sl ([.int x, .int y]) ++ List.replicate (2 - (lg_sl ([.int x, .int y])).length) Slot.unset).toArray = ls at hl ⊢
  have hl : lv_has ls 2 [(0, .int x), (1, .int y)] := hl
  refine lv_iload_n hx hb dX3_loss_0 rfl (lv_at hl 0 rfl) ?_
  refine lv_iload_n hx hb dX3_loss_1 rfl (lv_at hl 1 rfl) ?_
  refine wt_icmp_geI (tgt := 7) hx hb dX3_loss_2 (by decide) (fun c_2_1 => ?_) (fun c_2_1 => ?_)
  · refine lv_iload_n hx hb dX3_loss_7 rfl (lv_at hl 0 rfl) ?_
    refine lv_iload_n hx hb dX3_loss_8 rfl (lv_at hl 1 rfl) ?_
    refine wt_icmp_neI (tgt := 14) hx hb dX3_loss_9 (by decide) (fun c_9_2 => ?_) (fun c_9_2 => ?_)
    · refine lv_iconst (v := nI 2) hx hb dX3_loss_14 (by decide +kernel) ?_
      refine lv_iload_n hx hb dX3_loss_15 rfl (lv_at hl 1 rfl) ?_
      refine lv_imul hx hb dX3_loss_16 ?_
      refine lv_iload_n hx hb dX3_loss_17 rfl (lv_at hl 0 rfl) ?_
      refine wt_icmp_leI (tgt := 25) hx hb dX3_loss_18 (by decide) (fun c_18_3 => ?_) (fun c_18_3 => ?_)
      · refine lv_iconst (v := nI 0) hx hb dX3_loss_25 (by decide +kernel) ?_
        exact wt_ret hx hb hr (by simp only [wt_fold_s, wt_loss, wt_if_f c_2_1, wt_if_f c_9_2, wt_if_f c_18_3]) rfl dX3_loss_26 hlocks
      · refine lv_iconst (v := nI 1) hx hb dX3_loss_21 (by decide +kernel) ?_
        refine lv_goto (tgt := 26) hx hb dX3_loss_22 (by decide) ?_
        exact wt_ret hx hb hr (by simp only [wt_fold_s, wt_loss, wt_if_f c_2_1, wt_if_f c_9_2, wt_if_t c_18_3]) rfl dX3_loss_26 hlocks
    · refine lv_iconst (v := nI 1) hx hb dX3_loss_12 (by decide +kernel) ?_
      exact wt_ret hx hb hr (by simp only [wt_fold_s, wt_loss, wt_if_f c_2_1, wt_if_t c_9_2]) rfl dX3_loss_13 hlocks
  · refine lv_iconst (v := nI 2) hx hb dX3_loss_5 (by decide +kernel) ?_
    exact wt_ret hx hb hr (by simp only [wt_fold_s, wt_loss, wt_if_t c_2_1]) rfl dX3_loss_6 hlocks
set_option maxHeartbeats 4000000 in
set_option maxRecDepth 100000 in
theorem k_X2_isKept (l : Launch) (k : Nat) (u : Nat) (hk : k < 2 ^ 31) (hu2 : u < 2 ^ 31) : Met l yX2_isKept wsX2_isKept ({ frames := 0, cells := 0, slots := 0, locals := 0 }) (va_Pc [.int (nI k), .int (nI u)] (fun _ => True)) (wt_ro (wt_b (k < 22 ∧ u < 12))) 0 0 wt_no := by
  refine Met.ofW (cc := cX2_isKept) (maxL := 2) (ret := (some .boolean)) (by decide) rfl ?_
  intro p e s m args below meth c s₁ B hml hv
  obtain ⟨rfl, -⟩ := hv
  have hx := B.exec
  have hb := B.bytes
  have hr := B.returns
  have hts := atoms_spec (ws := wsX2_isKept) B.pre
  have hown : s.vm.findClass RX2 = some m.cls := findClass_of_methodNamed B.named
  have hlocks := B.notSynchronized
  have hl := lv_entry ([.int (nI k), .int (nI u)]) (n := 2) (Nat.le_of_ble_eq_true rfl)
  rw [lg_entry_eq]
  generalize (lg_sl ([.int (nI k), .int (nI u)]) ++ List.replicate (2 - (lg_sl ([.int (nI k), .int (nI u)])).length) Slot.unset).toArray = ls at hl ⊢
  have hl : lv_has ls 2 [(0, .int (nI k)), (1, .int (nI u))] := hl
  refine lv_iload_n hx hb dX2_isKept_0 rfl (lv_at hl 0 rfl) ?_
  refine wt_if_lt (tgt := 24) hx hb (by omega) dX2_isKept_1 (by decide) ?_
  refine lv_iload_n hx hb dX2_isKept_4 rfl (lv_at hl 0 rfl) ?_
  refine lv_bipush (v := nI 22) hx hb dX2_isKept_5 (by decide +kernel) ?_
  refine wt_icmp_ge (tgt := 24) hx hb (by omega) (by omega) dX2_isKept_7 (by decide) (fun c_7_1 => ?_) (fun c_7_1 => ?_)
  · refine lv_iconst (v := nI 0) hx hb dX2_isKept_24 (by decide +kernel) ?_
    exact wt_retz hx hb hr (by first | exact wt_bt1 (by omega) | exact wt_bf0 (by omega)) rfl dX2_isKept_25 hlocks
  · refine lv_iload_n hx hb dX2_isKept_10 rfl (lv_at hl 1 rfl) ?_
    refine wt_if_lt (tgt := 24) hx hb (by omega) dX2_isKept_11 (by decide) ?_
    refine lv_iload_n hx hb dX2_isKept_14 rfl (lv_at hl 1 rfl) ?_
    refine lv_bipush (v := nI 12) hx hb dX2_isKept_15 (by decide +kernel) ?_
    refine wt_icmp_ge (tgt := 24) hx hb (by omega) (by omega) dX2_isKept_17 (by decide) (fun c_17_2 => ?_) (fun c_17_2 => ?_)
    · refine lv_iconst (v := nI 0) hx hb dX2_isKept_24 (by decide +kernel) ?_
      exact wt_retz hx hb hr (by first | exact wt_bt1 (by omega) | exact wt_bf0 (by omega)) rfl dX2_isKept_25 hlocks
    · refine lv_iconst (v := nI 1) hx hb dX2_isKept_20 (by decide +kernel) ?_
      refine lv_goto (tgt := 25) hx hb dX2_isKept_21 (by decide) ?_
      exact wt_retz hx hb hr (by first | exact wt_bt1 (by omega) | exact wt_bf0 (by omega)) rfl dX2_isKept_25 hlocks
set_option maxHeartbeats 4000000 in
set_option maxRecDepth 100000 in
theorem k_X2_index (l : Launch) (k : Nat) (u : Nat) : Met l yX2_index wsX2_index ({ frames := 0, cells := 0, slots := 0, locals := 0 }) (va_Pc [.int (nI k), .int (nI u)] (fun _ => True)) (wt_ro (nI (k * 12 + u))) 0 0 wt_no := by
  refine Met.ofW (cc := cX2_index) (maxL := 2) (ret := (some .int)) (by decide) rfl ?_
  intro p e s m args below meth c s₁ B hml hv
  obtain ⟨rfl, -⟩ := hv
  have hx := B.exec
  have hb := B.bytes
  have hr := B.returns
  have hts := atoms_spec (ws := wsX2_index) B.pre
  have hown : s.vm.findClass RX2 = some m.cls := findClass_of_methodNamed B.named
  have hlocks := B.notSynchronized
  have hl := lv_entry ([.int (nI k), .int (nI u)]) (n := 2) (Nat.le_of_ble_eq_true rfl)
  rw [lg_entry_eq]
  generalize (lg_sl ([.int (nI k), .int (nI u)]) ++ List.replicate (2 - (lg_sl ([.int (nI k), .int (nI u)])).length) Slot.unset).toArray = ls at hl ⊢
  have hl : lv_has ls 2 [(0, .int (nI k)), (1, .int (nI u))] := hl
  refine lv_iload_n hx hb dX2_index_0 rfl (lv_at hl 0 rfl) ?_
  refine lv_bipush (v := nI 12) hx hb dX2_index_1 (by decide +kernel) ?_
  refine wt_imul hx hb dX2_index_3 ?_
  refine lv_iload_n hx hb dX2_index_4 rfl (lv_at hl 1 rfl) ?_
  refine wt_iadd hx hb dX2_index_5 ?_
  exact wt_ret hx hb hr rfl rfl dX2_index_6 hlocks
end
section
set_option maxHeartbeats 4000000 in
set_option maxRecDepth 100000 in
theorem k_X2_count (l : Launch) (dC : Nat → ClassId) (dI : Nat → Nat → Nat) (cI : ClassId) (hu : Nat) (sd : Nat) (tw : Nat) (st : Nat) (od : Nat) (fs : Nat → Int32) (ft : Nat → Int32) (ff : Nat → Int32) (fo : Nat → Int32) (cn : Nat) : Met l yX2_count wsX2_count ({ frames := 0, cells := 0, slots := 0, locals := 0 }) (va_Pc [.ref hu] (wt_pre (dC, dI) cI [(hu, .inr (2, [.ref sd, .ref tw, .ref st, .ref od, .int (nI cn)])), (sd, .inl (cI, 12, .inl fs)), (tw, .inl (cI, 264, .inl ft)), (st, .inl (cI, 264, .inl ff)), (od, .inl (cI, 264, .inl fo))])) (wt_ro (nI cn)) 0 0 wt_no := by
  refine Met.ofW (cc := cX2_count) (maxL := 1) (ret := (some .int)) (by decide) rfl ?_
  intro p e s m args below meth c s₁ B hml hv
  obtain ⟨rfl, hP, hK, hN⟩ := hv
  have hx := B.exec
  have hb := B.bytes
  have hr := B.returns
  have hts := atoms_spec (ws := wsX2_count) B.pre
  have hown : s.vm.findClass RX2 = some m.cls := findClass_of_methodNamed B.named
  have hlocks := B.notSynchronized
  have inX2 : ∀ w ∈ wsX20, w ∈ wsX2_count := wt_in [2, 3, 4, 5, 6] (by decide +kernel)
  have hl := lv_entry ([.ref hu]) (n := 1) (Nat.le_of_ble_eq_true rfl)
  rw [lg_entry_eq]
  generalize (lg_sl ([.ref hu]) ++ List.replicate (1 - (lg_sl ([.ref hu])).length) Slot.unset).toArray = ls at hl ⊢
  have hl : lv_has ls 1 [(0, .ref hu)] := hl
  refine lv_aload_n hx hb dX2_count_0 rfl (lv_at hl 0 rfl) ?_
  refine va_get (D := (dC, dI)) (ci := 2) (v := .int (nI cn)) (C := RX2) (T := TX2) (N := 5) hx hb hts inX2 hown hK hP 0 rfl rfl 4 (by decide) (hts (.fieldLink RX2 24 "WarTable$Units" "count" "I") (List.mem_of_getElem? (i := 1) rfl)) (fun _ h9 => h9) rfl dX2_count_1 ?_
  exact wt_ret hx hb hr rfl rfl dX2_count_4 hlocks
set_option maxHeartbeats 4000000 in
set_option maxRecDepth 100000 in
theorem k_X2_sideOf (l : Launch) (dC : Nat → ClassId) (dI : Nat → Nat → Nat) (cI : ClassId) (hu : Nat) (sd : Nat) (tw : Nat) (st : Nat) (od : Nat) (fs : Nat → Int32) (ft : Nat → Int32) (ff : Nat → Int32) (fo : Nat → Int32) (cn : Nat) (u : Nat) (hu2 : u < 12) : Met l yX2_sideOf wsX2_sideOf ({ frames := 1, cells := 0, slots := 0, locals := 21 }) (va_Pc [.ref hu, .int (nI u)] (wt_pre (dC, dI) cI [(hu, .inr (2, [.ref sd, .ref tw, .ref st, .ref od, .int (nI cn)])), (sd, .inl (cI, 12, .inl fs)), (tw, .inl (cI, 264, .inl ft)), (st, .inl (cI, 264, .inl ff)), (od, .inl (cI, 264, .inl fo))])) (wt_ro (fs u)) 0 0 wt_no := by
  refine Met.ofW (cc := cX2_sideOf) (maxL := 2) (ret := (some .int)) (by decide) rfl ?_
  intro p e s m args below meth c s₁ B hml hv
  obtain ⟨rfl, hP, hK, hN⟩ := hv
  have hx := B.exec
  have hb := B.bytes
  have hr := B.returns
  have hts := atoms_spec (ws := wsX2_sideOf) B.pre
  have hown : s.vm.findClass RX2 = some m.cls := findClass_of_methodNamed B.named
  have hlocks := B.notSynchronized
  have inX2 : ∀ w ∈ wsX20, w ∈ wsX2_sideOf := wt_in [5, 6, 7, 8, 9] (by decide +kernel)
  have hl := lv_entry ([.ref hu, .int (nI u)]) (n := 2) (Nat.le_of_ble_eq_true rfl)
  rw [lg_entry_eq]
  generalize (lg_sl ([.ref hu, .int (nI u)]) ++ List.replicate (2 - (lg_sl ([.ref hu, .int (nI u)])).length) Slot.unset).toArray = ls at hl ⊢
  have hl : lv_has ls 2 [(0, .ref hu), (1, .int (nI u))] := hl
  refine lv_iload_n hx hb dX2_sideOf_0 rfl (lv_at hl 1 rfl) ?_
  refine lv_bipush (v := nI 12) hx hb dX2_sideOf_1 (by decide +kernel) ?_
  refine wt_ro_go (va_runSN (As := [.int (nI u), .int (nI 12)]) (rest := []) ⟨hx, hb, hml, hown, hts⟩ (k_X3_belowN l u 12 (by omega) (by omega)) ⟨va_cnB (host := RX3) 2 hts gX2_sideOf_X3_below_n28 rfl rfl rfl (hN _ (List.mem_of_getElem? (i := 6) rfl)) (hts (.initialized RX3) (List.mem_of_getElem? (i := 3) rfl)) (by decide +kernel) ⟨Nat.le_of_ble_eq_true rfl, Nat.le_of_ble_eq_true rfl⟩, (hts (.static yX3_below) (List.mem_of_getElem? (i := 2) rfl)), trivial⟩ wt_PS rfl rfl hl.1 rfl (lv_room (Nat.le_of_ble_eq_true rfl)) dX2_sideOf_3 ⟨Nat.zero_le _, Nat.zero_le _⟩) ?_
  refine wt_if_eqB (tgt := 18) hx hb dX2_sideOf_6 (by decide) (fun c_6_1 => ?_) (fun c_6_1 => ?_)
  · exfalso; omega
  · refine lv_aload_n hx hb dX2_sideOf_9 rfl (lv_at hl 0 rfl) ?_
    refine va_get (D := (dC, dI)) (ci := 2) (v := .ref sd) (C := RX2) (T := TX2) (N := 5) hx hb hts inX2 hown hK hP 0 rfl rfl 0 (by decide) (hts (.fieldLink RX2 9 "WarTable$Units" "sides" "[I") (List.mem_of_getElem? (i := 1) rfl)) (fun _ h9 => h9) rfl dX2_sideOf_10 ?_
    refine lv_iload_n hx hb dX2_sideOf_13 rfl (lv_at hl 1 rfl) ?_
    refine wt_iald hx hb hK hP 1 rfl (by omega) (by omega) dX2_sideOf_14 ?_
    refine lv_goto (tgt := 19) hx hb dX2_sideOf_15 (by decide) ?_
    exact wt_ret hx hb hr rfl rfl dX2_sideOf_19 hlocks
set_option maxHeartbeats 4000000 in
set_option maxRecDepth 100000 in
theorem k_X2_townAt (l : Launch) (dC : Nat → ClassId) (dI : Nat → Nat → Nat) (cI : ClassId) (hu : Nat) (sd : Nat) (tw : Nat) (st : Nat) (od : Nat) (fs : Nat → Int32) (ft : Nat → Int32) (ff : Nat → Int32) (fo : Nat → Int32) (cn : Nat) (k : Nat) (u : Nat) (hk : k < 22) (hu2 : u < 12) : Met l yX2_townAt wsX2_townAt ({ frames := 1, cells := 0, slots := 0, locals := 21 }) (va_Pc [.ref hu, .int (nI k), .int (nI u)] (wt_pre (dC, dI) cI [(hu, .inr (2, [.ref sd, .ref tw, .ref st, .ref od, .int (nI cn)])), (sd, .inl (cI, 12, .inl fs)), (tw, .inl (cI, 264, .inl ft)), (st, .inl (cI, 264, .inl ff)), (od, .inl (cI, 264, .inl fo))])) (wt_ro (ft (k * 12 + u))) 0 0 wt_no := by
  refine Met.ofW (cc := cX2_townAt) (maxL := 3) (ret := (some .int)) (by decide) rfl ?_
  intro p e s m args below meth c s₁ B hml hv
  obtain ⟨rfl, hP, hK, hN⟩ := hv
  have hx := B.exec
  have hb := B.bytes
  have hr := B.returns
  have hts := atoms_spec (ws := wsX2_townAt) B.pre
  have hown : s.vm.findClass RX2 = some m.cls := findClass_of_methodNamed B.named
  have hlocks := B.notSynchronized
  have inX2 : ∀ w ∈ wsX20, w ∈ wsX2_townAt := wt_in [9, 10, 11, 12, 13] (by decide +kernel)
  have hl := lv_entry ([.ref hu, .int (nI k), .int (nI u)]) (n := 3) (Nat.le_of_ble_eq_true rfl)
  rw [lg_entry_eq]
  generalize (lg_sl ([.ref hu, .int (nI k), .int (nI u)]) ++ List.replicate (3 - (lg_sl ([.ref hu, .int (nI k), .int (nI u)])).length) Slot.unset).toArray = ls at hl ⊢
  have hl : lv_has ls 3 [(0, .ref hu), (1, .int (nI k)), (2, .int (nI u))] := hl
  refine lv_iload_n hx hb dX2_townAt_0 rfl (lv_at hl 1 rfl) ?_
  refine lv_iload_n hx hb dX2_townAt_1 rfl (lv_at hl 2 rfl) ?_
  refine wt_ro_go (va_runS (As := [.int (nI k), .int (nI u)]) (rest := []) ⟨hx, hb, hml, hown, hts⟩ (k_X2_isKept l k u (by omega) (by omega)) (va_cwS 2 hts gX2_townAt_X2_isKept rfl rfl rfl (by decide +kernel) ⟨Nat.le_of_ble_eq_true rfl, Nat.le_of_ble_eq_true rfl⟩) wt_PS rfl rfl hl.1 rfl (lv_room (Nat.le_of_ble_eq_true rfl)) dX2_townAt_2 ⟨Nat.zero_le _, Nat.zero_le _⟩) ?_
  refine wt_if_eqB (tgt := 21) hx hb dX2_townAt_5 (by decide) (fun c_5_1 => ?_) (fun c_5_1 => ?_)
  · exfalso; omega
  · refine lv_aload_n hx hb dX2_townAt_8 rfl (lv_at hl 0 rfl) ?_
    refine va_get (D := (dC, dI)) (ci := 2) (v := .ref tw) (C := RX2) (T := TX2) (N := 5) hx hb hts inX2 hown hK hP 0 rfl rfl 1 (by decide) (hts (.fieldLink RX2 15 "WarTable$Units" "towns" "[I") (List.mem_of_getElem? (i := 1) rfl)) (fun _ h9 => h9) rfl dX2_townAt_9 ?_
    refine lv_iload_n hx hb dX2_townAt_12 rfl (lv_at hl 1 rfl) ?_
    refine lv_iload_n hx hb dX2_townAt_13 rfl (lv_at hl 2 rfl) ?_
    refine wt_ro_go (va_runS (As := [.int (nI k), .int (nI u)]) (rest := [.ref tw]) ⟨hx, hb, hml, hown, hts⟩ (k_X2_index l k u) (va_cwS 2 hts gX2_townAt_X2_index rfl rfl rfl (by decide +kernel) ⟨Nat.le_of_ble_eq_true rfl, Nat.le_of_ble_eq_true rfl⟩) wt_PS rfl rfl hl.1 rfl (lv_room (Nat.le_of_ble_eq_true rfl)) dX2_townAt_14 ⟨Nat.zero_le _, Nat.zero_le _⟩) ?_
    refine wt_iald hx hb hK hP 2 rfl (by omega) (by omega) dX2_townAt_17 ?_
    refine lv_goto (tgt := 22) hx hb dX2_townAt_18 (by decide) ?_
    exact wt_ret hx hb hr rfl rfl dX2_townAt_22 hlocks
set_option maxHeartbeats 4000000 in
set_option maxRecDepth 100000 in
theorem k_X2_strengthAt (l : Launch) (dC : Nat → ClassId) (dI : Nat → Nat → Nat) (cI : ClassId) (hu : Nat) (sd : Nat) (tw : Nat) (st : Nat) (od : Nat) (fs : Nat → Int32) (ft : Nat → Int32) (ff : Nat → Int32) (fo : Nat → Int32) (cn : Nat) (k : Nat) (u : Nat) (hk : k < 22) (hu2 : u < 12) : Met l yX2_strengthAt wsX2_strengthAt ({ frames := 1, cells := 0, slots := 0, locals := 21 }) (va_Pc [.ref hu, .int (nI k), .int (nI u)] (wt_pre (dC, dI) cI [(hu, .inr (2, [.ref sd, .ref tw, .ref st, .ref od, .int (nI cn)])), (sd, .inl (cI, 12, .inl fs)), (tw, .inl (cI, 264, .inl ft)), (st, .inl (cI, 264, .inl ff)), (od, .inl (cI, 264, .inl fo))])) (wt_ro (ff (k * 12 + u))) 0 0 wt_no := by
  refine Met.ofW (cc := cX2_strengthAt) (maxL := 3) (ret := (some .int)) (by decide) rfl ?_
  intro p e s m args below meth c s₁ B hml hv
  obtain ⟨rfl, hP, hK, hN⟩ := hv
  have hx := B.exec
  have hb := B.bytes
  have hr := B.returns
  have hts := atoms_spec (ws := wsX2_strengthAt) B.pre
  have hown : s.vm.findClass RX2 = some m.cls := findClass_of_methodNamed B.named
  have hlocks := B.notSynchronized
  have inX2 : ∀ w ∈ wsX20, w ∈ wsX2_strengthAt := wt_in [9, 10, 11, 12, 13] (by decide +kernel)
  have hl := lv_entry ([.ref hu, .int (nI k), .int (nI u)]) (n := 3) (Nat.le_of_ble_eq_true rfl)
  rw [lg_entry_eq]
  generalize (lg_sl ([.ref hu, .int (nI k), .int (nI u)]) ++ List.replicate (3 - (lg_sl ([.ref hu, .int (nI k), .int (nI u)])).length) Slot.unset).toArray = ls at hl ⊢
  have hl : lv_has ls 3 [(0, .ref hu), (1, .int (nI k)), (2, .int (nI u))] := hl
  refine lv_iload_n hx hb dX2_strengthAt_0 rfl (lv_at hl 1 rfl) ?_
  refine lv_iload_n hx hb dX2_strengthAt_1 rfl (lv_at hl 2 rfl) ?_
  refine wt_ro_go (va_runS (As := [.int (nI k), .int (nI u)]) (rest := []) ⟨hx, hb, hml, hown, hts⟩ (k_X2_isKept l k u (by omega) (by omega)) (va_cwS 2 hts gX2_strengthAt_X2_isKept rfl rfl rfl (by decide +kernel) ⟨Nat.le_of_ble_eq_true rfl, Nat.le_of_ble_eq_true rfl⟩) wt_PS rfl rfl hl.1 rfl (lv_room (Nat.le_of_ble_eq_true rfl)) dX2_strengthAt_2 ⟨Nat.zero_le _, Nat.zero_le _⟩) ?_
  refine wt_if_eqB (tgt := 21) hx hb dX2_strengthAt_5 (by decide) (fun c_5_1 => ?_) (fun c_5_1 => ?_)
  · exfalso; omega
  · refine lv_aload_n hx hb dX2_strengthAt_8 rfl (lv_at hl 0 rfl) ?_
    refine va_get (D := (dC, dI)) (ci := 2) (v := .ref st) (C := RX2) (T := TX2) (N := 5) hx hb hts inX2 hown hK hP 0 rfl rfl 2 (by decide) (hts (.fieldLink RX2 18 "WarTable$Units" "strengths" "[I") (List.mem_of_getElem? (i := 1) rfl)) (fun _ h9 => h9) rfl dX2_strengthAt_9 ?_
    refine lv_iload_n hx hb dX2_strengthAt_12 rfl (lv_at hl 1 rfl) ?_
    refine lv_iload_n hx hb dX2_strengthAt_13 rfl (lv_at hl 2 rfl) ?_
    refine wt_ro_go (va_runS (As := [.int (nI k), .int (nI u)]) (rest := [.ref st]) ⟨hx, hb, hml, hown, hts⟩ (k_X2_index l k u) (va_cwS 2 hts gX2_strengthAt_X2_index rfl rfl rfl (by decide +kernel) ⟨Nat.le_of_ble_eq_true rfl, Nat.le_of_ble_eq_true rfl⟩) wt_PS rfl rfl hl.1 rfl (lv_room (Nat.le_of_ble_eq_true rfl)) dX2_strengthAt_14 ⟨Nat.zero_le _, Nat.zero_le _⟩) ?_
    refine wt_iald hx hb hK hP 3 rfl (by omega) (by omega) dX2_strengthAt_17 ?_
    refine lv_goto (tgt := 22) hx hb dX2_strengthAt_18 (by decide) ?_
    exact wt_ret hx hb hr rfl rfl dX2_strengthAt_22 hlocks
set_option maxHeartbeats 4000000 in
set_option maxRecDepth 100000 in
theorem k_X2_orderFor (l : Launch) (dC : Nat → ClassId) (dI : Nat → Nat → Nat) (cI : ClassId) (hu : Nat) (sd : Nat) (tw : Nat) (st : Nat) (od : Nat) (fs : Nat → Int32) (ft : Nat → Int32) (ff : Nat → Int32) (fo : Nat → Int32) (cn : Nat) (k : Nat) (u : Nat) (hk : k < 22) (hu2 : u < 12) : Met l yX2_orderFor wsX2_orderFor ({ frames := 1, cells := 0, slots := 0, locals := 21 }) (va_Pc [.ref hu, .int (nI k), .int (nI u)] (wt_pre (dC, dI) cI [(hu, .inr (2, [.ref sd, .ref tw, .ref st, .ref od, .int (nI cn)])), (sd, .inl (cI, 12, .inl fs)), (tw, .inl (cI, 264, .inl ft)), (st, .inl (cI, 264, .inl ff)), (od, .inl (cI, 264, .inl fo))])) (wt_ro (fo (k * 12 + u) - nI 1)) 0 0 wt_no := by
  refine Met.ofW (cc := cX2_orderFor) (maxL := 3) (ret := (some .int)) (by decide) rfl ?_
  intro p e s m args below meth c s₁ B hml hv
  obtain ⟨rfl, hP, hK, hN⟩ := hv
  have hx := B.exec
  have hb := B.bytes
  have hr := B.returns
  have hts := atoms_spec (ws := wsX2_orderFor) B.pre
  have hown : s.vm.findClass RX2 = some m.cls := findClass_of_methodNamed B.named
  have hlocks := B.notSynchronized
  have inX2 : ∀ w ∈ wsX20, w ∈ wsX2_orderFor := wt_in [9, 10, 11, 12, 13] (by decide +kernel)
  have hl := lv_entry ([.ref hu, .int (nI k), .int (nI u)]) (n := 3) (Nat.le_of_ble_eq_true rfl)
  rw [lg_entry_eq]
  generalize (lg_sl ([.ref hu, .int (nI k), .int (nI u)]) ++ List.replicate (3 - (lg_sl ([.ref hu, .int (nI k), .int (nI u)])).length) Slot.unset).toArray = ls at hl ⊢
  have hl : lv_has ls 3 [(0, .ref hu), (1, .int (nI k)), (2, .int (nI u))] := hl
  refine lv_iload_n hx hb dX2_orderFor_0 rfl (lv_at hl 1 rfl) ?_
  refine lv_iload_n hx hb dX2_orderFor_1 rfl (lv_at hl 2 rfl) ?_
  refine wt_ro_go (va_runS (As := [.int (nI k), .int (nI u)]) (rest := []) ⟨hx, hb, hml, hown, hts⟩ (k_X2_isKept l k u (by omega) (by omega)) (va_cwS 2 hts gX2_orderFor_X2_isKept rfl rfl rfl (by decide +kernel) ⟨Nat.le_of_ble_eq_true rfl, Nat.le_of_ble_eq_true rfl⟩) wt_PS rfl rfl hl.1 rfl (lv_room (Nat.le_of_ble_eq_true rfl)) dX2_orderFor_2 ⟨Nat.zero_le _, Nat.zero_le _⟩) ?_
  refine wt_if_eqB (tgt := 23) hx hb dX2_orderFor_5 (by decide) (fun c_5_1 => ?_) (fun c_5_1 => ?_)
  · exfalso; omega
  · refine lv_aload_n hx hb dX2_orderFor_8 rfl (lv_at hl 0 rfl) ?_
    refine va_get (D := (dC, dI)) (ci := 2) (v := .ref od) (C := RX2) (T := TX2) (N := 5) hx hb hts inX2 hown hK hP 0 rfl rfl 3 (by decide) (hts (.fieldLink RX2 21 "WarTable$Units" "orders" "[I") (List.mem_of_getElem? (i := 1) rfl)) (fun _ h9 => h9) rfl dX2_orderFor_9 ?_
    refine lv_iload_n hx hb dX2_orderFor_12 rfl (lv_at hl 1 rfl) ?_
    refine lv_iload_n hx hb dX2_orderFor_13 rfl (lv_at hl 2 rfl) ?_
    refine wt_ro_go (va_runS (As := [.int (nI k), .int (nI u)]) (rest := [.ref od]) ⟨hx, hb, hml, hown, hts⟩ (k_X2_index l k u) (va_cwS 2 hts gX2_orderFor_X2_index rfl rfl rfl (by decide +kernel) ⟨Nat.le_of_ble_eq_true rfl, Nat.le_of_ble_eq_true rfl⟩) wt_PS rfl rfl hl.1 rfl (lv_room (Nat.le_of_ble_eq_true rfl)) dX2_orderFor_14 ⟨Nat.zero_le _, Nat.zero_le _⟩) ?_
    refine wt_iald hx hb hK hP 4 rfl (by omega) (by omega) dX2_orderFor_17 ?_
    refine lv_iconst (v := nI 1) hx hb dX2_orderFor_18 (by decide +kernel) ?_
    refine lv_isub hx hb dX2_orderFor_19 ?_
    refine lv_goto (tgt := 24) hx hb dX2_orderFor_20 (by decide) ?_
    exact wt_ret hx hb hr (by simp only [wt_fold_s, wt_if_t c_5_1]) rfl dX2_orderFor_24 hlocks
set_option maxHeartbeats 4000000 in
set_option maxRecDepth 100000 in
theorem k_X2_giveOrder (l : Launch) (dC : Nat → ClassId) (dI : Nat → Nat → Nat) (cI : ClassId) (hu : Nat) (sd : Nat) (tw : Nat) (st : Nat) (od : Nat) (fs : Nat → Int32) (ft : Nat → Int32) (ff : Nat → Int32) (fo : Nat → Int32) (cn : Nat) (k : Nat) (u : Nat) (x : Int32) (sz : Nat) (hk : k < 22) (hu2 : u < 12) : Met l yX2_giveOrder wsX2_giveOrder ({ frames := 1, cells := 0, slots := 0, locals := 21 }) (va_Pc [.ref hu, .int (nI k), .int (nI u), .int x] (wt_pm (dC, dI) cI [(hu, .inr (2, [.ref sd, .ref tw, .ref st, .ref od, .int (nI cn)])), (sd, .inl (cI, 12, .inl fs)), (tw, .inl (cI, 264, .inl ft)), (st, .inl (cI, 264, .inl ff)), (od, .inl (cI, 264, .inl fo))] sz)) (wt_mu none (dC, dI) [(hu, .inr (2, [.ref sd, .ref tw, .ref st, .ref od, .int (nI cn)])), (sd, .inl (cI, 12, .inl fs)), (tw, .inl (cI, 264, .inl ft)), (st, .inl (cI, 264, .inl ff)), (od, .inl (cI, 264, .inl (upd fo (k * 12 + u) (x + nI 1))))] (va_A [(hu, .inr (2, [.ref sd, .ref tw, .ref st, .ref od, .int (nI cn)])), (sd, .inl (cI, 12, .inl fs)), (tw, .inl (cI, 264, .inl ft)), (st, .inl (cI, 264, .inl ff)), (od, .inl (cI, 264, .inl fo))] sz)) 0 0 (va_A [(hu, .inr (2, [.ref sd, .ref tw, .ref st, .ref od, .int (nI cn)])), (sd, .inl (cI, 12, .inl fs)), (tw, .inl (cI, 264, .inl ft)), (st, .inl (cI, 264, .inl ff)), (od, .inl (cI, 264, .inl fo))] sz) := by
  refine Met.ofW (cc := cX2_giveOrder) (maxL := 4) (ret := none) (by decide) rfl ?_
  intro p e s m args below meth c s₁ B hml hv
  obtain ⟨rfl, hsz, ⟨hP, hK, hN⟩, hD0⟩ := hv
  have hx := B.exec
  have hb := B.bytes
  have hr := B.returns
  have hts := atoms_spec (ws := wsX2_giveOrder) B.pre
  have hown : s.vm.findClass RX2 = some m.cls := findClass_of_methodNamed B.named
  have hlocks := B.notSynchronized
  subst hsz
  have hD := hD0.self (sz := s.heap.size)
  generalize hAe : va_A [(hu, .inr (2, [.ref sd, .ref tw, .ref st, .ref od, .int (nI cn)])), (sd, .inl (cI, 12, .inl fs)), (tw, .inl (cI, 264, .inl ft)), (st, .inl (cI, 264, .inl ff)), (od, .inl (cI, 264, .inl fo))] s.heap.size = A at hD ⊢
  have hA : ∀ q : Nat, s.heap.size ≤ q → A q := fun q h => by rw [← hAe]; exact Or.inr h
  have hS : va_S A s.heap s.heap [] := va_S.rf
  have inX2 : ∀ w ∈ wsX20, w ∈ wsX2_giveOrder := wt_in [9, 10, 11, 12, 13] (by decide +kernel)
  have hl := lv_entry ([.ref hu, .int (nI k), .int (nI u), .int x]) (n := 4) (Nat.le_of_ble_eq_true rfl)
  rw [lg_entry_eq]
  generalize (lg_sl ([.ref hu, .int (nI k), .int (nI u), .int x]) ++ List.replicate (4 - (lg_sl ([.ref hu, .int (nI k), .int (nI u), .int x])).length) Slot.unset).toArray = ls at hl ⊢
  have hl : lv_has ls 4 [(0, .ref hu), (1, .int (nI k)), (2, .int (nI u)), (3, .int x)] := hl
  refine lv_iload_n hx hb dX2_giveOrder_0 rfl (lv_at hl 1 rfl) ?_
  refine lv_iload_n hx hb dX2_giveOrder_1 rfl (lv_at hl 2 rfl) ?_
  refine wt_ro_go (va_runS (As := [.int (nI k), .int (nI u)]) (rest := []) ⟨hx, hb, hml, hown, hts⟩ (k_X2_isKept l k u (by omega) (by omega)) (va_cwS 2 hts gX2_giveOrder_X2_isKept rfl rfl rfl (by decide +kernel) ⟨Nat.le_of_ble_eq_true rfl, Nat.le_of_ble_eq_true rfl⟩) wt_PS rfl rfl hl.1 rfl (lv_room (Nat.le_of_ble_eq_true rfl)) dX2_giveOrder_2 ⟨Nat.zero_le _, Nat.zero_le _⟩) ?_
  refine wt_if_eqB (tgt := 21) hx hb dX2_giveOrder_5 (by decide) (fun c_5_1 => ?_) (fun c_5_1 => ?_)
  · exfalso; omega
  · refine lv_aload_n hx hb dX2_giveOrder_8 rfl (lv_at hl 0 rfl) ?_
    refine va_get (D := (dC, dI)) (ci := 2) (v := .ref od) (C := RX2) (T := TX2) (N := 5) hx hb hts inX2 hown hK hP 0 rfl rfl 3 (by decide) (hts (.fieldLink RX2 21 "WarTable$Units" "orders" "[I") (List.mem_of_getElem? (i := 1) rfl)) (fun _ h9 => h9) rfl dX2_giveOrder_9 ?_
    refine lv_iload_n hx hb dX2_giveOrder_12 rfl (lv_at hl 1 rfl) ?_
    refine lv_iload_n hx hb dX2_giveOrder_13 rfl (lv_at hl 2 rfl) ?_
    refine wt_ro_go (va_runS (As := [.int (nI k), .int (nI u)]) (rest := [.ref od]) ⟨hx, hb, hml, hown, hts⟩ (k_X2_index l k u) (va_cwS 2 hts gX2_giveOrder_X2_index rfl rfl rfl (by decide +kernel) ⟨Nat.le_of_ble_eq_true rfl, Nat.le_of_ble_eq_true rfl⟩) wt_PS rfl rfl hl.1 rfl (lv_room (Nat.le_of_ble_eq_true rfl)) dX2_giveOrder_14 ⟨Nat.zero_le _, Nat.zero_le _⟩) ?_
    refine lv_iload_n hx hb dX2_giveOrder_17 rfl (lv_at hl 3 rfl) ?_
    refine lv_iconst (v := nI 1) hx hb dX2_giveOrder_18 (by decide +kernel) ?_
    refine lv_iadd hx hb dX2_giveOrder_19 ?_
    refine wt_iast hx hb hK hP hD hS 4 rfl (by omega) (by omega) dX2_giveOrder_20 (fun H locs hP hD hS => ?_)
    have hP : va_P (dC, dI) vwCl [(hu, .inr (2, [.ref sd, .ref tw, .ref st, .ref od, .int (nI cn)])), (sd, .inl (cI, 12, .inl fs)), (tw, .inl (cI, 264, .inl ft)), (st, .inl (cI, 264, .inl ff)), (od, .inl (cI, 264, .inl (upd fo (k * 12 + u) (x + (nI 1)))))] H := hP
    have hD : va_D A [(hu, .inr (2, [.ref sd, .ref tw, .ref st, .ref od, .int (nI cn)])), (sd, .inl (cI, 12, .inl fs)), (tw, .inl (cI, 264, .inl ft)), (st, .inl (cI, 264, .inl ff)), (od, .inl (cI, 264, .inl (upd fo (k * 12 + u) (x + (nI 1)))))] := hD
    have e2 : (upd fo (k * 12 + u) (x + (nI 1))) = (upd fo (k * 12 + u) (x + nI 1)) := rfl
    have hP : va_P (dC, dI) vwCl [(hu, .inr (2, [.ref sd, .ref tw, .ref st, .ref od, .int (nI cn)])), (sd, .inl (cI, 12, .inl fs)), (tw, .inl (cI, 264, .inl ft)), (st, .inl (cI, 264, .inl ff)), (od, .inl (cI, 264, .inl (upd fo (k * 12 + u) (x + nI 1))))] H := Eq.mp (congrArg (fun z9 : Nat → Int32 => va_P (dC, dI) vwCl [(hu, .inr (2, [.ref sd, .ref tw, .ref st, .ref od, .int (nI cn)])), (sd, .inl (cI, 12, .inl fs)), (tw, .inl (cI, 264, .inl ft)), (st, .inl (cI, 264, .inl ff)), (od, .inl (cI, 264, .inl z9))] H) e2) hP
    have hD : va_D A [(hu, .inr (2, [.ref sd, .ref tw, .ref st, .ref od, .int (nI cn)])), (sd, .inl (cI, 12, .inl fs)), (tw, .inl (cI, 264, .inl ft)), (st, .inl (cI, 264, .inl ff)), (od, .inl (cI, 264, .inl (upd fo (k * 12 + u) (x + nI 1))))] := wt_adr hD rfl
    exact wt_mvret hx hb hr hP hS dX2_giveOrder_21 hlocks
set_option maxHeartbeats 4000000 in
set_option maxRecDepth 100000 in
theorem k_X2_place (l : Launch) (dC : Nat → ClassId) (dI : Nat → Nat → Nat) (cI : ClassId) (hu : Nat) (sd : Nat) (tw : Nat) (st : Nat) (od : Nat) (fs : Nat → Int32) (ft : Nat → Int32) (ff : Nat → Int32) (fo : Nat → Int32) (cn : Nat) (k : Nat) (u : Nat) (x : Int32) (y : Int32) (sz : Nat) (hk : k < 22) (hu2 : u < 12) : Met l yX2_place wsX2_place ({ frames := 1, cells := 0, slots := 0, locals := 21 }) (va_Pc [.ref hu, .int (nI k), .int (nI u), .int x, .int y] (wt_pm (dC, dI) cI [(hu, .inr (2, [.ref sd, .ref tw, .ref st, .ref od, .int (nI cn)])), (sd, .inl (cI, 12, .inl fs)), (tw, .inl (cI, 264, .inl ft)), (st, .inl (cI, 264, .inl ff)), (od, .inl (cI, 264, .inl fo))] sz)) (wt_mu none (dC, dI) [(hu, .inr (2, [.ref sd, .ref tw, .ref st, .ref od, .int (nI cn)])), (sd, .inl (cI, 12, .inl fs)), (tw, .inl (cI, 264, .inl (wt_plT ft k u x y))), (st, .inl (cI, 264, .inl (wt_plF ff k u y))), (od, .inl (cI, 264, .inl fo))] (va_A [(hu, .inr (2, [.ref sd, .ref tw, .ref st, .ref od, .int (nI cn)])), (sd, .inl (cI, 12, .inl fs)), (tw, .inl (cI, 264, .inl ft)), (st, .inl (cI, 264, .inl ff)), (od, .inl (cI, 264, .inl fo))] sz)) 0 0 (va_A [(hu, .inr (2, [.ref sd, .ref tw, .ref st, .ref od, .int (nI cn)])), (sd, .inl (cI, 12, .inl fs)), (tw, .inl (cI, 264, .inl ft)), (st, .inl (cI, 264, .inl ff)), (od, .inl (cI, 264, .inl fo))] sz) := by
  refine Met.ofW (cc := cX2_place) (maxL := 5) (ret := none) (by decide) rfl ?_
  intro p e s m args below meth c s₁ B hml hv
  obtain ⟨rfl, hsz, ⟨hP, hK, hN⟩, hD0⟩ := hv
  have hx := B.exec
  have hb := B.bytes
  have hr := B.returns
  have hts := atoms_spec (ws := wsX2_place) B.pre
  have hown : s.vm.findClass RX2 = some m.cls := findClass_of_methodNamed B.named
  have hlocks := B.notSynchronized
  subst hsz
  have hD := hD0.self (sz := s.heap.size)
  generalize hAe : va_A [(hu, .inr (2, [.ref sd, .ref tw, .ref st, .ref od, .int (nI cn)])), (sd, .inl (cI, 12, .inl fs)), (tw, .inl (cI, 264, .inl ft)), (st, .inl (cI, 264, .inl ff)), (od, .inl (cI, 264, .inl fo))] s.heap.size = A at hD ⊢
  have hA : ∀ q : Nat, s.heap.size ≤ q → A q := fun q h => by rw [← hAe]; exact Or.inr h
  have hS : va_S A s.heap s.heap [] := va_S.rf
  have inX2 : ∀ w ∈ wsX20, w ∈ wsX2_place := wt_in [14, 15, 16, 17, 18] (by decide +kernel)
  have hl := lv_entry ([.ref hu, .int (nI k), .int (nI u), .int x, .int y]) (n := 5) (Nat.le_of_ble_eq_true rfl)
  rw [lg_entry_eq]
  generalize (lg_sl ([.ref hu, .int (nI k), .int (nI u), .int x, .int y]) ++ List.replicate (5 - (lg_sl ([.ref hu, .int (nI k), .int (nI u), .int x, .int y])).length) Slot.unset).toArray = ls at hl ⊢
  have hl : lv_has ls 5 [(0, .ref hu), (1, .int (nI k)), (2, .int (nI u)), (3, .int x), (4, .int y)] := hl
  refine lv_iload_n hx hb dX2_place_0 rfl (lv_at hl 1 rfl) ?_
  refine lv_iload_n hx hb dX2_place_1 rfl (lv_at hl 2 rfl) ?_
  refine wt_ro_go (va_runS (As := [.int (nI k), .int (nI u)]) (rest := []) ⟨hx, hb, hml, hown, hts⟩ (k_X2_isKept l k u (by omega) (by omega)) (va_cwS 2 hts gX2_place_X2_isKept rfl rfl rfl (by decide +kernel) ⟨Nat.le_of_ble_eq_true rfl, Nat.le_of_ble_eq_true rfl⟩) wt_PS rfl rfl hl.1 rfl (lv_room (Nat.le_of_ble_eq_true rfl)) dX2_place_2 ⟨Nat.zero_le _, Nat.zero_le _⟩) ?_
  refine wt_if_eqB (tgt := 44) hx hb dX2_place_5 (by decide) (fun c_5_1 => ?_) (fun c_5_1 => ?_)
  · exfalso; omega
  · refine lv_aload_n hx hb dX2_place_8 rfl (lv_at hl 0 rfl) ?_
    refine va_get (D := (dC, dI)) (ci := 2) (v := .ref tw) (C := RX2) (T := TX2) (N := 5) hx hb hts inX2 hown hK hP 0 rfl rfl 1 (by decide) (hts (.fieldLink RX2 15 "WarTable$Units" "towns" "[I") (List.mem_of_getElem? (i := 1) rfl)) (fun _ h9 => h9) rfl dX2_place_9 ?_
    refine lv_iload_n hx hb dX2_place_12 rfl (lv_at hl 1 rfl) ?_
    refine lv_iload_n hx hb dX2_place_13 rfl (lv_at hl 2 rfl) ?_
    refine wt_ro_go (va_runS (As := [.int (nI k), .int (nI u)]) (rest := [.ref tw]) ⟨hx, hb, hml, hown, hts⟩ (k_X2_index l k u) (va_cwS 2 hts gX2_place_X2_index rfl rfl rfl (by decide +kernel) ⟨Nat.le_of_ble_eq_true rfl, Nat.le_of_ble_eq_true rfl⟩) wt_PS rfl rfl hl.1 rfl (lv_room (Nat.le_of_ble_eq_true rfl)) dX2_place_14 ⟨Nat.zero_le _, Nat.zero_le _⟩) ?_
    refine lv_iload hx hb dX2_place_17 (lv_at hl 4 rfl) ?_
    refine wt_if_leI (tgt := 26) hx hb dX2_place_19 (by decide) (fun c_19_2 => ?_) (fun c_19_2 => ?_)
    · refine lv_iconst (v := (-1)) hx hb dX2_place_26 (by decide +kernel) ?_
      refine wt_iast hx hb hK hP hD hS 2 rfl (by omega) (by omega) dX2_place_27 (fun H locs hP hD hS => ?_)
      have hP : va_P (dC, dI) vwCl [(hu, .inr (2, [.ref sd, .ref tw, .ref st, .ref od, .int (nI cn)])), (sd, .inl (cI, 12, .inl fs)), (tw, .inl (cI, 264, .inl (upd ft (k * 12 + u) (-1)))), (st, .inl (cI, 264, .inl ff)), (od, .inl (cI, 264, .inl fo))] H := hP
      have hD : va_D A [(hu, .inr (2, [.ref sd, .ref tw, .ref st, .ref od, .int (nI cn)])), (sd, .inl (cI, 12, .inl fs)), (tw, .inl (cI, 264, .inl (upd ft (k * 12 + u) (-1)))), (st, .inl (cI, 264, .inl ff)), (od, .inl (cI, 264, .inl fo))] := hD
      refine lv_aload_n hx hb dX2_place_28 rfl (lv_at hl 0 rfl) ?_
      refine va_get (D := (dC, dI)) (ci := 2) (v := .ref st) (C := RX2) (T := TX2) (N := 5) hx hb hts inX2 hown hK hP 0 rfl rfl 2 (by decide) (hts (.fieldLink RX2 18 "WarTable$Units" "strengths" "[I") (List.mem_of_getElem? (i := 2) rfl)) (fun _ h9 => h9) rfl dX2_place_29 ?_
      refine lv_iload_n hx hb dX2_place_32 rfl (lv_at hl 1 rfl) ?_
      refine lv_iload_n hx hb dX2_place_33 rfl (lv_at hl 2 rfl) ?_
      refine wt_ro_go (va_runS (As := [.int (nI k), .int (nI u)]) (rest := [.ref st]) ⟨hx, hb, hml, hown, hts⟩ (k_X2_index l k u) (va_cwS 2 hts gX2_place_X2_index rfl rfl rfl (by decide +kernel) ⟨Nat.le_of_ble_eq_true rfl, Nat.le_of_ble_eq_true rfl⟩) wt_PS rfl rfl hl.1 rfl (lv_room (Nat.le_of_ble_eq_true rfl)) dX2_place_34 ⟨Nat.zero_le _, Nat.zero_le _⟩) ?_
      refine lv_iload hx hb dX2_place_37 (lv_at hl 4 rfl) ?_
      refine lv_iconst (v := nI 0) hx hb dX2_place_39 (by decide +kernel) ?_
      refine va_mmax hx hb (by rw [hml]; exact hl.1.symm) hown (hts (.methodLink RX2 43 Lib.Math.max.name) (List.mem_of_getElem? (i := 3) rfl)) (hts (.static Lib.Math.max.name) (List.mem_of_getElem? (i := 4) rfl)) (hts (.initialized "java/lang/Math") (List.mem_of_getElem? (i := 5) rfl)) (hts (.code Lib.Math.max.name Lib.Math.max.code 2 (some .int)) (List.mem_of_getElem? (i := 6) rfl)) (Nat.le_of_ble_eq_true rfl) (Nat.le_of_ble_eq_true rfl) (Nat.zero_le _) (Nat.zero_le _) dX2_place_40 ?_
      refine wt_top (y := (wt_max y (nI 0))) rfl ?_
      refine wt_iast hx hb hK hP hD hS 3 rfl (by omega) (by omega) dX2_place_43 (fun H locs hP hD hS => ?_)
      have hP : va_P (dC, dI) vwCl [(hu, .inr (2, [.ref sd, .ref tw, .ref st, .ref od, .int (nI cn)])), (sd, .inl (cI, 12, .inl fs)), (tw, .inl (cI, 264, .inl (upd ft (k * 12 + u) (-1)))), (st, .inl (cI, 264, .inl (upd ff (k * 12 + u) (wt_max y (nI 0))))), (od, .inl (cI, 264, .inl fo))] H := hP
      have hD : va_D A [(hu, .inr (2, [.ref sd, .ref tw, .ref st, .ref od, .int (nI cn)])), (sd, .inl (cI, 12, .inl fs)), (tw, .inl (cI, 264, .inl (upd ft (k * 12 + u) (-1)))), (st, .inl (cI, 264, .inl (upd ff (k * 12 + u) (wt_max y (nI 0))))), (od, .inl (cI, 264, .inl fo))] := hD
      have e3 : (upd ft (k * 12 + u) (-1)) = (wt_plT ft k u x y) := (by simp only [wt_fold_s, wt_plT, wt_plF, wt_if_t c_5_1, wt_if_f c_19_2])
      have hP : va_P (dC, dI) vwCl [(hu, .inr (2, [.ref sd, .ref tw, .ref st, .ref od, .int (nI cn)])), (sd, .inl (cI, 12, .inl fs)), (tw, .inl (cI, 264, .inl (wt_plT ft k u x y))), (st, .inl (cI, 264, .inl (upd ff (k * 12 + u) (wt_max y (nI 0))))), (od, .inl (cI, 264, .inl fo))] H := Eq.mp (congrArg (fun z9 : Nat → Int32 => va_P (dC, dI) vwCl [(hu, .inr (2, [.ref sd, .ref tw, .ref st, .ref od, .int (nI cn)])), (sd, .inl (cI, 12, .inl fs)), (tw, .inl (cI, 264, .inl z9)), (st, .inl (cI, 264, .inl (upd ff (k * 12 + u) (wt_max y (nI 0))))), (od, .inl (cI, 264, .inl fo))] H) e3) hP
      have e4 : (upd ff (k * 12 + u) (wt_max y (nI 0))) = (wt_plF ff k u y) := (by simp only [wt_fold_s, wt_plT, wt_plF, wt_if_t c_5_1, wt_if_f c_19_2])
      have hP : va_P (dC, dI) vwCl [(hu, .inr (2, [.ref sd, .ref tw, .ref st, .ref od, .int (nI cn)])), (sd, .inl (cI, 12, .inl fs)), (tw, .inl (cI, 264, .inl (wt_plT ft k u x y))), (st, .inl (cI, 264, .inl (wt_plF ff k u y))), (od, .inl (cI, 264, .inl fo))] H := Eq.mp (congrArg (fun z9 : Nat → Int32 => va_P (dC, dI) vwCl [(hu, .inr (2, [.ref sd, .ref tw, .ref st, .ref od, .int (nI cn)])), (sd, .inl (cI, 12, .inl fs)), (tw, .inl (cI, 264, .inl (wt_plT ft k u x y))), (st, .inl (cI, 264, .inl z9)), (od, .inl (cI, 264, .inl fo))] H) e4) hP
      have hD : va_D A [(hu, .inr (2, [.ref sd, .ref tw, .ref st, .ref od, .int (nI cn)])), (sd, .inl (cI, 12, .inl fs)), (tw, .inl (cI, 264, .inl (wt_plT ft k u x y))), (st, .inl (cI, 264, .inl (wt_plF ff k u y))), (od, .inl (cI, 264, .inl fo))] := wt_adr hD rfl
      exact wt_mvret hx hb hr hP hS dX2_place_44 hlocks
    · refine lv_iload_n hx hb dX2_place_22 rfl (lv_at hl 3 rfl) ?_
      refine lv_goto (tgt := 27) hx hb dX2_place_23 (by decide) ?_
      refine wt_iast hx hb hK hP hD hS 2 rfl (by omega) (by omega) dX2_place_27 (fun H locs hP hD hS => ?_)
      have hP : va_P (dC, dI) vwCl [(hu, .inr (2, [.ref sd, .ref tw, .ref st, .ref od, .int (nI cn)])), (sd, .inl (cI, 12, .inl fs)), (tw, .inl (cI, 264, .inl (upd ft (k * 12 + u) x))), (st, .inl (cI, 264, .inl ff)), (od, .inl (cI, 264, .inl fo))] H := hP
      have hD : va_D A [(hu, .inr (2, [.ref sd, .ref tw, .ref st, .ref od, .int (nI cn)])), (sd, .inl (cI, 12, .inl fs)), (tw, .inl (cI, 264, .inl (upd ft (k * 12 + u) x))), (st, .inl (cI, 264, .inl ff)), (od, .inl (cI, 264, .inl fo))] := hD
      refine lv_aload_n hx hb dX2_place_28 rfl (lv_at hl 0 rfl) ?_
      refine va_get (D := (dC, dI)) (ci := 2) (v := .ref st) (C := RX2) (T := TX2) (N := 5) hx hb hts inX2 hown hK hP 0 rfl rfl 2 (by decide) (hts (.fieldLink RX2 18 "WarTable$Units" "strengths" "[I") (List.mem_of_getElem? (i := 2) rfl)) (fun _ h9 => h9) rfl dX2_place_29 ?_
      refine lv_iload_n hx hb dX2_place_32 rfl (lv_at hl 1 rfl) ?_
      refine lv_iload_n hx hb dX2_place_33 rfl (lv_at hl 2 rfl) ?_
      refine wt_ro_go (va_runS (As := [.int (nI k), .int (nI u)]) (rest := [.ref st]) ⟨hx, hb, hml, hown, hts⟩ (k_X2_index l k u) (va_cwS 2 hts gX2_place_X2_index rfl rfl rfl (by decide +kernel) ⟨Nat.le_of_ble_eq_true rfl, Nat.le_of_ble_eq_true rfl⟩) wt_PS rfl rfl hl.1 rfl (lv_room (Nat.le_of_ble_eq_true rfl)) dX2_place_34 ⟨Nat.zero_le _, Nat.zero_le _⟩) ?_
      refine lv_iload hx hb dX2_place_37 (lv_at hl 4 rfl) ?_
      refine lv_iconst (v := nI 0) hx hb dX2_place_39 (by decide +kernel) ?_
      refine va_mmax hx hb (by rw [hml]; exact hl.1.symm) hown (hts (.methodLink RX2 43 Lib.Math.max.name) (List.mem_of_getElem? (i := 3) rfl)) (hts (.static Lib.Math.max.name) (List.mem_of_getElem? (i := 4) rfl)) (hts (.initialized "java/lang/Math") (List.mem_of_getElem? (i := 5) rfl)) (hts (.code Lib.Math.max.name Lib.Math.max.code 2 (some .int)) (List.mem_of_getElem? (i := 6) rfl)) (Nat.le_of_ble_eq_true rfl) (Nat.le_of_ble_eq_true rfl) (Nat.zero_le _) (Nat.zero_le _) dX2_place_40 ?_
      refine wt_top (y := (wt_max y (nI 0))) rfl ?_
      refine wt_iast hx hb hK hP hD hS 3 rfl (by omega) (by omega) dX2_place_43 (fun H locs hP hD hS => ?_)
      have hP : va_P (dC, dI) vwCl [(hu, .inr (2, [.ref sd, .ref tw, .ref st, .ref od, .int (nI cn)])), (sd, .inl (cI, 12, .inl fs)), (tw, .inl (cI, 264, .inl (upd ft (k * 12 + u) x))), (st, .inl (cI, 264, .inl (upd ff (k * 12 + u) (wt_max y (nI 0))))), (od, .inl (cI, 264, .inl fo))] H := hP
      have hD : va_D A [(hu, .inr (2, [.ref sd, .ref tw, .ref st, .ref od, .int (nI cn)])), (sd, .inl (cI, 12, .inl fs)), (tw, .inl (cI, 264, .inl (upd ft (k * 12 + u) x))), (st, .inl (cI, 264, .inl (upd ff (k * 12 + u) (wt_max y (nI 0))))), (od, .inl (cI, 264, .inl fo))] := hD
      have e5 : (upd ft (k * 12 + u) x) = (wt_plT ft k u x y) := (by simp only [wt_fold_s, wt_plT, wt_plF, wt_if_t c_5_1, wt_if_t c_19_2])
      have hP : va_P (dC, dI) vwCl [(hu, .inr (2, [.ref sd, .ref tw, .ref st, .ref od, .int (nI cn)])), (sd, .inl (cI, 12, .inl fs)), (tw, .inl (cI, 264, .inl (wt_plT ft k u x y))), (st, .inl (cI, 264, .inl (upd ff (k * 12 + u) (wt_max y (nI 0))))), (od, .inl (cI, 264, .inl fo))] H := Eq.mp (congrArg (fun z9 : Nat → Int32 => va_P (dC, dI) vwCl [(hu, .inr (2, [.ref sd, .ref tw, .ref st, .ref od, .int (nI cn)])), (sd, .inl (cI, 12, .inl fs)), (tw, .inl (cI, 264, .inl z9)), (st, .inl (cI, 264, .inl (upd ff (k * 12 + u) (wt_max y (nI 0))))), (od, .inl (cI, 264, .inl fo))] H) e5) hP
      have e6 : (upd ff (k * 12 + u) (wt_max y (nI 0))) = (wt_plF ff k u y) := (by simp only [wt_fold_s, wt_plT, wt_plF, wt_if_t c_5_1, wt_if_t c_19_2])
      have hP : va_P (dC, dI) vwCl [(hu, .inr (2, [.ref sd, .ref tw, .ref st, .ref od, .int (nI cn)])), (sd, .inl (cI, 12, .inl fs)), (tw, .inl (cI, 264, .inl (wt_plT ft k u x y))), (st, .inl (cI, 264, .inl (wt_plF ff k u y))), (od, .inl (cI, 264, .inl fo))] H := Eq.mp (congrArg (fun z9 : Nat → Int32 => va_P (dC, dI) vwCl [(hu, .inr (2, [.ref sd, .ref tw, .ref st, .ref od, .int (nI cn)])), (sd, .inl (cI, 12, .inl fs)), (tw, .inl (cI, 264, .inl (wt_plT ft k u x y))), (st, .inl (cI, 264, .inl z9)), (od, .inl (cI, 264, .inl fo))] H) e6) hP
      have hD : va_D A [(hu, .inr (2, [.ref sd, .ref tw, .ref st, .ref od, .int (nI cn)])), (sd, .inl (cI, 12, .inl fs)), (tw, .inl (cI, 264, .inl (wt_plT ft k u x y))), (st, .inl (cI, 264, .inl (wt_plF ff k u y))), (od, .inl (cI, 264, .inl fo))] := wt_adr hD rfl
      exact wt_mvret hx hb hr hP hS dX2_place_44 hlocks
set_option maxHeartbeats 4000000 in
set_option maxRecDepth 100000 in
theorem k_X2_add (l : Launch) (dC : Nat → ClassId) (dI : Nat → Nat → Nat) (cI : ClassId) (hu : Nat) (sd : Nat) (tw : Nat) (st : Nat) (od : Nat) (fs : Nat → Int32) (ft : Nat → Int32) (ff : Nat → Int32) (fo : Nat → Int32) (cn : Nat) (x : Int32) (y : Int32) (z : Int32) (sz : Nat) (hcn : cn < 12) : Met l yX2_add wsX2_add ({ frames := 2, cells := 0, slots := 0, locals := 45 }) (va_Pc [.ref hu, .int x, .int y, .int z] (wt_pm (dC, dI) cI [(hu, .inr (2, [.ref sd, .ref tw, .ref st, .ref od, .int (nI cn)])), (sd, .inl (cI, 12, .inl fs)), (tw, .inl (cI, 264, .inl ft)), (st, .inl (cI, 264, .inl ff)), (od, .inl (cI, 264, .inl fo))] sz)) (wt_mu (some (.int (nI cn))) (dC, dI) [(hu, .inr (2, [.ref sd, .ref tw, .ref st, .ref od, .int (nI (cn + 1))])), (sd, .inl (cI, 12, .inl (upd fs cn x))), (tw, .inl (cI, 264, .inl (wt_plT ft 0 cn y z))), (st, .inl (cI, 264, .inl (wt_plF ff 0 cn z))), (od, .inl (cI, 264, .inl fo))] (va_A [(hu, .inr (2, [.ref sd, .ref tw, .ref st, .ref od, .int (nI cn)])), (sd, .inl (cI, 12, .inl fs)), (tw, .inl (cI, 264, .inl ft)), (st, .inl (cI, 264, .inl ff)), (od, .inl (cI, 264, .inl fo))] sz)) 0 0 (va_A [(hu, .inr (2, [.ref sd, .ref tw, .ref st, .ref od, .int (nI cn)])), (sd, .inl (cI, 12, .inl fs)), (tw, .inl (cI, 264, .inl ft)), (st, .inl (cI, 264, .inl ff)), (od, .inl (cI, 264, .inl fo))] sz) := by
  refine Met.ofW (cc := cX2_add) (maxL := 5) (ret := (some .int)) (by decide) rfl ?_
  intro p e s m args below meth c s₁ B hml hv
  obtain ⟨rfl, hsz, ⟨hP, hK, hN⟩, hD0⟩ := hv
  have hx := B.exec
  have hb := B.bytes
  have hr := B.returns
  have hts := atoms_spec (ws := wsX2_add) B.pre
  have hown : s.vm.findClass RX2 = some m.cls := findClass_of_methodNamed B.named
  have hlocks := B.notSynchronized
  subst hsz
  have hD := hD0.self (sz := s.heap.size)
  generalize hAe : va_A [(hu, .inr (2, [.ref sd, .ref tw, .ref st, .ref od, .int (nI cn)])), (sd, .inl (cI, 12, .inl fs)), (tw, .inl (cI, 264, .inl ft)), (st, .inl (cI, 264, .inl ff)), (od, .inl (cI, 264, .inl fo))] s.heap.size = A at hD ⊢
  have hA : ∀ q : Nat, s.heap.size ≤ q → A q := fun q h => by rw [← hAe]; exact Or.inr h
  have hS : va_S A s.heap s.heap [] := va_S.rf
  have inX2 : ∀ w ∈ wsX20, w ∈ wsX2_add := wt_in [23, 24, 25, 26, 27] (by decide +kernel)
  have hl := lv_entry ([.ref hu, .int x, .int y, .int z]) (n := 5) (Nat.le_of_ble_eq_true rfl)
  rw [lg_entry_eq]
  generalize (lg_sl ([.ref hu, .int x, .int y, .int z]) ++ List.replicate (5 - (lg_sl ([.ref hu, .int x, .int y, .int z])).length) Slot.unset).toArray = ls at hl ⊢
  have hl : lv_has ls 5 [(0, .ref hu), (1, .int x), (2, .int y), (3, .int z)] := hl
  refine lv_aload_n hx hb dX2_add_0 rfl (lv_at hl 0 rfl) ?_
  refine va_get (D := (dC, dI)) (ci := 2) (v := .int (nI cn)) (C := RX2) (T := TX2) (N := 5) hx hb hts inX2 hown hK hP 0 rfl rfl 4 (by decide) (hts (.fieldLink RX2 24 "WarTable$Units" "count" "I") (List.mem_of_getElem? (i := 1) rfl)) (fun _ h9 => h9) rfl dX2_add_1 ?_
  refine lv_istore (lv' := [(4, .int (nI cn)), (0, .ref hu), (1, .int x), (2, .int y), (3, .int z)]) hx hb dX2_add_4 hl (by decide) rfl (fun ls hl => ?_)
  refine lv_iload hx hb dX2_add_6 (lv_at hl 0 rfl) ?_
  refine lv_bipush (v := nI 12) hx hb dX2_add_8 (by decide +kernel) ?_
  refine wt_ro_go (va_runSN (As := [.int (nI cn), .int (nI 12)]) (rest := []) ⟨hx, hb, hml, hown, hts⟩ (k_X3_belowN l cn 12 (by omega) (by omega)) ⟨va_cnB (host := RX3) 2 hts gX2_add_X3_below_n28 rfl rfl rfl (hN _ (List.mem_of_getElem? (i := 6) rfl)) (hts (.initialized RX3) (List.mem_of_getElem? (i := 4) rfl)) (by decide +kernel) ⟨Nat.le_of_ble_eq_true rfl, Nat.le_of_ble_eq_true rfl⟩, (hts (.static yX3_below) (List.mem_of_getElem? (i := 3) rfl)), trivial⟩ wt_PS rfl rfl hl.1 rfl (lv_room (Nat.le_of_ble_eq_true rfl)) dX2_add_10 ⟨Nat.zero_le _, Nat.zero_le _⟩) ?_
  refine wt_if_neB (tgt := 18) hx hb dX2_add_13 (by decide) (fun c_13_1 => ?_) (fun c_13_1 => ?_)
  · refine lv_aload_n hx hb dX2_add_18 rfl (lv_at hl 1 rfl) ?_
    refine va_get (D := (dC, dI)) (ci := 2) (v := .ref sd) (C := RX2) (T := TX2) (N := 5) hx hb hts inX2 hown hK hP 0 rfl rfl 0 (by decide) (hts (.fieldLink RX2 9 "WarTable$Units" "sides" "[I") (List.mem_of_getElem? (i := 2) rfl)) (fun _ h9 => h9) rfl dX2_add_19 ?_
    refine lv_iload hx hb dX2_add_22 (lv_at hl 0 rfl) ?_
    refine lv_iload_n hx hb dX2_add_24 rfl (lv_at hl 2 rfl) ?_
    refine wt_iast hx hb hK hP hD hS 1 rfl (by omega) (by omega) dX2_add_25 (fun H locs hP hD hS => ?_)
    have hP : va_P (dC, dI) vwCl [(hu, .inr (2, [.ref sd, .ref tw, .ref st, .ref od, .int (nI cn)])), (sd, .inl (cI, 12, .inl (upd fs cn x))), (tw, .inl (cI, 264, .inl ft)), (st, .inl (cI, 264, .inl ff)), (od, .inl (cI, 264, .inl fo))] H := hP
    have hD : va_D A [(hu, .inr (2, [.ref sd, .ref tw, .ref st, .ref od, .int (nI cn)])), (sd, .inl (cI, 12, .inl (upd fs cn x))), (tw, .inl (cI, 264, .inl ft)), (st, .inl (cI, 264, .inl ff)), (od, .inl (cI, 264, .inl fo))] := hD
    refine lv_aload_n hx hb dX2_add_26 rfl (lv_at hl 1 rfl) ?_
    refine lv_iload hx hb dX2_add_27 (lv_at hl 0 rfl) ?_
    refine lv_iconst (v := nI 1) hx hb dX2_add_29 (by decide +kernel) ?_
    refine wt_iadd hx hb dX2_add_30 ?_
    refine va_put (D := (dC, dI)) (ci := 2) (v := .int (nI (cn + 1))) (ty := .int) (C := RX2) (T := TX2) (N := 5) hx hb hts inX2 tyX2 tyX2_ok nmX2 hown hK hP hD hS 0 rfl rfl 4 (by decide) (hts (.fieldLink RX2 24 "WarTable$Units" "count" "I") (List.mem_of_getElem? (i := 1) rfl)) (fun _ h9 => h9) rfl (by decide +kernel) rfl rfl (Nat.le_of_ble_eq_true rfl) dX2_add_31 (fun H locs hP hD hS => ?_)
    have hP : va_P (dC, dI) vwCl [(hu, .inr (2, [.ref sd, .ref tw, .ref st, .ref od, .int (nI (cn + 1))])), (sd, .inl (cI, 12, .inl (upd fs cn x))), (tw, .inl (cI, 264, .inl ft)), (st, .inl (cI, 264, .inl ff)), (od, .inl (cI, 264, .inl fo))] H := hP
    have hD : va_D A [(hu, .inr (2, [.ref sd, .ref tw, .ref st, .ref od, .int (nI (cn + 1))])), (sd, .inl (cI, 12, .inl (upd fs cn x))), (tw, .inl (cI, 264, .inl ft)), (st, .inl (cI, 264, .inl ff)), (od, .inl (cI, 264, .inl fo))] := hD
    refine lv_aload_n hx hb dX2_add_34 rfl (lv_at hl 1 rfl) ?_
    refine lv_iconst (v := nI 0) hx hb dX2_add_35 (by decide +kernel) ?_
    refine lv_iload hx hb dX2_add_36 (lv_at hl 0 rfl) ?_
    refine lv_iload_n hx hb dX2_add_38 rfl (lv_at hl 3 rfl) ?_
    refine lv_iload_n hx hb dX2_add_39 rfl (lv_at hl 4 rfl) ?_
    refine wt_mu_go (w1 := [(hu, .inr (2, [.ref sd, .ref tw, .ref st, .ref od, .int (nI (cn + 1))])), (sd, .inl (cI, 12, .inl (upd fs cn x))), (tw, .inl (cI, 264, .inl (wt_plT ft 0 cn y z))), (st, .inl (cI, 264, .inl (wt_plF ff 0 cn z))), (od, .inl (cI, 264, .inl fo))]) (w2 := [(hu, .inr (2, [.ref sd, .ref tw, .ref st, .ref od, .int (nI (cn + 1))])), (sd, .inl (cI, 12, .inl (upd fs cn x))), (tw, .inl (cI, 264, .inl (wt_plT ft 0 cn y z))), (st, .inl (cI, 264, .inl (wt_plF ff 0 cn z))), (od, .inl (cI, 264, .inl fo))]) (wr := []) (va_runV (As := [.int (nI 0), .int (nI cn), .int y, .int z]) (rest := []) ⟨hx, hb, hml, hown, hts⟩ (k_X2_place l dC dI cI hu sd tw st od (upd fs cn x) ft ff fo (cn + 1) 0 cn y z H.size (by omega) (by omega)) (cwV 4 hts gX2_add_X2_place rfl rfl rfl (by decide +kernel) ⟨Nat.le_of_ble_eq_true rfl, Nat.le_of_ble_eq_true rfl⟩) (wt_PVM (C := RX2) (T := TX2) (N := 5) (ci := 2) (q0 := 0) hK hP hN hD rfl rfl [0, 1, 2, 3, 4] rfl rfl) rfl rfl hl.1 rfl (lv_room (Nat.le_of_ble_eq_true rfl)) dX2_add_40 ⟨Nat.zero_le _, Nat.zero_le _⟩) hP hD hS hA [0, 1, 2, 3, 4] [] rfl rfl rfl rfl (by decide) rfl [0, 1, 2, 3, 4] rfl rfl (fun H locs hP hD hS hz9 => ?_)
    refine W.eq (g2 := F0 m 43 ls []) rfl ?_
    refine lv_iload hx hb dX2_add_43 (lv_at hl 0 rfl) ?_
    exact wt_miret hx hb hr rfl hP hS dX2_add_45 hlocks
  · exfalso; omega
set_option maxHeartbeats 4000000 in
set_option maxRecDepth 100000 in
theorem k_X2_livingAt (l : Launch) (dC : Nat → ClassId) (dI : Nat → Nat → Nat) (cI : ClassId) (hu : Nat) (sd : Nat) (tw : Nat) (st : Nat) (od : Nat) (fs : Nat → Int32) (ft : Nat → Int32) (ff : Nat → Int32) (fo : Nat → Int32) (cn : Nat) (k : Nat) (hcn : cn ≤ 12) (hk : k < 22) : Met l yX2_livingAt wsX2_livingAt ({ frames := 2, cells := 0, slots := 0, locals := 43 }) (va_Pc [.ref hu, .int (nI k)] (wt_pre (dC, dI) cI [(hu, .inr (2, [.ref sd, .ref tw, .ref st, .ref od, .int (nI cn)])), (sd, .inl (cI, 12, .inl fs)), (tw, .inl (cI, 264, .inl ft)), (st, .inl (cI, 264, .inl ff)), (od, .inl (cI, 264, .inl fo))])) (wt_ro (nI (wt_fold (wt_lvs ft k) cn 0))) 0 0 wt_no := by
  refine Met.ofW (cc := cX2_livingAt) (maxL := 4) (ret := (some .int)) (by decide) rfl ?_
  intro p e s m args below meth c s₁ B hml hv
  obtain ⟨rfl, hP, hK, hN⟩ := hv
  have hx := B.exec
  have hb := B.bytes
  have hr := B.returns
  have hts := atoms_spec (ws := wsX2_livingAt) B.pre
  have hown : s.vm.findClass RX2 = some m.cls := findClass_of_methodNamed B.named
  have hlocks := B.notSynchronized
  have inX2 : ∀ w ∈ wsX20, w ∈ wsX2_livingAt := wt_in [14, 15, 16, 17, 18] (by decide +kernel)
  have hl := lv_entry ([.ref hu, .int (nI k)]) (n := 4) (Nat.le_of_ble_eq_true rfl)
  rw [lg_entry_eq]
  generalize (lg_sl ([.ref hu, .int (nI k)]) ++ List.replicate (4 - (lg_sl ([.ref hu, .int (nI k)])).length) Slot.unset).toArray = ls at hl ⊢
  have hl : lv_has ls 4 [(0, .ref hu), (1, .int (nI k))] := hl
  refine lv_iconst (v := nI 0) hx hb dX2_livingAt_0 (by decide +kernel) ?_
  refine lv_istore_n (lv' := [(2, .int (nI 0)), (0, .ref hu), (1, .int (nI k))]) hx hb dX2_livingAt_1 rfl hl (by decide) rfl (fun ls hl => ?_)
  refine lv_iconst (v := nI 0) hx hb dX2_livingAt_2 (by decide +kernel) ?_
  refine lv_istore_n (lv' := [(3, .int (nI 0)), (2, .int (nI 0)), (0, .ref hu), (1, .int (nI k))]) hx hb dX2_livingAt_3 rfl hl (by decide) rfl (fun ls hl => ?_)
  have e1 : nI 0 = nI (wt_fold (wt_lvs ft k) 0 0) := rfl
  refine wt_lp (σ := Nat) 0 (fun i => cn - i) (fun i ls => (i ≤ cn) ∧ lv_has ls 4 [(3, .int (nI i)), (2, .int (nI (wt_fold (wt_lvs ft k) i 0))), (0, .ref hu), (1, .int (nI k))]) ⟨(by omega), Eq.mp (congrArg (fun z9 : Int32 => lv_has ls 4 [(3, .int (nI 0)), (2, .int z9), (0, .ref hu), (1, .int (nI k))]) e1) (lv_sub hl [0, 1, 2, 3] rfl)⟩ (fun i ls h9 ih_4 => ?_)
  obtain ⟨h_4_0, hl⟩ := h9
  refine lv_iload_n hx hb dX2_livingAt_4 rfl (lv_at hl 0 rfl) ?_
  refine lv_aload_n hx hb dX2_livingAt_5 rfl (lv_at hl 2 rfl) ?_
  refine va_get (D := (dC, dI)) (ci := 2) (v := .int (nI cn)) (C := RX2) (T := TX2) (N := 5) hx hb hts inX2 hown hK hP 0 rfl rfl 4 (by decide) (hts (.fieldLink RX2 24 "WarTable$Units" "count" "I") (List.mem_of_getElem? (i := 1) rfl)) (fun _ h9 => h9) rfl dX2_livingAt_6 ?_
  refine wt_icmp_ge (tgt := 31) hx hb (by omega) (by omega) dX2_livingAt_9 (by decide) (fun c_9_2 => ?_) (fun c_9_2 => ?_)
  · refine lv_iload_n hx hb dX2_livingAt_31 rfl (lv_at hl 1 rfl) ?_
    exact wt_ret hx hb hr (by rw [show i = cn by omega]) rfl dX2_livingAt_32 hlocks
  · refine lv_aload_n hx hb dX2_livingAt_12 rfl (lv_at hl 2 rfl) ?_
    refine lv_iload_n hx hb dX2_livingAt_13 rfl (lv_at hl 3 rfl) ?_
    refine lv_iload_n hx hb dX2_livingAt_14 rfl (lv_at hl 0 rfl) ?_
    refine wt_ro_go (va_runV (As := [.int (nI k), .int (nI i)]) (rest := []) ⟨hx, hb, hml, hown, hts⟩ (k_X2_townAt l dC dI cI hu sd tw st od fs ft ff fo cn k i (by omega) (by omega)) (cwV 2 hts gX2_livingAt_X2_townAt rfl rfl rfl (by decide +kernel) ⟨Nat.le_of_ble_eq_true rfl, Nat.le_of_ble_eq_true rfl⟩) (wt_PV (C := RX2) (T := TX2) (N := 5) (ci := 2) (q0 := 0) hK hP hN rfl rfl [0, 1, 2, 3, 4] rfl) rfl rfl hl.1 rfl (lv_room (Nat.le_of_ble_eq_true rfl)) dX2_livingAt_15 ⟨Nat.zero_le _, Nat.zero_le _⟩) ?_
    refine lv_iconst (v := (-1)) hx hb dX2_livingAt_18 (by decide +kernel) ?_
    refine wt_icmp_eqI (tgt := 25) hx hb dX2_livingAt_19 (by decide) (fun c_19_3 => ?_) (fun c_19_3 => ?_)
    · refine lv_iinc (v := nI (i + 1)) (lv' := [(3, .int (nI (i + 1))), (2, .int (nI (wt_fold (wt_lvs ft k) i 0))), (0, .ref hu), (1, .int (nI k))]) hx hb dX2_livingAt_25 hl (k := 0) rfl (nI_1 i) (by decide) rfl (fun ls hl => ?_)
      refine lv_goto (tgt := 4) hx hb dX2_livingAt_28 (by decide) ?_
      have e4 : nI (wt_fold (wt_lvs ft k) i 0) = nI (wt_fold (wt_lvs ft k) (i + 1) 0) := (congrArg nI (by simp only [wt_fold_s, wt_lvs, wt_if_t c_19_3]))
      exact ih_4 (i + 1) _ (by omega) ⟨(by omega), Eq.mp (congrArg (fun z9 : Int32 => lv_has ls 4 [(3, .int (nI (i + 1))), (2, .int z9), (0, .ref hu), (1, .int (nI k))]) e4) (lv_sub hl [0, 1, 2, 3] rfl)⟩
    · refine lv_iinc (v := nI ((wt_fold (wt_lvs ft k) i 0) + 1)) (lv' := [(2, .int (nI ((wt_fold (wt_lvs ft k) i 0) + 1))), (3, .int (nI i)), (0, .ref hu), (1, .int (nI k))]) hx hb dX2_livingAt_22 hl (k := 1) rfl (nI_1 (wt_fold (wt_lvs ft k) i 0)) (by decide) rfl (fun ls hl => ?_)
      refine lv_iinc (v := nI (i + 1)) (lv' := [(3, .int (nI (i + 1))), (2, .int (nI ((wt_fold (wt_lvs ft k) i 0) + 1))), (0, .ref hu), (1, .int (nI k))]) hx hb dX2_livingAt_25 hl (k := 1) rfl (nI_1 i) (by decide) rfl (fun ls hl => ?_)
      refine lv_goto (tgt := 4) hx hb dX2_livingAt_28 (by decide) ?_
      have e5 : nI ((wt_fold (wt_lvs ft k) i 0) + 1) = nI (wt_fold (wt_lvs ft k) (i + 1) 0) := (congrArg nI (by simp only [wt_fold_s, wt_lvs, wt_if_f c_19_3]))
      exact ih_4 (i + 1) _ (by omega) ⟨(by omega), Eq.mp (congrArg (fun z9 : Int32 => lv_has ls 4 [(3, .int (nI (i + 1))), (2, .int z9), (0, .ref hu), (1, .int (nI k))]) e5) (lv_sub hl [0, 1, 2, 3] rfl)⟩
set_option maxHeartbeats 4000000 in
set_option maxRecDepth 100000 in
theorem k_X2_townsHeld (l : Launch) (dC : Nat → ClassId) (dI : Nat → Nat → Nat) (cI : ClassId) (hu : Nat) (sd : Nat) (tw : Nat) (st : Nat) (od : Nat) (fs : Nat → Int32) (ft : Nat → Int32) (ff : Nat → Int32) (fo : Nat → Int32) (cn : Nat) (k : Nat) (d : Nat) (hcn : cn ≤ 12) (hk : k < 22) : Met l yX2_townsHeld wsX2_townsHeld ({ frames := 2, cells := 0, slots := 0, locals := 43 }) (va_Pc [.ref hu, .int (nI k), .int (nI d)] (wt_pre (dC, dI) cI [(hu, .inr (2, [.ref sd, .ref tw, .ref st, .ref od, .int (nI cn)])), (sd, .inl (cI, 12, .inl fs)), (tw, .inl (cI, 264, .inl ft)), (st, .inl (cI, 264, .inl ff)), (od, .inl (cI, 264, .inl fo))])) (wt_ro (wt_held fs ft k d cn)) 0 0 wt_no := by
  refine Met.ofW (cc := cX2_townsHeld) (maxL := 6) (ret := (some .int)) (by decide) rfl ?_
  intro p e s m args below meth c s₁ B hml hv
  obtain ⟨rfl, hP, hK, hN⟩ := hv
  have hx := B.exec
  have hb := B.bytes
  have hr := B.returns
  have hts := atoms_spec (ws := wsX2_townsHeld) B.pre
  have hown : s.vm.findClass RX2 = some m.cls := findClass_of_methodNamed B.named
  have hlocks := B.notSynchronized
  have inX2 : ∀ w ∈ wsX20, w ∈ wsX2_townsHeld := wt_in [24, 25, 26, 27, 28] (by decide +kernel)
  have hl := lv_entry ([.ref hu, .int (nI k), .int (nI d)]) (n := 6) (Nat.le_of_ble_eq_true rfl)
  rw [lg_entry_eq]
  generalize (lg_sl ([.ref hu, .int (nI k), .int (nI d)]) ++ List.replicate (6 - (lg_sl ([.ref hu, .int (nI k), .int (nI d)])).length) Slot.unset).toArray = ls at hl ⊢
  have hl : lv_has ls 6 [(0, .ref hu), (1, .int (nI k)), (2, .int (nI d))] := hl
  refine lv_iconst (v := nI 0) hx hb dX2_townsHeld_0 (by decide +kernel) ?_
  refine lv_istore_n (lv' := [(3, .int (nI 0)), (0, .ref hu), (1, .int (nI k)), (2, .int (nI d))]) hx hb dX2_townsHeld_1 rfl hl (by decide) rfl (fun ls hl => ?_)
  refine lv_iconst (v := nI 0) hx hb dX2_townsHeld_2 (by decide +kernel) ?_
  refine lv_istore (lv' := [(4, .int (nI 0)), (3, .int (nI 0)), (0, .ref hu), (1, .int (nI k)), (2, .int (nI d))]) hx hb dX2_townsHeld_3 hl (by decide) rfl (fun ls hl => ?_)
  have e1 : nI 0 = (wt_fold (wt_hs fs ft k d) 0 (nI 0)) := rfl
  refine wt_lp (σ := Nat) 0 (fun i => cn - i) (fun i ls => (i ≤ cn) ∧ lv_has ls 6 [(4, .int (nI i)), (3, .int (wt_fold (wt_hs fs ft k d) i (nI 0))), (0, .ref hu), (1, .int (nI k)), (2, .int (nI d))]) ⟨(by omega), Eq.mp (congrArg (fun z9 : Int32 => lv_has ls 6 [(4, .int (nI 0)), (3, .int z9), (0, .ref hu), (1, .int (nI k)), (2, .int (nI d))]) e1) (lv_sub hl [0, 1, 2, 3, 4] rfl)⟩ (fun i ls h9 ih_5 => ?_)
  obtain ⟨h_5_0, hl⟩ := h9
  refine lv_iload hx hb dX2_townsHeld_5 (lv_at hl 0 rfl) ?_
  refine lv_aload_n hx hb dX2_townsHeld_7 rfl (lv_at hl 2 rfl) ?_
  refine va_get (D := (dC, dI)) (ci := 2) (v := .int (nI cn)) (C := RX2) (T := TX2) (N := 5) hx hb hts inX2 hown hK hP 0 rfl rfl 4 (by decide) (hts (.fieldLink RX2 24 "WarTable$Units" "count" "I") (List.mem_of_getElem? (i := 1) rfl)) (fun _ h9 => h9) rfl dX2_townsHeld_8 ?_
  refine wt_icmp_ge (tgt := 53) hx hb (by omega) (by omega) dX2_townsHeld_11 (by decide) (fun c_11_2 => ?_) (fun c_11_2 => ?_)
  · refine lv_iload_n hx hb dX2_townsHeld_53 rfl (lv_at hl 1 rfl) ?_
    exact wt_ret hx hb hr (by rw [show i = cn by omega]; rfl) rfl dX2_townsHeld_54 hlocks
  · refine lv_aload_n hx hb dX2_townsHeld_14 rfl (lv_at hl 2 rfl) ?_
    refine lv_iload_n hx hb dX2_townsHeld_15 rfl (lv_at hl 3 rfl) ?_
    refine lv_iload hx hb dX2_townsHeld_16 (lv_at hl 0 rfl) ?_
    refine wt_ro_go (va_runV (As := [.int (nI k), .int (nI i)]) (rest := []) ⟨hx, hb, hml, hown, hts⟩ (k_X2_townAt l dC dI cI hu sd tw st od fs ft ff fo cn k i (by omega) (by omega)) (cwV 2 hts gX2_townsHeld_X2_townAt rfl rfl rfl (by decide +kernel) ⟨Nat.le_of_ble_eq_true rfl, Nat.le_of_ble_eq_true rfl⟩) (wt_PV (C := RX2) (T := TX2) (N := 5) (ci := 2) (q0 := 0) hK hP hN rfl rfl [0, 1, 2, 3, 4] rfl) rfl rfl hl.1 rfl (lv_room (Nat.le_of_ble_eq_true rfl)) dX2_townsHeld_18 ⟨Nat.zero_le _, Nat.zero_le _⟩) ?_
    refine lv_istore (lv' := [(5, .int (ft (k * 12 + i))), (4, .int (nI i)), (3, .int (wt_fold (wt_hs fs ft k d) i (nI 0))), (0, .ref hu), (1, .int (nI k)), (2, .int (nI d))]) hx hb dX2_townsHeld_21 hl (by decide) rfl (fun ls hl => ?_)
    refine lv_aload_n hx hb dX2_townsHeld_23 rfl (lv_at hl 3 rfl) ?_
    refine lv_iload hx hb dX2_townsHeld_24 (lv_at hl 1 rfl) ?_
    refine wt_ro_go (va_runV (As := [.int (nI i)]) (rest := []) ⟨hx, hb, hml, hown, hts⟩ (k_X2_sideOf l dC dI cI hu sd tw st od fs ft ff fo cn i (by omega)) (cwV 1 hts gX2_townsHeld_X2_sideOf rfl rfl rfl (by decide +kernel) ⟨Nat.le_of_ble_eq_true rfl, Nat.le_of_ble_eq_true rfl⟩) (wt_PV (C := RX2) (T := TX2) (N := 5) (ci := 2) (q0 := 0) hK hP hN rfl rfl [0, 1, 2, 3, 4] rfl) rfl rfl hl.1 rfl (lv_room (Nat.le_of_ble_eq_true rfl)) dX2_townsHeld_26 ⟨Nat.zero_le _, Nat.zero_le _⟩) ?_
    refine lv_iload_n hx hb dX2_townsHeld_29 rfl (lv_at hl 5 rfl) ?_
    refine wt_icmp_neI (tgt := 47) hx hb dX2_townsHeld_30 (by decide) (fun c_30_3 => ?_) (fun c_30_3 => ?_)
    · refine lv_iinc (v := nI (i + 1)) (lv' := [(4, .int (nI (i + 1))), (5, .int (ft (k * 12 + i))), (3, .int (wt_fold (wt_hs fs ft k d) i (nI 0))), (0, .ref hu), (1, .int (nI k)), (2, .int (nI d))]) hx hb dX2_townsHeld_47 hl (k := 1) rfl (nI_1 i) (by decide) rfl (fun ls hl => ?_)
      refine lv_goto (tgt := 5) hx hb dX2_townsHeld_50 (by decide) ?_
      have e4 : (wt_fold (wt_hs fs ft k d) i (nI 0)) = (wt_fold (wt_hs fs ft k d) (i + 1) (nI 0)) := (by simp only [wt_fold_s, wt_hs, wt_if_f c_30_3])
      exact ih_5 (i + 1) _ (by omega) ⟨(by omega), Eq.mp (congrArg (fun z9 : Int32 => lv_has ls 6 [(4, .int (nI (i + 1))), (3, .int z9), (0, .ref hu), (1, .int (nI k)), (2, .int (nI d))]) e4) (lv_sub hl [0, 2, 3, 4, 5] rfl)⟩
    · refine lv_iload hx hb dX2_townsHeld_33 (lv_at hl 0 rfl) ?_
      refine lv_iconst (v := (-1)) hx hb dX2_townsHeld_35 (by decide +kernel) ?_
      refine wt_icmp_eqI (tgt := 47) hx hb dX2_townsHeld_36 (by decide) (fun c_36_5 => ?_) (fun c_36_5 => ?_)
      · refine lv_iinc (v := nI (i + 1)) (lv' := [(4, .int (nI (i + 1))), (5, .int (ft (k * 12 + i))), (3, .int (wt_fold (wt_hs fs ft k d) i (nI 0))), (0, .ref hu), (1, .int (nI k)), (2, .int (nI d))]) hx hb dX2_townsHeld_47 hl (k := 1) rfl (nI_1 i) (by decide) rfl (fun ls hl => ?_)
        refine lv_goto (tgt := 5) hx hb dX2_townsHeld_50 (by decide) ?_
        have e6 : (wt_fold (wt_hs fs ft k d) i (nI 0)) = (wt_fold (wt_hs fs ft k d) (i + 1) (nI 0)) := (by simp only [wt_fold_s, wt_hs, wt_if_t c_30_3, wt_if_t c_36_5])
        exact ih_5 (i + 1) _ (by omega) ⟨(by omega), Eq.mp (congrArg (fun z9 : Int32 => lv_has ls 6 [(4, .int (nI (i + 1))), (3, .int z9), (0, .ref hu), (1, .int (nI k)), (2, .int (nI d))]) e6) (lv_sub hl [0, 2, 3, 4, 5] rfl)⟩
      · refine lv_iload_n hx hb dX2_townsHeld_39 rfl (lv_at hl 2 rfl) ?_
        refine lv_iload hx hb dX2_townsHeld_40 (lv_at hl 0 rfl) ?_
        refine wt_ro_go (va_runSN (As := [.int (ft (k * 12 + i))]) (rest := [.int (wt_fold (wt_hs fs ft k d) i (nI 0))]) ⟨hx, hb, hml, hown, hts⟩ (k_X3_bit l (ft (k * 12 + i))) ⟨va_cnB (host := RX3) 1 hts gX2_townsHeld_X3_bit_n58 rfl rfl rfl (hN _ (List.mem_of_getElem? (i := 7) rfl)) (hts (.initialized RX3) (List.mem_of_getElem? (i := 20) rfl)) (by decide +kernel) ⟨Nat.le_of_ble_eq_true rfl, Nat.le_of_ble_eq_true rfl⟩, (hts (.static yX3_bit) (List.mem_of_getElem? (i := 22) rfl)), trivial⟩ wt_PS rfl rfl hl.1 rfl (lv_room (Nat.le_of_ble_eq_true rfl)) dX2_townsHeld_42 ⟨Nat.zero_le _, Nat.zero_le _⟩) ?_
        refine lv_ior hx hb dX2_townsHeld_45 ?_
        refine lv_istore_n (lv' := [(3, .int ((wt_fold (wt_hs fs ft k d) i (nI 0)) ||| (wt_bit (ft (k * 12 + i))))), (5, .int (ft (k * 12 + i))), (4, .int (nI i)), (0, .ref hu), (1, .int (nI k)), (2, .int (nI d))]) hx hb dX2_townsHeld_46 rfl hl (by decide) rfl (fun ls hl => ?_)
        refine lv_iinc (v := nI (i + 1)) (lv' := [(4, .int (nI (i + 1))), (3, .int ((wt_fold (wt_hs fs ft k d) i (nI 0)) ||| (wt_bit (ft (k * 12 + i))))), (5, .int (ft (k * 12 + i))), (0, .ref hu), (1, .int (nI k)), (2, .int (nI d))]) hx hb dX2_townsHeld_47 hl (k := 2) rfl (nI_1 i) (by decide) rfl (fun ls hl => ?_)
        refine lv_goto (tgt := 5) hx hb dX2_townsHeld_50 (by decide) ?_
        have e7 : ((wt_fold (wt_hs fs ft k d) i (nI 0)) ||| (wt_bit (ft (k * 12 + i)))) = (wt_fold (wt_hs fs ft k d) (i + 1) (nI 0)) := (by simp only [wt_fold_s, wt_hs, wt_if_t c_30_3, wt_if_f c_36_5])
        exact ih_5 (i + 1) _ (by omega) ⟨(by omega), Eq.mp (congrArg (fun z9 : Int32 => lv_has ls 6 [(4, .int (nI (i + 1))), (3, .int z9), (0, .ref hu), (1, .int (nI k)), (2, .int (nI d))]) e7) (lv_sub hl [0, 1, 3, 4, 5] rfl)⟩
end
section
set_option maxHeartbeats 4000000 in
set_option maxRecDepth 100000 in
theorem k_X0_roads (l : Launch) (dC : Nat → ClassId) (dI : Nat → Nat → Nat) (cI : ClassId) (hm : Nat) (pv : Nat) (up : Nat) (fp : Nat → Int32) (fu : Nat → Int32) (nr : Nat) : Met l yX0_roads wsX0_roads ({ frames := 0, cells := 0, slots := 0, locals := 0 }) (va_Pc [.ref hm] (wt_pre (dC, dI) cI [(hm, .inr (0, [.ref pv, .ref up, .int (nI nr)])), (pv, .inl (cI, 10, .inl fp)), (up, .inl (cI, 10, .inl fu))])) (wt_ro (nI nr)) 0 0 wt_no := by
  refine Met.ofW (cc := cX0_roads) (maxL := 1) (ret := (some .int)) (by decide) rfl ?_
  intro p e s m args below meth c s₁ B hml hv
  obtain ⟨rfl, hP, hK, hN⟩ := hv
  have hx := B.exec
  have hb := B.bytes
  have hr := B.returns
  have hts := atoms_spec (ws := wsX0_roads) B.pre
  have hown : s.vm.findClass RX0 = some m.cls := findClass_of_methodNamed B.named
  have hlocks := B.notSynchronized
  have inX0 : ∀ w ∈ wsX00, w ∈ wsX0_roads := wt_in [2, 3, 4] (by decide +kernel)
  have hl := lv_entry ([.ref hm]) (n := 1) (Nat.le_of_ble_eq_true rfl)
  rw [lg_entry_eq]
  generalize (lg_sl ([.ref hm]) ++ List.replicate (1 - (lg_sl ([.ref hm])).length) Slot.unset).toArray = ls at hl ⊢
  have hl : lv_has ls 1 [(0, .ref hm)] := hl
  refine lv_aload_n hx hb dX0_roads_0 rfl (lv_at hl 0 rfl) ?_
  refine va_get (D := (dC, dI)) (ci := 0) (v := .int (nI nr)) (C := RX0) (T := TX0) (N := 3) hx hb hts inX0 hown hK hP 0 rfl rfl 2 (by decide) (hts (.fieldLink RX0 18 "WarTable$RoadMap" "roads" "I") (List.mem_of_getElem? (i := 1) rfl)) (fun _ h9 => h9) rfl dX0_roads_1 ?_
  exact wt_ret hx hb hr rfl rfl dX0_roads_4 hlocks
set_option maxHeartbeats 4000000 in
set_option maxRecDepth 100000 in
theorem k_X0_nextOverOpen (l : Launch) (dC : Nat → ClassId) (dI : Nat → Nat → Nat) (cI : ClassId) (hm : Nat) (pv : Nat) (up : Nat) (fp : Nat → Int32) (fu : Nat → Int32) (nr : Nat) (x : Int32) (w : Int32) : Met l yX0_nextOverOpen wsX0_nextOverOpen ({ frames := 1, cells := 0, slots := 0, locals := 21 }) (va_Pc [.ref hm, .int x, .int w] (wt_pre (dC, dI) cI [(hm, .inr (0, [.ref pv, .ref up, .int (nI nr)])), (pv, .inl (cI, 10, .inl fp)), (up, .inl (cI, 10, .inl fu))])) (wt_ro (wt_nxt fp fu x w)) 0 0 wt_no := by
  refine Met.ofW (cc := cX0_nextOverOpen) (maxL := 3) (ret := (some .int)) (by decide) rfl ?_
  intro p e s m args below meth c s₁ B hml hv
  obtain ⟨rfl, hP, hK, hN⟩ := hv
  have hx := B.exec
  have hb := B.bytes
  have hr := B.returns
  have hts := atoms_spec (ws := wsX0_nextOverOpen) B.pre
  have hown : s.vm.findClass RX0 = some m.cls := findClass_of_methodNamed B.named
  have hlocks := B.notSynchronized
  have inX0 : ∀ w ∈ wsX00, w ∈ wsX0_nextOverOpen := wt_in [6, 7, 8] (by decide +kernel)
  have hl := lv_entry ([.ref hm, .int x, .int w]) (n := 3) (Nat.le_of_ble_eq_true rfl)
  rw [lg_entry_eq]
  generalize (lg_sl ([.ref hm, .int x, .int w]) ++ List.replicate (3 - (lg_sl ([.ref hm, .int x, .int w])).length) Slot.unset).toArray = ls at hl ⊢
  have hl : lv_has ls 3 [(0, .ref hm), (1, .int x), (2, .int w)] := hl
  refine lv_iload_n hx hb dX0_nextOverOpen_0 rfl (lv_at hl 1 rfl) ?_
  refine lv_bipush (v := nI 10) hx hb dX0_nextOverOpen_1 (by decide +kernel) ?_
  refine wt_ro_go (va_runSN (As := [.int x, .int (nI 10)]) (rest := []) ⟨hx, hb, hml, hown, hts⟩ (k_X3_belowI l x 10 (by omega)) ⟨va_cnB (host := RX3) 2 hts gX0_nextOverOpen_X3_below_n30 rfl rfl rfl (hN _ (List.mem_of_getElem? (i := 4) rfl)) (hts (.initialized RX3) (List.mem_of_getElem? (i := 4) rfl)) (by decide +kernel) ⟨Nat.le_of_ble_eq_true rfl, Nat.le_of_ble_eq_true rfl⟩, (hts (.static yX3_below) (List.mem_of_getElem? (i := 3) rfl)), trivial⟩ wt_PS rfl rfl hl.1 rfl (lv_room (Nat.le_of_ble_eq_true rfl)) dX0_nextOverOpen_3 ⟨Nat.zero_le _, Nat.zero_le _⟩) ?_
  refine wt_if_eqB (tgt := 14) hx hb dX0_nextOverOpen_6 (by decide) (fun c_6_1 => ?_) (fun c_6_1 => ?_)
  · refine lv_iconst (v := nI 0) hx hb dX0_nextOverOpen_14 (by decide +kernel) ?_
    exact wt_ret hx hb hr (by simp only [wt_fold_s, wt_nxt, wt_if_f c_6_1]) rfl dX0_nextOverOpen_15 hlocks
  · refine lv_iload_n hx hb dX0_nextOverOpen_9 rfl (lv_at hl 2 rfl) ?_
    refine lv_iconst (v := nI 2) hx hb dX0_nextOverOpen_10 (by decide +kernel) ?_
    refine wt_icmp_neI (tgt := 16) hx hb dX0_nextOverOpen_11 (by decide) (fun c_11_2 => ?_) (fun c_11_2 => ?_)
    · refine lv_iload_n hx hb dX0_nextOverOpen_16 rfl (lv_at hl 2 rfl) ?_
      refine lv_iconst (v := nI 1) hx hb dX0_nextOverOpen_17 (by decide +kernel) ?_
      refine wt_icmp_neI (tgt := 30) hx hb dX0_nextOverOpen_18 (by decide) (fun c_18_3 => ?_) (fun c_18_3 => ?_)
      · refine lv_aload_n hx hb dX0_nextOverOpen_30 rfl (lv_at hl 0 rfl) ?_
        refine va_get (D := (dC, dI)) (ci := 0) (v := .ref pv) (C := RX0) (T := TX0) (N := 3) hx hb hts inX0 hown hK hP 0 rfl rfl 0 (by decide) (hts (.fieldLink RX0 9 "WarTable$RoadMap" "nextOverPaved" "[I") (List.mem_of_getElem? (i := 1) rfl)) (fun _ h9 => h9) rfl dX0_nextOverOpen_31 ?_
        refine lv_iload_n hx hb dX0_nextOverOpen_34 rfl (lv_at hl 1 rfl) ?_
        refine va_iald hx hb hK hP 1 0 rfl rfl c_6_1 dX0_nextOverOpen_35 ?_
        refine lv_aload_n hx hb dX0_nextOverOpen_36 rfl (lv_at hl 0 rfl) ?_
        refine va_get (D := (dC, dI)) (ci := 0) (v := .ref up) (C := RX0) (T := TX0) (N := 3) hx hb hts inX0 hown hK hP 0 rfl rfl 1 (by decide) (hts (.fieldLink RX0 15 "WarTable$RoadMap" "nextOverUnpaved" "[I") (List.mem_of_getElem? (i := 2) rfl)) (fun _ h9 => h9) rfl dX0_nextOverOpen_37 ?_
        refine lv_iload_n hx hb dX0_nextOverOpen_40 rfl (lv_at hl 1 rfl) ?_
        refine va_iald hx hb hK hP 2 0 rfl rfl c_6_1 dX0_nextOverOpen_41 ?_
        refine lv_ior hx hb dX0_nextOverOpen_42 ?_
        exact wt_ret hx hb hr (by simp only [wt_fold_s, wt_nxt, wt_if_t c_6_1, wt_if_f c_11_2, wt_if_f c_18_3]) rfl dX0_nextOverOpen_43 hlocks
      · refine lv_aload_n hx hb dX0_nextOverOpen_21 rfl (lv_at hl 0 rfl) ?_
        refine va_get (D := (dC, dI)) (ci := 0) (v := .ref pv) (C := RX0) (T := TX0) (N := 3) hx hb hts inX0 hown hK hP 0 rfl rfl 0 (by decide) (hts (.fieldLink RX0 9 "WarTable$RoadMap" "nextOverPaved" "[I") (List.mem_of_getElem? (i := 1) rfl)) (fun _ h9 => h9) rfl dX0_nextOverOpen_22 ?_
        refine lv_iload_n hx hb dX0_nextOverOpen_25 rfl (lv_at hl 1 rfl) ?_
        refine va_iald hx hb hK hP 1 0 rfl rfl c_6_1 dX0_nextOverOpen_26 ?_
        refine lv_goto (tgt := 43) hx hb dX0_nextOverOpen_27 (by decide) ?_
        exact wt_ret hx hb hr (by simp only [wt_fold_s, wt_nxt, wt_if_t c_6_1, wt_if_f c_11_2, wt_if_t c_18_3]) rfl dX0_nextOverOpen_43 hlocks
    · refine lv_iconst (v := nI 0) hx hb dX0_nextOverOpen_14 (by decide +kernel) ?_
      exact wt_ret hx hb hr (by simp only [wt_fold_s, wt_nxt, wt_if_t c_6_1, wt_if_t c_11_2]) rfl dX0_nextOverOpen_15 hlocks
set_option maxHeartbeats 4000000 in
set_option maxRecDepth 100000 in
theorem k_X0_joins (l : Launch) (dC : Nat → ClassId) (dI : Nat → Nat → Nat) (cI : ClassId) (hm : Nat) (pv : Nat) (up : Nat) (fp : Nat → Int32) (fu : Nat → Int32) (nr : Nat) (x : Int32) (y : Int32) : Met l yX0_joins wsX0_joins ({ frames := 2, cells := 0, slots := 0, locals := 43 }) (va_Pc [.ref hm, .int x, .int y] (wt_pre (dC, dI) cI [(hm, .inr (0, [.ref pv, .ref up, .int (nI nr)])), (pv, .inl (cI, 10, .inl fp)), (up, .inl (cI, 10, .inl fu))])) (wt_ro (wt_b (wt_has (wt_nxt fp fu x (nI 0)) y))) 0 0 wt_no := by
  refine Met.ofW (cc := cX0_joins) (maxL := 3) (ret := (some .boolean)) (by decide) rfl ?_
  intro p e s m args below meth c s₁ B hml hv
  obtain ⟨rfl, hP, hK, hN⟩ := hv
  have hx := B.exec
  have hb := B.bytes
  have hr := B.returns
  have hts := atoms_spec (ws := wsX0_joins) B.pre
  have hown : s.vm.findClass RX0 = some m.cls := findClass_of_methodNamed B.named
  have hlocks := B.notSynchronized
  have inX0 : ∀ w ∈ wsX00, w ∈ wsX0_joins := wt_in [16, 17, 18] (by decide +kernel)
  have hl := lv_entry ([.ref hm, .int x, .int y]) (n := 3) (Nat.le_of_ble_eq_true rfl)
  rw [lg_entry_eq]
  generalize (lg_sl ([.ref hm, .int x, .int y]) ++ List.replicate (3 - (lg_sl ([.ref hm, .int x, .int y])).length) Slot.unset).toArray = ls at hl ⊢
  have hl : lv_has ls 3 [(0, .ref hm), (1, .int x), (2, .int y)] := hl
  refine lv_aload_n hx hb dX0_joins_0 rfl (lv_at hl 0 rfl) ?_
  refine lv_iload_n hx hb dX0_joins_1 rfl (lv_at hl 1 rfl) ?_
  refine lv_iconst (v := nI 0) hx hb dX0_joins_2 (by decide +kernel) ?_
  refine wt_ro_go (va_runV (As := [.int x, .int (nI 0)]) (rest := []) ⟨hx, hb, hml, hown, hts⟩ (k_X0_nextOverOpen l dC dI cI hm pv up fp fu nr x (nI 0)) (cwV 2 hts gX0_joins_X0_nextOverOpen rfl rfl rfl (by decide +kernel) ⟨Nat.le_of_ble_eq_true rfl, Nat.le_of_ble_eq_true rfl⟩) (wt_PV (C := RX0) (T := TX0) (N := 3) (ci := 0) (q0 := 0) hK hP hN rfl rfl [0, 1, 2] rfl) rfl rfl hl.1 rfl (lv_room (Nat.le_of_ble_eq_true rfl)) dX0_joins_3 ⟨Nat.zero_le _, Nat.zero_le _⟩) ?_
  refine lv_iload_n hx hb dX0_joins_6 rfl (lv_at hl 2 rfl) ?_
  refine wt_ro_go (va_runSN (As := [.int (wt_nxt fp fu x (nI 0)), .int y]) (rest := []) ⟨hx, hb, hml, hown, hts⟩ (k_X3_has l (wt_nxt fp fu x (nI 0)) y) ⟨va_cnB (host := RX3) 2 hts gX0_joins_X3_has_n26 rfl rfl rfl (hN _ (List.mem_of_getElem? (i := 3) rfl)) (hts (.initialized RX3) (List.mem_of_getElem? (i := 9) rfl)) (by decide +kernel) ⟨Nat.le_of_ble_eq_true rfl, Nat.le_of_ble_eq_true rfl⟩, (hts (.static yX3_has) (List.mem_of_getElem? (i := 11) rfl)), trivial⟩ wt_PS rfl rfl hl.1 rfl (lv_room (Nat.le_of_ble_eq_true rfl)) dX0_joins_7 ⟨Nat.zero_le _, Nat.zero_le _⟩) ?_
  exact wt_retz hx hb hr rfl rfl dX0_joins_10 hlocks
set_option maxHeartbeats 4000000 in
set_option maxRecDepth 100000 in
theorem k_X0_join (l : Launch) (dC : Nat → ClassId) (dI : Nat → Nat → Nat) (cI : ClassId) (hm : Nat) (pv : Nat) (up : Nat) (fp : Nat → Int32) (fu : Nat → Int32) (nr : Nat) (a : Nat) (b : Nat) (z : Int32) (sz : Nat) (ha : a < 10) (hb2 : b < 10) : Met l yX0_join wsX0_join ({ frames := 1, cells := 0, slots := 0, locals := 21 }) (va_Pc [.ref hm, .int (nI a), .int (nI b), .int z] (wt_pm (dC, dI) cI [(hm, .inr (0, [.ref pv, .ref up, .int (nI nr)])), (pv, .inl (cI, 10, .inl fp)), (up, .inl (cI, 10, .inl fu))] sz)) (wt_mu none (dC, dI) [(hm, .inr (0, [.ref pv, .ref up, .int (nI (nr + 1))])), (pv, .inl (cI, 10, .inl (wt_if (z = 0) fp (wt_jn fp a b)))), (up, .inl (cI, 10, .inl (wt_if (z = 0) (wt_jn fu a b) fu)))] (va_A [(hm, .inr (0, [.ref pv, .ref up, .int (nI nr)])), (pv, .inl (cI, 10, .inl fp)), (up, .inl (cI, 10, .inl fu))] sz)) 0 0 (va_A [(hm, .inr (0, [.ref pv, .ref up, .int (nI nr)])), (pv, .inl (cI, 10, .inl fp)), (up, .inl (cI, 10, .inl fu))] sz) := by
  refine Met.ofW (cc := cX0_join) (maxL := 5) (ret := none) (by decide) rfl ?_
  intro p e s m args below meth c s₁ B hml hv
  obtain ⟨rfl, hsz, ⟨hP, hK, hN⟩, hD0⟩ := hv
  have hx := B.exec
  have hb := B.bytes
  have hr := B.returns
  have hts := atoms_spec (ws := wsX0_join) B.pre
  have hown : s.vm.findClass RX0 = some m.cls := findClass_of_methodNamed B.named
  have hlocks := B.notSynchronized
  subst hsz
  have hD := hD0.self (sz := s.heap.size)
  generalize hAe : va_A [(hm, .inr (0, [.ref pv, .ref up, .int (nI nr)])), (pv, .inl (cI, 10, .inl fp)), (up, .inl (cI, 10, .inl fu))] s.heap.size = A at hD ⊢
  have hA : ∀ q : Nat, s.heap.size ≤ q → A q := fun q h => by rw [← hAe]; exact Or.inr h
  have hS : va_S A s.heap s.heap [] := va_S.rf
  have inX0 : ∀ w ∈ wsX00, w ∈ wsX0_join := wt_in [9, 10, 11] (by decide +kernel)
  have hl := lv_entry ([.ref hm, .int (nI a), .int (nI b), .int z]) (n := 5) (Nat.le_of_ble_eq_true rfl)
  rw [lg_entry_eq]
  generalize (lg_sl ([.ref hm, .int (nI a), .int (nI b), .int z]) ++ List.replicate (5 - (lg_sl ([.ref hm, .int (nI a), .int (nI b), .int z])).length) Slot.unset).toArray = ls at hl ⊢
  have hl : lv_has ls 5 [(0, .ref hm), (1, .int (nI a)), (2, .int (nI b)), (3, .int z)] := hl
  refine lv_iload_n hx hb dX0_join_0 rfl (lv_at hl 1 rfl) ?_
  refine lv_bipush (v := nI 10) hx hb dX0_join_1 (by decide +kernel) ?_
  refine wt_ro_go (va_runSN (As := [.int (nI a), .int (nI 10)]) (rest := []) ⟨hx, hb, hml, hown, hts⟩ (k_X3_belowN l a 10 (by omega) (by omega)) ⟨va_cnB (host := RX3) 2 hts gX0_join_X3_below_n30 rfl rfl rfl (hN _ (List.mem_of_getElem? (i := 4) rfl)) (hts (.initialized RX3) (List.mem_of_getElem? (i := 5) rfl)) (by decide +kernel) ⟨Nat.le_of_ble_eq_true rfl, Nat.le_of_ble_eq_true rfl⟩, (hts (.static yX3_below) (List.mem_of_getElem? (i := 4) rfl)), trivial⟩ wt_PS rfl rfl hl.1 rfl (lv_room (Nat.le_of_ble_eq_true rfl)) dX0_join_3 ⟨Nat.zero_le _, Nat.zero_le _⟩) ?_
  refine wt_if_eqB (tgt := 18) hx hb dX0_join_6 (by decide) (fun c_6_1 => ?_) (fun c_6_1 => ?_)
  · exfalso; omega
  · refine lv_iload_n hx hb dX0_join_9 rfl (lv_at hl 2 rfl) ?_
    refine lv_bipush (v := nI 10) hx hb dX0_join_10 (by decide +kernel) ?_
    refine wt_ro_go (va_runSN (As := [.int (nI b), .int (nI 10)]) (rest := []) ⟨hx, hb, hml, hown, hts⟩ (k_X3_belowN l b 10 (by omega) (by omega)) ⟨va_cnB (host := RX3) 2 hts gX0_join_X3_below_n30 rfl rfl rfl (hN _ (List.mem_of_getElem? (i := 4) rfl)) (hts (.initialized RX3) (List.mem_of_getElem? (i := 5) rfl)) (by decide +kernel) ⟨Nat.le_of_ble_eq_true rfl, Nat.le_of_ble_eq_true rfl⟩, (hts (.static yX3_below) (List.mem_of_getElem? (i := 4) rfl)), trivial⟩ wt_PS rfl rfl hl.1 rfl (lv_room (Nat.le_of_ble_eq_true rfl)) dX0_join_12 ⟨Nat.zero_le _, Nat.zero_le _⟩) ?_
    refine wt_if_neB (tgt := 19) hx hb dX0_join_15 (by decide) (fun c_15_2 => ?_) (fun c_15_2 => ?_)
    · refine lv_iload_n hx hb dX0_join_19 rfl (lv_at hl 3 rfl) ?_
      refine wt_if_eqI (tgt := 30) hx hb dX0_join_20 (by decide) (fun c_20_3 => ?_) (fun c_20_3 => ?_)
      · refine lv_aload_n hx hb dX0_join_30 rfl (lv_at hl 0 rfl) ?_
        refine va_get (D := (dC, dI)) (ci := 0) (v := .ref up) (C := RX0) (T := TX0) (N := 3) hx hb hts inX0 hown hK hP 0 rfl rfl 1 (by decide) (hts (.fieldLink RX0 15 "WarTable$RoadMap" "nextOverUnpaved" "[I") (List.mem_of_getElem? (i := 2) rfl)) (fun _ h9 => h9) rfl dX0_join_31 ?_
        refine lv_astore (lv' := [(4, .ref up), (0, .ref hm), (1, .int (nI a)), (2, .int (nI b)), (3, .int z)]) hx hb dX0_join_34 hl (by decide) rfl (fun ls hl => ?_)
        refine lv_aload hx hb dX0_join_36 (lv_at hl 0 rfl) ?_
        refine lv_iload_n hx hb dX0_join_38 rfl (lv_at hl 2 rfl) ?_
        refine lv_dup2_11 hx hb dX0_join_39 rfl rfl ?_
        refine wt_iald hx hb hK hP 2 rfl (by omega) (by omega) dX0_join_40 ?_
        refine lv_iload_n hx hb dX0_join_41 rfl (lv_at hl 3 rfl) ?_
        refine wt_ro_go (va_runSN (As := [.int (nI b)]) (rest := [.int (fu a), .int (nI a), .ref up]) ⟨hx, hb, hml, hown, hts⟩ (k_X3_bit l (nI b)) ⟨va_cnB (host := RX3) 1 hts gX0_join_X3_bit_n33 rfl rfl rfl (hN _ (List.mem_of_getElem? (i := 5) rfl)) (hts (.initialized RX3) (List.mem_of_getElem? (i := 5) rfl)) (by decide +kernel) ⟨Nat.le_of_ble_eq_true rfl, Nat.le_of_ble_eq_true rfl⟩, (hts (.static yX3_bit) (List.mem_of_getElem? (i := 7) rfl)), trivial⟩ wt_PS rfl rfl hl.1 rfl (lv_room (Nat.le_of_ble_eq_true rfl)) dX0_join_42 ⟨Nat.zero_le _, Nat.zero_le _⟩) ?_
        refine lv_ior hx hb dX0_join_45 ?_
        refine wt_iast hx hb hK hP hD hS 2 rfl (by omega) (by omega) dX0_join_46 (fun H locs hP hD hS => ?_)
        have hP : va_P (dC, dI) vwCl [(hm, .inr (0, [.ref pv, .ref up, .int (nI nr)])), (pv, .inl (cI, 10, .inl fp)), (up, .inl (cI, 10, .inl (upd fu a ((fu a) ||| (wt_bit (nI b))))))] H := hP
        have hD : va_D A [(hm, .inr (0, [.ref pv, .ref up, .int (nI nr)])), (pv, .inl (cI, 10, .inl fp)), (up, .inl (cI, 10, .inl (upd fu a ((fu a) ||| (wt_bit (nI b))))))] := hD
        refine lv_aload hx hb dX0_join_47 (lv_at hl 0 rfl) ?_
        refine lv_iload_n hx hb dX0_join_49 rfl (lv_at hl 3 rfl) ?_
        refine lv_dup2_11 hx hb dX0_join_50 rfl rfl ?_
        refine wt_iald hx hb hK hP 2 rfl (by omega) (by omega) dX0_join_51 ?_
        refine lv_iload_n hx hb dX0_join_52 rfl (lv_at hl 2 rfl) ?_
        refine wt_ro_go (va_runSN (As := [.int (nI a)]) (rest := [.int ((upd fu a ((fu a) ||| (wt_bit (nI b)))) b), .int (nI b), .ref up]) ⟨hx, hb, hml, hown, hts⟩ (k_X3_bit l (nI a)) ⟨va_cnB (host := RX3) 1 hts gX0_join_X3_bit_n33 rfl rfl rfl (hN _ (List.mem_of_getElem? (i := 5) rfl)) (hts (.initialized RX3) (List.mem_of_getElem? (i := 5) rfl)) (by decide +kernel) ⟨Nat.le_of_ble_eq_true rfl, Nat.le_of_ble_eq_true rfl⟩, (hts (.static yX3_bit) (List.mem_of_getElem? (i := 7) rfl)), trivial⟩ wt_PS rfl rfl hl.1 rfl (lv_room (Nat.le_of_ble_eq_true rfl)) dX0_join_53 ⟨Nat.zero_le _, Nat.zero_le _⟩) ?_
        refine lv_ior hx hb dX0_join_56 ?_
        refine wt_iast hx hb hK hP hD hS 2 rfl (by omega) (by omega) dX0_join_57 (fun H locs hP hD hS => ?_)
        have hP : va_P (dC, dI) vwCl [(hm, .inr (0, [.ref pv, .ref up, .int (nI nr)])), (pv, .inl (cI, 10, .inl fp)), (up, .inl (cI, 10, .inl (upd (upd fu a ((fu a) ||| (wt_bit (nI b)))) b (((upd fu a ((fu a) ||| (wt_bit (nI b)))) b) ||| (wt_bit (nI a))))))] H := hP
        have hD : va_D A [(hm, .inr (0, [.ref pv, .ref up, .int (nI nr)])), (pv, .inl (cI, 10, .inl fp)), (up, .inl (cI, 10, .inl (upd (upd fu a ((fu a) ||| (wt_bit (nI b)))) b (((upd fu a ((fu a) ||| (wt_bit (nI b)))) b) ||| (wt_bit (nI a))))))] := hD
        refine lv_aload_n hx hb dX0_join_58 rfl (lv_at hl 1 rfl) ?_
        refine lv_dup hx hb dX0_join_59 rfl ?_
        refine va_get (D := (dC, dI)) (ci := 0) (v := .int (nI nr)) (C := RX0) (T := TX0) (N := 3) hx hb hts inX0 hown hK hP 0 rfl rfl 2 (by decide) (hts (.fieldLink RX0 18 "WarTable$RoadMap" "roads" "I") (List.mem_of_getElem? (i := 3) rfl)) (fun _ h9 => h9) rfl dX0_join_60 ?_
        refine lv_iconst (v := nI 1) hx hb dX0_join_63 (by decide +kernel) ?_
        refine wt_iadd hx hb dX0_join_64 ?_
        refine va_put (D := (dC, dI)) (ci := 0) (v := .int (nI (nr + 1))) (ty := .int) (C := RX0) (T := TX0) (N := 3) hx hb hts inX0 tyX0 tyX0_ok nmX0 hown hK hP hD hS 0 rfl rfl 2 (by decide) (hts (.fieldLink RX0 18 "WarTable$RoadMap" "roads" "I") (List.mem_of_getElem? (i := 3) rfl)) (fun _ h9 => h9) rfl (by decide +kernel) rfl rfl (Nat.le_of_ble_eq_true rfl) dX0_join_65 (fun H locs hP hD hS => ?_)
        have hP : va_P (dC, dI) vwCl [(hm, .inr (0, [.ref pv, .ref up, .int (nI (nr + 1))])), (pv, .inl (cI, 10, .inl fp)), (up, .inl (cI, 10, .inl (upd (upd fu a ((fu a) ||| (wt_bit (nI b)))) b (((upd fu a ((fu a) ||| (wt_bit (nI b)))) b) ||| (wt_bit (nI a))))))] H := hP
        have hD : va_D A [(hm, .inr (0, [.ref pv, .ref up, .int (nI (nr + 1))])), (pv, .inl (cI, 10, .inl fp)), (up, .inl (cI, 10, .inl (upd (upd fu a ((fu a) ||| (wt_bit (nI b)))) b (((upd fu a ((fu a) ||| (wt_bit (nI b)))) b) ||| (wt_bit (nI a))))))] := hD
        have e4 : fp = (wt_if (z = 0) fp (wt_jn fp a b)) := (by simp only [wt_fold_s, wt_jn, wt_if_t c_6_1, wt_if_t c_15_2, wt_if_t c_20_3])
        have hP : va_P (dC, dI) vwCl [(hm, .inr (0, [.ref pv, .ref up, .int (nI (nr + 1))])), (pv, .inl (cI, 10, .inl (wt_if (z = 0) fp (wt_jn fp a b)))), (up, .inl (cI, 10, .inl (upd (upd fu a ((fu a) ||| (wt_bit (nI b)))) b (((upd fu a ((fu a) ||| (wt_bit (nI b)))) b) ||| (wt_bit (nI a))))))] H := Eq.mp (congrArg (fun z9 : Nat → Int32 => va_P (dC, dI) vwCl [(hm, .inr (0, [.ref pv, .ref up, .int (nI (nr + 1))])), (pv, .inl (cI, 10, .inl z9)), (up, .inl (cI, 10, .inl (upd (upd fu a ((fu a) ||| (wt_bit (nI b)))) b (((upd fu a ((fu a) ||| (wt_bit (nI b)))) b) ||| (wt_bit (nI a))))))] H) e4) hP
        have e5 : (upd (upd fu a ((fu a) ||| (wt_bit (nI b)))) b (((upd fu a ((fu a) ||| (wt_bit (nI b)))) b) ||| (wt_bit (nI a)))) = (wt_if (z = 0) (wt_jn fu a b) fu) := (by simp only [wt_fold_s, wt_jn, wt_if_t c_6_1, wt_if_t c_15_2, wt_if_t c_20_3])
        have hP : va_P (dC, dI) vwCl [(hm, .inr (0, [.ref pv, .ref up, .int (nI (nr + 1))])), (pv, .inl (cI, 10, .inl (wt_if (z = 0) fp (wt_jn fp a b)))), (up, .inl (cI, 10, .inl (wt_if (z = 0) (wt_jn fu a b) fu)))] H := Eq.mp (congrArg (fun z9 : Nat → Int32 => va_P (dC, dI) vwCl [(hm, .inr (0, [.ref pv, .ref up, .int (nI (nr + 1))])), (pv, .inl (cI, 10, .inl (wt_if (z = 0) fp (wt_jn fp a b)))), (up, .inl (cI, 10, .inl z9))] H) e5) hP
        have hD : va_D A [(hm, .inr (0, [.ref pv, .ref up, .int (nI (nr + 1))])), (pv, .inl (cI, 10, .inl (wt_if (z = 0) fp (wt_jn fp a b)))), (up, .inl (cI, 10, .inl (wt_if (z = 0) (wt_jn fu a b) fu)))] := wt_adr hD rfl
        exact wt_mvret hx hb hr hP hS dX0_join_68 hlocks
      · refine lv_aload_n hx hb dX0_join_23 rfl (lv_at hl 0 rfl) ?_
        refine va_get (D := (dC, dI)) (ci := 0) (v := .ref pv) (C := RX0) (T := TX0) (N := 3) hx hb hts inX0 hown hK hP 0 rfl rfl 0 (by decide) (hts (.fieldLink RX0 9 "WarTable$RoadMap" "nextOverPaved" "[I") (List.mem_of_getElem? (i := 1) rfl)) (fun _ h9 => h9) rfl dX0_join_24 ?_
        refine lv_goto (tgt := 34) hx hb dX0_join_27 (by decide) ?_
        refine lv_astore (lv' := [(4, .ref pv), (0, .ref hm), (1, .int (nI a)), (2, .int (nI b)), (3, .int z)]) hx hb dX0_join_34 hl (by decide) rfl (fun ls hl => ?_)
        refine lv_aload hx hb dX0_join_36 (lv_at hl 0 rfl) ?_
        refine lv_iload_n hx hb dX0_join_38 rfl (lv_at hl 2 rfl) ?_
        refine lv_dup2_11 hx hb dX0_join_39 rfl rfl ?_
        refine wt_iald hx hb hK hP 1 rfl (by omega) (by omega) dX0_join_40 ?_
        refine lv_iload_n hx hb dX0_join_41 rfl (lv_at hl 3 rfl) ?_
        refine wt_ro_go (va_runSN (As := [.int (nI b)]) (rest := [.int (fp a), .int (nI a), .ref pv]) ⟨hx, hb, hml, hown, hts⟩ (k_X3_bit l (nI b)) ⟨va_cnB (host := RX3) 1 hts gX0_join_X3_bit_n33 rfl rfl rfl (hN _ (List.mem_of_getElem? (i := 5) rfl)) (hts (.initialized RX3) (List.mem_of_getElem? (i := 5) rfl)) (by decide +kernel) ⟨Nat.le_of_ble_eq_true rfl, Nat.le_of_ble_eq_true rfl⟩, (hts (.static yX3_bit) (List.mem_of_getElem? (i := 7) rfl)), trivial⟩ wt_PS rfl rfl hl.1 rfl (lv_room (Nat.le_of_ble_eq_true rfl)) dX0_join_42 ⟨Nat.zero_le _, Nat.zero_le _⟩) ?_
        refine lv_ior hx hb dX0_join_45 ?_
        refine wt_iast hx hb hK hP hD hS 1 rfl (by omega) (by omega) dX0_join_46 (fun H locs hP hD hS => ?_)
        have hP : va_P (dC, dI) vwCl [(hm, .inr (0, [.ref pv, .ref up, .int (nI nr)])), (pv, .inl (cI, 10, .inl (upd fp a ((fp a) ||| (wt_bit (nI b)))))), (up, .inl (cI, 10, .inl fu))] H := hP
        have hD : va_D A [(hm, .inr (0, [.ref pv, .ref up, .int (nI nr)])), (pv, .inl (cI, 10, .inl (upd fp a ((fp a) ||| (wt_bit (nI b)))))), (up, .inl (cI, 10, .inl fu))] := hD
        refine lv_aload hx hb dX0_join_47 (lv_at hl 0 rfl) ?_
        refine lv_iload_n hx hb dX0_join_49 rfl (lv_at hl 3 rfl) ?_
        refine lv_dup2_11 hx hb dX0_join_50 rfl rfl ?_
        refine wt_iald hx hb hK hP 1 rfl (by omega) (by omega) dX0_join_51 ?_
        refine lv_iload_n hx hb dX0_join_52 rfl (lv_at hl 2 rfl) ?_
        refine wt_ro_go (va_runSN (As := [.int (nI a)]) (rest := [.int ((upd fp a ((fp a) ||| (wt_bit (nI b)))) b), .int (nI b), .ref pv]) ⟨hx, hb, hml, hown, hts⟩ (k_X3_bit l (nI a)) ⟨va_cnB (host := RX3) 1 hts gX0_join_X3_bit_n33 rfl rfl rfl (hN _ (List.mem_of_getElem? (i := 5) rfl)) (hts (.initialized RX3) (List.mem_of_getElem? (i := 5) rfl)) (by decide +kernel) ⟨Nat.le_of_ble_eq_true rfl, Nat.le_of_ble_eq_true rfl⟩, (hts (.static yX3_bit) (List.mem_of_getElem? (i := 7) rfl)), trivial⟩ wt_PS rfl rfl hl.1 rfl (lv_room (Nat.le_of_ble_eq_true rfl)) dX0_join_53 ⟨Nat.zero_le _, Nat.zero_le _⟩) ?_
        refine lv_ior hx hb dX0_join_56 ?_
        refine wt_iast hx hb hK hP hD hS 1 rfl (by omega) (by omega) dX0_join_57 (fun H locs hP hD hS => ?_)
        have hP : va_P (dC, dI) vwCl [(hm, .inr (0, [.ref pv, .ref up, .int (nI nr)])), (pv, .inl (cI, 10, .inl (upd (upd fp a ((fp a) ||| (wt_bit (nI b)))) b (((upd fp a ((fp a) ||| (wt_bit (nI b)))) b) ||| (wt_bit (nI a)))))), (up, .inl (cI, 10, .inl fu))] H := hP
        have hD : va_D A [(hm, .inr (0, [.ref pv, .ref up, .int (nI nr)])), (pv, .inl (cI, 10, .inl (upd (upd fp a ((fp a) ||| (wt_bit (nI b)))) b (((upd fp a ((fp a) ||| (wt_bit (nI b)))) b) ||| (wt_bit (nI a)))))), (up, .inl (cI, 10, .inl fu))] := hD
        refine lv_aload_n hx hb dX0_join_58 rfl (lv_at hl 1 rfl) ?_
        refine lv_dup hx hb dX0_join_59 rfl ?_
        refine va_get (D := (dC, dI)) (ci := 0) (v := .int (nI nr)) (C := RX0) (T := TX0) (N := 3) hx hb hts inX0 hown hK hP 0 rfl rfl 2 (by decide) (hts (.fieldLink RX0 18 "WarTable$RoadMap" "roads" "I") (List.mem_of_getElem? (i := 3) rfl)) (fun _ h9 => h9) rfl dX0_join_60 ?_
        refine lv_iconst (v := nI 1) hx hb dX0_join_63 (by decide +kernel) ?_
        refine wt_iadd hx hb dX0_join_64 ?_
        refine va_put (D := (dC, dI)) (ci := 0) (v := .int (nI (nr + 1))) (ty := .int) (C := RX0) (T := TX0) (N := 3) hx hb hts inX0 tyX0 tyX0_ok nmX0 hown hK hP hD hS 0 rfl rfl 2 (by decide) (hts (.fieldLink RX0 18 "WarTable$RoadMap" "roads" "I") (List.mem_of_getElem? (i := 3) rfl)) (fun _ h9 => h9) rfl (by decide +kernel) rfl rfl (Nat.le_of_ble_eq_true rfl) dX0_join_65 (fun H locs hP hD hS => ?_)
        have hP : va_P (dC, dI) vwCl [(hm, .inr (0, [.ref pv, .ref up, .int (nI (nr + 1))])), (pv, .inl (cI, 10, .inl (upd (upd fp a ((fp a) ||| (wt_bit (nI b)))) b (((upd fp a ((fp a) ||| (wt_bit (nI b)))) b) ||| (wt_bit (nI a)))))), (up, .inl (cI, 10, .inl fu))] H := hP
        have hD : va_D A [(hm, .inr (0, [.ref pv, .ref up, .int (nI (nr + 1))])), (pv, .inl (cI, 10, .inl (upd (upd fp a ((fp a) ||| (wt_bit (nI b)))) b (((upd fp a ((fp a) ||| (wt_bit (nI b)))) b) ||| (wt_bit (nI a)))))), (up, .inl (cI, 10, .inl fu))] := hD
        have e6 : (upd (upd fp a ((fp a) ||| (wt_bit (nI b)))) b (((upd fp a ((fp a) ||| (wt_bit (nI b)))) b) ||| (wt_bit (nI a)))) = (wt_if (z = 0) fp (wt_jn fp a b)) := (by simp only [wt_fold_s, wt_jn, wt_if_t c_6_1, wt_if_t c_15_2, wt_if_f c_20_3])
        have hP : va_P (dC, dI) vwCl [(hm, .inr (0, [.ref pv, .ref up, .int (nI (nr + 1))])), (pv, .inl (cI, 10, .inl (wt_if (z = 0) fp (wt_jn fp a b)))), (up, .inl (cI, 10, .inl fu))] H := Eq.mp (congrArg (fun z9 : Nat → Int32 => va_P (dC, dI) vwCl [(hm, .inr (0, [.ref pv, .ref up, .int (nI (nr + 1))])), (pv, .inl (cI, 10, .inl z9)), (up, .inl (cI, 10, .inl fu))] H) e6) hP
        have e7 : fu = (wt_if (z = 0) (wt_jn fu a b) fu) := (by simp only [wt_fold_s, wt_jn, wt_if_t c_6_1, wt_if_t c_15_2, wt_if_f c_20_3])
        have hP : va_P (dC, dI) vwCl [(hm, .inr (0, [.ref pv, .ref up, .int (nI (nr + 1))])), (pv, .inl (cI, 10, .inl (wt_if (z = 0) fp (wt_jn fp a b)))), (up, .inl (cI, 10, .inl (wt_if (z = 0) (wt_jn fu a b) fu)))] H := Eq.mp (congrArg (fun z9 : Nat → Int32 => va_P (dC, dI) vwCl [(hm, .inr (0, [.ref pv, .ref up, .int (nI (nr + 1))])), (pv, .inl (cI, 10, .inl (wt_if (z = 0) fp (wt_jn fp a b)))), (up, .inl (cI, 10, .inl z9))] H) e7) hP
        have hD : va_D A [(hm, .inr (0, [.ref pv, .ref up, .int (nI (nr + 1))])), (pv, .inl (cI, 10, .inl (wt_if (z = 0) fp (wt_jn fp a b)))), (up, .inl (cI, 10, .inl (wt_if (z = 0) (wt_jn fu a b) fu)))] := wt_adr hD rfl
        exact wt_mvret hx hb hr hP hS dX0_join_68 hlocks
    · exfalso; omega
set_option maxHeartbeats 4000000 in
set_option maxRecDepth 100000 in
theorem k_X0_widened (l : Launch) (dC : Nat → ClassId) (dI : Nat → Nat → Nat) (cI : ClassId) (hm : Nat) (pv : Nat) (up : Nat) (fp : Nat → Int32) (fu : Nat → Int32) (nr : Nat) (x : Int32) (w : Int32) : Met l yX0_widened wsX0_widened ({ frames := 2, cells := 0, slots := 0, locals := 43 }) (va_Pc [.ref hm, .int x, .int w] (wt_pre (dC, dI) cI [(hm, .inr (0, [.ref pv, .ref up, .int (nI nr)])), (pv, .inl (cI, 10, .inl fp)), (up, .inl (cI, 10, .inl fu))])) (wt_ro (wt_wid fp fu x w)) 0 0 wt_no := by
  refine Met.ofW (cc := cX0_widened) (maxL := 5) (ret := (some .int)) (by decide) rfl ?_
  intro p e s m args below meth c s₁ B hml hv
  obtain ⟨rfl, hP, hK, hN⟩ := hv
  have hx := B.exec
  have hb := B.bytes
  have hr := B.returns
  have hts := atoms_spec (ws := wsX0_widened) B.pre
  have hown : s.vm.findClass RX0 = some m.cls := findClass_of_methodNamed B.named
  have hlocks := B.notSynchronized
  have inX0 : ∀ w ∈ wsX00, w ∈ wsX0_widened := wt_in [16, 17, 18] (by decide +kernel)
  have hl := lv_entry ([.ref hm, .int x, .int w]) (n := 5) (Nat.le_of_ble_eq_true rfl)
  rw [lg_entry_eq]
  generalize (lg_sl ([.ref hm, .int x, .int w]) ++ List.replicate (5 - (lg_sl ([.ref hm, .int x, .int w])).length) Slot.unset).toArray = ls at hl ⊢
  have hl : lv_has ls 5 [(0, .ref hm), (1, .int x), (2, .int w)] := hl
  refine lv_iload_n hx hb dX0_widened_0 rfl (lv_at hl 1 rfl) ?_
  refine lv_istore_n (lv' := [(3, .int x), (0, .ref hm), (1, .int x), (2, .int w)]) hx hb dX0_widened_1 rfl hl (by decide) rfl (fun ls hl => ?_)
  refine lv_iconst (v := nI 0) hx hb dX0_widened_2 (by decide +kernel) ?_
  refine lv_istore (lv' := [(4, .int (nI 0)), (3, .int x), (0, .ref hm), (1, .int x), (2, .int w)]) hx hb dX0_widened_3 hl (by decide) rfl (fun ls hl => ?_)
  have e1 : x = (wt_fold (wt_wds fp fu x w) 0 x) := rfl
  refine wt_lp (σ := Nat) 0 (fun i => 10 - i) (fun i ls => (i ≤ 10) ∧ lv_has ls 5 [(4, .int (nI i)), (3, .int (wt_fold (wt_wds fp fu x w) i x)), (0, .ref hm), (1, .int x), (2, .int w)]) ⟨(by omega), Eq.mp (congrArg (fun z9 : Int32 => lv_has ls 5 [(4, .int (nI 0)), (3, .int z9), (0, .ref hm), (1, .int x), (2, .int w)]) e1) (lv_sub hl [0, 1, 2, 3, 4] rfl)⟩ (fun i ls h9 ih_5 => ?_)
  obtain ⟨h_5_0, hl⟩ := h9
  refine lv_iload hx hb dX0_widened_5 (lv_at hl 0 rfl) ?_
  refine lv_bipush (v := nI 10) hx hb dX0_widened_7 (by decide +kernel) ?_
  refine wt_icmp_ge (tgt := 37) hx hb (by omega) (by omega) dX0_widened_9 (by decide) (fun c_9_2 => ?_) (fun c_9_2 => ?_)
  · refine lv_iload_n hx hb dX0_widened_37 rfl (lv_at hl 1 rfl) ?_
    exact wt_ret hx hb hr (by rw [show i = 10 by omega]; rfl) rfl dX0_widened_38 hlocks
  · refine lv_iload_n hx hb dX0_widened_12 rfl (lv_at hl 3 rfl) ?_
    refine lv_iload hx hb dX0_widened_13 (lv_at hl 0 rfl) ?_
    refine wt_ro_go (va_runSN (As := [.int x, .int (nI i)]) (rest := []) ⟨hx, hb, hml, hown, hts⟩ (k_X3_has l x (nI i)) ⟨va_cnB (host := RX3) 2 hts gX0_widened_X3_has_n26 rfl rfl rfl (hN _ (List.mem_of_getElem? (i := 3) rfl)) (hts (.initialized RX3) (List.mem_of_getElem? (i := 2) rfl)) (by decide +kernel) ⟨Nat.le_of_ble_eq_true rfl, Nat.le_of_ble_eq_true rfl⟩, (hts (.static yX3_has) (List.mem_of_getElem? (i := 1) rfl)), trivial⟩ wt_PS rfl rfl hl.1 rfl (lv_room (Nat.le_of_ble_eq_true rfl)) dX0_widened_15 ⟨Nat.zero_le _, Nat.zero_le _⟩) ?_
    refine wt_if_eqB (tgt := 31) hx hb dX0_widened_18 (by decide) (fun c_18_3 => ?_) (fun c_18_3 => ?_)
    · refine lv_iinc (v := nI (i + 1)) (lv' := [(4, .int (nI (i + 1))), (3, .int (wt_fold (wt_wds fp fu x w) i x)), (0, .ref hm), (1, .int x), (2, .int w)]) hx hb dX0_widened_31 hl (k := 0) rfl (nI_1 i) (by decide) rfl (fun ls hl => ?_)
      refine lv_goto (tgt := 5) hx hb dX0_widened_34 (by decide) ?_
      have e4 : (wt_fold (wt_wds fp fu x w) i x) = (wt_fold (wt_wds fp fu x w) (i + 1) x) := (by simp only [wt_fold_s, wt_wds, wt_if_f c_18_3])
      exact ih_5 (i + 1) _ (by omega) ⟨(by omega), Eq.mp (congrArg (fun z9 : Int32 => lv_has ls 5 [(4, .int (nI (i + 1))), (3, .int z9), (0, .ref hm), (1, .int x), (2, .int w)]) e4) (lv_sub hl [0, 1, 2, 3, 4] rfl)⟩
    · refine lv_iload_n hx hb dX0_widened_21 rfl (lv_at hl 1 rfl) ?_
      refine lv_aload_n hx hb dX0_widened_22 rfl (lv_at hl 2 rfl) ?_
      refine lv_iload hx hb dX0_widened_23 (lv_at hl 0 rfl) ?_
      refine lv_iload_n hx hb dX0_widened_25 rfl (lv_at hl 4 rfl) ?_
      refine wt_ro_go (va_runV (As := [.int (nI i), .int w]) (rest := [.int (wt_fold (wt_wds fp fu x w) i x)]) ⟨hx, hb, hml, hown, hts⟩ (k_X0_nextOverOpen l dC dI cI hm pv up fp fu nr (nI i) w) (cwV 2 hts gX0_widened_X0_nextOverOpen rfl rfl rfl (by decide +kernel) ⟨Nat.le_of_ble_eq_true rfl, Nat.le_of_ble_eq_true rfl⟩) (wt_PV (C := RX0) (T := TX0) (N := 3) (ci := 0) (q0 := 0) hK hP hN rfl rfl [0, 1, 2] rfl) rfl rfl hl.1 rfl (lv_room (Nat.le_of_ble_eq_true rfl)) dX0_widened_26 ⟨Nat.zero_le _, Nat.zero_le _⟩) ?_
      refine lv_ior hx hb dX0_widened_29 ?_
      refine lv_istore_n (lv' := [(3, .int ((wt_fold (wt_wds fp fu x w) i x) ||| (wt_nxt fp fu (nI i) w))), (4, .int (nI i)), (0, .ref hm), (1, .int x), (2, .int w)]) hx hb dX0_widened_30 rfl hl (by decide) rfl (fun ls hl => ?_)
      refine lv_iinc (v := nI (i + 1)) (lv' := [(4, .int (nI (i + 1))), (3, .int ((wt_fold (wt_wds fp fu x w) i x) ||| (wt_nxt fp fu (nI i) w))), (0, .ref hm), (1, .int x), (2, .int w)]) hx hb dX0_widened_31 hl (k := 1) rfl (nI_1 i) (by decide) rfl (fun ls hl => ?_)
      refine lv_goto (tgt := 5) hx hb dX0_widened_34 (by decide) ?_
      have e5 : ((wt_fold (wt_wds fp fu x w) i x) ||| (wt_nxt fp fu (nI i) w)) = (wt_fold (wt_wds fp fu x w) (i + 1) x) := (by simp only [wt_fold_s, wt_wds, wt_if_t c_18_3])
      exact ih_5 (i + 1) _ (by omega) ⟨(by omega), Eq.mp (congrArg (fun z9 : Int32 => lv_has ls 5 [(4, .int (nI (i + 1))), (3, .int z9), (0, .ref hm), (1, .int x), (2, .int w)]) e5) (lv_sub hl [0, 1, 2, 3, 4] rfl)⟩
end
section
set_option maxHeartbeats 4000000 in
set_option maxRecDepth 100000 in
theorem k_X3_suppliedTowns (l : Launch) (dC : Nat → ClassId) (dI : Nat → Nat → Nat) (cI : ClassId) (h : Nat) (dp : Nat) (we : Nat) (se : Nat) (fd : Nat → Int32) (fw : Nat → Int32) (fe : Nat → Int32) (nt : Nat) (hm : Nat) (pv : Nat) (up : Nat) (fp : Nat → Int32) (fu : Nat → Int32) (nr : Nat) (hu : Nat) (sd : Nat) (tw : Nat) (st : Nat) (od : Nat) (fs : Nat → Int32) (ft : Nat → Int32) (ff : Nat → Int32) (fo : Nat → Int32) (cn : Nat) (hq : Nat) (k : Nat) (d : Nat) (w : Int32) (r : Nat) (hcn : cn ≤ 12) (hk : k < 22) (hd2 : d < 2) (hr2 : r ≤ 100) : Met l yX3_suppliedTowns wsX3_suppliedTowns ({ frames := 3, cells := 0, slots := 0, locals := 68 }) (va_Pc [.ref h, .int (nI k), .int (nI d), .int w, .int (nI r)] (wt_pre (dC, dI) cI [(h, .inr (3, [.ref hm, .ref dp, .ref hu, .ref we, .ref se, .ref hq, .int (nI nt)])), (dp, .inl (cI, 2, .inl fd)), (we, .inl (cI, 20, .inl fw)), (se, .inl (cI, 20, .inl fe)), (hm, .inr (0, [.ref pv, .ref up, .int (nI nr)])), (pv, .inl (cI, 10, .inl fp)), (up, .inl (cI, 10, .inl fu)), (hu, .inr (2, [.ref sd, .ref tw, .ref st, .ref od, .int (nI cn)])), (sd, .inl (cI, 12, .inl fs)), (tw, .inl (cI, 264, .inl ft)), (st, .inl (cI, 264, .inl ff)), (od, .inl (cI, 264, .inl fo))])) (wt_ro (wt_sup fd fp fu fs ft cn k d w r)) 0 0 wt_no := by
  refine Met.ofW (cc := cX3_suppliedTowns) (maxL := 8) (ret := (some .int)) (by decide) rfl ?_
  intro p e s m args below meth c s₁ B hml hv
  obtain ⟨rfl, hP, hK, hN⟩ := hv
  have hx := B.exec
  have hb := B.bytes
  have hr := B.returns
  have hts := atoms_spec (ws := wsX3_suppliedTowns) B.pre
  have hown : s.vm.findClass RX3 = some m.cls := findClass_of_methodNamed B.named
  have hlocks := B.notSynchronized
  have inX0 : ∀ w ∈ wsX00, w ∈ wsX3_suppliedTowns := wt_in [61, 62, 63] (by decide +kernel)
  have inX2 : ∀ w ∈ wsX20, w ∈ wsX3_suppliedTowns := wt_in [56, 57, 58, 59, 60] (by decide +kernel)
  have inX3 : ∀ w ∈ wsX30, w ∈ wsX3_suppliedTowns := wt_in [49, 50, 51, 52, 53, 54, 55] (by decide +kernel)
  have hl := lv_entry ([.ref h, .int (nI k), .int (nI d), .int w, .int (nI r)]) (n := 8) (Nat.le_of_ble_eq_true rfl)
  rw [lg_entry_eq]
  generalize (lg_sl ([.ref h, .int (nI k), .int (nI d), .int w, .int (nI r)]) ++ List.replicate (8 - (lg_sl ([.ref h, .int (nI k), .int (nI d), .int w, .int (nI r)])).length) Slot.unset).toArray = ls at hl ⊢
  have hl : lv_has ls 8 [(0, .ref h), (1, .int (nI k)), (2, .int (nI d)), (3, .int w), (4, .int (nI r))] := hl
  refine lv_iload_n hx hb dX3_suppliedTowns_0 rfl (lv_at hl 2 rfl) ?_
  refine lv_iconst (v := nI 2) hx hb dX3_suppliedTowns_1 (by decide +kernel) ?_
  refine wt_ro_go (va_runS (As := [.int (nI d), .int (nI 2)]) (rest := []) ⟨hx, hb, hml, hown, hts⟩ (k_X3_belowN l d 2 (by omega) (by omega)) (va_cwS 2 hts gX3_suppliedTowns_X3_below rfl rfl rfl (by decide +kernel) ⟨Nat.le_of_ble_eq_true rfl, Nat.le_of_ble_eq_true rfl⟩) wt_PS rfl rfl hl.1 rfl (lv_room (Nat.le_of_ble_eq_true rfl)) dX3_suppliedTowns_2 ⟨Nat.zero_le _, Nat.zero_le _⟩) ?_
  refine wt_if_neB (tgt := 10) hx hb dX3_suppliedTowns_5 (by decide) (fun c_5_1 => ?_) (fun c_5_1 => ?_)
  · refine lv_aload_n hx hb dX3_suppliedTowns_10 rfl (lv_at hl 0 rfl) ?_
    refine va_get (D := (dC, dI)) (ci := 3) (v := .ref hu) (C := RX3) (T := TX3) (N := 7) hx hb hts inX3 hown hK hP 0 rfl rfl 2 (by decide) (hts (.fieldLink RX3 23 "WarTable" "units" "LWarTable$Units;") (List.mem_of_getElem? (i := 1) rfl)) (fun _ h9 => h9) rfl dX3_suppliedTowns_11 ?_
    refine lv_iload_n hx hb dX3_suppliedTowns_14 rfl (lv_at hl 1 rfl) ?_
    refine lv_iload_n hx hb dX3_suppliedTowns_15 rfl (lv_at hl 2 rfl) ?_
    refine wt_ro_go (va_runS (As := [.int (nI d)]) (rest := [.int (nI k), .ref hu]) ⟨hx, hb, hml, hown, hts⟩ (k_X3_opponent l d (by omega)) (va_cwS 1 hts gX3_suppliedTowns_X3_opponent rfl rfl rfl (by decide +kernel) ⟨Nat.le_of_ble_eq_true rfl, Nat.le_of_ble_eq_true rfl⟩) wt_PS rfl rfl hl.1 rfl (lv_room (Nat.le_of_ble_eq_true rfl)) dX3_suppliedTowns_16 ⟨Nat.zero_le _, Nat.zero_le _⟩) ?_
    refine wt_ro_go (va_runV (As := [.int (nI k), .int (nI (1 - d))]) (rest := []) ⟨hx, hb, hml, hown, hts⟩ (k_X2_townsHeld l dC dI cI hu sd tw st od fs ft ff fo cn k (1 - d) (by omega) (by omega)) (cwV 2 hts gX3_suppliedTowns_X2_townsHeld rfl rfl rfl (by decide +kernel) ⟨Nat.le_of_ble_eq_true rfl, Nat.le_of_ble_eq_true rfl⟩) (wt_PV (C := RX2) (T := TX2) (N := 5) (ci := 2) (q0 := 7) hK hP hN rfl rfl [7, 8, 9, 10, 11] rfl) rfl rfl hl.1 rfl (lv_room (Nat.le_of_ble_eq_true rfl)) dX3_suppliedTowns_19 ⟨Nat.zero_le _, Nat.zero_le _⟩) ?_
    refine lv_iconst (v := (-1)) hx hb dX3_suppliedTowns_22 (by decide +kernel) ?_
    refine lv_ixor hx hb dX3_suppliedTowns_23 ?_
    refine lv_istore (lv' := [(5, .int ((wt_held fs ft k (1 - d) cn) ^^^ (-1))), (0, .ref h), (1, .int (nI k)), (2, .int (nI d)), (3, .int w), (4, .int (nI r))]) hx hb dX3_suppliedTowns_24 hl (by decide) rfl (fun ls hl => ?_)
    refine lv_aload_n hx hb dX3_suppliedTowns_26 rfl (lv_at hl 1 rfl) ?_
    refine va_get (D := (dC, dI)) (ci := 3) (v := .ref dp) (C := RX3) (T := TX3) (N := 7) hx hb hts inX3 hown hK hP 0 rfl rfl 1 (by decide) (hts (.fieldLink RX3 16 "WarTable" "depots" "[I") (List.mem_of_getElem? (i := 2) rfl)) (fun _ h9 => h9) rfl dX3_suppliedTowns_27 ?_
    refine lv_iload_n hx hb dX3_suppliedTowns_30 rfl (lv_at hl 3 rfl) ?_
    refine wt_iald hx hb hK hP 1 rfl (by omega) (by omega) dX3_suppliedTowns_31 ?_
    refine wt_ro_go (va_runS (As := [.int (fd d)]) (rest := []) ⟨hx, hb, hml, hown, hts⟩ (k_X3_bit l (fd d)) (va_cwS 1 hts gX3_suppliedTowns_X3_bit rfl rfl rfl (by decide +kernel) ⟨Nat.le_of_ble_eq_true rfl, Nat.le_of_ble_eq_true rfl⟩) wt_PS rfl rfl hl.1 rfl (lv_room (Nat.le_of_ble_eq_true rfl)) dX3_suppliedTowns_32 ⟨Nat.zero_le _, Nat.zero_le _⟩) ?_
    refine lv_iload hx hb dX3_suppliedTowns_35 (lv_at hl 0 rfl) ?_
    refine lv_iand hx hb dX3_suppliedTowns_37 ?_
    refine lv_istore (lv' := [(6, .int ((wt_bit (fd d)) &&& ((wt_held fs ft k (1 - d) cn) ^^^ (-1)))), (5, .int ((wt_held fs ft k (1 - d) cn) ^^^ (-1))), (0, .ref h), (1, .int (nI k)), (2, .int (nI d)), (3, .int w), (4, .int (nI r))]) hx hb dX3_suppliedTowns_38 hl (by decide) rfl (fun ls hl => ?_)
    refine lv_iconst (v := nI 0) hx hb dX3_suppliedTowns_40 (by decide +kernel) ?_
    refine lv_istore (lv' := [(7, .int (nI 0)), (6, .int ((wt_bit (fd d)) &&& ((wt_held fs ft k (1 - d) cn) ^^^ (-1)))), (5, .int ((wt_held fs ft k (1 - d) cn) ^^^ (-1))), (0, .ref h), (1, .int (nI k)), (2, .int (nI d)), (3, .int w), (4, .int (nI r))]) hx hb dX3_suppliedTowns_41 hl (by decide) rfl (fun ls hl => ?_)
    have e2 : ((wt_bit (fd d)) &&& ((wt_held fs ft k (1 - d) cn) ^^^ (-1))) = (wt_fold (fun _ t => wt_wid fp fu t w &&& (wt_held fs ft k (1 - d) cn ^^^ (-1))) 0 (wt_bit (fd d) &&& (wt_held fs ft k (1 - d) cn ^^^ (-1)))) := rfl
    refine wt_lp (σ := Nat) 0 (fun i => r - i) (fun i ls => (i ≤ r) ∧ lv_has ls 8 [(7, .int (nI i)), (6, .int (wt_fold (fun _ t => wt_wid fp fu t w &&& (wt_held fs ft k (1 - d) cn ^^^ (-1))) i (wt_bit (fd d) &&& (wt_held fs ft k (1 - d) cn ^^^ (-1))))), (5, .int ((wt_held fs ft k (1 - d) cn) ^^^ (-1))), (0, .ref h), (1, .int (nI k)), (2, .int (nI d)), (3, .int w), (4, .int (nI r))]) ⟨(by omega), Eq.mp (congrArg (fun z9 : Int32 => lv_has ls 8 [(7, .int (nI 0)), (6, .int z9), (5, .int ((wt_held fs ft k (1 - d) cn) ^^^ (-1))), (0, .ref h), (1, .int (nI k)), (2, .int (nI d)), (3, .int w), (4, .int (nI r))]) e2) (lv_sub hl [0, 1, 2, 3, 4, 5, 6, 7] rfl)⟩ (fun i ls h9 ih_43 => ?_)
    obtain ⟨h_43_0, hl⟩ := h9
    refine lv_iload hx hb dX3_suppliedTowns_43 (lv_at hl 0 rfl) ?_
    refine lv_iload hx hb dX3_suppliedTowns_45 (lv_at hl 7 rfl) ?_
    refine wt_icmp_ge (tgt := 71) hx hb (by omega) (by omega) dX3_suppliedTowns_47 (by decide) (fun c_47_3 => ?_) (fun c_47_3 => ?_)
    · refine lv_iload hx hb dX3_suppliedTowns_71 (lv_at hl 1 rfl) ?_
      exact wt_ret hx hb hr (by rw [show i = r by omega]; rfl) rfl dX3_suppliedTowns_73 hlocks
    · refine lv_aload_n hx hb dX3_suppliedTowns_50 rfl (lv_at hl 3 rfl) ?_
      refine va_get (D := (dC, dI)) (ci := 3) (v := .ref hm) (C := RX3) (T := TX3) (N := 7) hx hb hts inX3 hown hK hP 0 rfl rfl 0 (by decide) (hts (.fieldLink RX3 12 "WarTable" "map" "LWarTable$RoadMap;") (List.mem_of_getElem? (i := 3) rfl)) (fun _ h9 => h9) rfl dX3_suppliedTowns_51 ?_
      refine lv_iload hx hb dX3_suppliedTowns_54 (lv_at hl 1 rfl) ?_
      refine lv_iload_n hx hb dX3_suppliedTowns_56 rfl (lv_at hl 6 rfl) ?_
      refine wt_ro_go (va_runV (As := [.int (wt_fold (fun _ t => wt_wid fp fu t w &&& (wt_held fs ft k (1 - d) cn ^^^ (-1))) i (wt_bit (fd d) &&& (wt_held fs ft k (1 - d) cn ^^^ (-1)))), .int w]) (rest := []) ⟨hx, hb, hml, hown, hts⟩ (k_X0_widened l dC dI cI hm pv up fp fu nr (wt_fold (fun _ t => wt_wid fp fu t w &&& (wt_held fs ft k (1 - d) cn ^^^ (-1))) i (wt_bit (fd d) &&& (wt_held fs ft k (1 - d) cn ^^^ (-1)))) w) (cwV 2 hts gX3_suppliedTowns_X0_widened rfl rfl rfl (by decide +kernel) ⟨Nat.le_of_ble_eq_true rfl, Nat.le_of_ble_eq_true rfl⟩) (wt_PV (C := RX0) (T := TX0) (N := 3) (ci := 0) (q0 := 4) hK hP hN rfl rfl [4, 5, 6] rfl) rfl rfl hl.1 rfl (lv_room (Nat.le_of_ble_eq_true rfl)) dX3_suppliedTowns_57 ⟨Nat.zero_le _, Nat.zero_le _⟩) ?_
      refine lv_iload hx hb dX3_suppliedTowns_60 (lv_at hl 2 rfl) ?_
      refine lv_iand hx hb dX3_suppliedTowns_62 ?_
      refine lv_istore (lv' := [(6, .int ((wt_wid fp fu (wt_fold (fun _ t => wt_wid fp fu t w &&& (wt_held fs ft k (1 - d) cn ^^^ (-1))) i (wt_bit (fd d) &&& (wt_held fs ft k (1 - d) cn ^^^ (-1)))) w) &&& ((wt_held fs ft k (1 - d) cn) ^^^ (-1)))), (7, .int (nI i)), (5, .int ((wt_held fs ft k (1 - d) cn) ^^^ (-1))), (0, .ref h), (1, .int (nI k)), (2, .int (nI d)), (3, .int w), (4, .int (nI r))]) hx hb dX3_suppliedTowns_63 hl (by decide) rfl (fun ls hl => ?_)
      refine lv_iinc (v := nI (i + 1)) (lv' := [(7, .int (nI (i + 1))), (6, .int ((wt_wid fp fu (wt_fold (fun _ t => wt_wid fp fu t w &&& (wt_held fs ft k (1 - d) cn ^^^ (-1))) i (wt_bit (fd d) &&& (wt_held fs ft k (1 - d) cn ^^^ (-1)))) w) &&& ((wt_held fs ft k (1 - d) cn) ^^^ (-1)))), (5, .int ((wt_held fs ft k (1 - d) cn) ^^^ (-1))), (0, .ref h), (1, .int (nI k)), (2, .int (nI d)), (3, .int w), (4, .int (nI r))]) hx hb dX3_suppliedTowns_65 hl (k := 1) rfl (nI_1 i) (by decide) rfl (fun ls hl => ?_)
      refine lv_goto (tgt := 43) hx hb dX3_suppliedTowns_68 (by decide) ?_
      have e4 : ((wt_wid fp fu (wt_fold (fun _ t => wt_wid fp fu t w &&& (wt_held fs ft k (1 - d) cn ^^^ (-1))) i (wt_bit (fd d) &&& (wt_held fs ft k (1 - d) cn ^^^ (-1)))) w) &&& ((wt_held fs ft k (1 - d) cn) ^^^ (-1))) = (wt_fold (fun _ t => wt_wid fp fu t w &&& (wt_held fs ft k (1 - d) cn ^^^ (-1))) (i + 1) (wt_bit (fd d) &&& (wt_held fs ft k (1 - d) cn ^^^ (-1)))) := rfl
      exact ih_43 (i + 1) _ (by omega) ⟨(by omega), Eq.mp (congrArg (fun z9 : Int32 => lv_has ls 8 [(7, .int (nI (i + 1))), (6, .int z9), (5, .int ((wt_held fs ft k (1 - d) cn) ^^^ (-1))), (0, .ref h), (1, .int (nI k)), (2, .int (nI d)), (3, .int w), (4, .int (nI r))]) e4) (lv_sub hl [0, 1, 2, 3, 4, 5, 6, 7] rfl)⟩
  · exfalso; omega
set_option maxHeartbeats 4000000 in
set_option maxRecDepth 100000 in
theorem k_X3_suppliedUnits (l : Launch) (dC : Nat → ClassId) (dI : Nat → Nat → Nat) (cI : ClassId) (h : Nat) (dp : Nat) (we : Nat) (se : Nat) (fd : Nat → Int32) (fw : Nat → Int32) (fe : Nat → Int32) (nt : Nat) (hm : Nat) (pv : Nat) (up : Nat) (fp : Nat → Int32) (fu : Nat → Int32) (nr : Nat) (hu : Nat) (sd : Nat) (tw : Nat) (st : Nat) (od : Nat) (fs : Nat → Int32) (ft : Nat → Int32) (ff : Nat → Int32) (fo : Nat → Int32) (cn : Nat) (hq : Nat) (k : Nat) (w : Int32) (hcn : cn ≤ 12) (hk : k < 22) : Met l yX3_suppliedUnits wsX3_suppliedUnits ({ frames := 4, cells := 0, slots := 0, locals := 95 }) (va_Pc [.ref h, .int (nI k), .int w] (wt_pre (dC, dI) cI [(h, .inr (3, [.ref hm, .ref dp, .ref hu, .ref we, .ref se, .ref hq, .int (nI nt)])), (dp, .inl (cI, 2, .inl fd)), (we, .inl (cI, 20, .inl fw)), (se, .inl (cI, 20, .inl fe)), (hm, .inr (0, [.ref pv, .ref up, .int (nI nr)])), (pv, .inl (cI, 10, .inl fp)), (up, .inl (cI, 10, .inl fu)), (hu, .inr (2, [.ref sd, .ref tw, .ref st, .ref od, .int (nI cn)])), (sd, .inl (cI, 12, .inl fs)), (tw, .inl (cI, 264, .inl ft)), (st, .inl (cI, 264, .inl ff)), (od, .inl (cI, 264, .inl fo))])) (wt_ro (wt_sun fd fp fu fs ft cn k w)) 0 0 wt_no := by
  refine Met.ofW (cc := cX3_suppliedUnits) (maxL := 7) (ret := (some .int)) (by decide) rfl ?_
  intro p e s m args below meth c s₁ B hml hv
  obtain ⟨rfl, hP, hK, hN⟩ := hv
  have hx := B.exec
  have hb := B.bytes
  have hr := B.returns
  have hts := atoms_spec (ws := wsX3_suppliedUnits) B.pre
  have hown : s.vm.findClass RX3 = some m.cls := findClass_of_methodNamed B.named
  have hlocks := B.notSynchronized
  have inX0 : ∀ w ∈ wsX00, w ∈ wsX3_suppliedUnits := wt_in [72, 73, 74] (by decide +kernel)
  have inX2 : ∀ w ∈ wsX20, w ∈ wsX3_suppliedUnits := wt_in [67, 68, 69, 70, 71] (by decide +kernel)
  have inX3 : ∀ w ∈ wsX30, w ∈ wsX3_suppliedUnits := wt_in [60, 61, 62, 63, 64, 65, 66] (by decide +kernel)
  have hl := lv_entry ([.ref h, .int (nI k), .int w]) (n := 7) (Nat.le_of_ble_eq_true rfl)
  rw [lg_entry_eq]
  generalize (lg_sl ([.ref h, .int (nI k), .int w]) ++ List.replicate (7 - (lg_sl ([.ref h, .int (nI k), .int w])).length) Slot.unset).toArray = ls at hl ⊢
  have hl : lv_has ls 7 [(0, .ref h), (1, .int (nI k)), (2, .int w)] := hl
  refine lv_aload_n hx hb dX3_suppliedUnits_0 rfl (lv_at hl 0 rfl) ?_
  refine lv_iload_n hx hb dX3_suppliedUnits_1 rfl (lv_at hl 1 rfl) ?_
  refine lv_iconst (v := nI 0) hx hb dX3_suppliedUnits_2 (by decide +kernel) ?_
  refine lv_iload_n hx hb dX3_suppliedUnits_3 rfl (lv_at hl 2 rfl) ?_
  refine lv_iconst (v := nI 4) hx hb dX3_suppliedUnits_4 (by decide +kernel) ?_
  refine wt_ro_go (va_runV (As := [.int (nI k), .int (nI 0), .int w, .int (nI 4)]) (rest := []) ⟨hx, hb, hml, hown, hts⟩ (k_X3_suppliedTowns l dC dI cI h dp we se fd fw fe nt hm pv up fp fu nr hu sd tw st od fs ft ff fo cn hq k 0 w 4 (by omega) (by omega) (by omega) (by omega)) (cwV 4 hts gX3_suppliedUnits_X3_suppliedTowns rfl rfl rfl (by decide +kernel) ⟨Nat.le_of_ble_eq_true rfl, Nat.le_of_ble_eq_true rfl⟩) (wt_PV (C := RX3) (T := TX3) (N := 7) (ci := 3) (q0 := 0) hK hP hN rfl rfl [0, 1, 2, 3, 4, 5, 6, 7, 8, 9, 10, 11] rfl) rfl rfl hl.1 rfl (lv_room (Nat.le_of_ble_eq_true rfl)) dX3_suppliedUnits_5 ⟨Nat.zero_le _, Nat.zero_le _⟩) ?_
  refine lv_istore_n (lv' := [(3, .int (wt_sup fd fp fu fs ft cn k 0 w 4)), (0, .ref h), (1, .int (nI k)), (2, .int w)]) hx hb dX3_suppliedUnits_8 rfl hl (by decide) rfl (fun ls hl => ?_)
  refine lv_aload_n hx hb dX3_suppliedUnits_9 rfl (lv_at hl 1 rfl) ?_
  refine lv_iload_n hx hb dX3_suppliedUnits_10 rfl (lv_at hl 2 rfl) ?_
  refine lv_iconst (v := nI 1) hx hb dX3_suppliedUnits_11 (by decide +kernel) ?_
  refine lv_iload_n hx hb dX3_suppliedUnits_12 rfl (lv_at hl 3 rfl) ?_
  refine lv_iconst (v := nI 4) hx hb dX3_suppliedUnits_13 (by decide +kernel) ?_
  refine wt_ro_go (va_runV (As := [.int (nI k), .int (nI 1), .int w, .int (nI 4)]) (rest := []) ⟨hx, hb, hml, hown, hts⟩ (k_X3_suppliedTowns l dC dI cI h dp we se fd fw fe nt hm pv up fp fu nr hu sd tw st od fs ft ff fo cn hq k 1 w 4 (by omega) (by omega) (by omega) (by omega)) (cwV 4 hts gX3_suppliedUnits_X3_suppliedTowns rfl rfl rfl (by decide +kernel) ⟨Nat.le_of_ble_eq_true rfl, Nat.le_of_ble_eq_true rfl⟩) (wt_PV (C := RX3) (T := TX3) (N := 7) (ci := 3) (q0 := 0) hK hP hN rfl rfl [0, 1, 2, 3, 4, 5, 6, 7, 8, 9, 10, 11] rfl) rfl rfl hl.1 rfl (lv_room (Nat.le_of_ble_eq_true rfl)) dX3_suppliedUnits_14 ⟨Nat.zero_le _, Nat.zero_le _⟩) ?_
  refine lv_istore (lv' := [(4, .int (wt_sup fd fp fu fs ft cn k 1 w 4)), (3, .int (wt_sup fd fp fu fs ft cn k 0 w 4)), (0, .ref h), (1, .int (nI k)), (2, .int w)]) hx hb dX3_suppliedUnits_17 hl (by decide) rfl (fun ls hl => ?_)
  refine lv_iconst (v := nI 0) hx hb dX3_suppliedUnits_19 (by decide +kernel) ?_
  refine lv_istore (lv' := [(5, .int (nI 0)), (4, .int (wt_sup fd fp fu fs ft cn k 1 w 4)), (3, .int (wt_sup fd fp fu fs ft cn k 0 w 4)), (0, .ref h), (1, .int (nI k)), (2, .int w)]) hx hb dX3_suppliedUnits_20 hl (by decide) rfl (fun ls hl => ?_)
  refine lv_iconst (v := nI 0) hx hb dX3_suppliedUnits_22 (by decide +kernel) ?_
  refine lv_istore (lv' := [(6, .int (nI 0)), (5, .int (nI 0)), (4, .int (wt_sup fd fp fu fs ft cn k 1 w 4)), (3, .int (wt_sup fd fp fu fs ft cn k 0 w 4)), (0, .ref h), (1, .int (nI k)), (2, .int w)]) hx hb dX3_suppliedUnits_23 hl (by decide) rfl (fun ls hl => ?_)
  have e1 : nI 0 = (wt_fold (wt_sus (wt_sup fd fp fu fs ft cn k 0 w 4) (wt_sup fd fp fu fs ft cn k 1 w 4) fs ft k) 0 (nI 0)) := rfl
  refine wt_lp (σ := Nat) 0 (fun i => cn - i) (fun i ls => (i ≤ cn) ∧ lv_has ls 7 [(6, .int (nI i)), (5, .int (wt_fold (wt_sus (wt_sup fd fp fu fs ft cn k 0 w 4) (wt_sup fd fp fu fs ft cn k 1 w 4) fs ft k) i (nI 0))), (4, .int (wt_sup fd fp fu fs ft cn k 1 w 4)), (3, .int (wt_sup fd fp fu fs ft cn k 0 w 4)), (0, .ref h), (1, .int (nI k)), (2, .int w)]) ⟨(by omega), Eq.mp (congrArg (fun z9 : Int32 => lv_has ls 7 [(6, .int (nI 0)), (5, .int z9), (4, .int (wt_sup fd fp fu fs ft cn k 1 w 4)), (3, .int (wt_sup fd fp fu fs ft cn k 0 w 4)), (0, .ref h), (1, .int (nI k)), (2, .int w)]) e1) (lv_sub hl [0, 1, 2, 3, 4, 5, 6] rfl)⟩ (fun i ls h9 ih_25 => ?_)
  obtain ⟨h_25_0, hl⟩ := h9
  refine lv_iload hx hb dX3_suppliedUnits_25 (lv_at hl 0 rfl) ?_
  refine lv_aload_n hx hb dX3_suppliedUnits_27 rfl (lv_at hl 4 rfl) ?_
  refine va_get (D := (dC, dI)) (ci := 3) (v := .ref hu) (C := RX3) (T := TX3) (N := 7) hx hb hts inX3 hown hK hP 0 rfl rfl 2 (by decide) (hts (.fieldLink RX3 23 "WarTable" "units" "LWarTable$Units;") (List.mem_of_getElem? (i := 1) rfl)) (fun _ h9 => h9) rfl dX3_suppliedUnits_28 ?_
  refine wt_ro_go (va_runV (As := []) (rest := [.int (nI i)]) ⟨hx, hb, hml, hown, hts⟩ (k_X2_count l dC dI cI hu sd tw st od fs ft ff fo cn) (cwV 0 hts gX3_suppliedUnits_X2_count rfl rfl rfl (by decide +kernel) ⟨Nat.le_of_ble_eq_true rfl, Nat.le_of_ble_eq_true rfl⟩) (wt_PV (C := RX2) (T := TX2) (N := 5) (ci := 2) (q0 := 7) hK hP hN rfl rfl [7, 8, 9, 10, 11] rfl) rfl rfl hl.1 rfl (lv_room (Nat.le_of_ble_eq_true rfl)) dX3_suppliedUnits_31 ⟨Nat.zero_le _, Nat.zero_le _⟩) ?_
  refine wt_icmp_ge (tgt := 87) hx hb (by omega) (by omega) dX3_suppliedUnits_34 (by decide) (fun c_34_2 => ?_) (fun c_34_2 => ?_)
  · refine lv_iload hx hb dX3_suppliedUnits_87 (lv_at hl 1 rfl) ?_
    exact wt_ret hx hb hr (by rw [show i = cn by omega]; rfl) rfl dX3_suppliedUnits_89 hlocks
  · refine lv_aload_n hx hb dX3_suppliedUnits_37 rfl (lv_at hl 4 rfl) ?_
    refine va_get (D := (dC, dI)) (ci := 3) (v := .ref hu) (C := RX3) (T := TX3) (N := 7) hx hb hts inX3 hown hK hP 0 rfl rfl 2 (by decide) (hts (.fieldLink RX3 23 "WarTable" "units" "LWarTable$Units;") (List.mem_of_getElem? (i := 1) rfl)) (fun _ h9 => h9) rfl dX3_suppliedUnits_38 ?_
    refine lv_iload hx hb dX3_suppliedUnits_41 (lv_at hl 0 rfl) ?_
    refine wt_ro_go (va_runV (As := [.int (nI i)]) (rest := []) ⟨hx, hb, hml, hown, hts⟩ (k_X2_sideOf l dC dI cI hu sd tw st od fs ft ff fo cn i (by omega)) (cwV 1 hts gX3_suppliedUnits_X2_sideOf rfl rfl rfl (by decide +kernel) ⟨Nat.le_of_ble_eq_true rfl, Nat.le_of_ble_eq_true rfl⟩) (wt_PV (C := RX2) (T := TX2) (N := 5) (ci := 2) (q0 := 7) hK hP hN rfl rfl [7, 8, 9, 10, 11] rfl) rfl rfl hl.1 rfl (lv_room (Nat.le_of_ble_eq_true rfl)) dX3_suppliedUnits_43 ⟨Nat.zero_le _, Nat.zero_le _⟩) ?_
    refine wt_if_neI (tgt := 53) hx hb dX3_suppliedUnits_46 (by decide) (fun c_46_3 => ?_) (fun c_46_3 => ?_)
    · refine lv_iload hx hb dX3_suppliedUnits_53 (lv_at hl 2 rfl) ?_
      refine lv_aload_n hx hb dX3_suppliedUnits_55 rfl (lv_at hl 4 rfl) ?_
      refine va_get (D := (dC, dI)) (ci := 3) (v := .ref hu) (C := RX3) (T := TX3) (N := 7) hx hb hts inX3 hown hK hP 0 rfl rfl 2 (by decide) (hts (.fieldLink RX3 23 "WarTable" "units" "LWarTable$Units;") (List.mem_of_getElem? (i := 1) rfl)) (fun _ h9 => h9) rfl dX3_suppliedUnits_56 ?_
      refine lv_iload_n hx hb dX3_suppliedUnits_59 rfl (lv_at hl 5 rfl) ?_
      refine lv_iload hx hb dX3_suppliedUnits_60 (lv_at hl 0 rfl) ?_
      refine wt_ro_go (va_runV (As := [.int (nI k), .int (nI i)]) (rest := [.int (wt_sup fd fp fu fs ft cn k 1 w 4)]) ⟨hx, hb, hml, hown, hts⟩ (k_X2_townAt l dC dI cI hu sd tw st od fs ft ff fo cn k i (by omega) (by omega)) (cwV 2 hts gX3_suppliedUnits_X2_townAt rfl rfl rfl (by decide +kernel) ⟨Nat.le_of_ble_eq_true rfl, Nat.le_of_ble_eq_true rfl⟩) (wt_PV (C := RX2) (T := TX2) (N := 5) (ci := 2) (q0 := 7) hK hP hN rfl rfl [7, 8, 9, 10, 11] rfl) rfl rfl hl.1 rfl (lv_room (Nat.le_of_ble_eq_true rfl)) dX3_suppliedUnits_62 ⟨Nat.zero_le _, Nat.zero_le _⟩) ?_
      refine wt_ro_go (va_runS (As := [.int (wt_sup fd fp fu fs ft cn k 1 w 4), .int (ft (k * 12 + i))]) (rest := []) ⟨hx, hb, hml, hown, hts⟩ (k_X3_has l (wt_sup fd fp fu fs ft cn k 1 w 4) (ft (k * 12 + i))) (va_cwS 2 hts gX3_suppliedUnits_X3_has rfl rfl rfl (by decide +kernel) ⟨Nat.le_of_ble_eq_true rfl, Nat.le_of_ble_eq_true rfl⟩) wt_PS rfl rfl hl.1 rfl (lv_room (Nat.le_of_ble_eq_true rfl)) dX3_suppliedUnits_65 ⟨Nat.zero_le _, Nat.zero_le _⟩) ?_
      refine wt_if_eqB (tgt := 81) hx hb dX3_suppliedUnits_68 (by decide) (fun c_68_4 => ?_) (fun c_68_4 => ?_)
      · refine lv_iinc (v := nI (i + 1)) (lv' := [(6, .int (nI (i + 1))), (5, .int (wt_fold (wt_sus (wt_sup fd fp fu fs ft cn k 0 w 4) (wt_sup fd fp fu fs ft cn k 1 w 4) fs ft k) i (nI 0))), (4, .int (wt_sup fd fp fu fs ft cn k 1 w 4)), (3, .int (wt_sup fd fp fu fs ft cn k 0 w 4)), (0, .ref h), (1, .int (nI k)), (2, .int w)]) hx hb dX3_suppliedUnits_81 hl (k := 0) rfl (nI_1 i) (by decide) rfl (fun ls hl => ?_)
        refine lv_goto (tgt := 25) hx hb dX3_suppliedUnits_84 (by decide) ?_
        have e5 : (wt_fold (wt_sus (wt_sup fd fp fu fs ft cn k 0 w 4) (wt_sup fd fp fu fs ft cn k 1 w 4) fs ft k) i (nI 0)) = (wt_fold (wt_sus (wt_sup fd fp fu fs ft cn k 0 w 4) (wt_sup fd fp fu fs ft cn k 1 w 4) fs ft k) (i + 1) (nI 0)) := (by simp only [wt_fold_s, wt_sus, wt_if_f c_46_3, wt_if_f c_68_4])
        exact ih_25 (i + 1) _ (by omega) ⟨(by omega), Eq.mp (congrArg (fun z9 : Int32 => lv_has ls 7 [(6, .int (nI (i + 1))), (5, .int z9), (4, .int (wt_sup fd fp fu fs ft cn k 1 w 4)), (3, .int (wt_sup fd fp fu fs ft cn k 0 w 4)), (0, .ref h), (1, .int (nI k)), (2, .int w)]) e5) (lv_sub hl [0, 1, 2, 3, 4, 5, 6] rfl)⟩
      · refine lv_iload hx hb dX3_suppliedUnits_71 (lv_at hl 1 rfl) ?_
        refine lv_iload hx hb dX3_suppliedUnits_73 (lv_at hl 0 rfl) ?_
        refine wt_ro_go (va_runS (As := [.int (nI i)]) (rest := [.int (wt_fold (wt_sus (wt_sup fd fp fu fs ft cn k 0 w 4) (wt_sup fd fp fu fs ft cn k 1 w 4) fs ft k) i (nI 0))]) ⟨hx, hb, hml, hown, hts⟩ (k_X3_bit l (nI i)) (va_cwS 1 hts gX3_suppliedUnits_X3_bit rfl rfl rfl (by decide +kernel) ⟨Nat.le_of_ble_eq_true rfl, Nat.le_of_ble_eq_true rfl⟩) wt_PS rfl rfl hl.1 rfl (lv_room (Nat.le_of_ble_eq_true rfl)) dX3_suppliedUnits_75 ⟨Nat.zero_le _, Nat.zero_le _⟩) ?_
        refine lv_ior hx hb dX3_suppliedUnits_78 ?_
        refine lv_istore (lv' := [(5, .int ((wt_fold (wt_sus (wt_sup fd fp fu fs ft cn k 0 w 4) (wt_sup fd fp fu fs ft cn k 1 w 4) fs ft k) i (nI 0)) ||| (wt_bit (nI i)))), (6, .int (nI i)), (4, .int (wt_sup fd fp fu fs ft cn k 1 w 4)), (3, .int (wt_sup fd fp fu fs ft cn k 0 w 4)), (0, .ref h), (1, .int (nI k)), (2, .int w)]) hx hb dX3_suppliedUnits_79 hl (by decide) rfl (fun ls hl => ?_)
        refine lv_iinc (v := nI (i + 1)) (lv' := [(6, .int (nI (i + 1))), (5, .int ((wt_fold (wt_sus (wt_sup fd fp fu fs ft cn k 0 w 4) (wt_sup fd fp fu fs ft cn k 1 w 4) fs ft k) i (nI 0)) ||| (wt_bit (nI i)))), (4, .int (wt_sup fd fp fu fs ft cn k 1 w 4)), (3, .int (wt_sup fd fp fu fs ft cn k 0 w 4)), (0, .ref h), (1, .int (nI k)), (2, .int w)]) hx hb dX3_suppliedUnits_81 hl (k := 1) rfl (nI_1 i) (by decide) rfl (fun ls hl => ?_)
        refine lv_goto (tgt := 25) hx hb dX3_suppliedUnits_84 (by decide) ?_
        have e6 : ((wt_fold (wt_sus (wt_sup fd fp fu fs ft cn k 0 w 4) (wt_sup fd fp fu fs ft cn k 1 w 4) fs ft k) i (nI 0)) ||| (wt_bit (nI i))) = (wt_fold (wt_sus (wt_sup fd fp fu fs ft cn k 0 w 4) (wt_sup fd fp fu fs ft cn k 1 w 4) fs ft k) (i + 1) (nI 0)) := (by simp only [wt_fold_s, wt_sus, wt_if_f c_46_3, wt_if_t c_68_4])
        exact ih_25 (i + 1) _ (by omega) ⟨(by omega), Eq.mp (congrArg (fun z9 : Int32 => lv_has ls 7 [(6, .int (nI (i + 1))), (5, .int z9), (4, .int (wt_sup fd fp fu fs ft cn k 1 w 4)), (3, .int (wt_sup fd fp fu fs ft cn k 0 w 4)), (0, .ref h), (1, .int (nI k)), (2, .int w)]) e6) (lv_sub hl [0, 1, 2, 3, 4, 5, 6] rfl)⟩
    · refine lv_iload_n hx hb dX3_suppliedUnits_49 rfl (lv_at hl 3 rfl) ?_
      refine lv_goto (tgt := 55) hx hb dX3_suppliedUnits_50 (by decide) ?_
      refine lv_aload_n hx hb dX3_suppliedUnits_55 rfl (lv_at hl 4 rfl) ?_
      refine va_get (D := (dC, dI)) (ci := 3) (v := .ref hu) (C := RX3) (T := TX3) (N := 7) hx hb hts inX3 hown hK hP 0 rfl rfl 2 (by decide) (hts (.fieldLink RX3 23 "WarTable" "units" "LWarTable$Units;") (List.mem_of_getElem? (i := 1) rfl)) (fun _ h9 => h9) rfl dX3_suppliedUnits_56 ?_
      refine lv_iload_n hx hb dX3_suppliedUnits_59 rfl (lv_at hl 5 rfl) ?_
      refine lv_iload hx hb dX3_suppliedUnits_60 (lv_at hl 0 rfl) ?_
      refine wt_ro_go (va_runV (As := [.int (nI k), .int (nI i)]) (rest := [.int (wt_sup fd fp fu fs ft cn k 0 w 4)]) ⟨hx, hb, hml, hown, hts⟩ (k_X2_townAt l dC dI cI hu sd tw st od fs ft ff fo cn k i (by omega) (by omega)) (cwV 2 hts gX3_suppliedUnits_X2_townAt rfl rfl rfl (by decide +kernel) ⟨Nat.le_of_ble_eq_true rfl, Nat.le_of_ble_eq_true rfl⟩) (wt_PV (C := RX2) (T := TX2) (N := 5) (ci := 2) (q0 := 7) hK hP hN rfl rfl [7, 8, 9, 10, 11] rfl) rfl rfl hl.1 rfl (lv_room (Nat.le_of_ble_eq_true rfl)) dX3_suppliedUnits_62 ⟨Nat.zero_le _, Nat.zero_le _⟩) ?_
      refine wt_ro_go (va_runS (As := [.int (wt_sup fd fp fu fs ft cn k 0 w 4), .int (ft (k * 12 + i))]) (rest := []) ⟨hx, hb, hml, hown, hts⟩ (k_X3_has l (wt_sup fd fp fu fs ft cn k 0 w 4) (ft (k * 12 + i))) (va_cwS 2 hts gX3_suppliedUnits_X3_has rfl rfl rfl (by decide +kernel) ⟨Nat.le_of_ble_eq_true rfl, Nat.le_of_ble_eq_true rfl⟩) wt_PS rfl rfl hl.1 rfl (lv_room (Nat.le_of_ble_eq_true rfl)) dX3_suppliedUnits_65 ⟨Nat.zero_le _, Nat.zero_le _⟩) ?_
      refine wt_if_eqB (tgt := 81) hx hb dX3_suppliedUnits_68 (by decide) (fun c_68_7 => ?_) (fun c_68_7 => ?_)
      · refine lv_iinc (v := nI (i + 1)) (lv' := [(6, .int (nI (i + 1))), (5, .int (wt_fold (wt_sus (wt_sup fd fp fu fs ft cn k 0 w 4) (wt_sup fd fp fu fs ft cn k 1 w 4) fs ft k) i (nI 0))), (4, .int (wt_sup fd fp fu fs ft cn k 1 w 4)), (3, .int (wt_sup fd fp fu fs ft cn k 0 w 4)), (0, .ref h), (1, .int (nI k)), (2, .int w)]) hx hb dX3_suppliedUnits_81 hl (k := 0) rfl (nI_1 i) (by decide) rfl (fun ls hl => ?_)
        refine lv_goto (tgt := 25) hx hb dX3_suppliedUnits_84 (by decide) ?_
        have e8 : (wt_fold (wt_sus (wt_sup fd fp fu fs ft cn k 0 w 4) (wt_sup fd fp fu fs ft cn k 1 w 4) fs ft k) i (nI 0)) = (wt_fold (wt_sus (wt_sup fd fp fu fs ft cn k 0 w 4) (wt_sup fd fp fu fs ft cn k 1 w 4) fs ft k) (i + 1) (nI 0)) := (by simp only [wt_fold_s, wt_sus, wt_if_t c_46_3, wt_if_f c_68_7])
        exact ih_25 (i + 1) _ (by omega) ⟨(by omega), Eq.mp (congrArg (fun z9 : Int32 => lv_has ls 7 [(6, .int (nI (i + 1))), (5, .int z9), (4, .int (wt_sup fd fp fu fs ft cn k 1 w 4)), (3, .int (wt_sup fd fp fu fs ft cn k 0 w 4)), (0, .ref h), (1, .int (nI k)), (2, .int w)]) e8) (lv_sub hl [0, 1, 2, 3, 4, 5, 6] rfl)⟩
      · refine lv_iload hx hb dX3_suppliedUnits_71 (lv_at hl 1 rfl) ?_
        refine lv_iload hx hb dX3_suppliedUnits_73 (lv_at hl 0 rfl) ?_
        refine wt_ro_go (va_runS (As := [.int (nI i)]) (rest := [.int (wt_fold (wt_sus (wt_sup fd fp fu fs ft cn k 0 w 4) (wt_sup fd fp fu fs ft cn k 1 w 4) fs ft k) i (nI 0))]) ⟨hx, hb, hml, hown, hts⟩ (k_X3_bit l (nI i)) (va_cwS 1 hts gX3_suppliedUnits_X3_bit rfl rfl rfl (by decide +kernel) ⟨Nat.le_of_ble_eq_true rfl, Nat.le_of_ble_eq_true rfl⟩) wt_PS rfl rfl hl.1 rfl (lv_room (Nat.le_of_ble_eq_true rfl)) dX3_suppliedUnits_75 ⟨Nat.zero_le _, Nat.zero_le _⟩) ?_
        refine lv_ior hx hb dX3_suppliedUnits_78 ?_
        refine lv_istore (lv' := [(5, .int ((wt_fold (wt_sus (wt_sup fd fp fu fs ft cn k 0 w 4) (wt_sup fd fp fu fs ft cn k 1 w 4) fs ft k) i (nI 0)) ||| (wt_bit (nI i)))), (6, .int (nI i)), (4, .int (wt_sup fd fp fu fs ft cn k 1 w 4)), (3, .int (wt_sup fd fp fu fs ft cn k 0 w 4)), (0, .ref h), (1, .int (nI k)), (2, .int w)]) hx hb dX3_suppliedUnits_79 hl (by decide) rfl (fun ls hl => ?_)
        refine lv_iinc (v := nI (i + 1)) (lv' := [(6, .int (nI (i + 1))), (5, .int ((wt_fold (wt_sus (wt_sup fd fp fu fs ft cn k 0 w 4) (wt_sup fd fp fu fs ft cn k 1 w 4) fs ft k) i (nI 0)) ||| (wt_bit (nI i)))), (4, .int (wt_sup fd fp fu fs ft cn k 1 w 4)), (3, .int (wt_sup fd fp fu fs ft cn k 0 w 4)), (0, .ref h), (1, .int (nI k)), (2, .int w)]) hx hb dX3_suppliedUnits_81 hl (k := 1) rfl (nI_1 i) (by decide) rfl (fun ls hl => ?_)
        refine lv_goto (tgt := 25) hx hb dX3_suppliedUnits_84 (by decide) ?_
        have e9 : ((wt_fold (wt_sus (wt_sup fd fp fu fs ft cn k 0 w 4) (wt_sup fd fp fu fs ft cn k 1 w 4) fs ft k) i (nI 0)) ||| (wt_bit (nI i))) = (wt_fold (wt_sus (wt_sup fd fp fu fs ft cn k 0 w 4) (wt_sup fd fp fu fs ft cn k 1 w 4) fs ft k) (i + 1) (nI 0)) := (by simp only [wt_fold_s, wt_sus, wt_if_t c_46_3, wt_if_t c_68_7])
        exact ih_25 (i + 1) _ (by omega) ⟨(by omega), Eq.mp (congrArg (fun z9 : Int32 => lv_has ls 7 [(6, .int (nI (i + 1))), (5, .int z9), (4, .int (wt_sup fd fp fu fs ft cn k 1 w 4)), (3, .int (wt_sup fd fp fu fs ft cn k 0 w 4)), (0, .ref h), (1, .int (nI k)), (2, .int w)]) e9) (lv_sub hl [0, 1, 2, 3, 4, 5, 6] rfl)⟩
set_option maxHeartbeats 4000000 in
set_option maxRecDepth 100000 in
theorem k_X3_goers (l : Launch) (dC : Nat → ClassId) (dI : Nat → Nat → Nat) (cI : ClassId) (h : Nat) (dp : Nat) (we : Nat) (se : Nat) (fd : Nat → Int32) (fw : Nat → Int32) (fe : Nat → Int32) (nt : Nat) (hm : Nat) (pv : Nat) (up : Nat) (fp : Nat → Int32) (fu : Nat → Int32) (nr : Nat) (hu : Nat) (sd : Nat) (tw : Nat) (st : Nat) (od : Nat) (fs : Nat → Int32) (ft : Nat → Int32) (ff : Nat → Int32) (fo : Nat → Int32) (cn : Nat) (hq : Nat) (k : Nat) (w : Int32) (sp : Int32) (hcn : cn ≤ 12) (hk : k < 22) : Met l yX3_goers wsX3_goers ({ frames := 2, cells := 0, slots := 0, locals := 43 }) (va_Pc [.ref h, .int (nI k), .int w, .int sp] (wt_pre (dC, dI) cI [(h, .inr (3, [.ref hm, .ref dp, .ref hu, .ref we, .ref se, .ref hq, .int (nI nt)])), (dp, .inl (cI, 2, .inl fd)), (we, .inl (cI, 20, .inl fw)), (se, .inl (cI, 20, .inl fe)), (hm, .inr (0, [.ref pv, .ref up, .int (nI nr)])), (pv, .inl (cI, 10, .inl fp)), (up, .inl (cI, 10, .inl fu)), (hu, .inr (2, [.ref sd, .ref tw, .ref st, .ref od, .int (nI cn)])), (sd, .inl (cI, 12, .inl fs)), (tw, .inl (cI, 264, .inl ft)), (st, .inl (cI, 264, .inl ff)), (od, .inl (cI, 264, .inl fo))])) (wt_ro (wt_goe fp fu ft fo cn k w sp)) 0 0 wt_no := by
  refine Met.ofW (cc := cX3_goers) (maxL := 7) (ret := (some .int)) (by decide) rfl ?_
  intro p e s m args below meth c s₁ B hml hv
  obtain ⟨rfl, hP, hK, hN⟩ := hv
  have hx := B.exec
  have hb := B.bytes
  have hr := B.returns
  have hts := atoms_spec (ws := wsX3_goers) B.pre
  have hown : s.vm.findClass RX3 = some m.cls := findClass_of_methodNamed B.named
  have hlocks := B.notSynchronized
  have inX0 : ∀ w ∈ wsX00, w ∈ wsX3_goers := wt_in [53, 54, 55] (by decide +kernel)
  have inX2 : ∀ w ∈ wsX20, w ∈ wsX3_goers := wt_in [48, 49, 50, 51, 52] (by decide +kernel)
  have inX3 : ∀ w ∈ wsX30, w ∈ wsX3_goers := wt_in [41, 42, 43, 44, 45, 46, 47] (by decide +kernel)
  have hl := lv_entry ([.ref h, .int (nI k), .int w, .int sp]) (n := 7) (Nat.le_of_ble_eq_true rfl)
  rw [lg_entry_eq]
  generalize (lg_sl ([.ref h, .int (nI k), .int w, .int sp]) ++ List.replicate (7 - (lg_sl ([.ref h, .int (nI k), .int w, .int sp])).length) Slot.unset).toArray = ls at hl ⊢
  have hl : lv_has ls 7 [(0, .ref h), (1, .int (nI k)), (2, .int w), (3, .int sp)] := hl
  refine lv_iconst (v := nI 0) hx hb dX3_goers_0 (by decide +kernel) ?_
  refine lv_istore (lv' := [(4, .int (nI 0)), (0, .ref h), (1, .int (nI k)), (2, .int w), (3, .int sp)]) hx hb dX3_goers_1 hl (by decide) rfl (fun ls hl => ?_)
  refine lv_iconst (v := nI 0) hx hb dX3_goers_3 (by decide +kernel) ?_
  refine lv_istore (lv' := [(5, .int (nI 0)), (4, .int (nI 0)), (0, .ref h), (1, .int (nI k)), (2, .int w), (3, .int sp)]) hx hb dX3_goers_4 hl (by decide) rfl (fun ls hl => ?_)
  have e1 : nI 0 = (wt_fold (wt_gos fp fu ft fo k w sp) 0 (nI 0)) := rfl
  refine wt_lp (σ := Nat) 0 (fun i => cn - i) (fun i ls => (i ≤ cn) ∧ lv_has ls 7 [(5, .int (nI i)), (4, .int (wt_fold (wt_gos fp fu ft fo k w sp) i (nI 0))), (0, .ref h), (1, .int (nI k)), (2, .int w), (3, .int sp)]) ⟨(by omega), Eq.mp (congrArg (fun z9 : Int32 => lv_has ls 7 [(5, .int (nI 0)), (4, .int z9), (0, .ref h), (1, .int (nI k)), (2, .int w), (3, .int sp)]) e1) (lv_sub hl [0, 1, 2, 3, 4, 5] rfl)⟩ (fun i ls h9 ih_6 => ?_)
  obtain ⟨h_6_0, hl⟩ := h9
  refine lv_iload hx hb dX3_goers_6 (lv_at hl 0 rfl) ?_
  refine lv_aload_n hx hb dX3_goers_8 rfl (lv_at hl 2 rfl) ?_
  refine va_get (D := (dC, dI)) (ci := 3) (v := .ref hu) (C := RX3) (T := TX3) (N := 7) hx hb hts inX3 hown hK hP 0 rfl rfl 2 (by decide) (hts (.fieldLink RX3 23 "WarTable" "units" "LWarTable$Units;") (List.mem_of_getElem? (i := 1) rfl)) (fun _ h9 => h9) rfl dX3_goers_9 ?_
  refine wt_ro_go (va_runV (As := []) (rest := [.int (nI i)]) ⟨hx, hb, hml, hown, hts⟩ (k_X2_count l dC dI cI hu sd tw st od fs ft ff fo cn) (cwV 0 hts gX3_goers_X2_count rfl rfl rfl (by decide +kernel) ⟨Nat.le_of_ble_eq_true rfl, Nat.le_of_ble_eq_true rfl⟩) (wt_PV (C := RX2) (T := TX2) (N := 5) (ci := 2) (q0 := 7) hK hP hN rfl rfl [7, 8, 9, 10, 11] rfl) rfl rfl hl.1 rfl (lv_room (Nat.le_of_ble_eq_true rfl)) dX3_goers_12 ⟨Nat.zero_le _, Nat.zero_le _⟩) ?_
  refine wt_icmp_ge (tgt := 81) hx hb (by omega) (by omega) dX3_goers_15 (by decide) (fun c_15_2 => ?_) (fun c_15_2 => ?_)
  · refine lv_iload hx hb dX3_goers_81 (lv_at hl 1 rfl) ?_
    exact wt_ret hx hb hr (by rw [show i = cn by omega]; rfl) rfl dX3_goers_83 hlocks
  · refine lv_aload_n hx hb dX3_goers_18 rfl (lv_at hl 2 rfl) ?_
    refine va_get (D := (dC, dI)) (ci := 3) (v := .ref hm) (C := RX3) (T := TX3) (N := 7) hx hb hts inX3 hown hK hP 0 rfl rfl 0 (by decide) (hts (.fieldLink RX3 12 "WarTable" "map" "LWarTable$RoadMap;") (List.mem_of_getElem? (i := 2) rfl)) (fun _ h9 => h9) rfl dX3_goers_19 ?_
    refine lv_aload_n hx hb dX3_goers_22 rfl (lv_at hl 2 rfl) ?_
    refine va_get (D := (dC, dI)) (ci := 3) (v := .ref hu) (C := RX3) (T := TX3) (N := 7) hx hb hts inX3 hown hK hP 0 rfl rfl 2 (by decide) (hts (.fieldLink RX3 23 "WarTable" "units" "LWarTable$Units;") (List.mem_of_getElem? (i := 1) rfl)) (fun _ h9 => h9) rfl dX3_goers_23 ?_
    refine lv_iload_n hx hb dX3_goers_26 rfl (lv_at hl 3 rfl) ?_
    refine lv_iload hx hb dX3_goers_27 (lv_at hl 0 rfl) ?_
    refine wt_ro_go (va_runV (As := [.int (nI k), .int (nI i)]) (rest := [.ref hm]) ⟨hx, hb, hml, hown, hts⟩ (k_X2_townAt l dC dI cI hu sd tw st od fs ft ff fo cn k i (by omega) (by omega)) (cwV 2 hts gX3_goers_X2_townAt rfl rfl rfl (by decide +kernel) ⟨Nat.le_of_ble_eq_true rfl, Nat.le_of_ble_eq_true rfl⟩) (wt_PV (C := RX2) (T := TX2) (N := 5) (ci := 2) (q0 := 7) hK hP hN rfl rfl [7, 8, 9, 10, 11] rfl) rfl rfl hl.1 rfl (lv_room (Nat.le_of_ble_eq_true rfl)) dX3_goers_29 ⟨Nat.zero_le _, Nat.zero_le _⟩) ?_
    refine lv_iload_n hx hb dX3_goers_32 rfl (lv_at hl 4 rfl) ?_
    refine wt_ro_go (va_runV (As := [.int (ft (k * 12 + i)), .int w]) (rest := []) ⟨hx, hb, hml, hown, hts⟩ (k_X0_nextOverOpen l dC dI cI hm pv up fp fu nr (ft (k * 12 + i)) w) (cwV 2 hts gX3_goers_X0_nextOverOpen rfl rfl rfl (by decide +kernel) ⟨Nat.le_of_ble_eq_true rfl, Nat.le_of_ble_eq_true rfl⟩) (wt_PV (C := RX0) (T := TX0) (N := 3) (ci := 0) (q0 := 4) hK hP hN rfl rfl [4, 5, 6] rfl) rfl rfl hl.1 rfl (lv_room (Nat.le_of_ble_eq_true rfl)) dX3_goers_33 ⟨Nat.zero_le _, Nat.zero_le _⟩) ?_
    refine lv_istore (lv' := [(6, .int (wt_nxt fp fu (ft (k * 12 + i)) w)), (5, .int (nI i)), (4, .int (wt_fold (wt_gos fp fu ft fo k w sp) i (nI 0))), (0, .ref h), (1, .int (nI k)), (2, .int w), (3, .int sp)]) hx hb dX3_goers_36 hl (by decide) rfl (fun ls hl => ?_)
    refine lv_iload_n hx hb dX3_goers_38 rfl (lv_at hl 6 rfl) ?_
    refine lv_iload hx hb dX3_goers_39 (lv_at hl 1 rfl) ?_
    refine wt_ro_go (va_runS (As := [.int sp, .int (nI i)]) (rest := []) ⟨hx, hb, hml, hown, hts⟩ (k_X3_has l sp (nI i)) (va_cwS 2 hts gX3_goers_X3_has rfl rfl rfl (by decide +kernel) ⟨Nat.le_of_ble_eq_true rfl, Nat.le_of_ble_eq_true rfl⟩) wt_PS rfl rfl hl.1 rfl (lv_room (Nat.le_of_ble_eq_true rfl)) dX3_goers_41 ⟨Nat.zero_le _, Nat.zero_le _⟩) ?_
    refine wt_if_eqB (tgt := 75) hx hb dX3_goers_44 (by decide) (fun c_44_3 => ?_) (fun c_44_3 => ?_)
    · refine lv_iinc (v := nI (i + 1)) (lv' := [(5, .int (nI (i + 1))), (6, .int (wt_nxt fp fu (ft (k * 12 + i)) w)), (4, .int (wt_fold (wt_gos fp fu ft fo k w sp) i (nI 0))), (0, .ref h), (1, .int (nI k)), (2, .int w), (3, .int sp)]) hx hb dX3_goers_75 hl (k := 1) rfl (nI_1 i) (by decide) rfl (fun ls hl => ?_)
      refine lv_goto (tgt := 6) hx hb dX3_goers_78 (by decide) ?_
      have e4 : (wt_fold (wt_gos fp fu ft fo k w sp) i (nI 0)) = (wt_fold (wt_gos fp fu ft fo k w sp) (i + 1) (nI 0)) := (by simp only [wt_fold_s, wt_gos, wt_if_f c_44_3])
      exact ih_6 (i + 1) _ (by omega) ⟨(by omega), Eq.mp (congrArg (fun z9 : Int32 => lv_has ls 7 [(5, .int (nI (i + 1))), (4, .int z9), (0, .ref h), (1, .int (nI k)), (2, .int w), (3, .int sp)]) e4) (lv_sub hl [0, 2, 3, 4, 5, 6] rfl)⟩
    · refine lv_iload hx hb dX3_goers_47 (lv_at hl 0 rfl) ?_
      refine lv_aload_n hx hb dX3_goers_49 rfl (lv_at hl 3 rfl) ?_
      refine va_get (D := (dC, dI)) (ci := 3) (v := .ref hu) (C := RX3) (T := TX3) (N := 7) hx hb hts inX3 hown hK hP 0 rfl rfl 2 (by decide) (hts (.fieldLink RX3 23 "WarTable" "units" "LWarTable$Units;") (List.mem_of_getElem? (i := 1) rfl)) (fun _ h9 => h9) rfl dX3_goers_50 ?_
      refine lv_iload_n hx hb dX3_goers_53 rfl (lv_at hl 4 rfl) ?_
      refine lv_iload hx hb dX3_goers_54 (lv_at hl 1 rfl) ?_
      refine wt_ro_go (va_runV (As := [.int (nI k), .int (nI i)]) (rest := [.int (wt_nxt fp fu (ft (k * 12 + i)) w)]) ⟨hx, hb, hml, hown, hts⟩ (k_X2_orderFor l dC dI cI hu sd tw st od fs ft ff fo cn k i (by omega) (by omega)) (cwV 2 hts gX3_goers_X2_orderFor rfl rfl rfl (by decide +kernel) ⟨Nat.le_of_ble_eq_true rfl, Nat.le_of_ble_eq_true rfl⟩) (wt_PV (C := RX2) (T := TX2) (N := 5) (ci := 2) (q0 := 7) hK hP hN rfl rfl [7, 8, 9, 10, 11] rfl) rfl rfl hl.1 rfl (lv_room (Nat.le_of_ble_eq_true rfl)) dX3_goers_56 ⟨Nat.zero_le _, Nat.zero_le _⟩) ?_
      refine wt_ro_go (va_runS (As := [.int (wt_nxt fp fu (ft (k * 12 + i)) w), .int (fo (k * 12 + i) - nI 1)]) (rest := []) ⟨hx, hb, hml, hown, hts⟩ (k_X3_has l (wt_nxt fp fu (ft (k * 12 + i)) w) (fo (k * 12 + i) - nI 1)) (va_cwS 2 hts gX3_goers_X3_has rfl rfl rfl (by decide +kernel) ⟨Nat.le_of_ble_eq_true rfl, Nat.le_of_ble_eq_true rfl⟩) wt_PS rfl rfl hl.1 rfl (lv_room (Nat.le_of_ble_eq_true rfl)) dX3_goers_59 ⟨Nat.zero_le _, Nat.zero_le _⟩) ?_
      refine wt_if_eqB (tgt := 75) hx hb dX3_goers_62 (by decide) (fun c_62_5 => ?_) (fun c_62_5 => ?_)
      · refine lv_iinc (v := nI (i + 1)) (lv' := [(5, .int (nI (i + 1))), (6, .int (wt_nxt fp fu (ft (k * 12 + i)) w)), (4, .int (wt_fold (wt_gos fp fu ft fo k w sp) i (nI 0))), (0, .ref h), (1, .int (nI k)), (2, .int w), (3, .int sp)]) hx hb dX3_goers_75 hl (k := 1) rfl (nI_1 i) (by decide) rfl (fun ls hl => ?_)
        refine lv_goto (tgt := 6) hx hb dX3_goers_78 (by decide) ?_
        have e6 : (wt_fold (wt_gos fp fu ft fo k w sp) i (nI 0)) = (wt_fold (wt_gos fp fu ft fo k w sp) (i + 1) (nI 0)) := (by simp only [wt_fold_s, wt_gos, wt_if_t c_44_3, wt_if_f c_62_5])
        exact ih_6 (i + 1) _ (by omega) ⟨(by omega), Eq.mp (congrArg (fun z9 : Int32 => lv_has ls 7 [(5, .int (nI (i + 1))), (4, .int z9), (0, .ref h), (1, .int (nI k)), (2, .int w), (3, .int sp)]) e6) (lv_sub hl [0, 2, 3, 4, 5, 6] rfl)⟩
      · refine lv_iload hx hb dX3_goers_65 (lv_at hl 2 rfl) ?_
        refine lv_iload hx hb dX3_goers_67 (lv_at hl 1 rfl) ?_
        refine wt_ro_go (va_runS (As := [.int (nI i)]) (rest := [.int (wt_fold (wt_gos fp fu ft fo k w sp) i (nI 0))]) ⟨hx, hb, hml, hown, hts⟩ (k_X3_bit l (nI i)) (va_cwS 1 hts gX3_goers_X3_bit rfl rfl rfl (by decide +kernel) ⟨Nat.le_of_ble_eq_true rfl, Nat.le_of_ble_eq_true rfl⟩) wt_PS rfl rfl hl.1 rfl (lv_room (Nat.le_of_ble_eq_true rfl)) dX3_goers_69 ⟨Nat.zero_le _, Nat.zero_le _⟩) ?_
        refine lv_ior hx hb dX3_goers_72 ?_
        refine lv_istore (lv' := [(4, .int ((wt_fold (wt_gos fp fu ft fo k w sp) i (nI 0)) ||| (wt_bit (nI i)))), (6, .int (wt_nxt fp fu (ft (k * 12 + i)) w)), (5, .int (nI i)), (0, .ref h), (1, .int (nI k)), (2, .int w), (3, .int sp)]) hx hb dX3_goers_73 hl (by decide) rfl (fun ls hl => ?_)
        refine lv_iinc (v := nI (i + 1)) (lv' := [(5, .int (nI (i + 1))), (4, .int ((wt_fold (wt_gos fp fu ft fo k w sp) i (nI 0)) ||| (wt_bit (nI i)))), (6, .int (wt_nxt fp fu (ft (k * 12 + i)) w)), (0, .ref h), (1, .int (nI k)), (2, .int w), (3, .int sp)]) hx hb dX3_goers_75 hl (k := 2) rfl (nI_1 i) (by decide) rfl (fun ls hl => ?_)
        refine lv_goto (tgt := 6) hx hb dX3_goers_78 (by decide) ?_
        have e7 : ((wt_fold (wt_gos fp fu ft fo k w sp) i (nI 0)) ||| (wt_bit (nI i))) = (wt_fold (wt_gos fp fu ft fo k w sp) (i + 1) (nI 0)) := (by simp only [wt_fold_s, wt_gos, wt_if_t c_44_3, wt_if_t c_62_5])
        exact ih_6 (i + 1) _ (by omega) ⟨(by omega), Eq.mp (congrArg (fun z9 : Int32 => lv_has ls 7 [(5, .int (nI (i + 1))), (4, .int z9), (0, .ref h), (1, .int (nI k)), (2, .int w), (3, .int sp)]) e7) (lv_sub hl [0, 1, 3, 4, 5, 6] rfl)⟩
set_option maxHeartbeats 4000000 in
set_option maxRecDepth 100000 in
theorem k_X3_isMetOnRoad (l : Launch) (dC : Nat → ClassId) (dI : Nat → Nat → Nat) (cI : ClassId) (h : Nat) (dp : Nat) (we : Nat) (se : Nat) (fd : Nat → Int32) (fw : Nat → Int32) (fe : Nat → Int32) (nt : Nat) (hm : Nat) (pv : Nat) (up : Nat) (fp : Nat → Int32) (fu : Nat → Int32) (nr : Nat) (hu : Nat) (sd : Nat) (tw : Nat) (st : Nat) (od : Nat) (fs : Nat → Int32) (ft : Nat → Int32) (ff : Nat → Int32) (fo : Nat → Int32) (cn : Nat) (hq : Nat) (k : Nat) (u : Nat) (go : Int32) (hcn : cn ≤ 12) (hk : k < 22) (hu2 : u < 12) : Met l yX3_isMetOnRoad wsX3_isMetOnRoad ({ frames := 2, cells := 0, slots := 0, locals := 43 }) (va_Pc [.ref h, .int (nI k), .int (nI u), .int go] (wt_pre (dC, dI) cI [(h, .inr (3, [.ref hm, .ref dp, .ref hu, .ref we, .ref se, .ref hq, .int (nI nt)])), (dp, .inl (cI, 2, .inl fd)), (we, .inl (cI, 20, .inl fw)), (se, .inl (cI, 20, .inl fe)), (hm, .inr (0, [.ref pv, .ref up, .int (nI nr)])), (pv, .inl (cI, 10, .inl fp)), (up, .inl (cI, 10, .inl fu)), (hu, .inr (2, [.ref sd, .ref tw, .ref st, .ref od, .int (nI cn)])), (sd, .inl (cI, 12, .inl fs)), (tw, .inl (cI, 264, .inl ft)), (st, .inl (cI, 264, .inl ff)), (od, .inl (cI, 264, .inl fo))])) (wt_ro (wt_b (wt_met fs ft fo cn k u go))) 0 0 wt_no := by
  refine Met.ofW (cc := cX3_isMetOnRoad) (maxL := 5) (ret := (some .boolean)) (by decide) rfl ?_
  intro p e s m args below meth c s₁ B hml hv
  obtain ⟨rfl, hP, hK, hN⟩ := hv
  have hx := B.exec
  have hb := B.bytes
  have hr := B.returns
  have hts := atoms_spec (ws := wsX3_isMetOnRoad) B.pre
  have hown : s.vm.findClass RX3 = some m.cls := findClass_of_methodNamed B.named
  have hlocks := B.notSynchronized
  have inX2 : ∀ w ∈ wsX20, w ∈ wsX3_isMetOnRoad := wt_in [45, 46, 47, 48, 49] (by decide +kernel)
  have inX3 : ∀ w ∈ wsX30, w ∈ wsX3_isMetOnRoad := wt_in [38, 39, 40, 41, 42, 43, 44] (by decide +kernel)
  have hl := lv_entry ([.ref h, .int (nI k), .int (nI u), .int go]) (n := 5) (Nat.le_of_ble_eq_true rfl)
  rw [lg_entry_eq]
  generalize (lg_sl ([.ref h, .int (nI k), .int (nI u), .int go]) ++ List.replicate (5 - (lg_sl ([.ref h, .int (nI k), .int (nI u), .int go])).length) Slot.unset).toArray = ls at hl ⊢
  have hl : lv_has ls 5 [(0, .ref h), (1, .int (nI k)), (2, .int (nI u)), (3, .int go)] := hl
  refine lv_iconst (v := nI 0) hx hb dX3_isMetOnRoad_0 (by decide +kernel) ?_
  refine lv_istore (lv' := [(4, .int (nI 0)), (0, .ref h), (1, .int (nI k)), (2, .int (nI u)), (3, .int go)]) hx hb dX3_isMetOnRoad_1 hl (by decide) rfl (fun ls hl => ?_)
  refine wt_lp (σ := Nat) 0 (fun i => cn - i) (fun i ls => (i ≤ cn) ∧ (∀ q : Nat, q < i → ¬ wt_met1 fs ft fo k u go q) ∧ lv_has ls 5 [(4, .int (nI i)), (0, .ref h), (1, .int (nI k)), (2, .int (nI u)), (3, .int go)]) ⟨(by omega), (fun q hq => absurd hq (Nat.not_lt_zero q)), lv_sub hl [0, 1, 2, 3, 4] rfl⟩ (fun i ls h9 ih_3 => ?_)
  obtain ⟨h_3_0, h_3_1, hl⟩ := h9
  refine lv_iload hx hb dX3_isMetOnRoad_3 (lv_at hl 0 rfl) ?_
  refine lv_aload_n hx hb dX3_isMetOnRoad_5 rfl (lv_at hl 1 rfl) ?_
  refine va_get (D := (dC, dI)) (ci := 3) (v := .ref hu) (C := RX3) (T := TX3) (N := 7) hx hb hts inX3 hown hK hP 0 rfl rfl 2 (by decide) (hts (.fieldLink RX3 23 "WarTable" "units" "LWarTable$Units;") (List.mem_of_getElem? (i := 1) rfl)) (fun _ h9 => h9) rfl dX3_isMetOnRoad_6 ?_
  refine wt_ro_go (va_runV (As := []) (rest := [.int (nI i)]) ⟨hx, hb, hml, hown, hts⟩ (k_X2_count l dC dI cI hu sd tw st od fs ft ff fo cn) (cwV 0 hts gX3_isMetOnRoad_X2_count rfl rfl rfl (by decide +kernel) ⟨Nat.le_of_ble_eq_true rfl, Nat.le_of_ble_eq_true rfl⟩) (wt_PV (C := RX2) (T := TX2) (N := 5) (ci := 2) (q0 := 7) hK hP hN rfl rfl [7, 8, 9, 10, 11] rfl) rfl rfl hl.1 rfl (lv_room (Nat.le_of_ble_eq_true rfl)) dX3_isMetOnRoad_9 ⟨Nat.zero_le _, Nat.zero_le _⟩) ?_
  refine wt_icmp_ge (tgt := 96) hx hb (by omega) (by omega) dX3_isMetOnRoad_12 (by decide) (fun c_12_1 => ?_) (fun c_12_1 => ?_)
  · refine lv_iconst (v := nI 0) hx hb dX3_isMetOnRoad_96 (by decide +kernel) ?_
    exact wt_retz hx hb hr (wt_bf0 (fun z => by obtain ⟨q, hq, z⟩ := z; exact h_3_1 q (by omega) z)) rfl dX3_isMetOnRoad_97 hlocks
  · refine lv_iload_n hx hb dX3_isMetOnRoad_15 rfl (lv_at hl 4 rfl) ?_
    refine lv_iload hx hb dX3_isMetOnRoad_16 (lv_at hl 0 rfl) ?_
    refine wt_ro_go (va_runS (As := [.int go, .int (nI i)]) (rest := []) ⟨hx, hb, hml, hown, hts⟩ (k_X3_has l go (nI i)) (va_cwS 2 hts gX3_isMetOnRoad_X3_has rfl rfl rfl (by decide +kernel) ⟨Nat.le_of_ble_eq_true rfl, Nat.le_of_ble_eq_true rfl⟩) wt_PS rfl rfl hl.1 rfl (lv_room (Nat.le_of_ble_eq_true rfl)) dX3_isMetOnRoad_18 ⟨Nat.zero_le _, Nat.zero_le _⟩) ?_
    refine wt_if_eqB (tgt := 90) hx hb dX3_isMetOnRoad_21 (by decide) (fun c_21_2 => ?_) (fun c_21_2 => ?_)
    · refine lv_iinc (v := nI (i + 1)) (lv' := [(4, .int (nI (i + 1))), (0, .ref h), (1, .int (nI k)), (2, .int (nI u)), (3, .int go)]) hx hb dX3_isMetOnRoad_90 hl (k := 0) rfl (nI_1 i) (by decide) rfl (fun ls hl => ?_)
      refine lv_goto (tgt := 3) hx hb dX3_isMetOnRoad_93 (by decide) ?_
      exact ih_3 (i + 1) _ (by omega) ⟨(by omega), (wt_all_s h_3_1 (by simp [wt_met1, c_21_2])), lv_sub hl [0, 1, 2, 3, 4] rfl⟩
    · refine lv_aload_n hx hb dX3_isMetOnRoad_24 rfl (lv_at hl 1 rfl) ?_
      refine va_get (D := (dC, dI)) (ci := 3) (v := .ref hu) (C := RX3) (T := TX3) (N := 7) hx hb hts inX3 hown hK hP 0 rfl rfl 2 (by decide) (hts (.fieldLink RX3 23 "WarTable" "units" "LWarTable$Units;") (List.mem_of_getElem? (i := 1) rfl)) (fun _ h9 => h9) rfl dX3_isMetOnRoad_25 ?_
      refine lv_iload hx hb dX3_isMetOnRoad_28 (lv_at hl 0 rfl) ?_
      refine wt_ro_go (va_runV (As := [.int (nI i)]) (rest := []) ⟨hx, hb, hml, hown, hts⟩ (k_X2_sideOf l dC dI cI hu sd tw st od fs ft ff fo cn i (by omega)) (cwV 1 hts gX3_isMetOnRoad_X2_sideOf rfl rfl rfl (by decide +kernel) ⟨Nat.le_of_ble_eq_true rfl, Nat.le_of_ble_eq_true rfl⟩) (wt_PV (C := RX2) (T := TX2) (N := 5) (ci := 2) (q0 := 7) hK hP hN rfl rfl [7, 8, 9, 10, 11] rfl) rfl rfl hl.1 rfl (lv_room (Nat.le_of_ble_eq_true rfl)) dX3_isMetOnRoad_30 ⟨Nat.zero_le _, Nat.zero_le _⟩) ?_
      refine lv_aload_n hx hb dX3_isMetOnRoad_33 rfl (lv_at hl 1 rfl) ?_
      refine va_get (D := (dC, dI)) (ci := 3) (v := .ref hu) (C := RX3) (T := TX3) (N := 7) hx hb hts inX3 hown hK hP 0 rfl rfl 2 (by decide) (hts (.fieldLink RX3 23 "WarTable" "units" "LWarTable$Units;") (List.mem_of_getElem? (i := 1) rfl)) (fun _ h9 => h9) rfl dX3_isMetOnRoad_34 ?_
      refine lv_iload_n hx hb dX3_isMetOnRoad_37 rfl (lv_at hl 3 rfl) ?_
      refine wt_ro_go (va_runV (As := [.int (nI u)]) (rest := [.int (fs i)]) ⟨hx, hb, hml, hown, hts⟩ (k_X2_sideOf l dC dI cI hu sd tw st od fs ft ff fo cn u (by omega)) (cwV 1 hts gX3_isMetOnRoad_X2_sideOf rfl rfl rfl (by decide +kernel) ⟨Nat.le_of_ble_eq_true rfl, Nat.le_of_ble_eq_true rfl⟩) (wt_PV (C := RX2) (T := TX2) (N := 5) (ci := 2) (q0 := 7) hK hP hN rfl rfl [7, 8, 9, 10, 11] rfl) rfl rfl hl.1 rfl (lv_room (Nat.le_of_ble_eq_true rfl)) dX3_isMetOnRoad_38 ⟨Nat.zero_le _, Nat.zero_le _⟩) ?_
      refine wt_icmp_eqI (tgt := 90) hx hb dX3_isMetOnRoad_41 (by decide) (fun c_41_3 => ?_) (fun c_41_3 => ?_)
      · refine lv_iinc (v := nI (i + 1)) (lv' := [(4, .int (nI (i + 1))), (0, .ref h), (1, .int (nI k)), (2, .int (nI u)), (3, .int go)]) hx hb dX3_isMetOnRoad_90 hl (k := 0) rfl (nI_1 i) (by decide) rfl (fun ls hl => ?_)
        refine lv_goto (tgt := 3) hx hb dX3_isMetOnRoad_93 (by decide) ?_
        exact ih_3 (i + 1) _ (by omega) ⟨(by omega), (wt_all_s h_3_1 (by simp [wt_met1, c_21_2, c_41_3])), lv_sub hl [0, 1, 2, 3, 4] rfl⟩
      · refine lv_aload_n hx hb dX3_isMetOnRoad_44 rfl (lv_at hl 1 rfl) ?_
        refine va_get (D := (dC, dI)) (ci := 3) (v := .ref hu) (C := RX3) (T := TX3) (N := 7) hx hb hts inX3 hown hK hP 0 rfl rfl 2 (by decide) (hts (.fieldLink RX3 23 "WarTable" "units" "LWarTable$Units;") (List.mem_of_getElem? (i := 1) rfl)) (fun _ h9 => h9) rfl dX3_isMetOnRoad_45 ?_
        refine lv_iload_n hx hb dX3_isMetOnRoad_48 rfl (lv_at hl 2 rfl) ?_
        refine lv_iload hx hb dX3_isMetOnRoad_49 (lv_at hl 0 rfl) ?_
        refine wt_ro_go (va_runV (As := [.int (nI k), .int (nI i)]) (rest := []) ⟨hx, hb, hml, hown, hts⟩ (k_X2_townAt l dC dI cI hu sd tw st od fs ft ff fo cn k i (by omega) (by omega)) (cwV 2 hts gX3_isMetOnRoad_X2_townAt rfl rfl rfl (by decide +kernel) ⟨Nat.le_of_ble_eq_true rfl, Nat.le_of_ble_eq_true rfl⟩) (wt_PV (C := RX2) (T := TX2) (N := 5) (ci := 2) (q0 := 7) hK hP hN rfl rfl [7, 8, 9, 10, 11] rfl) rfl rfl hl.1 rfl (lv_room (Nat.le_of_ble_eq_true rfl)) dX3_isMetOnRoad_51 ⟨Nat.zero_le _, Nat.zero_le _⟩) ?_
        refine lv_aload_n hx hb dX3_isMetOnRoad_54 rfl (lv_at hl 1 rfl) ?_
        refine va_get (D := (dC, dI)) (ci := 3) (v := .ref hu) (C := RX3) (T := TX3) (N := 7) hx hb hts inX3 hown hK hP 0 rfl rfl 2 (by decide) (hts (.fieldLink RX3 23 "WarTable" "units" "LWarTable$Units;") (List.mem_of_getElem? (i := 1) rfl)) (fun _ h9 => h9) rfl dX3_isMetOnRoad_55 ?_
        refine lv_iload_n hx hb dX3_isMetOnRoad_58 rfl (lv_at hl 2 rfl) ?_
        refine lv_iload_n hx hb dX3_isMetOnRoad_59 rfl (lv_at hl 3 rfl) ?_
        refine wt_ro_go (va_runV (As := [.int (nI k), .int (nI u)]) (rest := [.int (ft (k * 12 + i))]) ⟨hx, hb, hml, hown, hts⟩ (k_X2_orderFor l dC dI cI hu sd tw st od fs ft ff fo cn k u (by omega) (by omega)) (cwV 2 hts gX3_isMetOnRoad_X2_orderFor rfl rfl rfl (by decide +kernel) ⟨Nat.le_of_ble_eq_true rfl, Nat.le_of_ble_eq_true rfl⟩) (wt_PV (C := RX2) (T := TX2) (N := 5) (ci := 2) (q0 := 7) hK hP hN rfl rfl [7, 8, 9, 10, 11] rfl) rfl rfl hl.1 rfl (lv_room (Nat.le_of_ble_eq_true rfl)) dX3_isMetOnRoad_60 ⟨Nat.zero_le _, Nat.zero_le _⟩) ?_
        refine wt_icmp_neI (tgt := 90) hx hb dX3_isMetOnRoad_63 (by decide) (fun c_63_4 => ?_) (fun c_63_4 => ?_)
        · refine lv_iinc (v := nI (i + 1)) (lv' := [(4, .int (nI (i + 1))), (0, .ref h), (1, .int (nI k)), (2, .int (nI u)), (3, .int go)]) hx hb dX3_isMetOnRoad_90 hl (k := 0) rfl (nI_1 i) (by decide) rfl (fun ls hl => ?_)
          refine lv_goto (tgt := 3) hx hb dX3_isMetOnRoad_93 (by decide) ?_
          exact ih_3 (i + 1) _ (by omega) ⟨(by omega), (wt_all_s h_3_1 (by simp [wt_met1, c_21_2, c_41_3, c_63_4])), lv_sub hl [0, 1, 2, 3, 4] rfl⟩
        · refine lv_aload_n hx hb dX3_isMetOnRoad_66 rfl (lv_at hl 1 rfl) ?_
          refine va_get (D := (dC, dI)) (ci := 3) (v := .ref hu) (C := RX3) (T := TX3) (N := 7) hx hb hts inX3 hown hK hP 0 rfl rfl 2 (by decide) (hts (.fieldLink RX3 23 "WarTable" "units" "LWarTable$Units;") (List.mem_of_getElem? (i := 1) rfl)) (fun _ h9 => h9) rfl dX3_isMetOnRoad_67 ?_
          refine lv_iload_n hx hb dX3_isMetOnRoad_70 rfl (lv_at hl 2 rfl) ?_
          refine lv_iload hx hb dX3_isMetOnRoad_71 (lv_at hl 0 rfl) ?_
          refine wt_ro_go (va_runV (As := [.int (nI k), .int (nI i)]) (rest := []) ⟨hx, hb, hml, hown, hts⟩ (k_X2_orderFor l dC dI cI hu sd tw st od fs ft ff fo cn k i (by omega) (by omega)) (cwV 2 hts gX3_isMetOnRoad_X2_orderFor rfl rfl rfl (by decide +kernel) ⟨Nat.le_of_ble_eq_true rfl, Nat.le_of_ble_eq_true rfl⟩) (wt_PV (C := RX2) (T := TX2) (N := 5) (ci := 2) (q0 := 7) hK hP hN rfl rfl [7, 8, 9, 10, 11] rfl) rfl rfl hl.1 rfl (lv_room (Nat.le_of_ble_eq_true rfl)) dX3_isMetOnRoad_73 ⟨Nat.zero_le _, Nat.zero_le _⟩) ?_
          refine lv_aload_n hx hb dX3_isMetOnRoad_76 rfl (lv_at hl 1 rfl) ?_
          refine va_get (D := (dC, dI)) (ci := 3) (v := .ref hu) (C := RX3) (T := TX3) (N := 7) hx hb hts inX3 hown hK hP 0 rfl rfl 2 (by decide) (hts (.fieldLink RX3 23 "WarTable" "units" "LWarTable$Units;") (List.mem_of_getElem? (i := 1) rfl)) (fun _ h9 => h9) rfl dX3_isMetOnRoad_77 ?_
          refine lv_iload_n hx hb dX3_isMetOnRoad_80 rfl (lv_at hl 2 rfl) ?_
          refine lv_iload_n hx hb dX3_isMetOnRoad_81 rfl (lv_at hl 3 rfl) ?_
          refine wt_ro_go (va_runV (As := [.int (nI k), .int (nI u)]) (rest := [.int (fo (k * 12 + i) - nI 1)]) ⟨hx, hb, hml, hown, hts⟩ (k_X2_townAt l dC dI cI hu sd tw st od fs ft ff fo cn k u (by omega) (by omega)) (cwV 2 hts gX3_isMetOnRoad_X2_townAt rfl rfl rfl (by decide +kernel) ⟨Nat.le_of_ble_eq_true rfl, Nat.le_of_ble_eq_true rfl⟩) (wt_PV (C := RX2) (T := TX2) (N := 5) (ci := 2) (q0 := 7) hK hP hN rfl rfl [7, 8, 9, 10, 11] rfl) rfl rfl hl.1 rfl (lv_room (Nat.le_of_ble_eq_true rfl)) dX3_isMetOnRoad_82 ⟨Nat.zero_le _, Nat.zero_le _⟩) ?_
          refine wt_icmp_neI (tgt := 90) hx hb dX3_isMetOnRoad_85 (by decide) (fun c_85_5 => ?_) (fun c_85_5 => ?_)
          · refine lv_iinc (v := nI (i + 1)) (lv' := [(4, .int (nI (i + 1))), (0, .ref h), (1, .int (nI k)), (2, .int (nI u)), (3, .int go)]) hx hb dX3_isMetOnRoad_90 hl (k := 0) rfl (nI_1 i) (by decide) rfl (fun ls hl => ?_)
            refine lv_goto (tgt := 3) hx hb dX3_isMetOnRoad_93 (by decide) ?_
            exact ih_3 (i + 1) _ (by omega) ⟨(by omega), (wt_all_s h_3_1 (by simp [wt_met1, c_21_2, c_41_3, c_63_4, c_85_5])), lv_sub hl [0, 1, 2, 3, 4] rfl⟩
          · refine lv_iconst (v := nI 1) hx hb dX3_isMetOnRoad_88 (by decide +kernel) ?_
            exact wt_retz hx hb hr (wt_bt1 ⟨i, by omega, by simp [wt_met1, c_21_2, c_41_3, c_63_4, c_85_5]⟩) rfl dX3_isMetOnRoad_89 hlocks
set_option maxHeartbeats 4000000 in
set_option maxRecDepth 100000 in
theorem k_X3_march (l : Launch) (dC : Nat → ClassId) (dI : Nat → Nat → Nat) (cI : ClassId) (h : Nat) (dp : Nat) (we : Nat) (se : Nat) (fd : Nat → Int32) (fw : Nat → Int32) (fe : Nat → Int32) (nt : Nat) (hm : Nat) (pv : Nat) (up : Nat) (fp : Nat → Int32) (fu : Nat → Int32) (nr : Nat) (hu : Nat) (sd : Nat) (tw : Nat) (st : Nat) (od : Nat) (fs : Nat → Int32) (ft : Nat → Int32) (ff : Nat → Int32) (fo : Nat → Int32) (cn : Nat) (hq : Nat) (k : Nat) (go : Int32) (sz : Nat) (hcn : cn ≤ 12) (hk : k < 21) : Met l yX3_march wsX3_march ({ frames := 3, cells := 0, slots := 0, locals := 67 }) (va_Pc [.ref h, .int (nI k), .int go] (wt_pm (dC, dI) cI [(h, .inr (3, [.ref hm, .ref dp, .ref hu, .ref we, .ref se, .ref hq, .int (nI nt)])), (dp, .inl (cI, 2, .inl fd)), (we, .inl (cI, 20, .inl fw)), (se, .inl (cI, 20, .inl fe)), (hm, .inr (0, [.ref pv, .ref up, .int (nI nr)])), (pv, .inl (cI, 10, .inl fp)), (up, .inl (cI, 10, .inl fu)), (hu, .inr (2, [.ref sd, .ref tw, .ref st, .ref od, .int (nI cn)])), (sd, .inl (cI, 12, .inl fs)), (tw, .inl (cI, 264, .inl ft)), (st, .inl (cI, 264, .inl ff)), (od, .inl (cI, 264, .inl fo))] sz)) (wt_mu none (dC, dI) [(h, .inr (3, [.ref hm, .ref dp, .ref hu, .ref we, .ref se, .ref hq, .int (nI nt)])), (dp, .inl (cI, 2, .inl fd)), (we, .inl (cI, 20, .inl fw)), (se, .inl (cI, 20, .inl fe)), (hm, .inr (0, [.ref pv, .ref up, .int (nI nr)])), (pv, .inl (cI, 10, .inl fp)), (up, .inl (cI, 10, .inl fu)), (hu, .inr (2, [.ref sd, .ref tw, .ref st, .ref od, .int (nI cn)])), (sd, .inl (cI, 12, .inl fs)), (tw, .inl (cI, 264, .inl ((wt_mar fs fo cn k go (ft, ff)).1))), (st, .inl (cI, 264, .inl ((wt_mar fs fo cn k go (ft, ff)).2))), (od, .inl (cI, 264, .inl fo))] (va_A [(h, .inr (3, [.ref hm, .ref dp, .ref hu, .ref we, .ref se, .ref hq, .int (nI nt)])), (dp, .inl (cI, 2, .inl fd)), (we, .inl (cI, 20, .inl fw)), (se, .inl (cI, 20, .inl fe)), (hm, .inr (0, [.ref pv, .ref up, .int (nI nr)])), (pv, .inl (cI, 10, .inl fp)), (up, .inl (cI, 10, .inl fu)), (hu, .inr (2, [.ref sd, .ref tw, .ref st, .ref od, .int (nI cn)])), (sd, .inl (cI, 12, .inl fs)), (tw, .inl (cI, 264, .inl ft)), (st, .inl (cI, 264, .inl ff)), (od, .inl (cI, 264, .inl fo))] sz)) 0 0 (va_A [(h, .inr (3, [.ref hm, .ref dp, .ref hu, .ref we, .ref se, .ref hq, .int (nI nt)])), (dp, .inl (cI, 2, .inl fd)), (we, .inl (cI, 20, .inl fw)), (se, .inl (cI, 20, .inl fe)), (hm, .inr (0, [.ref pv, .ref up, .int (nI nr)])), (pv, .inl (cI, 10, .inl fp)), (up, .inl (cI, 10, .inl fu)), (hu, .inr (2, [.ref sd, .ref tw, .ref st, .ref od, .int (nI cn)])), (sd, .inl (cI, 12, .inl fs)), (tw, .inl (cI, 264, .inl ft)), (st, .inl (cI, 264, .inl ff)), (od, .inl (cI, 264, .inl fo))] sz) := by
  refine Met.ofW (cc := cX3_march) (maxL := 6) (ret := none) (by decide) rfl ?_
  intro p e s m args below meth c s₁ B hml hv
  obtain ⟨rfl, hsz, ⟨hP, hK, hN⟩, hD0⟩ := hv
  have hx := B.exec
  have hb := B.bytes
  have hr := B.returns
  have hts := atoms_spec (ws := wsX3_march) B.pre
  have hown : s.vm.findClass RX3 = some m.cls := findClass_of_methodNamed B.named
  have hlocks := B.notSynchronized
  subst hsz
  have hD := hD0.self (sz := s.heap.size)
  generalize hAe : va_A [(h, .inr (3, [.ref hm, .ref dp, .ref hu, .ref we, .ref se, .ref hq, .int (nI nt)])), (dp, .inl (cI, 2, .inl fd)), (we, .inl (cI, 20, .inl fw)), (se, .inl (cI, 20, .inl fe)), (hm, .inr (0, [.ref pv, .ref up, .int (nI nr)])), (pv, .inl (cI, 10, .inl fp)), (up, .inl (cI, 10, .inl fu)), (hu, .inr (2, [.ref sd, .ref tw, .ref st, .ref od, .int (nI cn)])), (sd, .inl (cI, 12, .inl fs)), (tw, .inl (cI, 264, .inl ft)), (st, .inl (cI, 264, .inl ff)), (od, .inl (cI, 264, .inl fo))] s.heap.size = A at hD ⊢
  have hA : ∀ q : Nat, s.heap.size ≤ q → A q := fun q h => by rw [← hAe]; exact Or.inr h
  have hS : va_S A s.heap s.heap [] := va_S.rf
  have inX2 : ∀ w ∈ wsX20, w ∈ wsX3_march := wt_in [62, 63, 64, 65, 66] (by decide +kernel)
  have inX3 : ∀ w ∈ wsX30, w ∈ wsX3_march := wt_in [55, 56, 57, 58, 59, 60, 61] (by decide +kernel)
  have hl := lv_entry ([.ref h, .int (nI k), .int go]) (n := 6) (Nat.le_of_ble_eq_true rfl)
  rw [lg_entry_eq]
  generalize (lg_sl ([.ref h, .int (nI k), .int go]) ++ List.replicate (6 - (lg_sl ([.ref h, .int (nI k), .int go])).length) Slot.unset).toArray = ls at hl ⊢
  have hl : lv_has ls 6 [(0, .ref h), (1, .int (nI k)), (2, .int go)] := hl
  refine lv_iconst (v := nI 0) hx hb dX3_march_0 (by decide +kernel) ?_
  refine lv_istore_n (lv' := [(3, .int (nI 0)), (0, .ref h), (1, .int (nI k)), (2, .int go)]) hx hb dX3_march_1 rfl hl (by decide) rfl (fun ls hl => ?_)
  have e1 : ft = (wt_fold (wt_mrs fs fo cn k go) 0 (ft, ff)).1 := rfl
  have hP : va_P (dC, dI) vwCl [(h, .inr (3, [.ref hm, .ref dp, .ref hu, .ref we, .ref se, .ref hq, .int (nI nt)])), (dp, .inl (cI, 2, .inl fd)), (we, .inl (cI, 20, .inl fw)), (se, .inl (cI, 20, .inl fe)), (hm, .inr (0, [.ref pv, .ref up, .int (nI nr)])), (pv, .inl (cI, 10, .inl fp)), (up, .inl (cI, 10, .inl fu)), (hu, .inr (2, [.ref sd, .ref tw, .ref st, .ref od, .int (nI cn)])), (sd, .inl (cI, 12, .inl fs)), (tw, .inl (cI, 264, .inl ((wt_fold (wt_mrs fs fo cn k go) 0 (ft, ff)).1))), (st, .inl (cI, 264, .inl ff)), (od, .inl (cI, 264, .inl fo))] s.heap := Eq.mp (congrArg (fun z9 : Nat → Int32 => va_P (dC, dI) vwCl [(h, .inr (3, [.ref hm, .ref dp, .ref hu, .ref we, .ref se, .ref hq, .int (nI nt)])), (dp, .inl (cI, 2, .inl fd)), (we, .inl (cI, 20, .inl fw)), (se, .inl (cI, 20, .inl fe)), (hm, .inr (0, [.ref pv, .ref up, .int (nI nr)])), (pv, .inl (cI, 10, .inl fp)), (up, .inl (cI, 10, .inl fu)), (hu, .inr (2, [.ref sd, .ref tw, .ref st, .ref od, .int (nI cn)])), (sd, .inl (cI, 12, .inl fs)), (tw, .inl (cI, 264, .inl z9)), (st, .inl (cI, 264, .inl ff)), (od, .inl (cI, 264, .inl fo))] s.heap) e1) hP
  have e2 : ff = (wt_fold (wt_mrs fs fo cn k go) 0 (ft, ff)).2 := rfl
  have hP : va_P (dC, dI) vwCl [(h, .inr (3, [.ref hm, .ref dp, .ref hu, .ref we, .ref se, .ref hq, .int (nI nt)])), (dp, .inl (cI, 2, .inl fd)), (we, .inl (cI, 20, .inl fw)), (se, .inl (cI, 20, .inl fe)), (hm, .inr (0, [.ref pv, .ref up, .int (nI nr)])), (pv, .inl (cI, 10, .inl fp)), (up, .inl (cI, 10, .inl fu)), (hu, .inr (2, [.ref sd, .ref tw, .ref st, .ref od, .int (nI cn)])), (sd, .inl (cI, 12, .inl fs)), (tw, .inl (cI, 264, .inl ((wt_fold (wt_mrs fs fo cn k go) 0 (ft, ff)).1))), (st, .inl (cI, 264, .inl ((wt_fold (wt_mrs fs fo cn k go) 0 (ft, ff)).2))), (od, .inl (cI, 264, .inl fo))] s.heap := Eq.mp (congrArg (fun z9 : Nat → Int32 => va_P (dC, dI) vwCl [(h, .inr (3, [.ref hm, .ref dp, .ref hu, .ref we, .ref se, .ref hq, .int (nI nt)])), (dp, .inl (cI, 2, .inl fd)), (we, .inl (cI, 20, .inl fw)), (se, .inl (cI, 20, .inl fe)), (hm, .inr (0, [.ref pv, .ref up, .int (nI nr)])), (pv, .inl (cI, 10, .inl fp)), (up, .inl (cI, 10, .inl fu)), (hu, .inr (2, [.ref sd, .ref tw, .ref st, .ref od, .int (nI cn)])), (sd, .inl (cI, 12, .inl fs)), (tw, .inl (cI, 264, .inl ((wt_fold (wt_mrs fs fo cn k go) 0 (ft, ff)).1))), (st, .inl (cI, 264, .inl z9)), (od, .inl (cI, 264, .inl fo))] s.heap) e2) hP
  have hD : va_D A [(h, .inr (3, [.ref hm, .ref dp, .ref hu, .ref we, .ref se, .ref hq, .int (nI nt)])), (dp, .inl (cI, 2, .inl fd)), (we, .inl (cI, 20, .inl fw)), (se, .inl (cI, 20, .inl fe)), (hm, .inr (0, [.ref pv, .ref up, .int (nI nr)])), (pv, .inl (cI, 10, .inl fp)), (up, .inl (cI, 10, .inl fu)), (hu, .inr (2, [.ref sd, .ref tw, .ref st, .ref od, .int (nI cn)])), (sd, .inl (cI, 12, .inl fs)), (tw, .inl (cI, 264, .inl ((wt_fold (wt_mrs fs fo cn k go) 0 (ft, ff)).1))), (st, .inl (cI, 264, .inl ((wt_fold (wt_mrs fs fo cn k go) 0 (ft, ff)).2))), (od, .inl (cI, 264, .inl fo))] := wt_adr hD rfl
  refine wt_lpM (σ := Nat) 0 (fun i => cn - i) (fun i ls H locs => (i ≤ cn) ∧ lv_has ls 6 [(3, .int (nI i)), (0, .ref h), (1, .int (nI k)), (2, .int go)] ∧ va_P (dC, dI) vwCl [(h, .inr (3, [.ref hm, .ref dp, .ref hu, .ref we, .ref se, .ref hq, .int (nI nt)])), (dp, .inl (cI, 2, .inl fd)), (we, .inl (cI, 20, .inl fw)), (se, .inl (cI, 20, .inl fe)), (hm, .inr (0, [.ref pv, .ref up, .int (nI nr)])), (pv, .inl (cI, 10, .inl fp)), (up, .inl (cI, 10, .inl fu)), (hu, .inr (2, [.ref sd, .ref tw, .ref st, .ref od, .int (nI cn)])), (sd, .inl (cI, 12, .inl fs)), (tw, .inl (cI, 264, .inl ((wt_fold (wt_mrs fs fo cn k go) i (ft, ff)).1))), (st, .inl (cI, 264, .inl ((wt_fold (wt_mrs fs fo cn k go) i (ft, ff)).2))), (od, .inl (cI, 264, .inl fo))] H ∧ va_D A [(h, .inr (3, [.ref hm, .ref dp, .ref hu, .ref we, .ref se, .ref hq, .int (nI nt)])), (dp, .inl (cI, 2, .inl fd)), (we, .inl (cI, 20, .inl fw)), (se, .inl (cI, 20, .inl fe)), (hm, .inr (0, [.ref pv, .ref up, .int (nI nr)])), (pv, .inl (cI, 10, .inl fp)), (up, .inl (cI, 10, .inl fu)), (hu, .inr (2, [.ref sd, .ref tw, .ref st, .ref od, .int (nI cn)])), (sd, .inl (cI, 12, .inl fs)), (tw, .inl (cI, 264, .inl ((wt_fold (wt_mrs fs fo cn k go) i (ft, ff)).1))), (st, .inl (cI, 264, .inl ((wt_fold (wt_mrs fs fo cn k go) i (ft, ff)).2))), (od, .inl (cI, 264, .inl fo))] ∧ va_S A s.heap H locs) ⟨(by omega), lv_sub hl [0, 1, 2, 3] rfl, hP, hD, hS⟩ (fun i ls H locs h9 ih_2 => ?_)
  obtain ⟨h_2_0, hl, hP, hD, hS⟩ := h9
  refine lv_iload_n hx hb dX3_march_2 rfl (lv_at hl 0 rfl) ?_
  refine lv_aload_n hx hb dX3_march_3 rfl (lv_at hl 1 rfl) ?_
  refine va_get (D := (dC, dI)) (ci := 3) (v := .ref hu) (C := RX3) (T := TX3) (N := 7) hx hb hts inX3 hown hK hP 0 rfl rfl 2 (by decide) (hts (.fieldLink RX3 23 "WarTable" "units" "LWarTable$Units;") (List.mem_of_getElem? (i := 1) rfl)) (fun _ h9 => h9) rfl dX3_march_4 ?_
  refine wt_ro_go (va_runV (As := []) (rest := [.int (nI i)]) ⟨hx, hb, hml, hown, hts⟩ (k_X2_count l dC dI cI hu sd tw st od fs ((wt_fold (wt_mrs fs fo cn k go) i (ft, ff)).1) ((wt_fold (wt_mrs fs fo cn k go) i (ft, ff)).2) fo cn) (cwV 0 hts gX3_march_X2_count rfl rfl rfl (by decide +kernel) ⟨Nat.le_of_ble_eq_true rfl, Nat.le_of_ble_eq_true rfl⟩) (wt_PV (C := RX2) (T := TX2) (N := 5) (ci := 2) (q0 := 7) hK hP hN rfl rfl [7, 8, 9, 10, 11] rfl) rfl rfl hl.1 rfl (lv_room (Nat.le_of_ble_eq_true rfl)) dX3_march_7 ⟨Nat.zero_le _, Nat.zero_le _⟩) ?_
  refine wt_icmp_ge (tgt := 94) hx hb (by omega) (by omega) dX3_march_10 (by decide) (fun c_10_3 => ?_) (fun c_10_3 => ?_)
  · have e4 : (wt_fold (wt_mrs fs fo cn k go) i (ft, ff)).1 = (wt_mar fs fo cn k go (ft, ff)).1 := (by rw [show i = cn by omega]; rfl)
    have hP : va_P (dC, dI) vwCl [(h, .inr (3, [.ref hm, .ref dp, .ref hu, .ref we, .ref se, .ref hq, .int (nI nt)])), (dp, .inl (cI, 2, .inl fd)), (we, .inl (cI, 20, .inl fw)), (se, .inl (cI, 20, .inl fe)), (hm, .inr (0, [.ref pv, .ref up, .int (nI nr)])), (pv, .inl (cI, 10, .inl fp)), (up, .inl (cI, 10, .inl fu)), (hu, .inr (2, [.ref sd, .ref tw, .ref st, .ref od, .int (nI cn)])), (sd, .inl (cI, 12, .inl fs)), (tw, .inl (cI, 264, .inl ((wt_mar fs fo cn k go (ft, ff)).1))), (st, .inl (cI, 264, .inl ((wt_fold (wt_mrs fs fo cn k go) i (ft, ff)).2))), (od, .inl (cI, 264, .inl fo))] H := Eq.mp (congrArg (fun z9 : Nat → Int32 => va_P (dC, dI) vwCl [(h, .inr (3, [.ref hm, .ref dp, .ref hu, .ref we, .ref se, .ref hq, .int (nI nt)])), (dp, .inl (cI, 2, .inl fd)), (we, .inl (cI, 20, .inl fw)), (se, .inl (cI, 20, .inl fe)), (hm, .inr (0, [.ref pv, .ref up, .int (nI nr)])), (pv, .inl (cI, 10, .inl fp)), (up, .inl (cI, 10, .inl fu)), (hu, .inr (2, [.ref sd, .ref tw, .ref st, .ref od, .int (nI cn)])), (sd, .inl (cI, 12, .inl fs)), (tw, .inl (cI, 264, .inl z9)), (st, .inl (cI, 264, .inl ((wt_fold (wt_mrs fs fo cn k go) i (ft, ff)).2))), (od, .inl (cI, 264, .inl fo))] H) e4) hP
    have e5 : (wt_fold (wt_mrs fs fo cn k go) i (ft, ff)).2 = (wt_mar fs fo cn k go (ft, ff)).2 := (by rw [show i = cn by omega]; rfl)
    have hP : va_P (dC, dI) vwCl [(h, .inr (3, [.ref hm, .ref dp, .ref hu, .ref we, .ref se, .ref hq, .int (nI nt)])), (dp, .inl (cI, 2, .inl fd)), (we, .inl (cI, 20, .inl fw)), (se, .inl (cI, 20, .inl fe)), (hm, .inr (0, [.ref pv, .ref up, .int (nI nr)])), (pv, .inl (cI, 10, .inl fp)), (up, .inl (cI, 10, .inl fu)), (hu, .inr (2, [.ref sd, .ref tw, .ref st, .ref od, .int (nI cn)])), (sd, .inl (cI, 12, .inl fs)), (tw, .inl (cI, 264, .inl ((wt_mar fs fo cn k go (ft, ff)).1))), (st, .inl (cI, 264, .inl ((wt_mar fs fo cn k go (ft, ff)).2))), (od, .inl (cI, 264, .inl fo))] H := Eq.mp (congrArg (fun z9 : Nat → Int32 => va_P (dC, dI) vwCl [(h, .inr (3, [.ref hm, .ref dp, .ref hu, .ref we, .ref se, .ref hq, .int (nI nt)])), (dp, .inl (cI, 2, .inl fd)), (we, .inl (cI, 20, .inl fw)), (se, .inl (cI, 20, .inl fe)), (hm, .inr (0, [.ref pv, .ref up, .int (nI nr)])), (pv, .inl (cI, 10, .inl fp)), (up, .inl (cI, 10, .inl fu)), (hu, .inr (2, [.ref sd, .ref tw, .ref st, .ref od, .int (nI cn)])), (sd, .inl (cI, 12, .inl fs)), (tw, .inl (cI, 264, .inl ((wt_mar fs fo cn k go (ft, ff)).1))), (st, .inl (cI, 264, .inl z9)), (od, .inl (cI, 264, .inl fo))] H) e5) hP
    have hD : va_D A [(h, .inr (3, [.ref hm, .ref dp, .ref hu, .ref we, .ref se, .ref hq, .int (nI nt)])), (dp, .inl (cI, 2, .inl fd)), (we, .inl (cI, 20, .inl fw)), (se, .inl (cI, 20, .inl fe)), (hm, .inr (0, [.ref pv, .ref up, .int (nI nr)])), (pv, .inl (cI, 10, .inl fp)), (up, .inl (cI, 10, .inl fu)), (hu, .inr (2, [.ref sd, .ref tw, .ref st, .ref od, .int (nI cn)])), (sd, .inl (cI, 12, .inl fs)), (tw, .inl (cI, 264, .inl ((wt_mar fs fo cn k go (ft, ff)).1))), (st, .inl (cI, 264, .inl ((wt_mar fs fo cn k go (ft, ff)).2))), (od, .inl (cI, 264, .inl fo))] := wt_adr hD rfl
    exact wt_mvret hx hb hr hP hS dX3_march_94 hlocks
  · refine lv_iload_n hx hb dX3_march_13 rfl (lv_at hl 3 rfl) ?_
    refine lv_iload_n hx hb dX3_march_14 rfl (lv_at hl 0 rfl) ?_
    refine wt_ro_go (va_runS (As := [.int go, .int (nI i)]) (rest := []) ⟨hx, hb, hml, hown, hts⟩ (k_X3_has l go (nI i)) (va_cwS 2 hts gX3_march_X3_has rfl rfl rfl (by decide +kernel) ⟨Nat.le_of_ble_eq_true rfl, Nat.le_of_ble_eq_true rfl⟩) wt_PS rfl rfl hl.1 rfl (lv_room (Nat.le_of_ble_eq_true rfl)) dX3_march_15 ⟨Nat.zero_le _, Nat.zero_le _⟩) ?_
    refine wt_if_eqB (tgt := 35) hx hb dX3_march_18 (by decide) (fun c_18_6 => ?_) (fun c_18_6 => ?_)
    · refine lv_iconst (v := nI 0) hx hb dX3_march_35 (by decide +kernel) ?_
      refine lv_istore (lv' := [(4, .int (nI 0)), (3, .int (nI i)), (0, .ref h), (1, .int (nI k)), (2, .int go)]) hx hb dX3_march_36 hl (by decide) rfl (fun ls hl => ?_)
      refine lv_iload hx hb dX3_march_38 (lv_at hl 0 rfl) ?_
      refine wt_if_eq (tgt := 55) hx hb (by omega) dX3_march_40 (by decide) (fun c_40_7 => ?_) (fun c_40_7 => ?_)
      · refine lv_aload_n hx hb dX3_march_55 rfl (lv_at hl 2 rfl) ?_
        refine va_get (D := (dC, dI)) (ci := 3) (v := .ref hu) (C := RX3) (T := TX3) (N := 7) hx hb hts inX3 hown hK hP 0 rfl rfl 2 (by decide) (hts (.fieldLink RX3 23 "WarTable" "units" "LWarTable$Units;") (List.mem_of_getElem? (i := 1) rfl)) (fun _ h9 => h9) rfl dX3_march_56 ?_
        refine lv_iload_n hx hb dX3_march_59 rfl (lv_at hl 3 rfl) ?_
        refine lv_iload_n hx hb dX3_march_60 rfl (lv_at hl 1 rfl) ?_
        refine wt_ro_go (va_runV (As := [.int (nI k), .int (nI i)]) (rest := []) ⟨hx, hb, hml, hown, hts⟩ (k_X2_townAt l dC dI cI hu sd tw st od fs ((wt_fold (wt_mrs fs fo cn k go) i (ft, ff)).1) ((wt_fold (wt_mrs fs fo cn k go) i (ft, ff)).2) fo cn k i (by omega) (by omega)) (cwV 2 hts gX3_march_X2_townAt rfl rfl rfl (by decide +kernel) ⟨Nat.le_of_ble_eq_true rfl, Nat.le_of_ble_eq_true rfl⟩) (wt_PV (C := RX2) (T := TX2) (N := 5) (ci := 2) (q0 := 7) hK hP hN rfl rfl [7, 8, 9, 10, 11] rfl) rfl rfl hl.1 rfl (lv_room (Nat.le_of_ble_eq_true rfl)) dX3_march_61 ⟨Nat.zero_le _, Nat.zero_le _⟩) ?_
        refine lv_istore (lv' := [(5, .int (((wt_fold (wt_mrs fs fo cn k go) i (ft, ff)).1) (k * 12 + i))), (4, .int (nI 0)), (3, .int (nI i)), (0, .ref h), (1, .int (nI k)), (2, .int go)]) hx hb dX3_march_64 hl (by decide) rfl (fun ls hl => ?_)
        refine lv_aload_n hx hb dX3_march_66 rfl (lv_at hl 3 rfl) ?_
        refine va_get (D := (dC, dI)) (ci := 3) (v := .ref hu) (C := RX3) (T := TX3) (N := 7) hx hb hts inX3 hown hK hP 0 rfl rfl 2 (by decide) (hts (.fieldLink RX3 23 "WarTable" "units" "LWarTable$Units;") (List.mem_of_getElem? (i := 1) rfl)) (fun _ h9 => h9) rfl dX3_march_67 ?_
        refine lv_iload_n hx hb dX3_march_70 rfl (lv_at hl 4 rfl) ?_
        refine lv_iconst (v := nI 1) hx hb dX3_march_71 (by decide +kernel) ?_
        refine wt_iadd hx hb dX3_march_72 ?_
        refine lv_iload_n hx hb dX3_march_73 rfl (lv_at hl 2 rfl) ?_
        refine lv_iload hx hb dX3_march_74 (lv_at hl 0 rfl) ?_
        refine lv_aload_n hx hb dX3_march_76 rfl (lv_at hl 3 rfl) ?_
        refine va_get (D := (dC, dI)) (ci := 3) (v := .ref hu) (C := RX3) (T := TX3) (N := 7) hx hb hts inX3 hown hK hP 0 rfl rfl 2 (by decide) (hts (.fieldLink RX3 23 "WarTable" "units" "LWarTable$Units;") (List.mem_of_getElem? (i := 1) rfl)) (fun _ h9 => h9) rfl dX3_march_77 ?_
        refine lv_iload_n hx hb dX3_march_80 rfl (lv_at hl 4 rfl) ?_
        refine lv_iload_n hx hb dX3_march_81 rfl (lv_at hl 2 rfl) ?_
        refine wt_ro_go (va_runV (As := [.int (nI k), .int (nI i)]) (rest := [.int (((wt_fold (wt_mrs fs fo cn k go) i (ft, ff)).1) (k * 12 + i)), .int (nI i), .int (nI (k + 1)), .ref hu]) ⟨hx, hb, hml, hown, hts⟩ (k_X2_strengthAt l dC dI cI hu sd tw st od fs ((wt_fold (wt_mrs fs fo cn k go) i (ft, ff)).1) ((wt_fold (wt_mrs fs fo cn k go) i (ft, ff)).2) fo cn k i (by omega) (by omega)) (cwV 2 hts gX3_march_X2_strengthAt rfl rfl rfl (by decide +kernel) ⟨Nat.le_of_ble_eq_true rfl, Nat.le_of_ble_eq_true rfl⟩) (wt_PV (C := RX2) (T := TX2) (N := 5) (ci := 2) (q0 := 7) hK hP hN rfl rfl [7, 8, 9, 10, 11] rfl) rfl rfl hl.1 rfl (lv_room (Nat.le_of_ble_eq_true rfl)) dX3_march_82 ⟨Nat.zero_le _, Nat.zero_le _⟩) ?_
        refine wt_mu_go (w1 := [(hu, .inr (2, [.ref sd, .ref tw, .ref st, .ref od, .int (nI cn)])), (sd, .inl (cI, 12, .inl fs)), (tw, .inl (cI, 264, .inl (wt_plT ((wt_fold (wt_mrs fs fo cn k go) i (ft, ff)).1) (k + 1) i (((wt_fold (wt_mrs fs fo cn k go) i (ft, ff)).1) (k * 12 + i)) (((wt_fold (wt_mrs fs fo cn k go) i (ft, ff)).2) (k * 12 + i))))), (st, .inl (cI, 264, .inl (wt_plF ((wt_fold (wt_mrs fs fo cn k go) i (ft, ff)).2) (k + 1) i (((wt_fold (wt_mrs fs fo cn k go) i (ft, ff)).2) (k * 12 + i))))), (od, .inl (cI, 264, .inl fo))]) (w2 := [(h, .inr (3, [.ref hm, .ref dp, .ref hu, .ref we, .ref se, .ref hq, .int (nI nt)])), (dp, .inl (cI, 2, .inl fd)), (we, .inl (cI, 20, .inl fw)), (se, .inl (cI, 20, .inl fe)), (hm, .inr (0, [.ref pv, .ref up, .int (nI nr)])), (pv, .inl (cI, 10, .inl fp)), (up, .inl (cI, 10, .inl fu)), (hu, .inr (2, [.ref sd, .ref tw, .ref st, .ref od, .int (nI cn)])), (sd, .inl (cI, 12, .inl fs)), (tw, .inl (cI, 264, .inl (wt_plT ((wt_fold (wt_mrs fs fo cn k go) i (ft, ff)).1) (k + 1) i (((wt_fold (wt_mrs fs fo cn k go) i (ft, ff)).1) (k * 12 + i)) (((wt_fold (wt_mrs fs fo cn k go) i (ft, ff)).2) (k * 12 + i))))), (st, .inl (cI, 264, .inl (wt_plF ((wt_fold (wt_mrs fs fo cn k go) i (ft, ff)).2) (k + 1) i (((wt_fold (wt_mrs fs fo cn k go) i (ft, ff)).2) (k * 12 + i))))), (od, .inl (cI, 264, .inl fo))]) (wr := [(h, .inr (3, [.ref hm, .ref dp, .ref hu, .ref we, .ref se, .ref hq, .int (nI nt)])), (dp, .inl (cI, 2, .inl fd)), (we, .inl (cI, 20, .inl fw)), (se, .inl (cI, 20, .inl fe)), (hm, .inr (0, [.ref pv, .ref up, .int (nI nr)])), (pv, .inl (cI, 10, .inl fp)), (up, .inl (cI, 10, .inl fu))]) (va_runV (As := [.int (nI (k + 1)), .int (nI i), .int (((wt_fold (wt_mrs fs fo cn k go) i (ft, ff)).1) (k * 12 + i)), .int (((wt_fold (wt_mrs fs fo cn k go) i (ft, ff)).2) (k * 12 + i))]) (rest := []) ⟨hx, hb, hml, hown, hts⟩ (k_X2_place l dC dI cI hu sd tw st od fs ((wt_fold (wt_mrs fs fo cn k go) i (ft, ff)).1) ((wt_fold (wt_mrs fs fo cn k go) i (ft, ff)).2) fo cn (k + 1) i (((wt_fold (wt_mrs fs fo cn k go) i (ft, ff)).1) (k * 12 + i)) (((wt_fold (wt_mrs fs fo cn k go) i (ft, ff)).2) (k * 12 + i)) H.size (by omega) (by omega)) (cwV 4 hts gX3_march_X2_place rfl rfl rfl (by decide +kernel) ⟨Nat.le_of_ble_eq_true rfl, Nat.le_of_ble_eq_true rfl⟩) (wt_PVM (C := RX2) (T := TX2) (N := 5) (ci := 2) (q0 := 7) hK hP hN hD rfl rfl [7, 8, 9, 10, 11] rfl rfl) rfl rfl hl.1 rfl (lv_room (Nat.le_of_ble_eq_true rfl)) dX3_march_85 ⟨Nat.zero_le _, Nat.zero_le _⟩) hP hD hS hA [7, 8, 9, 10, 11] [0, 1, 2, 3, 4, 5, 6] rfl rfl rfl rfl (by decide) rfl [0, 1, 2, 3, 4, 5, 6, 7, 8, 9, 10, 11] rfl rfl (fun H locs hP hD hS hz9 => ?_)
        refine W.eq (g2 := F0 m 88 ls []) rfl ?_
        refine lv_iinc (v := nI (i + 1)) (lv' := [(3, .int (nI (i + 1))), (5, .int (((wt_fold (wt_mrs fs fo cn k go) i (ft, ff)).1) (k * 12 + i))), (4, .int (nI 0)), (0, .ref h), (1, .int (nI k)), (2, .int go)]) hx hb dX3_march_88 hl (k := 2) rfl (nI_1 i) (by decide) rfl (fun ls hl => ?_)
        refine lv_goto (tgt := 2) hx hb dX3_march_91 (by decide) ?_
        have e8 : (wt_plT ((wt_fold (wt_mrs fs fo cn k go) i (ft, ff)).1) (k + 1) i (((wt_fold (wt_mrs fs fo cn k go) i (ft, ff)).1) (k * 12 + i)) (((wt_fold (wt_mrs fs fo cn k go) i (ft, ff)).2) (k * 12 + i))) = (wt_fold (wt_mrs fs fo cn k go) (i + 1) (ft, ff)).1 := (by simp only [wt_fold_s, wt_mrs, wt_pl, wt_if_f c_18_6])
        have hP : va_P (dC, dI) vwCl [(h, .inr (3, [.ref hm, .ref dp, .ref hu, .ref we, .ref se, .ref hq, .int (nI nt)])), (dp, .inl (cI, 2, .inl fd)), (we, .inl (cI, 20, .inl fw)), (se, .inl (cI, 20, .inl fe)), (hm, .inr (0, [.ref pv, .ref up, .int (nI nr)])), (pv, .inl (cI, 10, .inl fp)), (up, .inl (cI, 10, .inl fu)), (hu, .inr (2, [.ref sd, .ref tw, .ref st, .ref od, .int (nI cn)])), (sd, .inl (cI, 12, .inl fs)), (tw, .inl (cI, 264, .inl ((wt_fold (wt_mrs fs fo cn k go) (i + 1) (ft, ff)).1))), (st, .inl (cI, 264, .inl (wt_plF ((wt_fold (wt_mrs fs fo cn k go) i (ft, ff)).2) (k + 1) i (((wt_fold (wt_mrs fs fo cn k go) i (ft, ff)).2) (k * 12 + i))))), (od, .inl (cI, 264, .inl fo))] H := Eq.mp (congrArg (fun z9 : Nat → Int32 => va_P (dC, dI) vwCl [(h, .inr (3, [.ref hm, .ref dp, .ref hu, .ref we, .ref se, .ref hq, .int (nI nt)])), (dp, .inl (cI, 2, .inl fd)), (we, .inl (cI, 20, .inl fw)), (se, .inl (cI, 20, .inl fe)), (hm, .inr (0, [.ref pv, .ref up, .int (nI nr)])), (pv, .inl (cI, 10, .inl fp)), (up, .inl (cI, 10, .inl fu)), (hu, .inr (2, [.ref sd, .ref tw, .ref st, .ref od, .int (nI cn)])), (sd, .inl (cI, 12, .inl fs)), (tw, .inl (cI, 264, .inl z9)), (st, .inl (cI, 264, .inl (wt_plF ((wt_fold (wt_mrs fs fo cn k go) i (ft, ff)).2) (k + 1) i (((wt_fold (wt_mrs fs fo cn k go) i (ft, ff)).2) (k * 12 + i))))), (od, .inl (cI, 264, .inl fo))] H) e8) hP
        have e9 : (wt_plF ((wt_fold (wt_mrs fs fo cn k go) i (ft, ff)).2) (k + 1) i (((wt_fold (wt_mrs fs fo cn k go) i (ft, ff)).2) (k * 12 + i))) = (wt_fold (wt_mrs fs fo cn k go) (i + 1) (ft, ff)).2 := (by simp only [wt_fold_s, wt_mrs, wt_pl, wt_if_f c_18_6])
        have hP : va_P (dC, dI) vwCl [(h, .inr (3, [.ref hm, .ref dp, .ref hu, .ref we, .ref se, .ref hq, .int (nI nt)])), (dp, .inl (cI, 2, .inl fd)), (we, .inl (cI, 20, .inl fw)), (se, .inl (cI, 20, .inl fe)), (hm, .inr (0, [.ref pv, .ref up, .int (nI nr)])), (pv, .inl (cI, 10, .inl fp)), (up, .inl (cI, 10, .inl fu)), (hu, .inr (2, [.ref sd, .ref tw, .ref st, .ref od, .int (nI cn)])), (sd, .inl (cI, 12, .inl fs)), (tw, .inl (cI, 264, .inl ((wt_fold (wt_mrs fs fo cn k go) (i + 1) (ft, ff)).1))), (st, .inl (cI, 264, .inl ((wt_fold (wt_mrs fs fo cn k go) (i + 1) (ft, ff)).2))), (od, .inl (cI, 264, .inl fo))] H := Eq.mp (congrArg (fun z9 : Nat → Int32 => va_P (dC, dI) vwCl [(h, .inr (3, [.ref hm, .ref dp, .ref hu, .ref we, .ref se, .ref hq, .int (nI nt)])), (dp, .inl (cI, 2, .inl fd)), (we, .inl (cI, 20, .inl fw)), (se, .inl (cI, 20, .inl fe)), (hm, .inr (0, [.ref pv, .ref up, .int (nI nr)])), (pv, .inl (cI, 10, .inl fp)), (up, .inl (cI, 10, .inl fu)), (hu, .inr (2, [.ref sd, .ref tw, .ref st, .ref od, .int (nI cn)])), (sd, .inl (cI, 12, .inl fs)), (tw, .inl (cI, 264, .inl ((wt_fold (wt_mrs fs fo cn k go) (i + 1) (ft, ff)).1))), (st, .inl (cI, 264, .inl z9)), (od, .inl (cI, 264, .inl fo))] H) e9) hP
        have hD : va_D A [(h, .inr (3, [.ref hm, .ref dp, .ref hu, .ref we, .ref se, .ref hq, .int (nI nt)])), (dp, .inl (cI, 2, .inl fd)), (we, .inl (cI, 20, .inl fw)), (se, .inl (cI, 20, .inl fe)), (hm, .inr (0, [.ref pv, .ref up, .int (nI nr)])), (pv, .inl (cI, 10, .inl fp)), (up, .inl (cI, 10, .inl fu)), (hu, .inr (2, [.ref sd, .ref tw, .ref st, .ref od, .int (nI cn)])), (sd, .inl (cI, 12, .inl fs)), (tw, .inl (cI, 264, .inl ((wt_fold (wt_mrs fs fo cn k go) (i + 1) (ft, ff)).1))), (st, .inl (cI, 264, .inl ((wt_fold (wt_mrs fs fo cn k go) (i + 1) (ft, ff)).2))), (od, .inl (cI, 264, .inl fo))] := wt_adr hD rfl
        exact ih_2 (i + 1) _ _ _ (by omega) ⟨(by omega), lv_sub hl [0, 3, 4, 5] rfl, hP, hD, hS⟩
      · exact absurd c_40_7 (by omega)
    · refine lv_aload_n hx hb dX3_march_21 rfl (lv_at hl 1 rfl) ?_
      refine lv_iload_n hx hb dX3_march_22 rfl (lv_at hl 2 rfl) ?_
      refine lv_iload_n hx hb dX3_march_23 rfl (lv_at hl 0 rfl) ?_
      refine lv_iload_n hx hb dX3_march_24 rfl (lv_at hl 3 rfl) ?_
      refine wt_ro_go (va_runV (As := [.int (nI k), .int (nI i), .int go]) (rest := []) ⟨hx, hb, hml, hown, hts⟩ (k_X3_isMetOnRoad l dC dI cI h dp we se fd fw fe nt hm pv up fp fu nr hu sd tw st od fs ((wt_fold (wt_mrs fs fo cn k go) i (ft, ff)).1) ((wt_fold (wt_mrs fs fo cn k go) i (ft, ff)).2) fo cn hq k i go (by omega) (by omega) (by omega)) (cwV 3 hts gX3_march_X3_isMetOnRoad rfl rfl rfl (by decide +kernel) ⟨Nat.le_of_ble_eq_true rfl, Nat.le_of_ble_eq_true rfl⟩) (wt_PV (C := RX3) (T := TX3) (N := 7) (ci := 3) (q0 := 0) hK hP hN rfl rfl [0, 1, 2, 3, 4, 5, 6, 7, 8, 9, 10, 11] rfl) rfl rfl hl.1 rfl (lv_room (Nat.le_of_ble_eq_true rfl)) dX3_march_25 ⟨Nat.zero_le _, Nat.zero_le _⟩) ?_
      refine wt_if_neB (tgt := 35) hx hb dX3_march_28 (by decide) (fun c_28_10 => ?_) (fun c_28_10 => ?_)
      · refine lv_iconst (v := nI 0) hx hb dX3_march_35 (by decide +kernel) ?_
        refine lv_istore (lv' := [(4, .int (nI 0)), (3, .int (nI i)), (0, .ref h), (1, .int (nI k)), (2, .int go)]) hx hb dX3_march_36 hl (by decide) rfl (fun ls hl => ?_)
        refine lv_iload hx hb dX3_march_38 (lv_at hl 0 rfl) ?_
        refine wt_if_eq (tgt := 55) hx hb (by omega) dX3_march_40 (by decide) (fun c_40_11 => ?_) (fun c_40_11 => ?_)
        · refine lv_aload_n hx hb dX3_march_55 rfl (lv_at hl 2 rfl) ?_
          refine va_get (D := (dC, dI)) (ci := 3) (v := .ref hu) (C := RX3) (T := TX3) (N := 7) hx hb hts inX3 hown hK hP 0 rfl rfl 2 (by decide) (hts (.fieldLink RX3 23 "WarTable" "units" "LWarTable$Units;") (List.mem_of_getElem? (i := 1) rfl)) (fun _ h9 => h9) rfl dX3_march_56 ?_
          refine lv_iload_n hx hb dX3_march_59 rfl (lv_at hl 3 rfl) ?_
          refine lv_iload_n hx hb dX3_march_60 rfl (lv_at hl 1 rfl) ?_
          refine wt_ro_go (va_runV (As := [.int (nI k), .int (nI i)]) (rest := []) ⟨hx, hb, hml, hown, hts⟩ (k_X2_townAt l dC dI cI hu sd tw st od fs ((wt_fold (wt_mrs fs fo cn k go) i (ft, ff)).1) ((wt_fold (wt_mrs fs fo cn k go) i (ft, ff)).2) fo cn k i (by omega) (by omega)) (cwV 2 hts gX3_march_X2_townAt rfl rfl rfl (by decide +kernel) ⟨Nat.le_of_ble_eq_true rfl, Nat.le_of_ble_eq_true rfl⟩) (wt_PV (C := RX2) (T := TX2) (N := 5) (ci := 2) (q0 := 7) hK hP hN rfl rfl [7, 8, 9, 10, 11] rfl) rfl rfl hl.1 rfl (lv_room (Nat.le_of_ble_eq_true rfl)) dX3_march_61 ⟨Nat.zero_le _, Nat.zero_le _⟩) ?_
          refine lv_istore (lv' := [(5, .int (((wt_fold (wt_mrs fs fo cn k go) i (ft, ff)).1) (k * 12 + i))), (4, .int (nI 0)), (3, .int (nI i)), (0, .ref h), (1, .int (nI k)), (2, .int go)]) hx hb dX3_march_64 hl (by decide) rfl (fun ls hl => ?_)
          refine lv_aload_n hx hb dX3_march_66 rfl (lv_at hl 3 rfl) ?_
          refine va_get (D := (dC, dI)) (ci := 3) (v := .ref hu) (C := RX3) (T := TX3) (N := 7) hx hb hts inX3 hown hK hP 0 rfl rfl 2 (by decide) (hts (.fieldLink RX3 23 "WarTable" "units" "LWarTable$Units;") (List.mem_of_getElem? (i := 1) rfl)) (fun _ h9 => h9) rfl dX3_march_67 ?_
          refine lv_iload_n hx hb dX3_march_70 rfl (lv_at hl 4 rfl) ?_
          refine lv_iconst (v := nI 1) hx hb dX3_march_71 (by decide +kernel) ?_
          refine wt_iadd hx hb dX3_march_72 ?_
          refine lv_iload_n hx hb dX3_march_73 rfl (lv_at hl 2 rfl) ?_
          refine lv_iload hx hb dX3_march_74 (lv_at hl 0 rfl) ?_
          refine lv_aload_n hx hb dX3_march_76 rfl (lv_at hl 3 rfl) ?_
          refine va_get (D := (dC, dI)) (ci := 3) (v := .ref hu) (C := RX3) (T := TX3) (N := 7) hx hb hts inX3 hown hK hP 0 rfl rfl 2 (by decide) (hts (.fieldLink RX3 23 "WarTable" "units" "LWarTable$Units;") (List.mem_of_getElem? (i := 1) rfl)) (fun _ h9 => h9) rfl dX3_march_77 ?_
          refine lv_iload_n hx hb dX3_march_80 rfl (lv_at hl 4 rfl) ?_
          refine lv_iload_n hx hb dX3_march_81 rfl (lv_at hl 2 rfl) ?_
          refine wt_ro_go (va_runV (As := [.int (nI k), .int (nI i)]) (rest := [.int (((wt_fold (wt_mrs fs fo cn k go) i (ft, ff)).1) (k * 12 + i)), .int (nI i), .int (nI (k + 1)), .ref hu]) ⟨hx, hb, hml, hown, hts⟩ (k_X2_strengthAt l dC dI cI hu sd tw st od fs ((wt_fold (wt_mrs fs fo cn k go) i (ft, ff)).1) ((wt_fold (wt_mrs fs fo cn k go) i (ft, ff)).2) fo cn k i (by omega) (by omega)) (cwV 2 hts gX3_march_X2_strengthAt rfl rfl rfl (by decide +kernel) ⟨Nat.le_of_ble_eq_true rfl, Nat.le_of_ble_eq_true rfl⟩) (wt_PV (C := RX2) (T := TX2) (N := 5) (ci := 2) (q0 := 7) hK hP hN rfl rfl [7, 8, 9, 10, 11] rfl) rfl rfl hl.1 rfl (lv_room (Nat.le_of_ble_eq_true rfl)) dX3_march_82 ⟨Nat.zero_le _, Nat.zero_le _⟩) ?_
          refine wt_mu_go (w1 := [(hu, .inr (2, [.ref sd, .ref tw, .ref st, .ref od, .int (nI cn)])), (sd, .inl (cI, 12, .inl fs)), (tw, .inl (cI, 264, .inl (wt_plT ((wt_fold (wt_mrs fs fo cn k go) i (ft, ff)).1) (k + 1) i (((wt_fold (wt_mrs fs fo cn k go) i (ft, ff)).1) (k * 12 + i)) (((wt_fold (wt_mrs fs fo cn k go) i (ft, ff)).2) (k * 12 + i))))), (st, .inl (cI, 264, .inl (wt_plF ((wt_fold (wt_mrs fs fo cn k go) i (ft, ff)).2) (k + 1) i (((wt_fold (wt_mrs fs fo cn k go) i (ft, ff)).2) (k * 12 + i))))), (od, .inl (cI, 264, .inl fo))]) (w2 := [(h, .inr (3, [.ref hm, .ref dp, .ref hu, .ref we, .ref se, .ref hq, .int (nI nt)])), (dp, .inl (cI, 2, .inl fd)), (we, .inl (cI, 20, .inl fw)), (se, .inl (cI, 20, .inl fe)), (hm, .inr (0, [.ref pv, .ref up, .int (nI nr)])), (pv, .inl (cI, 10, .inl fp)), (up, .inl (cI, 10, .inl fu)), (hu, .inr (2, [.ref sd, .ref tw, .ref st, .ref od, .int (nI cn)])), (sd, .inl (cI, 12, .inl fs)), (tw, .inl (cI, 264, .inl (wt_plT ((wt_fold (wt_mrs fs fo cn k go) i (ft, ff)).1) (k + 1) i (((wt_fold (wt_mrs fs fo cn k go) i (ft, ff)).1) (k * 12 + i)) (((wt_fold (wt_mrs fs fo cn k go) i (ft, ff)).2) (k * 12 + i))))), (st, .inl (cI, 264, .inl (wt_plF ((wt_fold (wt_mrs fs fo cn k go) i (ft, ff)).2) (k + 1) i (((wt_fold (wt_mrs fs fo cn k go) i (ft, ff)).2) (k * 12 + i))))), (od, .inl (cI, 264, .inl fo))]) (wr := [(h, .inr (3, [.ref hm, .ref dp, .ref hu, .ref we, .ref se, .ref hq, .int (nI nt)])), (dp, .inl (cI, 2, .inl fd)), (we, .inl (cI, 20, .inl fw)), (se, .inl (cI, 20, .inl fe)), (hm, .inr (0, [.ref pv, .ref up, .int (nI nr)])), (pv, .inl (cI, 10, .inl fp)), (up, .inl (cI, 10, .inl fu))]) (va_runV (As := [.int (nI (k + 1)), .int (nI i), .int (((wt_fold (wt_mrs fs fo cn k go) i (ft, ff)).1) (k * 12 + i)), .int (((wt_fold (wt_mrs fs fo cn k go) i (ft, ff)).2) (k * 12 + i))]) (rest := []) ⟨hx, hb, hml, hown, hts⟩ (k_X2_place l dC dI cI hu sd tw st od fs ((wt_fold (wt_mrs fs fo cn k go) i (ft, ff)).1) ((wt_fold (wt_mrs fs fo cn k go) i (ft, ff)).2) fo cn (k + 1) i (((wt_fold (wt_mrs fs fo cn k go) i (ft, ff)).1) (k * 12 + i)) (((wt_fold (wt_mrs fs fo cn k go) i (ft, ff)).2) (k * 12 + i)) H.size (by omega) (by omega)) (cwV 4 hts gX3_march_X2_place rfl rfl rfl (by decide +kernel) ⟨Nat.le_of_ble_eq_true rfl, Nat.le_of_ble_eq_true rfl⟩) (wt_PVM (C := RX2) (T := TX2) (N := 5) (ci := 2) (q0 := 7) hK hP hN hD rfl rfl [7, 8, 9, 10, 11] rfl rfl) rfl rfl hl.1 rfl (lv_room (Nat.le_of_ble_eq_true rfl)) dX3_march_85 ⟨Nat.zero_le _, Nat.zero_le _⟩) hP hD hS hA [7, 8, 9, 10, 11] [0, 1, 2, 3, 4, 5, 6] rfl rfl rfl rfl (by decide) rfl [0, 1, 2, 3, 4, 5, 6, 7, 8, 9, 10, 11] rfl rfl (fun H locs hP hD hS hz9 => ?_)
          refine W.eq (g2 := F0 m 88 ls []) rfl ?_
          refine lv_iinc (v := nI (i + 1)) (lv' := [(3, .int (nI (i + 1))), (5, .int (((wt_fold (wt_mrs fs fo cn k go) i (ft, ff)).1) (k * 12 + i))), (4, .int (nI 0)), (0, .ref h), (1, .int (nI k)), (2, .int go)]) hx hb dX3_march_88 hl (k := 2) rfl (nI_1 i) (by decide) rfl (fun ls hl => ?_)
          refine lv_goto (tgt := 2) hx hb dX3_march_91 (by decide) ?_
          have e12 : (wt_plT ((wt_fold (wt_mrs fs fo cn k go) i (ft, ff)).1) (k + 1) i (((wt_fold (wt_mrs fs fo cn k go) i (ft, ff)).1) (k * 12 + i)) (((wt_fold (wt_mrs fs fo cn k go) i (ft, ff)).2) (k * 12 + i))) = (wt_fold (wt_mrs fs fo cn k go) (i + 1) (ft, ff)).1 := (by simp only [wt_fold_s, wt_mrs, wt_pl, wt_if_t c_18_6, wt_if_t c_28_10])
          have hP : va_P (dC, dI) vwCl [(h, .inr (3, [.ref hm, .ref dp, .ref hu, .ref we, .ref se, .ref hq, .int (nI nt)])), (dp, .inl (cI, 2, .inl fd)), (we, .inl (cI, 20, .inl fw)), (se, .inl (cI, 20, .inl fe)), (hm, .inr (0, [.ref pv, .ref up, .int (nI nr)])), (pv, .inl (cI, 10, .inl fp)), (up, .inl (cI, 10, .inl fu)), (hu, .inr (2, [.ref sd, .ref tw, .ref st, .ref od, .int (nI cn)])), (sd, .inl (cI, 12, .inl fs)), (tw, .inl (cI, 264, .inl ((wt_fold (wt_mrs fs fo cn k go) (i + 1) (ft, ff)).1))), (st, .inl (cI, 264, .inl (wt_plF ((wt_fold (wt_mrs fs fo cn k go) i (ft, ff)).2) (k + 1) i (((wt_fold (wt_mrs fs fo cn k go) i (ft, ff)).2) (k * 12 + i))))), (od, .inl (cI, 264, .inl fo))] H := Eq.mp (congrArg (fun z9 : Nat → Int32 => va_P (dC, dI) vwCl [(h, .inr (3, [.ref hm, .ref dp, .ref hu, .ref we, .ref se, .ref hq, .int (nI nt)])), (dp, .inl (cI, 2, .inl fd)), (we, .inl (cI, 20, .inl fw)), (se, .inl (cI, 20, .inl fe)), (hm, .inr (0, [.ref pv, .ref up, .int (nI nr)])), (pv, .inl (cI, 10, .inl fp)), (up, .inl (cI, 10, .inl fu)), (hu, .inr (2, [.ref sd, .ref tw, .ref st, .ref od, .int (nI cn)])), (sd, .inl (cI, 12, .inl fs)), (tw, .inl (cI, 264, .inl z9)), (st, .inl (cI, 264, .inl (wt_plF ((wt_fold (wt_mrs fs fo cn k go) i (ft, ff)).2) (k + 1) i (((wt_fold (wt_mrs fs fo cn k go) i (ft, ff)).2) (k * 12 + i))))), (od, .inl (cI, 264, .inl fo))] H) e12) hP
          have e13 : (wt_plF ((wt_fold (wt_mrs fs fo cn k go) i (ft, ff)).2) (k + 1) i (((wt_fold (wt_mrs fs fo cn k go) i (ft, ff)).2) (k * 12 + i))) = (wt_fold (wt_mrs fs fo cn k go) (i + 1) (ft, ff)).2 := (by simp only [wt_fold_s, wt_mrs, wt_pl, wt_if_t c_18_6, wt_if_t c_28_10])
          have hP : va_P (dC, dI) vwCl [(h, .inr (3, [.ref hm, .ref dp, .ref hu, .ref we, .ref se, .ref hq, .int (nI nt)])), (dp, .inl (cI, 2, .inl fd)), (we, .inl (cI, 20, .inl fw)), (se, .inl (cI, 20, .inl fe)), (hm, .inr (0, [.ref pv, .ref up, .int (nI nr)])), (pv, .inl (cI, 10, .inl fp)), (up, .inl (cI, 10, .inl fu)), (hu, .inr (2, [.ref sd, .ref tw, .ref st, .ref od, .int (nI cn)])), (sd, .inl (cI, 12, .inl fs)), (tw, .inl (cI, 264, .inl ((wt_fold (wt_mrs fs fo cn k go) (i + 1) (ft, ff)).1))), (st, .inl (cI, 264, .inl ((wt_fold (wt_mrs fs fo cn k go) (i + 1) (ft, ff)).2))), (od, .inl (cI, 264, .inl fo))] H := Eq.mp (congrArg (fun z9 : Nat → Int32 => va_P (dC, dI) vwCl [(h, .inr (3, [.ref hm, .ref dp, .ref hu, .ref we, .ref se, .ref hq, .int (nI nt)])), (dp, .inl (cI, 2, .inl fd)), (we, .inl (cI, 20, .inl fw)), (se, .inl (cI, 20, .inl fe)), (hm, .inr (0, [.ref pv, .ref up, .int (nI nr)])), (pv, .inl (cI, 10, .inl fp)), (up, .inl (cI, 10, .inl fu)), (hu, .inr (2, [.ref sd, .ref tw, .ref st, .ref od, .int (nI cn)])), (sd, .inl (cI, 12, .inl fs)), (tw, .inl (cI, 264, .inl ((wt_fold (wt_mrs fs fo cn k go) (i + 1) (ft, ff)).1))), (st, .inl (cI, 264, .inl z9)), (od, .inl (cI, 264, .inl fo))] H) e13) hP
          have hD : va_D A [(h, .inr (3, [.ref hm, .ref dp, .ref hu, .ref we, .ref se, .ref hq, .int (nI nt)])), (dp, .inl (cI, 2, .inl fd)), (we, .inl (cI, 20, .inl fw)), (se, .inl (cI, 20, .inl fe)), (hm, .inr (0, [.ref pv, .ref up, .int (nI nr)])), (pv, .inl (cI, 10, .inl fp)), (up, .inl (cI, 10, .inl fu)), (hu, .inr (2, [.ref sd, .ref tw, .ref st, .ref od, .int (nI cn)])), (sd, .inl (cI, 12, .inl fs)), (tw, .inl (cI, 264, .inl ((wt_fold (wt_mrs fs fo cn k go) (i + 1) (ft, ff)).1))), (st, .inl (cI, 264, .inl ((wt_fold (wt_mrs fs fo cn k go) (i + 1) (ft, ff)).2))), (od, .inl (cI, 264, .inl fo))] := wt_adr hD rfl
          exact ih_2 (i + 1) _ _ _ (by omega) ⟨(by omega), lv_sub hl [0, 3, 4, 5] rfl, hP, hD, hS⟩
        · exact absurd c_40_11 (by omega)
      · refine lv_iconst (v := nI 1) hx hb dX3_march_31 (by decide +kernel) ?_
        refine lv_goto (tgt := 36) hx hb dX3_march_32 (by decide) ?_
        refine lv_istore (lv' := [(4, .int (nI 1)), (3, .int (nI i)), (0, .ref h), (1, .int (nI k)), (2, .int go)]) hx hb dX3_march_36 hl (by decide) rfl (fun ls hl => ?_)
        refine lv_iload hx hb dX3_march_38 (lv_at hl 0 rfl) ?_
        refine wt_if_eq (tgt := 55) hx hb (by omega) dX3_march_40 (by decide) (fun c_40_14 => ?_) (fun c_40_14 => ?_)
        · exact absurd c_40_14 (by omega)
        · refine lv_aload_n hx hb dX3_march_43 rfl (lv_at hl 2 rfl) ?_
          refine va_get (D := (dC, dI)) (ci := 3) (v := .ref hu) (C := RX3) (T := TX3) (N := 7) hx hb hts inX3 hown hK hP 0 rfl rfl 2 (by decide) (hts (.fieldLink RX3 23 "WarTable" "units" "LWarTable$Units;") (List.mem_of_getElem? (i := 1) rfl)) (fun _ h9 => h9) rfl dX3_march_44 ?_
          refine lv_iload_n hx hb dX3_march_47 rfl (lv_at hl 3 rfl) ?_
          refine lv_iload_n hx hb dX3_march_48 rfl (lv_at hl 1 rfl) ?_
          refine wt_ro_go (va_runV (As := [.int (nI k), .int (nI i)]) (rest := []) ⟨hx, hb, hml, hown, hts⟩ (k_X2_orderFor l dC dI cI hu sd tw st od fs ((wt_fold (wt_mrs fs fo cn k go) i (ft, ff)).1) ((wt_fold (wt_mrs fs fo cn k go) i (ft, ff)).2) fo cn k i (by omega) (by omega)) (cwV 2 hts gX3_march_X2_orderFor rfl rfl rfl (by decide +kernel) ⟨Nat.le_of_ble_eq_true rfl, Nat.le_of_ble_eq_true rfl⟩) (wt_PV (C := RX2) (T := TX2) (N := 5) (ci := 2) (q0 := 7) hK hP hN rfl rfl [7, 8, 9, 10, 11] rfl) rfl rfl hl.1 rfl (lv_room (Nat.le_of_ble_eq_true rfl)) dX3_march_49 ⟨Nat.zero_le _, Nat.zero_le _⟩) ?_
          refine lv_goto (tgt := 64) hx hb dX3_march_52 (by decide) ?_
          refine lv_istore (lv' := [(5, .int (fo (k * 12 + i) - nI 1)), (4, .int (nI 1)), (3, .int (nI i)), (0, .ref h), (1, .int (nI k)), (2, .int go)]) hx hb dX3_march_64 hl (by decide) rfl (fun ls hl => ?_)
          refine lv_aload_n hx hb dX3_march_66 rfl (lv_at hl 3 rfl) ?_
          refine va_get (D := (dC, dI)) (ci := 3) (v := .ref hu) (C := RX3) (T := TX3) (N := 7) hx hb hts inX3 hown hK hP 0 rfl rfl 2 (by decide) (hts (.fieldLink RX3 23 "WarTable" "units" "LWarTable$Units;") (List.mem_of_getElem? (i := 1) rfl)) (fun _ h9 => h9) rfl dX3_march_67 ?_
          refine lv_iload_n hx hb dX3_march_70 rfl (lv_at hl 4 rfl) ?_
          refine lv_iconst (v := nI 1) hx hb dX3_march_71 (by decide +kernel) ?_
          refine wt_iadd hx hb dX3_march_72 ?_
          refine lv_iload_n hx hb dX3_march_73 rfl (lv_at hl 2 rfl) ?_
          refine lv_iload hx hb dX3_march_74 (lv_at hl 0 rfl) ?_
          refine lv_aload_n hx hb dX3_march_76 rfl (lv_at hl 3 rfl) ?_
          refine va_get (D := (dC, dI)) (ci := 3) (v := .ref hu) (C := RX3) (T := TX3) (N := 7) hx hb hts inX3 hown hK hP 0 rfl rfl 2 (by decide) (hts (.fieldLink RX3 23 "WarTable" "units" "LWarTable$Units;") (List.mem_of_getElem? (i := 1) rfl)) (fun _ h9 => h9) rfl dX3_march_77 ?_
          refine lv_iload_n hx hb dX3_march_80 rfl (lv_at hl 4 rfl) ?_
          refine lv_iload_n hx hb dX3_march_81 rfl (lv_at hl 2 rfl) ?_
          refine wt_ro_go (va_runV (As := [.int (nI k), .int (nI i)]) (rest := [.int (fo (k * 12 + i) - nI 1), .int (nI i), .int (nI (k + 1)), .ref hu]) ⟨hx, hb, hml, hown, hts⟩ (k_X2_strengthAt l dC dI cI hu sd tw st od fs ((wt_fold (wt_mrs fs fo cn k go) i (ft, ff)).1) ((wt_fold (wt_mrs fs fo cn k go) i (ft, ff)).2) fo cn k i (by omega) (by omega)) (cwV 2 hts gX3_march_X2_strengthAt rfl rfl rfl (by decide +kernel) ⟨Nat.le_of_ble_eq_true rfl, Nat.le_of_ble_eq_true rfl⟩) (wt_PV (C := RX2) (T := TX2) (N := 5) (ci := 2) (q0 := 7) hK hP hN rfl rfl [7, 8, 9, 10, 11] rfl) rfl rfl hl.1 rfl (lv_room (Nat.le_of_ble_eq_true rfl)) dX3_march_82 ⟨Nat.zero_le _, Nat.zero_le _⟩) ?_
          refine wt_mu_go (w1 := [(hu, .inr (2, [.ref sd, .ref tw, .ref st, .ref od, .int (nI cn)])), (sd, .inl (cI, 12, .inl fs)), (tw, .inl (cI, 264, .inl (wt_plT ((wt_fold (wt_mrs fs fo cn k go) i (ft, ff)).1) (k + 1) i (fo (k * 12 + i) - nI 1) (((wt_fold (wt_mrs fs fo cn k go) i (ft, ff)).2) (k * 12 + i))))), (st, .inl (cI, 264, .inl (wt_plF ((wt_fold (wt_mrs fs fo cn k go) i (ft, ff)).2) (k + 1) i (((wt_fold (wt_mrs fs fo cn k go) i (ft, ff)).2) (k * 12 + i))))), (od, .inl (cI, 264, .inl fo))]) (w2 := [(h, .inr (3, [.ref hm, .ref dp, .ref hu, .ref we, .ref se, .ref hq, .int (nI nt)])), (dp, .inl (cI, 2, .inl fd)), (we, .inl (cI, 20, .inl fw)), (se, .inl (cI, 20, .inl fe)), (hm, .inr (0, [.ref pv, .ref up, .int (nI nr)])), (pv, .inl (cI, 10, .inl fp)), (up, .inl (cI, 10, .inl fu)), (hu, .inr (2, [.ref sd, .ref tw, .ref st, .ref od, .int (nI cn)])), (sd, .inl (cI, 12, .inl fs)), (tw, .inl (cI, 264, .inl (wt_plT ((wt_fold (wt_mrs fs fo cn k go) i (ft, ff)).1) (k + 1) i (fo (k * 12 + i) - nI 1) (((wt_fold (wt_mrs fs fo cn k go) i (ft, ff)).2) (k * 12 + i))))), (st, .inl (cI, 264, .inl (wt_plF ((wt_fold (wt_mrs fs fo cn k go) i (ft, ff)).2) (k + 1) i (((wt_fold (wt_mrs fs fo cn k go) i (ft, ff)).2) (k * 12 + i))))), (od, .inl (cI, 264, .inl fo))]) (wr := [(h, .inr (3, [.ref hm, .ref dp, .ref hu, .ref we, .ref se, .ref hq, .int (nI nt)])), (dp, .inl (cI, 2, .inl fd)), (we, .inl (cI, 20, .inl fw)), (se, .inl (cI, 20, .inl fe)), (hm, .inr (0, [.ref pv, .ref up, .int (nI nr)])), (pv, .inl (cI, 10, .inl fp)), (up, .inl (cI, 10, .inl fu))]) (va_runV (As := [.int (nI (k + 1)), .int (nI i), .int (fo (k * 12 + i) - nI 1), .int (((wt_fold (wt_mrs fs fo cn k go) i (ft, ff)).2) (k * 12 + i))]) (rest := []) ⟨hx, hb, hml, hown, hts⟩ (k_X2_place l dC dI cI hu sd tw st od fs ((wt_fold (wt_mrs fs fo cn k go) i (ft, ff)).1) ((wt_fold (wt_mrs fs fo cn k go) i (ft, ff)).2) fo cn (k + 1) i (fo (k * 12 + i) - nI 1) (((wt_fold (wt_mrs fs fo cn k go) i (ft, ff)).2) (k * 12 + i)) H.size (by omega) (by omega)) (cwV 4 hts gX3_march_X2_place rfl rfl rfl (by decide +kernel) ⟨Nat.le_of_ble_eq_true rfl, Nat.le_of_ble_eq_true rfl⟩) (wt_PVM (C := RX2) (T := TX2) (N := 5) (ci := 2) (q0 := 7) hK hP hN hD rfl rfl [7, 8, 9, 10, 11] rfl rfl) rfl rfl hl.1 rfl (lv_room (Nat.le_of_ble_eq_true rfl)) dX3_march_85 ⟨Nat.zero_le _, Nat.zero_le _⟩) hP hD hS hA [7, 8, 9, 10, 11] [0, 1, 2, 3, 4, 5, 6] rfl rfl rfl rfl (by decide) rfl [0, 1, 2, 3, 4, 5, 6, 7, 8, 9, 10, 11] rfl rfl (fun H locs hP hD hS hz9 => ?_)
          refine W.eq (g2 := F0 m 88 ls []) rfl ?_
          refine lv_iinc (v := nI (i + 1)) (lv' := [(3, .int (nI (i + 1))), (5, .int (fo (k * 12 + i) - nI 1)), (4, .int (nI 1)), (0, .ref h), (1, .int (nI k)), (2, .int go)]) hx hb dX3_march_88 hl (k := 2) rfl (nI_1 i) (by decide) rfl (fun ls hl => ?_)
          refine lv_goto (tgt := 2) hx hb dX3_march_91 (by decide) ?_
          have e15 : (wt_plT ((wt_fold (wt_mrs fs fo cn k go) i (ft, ff)).1) (k + 1) i (fo (k * 12 + i) - nI 1) (((wt_fold (wt_mrs fs fo cn k go) i (ft, ff)).2) (k * 12 + i))) = (wt_fold (wt_mrs fs fo cn k go) (i + 1) (ft, ff)).1 := (by simp only [wt_fold_s, wt_mrs, wt_pl, wt_if_t c_18_6, wt_if_f c_28_10])
          have hP : va_P (dC, dI) vwCl [(h, .inr (3, [.ref hm, .ref dp, .ref hu, .ref we, .ref se, .ref hq, .int (nI nt)])), (dp, .inl (cI, 2, .inl fd)), (we, .inl (cI, 20, .inl fw)), (se, .inl (cI, 20, .inl fe)), (hm, .inr (0, [.ref pv, .ref up, .int (nI nr)])), (pv, .inl (cI, 10, .inl fp)), (up, .inl (cI, 10, .inl fu)), (hu, .inr (2, [.ref sd, .ref tw, .ref st, .ref od, .int (nI cn)])), (sd, .inl (cI, 12, .inl fs)), (tw, .inl (cI, 264, .inl ((wt_fold (wt_mrs fs fo cn k go) (i + 1) (ft, ff)).1))), (st, .inl (cI, 264, .inl (wt_plF ((wt_fold (wt_mrs fs fo cn k go) i (ft, ff)).2) (k + 1) i (((wt_fold (wt_mrs fs fo cn k go) i (ft, ff)).2) (k * 12 + i))))), (od, .inl (cI, 264, .inl fo))] H := Eq.mp (congrArg (fun z9 : Nat → Int32 => va_P (dC, dI) vwCl [(h, .inr (3, [.ref hm, .ref dp, .ref hu, .ref we, .ref se, .ref hq, .int (nI nt)])), (dp, .inl (cI, 2, .inl fd)), (we, .inl (cI, 20, .inl fw)), (se, .inl (cI, 20, .inl fe)), (hm, .inr (0, [.ref pv, .ref up, .int (nI nr)])), (pv, .inl (cI, 10, .inl fp)), (up, .inl (cI, 10, .inl fu)), (hu, .inr (2, [.ref sd, .ref tw, .ref st, .ref od, .int (nI cn)])), (sd, .inl (cI, 12, .inl fs)), (tw, .inl (cI, 264, .inl z9)), (st, .inl (cI, 264, .inl (wt_plF ((wt_fold (wt_mrs fs fo cn k go) i (ft, ff)).2) (k + 1) i (((wt_fold (wt_mrs fs fo cn k go) i (ft, ff)).2) (k * 12 + i))))), (od, .inl (cI, 264, .inl fo))] H) e15) hP
          have e16 : (wt_plF ((wt_fold (wt_mrs fs fo cn k go) i (ft, ff)).2) (k + 1) i (((wt_fold (wt_mrs fs fo cn k go) i (ft, ff)).2) (k * 12 + i))) = (wt_fold (wt_mrs fs fo cn k go) (i + 1) (ft, ff)).2 := (by simp only [wt_fold_s, wt_mrs, wt_pl, wt_if_t c_18_6, wt_if_f c_28_10])
          have hP : va_P (dC, dI) vwCl [(h, .inr (3, [.ref hm, .ref dp, .ref hu, .ref we, .ref se, .ref hq, .int (nI nt)])), (dp, .inl (cI, 2, .inl fd)), (we, .inl (cI, 20, .inl fw)), (se, .inl (cI, 20, .inl fe)), (hm, .inr (0, [.ref pv, .ref up, .int (nI nr)])), (pv, .inl (cI, 10, .inl fp)), (up, .inl (cI, 10, .inl fu)), (hu, .inr (2, [.ref sd, .ref tw, .ref st, .ref od, .int (nI cn)])), (sd, .inl (cI, 12, .inl fs)), (tw, .inl (cI, 264, .inl ((wt_fold (wt_mrs fs fo cn k go) (i + 1) (ft, ff)).1))), (st, .inl (cI, 264, .inl ((wt_fold (wt_mrs fs fo cn k go) (i + 1) (ft, ff)).2))), (od, .inl (cI, 264, .inl fo))] H := Eq.mp (congrArg (fun z9 : Nat → Int32 => va_P (dC, dI) vwCl [(h, .inr (3, [.ref hm, .ref dp, .ref hu, .ref we, .ref se, .ref hq, .int (nI nt)])), (dp, .inl (cI, 2, .inl fd)), (we, .inl (cI, 20, .inl fw)), (se, .inl (cI, 20, .inl fe)), (hm, .inr (0, [.ref pv, .ref up, .int (nI nr)])), (pv, .inl (cI, 10, .inl fp)), (up, .inl (cI, 10, .inl fu)), (hu, .inr (2, [.ref sd, .ref tw, .ref st, .ref od, .int (nI cn)])), (sd, .inl (cI, 12, .inl fs)), (tw, .inl (cI, 264, .inl ((wt_fold (wt_mrs fs fo cn k go) (i + 1) (ft, ff)).1))), (st, .inl (cI, 264, .inl z9)), (od, .inl (cI, 264, .inl fo))] H) e16) hP
          have hD : va_D A [(h, .inr (3, [.ref hm, .ref dp, .ref hu, .ref we, .ref se, .ref hq, .int (nI nt)])), (dp, .inl (cI, 2, .inl fd)), (we, .inl (cI, 20, .inl fw)), (se, .inl (cI, 20, .inl fe)), (hm, .inr (0, [.ref pv, .ref up, .int (nI nr)])), (pv, .inl (cI, 10, .inl fp)), (up, .inl (cI, 10, .inl fu)), (hu, .inr (2, [.ref sd, .ref tw, .ref st, .ref od, .int (nI cn)])), (sd, .inl (cI, 12, .inl fs)), (tw, .inl (cI, 264, .inl ((wt_fold (wt_mrs fs fo cn k go) (i + 1) (ft, ff)).1))), (st, .inl (cI, 264, .inl ((wt_fold (wt_mrs fs fo cn k go) (i + 1) (ft, ff)).2))), (od, .inl (cI, 264, .inl fo))] := wt_adr hD rfl
          exact ih_2 (i + 1) _ _ _ (by omega) ⟨(by omega), lv_sub hl [0, 3, 4, 5] rfl, hP, hD, hS⟩
set_option maxHeartbeats 4000000 in
set_option maxRecDepth 100000 in
theorem k_X3_sumInFight (l : Launch) (dC : Nat → ClassId) (dI : Nat → Nat → Nat) (cI : ClassId) (h : Nat) (dp : Nat) (we : Nat) (se : Nat) (fd : Nat → Int32) (fw : Nat → Int32) (fe : Nat → Int32) (nt : Nat) (hm : Nat) (pv : Nat) (up : Nat) (fp : Nat → Int32) (fu : Nat → Int32) (nr : Nat) (hu : Nat) (sd : Nat) (tw : Nat) (st : Nat) (od : Nat) (fs : Nat → Int32) (ft : Nat → Int32) (ff : Nat → Int32) (fo : Nat → Int32) (cn : Nat) (hq : Nat) (k : Nat) (t : Nat) (d : Nat) (sp : Int32) (hcn : cn ≤ 12) (hk : k < 22) : Met l yX3_sumInFight wsX3_sumInFight ({ frames := 2, cells := 0, slots := 0, locals := 43 }) (va_Pc [.ref h, .int (nI k), .int (nI t), .int (nI d), .int sp] (wt_pre (dC, dI) cI [(h, .inr (3, [.ref hm, .ref dp, .ref hu, .ref we, .ref se, .ref hq, .int (nI nt)])), (dp, .inl (cI, 2, .inl fd)), (we, .inl (cI, 20, .inl fw)), (se, .inl (cI, 20, .inl fe)), (hm, .inr (0, [.ref pv, .ref up, .int (nI nr)])), (pv, .inl (cI, 10, .inl fp)), (up, .inl (cI, 10, .inl fu)), (hu, .inr (2, [.ref sd, .ref tw, .ref st, .ref od, .int (nI cn)])), (sd, .inl (cI, 12, .inl fs)), (tw, .inl (cI, 264, .inl ft)), (st, .inl (cI, 264, .inl ff)), (od, .inl (cI, 264, .inl fo))])) (wt_ro (wt_sum fs ft ff cn k t d sp)) 0 0 wt_no := by
  refine Met.ofW (cc := cX3_sumInFight) (maxL := 8) (ret := (some .int)) (by decide) rfl ?_
  intro p e s m args below meth c s₁ B hml hv
  obtain ⟨rfl, hP, hK, hN⟩ := hv
  have hx := B.exec
  have hb := B.bytes
  have hr := B.returns
  have hts := atoms_spec (ws := wsX3_sumInFight) B.pre
  have hown : s.vm.findClass RX3 = some m.cls := findClass_of_methodNamed B.named
  have hlocks := B.notSynchronized
  have inX2 : ∀ w ∈ wsX20, w ∈ wsX3_sumInFight := wt_in [45, 46, 47, 48, 49] (by decide +kernel)
  have inX3 : ∀ w ∈ wsX30, w ∈ wsX3_sumInFight := wt_in [38, 39, 40, 41, 42, 43, 44] (by decide +kernel)
  have hl := lv_entry ([.ref h, .int (nI k), .int (nI t), .int (nI d), .int sp]) (n := 8) (Nat.le_of_ble_eq_true rfl)
  rw [lg_entry_eq]
  generalize (lg_sl ([.ref h, .int (nI k), .int (nI t), .int (nI d), .int sp]) ++ List.replicate (8 - (lg_sl ([.ref h, .int (nI k), .int (nI t), .int (nI d), .int sp])).length) Slot.unset).toArray = ls at hl ⊢
  have hl : lv_has ls 8 [(0, .ref h), (1, .int (nI k)), (2, .int (nI t)), (3, .int (nI d)), (4, .int sp)] := hl
  refine lv_iconst (v := nI 0) hx hb dX3_sumInFight_0 (by decide +kernel) ?_
  refine lv_istore (lv' := [(5, .int (nI 0)), (0, .ref h), (1, .int (nI k)), (2, .int (nI t)), (3, .int (nI d)), (4, .int sp)]) hx hb dX3_sumInFight_1 hl (by decide) rfl (fun ls hl => ?_)
  refine lv_iconst (v := nI 0) hx hb dX3_sumInFight_3 (by decide +kernel) ?_
  refine lv_istore (lv' := [(6, .int (nI 0)), (5, .int (nI 0)), (0, .ref h), (1, .int (nI k)), (2, .int (nI t)), (3, .int (nI d)), (4, .int sp)]) hx hb dX3_sumInFight_4 hl (by decide) rfl (fun ls hl => ?_)
  have e1 : nI 0 = (wt_fold (wt_sms fs ft ff k t d sp) 0 (nI 0)) := rfl
  refine wt_lp (σ := Nat) 0 (fun i => cn - i) (fun i ls => (i ≤ cn) ∧ lv_has ls 8 [(6, .int (nI i)), (5, .int (wt_fold (wt_sms fs ft ff k t d sp) i (nI 0))), (0, .ref h), (1, .int (nI k)), (2, .int (nI t)), (3, .int (nI d)), (4, .int sp)]) ⟨(by omega), Eq.mp (congrArg (fun z9 : Int32 => lv_has ls 8 [(6, .int (nI 0)), (5, .int z9), (0, .ref h), (1, .int (nI k)), (2, .int (nI t)), (3, .int (nI d)), (4, .int sp)]) e1) (lv_sub hl [0, 1, 2, 3, 4, 5, 6] rfl)⟩ (fun i ls h9 ih_6 => ?_)
  obtain ⟨h_6_0, hl⟩ := h9
  refine lv_iload hx hb dX3_sumInFight_6 (lv_at hl 0 rfl) ?_
  refine lv_aload_n hx hb dX3_sumInFight_8 rfl (lv_at hl 2 rfl) ?_
  refine va_get (D := (dC, dI)) (ci := 3) (v := .ref hu) (C := RX3) (T := TX3) (N := 7) hx hb hts inX3 hown hK hP 0 rfl rfl 2 (by decide) (hts (.fieldLink RX3 23 "WarTable" "units" "LWarTable$Units;") (List.mem_of_getElem? (i := 1) rfl)) (fun _ h9 => h9) rfl dX3_sumInFight_9 ?_
  refine wt_ro_go (va_runV (As := []) (rest := [.int (nI i)]) ⟨hx, hb, hml, hown, hts⟩ (k_X2_count l dC dI cI hu sd tw st od fs ft ff fo cn) (cwV 0 hts gX3_sumInFight_X2_count rfl rfl rfl (by decide +kernel) ⟨Nat.le_of_ble_eq_true rfl, Nat.le_of_ble_eq_true rfl⟩) (wt_PV (C := RX2) (T := TX2) (N := 5) (ci := 2) (q0 := 7) hK hP hN rfl rfl [7, 8, 9, 10, 11] rfl) rfl rfl hl.1 rfl (lv_room (Nat.le_of_ble_eq_true rfl)) dX3_sumInFight_12 ⟨Nat.zero_le _, Nat.zero_le _⟩) ?_
  refine wt_icmp_ge (tgt := 87) hx hb (by omega) (by omega) dX3_sumInFight_15 (by decide) (fun c_15_2 => ?_) (fun c_15_2 => ?_)
  · refine lv_iload hx hb dX3_sumInFight_87 (lv_at hl 1 rfl) ?_
    exact wt_ret hx hb hr (by rw [show i = cn by omega]; rfl) rfl dX3_sumInFight_89 hlocks
  · refine lv_aload_n hx hb dX3_sumInFight_18 rfl (lv_at hl 2 rfl) ?_
    refine va_get (D := (dC, dI)) (ci := 3) (v := .ref hu) (C := RX3) (T := TX3) (N := 7) hx hb hts inX3 hown hK hP 0 rfl rfl 2 (by decide) (hts (.fieldLink RX3 23 "WarTable" "units" "LWarTable$Units;") (List.mem_of_getElem? (i := 1) rfl)) (fun _ h9 => h9) rfl dX3_sumInFight_19 ?_
    refine lv_iload hx hb dX3_sumInFight_22 (lv_at hl 0 rfl) ?_
    refine wt_ro_go (va_runV (As := [.int (nI i)]) (rest := []) ⟨hx, hb, hml, hown, hts⟩ (k_X2_sideOf l dC dI cI hu sd tw st od fs ft ff fo cn i (by omega)) (cwV 1 hts gX3_sumInFight_X2_sideOf rfl rfl rfl (by decide +kernel) ⟨Nat.le_of_ble_eq_true rfl, Nat.le_of_ble_eq_true rfl⟩) (wt_PV (C := RX2) (T := TX2) (N := 5) (ci := 2) (q0 := 7) hK hP hN rfl rfl [7, 8, 9, 10, 11] rfl) rfl rfl hl.1 rfl (lv_room (Nat.le_of_ble_eq_true rfl)) dX3_sumInFight_24 ⟨Nat.zero_le _, Nat.zero_le _⟩) ?_
    refine lv_iload_n hx hb dX3_sumInFight_27 rfl (lv_at hl 5 rfl) ?_
    refine wt_icmp_neI (tgt := 81) hx hb dX3_sumInFight_28 (by decide) (fun c_28_3 => ?_) (fun c_28_3 => ?_)
    · refine lv_iinc (v := nI (i + 1)) (lv' := [(6, .int (nI (i + 1))), (5, .int (wt_fold (wt_sms fs ft ff k t d sp) i (nI 0))), (0, .ref h), (1, .int (nI k)), (2, .int (nI t)), (3, .int (nI d)), (4, .int sp)]) hx hb dX3_sumInFight_81 hl (k := 0) rfl (nI_1 i) (by decide) rfl (fun ls hl => ?_)
      refine lv_goto (tgt := 6) hx hb dX3_sumInFight_84 (by decide) ?_
      have e4 : (wt_fold (wt_sms fs ft ff k t d sp) i (nI 0)) = (wt_fold (wt_sms fs ft ff k t d sp) (i + 1) (nI 0)) := (by simp only [wt_fold_s, wt_sms, wt_if_f c_28_3])
      exact ih_6 (i + 1) _ (by omega) ⟨(by omega), Eq.mp (congrArg (fun z9 : Int32 => lv_has ls 8 [(6, .int (nI (i + 1))), (5, .int z9), (0, .ref h), (1, .int (nI k)), (2, .int (nI t)), (3, .int (nI d)), (4, .int sp)]) e4) (lv_sub hl [0, 1, 2, 3, 4, 5, 6] rfl)⟩
    · refine lv_aload_n hx hb dX3_sumInFight_31 rfl (lv_at hl 2 rfl) ?_
      refine va_get (D := (dC, dI)) (ci := 3) (v := .ref hu) (C := RX3) (T := TX3) (N := 7) hx hb hts inX3 hown hK hP 0 rfl rfl 2 (by decide) (hts (.fieldLink RX3 23 "WarTable" "units" "LWarTable$Units;") (List.mem_of_getElem? (i := 1) rfl)) (fun _ h9 => h9) rfl dX3_sumInFight_32 ?_
      refine lv_iload_n hx hb dX3_sumInFight_35 rfl (lv_at hl 3 rfl) ?_
      refine lv_iload hx hb dX3_sumInFight_36 (lv_at hl 0 rfl) ?_
      refine wt_ro_go (va_runV (As := [.int (nI k), .int (nI i)]) (rest := []) ⟨hx, hb, hml, hown, hts⟩ (k_X2_townAt l dC dI cI hu sd tw st od fs ft ff fo cn k i (by omega) (by omega)) (cwV 2 hts gX3_sumInFight_X2_townAt rfl rfl rfl (by decide +kernel) ⟨Nat.le_of_ble_eq_true rfl, Nat.le_of_ble_eq_true rfl⟩) (wt_PV (C := RX2) (T := TX2) (N := 5) (ci := 2) (q0 := 7) hK hP hN rfl rfl [7, 8, 9, 10, 11] rfl) rfl rfl hl.1 rfl (lv_room (Nat.le_of_ble_eq_true rfl)) dX3_sumInFight_38 ⟨Nat.zero_le _, Nat.zero_le _⟩) ?_
      refine lv_iload_n hx hb dX3_sumInFight_41 rfl (lv_at hl 4 rfl) ?_
      refine wt_icmp_neI (tgt := 81) hx hb dX3_sumInFight_42 (by decide) (fun c_42_5 => ?_) (fun c_42_5 => ?_)
      · refine lv_iinc (v := nI (i + 1)) (lv' := [(6, .int (nI (i + 1))), (5, .int (wt_fold (wt_sms fs ft ff k t d sp) i (nI 0))), (0, .ref h), (1, .int (nI k)), (2, .int (nI t)), (3, .int (nI d)), (4, .int sp)]) hx hb dX3_sumInFight_81 hl (k := 0) rfl (nI_1 i) (by decide) rfl (fun ls hl => ?_)
        refine lv_goto (tgt := 6) hx hb dX3_sumInFight_84 (by decide) ?_
        have e6 : (wt_fold (wt_sms fs ft ff k t d sp) i (nI 0)) = (wt_fold (wt_sms fs ft ff k t d sp) (i + 1) (nI 0)) := (by simp only [wt_fold_s, wt_sms, wt_if_t c_28_3, wt_if_f c_42_5])
        exact ih_6 (i + 1) _ (by omega) ⟨(by omega), Eq.mp (congrArg (fun z9 : Int32 => lv_has ls 8 [(6, .int (nI (i + 1))), (5, .int z9), (0, .ref h), (1, .int (nI k)), (2, .int (nI t)), (3, .int (nI d)), (4, .int sp)]) e6) (lv_sub hl [0, 1, 2, 3, 4, 5, 6] rfl)⟩
      · refine lv_aload_n hx hb dX3_sumInFight_45 rfl (lv_at hl 2 rfl) ?_
        refine va_get (D := (dC, dI)) (ci := 3) (v := .ref hu) (C := RX3) (T := TX3) (N := 7) hx hb hts inX3 hown hK hP 0 rfl rfl 2 (by decide) (hts (.fieldLink RX3 23 "WarTable" "units" "LWarTable$Units;") (List.mem_of_getElem? (i := 1) rfl)) (fun _ h9 => h9) rfl dX3_sumInFight_46 ?_
        refine lv_iload_n hx hb dX3_sumInFight_49 rfl (lv_at hl 3 rfl) ?_
        refine lv_iload hx hb dX3_sumInFight_50 (lv_at hl 0 rfl) ?_
        refine wt_ro_go (va_runV (As := [.int (nI k), .int (nI i)]) (rest := []) ⟨hx, hb, hml, hown, hts⟩ (k_X2_strengthAt l dC dI cI hu sd tw st od fs ft ff fo cn k i (by omega) (by omega)) (cwV 2 hts gX3_sumInFight_X2_strengthAt rfl rfl rfl (by decide +kernel) ⟨Nat.le_of_ble_eq_true rfl, Nat.le_of_ble_eq_true rfl⟩) (wt_PV (C := RX2) (T := TX2) (N := 5) (ci := 2) (q0 := 7) hK hP hN rfl rfl [7, 8, 9, 10, 11] rfl) rfl rfl hl.1 rfl (lv_room (Nat.le_of_ble_eq_true rfl)) dX3_sumInFight_52 ⟨Nat.zero_le _, Nat.zero_le _⟩) ?_
        refine lv_istore (lv' := [(7, .int (ff (k * 12 + i))), (6, .int (nI i)), (5, .int (wt_fold (wt_sms fs ft ff k t d sp) i (nI 0))), (0, .ref h), (1, .int (nI k)), (2, .int (nI t)), (3, .int (nI d)), (4, .int sp)]) hx hb dX3_sumInFight_55 hl (by decide) rfl (fun ls hl => ?_)
        refine lv_iload hx hb dX3_sumInFight_57 (lv_at hl 2 rfl) ?_
        refine lv_iload hx hb dX3_sumInFight_59 (lv_at hl 7 rfl) ?_
        refine lv_iload hx hb dX3_sumInFight_61 (lv_at hl 1 rfl) ?_
        refine wt_ro_go (va_runS (As := [.int sp, .int (nI i)]) (rest := [.int (wt_fold (wt_sms fs ft ff k t d sp) i (nI 0))]) ⟨hx, hb, hml, hown, hts⟩ (k_X3_has l sp (nI i)) (va_cwS 2 hts gX3_sumInFight_X3_has rfl rfl rfl (by decide +kernel) ⟨Nat.le_of_ble_eq_true rfl, Nat.le_of_ble_eq_true rfl⟩) wt_PS rfl rfl hl.1 rfl (lv_room (Nat.le_of_ble_eq_true rfl)) dX3_sumInFight_63 ⟨Nat.zero_le _, Nat.zero_le _⟩) ?_
        refine wt_if_eqB (tgt := 74) hx hb dX3_sumInFight_66 (by decide) (fun c_66_7 => ?_) (fun c_66_7 => ?_)
        · refine lv_iload hx hb dX3_sumInFight_74 (lv_at hl 0 rfl) ?_
          refine lv_iconst (v := nI 2) hx hb dX3_sumInFight_76 (by decide +kernel) ?_
          refine lv_idiv hx hb dX3_sumInFight_77 (by decide +kernel) ?_
          refine lv_iadd hx hb dX3_sumInFight_78 ?_
          refine lv_istore (lv' := [(5, .int ((wt_fold (wt_sms fs ft ff k t d sp) i (nI 0)) + ((ff (k * 12 + i)) / (nI 2)))), (7, .int (ff (k * 12 + i))), (6, .int (nI i)), (0, .ref h), (1, .int (nI k)), (2, .int (nI t)), (3, .int (nI d)), (4, .int sp)]) hx hb dX3_sumInFight_79 hl (by decide) rfl (fun ls hl => ?_)
          refine lv_iinc (v := nI (i + 1)) (lv' := [(6, .int (nI (i + 1))), (5, .int ((wt_fold (wt_sms fs ft ff k t d sp) i (nI 0)) + ((ff (k * 12 + i)) / (nI 2)))), (7, .int (ff (k * 12 + i))), (0, .ref h), (1, .int (nI k)), (2, .int (nI t)), (3, .int (nI d)), (4, .int sp)]) hx hb dX3_sumInFight_81 hl (k := 2) rfl (nI_1 i) (by decide) rfl (fun ls hl => ?_)
          refine lv_goto (tgt := 6) hx hb dX3_sumInFight_84 (by decide) ?_
          have e8 : ((wt_fold (wt_sms fs ft ff k t d sp) i (nI 0)) + ((ff (k * 12 + i)) / (nI 2))) = (wt_fold (wt_sms fs ft ff k t d sp) (i + 1) (nI 0)) := (by simp only [wt_fold_s, wt_sms, wt_if_t c_28_3, wt_if_t c_42_5, wt_if_f c_66_7])
          exact ih_6 (i + 1) _ (by omega) ⟨(by omega), Eq.mp (congrArg (fun z9 : Int32 => lv_has ls 8 [(6, .int (nI (i + 1))), (5, .int z9), (0, .ref h), (1, .int (nI k)), (2, .int (nI t)), (3, .int (nI d)), (4, .int sp)]) e8) (lv_sub hl [0, 1, 3, 4, 5, 6, 7] rfl)⟩
        · refine lv_iload hx hb dX3_sumInFight_69 (lv_at hl 0 rfl) ?_
          refine lv_goto (tgt := 78) hx hb dX3_sumInFight_71 (by decide) ?_
          refine lv_iadd hx hb dX3_sumInFight_78 ?_
          refine lv_istore (lv' := [(5, .int ((wt_fold (wt_sms fs ft ff k t d sp) i (nI 0)) + (ff (k * 12 + i)))), (7, .int (ff (k * 12 + i))), (6, .int (nI i)), (0, .ref h), (1, .int (nI k)), (2, .int (nI t)), (3, .int (nI d)), (4, .int sp)]) hx hb dX3_sumInFight_79 hl (by decide) rfl (fun ls hl => ?_)
          refine lv_iinc (v := nI (i + 1)) (lv' := [(6, .int (nI (i + 1))), (5, .int ((wt_fold (wt_sms fs ft ff k t d sp) i (nI 0)) + (ff (k * 12 + i)))), (7, .int (ff (k * 12 + i))), (0, .ref h), (1, .int (nI k)), (2, .int (nI t)), (3, .int (nI d)), (4, .int sp)]) hx hb dX3_sumInFight_81 hl (k := 2) rfl (nI_1 i) (by decide) rfl (fun ls hl => ?_)
          refine lv_goto (tgt := 6) hx hb dX3_sumInFight_84 (by decide) ?_
          have e9 : ((wt_fold (wt_sms fs ft ff k t d sp) i (nI 0)) + (ff (k * 12 + i))) = (wt_fold (wt_sms fs ft ff k t d sp) (i + 1) (nI 0)) := (by simp only [wt_fold_s, wt_sms, wt_if_t c_28_3, wt_if_t c_42_5, wt_if_t c_66_7])
          exact ih_6 (i + 1) _ (by omega) ⟨(by omega), Eq.mp (congrArg (fun z9 : Int32 => lv_has ls 8 [(6, .int (nI (i + 1))), (5, .int z9), (0, .ref h), (1, .int (nI k)), (2, .int (nI t)), (3, .int (nI d)), (4, .int sp)]) e9) (lv_sub hl [0, 1, 3, 4, 5, 6, 7] rfl)⟩
set_option maxHeartbeats 4000000 in
set_option maxRecDepth 100000 in
theorem k_X3_fight (l : Launch) (dC : Nat → ClassId) (dI : Nat → Nat → Nat) (cI : ClassId) (h : Nat) (dp : Nat) (we : Nat) (se : Nat) (fd : Nat → Int32) (fw : Nat → Int32) (fe : Nat → Int32) (nt : Nat) (hm : Nat) (pv : Nat) (up : Nat) (fp : Nat → Int32) (fu : Nat → Int32) (nr : Nat) (hu : Nat) (sd : Nat) (tw : Nat) (st : Nat) (od : Nat) (fs : Nat → Int32) (ft : Nat → Int32) (ff : Nat → Int32) (fo : Nat → Int32) (cn : Nat) (hq : Nat) (k : Nat) (t : Nat) (sp : Int32) (sz : Nat) (hcn : cn ≤ 12) (hk : k < 22) : Met l yX3_fight wsX3_fight ({ frames := 3, cells := 0, slots := 0, locals := 70 }) (va_Pc [.ref h, .int (nI k), .int (nI t), .int sp] (wt_pm (dC, dI) cI [(h, .inr (3, [.ref hm, .ref dp, .ref hu, .ref we, .ref se, .ref hq, .int (nI nt)])), (dp, .inl (cI, 2, .inl fd)), (we, .inl (cI, 20, .inl fw)), (se, .inl (cI, 20, .inl fe)), (hm, .inr (0, [.ref pv, .ref up, .int (nI nr)])), (pv, .inl (cI, 10, .inl fp)), (up, .inl (cI, 10, .inl fu)), (hu, .inr (2, [.ref sd, .ref tw, .ref st, .ref od, .int (nI cn)])), (sd, .inl (cI, 12, .inl fs)), (tw, .inl (cI, 264, .inl ft)), (st, .inl (cI, 264, .inl ff)), (od, .inl (cI, 264, .inl fo))] sz)) (wt_mu none (dC, dI) [(h, .inr (3, [.ref hm, .ref dp, .ref hu, .ref we, .ref se, .ref hq, .int (nI nt)])), (dp, .inl (cI, 2, .inl fd)), (we, .inl (cI, 20, .inl fw)), (se, .inl (cI, 20, .inl fe)), (hm, .inr (0, [.ref pv, .ref up, .int (nI nr)])), (pv, .inl (cI, 10, .inl fp)), (up, .inl (cI, 10, .inl fu)), (hu, .inr (2, [.ref sd, .ref tw, .ref st, .ref od, .int (nI cn)])), (sd, .inl (cI, 12, .inl fs)), (tw, .inl (cI, 264, .inl ((wt_fgt fs cn k t sp (ft, ff)).1))), (st, .inl (cI, 264, .inl ((wt_fgt fs cn k t sp (ft, ff)).2))), (od, .inl (cI, 264, .inl fo))] (va_A [(h, .inr (3, [.ref hm, .ref dp, .ref hu, .ref we, .ref se, .ref hq, .int (nI nt)])), (dp, .inl (cI, 2, .inl fd)), (we, .inl (cI, 20, .inl fw)), (se, .inl (cI, 20, .inl fe)), (hm, .inr (0, [.ref pv, .ref up, .int (nI nr)])), (pv, .inl (cI, 10, .inl fp)), (up, .inl (cI, 10, .inl fu)), (hu, .inr (2, [.ref sd, .ref tw, .ref st, .ref od, .int (nI cn)])), (sd, .inl (cI, 12, .inl fs)), (tw, .inl (cI, 264, .inl ft)), (st, .inl (cI, 264, .inl ff)), (od, .inl (cI, 264, .inl fo))] sz)) 0 0 (va_A [(h, .inr (3, [.ref hm, .ref dp, .ref hu, .ref we, .ref se, .ref hq, .int (nI nt)])), (dp, .inl (cI, 2, .inl fd)), (we, .inl (cI, 20, .inl fw)), (se, .inl (cI, 20, .inl fe)), (hm, .inr (0, [.ref pv, .ref up, .int (nI nr)])), (pv, .inl (cI, 10, .inl fp)), (up, .inl (cI, 10, .inl fu)), (hu, .inr (2, [.ref sd, .ref tw, .ref st, .ref od, .int (nI cn)])), (sd, .inl (cI, 12, .inl fs)), (tw, .inl (cI, 264, .inl ft)), (st, .inl (cI, 264, .inl ff)), (od, .inl (cI, 264, .inl fo))] sz) := by
  refine Met.ofW (cc := cX3_fight) (maxL := 8) (ret := none) (by decide) rfl ?_
  intro p e s m args below meth c s₁ B hml hv
  obtain ⟨rfl, hsz, ⟨hP, hK, hN⟩, hD0⟩ := hv
  have hx := B.exec
  have hb := B.bytes
  have hr := B.returns
  have hts := atoms_spec (ws := wsX3_fight) B.pre
  have hown : s.vm.findClass RX3 = some m.cls := findClass_of_methodNamed B.named
  have hlocks := B.notSynchronized
  subst hsz
  have hD := hD0.self (sz := s.heap.size)
  generalize hAe : va_A [(h, .inr (3, [.ref hm, .ref dp, .ref hu, .ref we, .ref se, .ref hq, .int (nI nt)])), (dp, .inl (cI, 2, .inl fd)), (we, .inl (cI, 20, .inl fw)), (se, .inl (cI, 20, .inl fe)), (hm, .inr (0, [.ref pv, .ref up, .int (nI nr)])), (pv, .inl (cI, 10, .inl fp)), (up, .inl (cI, 10, .inl fu)), (hu, .inr (2, [.ref sd, .ref tw, .ref st, .ref od, .int (nI cn)])), (sd, .inl (cI, 12, .inl fs)), (tw, .inl (cI, 264, .inl ft)), (st, .inl (cI, 264, .inl ff)), (od, .inl (cI, 264, .inl fo))] s.heap.size = A at hD ⊢
  have hA : ∀ q : Nat, s.heap.size ≤ q → A q := fun q h => by rw [← hAe]; exact Or.inr h
  have hS : va_S A s.heap s.heap [] := va_S.rf
  have inX2 : ∀ w ∈ wsX20, w ∈ wsX3_fight := wt_in [60, 61, 62, 63, 64] (by decide +kernel)
  have inX3 : ∀ w ∈ wsX30, w ∈ wsX3_fight := wt_in [53, 54, 55, 56, 57, 58, 59] (by decide +kernel)
  have hl := lv_entry ([.ref h, .int (nI k), .int (nI t), .int sp]) (n := 8) (Nat.le_of_ble_eq_true rfl)
  rw [lg_entry_eq]
  generalize (lg_sl ([.ref h, .int (nI k), .int (nI t), .int sp]) ++ List.replicate (8 - (lg_sl ([.ref h, .int (nI k), .int (nI t), .int sp])).length) Slot.unset).toArray = ls at hl ⊢
  have hl : lv_has ls 8 [(0, .ref h), (1, .int (nI k)), (2, .int (nI t)), (3, .int sp)] := hl
  refine lv_aload_n hx hb dX3_fight_0 rfl (lv_at hl 0 rfl) ?_
  refine lv_iload_n hx hb dX3_fight_1 rfl (lv_at hl 1 rfl) ?_
  refine lv_iload_n hx hb dX3_fight_2 rfl (lv_at hl 2 rfl) ?_
  refine lv_iconst (v := nI 0) hx hb dX3_fight_3 (by decide +kernel) ?_
  refine lv_iload_n hx hb dX3_fight_4 rfl (lv_at hl 3 rfl) ?_
  refine wt_ro_go (va_runV (As := [.int (nI k), .int (nI t), .int (nI 0), .int sp]) (rest := []) ⟨hx, hb, hml, hown, hts⟩ (k_X3_sumInFight l dC dI cI h dp we se fd fw fe nt hm pv up fp fu nr hu sd tw st od fs ft ff fo cn hq k t 0 sp (by omega) (by omega)) (cwV 4 hts gX3_fight_X3_sumInFight rfl rfl rfl (by decide +kernel) ⟨Nat.le_of_ble_eq_true rfl, Nat.le_of_ble_eq_true rfl⟩) (wt_PV (C := RX3) (T := TX3) (N := 7) (ci := 3) (q0 := 0) hK hP hN rfl rfl [0, 1, 2, 3, 4, 5, 6, 7, 8, 9, 10, 11] rfl) rfl rfl hl.1 rfl (lv_room (Nat.le_of_ble_eq_true rfl)) dX3_fight_5 ⟨Nat.zero_le _, Nat.zero_le _⟩) ?_
  refine lv_istore (lv' := [(4, .int (wt_sum fs ft ff cn k t 0 sp)), (0, .ref h), (1, .int (nI k)), (2, .int (nI t)), (3, .int sp)]) hx hb dX3_fight_8 hl (by decide) rfl (fun ls hl => ?_)
  refine lv_aload_n hx hb dX3_fight_10 rfl (lv_at hl 1 rfl) ?_
  refine lv_iload_n hx hb dX3_fight_11 rfl (lv_at hl 2 rfl) ?_
  refine lv_iload_n hx hb dX3_fight_12 rfl (lv_at hl 3 rfl) ?_
  refine lv_iconst (v := nI 1) hx hb dX3_fight_13 (by decide +kernel) ?_
  refine lv_iload_n hx hb dX3_fight_14 rfl (lv_at hl 4 rfl) ?_
  refine wt_ro_go (va_runV (As := [.int (nI k), .int (nI t), .int (nI 1), .int sp]) (rest := []) ⟨hx, hb, hml, hown, hts⟩ (k_X3_sumInFight l dC dI cI h dp we se fd fw fe nt hm pv up fp fu nr hu sd tw st od fs ft ff fo cn hq k t 1 sp (by omega) (by omega)) (cwV 4 hts gX3_fight_X3_sumInFight rfl rfl rfl (by decide +kernel) ⟨Nat.le_of_ble_eq_true rfl, Nat.le_of_ble_eq_true rfl⟩) (wt_PV (C := RX3) (T := TX3) (N := 7) (ci := 3) (q0 := 0) hK hP hN rfl rfl [0, 1, 2, 3, 4, 5, 6, 7, 8, 9, 10, 11] rfl) rfl rfl hl.1 rfl (lv_room (Nat.le_of_ble_eq_true rfl)) dX3_fight_15 ⟨Nat.zero_le _, Nat.zero_le _⟩) ?_
  refine lv_istore (lv' := [(5, .int (wt_sum fs ft ff cn k t 1 sp)), (4, .int (wt_sum fs ft ff cn k t 0 sp)), (0, .ref h), (1, .int (nI k)), (2, .int (nI t)), (3, .int sp)]) hx hb dX3_fight_18 hl (by decide) rfl (fun ls hl => ?_)
  refine lv_iconst (v := nI 0) hx hb dX3_fight_20 (by decide +kernel) ?_
  refine lv_istore (lv' := [(6, .int (nI 0)), (5, .int (wt_sum fs ft ff cn k t 1 sp)), (4, .int (wt_sum fs ft ff cn k t 0 sp)), (0, .ref h), (1, .int (nI k)), (2, .int (nI t)), (3, .int sp)]) hx hb dX3_fight_21 hl (by decide) rfl (fun ls hl => ?_)
  have e1 : ft = (wt_fold (wt_fts fs k t (wt_sum fs ft ff cn k t 0 sp) (wt_sum fs ft ff cn k t 1 sp)) 0 (ft, ff)).1 := rfl
  have hP : va_P (dC, dI) vwCl [(h, .inr (3, [.ref hm, .ref dp, .ref hu, .ref we, .ref se, .ref hq, .int (nI nt)])), (dp, .inl (cI, 2, .inl fd)), (we, .inl (cI, 20, .inl fw)), (se, .inl (cI, 20, .inl fe)), (hm, .inr (0, [.ref pv, .ref up, .int (nI nr)])), (pv, .inl (cI, 10, .inl fp)), (up, .inl (cI, 10, .inl fu)), (hu, .inr (2, [.ref sd, .ref tw, .ref st, .ref od, .int (nI cn)])), (sd, .inl (cI, 12, .inl fs)), (tw, .inl (cI, 264, .inl ((wt_fold (wt_fts fs k t (wt_sum fs ft ff cn k t 0 sp) (wt_sum fs ft ff cn k t 1 sp)) 0 (ft, ff)).1))), (st, .inl (cI, 264, .inl ff)), (od, .inl (cI, 264, .inl fo))] s.heap := Eq.mp (congrArg (fun z9 : Nat → Int32 => va_P (dC, dI) vwCl [(h, .inr (3, [.ref hm, .ref dp, .ref hu, .ref we, .ref se, .ref hq, .int (nI nt)])), (dp, .inl (cI, 2, .inl fd)), (we, .inl (cI, 20, .inl fw)), (se, .inl (cI, 20, .inl fe)), (hm, .inr (0, [.ref pv, .ref up, .int (nI nr)])), (pv, .inl (cI, 10, .inl fp)), (up, .inl (cI, 10, .inl fu)), (hu, .inr (2, [.ref sd, .ref tw, .ref st, .ref od, .int (nI cn)])), (sd, .inl (cI, 12, .inl fs)), (tw, .inl (cI, 264, .inl z9)), (st, .inl (cI, 264, .inl ff)), (od, .inl (cI, 264, .inl fo))] s.heap) e1) hP
  have e2 : ff = (wt_fold (wt_fts fs k t (wt_sum fs ft ff cn k t 0 sp) (wt_sum fs ft ff cn k t 1 sp)) 0 (ft, ff)).2 := rfl
  have hP : va_P (dC, dI) vwCl [(h, .inr (3, [.ref hm, .ref dp, .ref hu, .ref we, .ref se, .ref hq, .int (nI nt)])), (dp, .inl (cI, 2, .inl fd)), (we, .inl (cI, 20, .inl fw)), (se, .inl (cI, 20, .inl fe)), (hm, .inr (0, [.ref pv, .ref up, .int (nI nr)])), (pv, .inl (cI, 10, .inl fp)), (up, .inl (cI, 10, .inl fu)), (hu, .inr (2, [.ref sd, .ref tw, .ref st, .ref od, .int (nI cn)])), (sd, .inl (cI, 12, .inl fs)), (tw, .inl (cI, 264, .inl ((wt_fold (wt_fts fs k t (wt_sum fs ft ff cn k t 0 sp) (wt_sum fs ft ff cn k t 1 sp)) 0 (ft, ff)).1))), (st, .inl (cI, 264, .inl ((wt_fold (wt_fts fs k t (wt_sum fs ft ff cn k t 0 sp) (wt_sum fs ft ff cn k t 1 sp)) 0 (ft, ff)).2))), (od, .inl (cI, 264, .inl fo))] s.heap := Eq.mp (congrArg (fun z9 : Nat → Int32 => va_P (dC, dI) vwCl [(h, .inr (3, [.ref hm, .ref dp, .ref hu, .ref we, .ref se, .ref hq, .int (nI nt)])), (dp, .inl (cI, 2, .inl fd)), (we, .inl (cI, 20, .inl fw)), (se, .inl (cI, 20, .inl fe)), (hm, .inr (0, [.ref pv, .ref up, .int (nI nr)])), (pv, .inl (cI, 10, .inl fp)), (up, .inl (cI, 10, .inl fu)), (hu, .inr (2, [.ref sd, .ref tw, .ref st, .ref od, .int (nI cn)])), (sd, .inl (cI, 12, .inl fs)), (tw, .inl (cI, 264, .inl ((wt_fold (wt_fts fs k t (wt_sum fs ft ff cn k t 0 sp) (wt_sum fs ft ff cn k t 1 sp)) 0 (ft, ff)).1))), (st, .inl (cI, 264, .inl z9)), (od, .inl (cI, 264, .inl fo))] s.heap) e2) hP
  have hD : va_D A [(h, .inr (3, [.ref hm, .ref dp, .ref hu, .ref we, .ref se, .ref hq, .int (nI nt)])), (dp, .inl (cI, 2, .inl fd)), (we, .inl (cI, 20, .inl fw)), (se, .inl (cI, 20, .inl fe)), (hm, .inr (0, [.ref pv, .ref up, .int (nI nr)])), (pv, .inl (cI, 10, .inl fp)), (up, .inl (cI, 10, .inl fu)), (hu, .inr (2, [.ref sd, .ref tw, .ref st, .ref od, .int (nI cn)])), (sd, .inl (cI, 12, .inl fs)), (tw, .inl (cI, 264, .inl ((wt_fold (wt_fts fs k t (wt_sum fs ft ff cn k t 0 sp) (wt_sum fs ft ff cn k t 1 sp)) 0 (ft, ff)).1))), (st, .inl (cI, 264, .inl ((wt_fold (wt_fts fs k t (wt_sum fs ft ff cn k t 0 sp) (wt_sum fs ft ff cn k t 1 sp)) 0 (ft, ff)).2))), (od, .inl (cI, 264, .inl fo))] := wt_adr hD rfl
  refine wt_lpM (σ := Nat) 0 (fun i => cn - i) (fun i ls H locs => (i ≤ cn) ∧ lv_has ls 8 [(6, .int (nI i)), (5, .int (wt_sum fs ft ff cn k t 1 sp)), (4, .int (wt_sum fs ft ff cn k t 0 sp)), (0, .ref h), (1, .int (nI k)), (2, .int (nI t)), (3, .int sp)] ∧ va_P (dC, dI) vwCl [(h, .inr (3, [.ref hm, .ref dp, .ref hu, .ref we, .ref se, .ref hq, .int (nI nt)])), (dp, .inl (cI, 2, .inl fd)), (we, .inl (cI, 20, .inl fw)), (se, .inl (cI, 20, .inl fe)), (hm, .inr (0, [.ref pv, .ref up, .int (nI nr)])), (pv, .inl (cI, 10, .inl fp)), (up, .inl (cI, 10, .inl fu)), (hu, .inr (2, [.ref sd, .ref tw, .ref st, .ref od, .int (nI cn)])), (sd, .inl (cI, 12, .inl fs)), (tw, .inl (cI, 264, .inl ((wt_fold (wt_fts fs k t (wt_sum fs ft ff cn k t 0 sp) (wt_sum fs ft ff cn k t 1 sp)) i (ft, ff)).1))), (st, .inl (cI, 264, .inl ((wt_fold (wt_fts fs k t (wt_sum fs ft ff cn k t 0 sp) (wt_sum fs ft ff cn k t 1 sp)) i (ft, ff)).2))), (od, .inl (cI, 264, .inl fo))] H ∧ va_D A [(h, .inr (3, [.ref hm, .ref dp, .ref hu, .ref we, .ref se, .ref hq, .int (nI nt)])), (dp, .inl (cI, 2, .inl fd)), (we, .inl (cI, 20, .inl fw)), (se, .inl (cI, 20, .inl fe)), (hm, .inr (0, [.ref pv, .ref up, .int (nI nr)])), (pv, .inl (cI, 10, .inl fp)), (up, .inl (cI, 10, .inl fu)), (hu, .inr (2, [.ref sd, .ref tw, .ref st, .ref od, .int (nI cn)])), (sd, .inl (cI, 12, .inl fs)), (tw, .inl (cI, 264, .inl ((wt_fold (wt_fts fs k t (wt_sum fs ft ff cn k t 0 sp) (wt_sum fs ft ff cn k t 1 sp)) i (ft, ff)).1))), (st, .inl (cI, 264, .inl ((wt_fold (wt_fts fs k t (wt_sum fs ft ff cn k t 0 sp) (wt_sum fs ft ff cn k t 1 sp)) i (ft, ff)).2))), (od, .inl (cI, 264, .inl fo))] ∧ va_S A s.heap H locs) ⟨(by omega), lv_sub hl [0, 1, 2, 3, 4, 5, 6] rfl, hP, hD, hS⟩ (fun i ls H locs h9 ih_23 => ?_)
  obtain ⟨h_23_0, hl, hP, hD, hS⟩ := h9
  refine lv_iload hx hb dX3_fight_23 (lv_at hl 0 rfl) ?_
  refine lv_aload_n hx hb dX3_fight_25 rfl (lv_at hl 3 rfl) ?_
  refine va_get (D := (dC, dI)) (ci := 3) (v := .ref hu) (C := RX3) (T := TX3) (N := 7) hx hb hts inX3 hown hK hP 0 rfl rfl 2 (by decide) (hts (.fieldLink RX3 23 "WarTable" "units" "LWarTable$Units;") (List.mem_of_getElem? (i := 1) rfl)) (fun _ h9 => h9) rfl dX3_fight_26 ?_
  refine wt_ro_go (va_runV (As := []) (rest := [.int (nI i)]) ⟨hx, hb, hml, hown, hts⟩ (k_X2_count l dC dI cI hu sd tw st od fs ((wt_fold (wt_fts fs k t (wt_sum fs ft ff cn k t 0 sp) (wt_sum fs ft ff cn k t 1 sp)) i (ft, ff)).1) ((wt_fold (wt_fts fs k t (wt_sum fs ft ff cn k t 0 sp) (wt_sum fs ft ff cn k t 1 sp)) i (ft, ff)).2) fo cn) (cwV 0 hts gX3_fight_X2_count rfl rfl rfl (by decide +kernel) ⟨Nat.le_of_ble_eq_true rfl, Nat.le_of_ble_eq_true rfl⟩) (wt_PV (C := RX2) (T := TX2) (N := 5) (ci := 2) (q0 := 7) hK hP hN rfl rfl [7, 8, 9, 10, 11] rfl) rfl rfl hl.1 rfl (lv_room (Nat.le_of_ble_eq_true rfl)) dX3_fight_29 ⟨Nat.zero_le _, Nat.zero_le _⟩) ?_
  refine wt_icmp_ge (tgt := 110) hx hb (by omega) (by omega) dX3_fight_32 (by decide) (fun c_32_3 => ?_) (fun c_32_3 => ?_)
  · have e4 : (wt_fold (wt_fts fs k t (wt_sum fs ft ff cn k t 0 sp) (wt_sum fs ft ff cn k t 1 sp)) i (ft, ff)).1 = (wt_fgt fs cn k t sp (ft, ff)).1 := (by rw [show i = cn by omega]; rfl)
    have hP : va_P (dC, dI) vwCl [(h, .inr (3, [.ref hm, .ref dp, .ref hu, .ref we, .ref se, .ref hq, .int (nI nt)])), (dp, .inl (cI, 2, .inl fd)), (we, .inl (cI, 20, .inl fw)), (se, .inl (cI, 20, .inl fe)), (hm, .inr (0, [.ref pv, .ref up, .int (nI nr)])), (pv, .inl (cI, 10, .inl fp)), (up, .inl (cI, 10, .inl fu)), (hu, .inr (2, [.ref sd, .ref tw, .ref st, .ref od, .int (nI cn)])), (sd, .inl (cI, 12, .inl fs)), (tw, .inl (cI, 264, .inl ((wt_fgt fs cn k t sp (ft, ff)).1))), (st, .inl (cI, 264, .inl ((wt_fold (wt_fts fs k t (wt_sum fs ft ff cn k t 0 sp) (wt_sum fs ft ff cn k t 1 sp)) i (ft, ff)).2))), (od, .inl (cI, 264, .inl fo))] H := Eq.mp (congrArg (fun z9 : Nat → Int32 => va_P (dC, dI) vwCl [(h, .inr (3, [.ref hm, .ref dp, .ref hu, .ref we, .ref se, .ref hq, .int (nI nt)])), (dp, .inl (cI, 2, .inl fd)), (we, .inl (cI, 20, .inl fw)), (se, .inl (cI, 20, .inl fe)), (hm, .inr (0, [.ref pv, .ref up, .int (nI nr)])), (pv, .inl (cI, 10, .inl fp)), (up, .inl (cI, 10, .inl fu)), (hu, .inr (2, [.ref sd, .ref tw, .ref st, .ref od, .int (nI cn)])), (sd, .inl (cI, 12, .inl fs)), (tw, .inl (cI, 264, .inl z9)), (st, .inl (cI, 264, .inl ((wt_fold (wt_fts fs k t (wt_sum fs ft ff cn k t 0 sp) (wt_sum fs ft ff cn k t 1 sp)) i (ft, ff)).2))), (od, .inl (cI, 264, .inl fo))] H) e4) hP
    have e5 : (wt_fold (wt_fts fs k t (wt_sum fs ft ff cn k t 0 sp) (wt_sum fs ft ff cn k t 1 sp)) i (ft, ff)).2 = (wt_fgt fs cn k t sp (ft, ff)).2 := (by rw [show i = cn by omega]; rfl)
    have hP : va_P (dC, dI) vwCl [(h, .inr (3, [.ref hm, .ref dp, .ref hu, .ref we, .ref se, .ref hq, .int (nI nt)])), (dp, .inl (cI, 2, .inl fd)), (we, .inl (cI, 20, .inl fw)), (se, .inl (cI, 20, .inl fe)), (hm, .inr (0, [.ref pv, .ref up, .int (nI nr)])), (pv, .inl (cI, 10, .inl fp)), (up, .inl (cI, 10, .inl fu)), (hu, .inr (2, [.ref sd, .ref tw, .ref st, .ref od, .int (nI cn)])), (sd, .inl (cI, 12, .inl fs)), (tw, .inl (cI, 264, .inl ((wt_fgt fs cn k t sp (ft, ff)).1))), (st, .inl (cI, 264, .inl ((wt_fgt fs cn k t sp (ft, ff)).2))), (od, .inl (cI, 264, .inl fo))] H := Eq.mp (congrArg (fun z9 : Nat → Int32 => va_P (dC, dI) vwCl [(h, .inr (3, [.ref hm, .ref dp, .ref hu, .ref we, .ref se, .ref hq, .int (nI nt)])), (dp, .inl (cI, 2, .inl fd)), (we, .inl (cI, 20, .inl fw)), (se, .inl (cI, 20, .inl fe)), (hm, .inr (0, [.ref pv, .ref up, .int (nI nr)])), (pv, .inl (cI, 10, .inl fp)), (up, .inl (cI, 10, .inl fu)), (hu, .inr (2, [.ref sd, .ref tw, .ref st, .ref od, .int (nI cn)])), (sd, .inl (cI, 12, .inl fs)), (tw, .inl (cI, 264, .inl ((wt_fgt fs cn k t sp (ft, ff)).1))), (st, .inl (cI, 264, .inl z9)), (od, .inl (cI, 264, .inl fo))] H) e5) hP
    have hD : va_D A [(h, .inr (3, [.ref hm, .ref dp, .ref hu, .ref we, .ref se, .ref hq, .int (nI nt)])), (dp, .inl (cI, 2, .inl fd)), (we, .inl (cI, 20, .inl fw)), (se, .inl (cI, 20, .inl fe)), (hm, .inr (0, [.ref pv, .ref up, .int (nI nr)])), (pv, .inl (cI, 10, .inl fp)), (up, .inl (cI, 10, .inl fu)), (hu, .inr (2, [.ref sd, .ref tw, .ref st, .ref od, .int (nI cn)])), (sd, .inl (cI, 12, .inl fs)), (tw, .inl (cI, 264, .inl ((wt_fgt fs cn k t sp (ft, ff)).1))), (st, .inl (cI, 264, .inl ((wt_fgt fs cn k t sp (ft, ff)).2))), (od, .inl (cI, 264, .inl fo))] := wt_adr hD rfl
    exact wt_mvret hx hb hr hP hS dX3_fight_110 hlocks
  · refine lv_aload_n hx hb dX3_fight_35 rfl (lv_at hl 3 rfl) ?_
    refine va_get (D := (dC, dI)) (ci := 3) (v := .ref hu) (C := RX3) (T := TX3) (N := 7) hx hb hts inX3 hown hK hP 0 rfl rfl 2 (by decide) (hts (.fieldLink RX3 23 "WarTable" "units" "LWarTable$Units;") (List.mem_of_getElem? (i := 1) rfl)) (fun _ h9 => h9) rfl dX3_fight_36 ?_
    refine lv_iload_n hx hb dX3_fight_39 rfl (lv_at hl 4 rfl) ?_
    refine lv_iload hx hb dX3_fight_40 (lv_at hl 0 rfl) ?_
    refine wt_ro_go (va_runV (As := [.int (nI k), .int (nI i)]) (rest := []) ⟨hx, hb, hml, hown, hts⟩ (k_X2_townAt l dC dI cI hu sd tw st od fs ((wt_fold (wt_fts fs k t (wt_sum fs ft ff cn k t 0 sp) (wt_sum fs ft ff cn k t 1 sp)) i (ft, ff)).1) ((wt_fold (wt_fts fs k t (wt_sum fs ft ff cn k t 0 sp) (wt_sum fs ft ff cn k t 1 sp)) i (ft, ff)).2) fo cn k i (by omega) (by omega)) (cwV 2 hts gX3_fight_X2_townAt rfl rfl rfl (by decide +kernel) ⟨Nat.le_of_ble_eq_true rfl, Nat.le_of_ble_eq_true rfl⟩) (wt_PV (C := RX2) (T := TX2) (N := 5) (ci := 2) (q0 := 7) hK hP hN rfl rfl [7, 8, 9, 10, 11] rfl) rfl rfl hl.1 rfl (lv_room (Nat.le_of_ble_eq_true rfl)) dX3_fight_42 ⟨Nat.zero_le _, Nat.zero_le _⟩) ?_
    refine lv_iload_n hx hb dX3_fight_45 rfl (lv_at hl 5 rfl) ?_
    refine wt_icmp_neI (tgt := 104) hx hb dX3_fight_46 (by decide) (fun c_46_6 => ?_) (fun c_46_6 => ?_)
    · refine lv_iinc (v := nI (i + 1)) (lv' := [(6, .int (nI (i + 1))), (5, .int (wt_sum fs ft ff cn k t 1 sp)), (4, .int (wt_sum fs ft ff cn k t 0 sp)), (0, .ref h), (1, .int (nI k)), (2, .int (nI t)), (3, .int sp)]) hx hb dX3_fight_104 hl (k := 0) rfl (nI_1 i) (by decide) rfl (fun ls hl => ?_)
      refine lv_goto (tgt := 23) hx hb dX3_fight_107 (by decide) ?_
      have e7 : (wt_fold (wt_fts fs k t (wt_sum fs ft ff cn k t 0 sp) (wt_sum fs ft ff cn k t 1 sp)) i (ft, ff)).1 = (wt_fold (wt_fts fs k t (wt_sum fs ft ff cn k t 0 sp) (wt_sum fs ft ff cn k t 1 sp)) (i + 1) (ft, ff)).1 := (by simp only [wt_fold_s, wt_fts, wt_pl, wt_if_f c_46_6])
      have hP : va_P (dC, dI) vwCl [(h, .inr (3, [.ref hm, .ref dp, .ref hu, .ref we, .ref se, .ref hq, .int (nI nt)])), (dp, .inl (cI, 2, .inl fd)), (we, .inl (cI, 20, .inl fw)), (se, .inl (cI, 20, .inl fe)), (hm, .inr (0, [.ref pv, .ref up, .int (nI nr)])), (pv, .inl (cI, 10, .inl fp)), (up, .inl (cI, 10, .inl fu)), (hu, .inr (2, [.ref sd, .ref tw, .ref st, .ref od, .int (nI cn)])), (sd, .inl (cI, 12, .inl fs)), (tw, .inl (cI, 264, .inl ((wt_fold (wt_fts fs k t (wt_sum fs ft ff cn k t 0 sp) (wt_sum fs ft ff cn k t 1 sp)) (i + 1) (ft, ff)).1))), (st, .inl (cI, 264, .inl ((wt_fold (wt_fts fs k t (wt_sum fs ft ff cn k t 0 sp) (wt_sum fs ft ff cn k t 1 sp)) i (ft, ff)).2))), (od, .inl (cI, 264, .inl fo))] H := Eq.mp (congrArg (fun z9 : Nat → Int32 => va_P (dC, dI) vwCl [(h, .inr (3, [.ref hm, .ref dp, .ref hu, .ref we, .ref se, .ref hq, .int (nI nt)])), (dp, .inl (cI, 2, .inl fd)), (we, .inl (cI, 20, .inl fw)), (se, .inl (cI, 20, .inl fe)), (hm, .inr (0, [.ref pv, .ref up, .int (nI nr)])), (pv, .inl (cI, 10, .inl fp)), (up, .inl (cI, 10, .inl fu)), (hu, .inr (2, [.ref sd, .ref tw, .ref st, .ref od, .int (nI cn)])), (sd, .inl (cI, 12, .inl fs)), (tw, .inl (cI, 264, .inl z9)), (st, .inl (cI, 264, .inl ((wt_fold (wt_fts fs k t (wt_sum fs ft ff cn k t 0 sp) (wt_sum fs ft ff cn k t 1 sp)) i (ft, ff)).2))), (od, .inl (cI, 264, .inl fo))] H) e7) hP
      have e8 : (wt_fold (wt_fts fs k t (wt_sum fs ft ff cn k t 0 sp) (wt_sum fs ft ff cn k t 1 sp)) i (ft, ff)).2 = (wt_fold (wt_fts fs k t (wt_sum fs ft ff cn k t 0 sp) (wt_sum fs ft ff cn k t 1 sp)) (i + 1) (ft, ff)).2 := (by simp only [wt_fold_s, wt_fts, wt_pl, wt_if_f c_46_6])
      have hP : va_P (dC, dI) vwCl [(h, .inr (3, [.ref hm, .ref dp, .ref hu, .ref we, .ref se, .ref hq, .int (nI nt)])), (dp, .inl (cI, 2, .inl fd)), (we, .inl (cI, 20, .inl fw)), (se, .inl (cI, 20, .inl fe)), (hm, .inr (0, [.ref pv, .ref up, .int (nI nr)])), (pv, .inl (cI, 10, .inl fp)), (up, .inl (cI, 10, .inl fu)), (hu, .inr (2, [.ref sd, .ref tw, .ref st, .ref od, .int (nI cn)])), (sd, .inl (cI, 12, .inl fs)), (tw, .inl (cI, 264, .inl ((wt_fold (wt_fts fs k t (wt_sum fs ft ff cn k t 0 sp) (wt_sum fs ft ff cn k t 1 sp)) (i + 1) (ft, ff)).1))), (st, .inl (cI, 264, .inl ((wt_fold (wt_fts fs k t (wt_sum fs ft ff cn k t 0 sp) (wt_sum fs ft ff cn k t 1 sp)) (i + 1) (ft, ff)).2))), (od, .inl (cI, 264, .inl fo))] H := Eq.mp (congrArg (fun z9 : Nat → Int32 => va_P (dC, dI) vwCl [(h, .inr (3, [.ref hm, .ref dp, .ref hu, .ref we, .ref se, .ref hq, .int (nI nt)])), (dp, .inl (cI, 2, .inl fd)), (we, .inl (cI, 20, .inl fw)), (se, .inl (cI, 20, .inl fe)), (hm, .inr (0, [.ref pv, .ref up, .int (nI nr)])), (pv, .inl (cI, 10, .inl fp)), (up, .inl (cI, 10, .inl fu)), (hu, .inr (2, [.ref sd, .ref tw, .ref st, .ref od, .int (nI cn)])), (sd, .inl (cI, 12, .inl fs)), (tw, .inl (cI, 264, .inl ((wt_fold (wt_fts fs k t (wt_sum fs ft ff cn k t 0 sp) (wt_sum fs ft ff cn k t 1 sp)) (i + 1) (ft, ff)).1))), (st, .inl (cI, 264, .inl z9)), (od, .inl (cI, 264, .inl fo))] H) e8) hP
      have hD : va_D A [(h, .inr (3, [.ref hm, .ref dp, .ref hu, .ref we, .ref se, .ref hq, .int (nI nt)])), (dp, .inl (cI, 2, .inl fd)), (we, .inl (cI, 20, .inl fw)), (se, .inl (cI, 20, .inl fe)), (hm, .inr (0, [.ref pv, .ref up, .int (nI nr)])), (pv, .inl (cI, 10, .inl fp)), (up, .inl (cI, 10, .inl fu)), (hu, .inr (2, [.ref sd, .ref tw, .ref st, .ref od, .int (nI cn)])), (sd, .inl (cI, 12, .inl fs)), (tw, .inl (cI, 264, .inl ((wt_fold (wt_fts fs k t (wt_sum fs ft ff cn k t 0 sp) (wt_sum fs ft ff cn k t 1 sp)) (i + 1) (ft, ff)).1))), (st, .inl (cI, 264, .inl ((wt_fold (wt_fts fs k t (wt_sum fs ft ff cn k t 0 sp) (wt_sum fs ft ff cn k t 1 sp)) (i + 1) (ft, ff)).2))), (od, .inl (cI, 264, .inl fo))] := wt_adr hD rfl
      exact ih_23 (i + 1) _ _ _ (by omega) ⟨(by omega), lv_sub hl [0, 1, 2, 3, 4, 5, 6] rfl, hP, hD, hS⟩
    · refine lv_aload_n hx hb dX3_fight_49 rfl (lv_at hl 3 rfl) ?_
      refine va_get (D := (dC, dI)) (ci := 3) (v := .ref hu) (C := RX3) (T := TX3) (N := 7) hx hb hts inX3 hown hK hP 0 rfl rfl 2 (by decide) (hts (.fieldLink RX3 23 "WarTable" "units" "LWarTable$Units;") (List.mem_of_getElem? (i := 1) rfl)) (fun _ h9 => h9) rfl dX3_fight_50 ?_
      refine lv_iload hx hb dX3_fight_53 (lv_at hl 0 rfl) ?_
      refine wt_ro_go (va_runV (As := [.int (nI i)]) (rest := []) ⟨hx, hb, hml, hown, hts⟩ (k_X2_sideOf l dC dI cI hu sd tw st od fs ((wt_fold (wt_fts fs k t (wt_sum fs ft ff cn k t 0 sp) (wt_sum fs ft ff cn k t 1 sp)) i (ft, ff)).1) ((wt_fold (wt_fts fs k t (wt_sum fs ft ff cn k t 0 sp) (wt_sum fs ft ff cn k t 1 sp)) i (ft, ff)).2) fo cn i (by omega)) (cwV 1 hts gX3_fight_X2_sideOf rfl rfl rfl (by decide +kernel) ⟨Nat.le_of_ble_eq_true rfl, Nat.le_of_ble_eq_true rfl⟩) (wt_PV (C := RX2) (T := TX2) (N := 5) (ci := 2) (q0 := 7) hK hP hN rfl rfl [7, 8, 9, 10, 11] rfl) rfl rfl hl.1 rfl (lv_room (Nat.le_of_ble_eq_true rfl)) dX3_fight_55 ⟨Nat.zero_le _, Nat.zero_le _⟩) ?_
      refine wt_if_neI (tgt := 71) hx hb dX3_fight_58 (by decide) (fun c_58_9 => ?_) (fun c_58_9 => ?_)
      · refine lv_iload hx hb dX3_fight_71 (lv_at hl 1 rfl) ?_
        refine lv_iload hx hb dX3_fight_73 (lv_at hl 2 rfl) ?_
        refine wt_ro_go (va_runS (As := [.int (wt_sum fs ft ff cn k t 1 sp), .int (wt_sum fs ft ff cn k t 0 sp)]) (rest := []) ⟨hx, hb, hml, hown, hts⟩ (k_X3_loss l (wt_sum fs ft ff cn k t 1 sp) (wt_sum fs ft ff cn k t 0 sp)) (va_cwS 2 hts gX3_fight_X3_loss rfl rfl rfl (by decide +kernel) ⟨Nat.le_of_ble_eq_true rfl, Nat.le_of_ble_eq_true rfl⟩) wt_PS rfl rfl hl.1 rfl (lv_room (Nat.le_of_ble_eq_true rfl)) dX3_fight_75 ⟨Nat.zero_le _, Nat.zero_le _⟩) ?_
        refine lv_istore (lv' := [(7, .int (wt_loss (wt_sum fs ft ff cn k t 1 sp) (wt_sum fs ft ff cn k t 0 sp))), (6, .int (nI i)), (5, .int (wt_sum fs ft ff cn k t 1 sp)), (4, .int (wt_sum fs ft ff cn k t 0 sp)), (0, .ref h), (1, .int (nI k)), (2, .int (nI t)), (3, .int sp)]) hx hb dX3_fight_78 hl (by decide) rfl (fun ls hl => ?_)
        refine lv_aload_n hx hb dX3_fight_80 rfl (lv_at hl 4 rfl) ?_
        refine va_get (D := (dC, dI)) (ci := 3) (v := .ref hu) (C := RX3) (T := TX3) (N := 7) hx hb hts inX3 hown hK hP 0 rfl rfl 2 (by decide) (hts (.fieldLink RX3 23 "WarTable" "units" "LWarTable$Units;") (List.mem_of_getElem? (i := 1) rfl)) (fun _ h9 => h9) rfl dX3_fight_81 ?_
        refine lv_iload_n hx hb dX3_fight_84 rfl (lv_at hl 5 rfl) ?_
        refine lv_iload hx hb dX3_fight_85 (lv_at hl 1 rfl) ?_
        refine lv_iload_n hx hb dX3_fight_87 rfl (lv_at hl 6 rfl) ?_
        refine lv_aload_n hx hb dX3_fight_88 rfl (lv_at hl 4 rfl) ?_
        refine va_get (D := (dC, dI)) (ci := 3) (v := .ref hu) (C := RX3) (T := TX3) (N := 7) hx hb hts inX3 hown hK hP 0 rfl rfl 2 (by decide) (hts (.fieldLink RX3 23 "WarTable" "units" "LWarTable$Units;") (List.mem_of_getElem? (i := 1) rfl)) (fun _ h9 => h9) rfl dX3_fight_89 ?_
        refine lv_iload_n hx hb dX3_fight_92 rfl (lv_at hl 5 rfl) ?_
        refine lv_iload hx hb dX3_fight_93 (lv_at hl 1 rfl) ?_
        refine wt_ro_go (va_runV (As := [.int (nI k), .int (nI i)]) (rest := [.int (nI t), .int (nI i), .int (nI k), .ref hu]) ⟨hx, hb, hml, hown, hts⟩ (k_X2_strengthAt l dC dI cI hu sd tw st od fs ((wt_fold (wt_fts fs k t (wt_sum fs ft ff cn k t 0 sp) (wt_sum fs ft ff cn k t 1 sp)) i (ft, ff)).1) ((wt_fold (wt_fts fs k t (wt_sum fs ft ff cn k t 0 sp) (wt_sum fs ft ff cn k t 1 sp)) i (ft, ff)).2) fo cn k i (by omega) (by omega)) (cwV 2 hts gX3_fight_X2_strengthAt rfl rfl rfl (by decide +kernel) ⟨Nat.le_of_ble_eq_true rfl, Nat.le_of_ble_eq_true rfl⟩) (wt_PV (C := RX2) (T := TX2) (N := 5) (ci := 2) (q0 := 7) hK hP hN rfl rfl [7, 8, 9, 10, 11] rfl) rfl rfl hl.1 rfl (lv_room (Nat.le_of_ble_eq_true rfl)) dX3_fight_95 ⟨Nat.zero_le _, Nat.zero_le _⟩) ?_
        refine lv_iload hx hb dX3_fight_98 (lv_at hl 0 rfl) ?_
        refine lv_isub hx hb dX3_fight_100 ?_
        refine wt_mu_go (w1 := [(hu, .inr (2, [.ref sd, .ref tw, .ref st, .ref od, .int (nI cn)])), (sd, .inl (cI, 12, .inl fs)), (tw, .inl (cI, 264, .inl (wt_plT ((wt_fold (wt_fts fs k t (wt_sum fs ft ff cn k t 0 sp) (wt_sum fs ft ff cn k t 1 sp)) i (ft, ff)).1) k i (nI t) ((((wt_fold (wt_fts fs k t (wt_sum fs ft ff cn k t 0 sp) (wt_sum fs ft ff cn k t 1 sp)) i (ft, ff)).2) (k * 12 + i)) - (wt_loss (wt_sum fs ft ff cn k t 1 sp) (wt_sum fs ft ff cn k t 0 sp)))))), (st, .inl (cI, 264, .inl (wt_plF ((wt_fold (wt_fts fs k t (wt_sum fs ft ff cn k t 0 sp) (wt_sum fs ft ff cn k t 1 sp)) i (ft, ff)).2) k i ((((wt_fold (wt_fts fs k t (wt_sum fs ft ff cn k t 0 sp) (wt_sum fs ft ff cn k t 1 sp)) i (ft, ff)).2) (k * 12 + i)) - (wt_loss (wt_sum fs ft ff cn k t 1 sp) (wt_sum fs ft ff cn k t 0 sp)))))), (od, .inl (cI, 264, .inl fo))]) (w2 := [(h, .inr (3, [.ref hm, .ref dp, .ref hu, .ref we, .ref se, .ref hq, .int (nI nt)])), (dp, .inl (cI, 2, .inl fd)), (we, .inl (cI, 20, .inl fw)), (se, .inl (cI, 20, .inl fe)), (hm, .inr (0, [.ref pv, .ref up, .int (nI nr)])), (pv, .inl (cI, 10, .inl fp)), (up, .inl (cI, 10, .inl fu)), (hu, .inr (2, [.ref sd, .ref tw, .ref st, .ref od, .int (nI cn)])), (sd, .inl (cI, 12, .inl fs)), (tw, .inl (cI, 264, .inl (wt_plT ((wt_fold (wt_fts fs k t (wt_sum fs ft ff cn k t 0 sp) (wt_sum fs ft ff cn k t 1 sp)) i (ft, ff)).1) k i (nI t) ((((wt_fold (wt_fts fs k t (wt_sum fs ft ff cn k t 0 sp) (wt_sum fs ft ff cn k t 1 sp)) i (ft, ff)).2) (k * 12 + i)) - (wt_loss (wt_sum fs ft ff cn k t 1 sp) (wt_sum fs ft ff cn k t 0 sp)))))), (st, .inl (cI, 264, .inl (wt_plF ((wt_fold (wt_fts fs k t (wt_sum fs ft ff cn k t 0 sp) (wt_sum fs ft ff cn k t 1 sp)) i (ft, ff)).2) k i ((((wt_fold (wt_fts fs k t (wt_sum fs ft ff cn k t 0 sp) (wt_sum fs ft ff cn k t 1 sp)) i (ft, ff)).2) (k * 12 + i)) - (wt_loss (wt_sum fs ft ff cn k t 1 sp) (wt_sum fs ft ff cn k t 0 sp)))))), (od, .inl (cI, 264, .inl fo))]) (wr := [(h, .inr (3, [.ref hm, .ref dp, .ref hu, .ref we, .ref se, .ref hq, .int (nI nt)])), (dp, .inl (cI, 2, .inl fd)), (we, .inl (cI, 20, .inl fw)), (se, .inl (cI, 20, .inl fe)), (hm, .inr (0, [.ref pv, .ref up, .int (nI nr)])), (pv, .inl (cI, 10, .inl fp)), (up, .inl (cI, 10, .inl fu))]) (va_runV (As := [.int (nI k), .int (nI i), .int (nI t), .int ((((wt_fold (wt_fts fs k t (wt_sum fs ft ff cn k t 0 sp) (wt_sum fs ft ff cn k t 1 sp)) i (ft, ff)).2) (k * 12 + i)) - (wt_loss (wt_sum fs ft ff cn k t 1 sp) (wt_sum fs ft ff cn k t 0 sp)))]) (rest := []) ⟨hx, hb, hml, hown, hts⟩ (k_X2_place l dC dI cI hu sd tw st od fs ((wt_fold (wt_fts fs k t (wt_sum fs ft ff cn k t 0 sp) (wt_sum fs ft ff cn k t 1 sp)) i (ft, ff)).1) ((wt_fold (wt_fts fs k t (wt_sum fs ft ff cn k t 0 sp) (wt_sum fs ft ff cn k t 1 sp)) i (ft, ff)).2) fo cn k i (nI t) ((((wt_fold (wt_fts fs k t (wt_sum fs ft ff cn k t 0 sp) (wt_sum fs ft ff cn k t 1 sp)) i (ft, ff)).2) (k * 12 + i)) - (wt_loss (wt_sum fs ft ff cn k t 1 sp) (wt_sum fs ft ff cn k t 0 sp))) H.size (by omega) (by omega)) (cwV 4 hts gX3_fight_X2_place rfl rfl rfl (by decide +kernel) ⟨Nat.le_of_ble_eq_true rfl, Nat.le_of_ble_eq_true rfl⟩) (wt_PVM (C := RX2) (T := TX2) (N := 5) (ci := 2) (q0 := 7) hK hP hN hD rfl rfl [7, 8, 9, 10, 11] rfl rfl) rfl rfl hl.1 rfl (lv_room (Nat.le_of_ble_eq_true rfl)) dX3_fight_101 ⟨Nat.zero_le _, Nat.zero_le _⟩) hP hD hS hA [7, 8, 9, 10, 11] [0, 1, 2, 3, 4, 5, 6] rfl rfl rfl rfl (by decide) rfl [0, 1, 2, 3, 4, 5, 6, 7, 8, 9, 10, 11] rfl rfl (fun H locs hP hD hS hz9 => ?_)
        refine W.eq (g2 := F0 m 104 ls []) rfl ?_
        refine lv_iinc (v := nI (i + 1)) (lv' := [(6, .int (nI (i + 1))), (7, .int (wt_loss (wt_sum fs ft ff cn k t 1 sp) (wt_sum fs ft ff cn k t 0 sp))), (5, .int (wt_sum fs ft ff cn k t 1 sp)), (4, .int (wt_sum fs ft ff cn k t 0 sp)), (0, .ref h), (1, .int (nI k)), (2, .int (nI t)), (3, .int sp)]) hx hb dX3_fight_104 hl (k := 1) rfl (nI_1 i) (by decide) rfl (fun ls hl => ?_)
        refine lv_goto (tgt := 23) hx hb dX3_fight_107 (by decide) ?_
        have e10 : (wt_plT ((wt_fold (wt_fts fs k t (wt_sum fs ft ff cn k t 0 sp) (wt_sum fs ft ff cn k t 1 sp)) i (ft, ff)).1) k i (nI t) ((((wt_fold (wt_fts fs k t (wt_sum fs ft ff cn k t 0 sp) (wt_sum fs ft ff cn k t 1 sp)) i (ft, ff)).2) (k * 12 + i)) - (wt_loss (wt_sum fs ft ff cn k t 1 sp) (wt_sum fs ft ff cn k t 0 sp)))) = (wt_fold (wt_fts fs k t (wt_sum fs ft ff cn k t 0 sp) (wt_sum fs ft ff cn k t 1 sp)) (i + 1) (ft, ff)).1 := (by simp only [wt_fold_s, wt_fts, wt_pl, wt_if_t c_46_6, wt_if_f c_58_9])
        have hP : va_P (dC, dI) vwCl [(h, .inr (3, [.ref hm, .ref dp, .ref hu, .ref we, .ref se, .ref hq, .int (nI nt)])), (dp, .inl (cI, 2, .inl fd)), (we, .inl (cI, 20, .inl fw)), (se, .inl (cI, 20, .inl fe)), (hm, .inr (0, [.ref pv, .ref up, .int (nI nr)])), (pv, .inl (cI, 10, .inl fp)), (up, .inl (cI, 10, .inl fu)), (hu, .inr (2, [.ref sd, .ref tw, .ref st, .ref od, .int (nI cn)])), (sd, .inl (cI, 12, .inl fs)), (tw, .inl (cI, 264, .inl ((wt_fold (wt_fts fs k t (wt_sum fs ft ff cn k t 0 sp) (wt_sum fs ft ff cn k t 1 sp)) (i + 1) (ft, ff)).1))), (st, .inl (cI, 264, .inl (wt_plF ((wt_fold (wt_fts fs k t (wt_sum fs ft ff cn k t 0 sp) (wt_sum fs ft ff cn k t 1 sp)) i (ft, ff)).2) k i ((((wt_fold (wt_fts fs k t (wt_sum fs ft ff cn k t 0 sp) (wt_sum fs ft ff cn k t 1 sp)) i (ft, ff)).2) (k * 12 + i)) - (wt_loss (wt_sum fs ft ff cn k t 1 sp) (wt_sum fs ft ff cn k t 0 sp)))))), (od, .inl (cI, 264, .inl fo))] H := Eq.mp (congrArg (fun z9 : Nat → Int32 => va_P (dC, dI) vwCl [(h, .inr (3, [.ref hm, .ref dp, .ref hu, .ref we, .ref se, .ref hq, .int (nI nt)])), (dp, .inl (cI, 2, .inl fd)), (we, .inl (cI, 20, .inl fw)), (se, .inl (cI, 20, .inl fe)), (hm, .inr (0, [.ref pv, .ref up, .int (nI nr)])), (pv, .inl (cI, 10, .inl fp)), (up, .inl (cI, 10, .inl fu)), (hu, .inr (2, [.ref sd, .ref tw, .ref st, .ref od, .int (nI cn)])), (sd, .inl (cI, 12, .inl fs)), (tw, .inl (cI, 264, .inl z9)), (st, .inl (cI, 264, .inl (wt_plF ((wt_fold (wt_fts fs k t (wt_sum fs ft ff cn k t 0 sp) (wt_sum fs ft ff cn k t 1 sp)) i (ft, ff)).2) k i ((((wt_fold (wt_fts fs k t (wt_sum fs ft ff cn k t 0 sp) (wt_sum fs ft ff cn k t 1 sp)) i (ft, ff)).2) (k * 12 + i)) - (wt_loss (wt_sum fs ft ff cn k t 1 sp) (wt_sum fs ft ff cn k t 0 sp)))))), (od, .inl (cI, 264, .inl fo))] H) e10) hP
        have e11 : (wt_plF ((wt_fold (wt_fts fs k t (wt_sum fs ft ff cn k t 0 sp) (wt_sum fs ft ff cn k t 1 sp)) i (ft, ff)).2) k i ((((wt_fold (wt_fts fs k t (wt_sum fs ft ff cn k t 0 sp) (wt_sum fs ft ff cn k t 1 sp)) i (ft, ff)).2) (k * 12 + i)) - (wt_loss (wt_sum fs ft ff cn k t 1 sp) (wt_sum fs ft ff cn k t 0 sp)))) = (wt_fold (wt_fts fs k t (wt_sum fs ft ff cn k t 0 sp) (wt_sum fs ft ff cn k t 1 sp)) (i + 1) (ft, ff)).2 := (by simp only [wt_fold_s, wt_fts, wt_pl, wt_if_t c_46_6, wt_if_f c_58_9])
        have hP : va_P (dC, dI) vwCl [(h, .inr (3, [.ref hm, .ref dp, .ref hu, .ref we, .ref se, .ref hq, .int (nI nt)])), (dp, .inl (cI, 2, .inl fd)), (we, .inl (cI, 20, .inl fw)), (se, .inl (cI, 20, .inl fe)), (hm, .inr (0, [.ref pv, .ref up, .int (nI nr)])), (pv, .inl (cI, 10, .inl fp)), (up, .inl (cI, 10, .inl fu)), (hu, .inr (2, [.ref sd, .ref tw, .ref st, .ref od, .int (nI cn)])), (sd, .inl (cI, 12, .inl fs)), (tw, .inl (cI, 264, .inl ((wt_fold (wt_fts fs k t (wt_sum fs ft ff cn k t 0 sp) (wt_sum fs ft ff cn k t 1 sp)) (i + 1) (ft, ff)).1))), (st, .inl (cI, 264, .inl ((wt_fold (wt_fts fs k t (wt_sum fs ft ff cn k t 0 sp) (wt_sum fs ft ff cn k t 1 sp)) (i + 1) (ft, ff)).2))), (od, .inl (cI, 264, .inl fo))] H := Eq.mp (congrArg (fun z9 : Nat → Int32 => va_P (dC, dI) vwCl [(h, .inr (3, [.ref hm, .ref dp, .ref hu, .ref we, .ref se, .ref hq, .int (nI nt)])), (dp, .inl (cI, 2, .inl fd)), (we, .inl (cI, 20, .inl fw)), (se, .inl (cI, 20, .inl fe)), (hm, .inr (0, [.ref pv, .ref up, .int (nI nr)])), (pv, .inl (cI, 10, .inl fp)), (up, .inl (cI, 10, .inl fu)), (hu, .inr (2, [.ref sd, .ref tw, .ref st, .ref od, .int (nI cn)])), (sd, .inl (cI, 12, .inl fs)), (tw, .inl (cI, 264, .inl ((wt_fold (wt_fts fs k t (wt_sum fs ft ff cn k t 0 sp) (wt_sum fs ft ff cn k t 1 sp)) (i + 1) (ft, ff)).1))), (st, .inl (cI, 264, .inl z9)), (od, .inl (cI, 264, .inl fo))] H) e11) hP
        have hD : va_D A [(h, .inr (3, [.ref hm, .ref dp, .ref hu, .ref we, .ref se, .ref hq, .int (nI nt)])), (dp, .inl (cI, 2, .inl fd)), (we, .inl (cI, 20, .inl fw)), (se, .inl (cI, 20, .inl fe)), (hm, .inr (0, [.ref pv, .ref up, .int (nI nr)])), (pv, .inl (cI, 10, .inl fp)), (up, .inl (cI, 10, .inl fu)), (hu, .inr (2, [.ref sd, .ref tw, .ref st, .ref od, .int (nI cn)])), (sd, .inl (cI, 12, .inl fs)), (tw, .inl (cI, 264, .inl ((wt_fold (wt_fts fs k t (wt_sum fs ft ff cn k t 0 sp) (wt_sum fs ft ff cn k t 1 sp)) (i + 1) (ft, ff)).1))), (st, .inl (cI, 264, .inl ((wt_fold (wt_fts fs k t (wt_sum fs ft ff cn k t 0 sp) (wt_sum fs ft ff cn k t 1 sp)) (i + 1) (ft, ff)).2))), (od, .inl (cI, 264, .inl fo))] := wt_adr hD rfl
        exact ih_23 (i + 1) _ _ _ (by omega) ⟨(by omega), lv_sub hl [0, 2, 3, 4, 5, 6, 7] rfl, hP, hD, hS⟩
      · refine lv_iload hx hb dX3_fight_61 (lv_at hl 2 rfl) ?_
        refine lv_iload hx hb dX3_fight_63 (lv_at hl 1 rfl) ?_
        refine wt_ro_go (va_runS (As := [.int (wt_sum fs ft ff cn k t 0 sp), .int (wt_sum fs ft ff cn k t 1 sp)]) (rest := []) ⟨hx, hb, hml, hown, hts⟩ (k_X3_loss l (wt_sum fs ft ff cn k t 0 sp) (wt_sum fs ft ff cn k t 1 sp)) (va_cwS 2 hts gX3_fight_X3_loss rfl rfl rfl (by decide +kernel) ⟨Nat.le_of_ble_eq_true rfl, Nat.le_of_ble_eq_true rfl⟩) wt_PS rfl rfl hl.1 rfl (lv_room (Nat.le_of_ble_eq_true rfl)) dX3_fight_65 ⟨Nat.zero_le _, Nat.zero_le _⟩) ?_
        refine lv_goto (tgt := 78) hx hb dX3_fight_68 (by decide) ?_
        refine lv_istore (lv' := [(7, .int (wt_loss (wt_sum fs ft ff cn k t 0 sp) (wt_sum fs ft ff cn k t 1 sp))), (6, .int (nI i)), (5, .int (wt_sum fs ft ff cn k t 1 sp)), (4, .int (wt_sum fs ft ff cn k t 0 sp)), (0, .ref h), (1, .int (nI k)), (2, .int (nI t)), (3, .int sp)]) hx hb dX3_fight_78 hl (by decide) rfl (fun ls hl => ?_)
        refine lv_aload_n hx hb dX3_fight_80 rfl (lv_at hl 4 rfl) ?_
        refine va_get (D := (dC, dI)) (ci := 3) (v := .ref hu) (C := RX3) (T := TX3) (N := 7) hx hb hts inX3 hown hK hP 0 rfl rfl 2 (by decide) (hts (.fieldLink RX3 23 "WarTable" "units" "LWarTable$Units;") (List.mem_of_getElem? (i := 1) rfl)) (fun _ h9 => h9) rfl dX3_fight_81 ?_
        refine lv_iload_n hx hb dX3_fight_84 rfl (lv_at hl 5 rfl) ?_
        refine lv_iload hx hb dX3_fight_85 (lv_at hl 1 rfl) ?_
        refine lv_iload_n hx hb dX3_fight_87 rfl (lv_at hl 6 rfl) ?_
        refine lv_aload_n hx hb dX3_fight_88 rfl (lv_at hl 4 rfl) ?_
        refine va_get (D := (dC, dI)) (ci := 3) (v := .ref hu) (C := RX3) (T := TX3) (N := 7) hx hb hts inX3 hown hK hP 0 rfl rfl 2 (by decide) (hts (.fieldLink RX3 23 "WarTable" "units" "LWarTable$Units;") (List.mem_of_getElem? (i := 1) rfl)) (fun _ h9 => h9) rfl dX3_fight_89 ?_
        refine lv_iload_n hx hb dX3_fight_92 rfl (lv_at hl 5 rfl) ?_
        refine lv_iload hx hb dX3_fight_93 (lv_at hl 1 rfl) ?_
        refine wt_ro_go (va_runV (As := [.int (nI k), .int (nI i)]) (rest := [.int (nI t), .int (nI i), .int (nI k), .ref hu]) ⟨hx, hb, hml, hown, hts⟩ (k_X2_strengthAt l dC dI cI hu sd tw st od fs ((wt_fold (wt_fts fs k t (wt_sum fs ft ff cn k t 0 sp) (wt_sum fs ft ff cn k t 1 sp)) i (ft, ff)).1) ((wt_fold (wt_fts fs k t (wt_sum fs ft ff cn k t 0 sp) (wt_sum fs ft ff cn k t 1 sp)) i (ft, ff)).2) fo cn k i (by omega) (by omega)) (cwV 2 hts gX3_fight_X2_strengthAt rfl rfl rfl (by decide +kernel) ⟨Nat.le_of_ble_eq_true rfl, Nat.le_of_ble_eq_true rfl⟩) (wt_PV (C := RX2) (T := TX2) (N := 5) (ci := 2) (q0 := 7) hK hP hN rfl rfl [7, 8, 9, 10, 11] rfl) rfl rfl hl.1 rfl (lv_room (Nat.le_of_ble_eq_true rfl)) dX3_fight_95 ⟨Nat.zero_le _, Nat.zero_le _⟩) ?_
        refine lv_iload hx hb dX3_fight_98 (lv_at hl 0 rfl) ?_
        refine lv_isub hx hb dX3_fight_100 ?_
        refine wt_mu_go (w1 := [(hu, .inr (2, [.ref sd, .ref tw, .ref st, .ref od, .int (nI cn)])), (sd, .inl (cI, 12, .inl fs)), (tw, .inl (cI, 264, .inl (wt_plT ((wt_fold (wt_fts fs k t (wt_sum fs ft ff cn k t 0 sp) (wt_sum fs ft ff cn k t 1 sp)) i (ft, ff)).1) k i (nI t) ((((wt_fold (wt_fts fs k t (wt_sum fs ft ff cn k t 0 sp) (wt_sum fs ft ff cn k t 1 sp)) i (ft, ff)).2) (k * 12 + i)) - (wt_loss (wt_sum fs ft ff cn k t 0 sp) (wt_sum fs ft ff cn k t 1 sp)))))), (st, .inl (cI, 264, .inl (wt_plF ((wt_fold (wt_fts fs k t (wt_sum fs ft ff cn k t 0 sp) (wt_sum fs ft ff cn k t 1 sp)) i (ft, ff)).2) k i ((((wt_fold (wt_fts fs k t (wt_sum fs ft ff cn k t 0 sp) (wt_sum fs ft ff cn k t 1 sp)) i (ft, ff)).2) (k * 12 + i)) - (wt_loss (wt_sum fs ft ff cn k t 0 sp) (wt_sum fs ft ff cn k t 1 sp)))))), (od, .inl (cI, 264, .inl fo))]) (w2 := [(h, .inr (3, [.ref hm, .ref dp, .ref hu, .ref we, .ref se, .ref hq, .int (nI nt)])), (dp, .inl (cI, 2, .inl fd)), (we, .inl (cI, 20, .inl fw)), (se, .inl (cI, 20, .inl fe)), (hm, .inr (0, [.ref pv, .ref up, .int (nI nr)])), (pv, .inl (cI, 10, .inl fp)), (up, .inl (cI, 10, .inl fu)), (hu, .inr (2, [.ref sd, .ref tw, .ref st, .ref od, .int (nI cn)])), (sd, .inl (cI, 12, .inl fs)), (tw, .inl (cI, 264, .inl (wt_plT ((wt_fold (wt_fts fs k t (wt_sum fs ft ff cn k t 0 sp) (wt_sum fs ft ff cn k t 1 sp)) i (ft, ff)).1) k i (nI t) ((((wt_fold (wt_fts fs k t (wt_sum fs ft ff cn k t 0 sp) (wt_sum fs ft ff cn k t 1 sp)) i (ft, ff)).2) (k * 12 + i)) - (wt_loss (wt_sum fs ft ff cn k t 0 sp) (wt_sum fs ft ff cn k t 1 sp)))))), (st, .inl (cI, 264, .inl (wt_plF ((wt_fold (wt_fts fs k t (wt_sum fs ft ff cn k t 0 sp) (wt_sum fs ft ff cn k t 1 sp)) i (ft, ff)).2) k i ((((wt_fold (wt_fts fs k t (wt_sum fs ft ff cn k t 0 sp) (wt_sum fs ft ff cn k t 1 sp)) i (ft, ff)).2) (k * 12 + i)) - (wt_loss (wt_sum fs ft ff cn k t 0 sp) (wt_sum fs ft ff cn k t 1 sp)))))), (od, .inl (cI, 264, .inl fo))]) (wr := [(h, .inr (3, [.ref hm, .ref dp, .ref hu, .ref we, .ref se, .ref hq, .int (nI nt)])), (dp, .inl (cI, 2, .inl fd)), (we, .inl (cI, 20, .inl fw)), (se, .inl (cI, 20, .inl fe)), (hm, .inr (0, [.ref pv, .ref up, .int (nI nr)])), (pv, .inl (cI, 10, .inl fp)), (up, .inl (cI, 10, .inl fu))]) (va_runV (As := [.int (nI k), .int (nI i), .int (nI t), .int ((((wt_fold (wt_fts fs k t (wt_sum fs ft ff cn k t 0 sp) (wt_sum fs ft ff cn k t 1 sp)) i (ft, ff)).2) (k * 12 + i)) - (wt_loss (wt_sum fs ft ff cn k t 0 sp) (wt_sum fs ft ff cn k t 1 sp)))]) (rest := []) ⟨hx, hb, hml, hown, hts⟩ (k_X2_place l dC dI cI hu sd tw st od fs ((wt_fold (wt_fts fs k t (wt_sum fs ft ff cn k t 0 sp) (wt_sum fs ft ff cn k t 1 sp)) i (ft, ff)).1) ((wt_fold (wt_fts fs k t (wt_sum fs ft ff cn k t 0 sp) (wt_sum fs ft ff cn k t 1 sp)) i (ft, ff)).2) fo cn k i (nI t) ((((wt_fold (wt_fts fs k t (wt_sum fs ft ff cn k t 0 sp) (wt_sum fs ft ff cn k t 1 sp)) i (ft, ff)).2) (k * 12 + i)) - (wt_loss (wt_sum fs ft ff cn k t 0 sp) (wt_sum fs ft ff cn k t 1 sp))) H.size (by omega) (by omega)) (cwV 4 hts gX3_fight_X2_place rfl rfl rfl (by decide +kernel) ⟨Nat.le_of_ble_eq_true rfl, Nat.le_of_ble_eq_true rfl⟩) (wt_PVM (C := RX2) (T := TX2) (N := 5) (ci := 2) (q0 := 7) hK hP hN hD rfl rfl [7, 8, 9, 10, 11] rfl rfl) rfl rfl hl.1 rfl (lv_room (Nat.le_of_ble_eq_true rfl)) dX3_fight_101 ⟨Nat.zero_le _, Nat.zero_le _⟩) hP hD hS hA [7, 8, 9, 10, 11] [0, 1, 2, 3, 4, 5, 6] rfl rfl rfl rfl (by decide) rfl [0, 1, 2, 3, 4, 5, 6, 7, 8, 9, 10, 11] rfl rfl (fun H locs hP hD hS hz9 => ?_)
        refine W.eq (g2 := F0 m 104 ls []) rfl ?_
        refine lv_iinc (v := nI (i + 1)) (lv' := [(6, .int (nI (i + 1))), (7, .int (wt_loss (wt_sum fs ft ff cn k t 0 sp) (wt_sum fs ft ff cn k t 1 sp))), (5, .int (wt_sum fs ft ff cn k t 1 sp)), (4, .int (wt_sum fs ft ff cn k t 0 sp)), (0, .ref h), (1, .int (nI k)), (2, .int (nI t)), (3, .int sp)]) hx hb dX3_fight_104 hl (k := 1) rfl (nI_1 i) (by decide) rfl (fun ls hl => ?_)
        refine lv_goto (tgt := 23) hx hb dX3_fight_107 (by decide) ?_
        have e12 : (wt_plT ((wt_fold (wt_fts fs k t (wt_sum fs ft ff cn k t 0 sp) (wt_sum fs ft ff cn k t 1 sp)) i (ft, ff)).1) k i (nI t) ((((wt_fold (wt_fts fs k t (wt_sum fs ft ff cn k t 0 sp) (wt_sum fs ft ff cn k t 1 sp)) i (ft, ff)).2) (k * 12 + i)) - (wt_loss (wt_sum fs ft ff cn k t 0 sp) (wt_sum fs ft ff cn k t 1 sp)))) = (wt_fold (wt_fts fs k t (wt_sum fs ft ff cn k t 0 sp) (wt_sum fs ft ff cn k t 1 sp)) (i + 1) (ft, ff)).1 := (by simp only [wt_fold_s, wt_fts, wt_pl, wt_if_t c_46_6, wt_if_t c_58_9])
        have hP : va_P (dC, dI) vwCl [(h, .inr (3, [.ref hm, .ref dp, .ref hu, .ref we, .ref se, .ref hq, .int (nI nt)])), (dp, .inl (cI, 2, .inl fd)), (we, .inl (cI, 20, .inl fw)), (se, .inl (cI, 20, .inl fe)), (hm, .inr (0, [.ref pv, .ref up, .int (nI nr)])), (pv, .inl (cI, 10, .inl fp)), (up, .inl (cI, 10, .inl fu)), (hu, .inr (2, [.ref sd, .ref tw, .ref st, .ref od, .int (nI cn)])), (sd, .inl (cI, 12, .inl fs)), (tw, .inl (cI, 264, .inl ((wt_fold (wt_fts fs k t (wt_sum fs ft ff cn k t 0 sp) (wt_sum fs ft ff cn k t 1 sp)) (i + 1) (ft, ff)).1))), (st, .inl (cI, 264, .inl (wt_plF ((wt_fold (wt_fts fs k t (wt_sum fs ft ff cn k t 0 sp) (wt_sum fs ft ff cn k t 1 sp)) i (ft, ff)).2) k i ((((wt_fold (wt_fts fs k t (wt_sum fs ft ff cn k t 0 sp) (wt_sum fs ft ff cn k t 1 sp)) i (ft, ff)).2) (k * 12 + i)) - (wt_loss (wt_sum fs ft ff cn k t 0 sp) (wt_sum fs ft ff cn k t 1 sp)))))), (od, .inl (cI, 264, .inl fo))] H := Eq.mp (congrArg (fun z9 : Nat → Int32 => va_P (dC, dI) vwCl [(h, .inr (3, [.ref hm, .ref dp, .ref hu, .ref we, .ref se, .ref hq, .int (nI nt)])), (dp, .inl (cI, 2, .inl fd)), (we, .inl (cI, 20, .inl fw)), (se, .inl (cI, 20, .inl fe)), (hm, .inr (0, [.ref pv, .ref up, .int (nI nr)])), (pv, .inl (cI, 10, .inl fp)), (up, .inl (cI, 10, .inl fu)), (hu, .inr (2, [.ref sd, .ref tw, .ref st, .ref od, .int (nI cn)])), (sd, .inl (cI, 12, .inl fs)), (tw, .inl (cI, 264, .inl z9)), (st, .inl (cI, 264, .inl (wt_plF ((wt_fold (wt_fts fs k t (wt_sum fs ft ff cn k t 0 sp) (wt_sum fs ft ff cn k t 1 sp)) i (ft, ff)).2) k i ((((wt_fold (wt_fts fs k t (wt_sum fs ft ff cn k t 0 sp) (wt_sum fs ft ff cn k t 1 sp)) i (ft, ff)).2) (k * 12 + i)) - (wt_loss (wt_sum fs ft ff cn k t 0 sp) (wt_sum fs ft ff cn k t 1 sp)))))), (od, .inl (cI, 264, .inl fo))] H) e12) hP
        have e13 : (wt_plF ((wt_fold (wt_fts fs k t (wt_sum fs ft ff cn k t 0 sp) (wt_sum fs ft ff cn k t 1 sp)) i (ft, ff)).2) k i ((((wt_fold (wt_fts fs k t (wt_sum fs ft ff cn k t 0 sp) (wt_sum fs ft ff cn k t 1 sp)) i (ft, ff)).2) (k * 12 + i)) - (wt_loss (wt_sum fs ft ff cn k t 0 sp) (wt_sum fs ft ff cn k t 1 sp)))) = (wt_fold (wt_fts fs k t (wt_sum fs ft ff cn k t 0 sp) (wt_sum fs ft ff cn k t 1 sp)) (i + 1) (ft, ff)).2 := (by simp only [wt_fold_s, wt_fts, wt_pl, wt_if_t c_46_6, wt_if_t c_58_9])
        have hP : va_P (dC, dI) vwCl [(h, .inr (3, [.ref hm, .ref dp, .ref hu, .ref we, .ref se, .ref hq, .int (nI nt)])), (dp, .inl (cI, 2, .inl fd)), (we, .inl (cI, 20, .inl fw)), (se, .inl (cI, 20, .inl fe)), (hm, .inr (0, [.ref pv, .ref up, .int (nI nr)])), (pv, .inl (cI, 10, .inl fp)), (up, .inl (cI, 10, .inl fu)), (hu, .inr (2, [.ref sd, .ref tw, .ref st, .ref od, .int (nI cn)])), (sd, .inl (cI, 12, .inl fs)), (tw, .inl (cI, 264, .inl ((wt_fold (wt_fts fs k t (wt_sum fs ft ff cn k t 0 sp) (wt_sum fs ft ff cn k t 1 sp)) (i + 1) (ft, ff)).1))), (st, .inl (cI, 264, .inl ((wt_fold (wt_fts fs k t (wt_sum fs ft ff cn k t 0 sp) (wt_sum fs ft ff cn k t 1 sp)) (i + 1) (ft, ff)).2))), (od, .inl (cI, 264, .inl fo))] H := Eq.mp (congrArg (fun z9 : Nat → Int32 => va_P (dC, dI) vwCl [(h, .inr (3, [.ref hm, .ref dp, .ref hu, .ref we, .ref se, .ref hq, .int (nI nt)])), (dp, .inl (cI, 2, .inl fd)), (we, .inl (cI, 20, .inl fw)), (se, .inl (cI, 20, .inl fe)), (hm, .inr (0, [.ref pv, .ref up, .int (nI nr)])), (pv, .inl (cI, 10, .inl fp)), (up, .inl (cI, 10, .inl fu)), (hu, .inr (2, [.ref sd, .ref tw, .ref st, .ref od, .int (nI cn)])), (sd, .inl (cI, 12, .inl fs)), (tw, .inl (cI, 264, .inl ((wt_fold (wt_fts fs k t (wt_sum fs ft ff cn k t 0 sp) (wt_sum fs ft ff cn k t 1 sp)) (i + 1) (ft, ff)).1))), (st, .inl (cI, 264, .inl z9)), (od, .inl (cI, 264, .inl fo))] H) e13) hP
        have hD : va_D A [(h, .inr (3, [.ref hm, .ref dp, .ref hu, .ref we, .ref se, .ref hq, .int (nI nt)])), (dp, .inl (cI, 2, .inl fd)), (we, .inl (cI, 20, .inl fw)), (se, .inl (cI, 20, .inl fe)), (hm, .inr (0, [.ref pv, .ref up, .int (nI nr)])), (pv, .inl (cI, 10, .inl fp)), (up, .inl (cI, 10, .inl fu)), (hu, .inr (2, [.ref sd, .ref tw, .ref st, .ref od, .int (nI cn)])), (sd, .inl (cI, 12, .inl fs)), (tw, .inl (cI, 264, .inl ((wt_fold (wt_fts fs k t (wt_sum fs ft ff cn k t 0 sp) (wt_sum fs ft ff cn k t 1 sp)) (i + 1) (ft, ff)).1))), (st, .inl (cI, 264, .inl ((wt_fold (wt_fts fs k t (wt_sum fs ft ff cn k t 0 sp) (wt_sum fs ft ff cn k t 1 sp)) (i + 1) (ft, ff)).2))), (od, .inl (cI, 264, .inl fo))] := wt_adr hD rfl
        exact ih_23 (i + 1) _ _ _ (by omega) ⟨(by omega), lv_sub hl [0, 2, 3, 4, 5, 6, 7] rfl, hP, hD, hS⟩
set_option maxHeartbeats 4000000 in
set_option maxRecDepth 100000 in
theorem k_X3_fightEverywhere (l : Launch) (dC : Nat → ClassId) (dI : Nat → Nat → Nat) (cI : ClassId) (h : Nat) (dp : Nat) (we : Nat) (se : Nat) (fd : Nat → Int32) (fw : Nat → Int32) (fe : Nat → Int32) (nt : Nat) (hm : Nat) (pv : Nat) (up : Nat) (fp : Nat → Int32) (fu : Nat → Int32) (nr : Nat) (hu : Nat) (sd : Nat) (tw : Nat) (st : Nat) (od : Nat) (fs : Nat → Int32) (ft : Nat → Int32) (ff : Nat → Int32) (fo : Nat → Int32) (cn : Nat) (hq : Nat) (k : Nat) (sp : Int32) (sz : Nat) (hcn : cn ≤ 12) (hk : k < 22) : Met l yX3_fightEverywhere wsX3_fightEverywhere ({ frames := 4, cells := 0, slots := 0, locals := 97 }) (va_Pc [.ref h, .int (nI k), .int sp] (wt_pm (dC, dI) cI [(h, .inr (3, [.ref hm, .ref dp, .ref hu, .ref we, .ref se, .ref hq, .int (nI nt)])), (dp, .inl (cI, 2, .inl fd)), (we, .inl (cI, 20, .inl fw)), (se, .inl (cI, 20, .inl fe)), (hm, .inr (0, [.ref pv, .ref up, .int (nI nr)])), (pv, .inl (cI, 10, .inl fp)), (up, .inl (cI, 10, .inl fu)), (hu, .inr (2, [.ref sd, .ref tw, .ref st, .ref od, .int (nI cn)])), (sd, .inl (cI, 12, .inl fs)), (tw, .inl (cI, 264, .inl ft)), (st, .inl (cI, 264, .inl ff)), (od, .inl (cI, 264, .inl fo))] sz)) (wt_mu none (dC, dI) [(h, .inr (3, [.ref hm, .ref dp, .ref hu, .ref we, .ref se, .ref hq, .int (nI nt)])), (dp, .inl (cI, 2, .inl fd)), (we, .inl (cI, 20, .inl fw)), (se, .inl (cI, 20, .inl fe)), (hm, .inr (0, [.ref pv, .ref up, .int (nI nr)])), (pv, .inl (cI, 10, .inl fp)), (up, .inl (cI, 10, .inl fu)), (hu, .inr (2, [.ref sd, .ref tw, .ref st, .ref od, .int (nI cn)])), (sd, .inl (cI, 12, .inl fs)), (tw, .inl (cI, 264, .inl ((wt_fev fs cn k sp (ft, ff)).1))), (st, .inl (cI, 264, .inl ((wt_fev fs cn k sp (ft, ff)).2))), (od, .inl (cI, 264, .inl fo))] (va_A [(h, .inr (3, [.ref hm, .ref dp, .ref hu, .ref we, .ref se, .ref hq, .int (nI nt)])), (dp, .inl (cI, 2, .inl fd)), (we, .inl (cI, 20, .inl fw)), (se, .inl (cI, 20, .inl fe)), (hm, .inr (0, [.ref pv, .ref up, .int (nI nr)])), (pv, .inl (cI, 10, .inl fp)), (up, .inl (cI, 10, .inl fu)), (hu, .inr (2, [.ref sd, .ref tw, .ref st, .ref od, .int (nI cn)])), (sd, .inl (cI, 12, .inl fs)), (tw, .inl (cI, 264, .inl ft)), (st, .inl (cI, 264, .inl ff)), (od, .inl (cI, 264, .inl fo))] sz)) 0 0 (va_A [(h, .inr (3, [.ref hm, .ref dp, .ref hu, .ref we, .ref se, .ref hq, .int (nI nt)])), (dp, .inl (cI, 2, .inl fd)), (we, .inl (cI, 20, .inl fw)), (se, .inl (cI, 20, .inl fe)), (hm, .inr (0, [.ref pv, .ref up, .int (nI nr)])), (pv, .inl (cI, 10, .inl fp)), (up, .inl (cI, 10, .inl fu)), (hu, .inr (2, [.ref sd, .ref tw, .ref st, .ref od, .int (nI cn)])), (sd, .inl (cI, 12, .inl fs)), (tw, .inl (cI, 264, .inl ft)), (st, .inl (cI, 264, .inl ff)), (od, .inl (cI, 264, .inl fo))] sz) := by
  refine Met.ofW (cc := cX3_fightEverywhere) (maxL := 5) (ret := none) (by decide) rfl ?_
  intro p e s m args below meth c s₁ B hml hv
  obtain ⟨rfl, hsz, ⟨hP, hK, hN⟩, hD0⟩ := hv
  have hx := B.exec
  have hb := B.bytes
  have hr := B.returns
  have hts := atoms_spec (ws := wsX3_fightEverywhere) B.pre
  have hown : s.vm.findClass RX3 = some m.cls := findClass_of_methodNamed B.named
  have hlocks := B.notSynchronized
  subst hsz
  have hD := hD0.self (sz := s.heap.size)
  generalize hAe : va_A [(h, .inr (3, [.ref hm, .ref dp, .ref hu, .ref we, .ref se, .ref hq, .int (nI nt)])), (dp, .inl (cI, 2, .inl fd)), (we, .inl (cI, 20, .inl fw)), (se, .inl (cI, 20, .inl fe)), (hm, .inr (0, [.ref pv, .ref up, .int (nI nr)])), (pv, .inl (cI, 10, .inl fp)), (up, .inl (cI, 10, .inl fu)), (hu, .inr (2, [.ref sd, .ref tw, .ref st, .ref od, .int (nI cn)])), (sd, .inl (cI, 12, .inl fs)), (tw, .inl (cI, 264, .inl ft)), (st, .inl (cI, 264, .inl ff)), (od, .inl (cI, 264, .inl fo))] s.heap.size = A at hD ⊢
  have hA : ∀ q : Nat, s.heap.size ≤ q → A q := fun q h => by rw [← hAe]; exact Or.inr h
  have hS : va_S A s.heap s.heap [] := va_S.rf
  have inX2 : ∀ w ∈ wsX20, w ∈ wsX3_fightEverywhere := wt_in [70, 71, 72, 73, 74] (by decide +kernel)
  have inX3 : ∀ w ∈ wsX30, w ∈ wsX3_fightEverywhere := wt_in [63, 64, 65, 66, 67, 68, 69] (by decide +kernel)
  have hl := lv_entry ([.ref h, .int (nI k), .int sp]) (n := 5) (Nat.le_of_ble_eq_true rfl)
  rw [lg_entry_eq]
  generalize (lg_sl ([.ref h, .int (nI k), .int sp]) ++ List.replicate (5 - (lg_sl ([.ref h, .int (nI k), .int sp])).length) Slot.unset).toArray = ls at hl ⊢
  have hl : lv_has ls 5 [(0, .ref h), (1, .int (nI k)), (2, .int sp)] := hl
  refine lv_aload_n hx hb dX3_fightEverywhere_0 rfl (lv_at hl 0 rfl) ?_
  refine va_get (D := (dC, dI)) (ci := 3) (v := .ref hu) (C := RX3) (T := TX3) (N := 7) hx hb hts inX3 hown hK hP 0 rfl rfl 2 (by decide) (hts (.fieldLink RX3 23 "WarTable" "units" "LWarTable$Units;") (List.mem_of_getElem? (i := 1) rfl)) (fun _ h9 => h9) rfl dX3_fightEverywhere_1 ?_
  refine lv_iload_n hx hb dX3_fightEverywhere_4 rfl (lv_at hl 1 rfl) ?_
  refine lv_iconst (v := nI 0) hx hb dX3_fightEverywhere_5 (by decide +kernel) ?_
  refine wt_ro_go (va_runV (As := [.int (nI k), .int (nI 0)]) (rest := []) ⟨hx, hb, hml, hown, hts⟩ (k_X2_townsHeld l dC dI cI hu sd tw st od fs ft ff fo cn k 0 (by omega) (by omega)) (cwV 2 hts gX3_fightEverywhere_X2_townsHeld rfl rfl rfl (by decide +kernel) ⟨Nat.le_of_ble_eq_true rfl, Nat.le_of_ble_eq_true rfl⟩) (wt_PV (C := RX2) (T := TX2) (N := 5) (ci := 2) (q0 := 7) hK hP hN rfl rfl [7, 8, 9, 10, 11] rfl) rfl rfl hl.1 rfl (lv_room (Nat.le_of_ble_eq_true rfl)) dX3_fightEverywhere_6 ⟨Nat.zero_le _, Nat.zero_le _⟩) ?_
  refine lv_aload_n hx hb dX3_fightEverywhere_9 rfl (lv_at hl 0 rfl) ?_
  refine va_get (D := (dC, dI)) (ci := 3) (v := .ref hu) (C := RX3) (T := TX3) (N := 7) hx hb hts inX3 hown hK hP 0 rfl rfl 2 (by decide) (hts (.fieldLink RX3 23 "WarTable" "units" "LWarTable$Units;") (List.mem_of_getElem? (i := 1) rfl)) (fun _ h9 => h9) rfl dX3_fightEverywhere_10 ?_
  refine lv_iload_n hx hb dX3_fightEverywhere_13 rfl (lv_at hl 1 rfl) ?_
  refine lv_iconst (v := nI 1) hx hb dX3_fightEverywhere_14 (by decide +kernel) ?_
  refine wt_ro_go (va_runV (As := [.int (nI k), .int (nI 1)]) (rest := [.int (wt_held fs ft k 0 cn)]) ⟨hx, hb, hml, hown, hts⟩ (k_X2_townsHeld l dC dI cI hu sd tw st od fs ft ff fo cn k 1 (by omega) (by omega)) (cwV 2 hts gX3_fightEverywhere_X2_townsHeld rfl rfl rfl (by decide +kernel) ⟨Nat.le_of_ble_eq_true rfl, Nat.le_of_ble_eq_true rfl⟩) (wt_PV (C := RX2) (T := TX2) (N := 5) (ci := 2) (q0 := 7) hK hP hN rfl rfl [7, 8, 9, 10, 11] rfl) rfl rfl hl.1 rfl (lv_room (Nat.le_of_ble_eq_true rfl)) dX3_fightEverywhere_15 ⟨Nat.zero_le _, Nat.zero_le _⟩) ?_
  refine lv_iand hx hb dX3_fightEverywhere_18 ?_
  refine lv_istore_n (lv' := [(3, .int ((wt_held fs ft k 0 cn) &&& (wt_held fs ft k 1 cn))), (0, .ref h), (1, .int (nI k)), (2, .int sp)]) hx hb dX3_fightEverywhere_19 rfl hl (by decide) rfl (fun ls hl => ?_)
  refine lv_iconst (v := nI 0) hx hb dX3_fightEverywhere_20 (by decide +kernel) ?_
  refine lv_istore (lv' := [(4, .int (nI 0)), (3, .int ((wt_held fs ft k 0 cn) &&& (wt_held fs ft k 1 cn))), (0, .ref h), (1, .int (nI k)), (2, .int sp)]) hx hb dX3_fightEverywhere_21 hl (by decide) rfl (fun ls hl => ?_)
  have e1 : ft = (wt_fold (wt_fes fs cn k sp (wt_held fs ft k 0 cn &&& wt_held fs ft k 1 cn)) 0 (ft, ff)).1 := rfl
  have hP : va_P (dC, dI) vwCl [(h, .inr (3, [.ref hm, .ref dp, .ref hu, .ref we, .ref se, .ref hq, .int (nI nt)])), (dp, .inl (cI, 2, .inl fd)), (we, .inl (cI, 20, .inl fw)), (se, .inl (cI, 20, .inl fe)), (hm, .inr (0, [.ref pv, .ref up, .int (nI nr)])), (pv, .inl (cI, 10, .inl fp)), (up, .inl (cI, 10, .inl fu)), (hu, .inr (2, [.ref sd, .ref tw, .ref st, .ref od, .int (nI cn)])), (sd, .inl (cI, 12, .inl fs)), (tw, .inl (cI, 264, .inl ((wt_fold (wt_fes fs cn k sp (wt_held fs ft k 0 cn &&& wt_held fs ft k 1 cn)) 0 (ft, ff)).1))), (st, .inl (cI, 264, .inl ff)), (od, .inl (cI, 264, .inl fo))] s.heap := Eq.mp (congrArg (fun z9 : Nat → Int32 => va_P (dC, dI) vwCl [(h, .inr (3, [.ref hm, .ref dp, .ref hu, .ref we, .ref se, .ref hq, .int (nI nt)])), (dp, .inl (cI, 2, .inl fd)), (we, .inl (cI, 20, .inl fw)), (se, .inl (cI, 20, .inl fe)), (hm, .inr (0, [.ref pv, .ref up, .int (nI nr)])), (pv, .inl (cI, 10, .inl fp)), (up, .inl (cI, 10, .inl fu)), (hu, .inr (2, [.ref sd, .ref tw, .ref st, .ref od, .int (nI cn)])), (sd, .inl (cI, 12, .inl fs)), (tw, .inl (cI, 264, .inl z9)), (st, .inl (cI, 264, .inl ff)), (od, .inl (cI, 264, .inl fo))] s.heap) e1) hP
  have e2 : ff = (wt_fold (wt_fes fs cn k sp (wt_held fs ft k 0 cn &&& wt_held fs ft k 1 cn)) 0 (ft, ff)).2 := rfl
  have hP : va_P (dC, dI) vwCl [(h, .inr (3, [.ref hm, .ref dp, .ref hu, .ref we, .ref se, .ref hq, .int (nI nt)])), (dp, .inl (cI, 2, .inl fd)), (we, .inl (cI, 20, .inl fw)), (se, .inl (cI, 20, .inl fe)), (hm, .inr (0, [.ref pv, .ref up, .int (nI nr)])), (pv, .inl (cI, 10, .inl fp)), (up, .inl (cI, 10, .inl fu)), (hu, .inr (2, [.ref sd, .ref tw, .ref st, .ref od, .int (nI cn)])), (sd, .inl (cI, 12, .inl fs)), (tw, .inl (cI, 264, .inl ((wt_fold (wt_fes fs cn k sp (wt_held fs ft k 0 cn &&& wt_held fs ft k 1 cn)) 0 (ft, ff)).1))), (st, .inl (cI, 264, .inl ((wt_fold (wt_fes fs cn k sp (wt_held fs ft k 0 cn &&& wt_held fs ft k 1 cn)) 0 (ft, ff)).2))), (od, .inl (cI, 264, .inl fo))] s.heap := Eq.mp (congrArg (fun z9 : Nat → Int32 => va_P (dC, dI) vwCl [(h, .inr (3, [.ref hm, .ref dp, .ref hu, .ref we, .ref se, .ref hq, .int (nI nt)])), (dp, .inl (cI, 2, .inl fd)), (we, .inl (cI, 20, .inl fw)), (se, .inl (cI, 20, .inl fe)), (hm, .inr (0, [.ref pv, .ref up, .int (nI nr)])), (pv, .inl (cI, 10, .inl fp)), (up, .inl (cI, 10, .inl fu)), (hu, .inr (2, [.ref sd, .ref tw, .ref st, .ref od, .int (nI cn)])), (sd, .inl (cI, 12, .inl fs)), (tw, .inl (cI, 264, .inl ((wt_fold (wt_fes fs cn k sp (wt_held fs ft k 0 cn &&& wt_held fs ft k 1 cn)) 0 (ft, ff)).1))), (st, .inl (cI, 264, .inl z9)), (od, .inl (cI, 264, .inl fo))] s.heap) e2) hP
  have hD : va_D A [(h, .inr (3, [.ref hm, .ref dp, .ref hu, .ref we, .ref se, .ref hq, .int (nI nt)])), (dp, .inl (cI, 2, .inl fd)), (we, .inl (cI, 20, .inl fw)), (se, .inl (cI, 20, .inl fe)), (hm, .inr (0, [.ref pv, .ref up, .int (nI nr)])), (pv, .inl (cI, 10, .inl fp)), (up, .inl (cI, 10, .inl fu)), (hu, .inr (2, [.ref sd, .ref tw, .ref st, .ref od, .int (nI cn)])), (sd, .inl (cI, 12, .inl fs)), (tw, .inl (cI, 264, .inl ((wt_fold (wt_fes fs cn k sp (wt_held fs ft k 0 cn &&& wt_held fs ft k 1 cn)) 0 (ft, ff)).1))), (st, .inl (cI, 264, .inl ((wt_fold (wt_fes fs cn k sp (wt_held fs ft k 0 cn &&& wt_held fs ft k 1 cn)) 0 (ft, ff)).2))), (od, .inl (cI, 264, .inl fo))] := wt_adr hD rfl
  refine wt_lpM (σ := Nat) 0 (fun i => 10 - i) (fun i ls H locs => (i ≤ 10) ∧ lv_has ls 5 [(4, .int (nI i)), (3, .int ((wt_held fs ft k 0 cn) &&& (wt_held fs ft k 1 cn))), (0, .ref h), (1, .int (nI k)), (2, .int sp)] ∧ va_P (dC, dI) vwCl [(h, .inr (3, [.ref hm, .ref dp, .ref hu, .ref we, .ref se, .ref hq, .int (nI nt)])), (dp, .inl (cI, 2, .inl fd)), (we, .inl (cI, 20, .inl fw)), (se, .inl (cI, 20, .inl fe)), (hm, .inr (0, [.ref pv, .ref up, .int (nI nr)])), (pv, .inl (cI, 10, .inl fp)), (up, .inl (cI, 10, .inl fu)), (hu, .inr (2, [.ref sd, .ref tw, .ref st, .ref od, .int (nI cn)])), (sd, .inl (cI, 12, .inl fs)), (tw, .inl (cI, 264, .inl ((wt_fold (wt_fes fs cn k sp (wt_held fs ft k 0 cn &&& wt_held fs ft k 1 cn)) i (ft, ff)).1))), (st, .inl (cI, 264, .inl ((wt_fold (wt_fes fs cn k sp (wt_held fs ft k 0 cn &&& wt_held fs ft k 1 cn)) i (ft, ff)).2))), (od, .inl (cI, 264, .inl fo))] H ∧ va_D A [(h, .inr (3, [.ref hm, .ref dp, .ref hu, .ref we, .ref se, .ref hq, .int (nI nt)])), (dp, .inl (cI, 2, .inl fd)), (we, .inl (cI, 20, .inl fw)), (se, .inl (cI, 20, .inl fe)), (hm, .inr (0, [.ref pv, .ref up, .int (nI nr)])), (pv, .inl (cI, 10, .inl fp)), (up, .inl (cI, 10, .inl fu)), (hu, .inr (2, [.ref sd, .ref tw, .ref st, .ref od, .int (nI cn)])), (sd, .inl (cI, 12, .inl fs)), (tw, .inl (cI, 264, .inl ((wt_fold (wt_fes fs cn k sp (wt_held fs ft k 0 cn &&& wt_held fs ft k 1 cn)) i (ft, ff)).1))), (st, .inl (cI, 264, .inl ((wt_fold (wt_fes fs cn k sp (wt_held fs ft k 0 cn &&& wt_held fs ft k 1 cn)) i (ft, ff)).2))), (od, .inl (cI, 264, .inl fo))] ∧ va_S A s.heap H locs) ⟨(by omega), lv_sub hl [0, 1, 2, 3, 4] rfl, hP, hD, hS⟩ (fun i ls H locs h9 ih_23 => ?_)
  obtain ⟨h_23_0, hl, hP, hD, hS⟩ := h9
  refine lv_iload hx hb dX3_fightEverywhere_23 (lv_at hl 0 rfl) ?_
  refine lv_bipush (v := nI 10) hx hb dX3_fightEverywhere_25 (by decide +kernel) ?_
  refine wt_icmp_ge (tgt := 53) hx hb (by omega) (by omega) dX3_fightEverywhere_27 (by decide) (fun c_27_3 => ?_) (fun c_27_3 => ?_)
  · have e4 : (wt_fold (wt_fes fs cn k sp (wt_held fs ft k 0 cn &&& wt_held fs ft k 1 cn)) i (ft, ff)).1 = (wt_fev fs cn k sp (ft, ff)).1 := (by rw [show i = 10 by omega]; rfl)
    have hP : va_P (dC, dI) vwCl [(h, .inr (3, [.ref hm, .ref dp, .ref hu, .ref we, .ref se, .ref hq, .int (nI nt)])), (dp, .inl (cI, 2, .inl fd)), (we, .inl (cI, 20, .inl fw)), (se, .inl (cI, 20, .inl fe)), (hm, .inr (0, [.ref pv, .ref up, .int (nI nr)])), (pv, .inl (cI, 10, .inl fp)), (up, .inl (cI, 10, .inl fu)), (hu, .inr (2, [.ref sd, .ref tw, .ref st, .ref od, .int (nI cn)])), (sd, .inl (cI, 12, .inl fs)), (tw, .inl (cI, 264, .inl ((wt_fev fs cn k sp (ft, ff)).1))), (st, .inl (cI, 264, .inl ((wt_fold (wt_fes fs cn k sp (wt_held fs ft k 0 cn &&& wt_held fs ft k 1 cn)) i (ft, ff)).2))), (od, .inl (cI, 264, .inl fo))] H := Eq.mp (congrArg (fun z9 : Nat → Int32 => va_P (dC, dI) vwCl [(h, .inr (3, [.ref hm, .ref dp, .ref hu, .ref we, .ref se, .ref hq, .int (nI nt)])), (dp, .inl (cI, 2, .inl fd)), (we, .inl (cI, 20, .inl fw)), (se, .inl (cI, 20, .inl fe)), (hm, .inr (0, [.ref pv, .ref up, .int (nI nr)])), (pv, .inl (cI, 10, .inl fp)), (up, .inl (cI, 10, .inl fu)), (hu, .inr (2, [.ref sd, .ref tw, .ref st, .ref od, .int (nI cn)])), (sd, .inl (cI, 12, .inl fs)), (tw, .inl (cI, 264, .inl z9)), (st, .inl (cI, 264, .inl ((wt_fold (wt_fes fs cn k sp (wt_held fs ft k 0 cn &&& wt_held fs ft k 1 cn)) i (ft, ff)).2))), (od, .inl (cI, 264, .inl fo))] H) e4) hP
    have e5 : (wt_fold (wt_fes fs cn k sp (wt_held fs ft k 0 cn &&& wt_held fs ft k 1 cn)) i (ft, ff)).2 = (wt_fev fs cn k sp (ft, ff)).2 := (by rw [show i = 10 by omega]; rfl)
    have hP : va_P (dC, dI) vwCl [(h, .inr (3, [.ref hm, .ref dp, .ref hu, .ref we, .ref se, .ref hq, .int (nI nt)])), (dp, .inl (cI, 2, .inl fd)), (we, .inl (cI, 20, .inl fw)), (se, .inl (cI, 20, .inl fe)), (hm, .inr (0, [.ref pv, .ref up, .int (nI nr)])), (pv, .inl (cI, 10, .inl fp)), (up, .inl (cI, 10, .inl fu)), (hu, .inr (2, [.ref sd, .ref tw, .ref st, .ref od, .int (nI cn)])), (sd, .inl (cI, 12, .inl fs)), (tw, .inl (cI, 264, .inl ((wt_fev fs cn k sp (ft, ff)).1))), (st, .inl (cI, 264, .inl ((wt_fev fs cn k sp (ft, ff)).2))), (od, .inl (cI, 264, .inl fo))] H := Eq.mp (congrArg (fun z9 : Nat → Int32 => va_P (dC, dI) vwCl [(h, .inr (3, [.ref hm, .ref dp, .ref hu, .ref we, .ref se, .ref hq, .int (nI nt)])), (dp, .inl (cI, 2, .inl fd)), (we, .inl (cI, 20, .inl fw)), (se, .inl (cI, 20, .inl fe)), (hm, .inr (0, [.ref pv, .ref up, .int (nI nr)])), (pv, .inl (cI, 10, .inl fp)), (up, .inl (cI, 10, .inl fu)), (hu, .inr (2, [.ref sd, .ref tw, .ref st, .ref od, .int (nI cn)])), (sd, .inl (cI, 12, .inl fs)), (tw, .inl (cI, 264, .inl ((wt_fev fs cn k sp (ft, ff)).1))), (st, .inl (cI, 264, .inl z9)), (od, .inl (cI, 264, .inl fo))] H) e5) hP
    have hD : va_D A [(h, .inr (3, [.ref hm, .ref dp, .ref hu, .ref we, .ref se, .ref hq, .int (nI nt)])), (dp, .inl (cI, 2, .inl fd)), (we, .inl (cI, 20, .inl fw)), (se, .inl (cI, 20, .inl fe)), (hm, .inr (0, [.ref pv, .ref up, .int (nI nr)])), (pv, .inl (cI, 10, .inl fp)), (up, .inl (cI, 10, .inl fu)), (hu, .inr (2, [.ref sd, .ref tw, .ref st, .ref od, .int (nI cn)])), (sd, .inl (cI, 12, .inl fs)), (tw, .inl (cI, 264, .inl ((wt_fev fs cn k sp (ft, ff)).1))), (st, .inl (cI, 264, .inl ((wt_fev fs cn k sp (ft, ff)).2))), (od, .inl (cI, 264, .inl fo))] := wt_adr hD rfl
    exact wt_mvret hx hb hr hP hS dX3_fightEverywhere_53 hlocks
  · refine lv_iload_n hx hb dX3_fightEverywhere_30 rfl (lv_at hl 1 rfl) ?_
    refine lv_iload hx hb dX3_fightEverywhere_31 (lv_at hl 0 rfl) ?_
    refine wt_ro_go (va_runS (As := [.int ((wt_held fs ft k 0 cn) &&& (wt_held fs ft k 1 cn)), .int (nI i)]) (rest := []) ⟨hx, hb, hml, hown, hts⟩ (k_X3_has l ((wt_held fs ft k 0 cn) &&& (wt_held fs ft k 1 cn)) (nI i)) (va_cwS 2 hts gX3_fightEverywhere_X3_has rfl rfl rfl (by decide +kernel) ⟨Nat.le_of_ble_eq_true rfl, Nat.le_of_ble_eq_true rfl⟩) wt_PS rfl rfl hl.1 rfl (lv_room (Nat.le_of_ble_eq_true rfl)) dX3_fightEverywhere_33 ⟨Nat.zero_le _, Nat.zero_le _⟩) ?_
    refine wt_if_eqB (tgt := 47) hx hb dX3_fightEverywhere_36 (by decide) (fun c_36_6 => ?_) (fun c_36_6 => ?_)
    · refine lv_iinc (v := nI (i + 1)) (lv' := [(4, .int (nI (i + 1))), (3, .int ((wt_held fs ft k 0 cn) &&& (wt_held fs ft k 1 cn))), (0, .ref h), (1, .int (nI k)), (2, .int sp)]) hx hb dX3_fightEverywhere_47 hl (k := 0) rfl (nI_1 i) (by decide) rfl (fun ls hl => ?_)
      refine lv_goto (tgt := 23) hx hb dX3_fightEverywhere_50 (by decide) ?_
      have e7 : (wt_fold (wt_fes fs cn k sp (wt_held fs ft k 0 cn &&& wt_held fs ft k 1 cn)) i (ft, ff)).1 = (wt_fold (wt_fes fs cn k sp (wt_held fs ft k 0 cn &&& wt_held fs ft k 1 cn)) (i + 1) (ft, ff)).1 := (by simp only [wt_fold_s, wt_fes, wt_eta, wt_if_f c_36_6])
      have hP : va_P (dC, dI) vwCl [(h, .inr (3, [.ref hm, .ref dp, .ref hu, .ref we, .ref se, .ref hq, .int (nI nt)])), (dp, .inl (cI, 2, .inl fd)), (we, .inl (cI, 20, .inl fw)), (se, .inl (cI, 20, .inl fe)), (hm, .inr (0, [.ref pv, .ref up, .int (nI nr)])), (pv, .inl (cI, 10, .inl fp)), (up, .inl (cI, 10, .inl fu)), (hu, .inr (2, [.ref sd, .ref tw, .ref st, .ref od, .int (nI cn)])), (sd, .inl (cI, 12, .inl fs)), (tw, .inl (cI, 264, .inl ((wt_fold (wt_fes fs cn k sp (wt_held fs ft k 0 cn &&& wt_held fs ft k 1 cn)) (i + 1) (ft, ff)).1))), (st, .inl (cI, 264, .inl ((wt_fold (wt_fes fs cn k sp (wt_held fs ft k 0 cn &&& wt_held fs ft k 1 cn)) i (ft, ff)).2))), (od, .inl (cI, 264, .inl fo))] H := Eq.mp (congrArg (fun z9 : Nat → Int32 => va_P (dC, dI) vwCl [(h, .inr (3, [.ref hm, .ref dp, .ref hu, .ref we, .ref se, .ref hq, .int (nI nt)])), (dp, .inl (cI, 2, .inl fd)), (we, .inl (cI, 20, .inl fw)), (se, .inl (cI, 20, .inl fe)), (hm, .inr (0, [.ref pv, .ref up, .int (nI nr)])), (pv, .inl (cI, 10, .inl fp)), (up, .inl (cI, 10, .inl fu)), (hu, .inr (2, [.ref sd, .ref tw, .ref st, .ref od, .int (nI cn)])), (sd, .inl (cI, 12, .inl fs)), (tw, .inl (cI, 264, .inl z9)), (st, .inl (cI, 264, .inl ((wt_fold (wt_fes fs cn k sp (wt_held fs ft k 0 cn &&& wt_held fs ft k 1 cn)) i (ft, ff)).2))), (od, .inl (cI, 264, .inl fo))] H) e7) hP
      have e8 : (wt_fold (wt_fes fs cn k sp (wt_held fs ft k 0 cn &&& wt_held fs ft k 1 cn)) i (ft, ff)).2 = (wt_fold (wt_fes fs cn k sp (wt_held fs ft k 0 cn &&& wt_held fs ft k 1 cn)) (i + 1) (ft, ff)).2 := (by simp only [wt_fold_s, wt_fes, wt_eta, wt_if_f c_36_6])
      have hP : va_P (dC, dI) vwCl [(h, .inr (3, [.ref hm, .ref dp, .ref hu, .ref we, .ref se, .ref hq, .int (nI nt)])), (dp, .inl (cI, 2, .inl fd)), (we, .inl (cI, 20, .inl fw)), (se, .inl (cI, 20, .inl fe)), (hm, .inr (0, [.ref pv, .ref up, .int (nI nr)])), (pv, .inl (cI, 10, .inl fp)), (up, .inl (cI, 10, .inl fu)), (hu, .inr (2, [.ref sd, .ref tw, .ref st, .ref od, .int (nI cn)])), (sd, .inl (cI, 12, .inl fs)), (tw, .inl (cI, 264, .inl ((wt_fold (wt_fes fs cn k sp (wt_held fs ft k 0 cn &&& wt_held fs ft k 1 cn)) (i + 1) (ft, ff)).1))), (st, .inl (cI, 264, .inl ((wt_fold (wt_fes fs cn k sp (wt_held fs ft k 0 cn &&& wt_held fs ft k 1 cn)) (i + 1) (ft, ff)).2))), (od, .inl (cI, 264, .inl fo))] H := Eq.mp (congrArg (fun z9 : Nat → Int32 => va_P (dC, dI) vwCl [(h, .inr (3, [.ref hm, .ref dp, .ref hu, .ref we, .ref se, .ref hq, .int (nI nt)])), (dp, .inl (cI, 2, .inl fd)), (we, .inl (cI, 20, .inl fw)), (se, .inl (cI, 20, .inl fe)), (hm, .inr (0, [.ref pv, .ref up, .int (nI nr)])), (pv, .inl (cI, 10, .inl fp)), (up, .inl (cI, 10, .inl fu)), (hu, .inr (2, [.ref sd, .ref tw, .ref st, .ref od, .int (nI cn)])), (sd, .inl (cI, 12, .inl fs)), (tw, .inl (cI, 264, .inl ((wt_fold (wt_fes fs cn k sp (wt_held fs ft k 0 cn &&& wt_held fs ft k 1 cn)) (i + 1) (ft, ff)).1))), (st, .inl (cI, 264, .inl z9)), (od, .inl (cI, 264, .inl fo))] H) e8) hP
      have hD : va_D A [(h, .inr (3, [.ref hm, .ref dp, .ref hu, .ref we, .ref se, .ref hq, .int (nI nt)])), (dp, .inl (cI, 2, .inl fd)), (we, .inl (cI, 20, .inl fw)), (se, .inl (cI, 20, .inl fe)), (hm, .inr (0, [.ref pv, .ref up, .int (nI nr)])), (pv, .inl (cI, 10, .inl fp)), (up, .inl (cI, 10, .inl fu)), (hu, .inr (2, [.ref sd, .ref tw, .ref st, .ref od, .int (nI cn)])), (sd, .inl (cI, 12, .inl fs)), (tw, .inl (cI, 264, .inl ((wt_fold (wt_fes fs cn k sp (wt_held fs ft k 0 cn &&& wt_held fs ft k 1 cn)) (i + 1) (ft, ff)).1))), (st, .inl (cI, 264, .inl ((wt_fold (wt_fes fs cn k sp (wt_held fs ft k 0 cn &&& wt_held fs ft k 1 cn)) (i + 1) (ft, ff)).2))), (od, .inl (cI, 264, .inl fo))] := wt_adr hD rfl
      exact ih_23 (i + 1) _ _ _ (by omega) ⟨(by omega), lv_sub hl [0, 1, 2, 3, 4] rfl, hP, hD, hS⟩
    · refine lv_aload_n hx hb dX3_fightEverywhere_39 rfl (lv_at hl 2 rfl) ?_
      refine lv_iload_n hx hb dX3_fightEverywhere_40 rfl (lv_at hl 3 rfl) ?_
      refine lv_iload hx hb dX3_fightEverywhere_41 (lv_at hl 0 rfl) ?_
      refine lv_iload_n hx hb dX3_fightEverywhere_43 rfl (lv_at hl 4 rfl) ?_
      refine wt_mu_go (w1 := [(h, .inr (3, [.ref hm, .ref dp, .ref hu, .ref we, .ref se, .ref hq, .int (nI nt)])), (dp, .inl (cI, 2, .inl fd)), (we, .inl (cI, 20, .inl fw)), (se, .inl (cI, 20, .inl fe)), (hm, .inr (0, [.ref pv, .ref up, .int (nI nr)])), (pv, .inl (cI, 10, .inl fp)), (up, .inl (cI, 10, .inl fu)), (hu, .inr (2, [.ref sd, .ref tw, .ref st, .ref od, .int (nI cn)])), (sd, .inl (cI, 12, .inl fs)), (tw, .inl (cI, 264, .inl ((wt_fgt fs cn k i sp (((wt_fold (wt_fes fs cn k sp (wt_held fs ft k 0 cn &&& wt_held fs ft k 1 cn)) i (ft, ff)).1), ((wt_fold (wt_fes fs cn k sp (wt_held fs ft k 0 cn &&& wt_held fs ft k 1 cn)) i (ft, ff)).2))).1))), (st, .inl (cI, 264, .inl ((wt_fgt fs cn k i sp (((wt_fold (wt_fes fs cn k sp (wt_held fs ft k 0 cn &&& wt_held fs ft k 1 cn)) i (ft, ff)).1), ((wt_fold (wt_fes fs cn k sp (wt_held fs ft k 0 cn &&& wt_held fs ft k 1 cn)) i (ft, ff)).2))).2))), (od, .inl (cI, 264, .inl fo))]) (w2 := [(h, .inr (3, [.ref hm, .ref dp, .ref hu, .ref we, .ref se, .ref hq, .int (nI nt)])), (dp, .inl (cI, 2, .inl fd)), (we, .inl (cI, 20, .inl fw)), (se, .inl (cI, 20, .inl fe)), (hm, .inr (0, [.ref pv, .ref up, .int (nI nr)])), (pv, .inl (cI, 10, .inl fp)), (up, .inl (cI, 10, .inl fu)), (hu, .inr (2, [.ref sd, .ref tw, .ref st, .ref od, .int (nI cn)])), (sd, .inl (cI, 12, .inl fs)), (tw, .inl (cI, 264, .inl ((wt_fgt fs cn k i sp (((wt_fold (wt_fes fs cn k sp (wt_held fs ft k 0 cn &&& wt_held fs ft k 1 cn)) i (ft, ff)).1), ((wt_fold (wt_fes fs cn k sp (wt_held fs ft k 0 cn &&& wt_held fs ft k 1 cn)) i (ft, ff)).2))).1))), (st, .inl (cI, 264, .inl ((wt_fgt fs cn k i sp (((wt_fold (wt_fes fs cn k sp (wt_held fs ft k 0 cn &&& wt_held fs ft k 1 cn)) i (ft, ff)).1), ((wt_fold (wt_fes fs cn k sp (wt_held fs ft k 0 cn &&& wt_held fs ft k 1 cn)) i (ft, ff)).2))).2))), (od, .inl (cI, 264, .inl fo))]) (wr := []) (va_runV (As := [.int (nI k), .int (nI i), .int sp]) (rest := []) ⟨hx, hb, hml, hown, hts⟩ (k_X3_fight l dC dI cI h dp we se fd fw fe nt hm pv up fp fu nr hu sd tw st od fs ((wt_fold (wt_fes fs cn k sp (wt_held fs ft k 0 cn &&& wt_held fs ft k 1 cn)) i (ft, ff)).1) ((wt_fold (wt_fes fs cn k sp (wt_held fs ft k 0 cn &&& wt_held fs ft k 1 cn)) i (ft, ff)).2) fo cn hq k i sp H.size (by omega) (by omega)) (cwV 3 hts gX3_fightEverywhere_X3_fight rfl rfl rfl (by decide +kernel) ⟨Nat.le_of_ble_eq_true rfl, Nat.le_of_ble_eq_true rfl⟩) (wt_PVM (C := RX3) (T := TX3) (N := 7) (ci := 3) (q0 := 0) hK hP hN hD rfl rfl [0, 1, 2, 3, 4, 5, 6, 7, 8, 9, 10, 11] rfl rfl) rfl rfl hl.1 rfl (lv_room (Nat.le_of_ble_eq_true rfl)) dX3_fightEverywhere_44 ⟨Nat.zero_le _, Nat.zero_le _⟩) hP hD hS hA [0, 1, 2, 3, 4, 5, 6, 7, 8, 9, 10, 11] [] rfl rfl rfl rfl (by decide) rfl [0, 1, 2, 3, 4, 5, 6, 7, 8, 9, 10, 11] rfl rfl (fun H locs hP hD hS hz9 => ?_)
      refine W.eq (g2 := F0 m 47 ls []) rfl ?_
      refine lv_iinc (v := nI (i + 1)) (lv' := [(4, .int (nI (i + 1))), (3, .int ((wt_held fs ft k 0 cn) &&& (wt_held fs ft k 1 cn))), (0, .ref h), (1, .int (nI k)), (2, .int sp)]) hx hb dX3_fightEverywhere_47 hl (k := 0) rfl (nI_1 i) (by decide) rfl (fun ls hl => ?_)
      refine lv_goto (tgt := 23) hx hb dX3_fightEverywhere_50 (by decide) ?_
      have e9 : (wt_fgt fs cn k i sp (((wt_fold (wt_fes fs cn k sp (wt_held fs ft k 0 cn &&& wt_held fs ft k 1 cn)) i (ft, ff)).1), ((wt_fold (wt_fes fs cn k sp (wt_held fs ft k 0 cn &&& wt_held fs ft k 1 cn)) i (ft, ff)).2))).1 = (wt_fold (wt_fes fs cn k sp (wt_held fs ft k 0 cn &&& wt_held fs ft k 1 cn)) (i + 1) (ft, ff)).1 := (by simp only [wt_fold_s, wt_fes, wt_eta, wt_if_t c_36_6])
      have hP : va_P (dC, dI) vwCl [(h, .inr (3, [.ref hm, .ref dp, .ref hu, .ref we, .ref se, .ref hq, .int (nI nt)])), (dp, .inl (cI, 2, .inl fd)), (we, .inl (cI, 20, .inl fw)), (se, .inl (cI, 20, .inl fe)), (hm, .inr (0, [.ref pv, .ref up, .int (nI nr)])), (pv, .inl (cI, 10, .inl fp)), (up, .inl (cI, 10, .inl fu)), (hu, .inr (2, [.ref sd, .ref tw, .ref st, .ref od, .int (nI cn)])), (sd, .inl (cI, 12, .inl fs)), (tw, .inl (cI, 264, .inl ((wt_fold (wt_fes fs cn k sp (wt_held fs ft k 0 cn &&& wt_held fs ft k 1 cn)) (i + 1) (ft, ff)).1))), (st, .inl (cI, 264, .inl ((wt_fgt fs cn k i sp (((wt_fold (wt_fes fs cn k sp (wt_held fs ft k 0 cn &&& wt_held fs ft k 1 cn)) i (ft, ff)).1), ((wt_fold (wt_fes fs cn k sp (wt_held fs ft k 0 cn &&& wt_held fs ft k 1 cn)) i (ft, ff)).2))).2))), (od, .inl (cI, 264, .inl fo))] H := Eq.mp (congrArg (fun z9 : Nat → Int32 => va_P (dC, dI) vwCl [(h, .inr (3, [.ref hm, .ref dp, .ref hu, .ref we, .ref se, .ref hq, .int (nI nt)])), (dp, .inl (cI, 2, .inl fd)), (we, .inl (cI, 20, .inl fw)), (se, .inl (cI, 20, .inl fe)), (hm, .inr (0, [.ref pv, .ref up, .int (nI nr)])), (pv, .inl (cI, 10, .inl fp)), (up, .inl (cI, 10, .inl fu)), (hu, .inr (2, [.ref sd, .ref tw, .ref st, .ref od, .int (nI cn)])), (sd, .inl (cI, 12, .inl fs)), (tw, .inl (cI, 264, .inl z9)), (st, .inl (cI, 264, .inl ((wt_fgt fs cn k i sp (((wt_fold (wt_fes fs cn k sp (wt_held fs ft k 0 cn &&& wt_held fs ft k 1 cn)) i (ft, ff)).1), ((wt_fold (wt_fes fs cn k sp (wt_held fs ft k 0 cn &&& wt_held fs ft k 1 cn)) i (ft, ff)).2))).2))), (od, .inl (cI, 264, .inl fo))] H) e9) hP
      have e10 : (wt_fgt fs cn k i sp (((wt_fold (wt_fes fs cn k sp (wt_held fs ft k 0 cn &&& wt_held fs ft k 1 cn)) i (ft, ff)).1), ((wt_fold (wt_fes fs cn k sp (wt_held fs ft k 0 cn &&& wt_held fs ft k 1 cn)) i (ft, ff)).2))).2 = (wt_fold (wt_fes fs cn k sp (wt_held fs ft k 0 cn &&& wt_held fs ft k 1 cn)) (i + 1) (ft, ff)).2 := (by simp only [wt_fold_s, wt_fes, wt_eta, wt_if_t c_36_6])
      have hP : va_P (dC, dI) vwCl [(h, .inr (3, [.ref hm, .ref dp, .ref hu, .ref we, .ref se, .ref hq, .int (nI nt)])), (dp, .inl (cI, 2, .inl fd)), (we, .inl (cI, 20, .inl fw)), (se, .inl (cI, 20, .inl fe)), (hm, .inr (0, [.ref pv, .ref up, .int (nI nr)])), (pv, .inl (cI, 10, .inl fp)), (up, .inl (cI, 10, .inl fu)), (hu, .inr (2, [.ref sd, .ref tw, .ref st, .ref od, .int (nI cn)])), (sd, .inl (cI, 12, .inl fs)), (tw, .inl (cI, 264, .inl ((wt_fold (wt_fes fs cn k sp (wt_held fs ft k 0 cn &&& wt_held fs ft k 1 cn)) (i + 1) (ft, ff)).1))), (st, .inl (cI, 264, .inl ((wt_fold (wt_fes fs cn k sp (wt_held fs ft k 0 cn &&& wt_held fs ft k 1 cn)) (i + 1) (ft, ff)).2))), (od, .inl (cI, 264, .inl fo))] H := Eq.mp (congrArg (fun z9 : Nat → Int32 => va_P (dC, dI) vwCl [(h, .inr (3, [.ref hm, .ref dp, .ref hu, .ref we, .ref se, .ref hq, .int (nI nt)])), (dp, .inl (cI, 2, .inl fd)), (we, .inl (cI, 20, .inl fw)), (se, .inl (cI, 20, .inl fe)), (hm, .inr (0, [.ref pv, .ref up, .int (nI nr)])), (pv, .inl (cI, 10, .inl fp)), (up, .inl (cI, 10, .inl fu)), (hu, .inr (2, [.ref sd, .ref tw, .ref st, .ref od, .int (nI cn)])), (sd, .inl (cI, 12, .inl fs)), (tw, .inl (cI, 264, .inl ((wt_fold (wt_fes fs cn k sp (wt_held fs ft k 0 cn &&& wt_held fs ft k 1 cn)) (i + 1) (ft, ff)).1))), (st, .inl (cI, 264, .inl z9)), (od, .inl (cI, 264, .inl fo))] H) e10) hP
      have hD : va_D A [(h, .inr (3, [.ref hm, .ref dp, .ref hu, .ref we, .ref se, .ref hq, .int (nI nt)])), (dp, .inl (cI, 2, .inl fd)), (we, .inl (cI, 20, .inl fw)), (se, .inl (cI, 20, .inl fe)), (hm, .inr (0, [.ref pv, .ref up, .int (nI nr)])), (pv, .inl (cI, 10, .inl fp)), (up, .inl (cI, 10, .inl fu)), (hu, .inr (2, [.ref sd, .ref tw, .ref st, .ref od, .int (nI cn)])), (sd, .inl (cI, 12, .inl fs)), (tw, .inl (cI, 264, .inl ((wt_fold (wt_fes fs cn k sp (wt_held fs ft k 0 cn &&& wt_held fs ft k 1 cn)) (i + 1) (ft, ff)).1))), (st, .inl (cI, 264, .inl ((wt_fold (wt_fes fs cn k sp (wt_held fs ft k 0 cn &&& wt_held fs ft k 1 cn)) (i + 1) (ft, ff)).2))), (od, .inl (cI, 264, .inl fo))] := wt_adr hD rfl
      exact ih_23 (i + 1) _ _ _ (by omega) ⟨(by omega), lv_sub hl [0, 1, 2, 3, 4] rfl, hP, hD, hS⟩
set_option maxHeartbeats 4000000 in
set_option maxRecDepth 100000 in
theorem k_X3_unitsInSight (l : Launch) (dC : Nat → ClassId) (dI : Nat → Nat → Nat) (cI : ClassId) (h : Nat) (dp : Nat) (we : Nat) (se : Nat) (fd : Nat → Int32) (fw : Nat → Int32) (fe : Nat → Int32) (nt : Nat) (hm : Nat) (pv : Nat) (up : Nat) (fp : Nat → Int32) (fu : Nat → Int32) (nr : Nat) (hu : Nat) (sd : Nat) (tw : Nat) (st : Nat) (od : Nat) (fs : Nat → Int32) (ft : Nat → Int32) (ff : Nat → Int32) (fo : Nat → Int32) (cn : Nat) (hq : Nat) (k : Nat) (hcn : cn ≤ 12) (hk : k < 22) : Met l yX3_unitsInSight wsX3_unitsInSight ({ frames := 3, cells := 0, slots := 0, locals := 68 }) (va_Pc [.ref h, .int (nI k)] (wt_pre (dC, dI) cI [(h, .inr (3, [.ref hm, .ref dp, .ref hu, .ref we, .ref se, .ref hq, .int (nI nt)])), (dp, .inl (cI, 2, .inl fd)), (we, .inl (cI, 20, .inl fw)), (se, .inl (cI, 20, .inl fe)), (hm, .inr (0, [.ref pv, .ref up, .int (nI nr)])), (pv, .inl (cI, 10, .inl fp)), (up, .inl (cI, 10, .inl fu)), (hu, .inr (2, [.ref sd, .ref tw, .ref st, .ref od, .int (nI cn)])), (sd, .inl (cI, 12, .inl fs)), (tw, .inl (cI, 264, .inl ft)), (st, .inl (cI, 264, .inl ff)), (od, .inl (cI, 264, .inl fo))])) (wt_ro (wt_sig fp fu fs ft cn k)) 0 0 wt_no := by
  refine Met.ofW (cc := cX3_unitsInSight) (maxL := 6) (ret := (some .int)) (by decide) rfl ?_
  intro p e s m args below meth c s₁ B hml hv
  obtain ⟨rfl, hP, hK, hN⟩ := hv
  have hx := B.exec
  have hb := B.bytes
  have hr := B.returns
  have hts := atoms_spec (ws := wsX3_unitsInSight) B.pre
  have hown : s.vm.findClass RX3 = some m.cls := findClass_of_methodNamed B.named
  have hlocks := B.notSynchronized
  have inX0 : ∀ w ∈ wsX00, w ∈ wsX3_unitsInSight := wt_in [63, 64, 65] (by decide +kernel)
  have inX2 : ∀ w ∈ wsX20, w ∈ wsX3_unitsInSight := wt_in [58, 59, 60, 61, 62] (by decide +kernel)
  have inX3 : ∀ w ∈ wsX30, w ∈ wsX3_unitsInSight := wt_in [51, 52, 53, 54, 55, 56, 57] (by decide +kernel)
  have hl := lv_entry ([.ref h, .int (nI k)]) (n := 6) (Nat.le_of_ble_eq_true rfl)
  rw [lg_entry_eq]
  generalize (lg_sl ([.ref h, .int (nI k)]) ++ List.replicate (6 - (lg_sl ([.ref h, .int (nI k)])).length) Slot.unset).toArray = ls at hl ⊢
  have hl : lv_has ls 6 [(0, .ref h), (1, .int (nI k))] := hl
  refine lv_aload_n hx hb dX3_unitsInSight_0 rfl (lv_at hl 0 rfl) ?_
  refine va_get (D := (dC, dI)) (ci := 3) (v := .ref hm) (C := RX3) (T := TX3) (N := 7) hx hb hts inX3 hown hK hP 0 rfl rfl 0 (by decide) (hts (.fieldLink RX3 12 "WarTable" "map" "LWarTable$RoadMap;") (List.mem_of_getElem? (i := 1) rfl)) (fun _ h9 => h9) rfl dX3_unitsInSight_1 ?_
  refine lv_aload_n hx hb dX3_unitsInSight_4 rfl (lv_at hl 0 rfl) ?_
  refine va_get (D := (dC, dI)) (ci := 3) (v := .ref hu) (C := RX3) (T := TX3) (N := 7) hx hb hts inX3 hown hK hP 0 rfl rfl 2 (by decide) (hts (.fieldLink RX3 23 "WarTable" "units" "LWarTable$Units;") (List.mem_of_getElem? (i := 2) rfl)) (fun _ h9 => h9) rfl dX3_unitsInSight_5 ?_
  refine lv_iload_n hx hb dX3_unitsInSight_8 rfl (lv_at hl 1 rfl) ?_
  refine lv_iconst (v := nI 0) hx hb dX3_unitsInSight_9 (by decide +kernel) ?_
  refine wt_ro_go (va_runV (As := [.int (nI k), .int (nI 0)]) (rest := [.ref hm]) ⟨hx, hb, hml, hown, hts⟩ (k_X2_townsHeld l dC dI cI hu sd tw st od fs ft ff fo cn k 0 (by omega) (by omega)) (cwV 2 hts gX3_unitsInSight_X2_townsHeld rfl rfl rfl (by decide +kernel) ⟨Nat.le_of_ble_eq_true rfl, Nat.le_of_ble_eq_true rfl⟩) (wt_PV (C := RX2) (T := TX2) (N := 5) (ci := 2) (q0 := 7) hK hP hN rfl rfl [7, 8, 9, 10, 11] rfl) rfl rfl hl.1 rfl (lv_room (Nat.le_of_ble_eq_true rfl)) dX3_unitsInSight_10 ⟨Nat.zero_le _, Nat.zero_le _⟩) ?_
  refine lv_iconst (v := nI 0) hx hb dX3_unitsInSight_13 (by decide +kernel) ?_
  refine wt_ro_go (va_runV (As := [.int (wt_held fs ft k 0 cn), .int (nI 0)]) (rest := []) ⟨hx, hb, hml, hown, hts⟩ (k_X0_widened l dC dI cI hm pv up fp fu nr (wt_held fs ft k 0 cn) (nI 0)) (cwV 2 hts gX3_unitsInSight_X0_widened rfl rfl rfl (by decide +kernel) ⟨Nat.le_of_ble_eq_true rfl, Nat.le_of_ble_eq_true rfl⟩) (wt_PV (C := RX0) (T := TX0) (N := 3) (ci := 0) (q0 := 4) hK hP hN rfl rfl [4, 5, 6] rfl) rfl rfl hl.1 rfl (lv_room (Nat.le_of_ble_eq_true rfl)) dX3_unitsInSight_14 ⟨Nat.zero_le _, Nat.zero_le _⟩) ?_
  refine lv_istore_n (lv' := [(2, .int (wt_wid fp fu (wt_held fs ft k 0 cn) (nI 0))), (0, .ref h), (1, .int (nI k))]) hx hb dX3_unitsInSight_17 rfl hl (by decide) rfl (fun ls hl => ?_)
  refine lv_aload_n hx hb dX3_unitsInSight_18 rfl (lv_at hl 1 rfl) ?_
  refine va_get (D := (dC, dI)) (ci := 3) (v := .ref hm) (C := RX3) (T := TX3) (N := 7) hx hb hts inX3 hown hK hP 0 rfl rfl 0 (by decide) (hts (.fieldLink RX3 12 "WarTable" "map" "LWarTable$RoadMap;") (List.mem_of_getElem? (i := 1) rfl)) (fun _ h9 => h9) rfl dX3_unitsInSight_19 ?_
  refine lv_aload_n hx hb dX3_unitsInSight_22 rfl (lv_at hl 1 rfl) ?_
  refine va_get (D := (dC, dI)) (ci := 3) (v := .ref hu) (C := RX3) (T := TX3) (N := 7) hx hb hts inX3 hown hK hP 0 rfl rfl 2 (by decide) (hts (.fieldLink RX3 23 "WarTable" "units" "LWarTable$Units;") (List.mem_of_getElem? (i := 2) rfl)) (fun _ h9 => h9) rfl dX3_unitsInSight_23 ?_
  refine lv_iload_n hx hb dX3_unitsInSight_26 rfl (lv_at hl 2 rfl) ?_
  refine lv_iconst (v := nI 1) hx hb dX3_unitsInSight_27 (by decide +kernel) ?_
  refine wt_ro_go (va_runV (As := [.int (nI k), .int (nI 1)]) (rest := [.ref hm]) ⟨hx, hb, hml, hown, hts⟩ (k_X2_townsHeld l dC dI cI hu sd tw st od fs ft ff fo cn k 1 (by omega) (by omega)) (cwV 2 hts gX3_unitsInSight_X2_townsHeld rfl rfl rfl (by decide +kernel) ⟨Nat.le_of_ble_eq_true rfl, Nat.le_of_ble_eq_true rfl⟩) (wt_PV (C := RX2) (T := TX2) (N := 5) (ci := 2) (q0 := 7) hK hP hN rfl rfl [7, 8, 9, 10, 11] rfl) rfl rfl hl.1 rfl (lv_room (Nat.le_of_ble_eq_true rfl)) dX3_unitsInSight_28 ⟨Nat.zero_le _, Nat.zero_le _⟩) ?_
  refine lv_iconst (v := nI 0) hx hb dX3_unitsInSight_31 (by decide +kernel) ?_
  refine wt_ro_go (va_runV (As := [.int (wt_held fs ft k 1 cn), .int (nI 0)]) (rest := []) ⟨hx, hb, hml, hown, hts⟩ (k_X0_widened l dC dI cI hm pv up fp fu nr (wt_held fs ft k 1 cn) (nI 0)) (cwV 2 hts gX3_unitsInSight_X0_widened rfl rfl rfl (by decide +kernel) ⟨Nat.le_of_ble_eq_true rfl, Nat.le_of_ble_eq_true rfl⟩) (wt_PV (C := RX0) (T := TX0) (N := 3) (ci := 0) (q0 := 4) hK hP hN rfl rfl [4, 5, 6] rfl) rfl rfl hl.1 rfl (lv_room (Nat.le_of_ble_eq_true rfl)) dX3_unitsInSight_32 ⟨Nat.zero_le _, Nat.zero_le _⟩) ?_
  refine lv_istore_n (lv' := [(3, .int (wt_wid fp fu (wt_held fs ft k 1 cn) (nI 0))), (2, .int (wt_wid fp fu (wt_held fs ft k 0 cn) (nI 0))), (0, .ref h), (1, .int (nI k))]) hx hb dX3_unitsInSight_35 rfl hl (by decide) rfl (fun ls hl => ?_)
  refine lv_iconst (v := nI 0) hx hb dX3_unitsInSight_36 (by decide +kernel) ?_
  refine lv_istore (lv' := [(4, .int (nI 0)), (3, .int (wt_wid fp fu (wt_held fs ft k 1 cn) (nI 0))), (2, .int (wt_wid fp fu (wt_held fs ft k 0 cn) (nI 0))), (0, .ref h), (1, .int (nI k))]) hx hb dX3_unitsInSight_37 hl (by decide) rfl (fun ls hl => ?_)
  refine lv_iconst (v := nI 0) hx hb dX3_unitsInSight_39 (by decide +kernel) ?_
  refine lv_istore (lv' := [(5, .int (nI 0)), (4, .int (nI 0)), (3, .int (wt_wid fp fu (wt_held fs ft k 1 cn) (nI 0))), (2, .int (wt_wid fp fu (wt_held fs ft k 0 cn) (nI 0))), (0, .ref h), (1, .int (nI k))]) hx hb dX3_unitsInSight_40 hl (by decide) rfl (fun ls hl => ?_)
  have e1 : nI 0 = (wt_fold (wt_sus (wt_wid fp fu (wt_held fs ft k 1 cn) (nI 0)) (wt_wid fp fu (wt_held fs ft k 0 cn) (nI 0)) fs ft k) 0 (nI 0)) := rfl
  refine wt_lp (σ := Nat) 0 (fun i => cn - i) (fun i ls => (i ≤ cn) ∧ lv_has ls 6 [(5, .int (nI i)), (4, .int (wt_fold (wt_sus (wt_wid fp fu (wt_held fs ft k 1 cn) (nI 0)) (wt_wid fp fu (wt_held fs ft k 0 cn) (nI 0)) fs ft k) i (nI 0))), (3, .int (wt_wid fp fu (wt_held fs ft k 1 cn) (nI 0))), (2, .int (wt_wid fp fu (wt_held fs ft k 0 cn) (nI 0))), (0, .ref h), (1, .int (nI k))]) ⟨(by omega), Eq.mp (congrArg (fun z9 : Int32 => lv_has ls 6 [(5, .int (nI 0)), (4, .int z9), (3, .int (wt_wid fp fu (wt_held fs ft k 1 cn) (nI 0))), (2, .int (wt_wid fp fu (wt_held fs ft k 0 cn) (nI 0))), (0, .ref h), (1, .int (nI k))]) e1) (lv_sub hl [0, 1, 2, 3, 4, 5] rfl)⟩ (fun i ls h9 ih_42 => ?_)
  obtain ⟨h_42_0, hl⟩ := h9
  refine lv_iload hx hb dX3_unitsInSight_42 (lv_at hl 0 rfl) ?_
  refine lv_aload_n hx hb dX3_unitsInSight_44 rfl (lv_at hl 4 rfl) ?_
  refine va_get (D := (dC, dI)) (ci := 3) (v := .ref hu) (C := RX3) (T := TX3) (N := 7) hx hb hts inX3 hown hK hP 0 rfl rfl 2 (by decide) (hts (.fieldLink RX3 23 "WarTable" "units" "LWarTable$Units;") (List.mem_of_getElem? (i := 2) rfl)) (fun _ h9 => h9) rfl dX3_unitsInSight_45 ?_
  refine wt_ro_go (va_runV (As := []) (rest := [.int (nI i)]) ⟨hx, hb, hml, hown, hts⟩ (k_X2_count l dC dI cI hu sd tw st od fs ft ff fo cn) (cwV 0 hts gX3_unitsInSight_X2_count rfl rfl rfl (by decide +kernel) ⟨Nat.le_of_ble_eq_true rfl, Nat.le_of_ble_eq_true rfl⟩) (wt_PV (C := RX2) (T := TX2) (N := 5) (ci := 2) (q0 := 7) hK hP hN rfl rfl [7, 8, 9, 10, 11] rfl) rfl rfl hl.1 rfl (lv_room (Nat.le_of_ble_eq_true rfl)) dX3_unitsInSight_48 ⟨Nat.zero_le _, Nat.zero_le _⟩) ?_
  refine wt_icmp_ge (tgt := 103) hx hb (by omega) (by omega) dX3_unitsInSight_51 (by decide) (fun c_51_2 => ?_) (fun c_51_2 => ?_)
  · refine lv_iload hx hb dX3_unitsInSight_103 (lv_at hl 1 rfl) ?_
    exact wt_ret hx hb hr (by rw [show i = cn by omega]; rfl) rfl dX3_unitsInSight_105 hlocks
  · refine lv_aload_n hx hb dX3_unitsInSight_54 rfl (lv_at hl 4 rfl) ?_
    refine va_get (D := (dC, dI)) (ci := 3) (v := .ref hu) (C := RX3) (T := TX3) (N := 7) hx hb hts inX3 hown hK hP 0 rfl rfl 2 (by decide) (hts (.fieldLink RX3 23 "WarTable" "units" "LWarTable$Units;") (List.mem_of_getElem? (i := 2) rfl)) (fun _ h9 => h9) rfl dX3_unitsInSight_55 ?_
    refine lv_iload hx hb dX3_unitsInSight_58 (lv_at hl 0 rfl) ?_
    refine wt_ro_go (va_runV (As := [.int (nI i)]) (rest := []) ⟨hx, hb, hml, hown, hts⟩ (k_X2_sideOf l dC dI cI hu sd tw st od fs ft ff fo cn i (by omega)) (cwV 1 hts gX3_unitsInSight_X2_sideOf rfl rfl rfl (by decide +kernel) ⟨Nat.le_of_ble_eq_true rfl, Nat.le_of_ble_eq_true rfl⟩) (wt_PV (C := RX2) (T := TX2) (N := 5) (ci := 2) (q0 := 7) hK hP hN rfl rfl [7, 8, 9, 10, 11] rfl) rfl rfl hl.1 rfl (lv_room (Nat.le_of_ble_eq_true rfl)) dX3_unitsInSight_60 ⟨Nat.zero_le _, Nat.zero_le _⟩) ?_
    refine wt_if_neI (tgt := 70) hx hb dX3_unitsInSight_63 (by decide) (fun c_63_3 => ?_) (fun c_63_3 => ?_)
    · refine lv_iload_n hx hb dX3_unitsInSight_70 rfl (lv_at hl 3 rfl) ?_
      refine lv_aload_n hx hb dX3_unitsInSight_71 rfl (lv_at hl 4 rfl) ?_
      refine va_get (D := (dC, dI)) (ci := 3) (v := .ref hu) (C := RX3) (T := TX3) (N := 7) hx hb hts inX3 hown hK hP 0 rfl rfl 2 (by decide) (hts (.fieldLink RX3 23 "WarTable" "units" "LWarTable$Units;") (List.mem_of_getElem? (i := 2) rfl)) (fun _ h9 => h9) rfl dX3_unitsInSight_72 ?_
      refine lv_iload_n hx hb dX3_unitsInSight_75 rfl (lv_at hl 5 rfl) ?_
      refine lv_iload hx hb dX3_unitsInSight_76 (lv_at hl 0 rfl) ?_
      refine wt_ro_go (va_runV (As := [.int (nI k), .int (nI i)]) (rest := [.int (wt_wid fp fu (wt_held fs ft k 0 cn) (nI 0))]) ⟨hx, hb, hml, hown, hts⟩ (k_X2_townAt l dC dI cI hu sd tw st od fs ft ff fo cn k i (by omega) (by omega)) (cwV 2 hts gX3_unitsInSight_X2_townAt rfl rfl rfl (by decide +kernel) ⟨Nat.le_of_ble_eq_true rfl, Nat.le_of_ble_eq_true rfl⟩) (wt_PV (C := RX2) (T := TX2) (N := 5) (ci := 2) (q0 := 7) hK hP hN rfl rfl [7, 8, 9, 10, 11] rfl) rfl rfl hl.1 rfl (lv_room (Nat.le_of_ble_eq_true rfl)) dX3_unitsInSight_78 ⟨Nat.zero_le _, Nat.zero_le _⟩) ?_
      refine wt_ro_go (va_runS (As := [.int (wt_wid fp fu (wt_held fs ft k 0 cn) (nI 0)), .int (ft (k * 12 + i))]) (rest := []) ⟨hx, hb, hml, hown, hts⟩ (k_X3_has l (wt_wid fp fu (wt_held fs ft k 0 cn) (nI 0)) (ft (k * 12 + i))) (va_cwS 2 hts gX3_unitsInSight_X3_has rfl rfl rfl (by decide +kernel) ⟨Nat.le_of_ble_eq_true rfl, Nat.le_of_ble_eq_true rfl⟩) wt_PS rfl rfl hl.1 rfl (lv_room (Nat.le_of_ble_eq_true rfl)) dX3_unitsInSight_81 ⟨Nat.zero_le _, Nat.zero_le _⟩) ?_
      refine wt_if_eqB (tgt := 97) hx hb dX3_unitsInSight_84 (by decide) (fun c_84_4 => ?_) (fun c_84_4 => ?_)
      · refine lv_iinc (v := nI (i + 1)) (lv' := [(5, .int (nI (i + 1))), (4, .int (wt_fold (wt_sus (wt_wid fp fu (wt_held fs ft k 1 cn) (nI 0)) (wt_wid fp fu (wt_held fs ft k 0 cn) (nI 0)) fs ft k) i (nI 0))), (3, .int (wt_wid fp fu (wt_held fs ft k 1 cn) (nI 0))), (2, .int (wt_wid fp fu (wt_held fs ft k 0 cn) (nI 0))), (0, .ref h), (1, .int (nI k))]) hx hb dX3_unitsInSight_97 hl (k := 0) rfl (nI_1 i) (by decide) rfl (fun ls hl => ?_)
        refine lv_goto (tgt := 42) hx hb dX3_unitsInSight_100 (by decide) ?_
        have e5 : (wt_fold (wt_sus (wt_wid fp fu (wt_held fs ft k 1 cn) (nI 0)) (wt_wid fp fu (wt_held fs ft k 0 cn) (nI 0)) fs ft k) i (nI 0)) = (wt_fold (wt_sus (wt_wid fp fu (wt_held fs ft k 1 cn) (nI 0)) (wt_wid fp fu (wt_held fs ft k 0 cn) (nI 0)) fs ft k) (i + 1) (nI 0)) := (by simp only [wt_fold_s, wt_sus, wt_if_f c_63_3, wt_if_f c_84_4])
        exact ih_42 (i + 1) _ (by omega) ⟨(by omega), Eq.mp (congrArg (fun z9 : Int32 => lv_has ls 6 [(5, .int (nI (i + 1))), (4, .int z9), (3, .int (wt_wid fp fu (wt_held fs ft k 1 cn) (nI 0))), (2, .int (wt_wid fp fu (wt_held fs ft k 0 cn) (nI 0))), (0, .ref h), (1, .int (nI k))]) e5) (lv_sub hl [0, 1, 2, 3, 4, 5] rfl)⟩
      · refine lv_iload hx hb dX3_unitsInSight_87 (lv_at hl 1 rfl) ?_
        refine lv_iload hx hb dX3_unitsInSight_89 (lv_at hl 0 rfl) ?_
        refine wt_ro_go (va_runS (As := [.int (nI i)]) (rest := [.int (wt_fold (wt_sus (wt_wid fp fu (wt_held fs ft k 1 cn) (nI 0)) (wt_wid fp fu (wt_held fs ft k 0 cn) (nI 0)) fs ft k) i (nI 0))]) ⟨hx, hb, hml, hown, hts⟩ (k_X3_bit l (nI i)) (va_cwS 1 hts gX3_unitsInSight_X3_bit rfl rfl rfl (by decide +kernel) ⟨Nat.le_of_ble_eq_true rfl, Nat.le_of_ble_eq_true rfl⟩) wt_PS rfl rfl hl.1 rfl (lv_room (Nat.le_of_ble_eq_true rfl)) dX3_unitsInSight_91 ⟨Nat.zero_le _, Nat.zero_le _⟩) ?_
        refine lv_ior hx hb dX3_unitsInSight_94 ?_
        refine lv_istore (lv' := [(4, .int ((wt_fold (wt_sus (wt_wid fp fu (wt_held fs ft k 1 cn) (nI 0)) (wt_wid fp fu (wt_held fs ft k 0 cn) (nI 0)) fs ft k) i (nI 0)) ||| (wt_bit (nI i)))), (5, .int (nI i)), (3, .int (wt_wid fp fu (wt_held fs ft k 1 cn) (nI 0))), (2, .int (wt_wid fp fu (wt_held fs ft k 0 cn) (nI 0))), (0, .ref h), (1, .int (nI k))]) hx hb dX3_unitsInSight_95 hl (by decide) rfl (fun ls hl => ?_)
        refine lv_iinc (v := nI (i + 1)) (lv' := [(5, .int (nI (i + 1))), (4, .int ((wt_fold (wt_sus (wt_wid fp fu (wt_held fs ft k 1 cn) (nI 0)) (wt_wid fp fu (wt_held fs ft k 0 cn) (nI 0)) fs ft k) i (nI 0)) ||| (wt_bit (nI i)))), (3, .int (wt_wid fp fu (wt_held fs ft k 1 cn) (nI 0))), (2, .int (wt_wid fp fu (wt_held fs ft k 0 cn) (nI 0))), (0, .ref h), (1, .int (nI k))]) hx hb dX3_unitsInSight_97 hl (k := 1) rfl (nI_1 i) (by decide) rfl (fun ls hl => ?_)
        refine lv_goto (tgt := 42) hx hb dX3_unitsInSight_100 (by decide) ?_
        have e6 : ((wt_fold (wt_sus (wt_wid fp fu (wt_held fs ft k 1 cn) (nI 0)) (wt_wid fp fu (wt_held fs ft k 0 cn) (nI 0)) fs ft k) i (nI 0)) ||| (wt_bit (nI i))) = (wt_fold (wt_sus (wt_wid fp fu (wt_held fs ft k 1 cn) (nI 0)) (wt_wid fp fu (wt_held fs ft k 0 cn) (nI 0)) fs ft k) (i + 1) (nI 0)) := (by simp only [wt_fold_s, wt_sus, wt_if_f c_63_3, wt_if_t c_84_4])
        exact ih_42 (i + 1) _ (by omega) ⟨(by omega), Eq.mp (congrArg (fun z9 : Int32 => lv_has ls 6 [(5, .int (nI (i + 1))), (4, .int z9), (3, .int (wt_wid fp fu (wt_held fs ft k 1 cn) (nI 0))), (2, .int (wt_wid fp fu (wt_held fs ft k 0 cn) (nI 0))), (0, .ref h), (1, .int (nI k))]) e6) (lv_sub hl [0, 1, 2, 3, 4, 5] rfl)⟩
    · refine lv_iload_n hx hb dX3_unitsInSight_66 rfl (lv_at hl 2 rfl) ?_
      refine lv_goto (tgt := 71) hx hb dX3_unitsInSight_67 (by decide) ?_
      refine lv_aload_n hx hb dX3_unitsInSight_71 rfl (lv_at hl 4 rfl) ?_
      refine va_get (D := (dC, dI)) (ci := 3) (v := .ref hu) (C := RX3) (T := TX3) (N := 7) hx hb hts inX3 hown hK hP 0 rfl rfl 2 (by decide) (hts (.fieldLink RX3 23 "WarTable" "units" "LWarTable$Units;") (List.mem_of_getElem? (i := 2) rfl)) (fun _ h9 => h9) rfl dX3_unitsInSight_72 ?_
      refine lv_iload_n hx hb dX3_unitsInSight_75 rfl (lv_at hl 5 rfl) ?_
      refine lv_iload hx hb dX3_unitsInSight_76 (lv_at hl 0 rfl) ?_
      refine wt_ro_go (va_runV (As := [.int (nI k), .int (nI i)]) (rest := [.int (wt_wid fp fu (wt_held fs ft k 1 cn) (nI 0))]) ⟨hx, hb, hml, hown, hts⟩ (k_X2_townAt l dC dI cI hu sd tw st od fs ft ff fo cn k i (by omega) (by omega)) (cwV 2 hts gX3_unitsInSight_X2_townAt rfl rfl rfl (by decide +kernel) ⟨Nat.le_of_ble_eq_true rfl, Nat.le_of_ble_eq_true rfl⟩) (wt_PV (C := RX2) (T := TX2) (N := 5) (ci := 2) (q0 := 7) hK hP hN rfl rfl [7, 8, 9, 10, 11] rfl) rfl rfl hl.1 rfl (lv_room (Nat.le_of_ble_eq_true rfl)) dX3_unitsInSight_78 ⟨Nat.zero_le _, Nat.zero_le _⟩) ?_
      refine wt_ro_go (va_runS (As := [.int (wt_wid fp fu (wt_held fs ft k 1 cn) (nI 0)), .int (ft (k * 12 + i))]) (rest := []) ⟨hx, hb, hml, hown, hts⟩ (k_X3_has l (wt_wid fp fu (wt_held fs ft k 1 cn) (nI 0)) (ft (k * 12 + i))) (va_cwS 2 hts gX3_unitsInSight_X3_has rfl rfl rfl (by decide +kernel) ⟨Nat.le_of_ble_eq_true rfl, Nat.le_of_ble_eq_true rfl⟩) wt_PS rfl rfl hl.1 rfl (lv_room (Nat.le_of_ble_eq_true rfl)) dX3_unitsInSight_81 ⟨Nat.zero_le _, Nat.zero_le _⟩) ?_
      refine wt_if_eqB (tgt := 97) hx hb dX3_unitsInSight_84 (by decide) (fun c_84_7 => ?_) (fun c_84_7 => ?_)
      · refine lv_iinc (v := nI (i + 1)) (lv' := [(5, .int (nI (i + 1))), (4, .int (wt_fold (wt_sus (wt_wid fp fu (wt_held fs ft k 1 cn) (nI 0)) (wt_wid fp fu (wt_held fs ft k 0 cn) (nI 0)) fs ft k) i (nI 0))), (3, .int (wt_wid fp fu (wt_held fs ft k 1 cn) (nI 0))), (2, .int (wt_wid fp fu (wt_held fs ft k 0 cn) (nI 0))), (0, .ref h), (1, .int (nI k))]) hx hb dX3_unitsInSight_97 hl (k := 0) rfl (nI_1 i) (by decide) rfl (fun ls hl => ?_)
        refine lv_goto (tgt := 42) hx hb dX3_unitsInSight_100 (by decide) ?_
        have e8 : (wt_fold (wt_sus (wt_wid fp fu (wt_held fs ft k 1 cn) (nI 0)) (wt_wid fp fu (wt_held fs ft k 0 cn) (nI 0)) fs ft k) i (nI 0)) = (wt_fold (wt_sus (wt_wid fp fu (wt_held fs ft k 1 cn) (nI 0)) (wt_wid fp fu (wt_held fs ft k 0 cn) (nI 0)) fs ft k) (i + 1) (nI 0)) := (by simp only [wt_fold_s, wt_sus, wt_if_t c_63_3, wt_if_f c_84_7])
        exact ih_42 (i + 1) _ (by omega) ⟨(by omega), Eq.mp (congrArg (fun z9 : Int32 => lv_has ls 6 [(5, .int (nI (i + 1))), (4, .int z9), (3, .int (wt_wid fp fu (wt_held fs ft k 1 cn) (nI 0))), (2, .int (wt_wid fp fu (wt_held fs ft k 0 cn) (nI 0))), (0, .ref h), (1, .int (nI k))]) e8) (lv_sub hl [0, 1, 2, 3, 4, 5] rfl)⟩
      · refine lv_iload hx hb dX3_unitsInSight_87 (lv_at hl 1 rfl) ?_
        refine lv_iload hx hb dX3_unitsInSight_89 (lv_at hl 0 rfl) ?_
        refine wt_ro_go (va_runS (As := [.int (nI i)]) (rest := [.int (wt_fold (wt_sus (wt_wid fp fu (wt_held fs ft k 1 cn) (nI 0)) (wt_wid fp fu (wt_held fs ft k 0 cn) (nI 0)) fs ft k) i (nI 0))]) ⟨hx, hb, hml, hown, hts⟩ (k_X3_bit l (nI i)) (va_cwS 1 hts gX3_unitsInSight_X3_bit rfl rfl rfl (by decide +kernel) ⟨Nat.le_of_ble_eq_true rfl, Nat.le_of_ble_eq_true rfl⟩) wt_PS rfl rfl hl.1 rfl (lv_room (Nat.le_of_ble_eq_true rfl)) dX3_unitsInSight_91 ⟨Nat.zero_le _, Nat.zero_le _⟩) ?_
        refine lv_ior hx hb dX3_unitsInSight_94 ?_
        refine lv_istore (lv' := [(4, .int ((wt_fold (wt_sus (wt_wid fp fu (wt_held fs ft k 1 cn) (nI 0)) (wt_wid fp fu (wt_held fs ft k 0 cn) (nI 0)) fs ft k) i (nI 0)) ||| (wt_bit (nI i)))), (5, .int (nI i)), (3, .int (wt_wid fp fu (wt_held fs ft k 1 cn) (nI 0))), (2, .int (wt_wid fp fu (wt_held fs ft k 0 cn) (nI 0))), (0, .ref h), (1, .int (nI k))]) hx hb dX3_unitsInSight_95 hl (by decide) rfl (fun ls hl => ?_)
        refine lv_iinc (v := nI (i + 1)) (lv' := [(5, .int (nI (i + 1))), (4, .int ((wt_fold (wt_sus (wt_wid fp fu (wt_held fs ft k 1 cn) (nI 0)) (wt_wid fp fu (wt_held fs ft k 0 cn) (nI 0)) fs ft k) i (nI 0)) ||| (wt_bit (nI i)))), (3, .int (wt_wid fp fu (wt_held fs ft k 1 cn) (nI 0))), (2, .int (wt_wid fp fu (wt_held fs ft k 0 cn) (nI 0))), (0, .ref h), (1, .int (nI k))]) hx hb dX3_unitsInSight_97 hl (k := 1) rfl (nI_1 i) (by decide) rfl (fun ls hl => ?_)
        refine lv_goto (tgt := 42) hx hb dX3_unitsInSight_100 (by decide) ?_
        have e9 : ((wt_fold (wt_sus (wt_wid fp fu (wt_held fs ft k 1 cn) (nI 0)) (wt_wid fp fu (wt_held fs ft k 0 cn) (nI 0)) fs ft k) i (nI 0)) ||| (wt_bit (nI i))) = (wt_fold (wt_sus (wt_wid fp fu (wt_held fs ft k 1 cn) (nI 0)) (wt_wid fp fu (wt_held fs ft k 0 cn) (nI 0)) fs ft k) (i + 1) (nI 0)) := (by simp only [wt_fold_s, wt_sus, wt_if_t c_63_3, wt_if_t c_84_7])
        exact ih_42 (i + 1) _ (by omega) ⟨(by omega), Eq.mp (congrArg (fun z9 : Int32 => lv_has ls 6 [(5, .int (nI (i + 1))), (4, .int z9), (3, .int (wt_wid fp fu (wt_held fs ft k 1 cn) (nI 0))), (2, .int (wt_wid fp fu (wt_held fs ft k 0 cn) (nI 0))), (0, .ref h), (1, .int (nI k))]) e9) (lv_sub hl [0, 1, 2, 3, 4, 5] rfl)⟩
set_option maxHeartbeats 4000000 in
set_option maxRecDepth 100000 in
theorem k_X3_playFrom (l : Launch) (dC : Nat → ClassId) (dI : Nat → Nat → Nat) (cI : ClassId) (h : Nat) (dp : Nat) (we : Nat) (se : Nat) (fd : Nat → Int32) (fw : Nat → Int32) (fe : Nat → Int32) (nt : Nat) (hm : Nat) (pv : Nat) (up : Nat) (fp : Nat → Int32) (fu : Nat → Int32) (nr : Nat) (hu : Nat) (sd : Nat) (tw : Nat) (st : Nat) (od : Nat) (fs : Nat → Int32) (ft : Nat → Int32) (ff : Nat → Int32) (fo : Nat → Int32) (cn : Nat) (hq : Nat) (f : Nat) (sz : Nat) (hcn : cn ≤ 12) (hf : f ≤ nt) (hnt : nt ≤ 20) : Met l yX3_playFrom wsX3_playFrom ({ frames := 5, cells := 0, slots := 0, locals := 121 }) (va_Pc [.ref h, .int (nI f)] (wt_pm (dC, dI) cI [(h, .inr (3, [.ref hm, .ref dp, .ref hu, .ref we, .ref se, .ref hq, .int (nI nt)])), (dp, .inl (cI, 2, .inl fd)), (we, .inl (cI, 20, .inl fw)), (se, .inl (cI, 20, .inl fe)), (hm, .inr (0, [.ref pv, .ref up, .int (nI nr)])), (pv, .inl (cI, 10, .inl fp)), (up, .inl (cI, 10, .inl fu)), (hu, .inr (2, [.ref sd, .ref tw, .ref st, .ref od, .int (nI cn)])), (sd, .inl (cI, 12, .inl fs)), (tw, .inl (cI, 264, .inl ft)), (st, .inl (cI, 264, .inl ff)), (od, .inl (cI, 264, .inl fo))] sz)) (wt_mu none (dC, dI) [(h, .inr (3, [.ref hm, .ref dp, .ref hu, .ref we, .ref se, .ref hq, .int (nI nt)])), (dp, .inl (cI, 2, .inl fd)), (we, .inl (cI, 20, .inl fw)), (se, .inl (cI, 20, .inl ((wt_fold (wt_trn fd fw fp fu fs fo cn f) (nt - f) ((ft, ff), fe)).2))), (hm, .inr (0, [.ref pv, .ref up, .int (nI nr)])), (pv, .inl (cI, 10, .inl fp)), (up, .inl (cI, 10, .inl fu)), (hu, .inr (2, [.ref sd, .ref tw, .ref st, .ref od, .int (nI cn)])), (sd, .inl (cI, 12, .inl fs)), (tw, .inl (cI, 264, .inl ((wt_fold (wt_trn fd fw fp fu fs fo cn f) (nt - f) ((ft, ff), fe)).1.1))), (st, .inl (cI, 264, .inl ((wt_fold (wt_trn fd fw fp fu fs fo cn f) (nt - f) ((ft, ff), fe)).1.2))), (od, .inl (cI, 264, .inl fo))] (va_A [(h, .inr (3, [.ref hm, .ref dp, .ref hu, .ref we, .ref se, .ref hq, .int (nI nt)])), (dp, .inl (cI, 2, .inl fd)), (we, .inl (cI, 20, .inl fw)), (se, .inl (cI, 20, .inl fe)), (hm, .inr (0, [.ref pv, .ref up, .int (nI nr)])), (pv, .inl (cI, 10, .inl fp)), (up, .inl (cI, 10, .inl fu)), (hu, .inr (2, [.ref sd, .ref tw, .ref st, .ref od, .int (nI cn)])), (sd, .inl (cI, 12, .inl fs)), (tw, .inl (cI, 264, .inl ft)), (st, .inl (cI, 264, .inl ff)), (od, .inl (cI, 264, .inl fo))] sz)) 0 0 (va_A [(h, .inr (3, [.ref hm, .ref dp, .ref hu, .ref we, .ref se, .ref hq, .int (nI nt)])), (dp, .inl (cI, 2, .inl fd)), (we, .inl (cI, 20, .inl fw)), (se, .inl (cI, 20, .inl fe)), (hm, .inr (0, [.ref pv, .ref up, .int (nI nr)])), (pv, .inl (cI, 10, .inl fp)), (up, .inl (cI, 10, .inl fu)), (hu, .inr (2, [.ref sd, .ref tw, .ref st, .ref od, .int (nI cn)])), (sd, .inl (cI, 12, .inl fs)), (tw, .inl (cI, 264, .inl ft)), (st, .inl (cI, 264, .inl ff)), (od, .inl (cI, 264, .inl fo))] sz) := by
  refine Met.ofW (cc := cX3_playFrom) (maxL := 5) (ret := none) (by decide) rfl ?_
  intro p e s m args below meth c s₁ B hml hv
  obtain ⟨rfl, hsz, ⟨hP, hK, hN⟩, hD0⟩ := hv
  have hx := B.exec
  have hb := B.bytes
  have hr := B.returns
  have hts := atoms_spec (ws := wsX3_playFrom) B.pre
  have hown : s.vm.findClass RX3 = some m.cls := findClass_of_methodNamed B.named
  have hlocks := B.notSynchronized
  subst hsz
  have hD := hD0.self (sz := s.heap.size)
  generalize hAe : va_A [(h, .inr (3, [.ref hm, .ref dp, .ref hu, .ref we, .ref se, .ref hq, .int (nI nt)])), (dp, .inl (cI, 2, .inl fd)), (we, .inl (cI, 20, .inl fw)), (se, .inl (cI, 20, .inl fe)), (hm, .inr (0, [.ref pv, .ref up, .int (nI nr)])), (pv, .inl (cI, 10, .inl fp)), (up, .inl (cI, 10, .inl fu)), (hu, .inr (2, [.ref sd, .ref tw, .ref st, .ref od, .int (nI cn)])), (sd, .inl (cI, 12, .inl fs)), (tw, .inl (cI, 264, .inl ft)), (st, .inl (cI, 264, .inl ff)), (od, .inl (cI, 264, .inl fo))] s.heap.size = A at hD ⊢
  have hA : ∀ q : Nat, s.heap.size ≤ q → A q := fun q h => by rw [← hAe]; exact Or.inr h
  have hS : va_S A s.heap s.heap [] := va_S.rf
  have inX0 : ∀ w ∈ wsX00, w ∈ wsX3_playFrom := wt_in [130, 131, 132] (by decide +kernel)
  have inX2 : ∀ w ∈ wsX20, w ∈ wsX3_playFrom := wt_in [125, 126, 127, 128, 129] (by decide +kernel)
  have inX3 : ∀ w ∈ wsX30, w ∈ wsX3_playFrom := wt_in [118, 119, 120, 121, 122, 123, 124] (by decide +kernel)
  have hl := lv_entry ([.ref h, .int (nI f)]) (n := 5) (Nat.le_of_ble_eq_true rfl)
  rw [lg_entry_eq]
  generalize (lg_sl ([.ref h, .int (nI f)]) ++ List.replicate (5 - (lg_sl ([.ref h, .int (nI f)])).length) Slot.unset).toArray = ls at hl ⊢
  have hl : lv_has ls 5 [(0, .ref h), (1, .int (nI f))] := hl
  refine lv_iload_n hx hb dX3_playFrom_0 rfl (lv_at hl 1 rfl) ?_
  refine lv_iconst (v := nI 0) hx hb dX3_playFrom_1 (by decide +kernel) ?_
  refine va_mmax hx hb (by rw [hml]; exact hl.1.symm) hown (hts (.methodLink RX3 184 Lib.Math.max.name) (List.mem_of_getElem? (i := 1) rfl)) (hts (.static Lib.Math.max.name) (List.mem_of_getElem? (i := 2) rfl)) (hts (.initialized "java/lang/Math") (List.mem_of_getElem? (i := 3) rfl)) (hts (.code Lib.Math.max.name Lib.Math.max.code 2 (some .int)) (List.mem_of_getElem? (i := 4) rfl)) (Nat.le_of_ble_eq_true rfl) (Nat.le_of_ble_eq_true rfl) (Nat.zero_le _) (Nat.zero_le _) dX3_playFrom_2 ?_
  refine wt_top (y := (wt_max (nI f) (nI 0))) rfl ?_
  refine wt_top (y := nI f) (wt_max_0 (by omega)) ?_
  refine lv_istore_n (lv' := [(2, .int (nI f)), (0, .ref h), (1, .int (nI f))]) hx hb dX3_playFrom_5 rfl hl (by decide) rfl (fun ls hl => ?_)
  have e1 : nI f = nI (f + 0) := rfl
  have e2 : fe = (wt_fold (wt_trn fd fw fp fu fs fo cn f) 0 ((ft, ff), fe)).2 := rfl
  have hP : va_P (dC, dI) vwCl [(h, .inr (3, [.ref hm, .ref dp, .ref hu, .ref we, .ref se, .ref hq, .int (nI nt)])), (dp, .inl (cI, 2, .inl fd)), (we, .inl (cI, 20, .inl fw)), (se, .inl (cI, 20, .inl ((wt_fold (wt_trn fd fw fp fu fs fo cn f) 0 ((ft, ff), fe)).2))), (hm, .inr (0, [.ref pv, .ref up, .int (nI nr)])), (pv, .inl (cI, 10, .inl fp)), (up, .inl (cI, 10, .inl fu)), (hu, .inr (2, [.ref sd, .ref tw, .ref st, .ref od, .int (nI cn)])), (sd, .inl (cI, 12, .inl fs)), (tw, .inl (cI, 264, .inl ft)), (st, .inl (cI, 264, .inl ff)), (od, .inl (cI, 264, .inl fo))] s.heap := Eq.mp (congrArg (fun z9 : Nat → Int32 => va_P (dC, dI) vwCl [(h, .inr (3, [.ref hm, .ref dp, .ref hu, .ref we, .ref se, .ref hq, .int (nI nt)])), (dp, .inl (cI, 2, .inl fd)), (we, .inl (cI, 20, .inl fw)), (se, .inl (cI, 20, .inl z9)), (hm, .inr (0, [.ref pv, .ref up, .int (nI nr)])), (pv, .inl (cI, 10, .inl fp)), (up, .inl (cI, 10, .inl fu)), (hu, .inr (2, [.ref sd, .ref tw, .ref st, .ref od, .int (nI cn)])), (sd, .inl (cI, 12, .inl fs)), (tw, .inl (cI, 264, .inl ft)), (st, .inl (cI, 264, .inl ff)), (od, .inl (cI, 264, .inl fo))] s.heap) e2) hP
  have e3 : ft = (wt_fold (wt_trn fd fw fp fu fs fo cn f) 0 ((ft, ff), fe)).1.1 := rfl
  have hP : va_P (dC, dI) vwCl [(h, .inr (3, [.ref hm, .ref dp, .ref hu, .ref we, .ref se, .ref hq, .int (nI nt)])), (dp, .inl (cI, 2, .inl fd)), (we, .inl (cI, 20, .inl fw)), (se, .inl (cI, 20, .inl ((wt_fold (wt_trn fd fw fp fu fs fo cn f) 0 ((ft, ff), fe)).2))), (hm, .inr (0, [.ref pv, .ref up, .int (nI nr)])), (pv, .inl (cI, 10, .inl fp)), (up, .inl (cI, 10, .inl fu)), (hu, .inr (2, [.ref sd, .ref tw, .ref st, .ref od, .int (nI cn)])), (sd, .inl (cI, 12, .inl fs)), (tw, .inl (cI, 264, .inl ((wt_fold (wt_trn fd fw fp fu fs fo cn f) 0 ((ft, ff), fe)).1.1))), (st, .inl (cI, 264, .inl ff)), (od, .inl (cI, 264, .inl fo))] s.heap := Eq.mp (congrArg (fun z9 : Nat → Int32 => va_P (dC, dI) vwCl [(h, .inr (3, [.ref hm, .ref dp, .ref hu, .ref we, .ref se, .ref hq, .int (nI nt)])), (dp, .inl (cI, 2, .inl fd)), (we, .inl (cI, 20, .inl fw)), (se, .inl (cI, 20, .inl ((wt_fold (wt_trn fd fw fp fu fs fo cn f) 0 ((ft, ff), fe)).2))), (hm, .inr (0, [.ref pv, .ref up, .int (nI nr)])), (pv, .inl (cI, 10, .inl fp)), (up, .inl (cI, 10, .inl fu)), (hu, .inr (2, [.ref sd, .ref tw, .ref st, .ref od, .int (nI cn)])), (sd, .inl (cI, 12, .inl fs)), (tw, .inl (cI, 264, .inl z9)), (st, .inl (cI, 264, .inl ff)), (od, .inl (cI, 264, .inl fo))] s.heap) e3) hP
  have e4 : ff = (wt_fold (wt_trn fd fw fp fu fs fo cn f) 0 ((ft, ff), fe)).1.2 := rfl
  have hP : va_P (dC, dI) vwCl [(h, .inr (3, [.ref hm, .ref dp, .ref hu, .ref we, .ref se, .ref hq, .int (nI nt)])), (dp, .inl (cI, 2, .inl fd)), (we, .inl (cI, 20, .inl fw)), (se, .inl (cI, 20, .inl ((wt_fold (wt_trn fd fw fp fu fs fo cn f) 0 ((ft, ff), fe)).2))), (hm, .inr (0, [.ref pv, .ref up, .int (nI nr)])), (pv, .inl (cI, 10, .inl fp)), (up, .inl (cI, 10, .inl fu)), (hu, .inr (2, [.ref sd, .ref tw, .ref st, .ref od, .int (nI cn)])), (sd, .inl (cI, 12, .inl fs)), (tw, .inl (cI, 264, .inl ((wt_fold (wt_trn fd fw fp fu fs fo cn f) 0 ((ft, ff), fe)).1.1))), (st, .inl (cI, 264, .inl ((wt_fold (wt_trn fd fw fp fu fs fo cn f) 0 ((ft, ff), fe)).1.2))), (od, .inl (cI, 264, .inl fo))] s.heap := Eq.mp (congrArg (fun z9 : Nat → Int32 => va_P (dC, dI) vwCl [(h, .inr (3, [.ref hm, .ref dp, .ref hu, .ref we, .ref se, .ref hq, .int (nI nt)])), (dp, .inl (cI, 2, .inl fd)), (we, .inl (cI, 20, .inl fw)), (se, .inl (cI, 20, .inl ((wt_fold (wt_trn fd fw fp fu fs fo cn f) 0 ((ft, ff), fe)).2))), (hm, .inr (0, [.ref pv, .ref up, .int (nI nr)])), (pv, .inl (cI, 10, .inl fp)), (up, .inl (cI, 10, .inl fu)), (hu, .inr (2, [.ref sd, .ref tw, .ref st, .ref od, .int (nI cn)])), (sd, .inl (cI, 12, .inl fs)), (tw, .inl (cI, 264, .inl ((wt_fold (wt_trn fd fw fp fu fs fo cn f) 0 ((ft, ff), fe)).1.1))), (st, .inl (cI, 264, .inl z9)), (od, .inl (cI, 264, .inl fo))] s.heap) e4) hP
  have hD : va_D A [(h, .inr (3, [.ref hm, .ref dp, .ref hu, .ref we, .ref se, .ref hq, .int (nI nt)])), (dp, .inl (cI, 2, .inl fd)), (we, .inl (cI, 20, .inl fw)), (se, .inl (cI, 20, .inl ((wt_fold (wt_trn fd fw fp fu fs fo cn f) 0 ((ft, ff), fe)).2))), (hm, .inr (0, [.ref pv, .ref up, .int (nI nr)])), (pv, .inl (cI, 10, .inl fp)), (up, .inl (cI, 10, .inl fu)), (hu, .inr (2, [.ref sd, .ref tw, .ref st, .ref od, .int (nI cn)])), (sd, .inl (cI, 12, .inl fs)), (tw, .inl (cI, 264, .inl ((wt_fold (wt_trn fd fw fp fu fs fo cn f) 0 ((ft, ff), fe)).1.1))), (st, .inl (cI, 264, .inl ((wt_fold (wt_trn fd fw fp fu fs fo cn f) 0 ((ft, ff), fe)).1.2))), (od, .inl (cI, 264, .inl fo))] := wt_adr hD rfl
  refine wt_lpM (σ := Nat) 0 (fun j => nt - (f + j)) (fun j ls H locs => (f + j ≤ nt) ∧ lv_has ls 5 [(2, .int (nI (f + j))), (0, .ref h), (1, .int (nI f))] ∧ va_P (dC, dI) vwCl [(h, .inr (3, [.ref hm, .ref dp, .ref hu, .ref we, .ref se, .ref hq, .int (nI nt)])), (dp, .inl (cI, 2, .inl fd)), (we, .inl (cI, 20, .inl fw)), (se, .inl (cI, 20, .inl ((wt_fold (wt_trn fd fw fp fu fs fo cn f) j ((ft, ff), fe)).2))), (hm, .inr (0, [.ref pv, .ref up, .int (nI nr)])), (pv, .inl (cI, 10, .inl fp)), (up, .inl (cI, 10, .inl fu)), (hu, .inr (2, [.ref sd, .ref tw, .ref st, .ref od, .int (nI cn)])), (sd, .inl (cI, 12, .inl fs)), (tw, .inl (cI, 264, .inl ((wt_fold (wt_trn fd fw fp fu fs fo cn f) j ((ft, ff), fe)).1.1))), (st, .inl (cI, 264, .inl ((wt_fold (wt_trn fd fw fp fu fs fo cn f) j ((ft, ff), fe)).1.2))), (od, .inl (cI, 264, .inl fo))] H ∧ va_D A [(h, .inr (3, [.ref hm, .ref dp, .ref hu, .ref we, .ref se, .ref hq, .int (nI nt)])), (dp, .inl (cI, 2, .inl fd)), (we, .inl (cI, 20, .inl fw)), (se, .inl (cI, 20, .inl ((wt_fold (wt_trn fd fw fp fu fs fo cn f) j ((ft, ff), fe)).2))), (hm, .inr (0, [.ref pv, .ref up, .int (nI nr)])), (pv, .inl (cI, 10, .inl fp)), (up, .inl (cI, 10, .inl fu)), (hu, .inr (2, [.ref sd, .ref tw, .ref st, .ref od, .int (nI cn)])), (sd, .inl (cI, 12, .inl fs)), (tw, .inl (cI, 264, .inl ((wt_fold (wt_trn fd fw fp fu fs fo cn f) j ((ft, ff), fe)).1.1))), (st, .inl (cI, 264, .inl ((wt_fold (wt_trn fd fw fp fu fs fo cn f) j ((ft, ff), fe)).1.2))), (od, .inl (cI, 264, .inl fo))] ∧ va_S A s.heap H locs) ⟨(by omega), Eq.mp (congrArg (fun z9 : Int32 => lv_has ls 5 [(2, .int z9), (0, .ref h), (1, .int (nI f))]) e1) (lv_sub hl [0, 1, 2] rfl), hP, hD, hS⟩ (fun j ls H locs h9 ih_6 => ?_)
  obtain ⟨h_6_0, hl, hP, hD, hS⟩ := h9
  refine lv_iload_n hx hb dX3_playFrom_6 rfl (lv_at hl 0 rfl) ?_
  refine lv_aload_n hx hb dX3_playFrom_7 rfl (lv_at hl 1 rfl) ?_
  refine va_get (D := (dC, dI)) (ci := 3) (v := .int (nI nt)) (C := RX3) (T := TX3) (N := 7) hx hb hts inX3 hown hK hP 0 rfl rfl 6 (by decide) (hts (.fieldLink RX3 40 "WarTable" "turns" "I") (List.mem_of_getElem? (i := 5) rfl)) (fun _ h9 => h9) rfl dX3_playFrom_8 ?_
  refine wt_icmp_ge (tgt := 76) hx hb (by omega) (by omega) dX3_playFrom_11 (by decide) (fun c_11_5 => ?_) (fun c_11_5 => ?_)
  · have e6 : (wt_fold (wt_trn fd fw fp fu fs fo cn f) j ((ft, ff), fe)).2 = (wt_fold (wt_trn fd fw fp fu fs fo cn f) (nt - f) ((ft, ff), fe)).2 := (by rw [show j = nt - f by omega])
    have hP : va_P (dC, dI) vwCl [(h, .inr (3, [.ref hm, .ref dp, .ref hu, .ref we, .ref se, .ref hq, .int (nI nt)])), (dp, .inl (cI, 2, .inl fd)), (we, .inl (cI, 20, .inl fw)), (se, .inl (cI, 20, .inl ((wt_fold (wt_trn fd fw fp fu fs fo cn f) (nt - f) ((ft, ff), fe)).2))), (hm, .inr (0, [.ref pv, .ref up, .int (nI nr)])), (pv, .inl (cI, 10, .inl fp)), (up, .inl (cI, 10, .inl fu)), (hu, .inr (2, [.ref sd, .ref tw, .ref st, .ref od, .int (nI cn)])), (sd, .inl (cI, 12, .inl fs)), (tw, .inl (cI, 264, .inl ((wt_fold (wt_trn fd fw fp fu fs fo cn f) j ((ft, ff), fe)).1.1))), (st, .inl (cI, 264, .inl ((wt_fold (wt_trn fd fw fp fu fs fo cn f) j ((ft, ff), fe)).1.2))), (od, .inl (cI, 264, .inl fo))] H := Eq.mp (congrArg (fun z9 : Nat → Int32 => va_P (dC, dI) vwCl [(h, .inr (3, [.ref hm, .ref dp, .ref hu, .ref we, .ref se, .ref hq, .int (nI nt)])), (dp, .inl (cI, 2, .inl fd)), (we, .inl (cI, 20, .inl fw)), (se, .inl (cI, 20, .inl z9)), (hm, .inr (0, [.ref pv, .ref up, .int (nI nr)])), (pv, .inl (cI, 10, .inl fp)), (up, .inl (cI, 10, .inl fu)), (hu, .inr (2, [.ref sd, .ref tw, .ref st, .ref od, .int (nI cn)])), (sd, .inl (cI, 12, .inl fs)), (tw, .inl (cI, 264, .inl ((wt_fold (wt_trn fd fw fp fu fs fo cn f) j ((ft, ff), fe)).1.1))), (st, .inl (cI, 264, .inl ((wt_fold (wt_trn fd fw fp fu fs fo cn f) j ((ft, ff), fe)).1.2))), (od, .inl (cI, 264, .inl fo))] H) e6) hP
    have e7 : (wt_fold (wt_trn fd fw fp fu fs fo cn f) j ((ft, ff), fe)).1.1 = (wt_fold (wt_trn fd fw fp fu fs fo cn f) (nt - f) ((ft, ff), fe)).1.1 := (by rw [show j = nt - f by omega])
    have hP : va_P (dC, dI) vwCl [(h, .inr (3, [.ref hm, .ref dp, .ref hu, .ref we, .ref se, .ref hq, .int (nI nt)])), (dp, .inl (cI, 2, .inl fd)), (we, .inl (cI, 20, .inl fw)), (se, .inl (cI, 20, .inl ((wt_fold (wt_trn fd fw fp fu fs fo cn f) (nt - f) ((ft, ff), fe)).2))), (hm, .inr (0, [.ref pv, .ref up, .int (nI nr)])), (pv, .inl (cI, 10, .inl fp)), (up, .inl (cI, 10, .inl fu)), (hu, .inr (2, [.ref sd, .ref tw, .ref st, .ref od, .int (nI cn)])), (sd, .inl (cI, 12, .inl fs)), (tw, .inl (cI, 264, .inl ((wt_fold (wt_trn fd fw fp fu fs fo cn f) (nt - f) ((ft, ff), fe)).1.1))), (st, .inl (cI, 264, .inl ((wt_fold (wt_trn fd fw fp fu fs fo cn f) j ((ft, ff), fe)).1.2))), (od, .inl (cI, 264, .inl fo))] H := Eq.mp (congrArg (fun z9 : Nat → Int32 => va_P (dC, dI) vwCl [(h, .inr (3, [.ref hm, .ref dp, .ref hu, .ref we, .ref se, .ref hq, .int (nI nt)])), (dp, .inl (cI, 2, .inl fd)), (we, .inl (cI, 20, .inl fw)), (se, .inl (cI, 20, .inl ((wt_fold (wt_trn fd fw fp fu fs fo cn f) (nt - f) ((ft, ff), fe)).2))), (hm, .inr (0, [.ref pv, .ref up, .int (nI nr)])), (pv, .inl (cI, 10, .inl fp)), (up, .inl (cI, 10, .inl fu)), (hu, .inr (2, [.ref sd, .ref tw, .ref st, .ref od, .int (nI cn)])), (sd, .inl (cI, 12, .inl fs)), (tw, .inl (cI, 264, .inl z9)), (st, .inl (cI, 264, .inl ((wt_fold (wt_trn fd fw fp fu fs fo cn f) j ((ft, ff), fe)).1.2))), (od, .inl (cI, 264, .inl fo))] H) e7) hP
    have e8 : (wt_fold (wt_trn fd fw fp fu fs fo cn f) j ((ft, ff), fe)).1.2 = (wt_fold (wt_trn fd fw fp fu fs fo cn f) (nt - f) ((ft, ff), fe)).1.2 := (by rw [show j = nt - f by omega])
    have hP : va_P (dC, dI) vwCl [(h, .inr (3, [.ref hm, .ref dp, .ref hu, .ref we, .ref se, .ref hq, .int (nI nt)])), (dp, .inl (cI, 2, .inl fd)), (we, .inl (cI, 20, .inl fw)), (se, .inl (cI, 20, .inl ((wt_fold (wt_trn fd fw fp fu fs fo cn f) (nt - f) ((ft, ff), fe)).2))), (hm, .inr (0, [.ref pv, .ref up, .int (nI nr)])), (pv, .inl (cI, 10, .inl fp)), (up, .inl (cI, 10, .inl fu)), (hu, .inr (2, [.ref sd, .ref tw, .ref st, .ref od, .int (nI cn)])), (sd, .inl (cI, 12, .inl fs)), (tw, .inl (cI, 264, .inl ((wt_fold (wt_trn fd fw fp fu fs fo cn f) (nt - f) ((ft, ff), fe)).1.1))), (st, .inl (cI, 264, .inl ((wt_fold (wt_trn fd fw fp fu fs fo cn f) (nt - f) ((ft, ff), fe)).1.2))), (od, .inl (cI, 264, .inl fo))] H := Eq.mp (congrArg (fun z9 : Nat → Int32 => va_P (dC, dI) vwCl [(h, .inr (3, [.ref hm, .ref dp, .ref hu, .ref we, .ref se, .ref hq, .int (nI nt)])), (dp, .inl (cI, 2, .inl fd)), (we, .inl (cI, 20, .inl fw)), (se, .inl (cI, 20, .inl ((wt_fold (wt_trn fd fw fp fu fs fo cn f) (nt - f) ((ft, ff), fe)).2))), (hm, .inr (0, [.ref pv, .ref up, .int (nI nr)])), (pv, .inl (cI, 10, .inl fp)), (up, .inl (cI, 10, .inl fu)), (hu, .inr (2, [.ref sd, .ref tw, .ref st, .ref od, .int (nI cn)])), (sd, .inl (cI, 12, .inl fs)), (tw, .inl (cI, 264, .inl ((wt_fold (wt_trn fd fw fp fu fs fo cn f) (nt - f) ((ft, ff), fe)).1.1))), (st, .inl (cI, 264, .inl z9)), (od, .inl (cI, 264, .inl fo))] H) e8) hP
    have hD : va_D A [(h, .inr (3, [.ref hm, .ref dp, .ref hu, .ref we, .ref se, .ref hq, .int (nI nt)])), (dp, .inl (cI, 2, .inl fd)), (we, .inl (cI, 20, .inl fw)), (se, .inl (cI, 20, .inl ((wt_fold (wt_trn fd fw fp fu fs fo cn f) (nt - f) ((ft, ff), fe)).2))), (hm, .inr (0, [.ref pv, .ref up, .int (nI nr)])), (pv, .inl (cI, 10, .inl fp)), (up, .inl (cI, 10, .inl fu)), (hu, .inr (2, [.ref sd, .ref tw, .ref st, .ref od, .int (nI cn)])), (sd, .inl (cI, 12, .inl fs)), (tw, .inl (cI, 264, .inl ((wt_fold (wt_trn fd fw fp fu fs fo cn f) (nt - f) ((ft, ff), fe)).1.1))), (st, .inl (cI, 264, .inl ((wt_fold (wt_trn fd fw fp fu fs fo cn f) (nt - f) ((ft, ff), fe)).1.2))), (od, .inl (cI, 264, .inl fo))] := wt_adr hD rfl
    exact wt_mvret hx hb hr hP hS dX3_playFrom_76 hlocks
  · refine lv_iload_n hx hb dX3_playFrom_14 rfl (lv_at hl 0 rfl) ?_
    refine lv_bipush (v := nI 20) hx hb dX3_playFrom_15 (by decide +kernel) ?_
    refine wt_icmp_ge (tgt := 76) hx hb (by omega) (by omega) dX3_playFrom_17 (by decide) (fun c_17_9 => ?_) (fun c_17_9 => ?_)
    · exfalso; omega
    · refine lv_aload_n hx hb dX3_playFrom_20 rfl (lv_at hl 1 rfl) ?_
      refine va_get (D := (dC, dI)) (ci := 3) (v := .ref we) (C := RX3) (T := TX3) (N := 7) hx hb hts inX3 hown hK hP 0 rfl rfl 3 (by decide) (hts (.fieldLink RX3 27 "WarTable" "weathers" "[I") (List.mem_of_getElem? (i := 6) rfl)) (fun _ h9 => h9) rfl dX3_playFrom_21 ?_
      refine lv_iload_n hx hb dX3_playFrom_24 rfl (lv_at hl 0 rfl) ?_
      refine wt_iald hx hb hK hP 2 rfl (by omega) (by omega) dX3_playFrom_25 ?_
      refine lv_istore_n (lv' := [(3, .int (fw (f + j))), (2, .int (nI (f + j))), (0, .ref h), (1, .int (nI f))]) hx hb dX3_playFrom_26 rfl hl (by decide) rfl (fun ls hl => ?_)
      refine lv_aload_n hx hb dX3_playFrom_27 rfl (lv_at hl 2 rfl) ?_
      refine lv_iload_n hx hb dX3_playFrom_28 rfl (lv_at hl 1 rfl) ?_
      refine lv_iload_n hx hb dX3_playFrom_29 rfl (lv_at hl 0 rfl) ?_
      refine wt_ro_go (va_runV (As := [.int (nI (f + j)), .int (fw (f + j))]) (rest := []) ⟨hx, hb, hml, hown, hts⟩ (k_X3_suppliedUnits l dC dI cI h dp we se fd fw ((wt_fold (wt_trn fd fw fp fu fs fo cn f) j ((ft, ff), fe)).2) nt hm pv up fp fu nr hu sd tw st od fs ((wt_fold (wt_trn fd fw fp fu fs fo cn f) j ((ft, ff), fe)).1.1) ((wt_fold (wt_trn fd fw fp fu fs fo cn f) j ((ft, ff), fe)).1.2) fo cn hq (f + j) (fw (f + j)) (by omega) (by omega)) (cwV 2 hts gX3_playFrom_X3_suppliedUnits rfl rfl rfl (by decide +kernel) ⟨Nat.le_of_ble_eq_true rfl, Nat.le_of_ble_eq_true rfl⟩) (wt_PV (C := RX3) (T := TX3) (N := 7) (ci := 3) (q0 := 0) hK hP hN rfl rfl [0, 1, 2, 3, 4, 5, 6, 7, 8, 9, 10, 11] rfl) rfl rfl hl.1 rfl (lv_room (Nat.le_of_ble_eq_true rfl)) dX3_playFrom_30 ⟨Nat.zero_le _, Nat.zero_le _⟩) ?_
      refine lv_istore (lv' := [(4, .int (wt_sun fd fp fu fs ((wt_fold (wt_trn fd fw fp fu fs fo cn f) j ((ft, ff), fe)).1.1) cn (f + j) (fw (f + j)))), (3, .int (fw (f + j))), (2, .int (nI (f + j))), (0, .ref h), (1, .int (nI f))]) hx hb dX3_playFrom_33 hl (by decide) rfl (fun ls hl => ?_)
      refine lv_aload_n hx hb dX3_playFrom_35 rfl (lv_at hl 3 rfl) ?_
      refine lv_iload_n hx hb dX3_playFrom_36 rfl (lv_at hl 2 rfl) ?_
      refine lv_aload_n hx hb dX3_playFrom_37 rfl (lv_at hl 3 rfl) ?_
      refine lv_iload_n hx hb dX3_playFrom_38 rfl (lv_at hl 2 rfl) ?_
      refine lv_iload_n hx hb dX3_playFrom_39 rfl (lv_at hl 1 rfl) ?_
      refine lv_iload hx hb dX3_playFrom_40 (lv_at hl 0 rfl) ?_
      refine wt_ro_go (va_runV (As := [.int (nI (f + j)), .int (fw (f + j)), .int (wt_sun fd fp fu fs ((wt_fold (wt_trn fd fw fp fu fs fo cn f) j ((ft, ff), fe)).1.1) cn (f + j) (fw (f + j)))]) (rest := [.int (nI (f + j)), .ref h]) ⟨hx, hb, hml, hown, hts⟩ (k_X3_goers l dC dI cI h dp we se fd fw ((wt_fold (wt_trn fd fw fp fu fs fo cn f) j ((ft, ff), fe)).2) nt hm pv up fp fu nr hu sd tw st od fs ((wt_fold (wt_trn fd fw fp fu fs fo cn f) j ((ft, ff), fe)).1.1) ((wt_fold (wt_trn fd fw fp fu fs fo cn f) j ((ft, ff), fe)).1.2) fo cn hq (f + j) (fw (f + j)) (wt_sun fd fp fu fs ((wt_fold (wt_trn fd fw fp fu fs fo cn f) j ((ft, ff), fe)).1.1) cn (f + j) (fw (f + j))) (by omega) (by omega)) (cwV 3 hts gX3_playFrom_X3_goers rfl rfl rfl (by decide +kernel) ⟨Nat.le_of_ble_eq_true rfl, Nat.le_of_ble_eq_true rfl⟩) (wt_PV (C := RX3) (T := TX3) (N := 7) (ci := 3) (q0 := 0) hK hP hN rfl rfl [0, 1, 2, 3, 4, 5, 6, 7, 8, 9, 10, 11] rfl) rfl rfl hl.1 rfl (lv_room (Nat.le_of_ble_eq_true rfl)) dX3_playFrom_42 ⟨Nat.zero_le _, Nat.zero_le _⟩) ?_
      refine wt_mu_go (w1 := [(h, .inr (3, [.ref hm, .ref dp, .ref hu, .ref we, .ref se, .ref hq, .int (nI nt)])), (dp, .inl (cI, 2, .inl fd)), (we, .inl (cI, 20, .inl fw)), (se, .inl (cI, 20, .inl ((wt_fold (wt_trn fd fw fp fu fs fo cn f) j ((ft, ff), fe)).2))), (hm, .inr (0, [.ref pv, .ref up, .int (nI nr)])), (pv, .inl (cI, 10, .inl fp)), (up, .inl (cI, 10, .inl fu)), (hu, .inr (2, [.ref sd, .ref tw, .ref st, .ref od, .int (nI cn)])), (sd, .inl (cI, 12, .inl fs)), (tw, .inl (cI, 264, .inl ((wt_mar fs fo cn (f + j) (wt_goe fp fu ((wt_fold (wt_trn fd fw fp fu fs fo cn f) j ((ft, ff), fe)).1.1) fo cn (f + j) (fw (f + j)) (wt_sun fd fp fu fs ((wt_fold (wt_trn fd fw fp fu fs fo cn f) j ((ft, ff), fe)).1.1) cn (f + j) (fw (f + j)))) (((wt_fold (wt_trn fd fw fp fu fs fo cn f) j ((ft, ff), fe)).1.1), ((wt_fold (wt_trn fd fw fp fu fs fo cn f) j ((ft, ff), fe)).1.2))).1))), (st, .inl (cI, 264, .inl ((wt_mar fs fo cn (f + j) (wt_goe fp fu ((wt_fold (wt_trn fd fw fp fu fs fo cn f) j ((ft, ff), fe)).1.1) fo cn (f + j) (fw (f + j)) (wt_sun fd fp fu fs ((wt_fold (wt_trn fd fw fp fu fs fo cn f) j ((ft, ff), fe)).1.1) cn (f + j) (fw (f + j)))) (((wt_fold (wt_trn fd fw fp fu fs fo cn f) j ((ft, ff), fe)).1.1), ((wt_fold (wt_trn fd fw fp fu fs fo cn f) j ((ft, ff), fe)).1.2))).2))), (od, .inl (cI, 264, .inl fo))]) (w2 := [(h, .inr (3, [.ref hm, .ref dp, .ref hu, .ref we, .ref se, .ref hq, .int (nI nt)])), (dp, .inl (cI, 2, .inl fd)), (we, .inl (cI, 20, .inl fw)), (se, .inl (cI, 20, .inl ((wt_fold (wt_trn fd fw fp fu fs fo cn f) j ((ft, ff), fe)).2))), (hm, .inr (0, [.ref pv, .ref up, .int (nI nr)])), (pv, .inl (cI, 10, .inl fp)), (up, .inl (cI, 10, .inl fu)), (hu, .inr (2, [.ref sd, .ref tw, .ref st, .ref od, .int (nI cn)])), (sd, .inl (cI, 12, .inl fs)), (tw, .inl (cI, 264, .inl ((wt_mar fs fo cn (f + j) (wt_goe fp fu ((wt_fold (wt_trn fd fw fp fu fs fo cn f) j ((ft, ff), fe)).1.1) fo cn (f + j) (fw (f + j)) (wt_sun fd fp fu fs ((wt_fold (wt_trn fd fw fp fu fs fo cn f) j ((ft, ff), fe)).1.1) cn (f + j) (fw (f + j)))) (((wt_fold (wt_trn fd fw fp fu fs fo cn f) j ((ft, ff), fe)).1.1), ((wt_fold (wt_trn fd fw fp fu fs fo cn f) j ((ft, ff), fe)).1.2))).1))), (st, .inl (cI, 264, .inl ((wt_mar fs fo cn (f + j) (wt_goe fp fu ((wt_fold (wt_trn fd fw fp fu fs fo cn f) j ((ft, ff), fe)).1.1) fo cn (f + j) (fw (f + j)) (wt_sun fd fp fu fs ((wt_fold (wt_trn fd fw fp fu fs fo cn f) j ((ft, ff), fe)).1.1) cn (f + j) (fw (f + j)))) (((wt_fold (wt_trn fd fw fp fu fs fo cn f) j ((ft, ff), fe)).1.1), ((wt_fold (wt_trn fd fw fp fu fs fo cn f) j ((ft, ff), fe)).1.2))).2))), (od, .inl (cI, 264, .inl fo))]) (wr := []) (va_runV (As := [.int (nI (f + j)), .int (wt_goe fp fu ((wt_fold (wt_trn fd fw fp fu fs fo cn f) j ((ft, ff), fe)).1.1) fo cn (f + j) (fw (f + j)) (wt_sun fd fp fu fs ((wt_fold (wt_trn fd fw fp fu fs fo cn f) j ((ft, ff), fe)).1.1) cn (f + j) (fw (f + j))))]) (rest := []) ⟨hx, hb, hml, hown, hts⟩ (k_X3_march l dC dI cI h dp we se fd fw ((wt_fold (wt_trn fd fw fp fu fs fo cn f) j ((ft, ff), fe)).2) nt hm pv up fp fu nr hu sd tw st od fs ((wt_fold (wt_trn fd fw fp fu fs fo cn f) j ((ft, ff), fe)).1.1) ((wt_fold (wt_trn fd fw fp fu fs fo cn f) j ((ft, ff), fe)).1.2) fo cn hq (f + j) (wt_goe fp fu ((wt_fold (wt_trn fd fw fp fu fs fo cn f) j ((ft, ff), fe)).1.1) fo cn (f + j) (fw (f + j)) (wt_sun fd fp fu fs ((wt_fold (wt_trn fd fw fp fu fs fo cn f) j ((ft, ff), fe)).1.1) cn (f + j) (fw (f + j)))) H.size (by omega) (by omega)) (cwV 2 hts gX3_playFrom_X3_march rfl rfl rfl (by decide +kernel) ⟨Nat.le_of_ble_eq_true rfl, Nat.le_of_ble_eq_true rfl⟩) (wt_PVM (C := RX3) (T := TX3) (N := 7) (ci := 3) (q0 := 0) hK hP hN hD rfl rfl [0, 1, 2, 3, 4, 5, 6, 7, 8, 9, 10, 11] rfl rfl) rfl rfl hl.1 rfl (lv_room (Nat.le_of_ble_eq_true rfl)) dX3_playFrom_45 ⟨Nat.zero_le _, Nat.zero_le _⟩) hP hD hS hA [0, 1, 2, 3, 4, 5, 6, 7, 8, 9, 10, 11] [] rfl rfl rfl rfl (by decide) rfl [0, 1, 2, 3, 4, 5, 6, 7, 8, 9, 10, 11] rfl rfl (fun H locs hP hD hS hz9 => ?_)
      refine W.eq (g2 := F0 m 48 ls []) rfl ?_
      refine lv_aload_n hx hb dX3_playFrom_48 rfl (lv_at hl 3 rfl) ?_
      refine lv_iload_n hx hb dX3_playFrom_49 rfl (lv_at hl 2 rfl) ?_
      refine lv_iconst (v := nI 1) hx hb dX3_playFrom_50 (by decide +kernel) ?_
      refine wt_iadd hx hb dX3_playFrom_51 ?_
      refine lv_iload hx hb dX3_playFrom_52 (lv_at hl 0 rfl) ?_
      refine wt_mu_go (w1 := [(h, .inr (3, [.ref hm, .ref dp, .ref hu, .ref we, .ref se, .ref hq, .int (nI nt)])), (dp, .inl (cI, 2, .inl fd)), (we, .inl (cI, 20, .inl fw)), (se, .inl (cI, 20, .inl ((wt_fold (wt_trn fd fw fp fu fs fo cn f) j ((ft, ff), fe)).2))), (hm, .inr (0, [.ref pv, .ref up, .int (nI nr)])), (pv, .inl (cI, 10, .inl fp)), (up, .inl (cI, 10, .inl fu)), (hu, .inr (2, [.ref sd, .ref tw, .ref st, .ref od, .int (nI cn)])), (sd, .inl (cI, 12, .inl fs)), (tw, .inl (cI, 264, .inl ((wt_fev fs cn ((f + j) + 1) (wt_sun fd fp fu fs ((wt_fold (wt_trn fd fw fp fu fs fo cn f) j ((ft, ff), fe)).1.1) cn (f + j) (fw (f + j))) (((wt_mar fs fo cn (f + j) (wt_goe fp fu ((wt_fold (wt_trn fd fw fp fu fs fo cn f) j ((ft, ff), fe)).1.1) fo cn (f + j) (fw (f + j)) (wt_sun fd fp fu fs ((wt_fold (wt_trn fd fw fp fu fs fo cn f) j ((ft, ff), fe)).1.1) cn (f + j) (fw (f + j)))) (((wt_fold (wt_trn fd fw fp fu fs fo cn f) j ((ft, ff), fe)).1.1), ((wt_fold (wt_trn fd fw fp fu fs fo cn f) j ((ft, ff), fe)).1.2))).1), ((wt_mar fs fo cn (f + j) (wt_goe fp fu ((wt_fold (wt_trn fd fw fp fu fs fo cn f) j ((ft, ff), fe)).1.1) fo cn (f + j) (fw (f + j)) (wt_sun fd fp fu fs ((wt_fold (wt_trn fd fw fp fu fs fo cn f) j ((ft, ff), fe)).1.1) cn (f + j) (fw (f + j)))) (((wt_fold (wt_trn fd fw fp fu fs fo cn f) j ((ft, ff), fe)).1.1), ((wt_fold (wt_trn fd fw fp fu fs fo cn f) j ((ft, ff), fe)).1.2))).2))).1))), (st, .inl (cI, 264, .inl ((wt_fev fs cn ((f + j) + 1) (wt_sun fd fp fu fs ((wt_fold (wt_trn fd fw fp fu fs fo cn f) j ((ft, ff), fe)).1.1) cn (f + j) (fw (f + j))) (((wt_mar fs fo cn (f + j) (wt_goe fp fu ((wt_fold (wt_trn fd fw fp fu fs fo cn f) j ((ft, ff), fe)).1.1) fo cn (f + j) (fw (f + j)) (wt_sun fd fp fu fs ((wt_fold (wt_trn fd fw fp fu fs fo cn f) j ((ft, ff), fe)).1.1) cn (f + j) (fw (f + j)))) (((wt_fold (wt_trn fd fw fp fu fs fo cn f) j ((ft, ff), fe)).1.1), ((wt_fold (wt_trn fd fw fp fu fs fo cn f) j ((ft, ff), fe)).1.2))).1), ((wt_mar fs fo cn (f + j) (wt_goe fp fu ((wt_fold (wt_trn fd fw fp fu fs fo cn f) j ((ft, ff), fe)).1.1) fo cn (f + j) (fw (f + j)) (wt_sun fd fp fu fs ((wt_fold (wt_trn fd fw fp fu fs fo cn f) j ((ft, ff), fe)).1.1) cn (f + j) (fw (f + j)))) (((wt_fold (wt_trn fd fw fp fu fs fo cn f) j ((ft, ff), fe)).1.1), ((wt_fold (wt_trn fd fw fp fu fs fo cn f) j ((ft, ff), fe)).1.2))).2))).2))), (od, .inl (cI, 264, .inl fo))]) (w2 := [(h, .inr (3, [.ref hm, .ref dp, .ref hu, .ref we, .ref se, .ref hq, .int (nI nt)])), (dp, .inl (cI, 2, .inl fd)), (we, .inl (cI, 20, .inl fw)), (se, .inl (cI, 20, .inl ((wt_fold (wt_trn fd fw fp fu fs fo cn f) j ((ft, ff), fe)).2))), (hm, .inr (0, [.ref pv, .ref up, .int (nI nr)])), (pv, .inl (cI, 10, .inl fp)), (up, .inl (cI, 10, .inl fu)), (hu, .inr (2, [.ref sd, .ref tw, .ref st, .ref od, .int (nI cn)])), (sd, .inl (cI, 12, .inl fs)), (tw, .inl (cI, 264, .inl ((wt_fev fs cn ((f + j) + 1) (wt_sun fd fp fu fs ((wt_fold (wt_trn fd fw fp fu fs fo cn f) j ((ft, ff), fe)).1.1) cn (f + j) (fw (f + j))) (((wt_mar fs fo cn (f + j) (wt_goe fp fu ((wt_fold (wt_trn fd fw fp fu fs fo cn f) j ((ft, ff), fe)).1.1) fo cn (f + j) (fw (f + j)) (wt_sun fd fp fu fs ((wt_fold (wt_trn fd fw fp fu fs fo cn f) j ((ft, ff), fe)).1.1) cn (f + j) (fw (f + j)))) (((wt_fold (wt_trn fd fw fp fu fs fo cn f) j ((ft, ff), fe)).1.1), ((wt_fold (wt_trn fd fw fp fu fs fo cn f) j ((ft, ff), fe)).1.2))).1), ((wt_mar fs fo cn (f + j) (wt_goe fp fu ((wt_fold (wt_trn fd fw fp fu fs fo cn f) j ((ft, ff), fe)).1.1) fo cn (f + j) (fw (f + j)) (wt_sun fd fp fu fs ((wt_fold (wt_trn fd fw fp fu fs fo cn f) j ((ft, ff), fe)).1.1) cn (f + j) (fw (f + j)))) (((wt_fold (wt_trn fd fw fp fu fs fo cn f) j ((ft, ff), fe)).1.1), ((wt_fold (wt_trn fd fw fp fu fs fo cn f) j ((ft, ff), fe)).1.2))).2))).1))), (st, .inl (cI, 264, .inl ((wt_fev fs cn ((f + j) + 1) (wt_sun fd fp fu fs ((wt_fold (wt_trn fd fw fp fu fs fo cn f) j ((ft, ff), fe)).1.1) cn (f + j) (fw (f + j))) (((wt_mar fs fo cn (f + j) (wt_goe fp fu ((wt_fold (wt_trn fd fw fp fu fs fo cn f) j ((ft, ff), fe)).1.1) fo cn (f + j) (fw (f + j)) (wt_sun fd fp fu fs ((wt_fold (wt_trn fd fw fp fu fs fo cn f) j ((ft, ff), fe)).1.1) cn (f + j) (fw (f + j)))) (((wt_fold (wt_trn fd fw fp fu fs fo cn f) j ((ft, ff), fe)).1.1), ((wt_fold (wt_trn fd fw fp fu fs fo cn f) j ((ft, ff), fe)).1.2))).1), ((wt_mar fs fo cn (f + j) (wt_goe fp fu ((wt_fold (wt_trn fd fw fp fu fs fo cn f) j ((ft, ff), fe)).1.1) fo cn (f + j) (fw (f + j)) (wt_sun fd fp fu fs ((wt_fold (wt_trn fd fw fp fu fs fo cn f) j ((ft, ff), fe)).1.1) cn (f + j) (fw (f + j)))) (((wt_fold (wt_trn fd fw fp fu fs fo cn f) j ((ft, ff), fe)).1.1), ((wt_fold (wt_trn fd fw fp fu fs fo cn f) j ((ft, ff), fe)).1.2))).2))).2))), (od, .inl (cI, 264, .inl fo))]) (wr := []) (va_runV (As := [.int (nI ((f + j) + 1)), .int (wt_sun fd fp fu fs ((wt_fold (wt_trn fd fw fp fu fs fo cn f) j ((ft, ff), fe)).1.1) cn (f + j) (fw (f + j)))]) (rest := []) ⟨hx, hb, hml, hown, hts⟩ (k_X3_fightEverywhere l dC dI cI h dp we se fd fw ((wt_fold (wt_trn fd fw fp fu fs fo cn f) j ((ft, ff), fe)).2) nt hm pv up fp fu nr hu sd tw st od fs ((wt_mar fs fo cn (f + j) (wt_goe fp fu ((wt_fold (wt_trn fd fw fp fu fs fo cn f) j ((ft, ff), fe)).1.1) fo cn (f + j) (fw (f + j)) (wt_sun fd fp fu fs ((wt_fold (wt_trn fd fw fp fu fs fo cn f) j ((ft, ff), fe)).1.1) cn (f + j) (fw (f + j)))) (((wt_fold (wt_trn fd fw fp fu fs fo cn f) j ((ft, ff), fe)).1.1), ((wt_fold (wt_trn fd fw fp fu fs fo cn f) j ((ft, ff), fe)).1.2))).1) ((wt_mar fs fo cn (f + j) (wt_goe fp fu ((wt_fold (wt_trn fd fw fp fu fs fo cn f) j ((ft, ff), fe)).1.1) fo cn (f + j) (fw (f + j)) (wt_sun fd fp fu fs ((wt_fold (wt_trn fd fw fp fu fs fo cn f) j ((ft, ff), fe)).1.1) cn (f + j) (fw (f + j)))) (((wt_fold (wt_trn fd fw fp fu fs fo cn f) j ((ft, ff), fe)).1.1), ((wt_fold (wt_trn fd fw fp fu fs fo cn f) j ((ft, ff), fe)).1.2))).2) fo cn hq ((f + j) + 1) (wt_sun fd fp fu fs ((wt_fold (wt_trn fd fw fp fu fs fo cn f) j ((ft, ff), fe)).1.1) cn (f + j) (fw (f + j))) H.size (by omega) (by omega)) (cwV 2 hts gX3_playFrom_X3_fightEverywhere rfl rfl rfl (by decide +kernel) ⟨Nat.le_of_ble_eq_true rfl, Nat.le_of_ble_eq_true rfl⟩) (wt_PVM (C := RX3) (T := TX3) (N := 7) (ci := 3) (q0 := 0) hK hP hN hD rfl rfl [0, 1, 2, 3, 4, 5, 6, 7, 8, 9, 10, 11] rfl rfl) rfl rfl hl.1 rfl (lv_room (Nat.le_of_ble_eq_true rfl)) dX3_playFrom_54 ⟨Nat.zero_le _, Nat.zero_le _⟩) hP hD hS hA [0, 1, 2, 3, 4, 5, 6, 7, 8, 9, 10, 11] [] rfl rfl rfl rfl (by decide) rfl [0, 1, 2, 3, 4, 5, 6, 7, 8, 9, 10, 11] rfl rfl (fun H locs hP hD hS hz9 => ?_)
      refine W.eq (g2 := F0 m 57 ls []) rfl ?_
      refine lv_aload_n hx hb dX3_playFrom_57 rfl (lv_at hl 3 rfl) ?_
      refine va_get (D := (dC, dI)) (ci := 3) (v := .ref se) (C := RX3) (T := TX3) (N := 7) hx hb hts inX3 hown hK hP 0 rfl rfl 4 (by decide) (hts (.fieldLink RX3 30 "WarTable" "seen" "[I") (List.mem_of_getElem? (i := 7) rfl)) (fun _ h9 => h9) rfl dX3_playFrom_58 ?_
      refine lv_iload_n hx hb dX3_playFrom_61 rfl (lv_at hl 2 rfl) ?_
      refine lv_aload_n hx hb dX3_playFrom_62 rfl (lv_at hl 3 rfl) ?_
      refine lv_iload_n hx hb dX3_playFrom_63 rfl (lv_at hl 2 rfl) ?_
      refine lv_iconst (v := nI 1) hx hb dX3_playFrom_64 (by decide +kernel) ?_
      refine wt_iadd hx hb dX3_playFrom_65 ?_
      refine wt_ro_go (va_runV (As := [.int (nI ((f + j) + 1))]) (rest := [.int (nI (f + j)), .ref se]) ⟨hx, hb, hml, hown, hts⟩ (k_X3_unitsInSight l dC dI cI h dp we se fd fw ((wt_fold (wt_trn fd fw fp fu fs fo cn f) j ((ft, ff), fe)).2) nt hm pv up fp fu nr hu sd tw st od fs ((wt_fev fs cn ((f + j) + 1) (wt_sun fd fp fu fs ((wt_fold (wt_trn fd fw fp fu fs fo cn f) j ((ft, ff), fe)).1.1) cn (f + j) (fw (f + j))) (((wt_mar fs fo cn (f + j) (wt_goe fp fu ((wt_fold (wt_trn fd fw fp fu fs fo cn f) j ((ft, ff), fe)).1.1) fo cn (f + j) (fw (f + j)) (wt_sun fd fp fu fs ((wt_fold (wt_trn fd fw fp fu fs fo cn f) j ((ft, ff), fe)).1.1) cn (f + j) (fw (f + j)))) (((wt_fold (wt_trn fd fw fp fu fs fo cn f) j ((ft, ff), fe)).1.1), ((wt_fold (wt_trn fd fw fp fu fs fo cn f) j ((ft, ff), fe)).1.2))).1), ((wt_mar fs fo cn (f + j) (wt_goe fp fu ((wt_fold (wt_trn fd fw fp fu fs fo cn f) j ((ft, ff), fe)).1.1) fo cn (f + j) (fw (f + j)) (wt_sun fd fp fu fs ((wt_fold (wt_trn fd fw fp fu fs fo cn f) j ((ft, ff), fe)).1.1) cn (f + j) (fw (f + j)))) (((wt_fold (wt_trn fd fw fp fu fs fo cn f) j ((ft, ff), fe)).1.1), ((wt_fold (wt_trn fd fw fp fu fs fo cn f) j ((ft, ff), fe)).1.2))).2))).1) ((wt_fev fs cn ((f + j) + 1) (wt_sun fd fp fu fs ((wt_fold (wt_trn fd fw fp fu fs fo cn f) j ((ft, ff), fe)).1.1) cn (f + j) (fw (f + j))) (((wt_mar fs fo cn (f + j) (wt_goe fp fu ((wt_fold (wt_trn fd fw fp fu fs fo cn f) j ((ft, ff), fe)).1.1) fo cn (f + j) (fw (f + j)) (wt_sun fd fp fu fs ((wt_fold (wt_trn fd fw fp fu fs fo cn f) j ((ft, ff), fe)).1.1) cn (f + j) (fw (f + j)))) (((wt_fold (wt_trn fd fw fp fu fs fo cn f) j ((ft, ff), fe)).1.1), ((wt_fold (wt_trn fd fw fp fu fs fo cn f) j ((ft, ff), fe)).1.2))).1), ((wt_mar fs fo cn (f + j) (wt_goe fp fu ((wt_fold (wt_trn fd fw fp fu fs fo cn f) j ((ft, ff), fe)).1.1) fo cn (f + j) (fw (f + j)) (wt_sun fd fp fu fs ((wt_fold (wt_trn fd fw fp fu fs fo cn f) j ((ft, ff), fe)).1.1) cn (f + j) (fw (f + j)))) (((wt_fold (wt_trn fd fw fp fu fs fo cn f) j ((ft, ff), fe)).1.1), ((wt_fold (wt_trn fd fw fp fu fs fo cn f) j ((ft, ff), fe)).1.2))).2))).2) fo cn hq ((f + j) + 1) (by omega) (by omega)) (cwV 1 hts gX3_playFrom_X3_unitsInSight rfl rfl rfl (by decide +kernel) ⟨Nat.le_of_ble_eq_true rfl, Nat.le_of_ble_eq_true rfl⟩) (wt_PV (C := RX3) (T := TX3) (N := 7) (ci := 3) (q0 := 0) hK hP hN rfl rfl [0, 1, 2, 3, 4, 5, 6, 7, 8, 9, 10, 11] rfl) rfl rfl hl.1 rfl (lv_room (Nat.le_of_ble_eq_true rfl)) dX3_playFrom_66 ⟨Nat.zero_le _, Nat.zero_le _⟩) ?_
      refine wt_iast hx hb hK hP hD hS 3 rfl (by omega) (by omega) dX3_playFrom_69 (fun H locs hP hD hS => ?_)
      have hP : va_P (dC, dI) vwCl [(h, .inr (3, [.ref hm, .ref dp, .ref hu, .ref we, .ref se, .ref hq, .int (nI nt)])), (dp, .inl (cI, 2, .inl fd)), (we, .inl (cI, 20, .inl fw)), (se, .inl (cI, 20, .inl (upd ((wt_fold (wt_trn fd fw fp fu fs fo cn f) j ((ft, ff), fe)).2) (f + j) (wt_sig fp fu fs ((wt_fev fs cn ((f + j) + 1) (wt_sun fd fp fu fs ((wt_fold (wt_trn fd fw fp fu fs fo cn f) j ((ft, ff), fe)).1.1) cn (f + j) (fw (f + j))) (((wt_mar fs fo cn (f + j) (wt_goe fp fu ((wt_fold (wt_trn fd fw fp fu fs fo cn f) j ((ft, ff), fe)).1.1) fo cn (f + j) (fw (f + j)) (wt_sun fd fp fu fs ((wt_fold (wt_trn fd fw fp fu fs fo cn f) j ((ft, ff), fe)).1.1) cn (f + j) (fw (f + j)))) (((wt_fold (wt_trn fd fw fp fu fs fo cn f) j ((ft, ff), fe)).1.1), ((wt_fold (wt_trn fd fw fp fu fs fo cn f) j ((ft, ff), fe)).1.2))).1), ((wt_mar fs fo cn (f + j) (wt_goe fp fu ((wt_fold (wt_trn fd fw fp fu fs fo cn f) j ((ft, ff), fe)).1.1) fo cn (f + j) (fw (f + j)) (wt_sun fd fp fu fs ((wt_fold (wt_trn fd fw fp fu fs fo cn f) j ((ft, ff), fe)).1.1) cn (f + j) (fw (f + j)))) (((wt_fold (wt_trn fd fw fp fu fs fo cn f) j ((ft, ff), fe)).1.1), ((wt_fold (wt_trn fd fw fp fu fs fo cn f) j ((ft, ff), fe)).1.2))).2))).1) cn ((f + j) + 1))))), (hm, .inr (0, [.ref pv, .ref up, .int (nI nr)])), (pv, .inl (cI, 10, .inl fp)), (up, .inl (cI, 10, .inl fu)), (hu, .inr (2, [.ref sd, .ref tw, .ref st, .ref od, .int (nI cn)])), (sd, .inl (cI, 12, .inl fs)), (tw, .inl (cI, 264, .inl ((wt_fev fs cn ((f + j) + 1) (wt_sun fd fp fu fs ((wt_fold (wt_trn fd fw fp fu fs fo cn f) j ((ft, ff), fe)).1.1) cn (f + j) (fw (f + j))) (((wt_mar fs fo cn (f + j) (wt_goe fp fu ((wt_fold (wt_trn fd fw fp fu fs fo cn f) j ((ft, ff), fe)).1.1) fo cn (f + j) (fw (f + j)) (wt_sun fd fp fu fs ((wt_fold (wt_trn fd fw fp fu fs fo cn f) j ((ft, ff), fe)).1.1) cn (f + j) (fw (f + j)))) (((wt_fold (wt_trn fd fw fp fu fs fo cn f) j ((ft, ff), fe)).1.1), ((wt_fold (wt_trn fd fw fp fu fs fo cn f) j ((ft, ff), fe)).1.2))).1), ((wt_mar fs fo cn (f + j) (wt_goe fp fu ((wt_fold (wt_trn fd fw fp fu fs fo cn f) j ((ft, ff), fe)).1.1) fo cn (f + j) (fw (f + j)) (wt_sun fd fp fu fs ((wt_fold (wt_trn fd fw fp fu fs fo cn f) j ((ft, ff), fe)).1.1) cn (f + j) (fw (f + j)))) (((wt_fold (wt_trn fd fw fp fu fs fo cn f) j ((ft, ff), fe)).1.1), ((wt_fold (wt_trn fd fw fp fu fs fo cn f) j ((ft, ff), fe)).1.2))).2))).1))), (st, .inl (cI, 264, .inl ((wt_fev fs cn ((f + j) + 1) (wt_sun fd fp fu fs ((wt_fold (wt_trn fd fw fp fu fs fo cn f) j ((ft, ff), fe)).1.1) cn (f + j) (fw (f + j))) (((wt_mar fs fo cn (f + j) (wt_goe fp fu ((wt_fold (wt_trn fd fw fp fu fs fo cn f) j ((ft, ff), fe)).1.1) fo cn (f + j) (fw (f + j)) (wt_sun fd fp fu fs ((wt_fold (wt_trn fd fw fp fu fs fo cn f) j ((ft, ff), fe)).1.1) cn (f + j) (fw (f + j)))) (((wt_fold (wt_trn fd fw fp fu fs fo cn f) j ((ft, ff), fe)).1.1), ((wt_fold (wt_trn fd fw fp fu fs fo cn f) j ((ft, ff), fe)).1.2))).1), ((wt_mar fs fo cn (f + j) (wt_goe fp fu ((wt_fold (wt_trn fd fw fp fu fs fo cn f) j ((ft, ff), fe)).1.1) fo cn (f + j) (fw (f + j)) (wt_sun fd fp fu fs ((wt_fold (wt_trn fd fw fp fu fs fo cn f) j ((ft, ff), fe)).1.1) cn (f + j) (fw (f + j)))) (((wt_fold (wt_trn fd fw fp fu fs fo cn f) j ((ft, ff), fe)).1.1), ((wt_fold (wt_trn fd fw fp fu fs fo cn f) j ((ft, ff), fe)).1.2))).2))).2))), (od, .inl (cI, 264, .inl fo))] H := hP
      have hD : va_D A [(h, .inr (3, [.ref hm, .ref dp, .ref hu, .ref we, .ref se, .ref hq, .int (nI nt)])), (dp, .inl (cI, 2, .inl fd)), (we, .inl (cI, 20, .inl fw)), (se, .inl (cI, 20, .inl (upd ((wt_fold (wt_trn fd fw fp fu fs fo cn f) j ((ft, ff), fe)).2) (f + j) (wt_sig fp fu fs ((wt_fev fs cn ((f + j) + 1) (wt_sun fd fp fu fs ((wt_fold (wt_trn fd fw fp fu fs fo cn f) j ((ft, ff), fe)).1.1) cn (f + j) (fw (f + j))) (((wt_mar fs fo cn (f + j) (wt_goe fp fu ((wt_fold (wt_trn fd fw fp fu fs fo cn f) j ((ft, ff), fe)).1.1) fo cn (f + j) (fw (f + j)) (wt_sun fd fp fu fs ((wt_fold (wt_trn fd fw fp fu fs fo cn f) j ((ft, ff), fe)).1.1) cn (f + j) (fw (f + j)))) (((wt_fold (wt_trn fd fw fp fu fs fo cn f) j ((ft, ff), fe)).1.1), ((wt_fold (wt_trn fd fw fp fu fs fo cn f) j ((ft, ff), fe)).1.2))).1), ((wt_mar fs fo cn (f + j) (wt_goe fp fu ((wt_fold (wt_trn fd fw fp fu fs fo cn f) j ((ft, ff), fe)).1.1) fo cn (f + j) (fw (f + j)) (wt_sun fd fp fu fs ((wt_fold (wt_trn fd fw fp fu fs fo cn f) j ((ft, ff), fe)).1.1) cn (f + j) (fw (f + j)))) (((wt_fold (wt_trn fd fw fp fu fs fo cn f) j ((ft, ff), fe)).1.1), ((wt_fold (wt_trn fd fw fp fu fs fo cn f) j ((ft, ff), fe)).1.2))).2))).1) cn ((f + j) + 1))))), (hm, .inr (0, [.ref pv, .ref up, .int (nI nr)])), (pv, .inl (cI, 10, .inl fp)), (up, .inl (cI, 10, .inl fu)), (hu, .inr (2, [.ref sd, .ref tw, .ref st, .ref od, .int (nI cn)])), (sd, .inl (cI, 12, .inl fs)), (tw, .inl (cI, 264, .inl ((wt_fev fs cn ((f + j) + 1) (wt_sun fd fp fu fs ((wt_fold (wt_trn fd fw fp fu fs fo cn f) j ((ft, ff), fe)).1.1) cn (f + j) (fw (f + j))) (((wt_mar fs fo cn (f + j) (wt_goe fp fu ((wt_fold (wt_trn fd fw fp fu fs fo cn f) j ((ft, ff), fe)).1.1) fo cn (f + j) (fw (f + j)) (wt_sun fd fp fu fs ((wt_fold (wt_trn fd fw fp fu fs fo cn f) j ((ft, ff), fe)).1.1) cn (f + j) (fw (f + j)))) (((wt_fold (wt_trn fd fw fp fu fs fo cn f) j ((ft, ff), fe)).1.1), ((wt_fold (wt_trn fd fw fp fu fs fo cn f) j ((ft, ff), fe)).1.2))).1), ((wt_mar fs fo cn (f + j) (wt_goe fp fu ((wt_fold (wt_trn fd fw fp fu fs fo cn f) j ((ft, ff), fe)).1.1) fo cn (f + j) (fw (f + j)) (wt_sun fd fp fu fs ((wt_fold (wt_trn fd fw fp fu fs fo cn f) j ((ft, ff), fe)).1.1) cn (f + j) (fw (f + j)))) (((wt_fold (wt_trn fd fw fp fu fs fo cn f) j ((ft, ff), fe)).1.1), ((wt_fold (wt_trn fd fw fp fu fs fo cn f) j ((ft, ff), fe)).1.2))).2))).1))), (st, .inl (cI, 264, .inl ((wt_fev fs cn ((f + j) + 1) (wt_sun fd fp fu fs ((wt_fold (wt_trn fd fw fp fu fs fo cn f) j ((ft, ff), fe)).1.1) cn (f + j) (fw (f + j))) (((wt_mar fs fo cn (f + j) (wt_goe fp fu ((wt_fold (wt_trn fd fw fp fu fs fo cn f) j ((ft, ff), fe)).1.1) fo cn (f + j) (fw (f + j)) (wt_sun fd fp fu fs ((wt_fold (wt_trn fd fw fp fu fs fo cn f) j ((ft, ff), fe)).1.1) cn (f + j) (fw (f + j)))) (((wt_fold (wt_trn fd fw fp fu fs fo cn f) j ((ft, ff), fe)).1.1), ((wt_fold (wt_trn fd fw fp fu fs fo cn f) j ((ft, ff), fe)).1.2))).1), ((wt_mar fs fo cn (f + j) (wt_goe fp fu ((wt_fold (wt_trn fd fw fp fu fs fo cn f) j ((ft, ff), fe)).1.1) fo cn (f + j) (fw (f + j)) (wt_sun fd fp fu fs ((wt_fold (wt_trn fd fw fp fu fs fo cn f) j ((ft, ff), fe)).1.1) cn (f + j) (fw (f + j)))) (((wt_fold (wt_trn fd fw fp fu fs fo cn f) j ((ft, ff), fe)).1.1), ((wt_fold (wt_trn fd fw fp fu fs fo cn f) j ((ft, ff), fe)).1.2))).2))).2))), (od, .inl (cI, 264, .inl fo))] := hD
      refine lv_iinc (v := nI ((f + j) + 1)) (lv' := [(2, .int (nI ((f + j) + 1))), (4, .int (wt_sun fd fp fu fs ((wt_fold (wt_trn fd fw fp fu fs fo cn f) j ((ft, ff), fe)).1.1) cn (f + j) (fw (f + j)))), (3, .int (fw (f + j))), (0, .ref h), (1, .int (nI f))]) hx hb dX3_playFrom_70 hl (k := 2) rfl (nI_1 (f + j)) (by decide) rfl (fun ls hl => ?_)
      refine lv_goto (tgt := 6) hx hb dX3_playFrom_73 (by decide) ?_
      have e10 : nI ((f + j) + 1) = nI (f + (j + 1)) := (congrArg nI (by omega))
      have e11 : (upd ((wt_fold (wt_trn fd fw fp fu fs fo cn f) j ((ft, ff), fe)).2) (f + j) (wt_sig fp fu fs ((wt_fev fs cn ((f + j) + 1) (wt_sun fd fp fu fs ((wt_fold (wt_trn fd fw fp fu fs fo cn f) j ((ft, ff), fe)).1.1) cn (f + j) (fw (f + j))) (((wt_mar fs fo cn (f + j) (wt_goe fp fu ((wt_fold (wt_trn fd fw fp fu fs fo cn f) j ((ft, ff), fe)).1.1) fo cn (f + j) (fw (f + j)) (wt_sun fd fp fu fs ((wt_fold (wt_trn fd fw fp fu fs fo cn f) j ((ft, ff), fe)).1.1) cn (f + j) (fw (f + j)))) (((wt_fold (wt_trn fd fw fp fu fs fo cn f) j ((ft, ff), fe)).1.1), ((wt_fold (wt_trn fd fw fp fu fs fo cn f) j ((ft, ff), fe)).1.2))).1), ((wt_mar fs fo cn (f + j) (wt_goe fp fu ((wt_fold (wt_trn fd fw fp fu fs fo cn f) j ((ft, ff), fe)).1.1) fo cn (f + j) (fw (f + j)) (wt_sun fd fp fu fs ((wt_fold (wt_trn fd fw fp fu fs fo cn f) j ((ft, ff), fe)).1.1) cn (f + j) (fw (f + j)))) (((wt_fold (wt_trn fd fw fp fu fs fo cn f) j ((ft, ff), fe)).1.1), ((wt_fold (wt_trn fd fw fp fu fs fo cn f) j ((ft, ff), fe)).1.2))).2))).1) cn ((f + j) + 1))) = (wt_fold (wt_trn fd fw fp fu fs fo cn f) (j + 1) ((ft, ff), fe)).2 := (by simp only [wt_fold_s, wt_trn, wt_tr2, wt_eta])
      have hP : va_P (dC, dI) vwCl [(h, .inr (3, [.ref hm, .ref dp, .ref hu, .ref we, .ref se, .ref hq, .int (nI nt)])), (dp, .inl (cI, 2, .inl fd)), (we, .inl (cI, 20, .inl fw)), (se, .inl (cI, 20, .inl ((wt_fold (wt_trn fd fw fp fu fs fo cn f) (j + 1) ((ft, ff), fe)).2))), (hm, .inr (0, [.ref pv, .ref up, .int (nI nr)])), (pv, .inl (cI, 10, .inl fp)), (up, .inl (cI, 10, .inl fu)), (hu, .inr (2, [.ref sd, .ref tw, .ref st, .ref od, .int (nI cn)])), (sd, .inl (cI, 12, .inl fs)), (tw, .inl (cI, 264, .inl ((wt_fev fs cn ((f + j) + 1) (wt_sun fd fp fu fs ((wt_fold (wt_trn fd fw fp fu fs fo cn f) j ((ft, ff), fe)).1.1) cn (f + j) (fw (f + j))) (((wt_mar fs fo cn (f + j) (wt_goe fp fu ((wt_fold (wt_trn fd fw fp fu fs fo cn f) j ((ft, ff), fe)).1.1) fo cn (f + j) (fw (f + j)) (wt_sun fd fp fu fs ((wt_fold (wt_trn fd fw fp fu fs fo cn f) j ((ft, ff), fe)).1.1) cn (f + j) (fw (f + j)))) (((wt_fold (wt_trn fd fw fp fu fs fo cn f) j ((ft, ff), fe)).1.1), ((wt_fold (wt_trn fd fw fp fu fs fo cn f) j ((ft, ff), fe)).1.2))).1), ((wt_mar fs fo cn (f + j) (wt_goe fp fu ((wt_fold (wt_trn fd fw fp fu fs fo cn f) j ((ft, ff), fe)).1.1) fo cn (f + j) (fw (f + j)) (wt_sun fd fp fu fs ((wt_fold (wt_trn fd fw fp fu fs fo cn f) j ((ft, ff), fe)).1.1) cn (f + j) (fw (f + j)))) (((wt_fold (wt_trn fd fw fp fu fs fo cn f) j ((ft, ff), fe)).1.1), ((wt_fold (wt_trn fd fw fp fu fs fo cn f) j ((ft, ff), fe)).1.2))).2))).1))), (st, .inl (cI, 264, .inl ((wt_fev fs cn ((f + j) + 1) (wt_sun fd fp fu fs ((wt_fold (wt_trn fd fw fp fu fs fo cn f) j ((ft, ff), fe)).1.1) cn (f + j) (fw (f + j))) (((wt_mar fs fo cn (f + j) (wt_goe fp fu ((wt_fold (wt_trn fd fw fp fu fs fo cn f) j ((ft, ff), fe)).1.1) fo cn (f + j) (fw (f + j)) (wt_sun fd fp fu fs ((wt_fold (wt_trn fd fw fp fu fs fo cn f) j ((ft, ff), fe)).1.1) cn (f + j) (fw (f + j)))) (((wt_fold (wt_trn fd fw fp fu fs fo cn f) j ((ft, ff), fe)).1.1), ((wt_fold (wt_trn fd fw fp fu fs fo cn f) j ((ft, ff), fe)).1.2))).1), ((wt_mar fs fo cn (f + j) (wt_goe fp fu ((wt_fold (wt_trn fd fw fp fu fs fo cn f) j ((ft, ff), fe)).1.1) fo cn (f + j) (fw (f + j)) (wt_sun fd fp fu fs ((wt_fold (wt_trn fd fw fp fu fs fo cn f) j ((ft, ff), fe)).1.1) cn (f + j) (fw (f + j)))) (((wt_fold (wt_trn fd fw fp fu fs fo cn f) j ((ft, ff), fe)).1.1), ((wt_fold (wt_trn fd fw fp fu fs fo cn f) j ((ft, ff), fe)).1.2))).2))).2))), (od, .inl (cI, 264, .inl fo))] H := Eq.mp (congrArg (fun z9 : Nat → Int32 => va_P (dC, dI) vwCl [(h, .inr (3, [.ref hm, .ref dp, .ref hu, .ref we, .ref se, .ref hq, .int (nI nt)])), (dp, .inl (cI, 2, .inl fd)), (we, .inl (cI, 20, .inl fw)), (se, .inl (cI, 20, .inl z9)), (hm, .inr (0, [.ref pv, .ref up, .int (nI nr)])), (pv, .inl (cI, 10, .inl fp)), (up, .inl (cI, 10, .inl fu)), (hu, .inr (2, [.ref sd, .ref tw, .ref st, .ref od, .int (nI cn)])), (sd, .inl (cI, 12, .inl fs)), (tw, .inl (cI, 264, .inl ((wt_fev fs cn ((f + j) + 1) (wt_sun fd fp fu fs ((wt_fold (wt_trn fd fw fp fu fs fo cn f) j ((ft, ff), fe)).1.1) cn (f + j) (fw (f + j))) (((wt_mar fs fo cn (f + j) (wt_goe fp fu ((wt_fold (wt_trn fd fw fp fu fs fo cn f) j ((ft, ff), fe)).1.1) fo cn (f + j) (fw (f + j)) (wt_sun fd fp fu fs ((wt_fold (wt_trn fd fw fp fu fs fo cn f) j ((ft, ff), fe)).1.1) cn (f + j) (fw (f + j)))) (((wt_fold (wt_trn fd fw fp fu fs fo cn f) j ((ft, ff), fe)).1.1), ((wt_fold (wt_trn fd fw fp fu fs fo cn f) j ((ft, ff), fe)).1.2))).1), ((wt_mar fs fo cn (f + j) (wt_goe fp fu ((wt_fold (wt_trn fd fw fp fu fs fo cn f) j ((ft, ff), fe)).1.1) fo cn (f + j) (fw (f + j)) (wt_sun fd fp fu fs ((wt_fold (wt_trn fd fw fp fu fs fo cn f) j ((ft, ff), fe)).1.1) cn (f + j) (fw (f + j)))) (((wt_fold (wt_trn fd fw fp fu fs fo cn f) j ((ft, ff), fe)).1.1), ((wt_fold (wt_trn fd fw fp fu fs fo cn f) j ((ft, ff), fe)).1.2))).2))).1))), (st, .inl (cI, 264, .inl ((wt_fev fs cn ((f + j) + 1) (wt_sun fd fp fu fs ((wt_fold (wt_trn fd fw fp fu fs fo cn f) j ((ft, ff), fe)).1.1) cn (f + j) (fw (f + j))) (((wt_mar fs fo cn (f + j) (wt_goe fp fu ((wt_fold (wt_trn fd fw fp fu fs fo cn f) j ((ft, ff), fe)).1.1) fo cn (f + j) (fw (f + j)) (wt_sun fd fp fu fs ((wt_fold (wt_trn fd fw fp fu fs fo cn f) j ((ft, ff), fe)).1.1) cn (f + j) (fw (f + j)))) (((wt_fold (wt_trn fd fw fp fu fs fo cn f) j ((ft, ff), fe)).1.1), ((wt_fold (wt_trn fd fw fp fu fs fo cn f) j ((ft, ff), fe)).1.2))).1), ((wt_mar fs fo cn (f + j) (wt_goe fp fu ((wt_fold (wt_trn fd fw fp fu fs fo cn f) j ((ft, ff), fe)).1.1) fo cn (f + j) (fw (f + j)) (wt_sun fd fp fu fs ((wt_fold (wt_trn fd fw fp fu fs fo cn f) j ((ft, ff), fe)).1.1) cn (f + j) (fw (f + j)))) (((wt_fold (wt_trn fd fw fp fu fs fo cn f) j ((ft, ff), fe)).1.1), ((wt_fold (wt_trn fd fw fp fu fs fo cn f) j ((ft, ff), fe)).1.2))).2))).2))), (od, .inl (cI, 264, .inl fo))] H) e11) hP
      have e12 : (wt_fev fs cn ((f + j) + 1) (wt_sun fd fp fu fs ((wt_fold (wt_trn fd fw fp fu fs fo cn f) j ((ft, ff), fe)).1.1) cn (f + j) (fw (f + j))) (((wt_mar fs fo cn (f + j) (wt_goe fp fu ((wt_fold (wt_trn fd fw fp fu fs fo cn f) j ((ft, ff), fe)).1.1) fo cn (f + j) (fw (f + j)) (wt_sun fd fp fu fs ((wt_fold (wt_trn fd fw fp fu fs fo cn f) j ((ft, ff), fe)).1.1) cn (f + j) (fw (f + j)))) (((wt_fold (wt_trn fd fw fp fu fs fo cn f) j ((ft, ff), fe)).1.1), ((wt_fold (wt_trn fd fw fp fu fs fo cn f) j ((ft, ff), fe)).1.2))).1), ((wt_mar fs fo cn (f + j) (wt_goe fp fu ((wt_fold (wt_trn fd fw fp fu fs fo cn f) j ((ft, ff), fe)).1.1) fo cn (f + j) (fw (f + j)) (wt_sun fd fp fu fs ((wt_fold (wt_trn fd fw fp fu fs fo cn f) j ((ft, ff), fe)).1.1) cn (f + j) (fw (f + j)))) (((wt_fold (wt_trn fd fw fp fu fs fo cn f) j ((ft, ff), fe)).1.1), ((wt_fold (wt_trn fd fw fp fu fs fo cn f) j ((ft, ff), fe)).1.2))).2))).1 = (wt_fold (wt_trn fd fw fp fu fs fo cn f) (j + 1) ((ft, ff), fe)).1.1 := (by simp only [wt_fold_s, wt_trn, wt_tr2, wt_eta])
      have hP : va_P (dC, dI) vwCl [(h, .inr (3, [.ref hm, .ref dp, .ref hu, .ref we, .ref se, .ref hq, .int (nI nt)])), (dp, .inl (cI, 2, .inl fd)), (we, .inl (cI, 20, .inl fw)), (se, .inl (cI, 20, .inl ((wt_fold (wt_trn fd fw fp fu fs fo cn f) (j + 1) ((ft, ff), fe)).2))), (hm, .inr (0, [.ref pv, .ref up, .int (nI nr)])), (pv, .inl (cI, 10, .inl fp)), (up, .inl (cI, 10, .inl fu)), (hu, .inr (2, [.ref sd, .ref tw, .ref st, .ref od, .int (nI cn)])), (sd, .inl (cI, 12, .inl fs)), (tw, .inl (cI, 264, .inl ((wt_fold (wt_trn fd fw fp fu fs fo cn f) (j + 1) ((ft, ff), fe)).1.1))), (st, .inl (cI, 264, .inl ((wt_fev fs cn ((f + j) + 1) (wt_sun fd fp fu fs ((wt_fold (wt_trn fd fw fp fu fs fo cn f) j ((ft, ff), fe)).1.1) cn (f + j) (fw (f + j))) (((wt_mar fs fo cn (f + j) (wt_goe fp fu ((wt_fold (wt_trn fd fw fp fu fs fo cn f) j ((ft, ff), fe)).1.1) fo cn (f + j) (fw (f + j)) (wt_sun fd fp fu fs ((wt_fold (wt_trn fd fw fp fu fs fo cn f) j ((ft, ff), fe)).1.1) cn (f + j) (fw (f + j)))) (((wt_fold (wt_trn fd fw fp fu fs fo cn f) j ((ft, ff), fe)).1.1), ((wt_fold (wt_trn fd fw fp fu fs fo cn f) j ((ft, ff), fe)).1.2))).1), ((wt_mar fs fo cn (f + j) (wt_goe fp fu ((wt_fold (wt_trn fd fw fp fu fs fo cn f) j ((ft, ff), fe)).1.1) fo cn (f + j) (fw (f + j)) (wt_sun fd fp fu fs ((wt_fold (wt_trn fd fw fp fu fs fo cn f) j ((ft, ff), fe)).1.1) cn (f + j) (fw (f + j)))) (((wt_fold (wt_trn fd fw fp fu fs fo cn f) j ((ft, ff), fe)).1.1), ((wt_fold (wt_trn fd fw fp fu fs fo cn f) j ((ft, ff), fe)).1.2))).2))).2))), (od, .inl (cI, 264, .inl fo))] H := Eq.mp (congrArg (fun z9 : Nat → Int32 => va_P (dC, dI) vwCl [(h, .inr (3, [.ref hm, .ref dp, .ref hu, .ref we, .ref se, .ref hq, .int (nI nt)])), (dp, .inl (cI, 2, .inl fd)), (we, .inl (cI, 20, .inl fw)), (se, .inl (cI, 20, .inl ((wt_fold (wt_trn fd fw fp fu fs fo cn f) (j + 1) ((ft, ff), fe)).2))), (hm, .inr (0, [.ref pv, .ref up, .int (nI nr)])), (pv, .inl (cI, 10, .inl fp)), (up, .inl (cI, 10, .inl fu)), (hu, .inr (2, [.ref sd, .ref tw, .ref st, .ref od, .int (nI cn)])), (sd, .inl (cI, 12, .inl fs)), (tw, .inl (cI, 264, .inl z9)), (st, .inl (cI, 264, .inl ((wt_fev fs cn ((f + j) + 1) (wt_sun fd fp fu fs ((wt_fold (wt_trn fd fw fp fu fs fo cn f) j ((ft, ff), fe)).1.1) cn (f + j) (fw (f + j))) (((wt_mar fs fo cn (f + j) (wt_goe fp fu ((wt_fold (wt_trn fd fw fp fu fs fo cn f) j ((ft, ff), fe)).1.1) fo cn (f + j) (fw (f + j)) (wt_sun fd fp fu fs ((wt_fold (wt_trn fd fw fp fu fs fo cn f) j ((ft, ff), fe)).1.1) cn (f + j) (fw (f + j)))) (((wt_fold (wt_trn fd fw fp fu fs fo cn f) j ((ft, ff), fe)).1.1), ((wt_fold (wt_trn fd fw fp fu fs fo cn f) j ((ft, ff), fe)).1.2))).1), ((wt_mar fs fo cn (f + j) (wt_goe fp fu ((wt_fold (wt_trn fd fw fp fu fs fo cn f) j ((ft, ff), fe)).1.1) fo cn (f + j) (fw (f + j)) (wt_sun fd fp fu fs ((wt_fold (wt_trn fd fw fp fu fs fo cn f) j ((ft, ff), fe)).1.1) cn (f + j) (fw (f + j)))) (((wt_fold (wt_trn fd fw fp fu fs fo cn f) j ((ft, ff), fe)).1.1), ((wt_fold (wt_trn fd fw fp fu fs fo cn f) j ((ft, ff), fe)).1.2))).2))).2))), (od, .inl (cI, 264, .inl fo))] H) e12) hP
      have e13 : (wt_fev fs cn ((f + j) + 1) (wt_sun fd fp fu fs ((wt_fold (wt_trn fd fw fp fu fs fo cn f) j ((ft, ff), fe)).1.1) cn (f + j) (fw (f + j))) (((wt_mar fs fo cn (f + j) (wt_goe fp fu ((wt_fold (wt_trn fd fw fp fu fs fo cn f) j ((ft, ff), fe)).1.1) fo cn (f + j) (fw (f + j)) (wt_sun fd fp fu fs ((wt_fold (wt_trn fd fw fp fu fs fo cn f) j ((ft, ff), fe)).1.1) cn (f + j) (fw (f + j)))) (((wt_fold (wt_trn fd fw fp fu fs fo cn f) j ((ft, ff), fe)).1.1), ((wt_fold (wt_trn fd fw fp fu fs fo cn f) j ((ft, ff), fe)).1.2))).1), ((wt_mar fs fo cn (f + j) (wt_goe fp fu ((wt_fold (wt_trn fd fw fp fu fs fo cn f) j ((ft, ff), fe)).1.1) fo cn (f + j) (fw (f + j)) (wt_sun fd fp fu fs ((wt_fold (wt_trn fd fw fp fu fs fo cn f) j ((ft, ff), fe)).1.1) cn (f + j) (fw (f + j)))) (((wt_fold (wt_trn fd fw fp fu fs fo cn f) j ((ft, ff), fe)).1.1), ((wt_fold (wt_trn fd fw fp fu fs fo cn f) j ((ft, ff), fe)).1.2))).2))).2 = (wt_fold (wt_trn fd fw fp fu fs fo cn f) (j + 1) ((ft, ff), fe)).1.2 := (by simp only [wt_fold_s, wt_trn, wt_tr2, wt_eta])
      have hP : va_P (dC, dI) vwCl [(h, .inr (3, [.ref hm, .ref dp, .ref hu, .ref we, .ref se, .ref hq, .int (nI nt)])), (dp, .inl (cI, 2, .inl fd)), (we, .inl (cI, 20, .inl fw)), (se, .inl (cI, 20, .inl ((wt_fold (wt_trn fd fw fp fu fs fo cn f) (j + 1) ((ft, ff), fe)).2))), (hm, .inr (0, [.ref pv, .ref up, .int (nI nr)])), (pv, .inl (cI, 10, .inl fp)), (up, .inl (cI, 10, .inl fu)), (hu, .inr (2, [.ref sd, .ref tw, .ref st, .ref od, .int (nI cn)])), (sd, .inl (cI, 12, .inl fs)), (tw, .inl (cI, 264, .inl ((wt_fold (wt_trn fd fw fp fu fs fo cn f) (j + 1) ((ft, ff), fe)).1.1))), (st, .inl (cI, 264, .inl ((wt_fold (wt_trn fd fw fp fu fs fo cn f) (j + 1) ((ft, ff), fe)).1.2))), (od, .inl (cI, 264, .inl fo))] H := Eq.mp (congrArg (fun z9 : Nat → Int32 => va_P (dC, dI) vwCl [(h, .inr (3, [.ref hm, .ref dp, .ref hu, .ref we, .ref se, .ref hq, .int (nI nt)])), (dp, .inl (cI, 2, .inl fd)), (we, .inl (cI, 20, .inl fw)), (se, .inl (cI, 20, .inl ((wt_fold (wt_trn fd fw fp fu fs fo cn f) (j + 1) ((ft, ff), fe)).2))), (hm, .inr (0, [.ref pv, .ref up, .int (nI nr)])), (pv, .inl (cI, 10, .inl fp)), (up, .inl (cI, 10, .inl fu)), (hu, .inr (2, [.ref sd, .ref tw, .ref st, .ref od, .int (nI cn)])), (sd, .inl (cI, 12, .inl fs)), (tw, .inl (cI, 264, .inl ((wt_fold (wt_trn fd fw fp fu fs fo cn f) (j + 1) ((ft, ff), fe)).1.1))), (st, .inl (cI, 264, .inl z9)), (od, .inl (cI, 264, .inl fo))] H) e13) hP
      have hD : va_D A [(h, .inr (3, [.ref hm, .ref dp, .ref hu, .ref we, .ref se, .ref hq, .int (nI nt)])), (dp, .inl (cI, 2, .inl fd)), (we, .inl (cI, 20, .inl fw)), (se, .inl (cI, 20, .inl ((wt_fold (wt_trn fd fw fp fu fs fo cn f) (j + 1) ((ft, ff), fe)).2))), (hm, .inr (0, [.ref pv, .ref up, .int (nI nr)])), (pv, .inl (cI, 10, .inl fp)), (up, .inl (cI, 10, .inl fu)), (hu, .inr (2, [.ref sd, .ref tw, .ref st, .ref od, .int (nI cn)])), (sd, .inl (cI, 12, .inl fs)), (tw, .inl (cI, 264, .inl ((wt_fold (wt_trn fd fw fp fu fs fo cn f) (j + 1) ((ft, ff), fe)).1.1))), (st, .inl (cI, 264, .inl ((wt_fold (wt_trn fd fw fp fu fs fo cn f) (j + 1) ((ft, ff), fe)).1.2))), (od, .inl (cI, 264, .inl fo))] := wt_adr hD rfl
      exact ih_6 (j + 1) _ _ _ (by omega) ⟨(by omega), Eq.mp (congrArg (fun z9 : Int32 => lv_has ls 5 [(2, .int z9), (0, .ref h), (1, .int (nI f))]) e10) (lv_sub hl [0, 3, 4] rfl), hP, hD, hS⟩
end
section
/-! What the public methods compute; answers of nothing; turned over from my rows of whole (40, 44, 50) -/
def wt_ok (x : Int32) : Prop := x = -1 ∨ vp_in x 10
theorem wt_upd_s {f : Nat → Int32} {k : Nat} {x : Int32} : upd f k x k = x := if_pos rfl
theorem wt_upd_n {f : Nat → Int32} {k j : Nat} {x : Int32} (h : j ≠ k) : upd f k x j = f j := if_neg h
/-- the least number below n with P, -1 if there is none -/
noncomputable def wt_least (P : Nat → Prop) : Nat → Int32
  | 0 => -1
  | n + 1 => wt_if (∃ q : Nat, q < n ∧ P q) (wt_least P n) (wt_if (P n) (nI n) (-1))
theorem wt_least_none {P : Nat → Prop} : ∀ {n : Nat}, (∀ q, q < n → ¬ P q) → wt_least P n = -1
  | 0, _ => rfl
  | n + 1, h => by
    show wt_if _ _ _ = _
    rw [wt_if_f (fun z => by obtain ⟨q, hq, z⟩ := z; exact h q (by omega) z), wt_if_f (h n (by omega))]
theorem wt_least_eq {P : Nat → Prop} {i : Nat} (h : ∀ q, q < i → ¬ P q) (hi : P i) : ∀ {n : Nat}, i < n → wt_least P n = nI i
  | 0, hn => absurd hn (Nat.not_lt_zero _)
  | n + 1, hn => by
    show wt_if _ _ _ = _
    by_cases c : i = n
    · subst c
      rw [wt_if_f (fun z => by obtain ⟨q, hq, z⟩ := z; exact h q hq z), wt_if_t hi]
    · rw [wt_if_t ⟨i, by omega, hi⟩]
      exact wt_least_eq h hi (by omega)
/-- the value at the last number below n with P, -1 if there is none -/
noncomputable def wt_last (P : Nat → Prop) (g : Nat → Int32) : Nat → Int32
  | 0 => -1
  | n + 1 => wt_if (P n) (g n) (wt_last P g n)
theorem wt_last_t {P : Nat → Prop} {g : Nat → Int32} {n : Nat} (h : P n) : wt_last P g (n + 1) = g n := wt_if_t h
theorem wt_last_f {P : Nat → Prop} {g : Nat → Int32} {n : Nat} (h : ¬ P n) : wt_last P g (n + 1) = wt_last P g n := wt_if_f h
theorem wt_last_0 {P : Nat → Prop} {g : Nat → Int32} : wt_last P g 0 = -1 := rfl
theorem wt_dec_0 {i : Nat} (h : i = 0) : nI i + Int32.ofInt (-1) = -1 := by rw [h]; decide
theorem wt_m12 {n : Nat} (h : 3 ≤ n) (hn : n ≤ 20) : ((nI n - nI 1) - nI 2) = nI (n - 3) := by
  rw [pk_sub (by omega), pk_sub (by omega)]
  congr 1
theorem wt_m12lt {n : Nat} (h : n < 3) : ((nI n - nI 1) - nI 2) < 0 := by
  have : n = 0 ∨ n = 1 ∨ n = 2 := by omega
  rcases this with rfl | rfl | rfl <;> decide
theorem wt_m3lt {n : Nat} (h : n < 3) : (nI n - nI 3) < 0 := by
  have : n = 0 ∨ n = 1 ∨ n = 2 := by omega
  rcases this with rfl | rfl | rfl <;> decide
noncomputable def wt_frs (fs ff : Nat → Int32) (k d : Nat) (u : Nat) (a : Int32) : Int32 := wt_if (fs u = nI d) (a + ff (k * 12 + u)) a
/-- an answer of nothing, nothing written -/
def wt_rv : Array Value → State → Outcome → State → Prop := fun _ st o t => o = .returned none ∧ t.heap = st.heap
def wt_mi2 (x y : Int32) : Int32 := if y < x then y else x
theorem wt_min_le {a b : Nat} (h : a ≤ b) (hb : b < 2 ^ 31) : wt_mi2 (nI a) (nI b) = nI a := if_neg (nI_nlt h hb)
section WT2
variable {p : Program} {l : Launch} {e : Env} {R : Room} {s : State} {m : MethodId} {args : Array Value} {below : List Frame} {meth : Method} {c : Code} {H : Heap} {locs : List Loc} {cells slots : Nat} {Q : State → Prop}
variable {cc : ByteArray} {pc : Nat} {ls : Array Slot} {rest st0 : List Value} {D : va_G} {cI : ClassId} {A : Nat → Prop} {a : Nat} {ws : va_W} {H0 : Heap} {av : Array Value}
theorem wt_rv_go (hr : va_Run p l e R s m args below meth c H locs cells slots 0 0 (F0 m pc ls st0) rest (wt_rv av) wt_no) (k : W p l e R s m args below meth c H locs cells slots Q (F0 m (pc + 3) ls rest)) : W p l e R s m args below meth c H locs cells slots Q (F0 m pc ls st0) := by
  intro T hT X
  obtain ⟨v, st₀, t, T', L, h0, X', hL, e1, -, ⟨hv, hh⟩, st⟩ := hr T hT X
  have hL0 : L = [] := by
    cases L with
    | nil => rfl
    | cons q L => exact (hL q List.mem_cons_self).elim
  subst hL0
  rw [List.append_nil] at X'
  cases hv
  obtain ⟨t2, a1, b1⟩ := k T' (by rw [e1, hh, h0]) X'
  exact ⟨t2, st t2 a1, b1⟩
theorem wt_rvret (hexec : p.tables.exec = Jvm.exec) (hb : c.code = cc) (hr : meth.sig.returnType = none) (hH : H = s.heap) (hdg : decode cc pc = .ok (.return_, 1)) (hlocks : meth.locks = false) : W p l e R s m args below meth c H [] 0 0 (MQ below wt_rv args s 0 0 wt_no) (F0 m pc ls []) :=
  W.vret hexec hb hr (fun t ht _ => ⟨rfl, by rw [ht, hH]⟩) (fun _ h => nomatch h) hdg hlocks
end WT2
end
section
set_option maxHeartbeats 4000000 in
set_option maxRecDepth 100000 in
theorem k_X3_checkSideS (l : Launch) (d : Nat) (hd2 : d < 2) : Met l yX3_checkSide wsX3_checkSide ({ frames := 6, cells := 0, slots := 0, locals := 90 }) (va_Pc [.int (nI d)] (fun _ => True)) wt_rv 0 0 wt_no := by
  refine Met.ofW (cc := cX3_checkSide) (maxL := 1) (ret := none) (by decide) rfl ?_
  intro p e s m args below meth c s₁ B hml hv
  obtain ⟨rfl, -⟩ := hv
  have hx := B.exec
  have hb := B.bytes
  have hr := B.returns
  have hts := atoms_spec (ws := wsX3_checkSide) B.pre
  have hown : s.vm.findClass RX3 = some m.cls := findClass_of_methodNamed B.named
  have hlocks := B.notSynchronized
  have hl := lv_entry ([.int (nI d)]) (n := 1) (Nat.le_of_ble_eq_true rfl)
  rw [lg_entry_eq]
  generalize (lg_sl ([.int (nI d)]) ++ List.replicate (1 - (lg_sl ([.int (nI d)])).length) Slot.unset).toArray = ls at hl ⊢
  have hl : lv_has ls 1 [(0, .int (nI d))] := hl
  refine lv_iload_n hx hb dX3_checkSide_0 rfl (lv_at hl 0 rfl) ?_
  refine lv_iconst (v := nI 2) hx hb dX3_checkSide_1 (by decide +kernel) ?_
  refine wt_ro_go (va_runS (As := [.int (nI d), .int (nI 2)]) (rest := []) ⟨hx, hb, hml, hown, hts⟩ (k_X3_belowN l d 2 (by omega) (by omega)) (va_cwS 2 hts gX3_checkSide_X3_below rfl rfl rfl (by decide +kernel) ⟨Nat.le_of_ble_eq_true rfl, Nat.le_of_ble_eq_true rfl⟩) wt_PS rfl rfl hl.1 rfl (lv_room (Nat.le_of_ble_eq_true rfl)) dX3_checkSide_2 ⟨Nat.zero_le _, Nat.zero_le _⟩) ?_
  refine wt_if_neB (tgt := 18) hx hb dX3_checkSide_5 (by decide) (fun c_5_1 => ?_) (fun c_5_1 => ?_)
  · exact wt_rvret hx hb hr rfl dX3_checkSide_18 hlocks
  · exfalso; omega
set_option maxHeartbeats 4000000 in
set_option maxRecDepth 100000 in
theorem k_X3_checkWeatherS (l : Launch) (w : Int32) (hw : vp_in w 3) : Met l yX3_checkWeather wsX3_checkWeather ({ frames := 6, cells := 0, slots := 0, locals := 90 }) (va_Pc [.int w] (fun _ => True)) wt_rv 0 0 wt_no := by
  refine Met.ofW (cc := cX3_checkWeather) (maxL := 1) (ret := none) (by decide) rfl ?_
  intro p e s m args below meth c s₁ B hml hv
  obtain ⟨rfl, -⟩ := hv
  have hx := B.exec
  have hb := B.bytes
  have hr := B.returns
  have hts := atoms_spec (ws := wsX3_checkWeather) B.pre
  have hown : s.vm.findClass RX3 = some m.cls := findClass_of_methodNamed B.named
  have hlocks := B.notSynchronized
  have hl := lv_entry ([.int w]) (n := 1) (Nat.le_of_ble_eq_true rfl)
  rw [lg_entry_eq]
  generalize (lg_sl ([.int w]) ++ List.replicate (1 - (lg_sl ([.int w])).length) Slot.unset).toArray = ls at hl ⊢
  have hl : lv_has ls 1 [(0, .int w)] := hl
  refine lv_iload_n hx hb dX3_checkWeather_0 rfl (lv_at hl 0 rfl) ?_
  refine lv_iconst (v := nI 3) hx hb dX3_checkWeather_1 (by decide +kernel) ?_
  refine wt_ro_go (va_runS (As := [.int w, .int (nI 3)]) (rest := []) ⟨hx, hb, hml, hown, hts⟩ (k_X3_belowI l w 3 (by omega)) (va_cwS 2 hts gX3_checkWeather_X3_below rfl rfl rfl (by decide +kernel) ⟨Nat.le_of_ble_eq_true rfl, Nat.le_of_ble_eq_true rfl⟩) wt_PS rfl rfl hl.1 rfl (lv_room (Nat.le_of_ble_eq_true rfl)) dX3_checkWeather_2 ⟨Nat.zero_le _, Nat.zero_le _⟩) ?_
  refine wt_if_neB (tgt := 18) hx hb dX3_checkWeather_5 (by decide) (fun c_5_1 => ?_) (fun c_5_1 => ?_)
  · exact wt_rvret hx hb hr rfl dX3_checkWeather_18 hlocks
  · exact absurd hw c_5_1
set_option maxHeartbeats 4000000 in
set_option maxRecDepth 100000 in
theorem k_X3_checkUnitS (l : Launch) (dC : Nat → ClassId) (dI : Nat → Nat → Nat) (cI : ClassId) (h : Nat) (dp : Nat) (we : Nat) (se : Nat) (fd : Nat → Int32) (fw : Nat → Int32) (fe : Nat → Int32) (nt : Nat) (hm : Nat) (pv : Nat) (up : Nat) (fp : Nat → Int32) (fu : Nat → Int32) (nr : Nat) (hu : Nat) (sd : Nat) (tw : Nat) (st : Nat) (od : Nat) (fs : Nat → Int32) (ft : Nat → Int32) (ff : Nat → Int32) (fo : Nat → Int32) (cn : Nat) (hq : Nat) (u : Nat) (hcn : cn ≤ 12) (hu2 : u < cn) : Met l yX3_checkUnit wsX3_checkUnit ({ frames := 6, cells := 0, slots := 0, locals := 90 }) (va_Pc [.ref h, .int (nI u)] (wt_pre (dC, dI) cI [(h, .inr (3, [.ref hm, .ref dp, .ref hu, .ref we, .ref se, .ref hq, .int (nI nt)])), (dp, .inl (cI, 2, .inl fd)), (we, .inl (cI, 20, .inl fw)), (se, .inl (cI, 20, .inl fe)), (hm, .inr (0, [.ref pv, .ref up, .int (nI nr)])), (pv, .inl (cI, 10, .inl fp)), (up, .inl (cI, 10, .inl fu)), (hu, .inr (2, [.ref sd, .ref tw, .ref st, .ref od, .int (nI cn)])), (sd, .inl (cI, 12, .inl fs)), (tw, .inl (cI, 264, .inl ft)), (st, .inl (cI, 264, .inl ff)), (od, .inl (cI, 264, .inl fo))])) wt_rv 0 0 wt_no := by
  refine Met.ofW (cc := cX3_checkUnit) (maxL := 2) (ret := none) (by decide) rfl ?_
  intro p e s m args below meth c s₁ B hml hv
  obtain ⟨rfl, hP, hK, hN⟩ := hv
  have hx := B.exec
  have hb := B.bytes
  have hr := B.returns
  have hts := atoms_spec (ws := wsX3_checkUnit) B.pre
  have hown : s.vm.findClass RX3 = some m.cls := findClass_of_methodNamed B.named
  have hlocks := B.notSynchronized
  have inX2 : ∀ w ∈ wsX20, w ∈ wsX3_checkUnit := wt_in [21, 22, 23, 24, 25] (by decide +kernel)
  have inX3 : ∀ w ∈ wsX30, w ∈ wsX3_checkUnit := wt_in [14, 15, 16, 17, 18, 19, 20] (by decide +kernel)
  have hl := lv_entry ([.ref h, .int (nI u)]) (n := 2) (Nat.le_of_ble_eq_true rfl)
  rw [lg_entry_eq]
  generalize (lg_sl ([.ref h, .int (nI u)]) ++ List.replicate (2 - (lg_sl ([.ref h, .int (nI u)])).length) Slot.unset).toArray = ls at hl ⊢
  have hl : lv_has ls 2 [(0, .ref h), (1, .int (nI u))] := hl
  refine lv_iload_n hx hb dX3_checkUnit_0 rfl (lv_at hl 1 rfl) ?_
  refine lv_aload_n hx hb dX3_checkUnit_1 rfl (lv_at hl 0 rfl) ?_
  refine va_get (D := (dC, dI)) (ci := 3) (v := .ref hu) (C := RX3) (T := TX3) (N := 7) hx hb hts inX3 hown hK hP 0 rfl rfl 2 (by decide) (hts (.fieldLink RX3 23 "WarTable" "units" "LWarTable$Units;") (List.mem_of_getElem? (i := 3) rfl)) (fun _ h9 => h9) rfl dX3_checkUnit_2 ?_
  refine wt_ro_go (va_runV (As := []) (rest := [.int (nI u)]) ⟨hx, hb, hml, hown, hts⟩ (k_X2_count l dC dI cI hu sd tw st od fs ft ff fo cn) (cwV 0 hts gX3_checkUnit_X2_count rfl rfl rfl (by decide +kernel) ⟨Nat.le_of_ble_eq_true rfl, Nat.le_of_ble_eq_true rfl⟩) (wt_PV (C := RX2) (T := TX2) (N := 5) (ci := 2) (q0 := 7) hK hP hN rfl rfl [7, 8, 9, 10, 11] rfl) rfl rfl hl.1 rfl (lv_room (Nat.le_of_ble_eq_true rfl)) dX3_checkUnit_5 ⟨Nat.zero_le _, Nat.zero_le _⟩) ?_
  refine wt_ro_go (va_runS (As := [.int (nI u), .int (nI cn)]) (rest := []) ⟨hx, hb, hml, hown, hts⟩ (k_X3_belowN l u cn (by omega) (by omega)) (va_cwS 2 hts gX3_checkUnit_X3_below rfl rfl rfl (by decide +kernel) ⟨Nat.le_of_ble_eq_true rfl, Nat.le_of_ble_eq_true rfl⟩) wt_PS rfl rfl hl.1 rfl (lv_room (Nat.le_of_ble_eq_true rfl)) dX3_checkUnit_8 ⟨Nat.zero_le _, Nat.zero_le _⟩) ?_
  refine wt_if_neB (tgt := 24) hx hb dX3_checkUnit_11 (by decide) (fun c_11_1 => ?_) (fun c_11_1 => ?_)
  · exact wt_rvret hx hb hr rfl dX3_checkUnit_24 hlocks
  · exfalso; omega
set_option maxHeartbeats 4000000 in
set_option maxRecDepth 100000 in
theorem k_X3_checkTurnS (l : Launch) (dC : Nat → ClassId) (dI : Nat → Nat → Nat) (cI : ClassId) (h : Nat) (dp : Nat) (we : Nat) (se : Nat) (fd : Nat → Int32) (fw : Nat → Int32) (fe : Nat → Int32) (nt : Nat) (hm : Nat) (pv : Nat) (up : Nat) (fp : Nat → Int32) (fu : Nat → Int32) (nr : Nat) (hu : Nat) (sd : Nat) (tw : Nat) (st : Nat) (od : Nat) (fs : Nat → Int32) (ft : Nat → Int32) (ff : Nat → Int32) (fo : Nat → Int32) (cn : Nat) (hq : Nat) (t : Nat) (hnt : nt ≤ 20) (ht : t < nt) : Met l yX3_checkTurn wsX3_checkTurn ({ frames := 6, cells := 0, slots := 0, locals := 90 }) (va_Pc [.ref h, .int (nI t)] (wt_pre (dC, dI) cI [(h, .inr (3, [.ref hm, .ref dp, .ref hu, .ref we, .ref se, .ref hq, .int (nI nt)])), (dp, .inl (cI, 2, .inl fd)), (we, .inl (cI, 20, .inl fw)), (se, .inl (cI, 20, .inl fe)), (hm, .inr (0, [.ref pv, .ref up, .int (nI nr)])), (pv, .inl (cI, 10, .inl fp)), (up, .inl (cI, 10, .inl fu)), (hu, .inr (2, [.ref sd, .ref tw, .ref st, .ref od, .int (nI cn)])), (sd, .inl (cI, 12, .inl fs)), (tw, .inl (cI, 264, .inl ft)), (st, .inl (cI, 264, .inl ff)), (od, .inl (cI, 264, .inl fo))])) wt_rv 0 0 wt_no := by
  refine Met.ofW (cc := cX3_checkTurn) (maxL := 2) (ret := none) (by decide) rfl ?_
  intro p e s m args below meth c s₁ B hml hv
  obtain ⟨rfl, hP, hK, hN⟩ := hv
  have hx := B.exec
  have hb := B.bytes
  have hr := B.returns
  have hts := atoms_spec (ws := wsX3_checkTurn) B.pre
  have hown : s.vm.findClass RX3 = some m.cls := findClass_of_methodNamed B.named
  have hlocks := B.notSynchronized
  have inX3 : ∀ w ∈ wsX30, w ∈ wsX3_checkTurn := wt_in [12, 13, 14, 15, 16, 17, 18] (by decide +kernel)
  have hl := lv_entry ([.ref h, .int (nI t)]) (n := 2) (Nat.le_of_ble_eq_true rfl)
  rw [lg_entry_eq]
  generalize (lg_sl ([.ref h, .int (nI t)]) ++ List.replicate (2 - (lg_sl ([.ref h, .int (nI t)])).length) Slot.unset).toArray = ls at hl ⊢
  have hl : lv_has ls 2 [(0, .ref h), (1, .int (nI t))] := hl
  refine lv_iload_n hx hb dX3_checkTurn_0 rfl (lv_at hl 1 rfl) ?_
  refine lv_aload_n hx hb dX3_checkTurn_1 rfl (lv_at hl 0 rfl) ?_
  refine va_get (D := (dC, dI)) (ci := 3) (v := .int (nI nt)) (C := RX3) (T := TX3) (N := 7) hx hb hts inX3 hown hK hP 0 rfl rfl 6 (by decide) (hts (.fieldLink RX3 40 "WarTable" "turns" "I") (List.mem_of_getElem? (i := 3) rfl)) (fun _ h9 => h9) rfl dX3_checkTurn_2 ?_
  refine lv_bipush (v := nI 20) hx hb dX3_checkTurn_5 (by decide +kernel) ?_
  refine va_mmin hx hb (by rw [hml]; exact hl.1.symm) hown (hts (.methodLink RX3 170 Lib.Math.min.name) (List.mem_of_getElem? (i := 4) rfl)) (hts (.static Lib.Math.min.name) (List.mem_of_getElem? (i := 5) rfl)) (hts (.initialized "java/lang/Math") (List.mem_of_getElem? (i := 6) rfl)) (hts (.code Lib.Math.min.name Lib.Math.min.code 2 (some .int)) (List.mem_of_getElem? (i := 7) rfl)) (Nat.le_of_ble_eq_true rfl) (Nat.le_of_ble_eq_true rfl) (Nat.zero_le _) (Nat.zero_le _) dX3_checkTurn_7 ?_
  refine wt_top (y := (wt_mi2 (nI nt) (nI 20))) rfl ?_
  refine wt_top (y := nI nt) (wt_min_le hnt (by decide)) ?_
  refine wt_ro_go (va_runS (As := [.int (nI t), .int (nI nt)]) (rest := []) ⟨hx, hb, hml, hown, hts⟩ (k_X3_belowN l t nt (by omega) (by omega)) (va_cwS 2 hts gX3_checkTurn_X3_below rfl rfl rfl (by decide +kernel) ⟨Nat.le_of_ble_eq_true rfl, Nat.le_of_ble_eq_true rfl⟩) wt_PS rfl rfl hl.1 rfl (lv_room (Nat.le_of_ble_eq_true rfl)) dX3_checkTurn_10 ⟨Nat.zero_le _, Nat.zero_le _⟩) ?_
  refine wt_if_neB (tgt := 26) hx hb dX3_checkTurn_13 (by decide) (fun c_13_1 => ?_) (fun c_13_1 => ?_)
  · exact wt_rvret hx hb hr rfl dX3_checkTurn_26 hlocks
  · exfalso; omega
set_option maxHeartbeats 4000000 in
set_option maxRecDepth 100000 in
theorem k_X3_addRoadS (l : Launch) (dC : Nat → ClassId) (dI : Nat → Nat → Nat) (cI : ClassId) (h : Nat) (dp : Nat) (we : Nat) (se : Nat) (fd : Nat → Int32) (fw : Nat → Int32) (fe : Nat → Int32) (nt : Nat) (hm : Nat) (pv : Nat) (up : Nat) (fp : Nat → Int32) (fu : Nat → Int32) (nr : Nat) (hu : Nat) (sd : Nat) (tw : Nat) (st : Nat) (od : Nat) (fs : Nat → Int32) (ft : Nat → Int32) (ff : Nat → Int32) (fo : Nat → Int32) (cn : Nat) (hq : Nat) (a : Nat) (b : Nat) (z : Int32) (sz : Nat) (ha : a < 10) (hb2 : b < 10) (hab : a ≠ b) (hn0 : nt = 0) (hj : ¬ wt_has (wt_nxt fp fu (nI a) (nI 0)) (nI b)) (hnr : nr < 15) : Met l yX3_addRoad wsX3_addRoad ({ frames := 6, cells := 0, slots := 0, locals := 90 }) (va_Pc [.ref h, .int (nI a), .int (nI b), .int z] (wt_pm (dC, dI) cI [(h, .inr (3, [.ref hm, .ref dp, .ref hu, .ref we, .ref se, .ref hq, .int (nI nt)])), (dp, .inl (cI, 2, .inl fd)), (we, .inl (cI, 20, .inl fw)), (se, .inl (cI, 20, .inl fe)), (hm, .inr (0, [.ref pv, .ref up, .int (nI nr)])), (pv, .inl (cI, 10, .inl fp)), (up, .inl (cI, 10, .inl fu)), (hu, .inr (2, [.ref sd, .ref tw, .ref st, .ref od, .int (nI cn)])), (sd, .inl (cI, 12, .inl fs)), (tw, .inl (cI, 264, .inl ft)), (st, .inl (cI, 264, .inl ff)), (od, .inl (cI, 264, .inl fo))] sz)) (wt_mu (some (.int (nI (nr + 1)))) (dC, dI) [(h, .inr (3, [.ref hm, .ref dp, .ref hu, .ref we, .ref se, .ref hq, .int (nI nt)])), (dp, .inl (cI, 2, .inl fd)), (we, .inl (cI, 20, .inl fw)), (se, .inl (cI, 20, .inl fe)), (hm, .inr (0, [.ref pv, .ref up, .int (nI (nr + 1))])), (pv, .inl (cI, 10, .inl (wt_if (z = 0) fp (wt_jn fp a b)))), (up, .inl (cI, 10, .inl (wt_if (z = 0) (wt_jn fu a b) fu))), (hu, .inr (2, [.ref sd, .ref tw, .ref st, .ref od, .int (nI cn)])), (sd, .inl (cI, 12, .inl fs)), (tw, .inl (cI, 264, .inl ft)), (st, .inl (cI, 264, .inl ff)), (od, .inl (cI, 264, .inl fo))] (va_A [(h, .inr (3, [.ref hm, .ref dp, .ref hu, .ref we, .ref se, .ref hq, .int (nI nt)])), (dp, .inl (cI, 2, .inl fd)), (we, .inl (cI, 20, .inl fw)), (se, .inl (cI, 20, .inl fe)), (hm, .inr (0, [.ref pv, .ref up, .int (nI nr)])), (pv, .inl (cI, 10, .inl fp)), (up, .inl (cI, 10, .inl fu)), (hu, .inr (2, [.ref sd, .ref tw, .ref st, .ref od, .int (nI cn)])), (sd, .inl (cI, 12, .inl fs)), (tw, .inl (cI, 264, .inl ft)), (st, .inl (cI, 264, .inl ff)), (od, .inl (cI, 264, .inl fo))] sz)) 0 0 (va_A [(h, .inr (3, [.ref hm, .ref dp, .ref hu, .ref we, .ref se, .ref hq, .int (nI nt)])), (dp, .inl (cI, 2, .inl fd)), (we, .inl (cI, 20, .inl fw)), (se, .inl (cI, 20, .inl fe)), (hm, .inr (0, [.ref pv, .ref up, .int (nI nr)])), (pv, .inl (cI, 10, .inl fp)), (up, .inl (cI, 10, .inl fu)), (hu, .inr (2, [.ref sd, .ref tw, .ref st, .ref od, .int (nI cn)])), (sd, .inl (cI, 12, .inl fs)), (tw, .inl (cI, 264, .inl ft)), (st, .inl (cI, 264, .inl ff)), (od, .inl (cI, 264, .inl fo))] sz) := by
  refine Met.ofW (cc := cX3_addRoad) (maxL := 4) (ret := (some .int)) (by decide) rfl ?_
  intro p e s m args below meth c s₁ B hml hv
  obtain ⟨rfl, hsz, ⟨hP, hK, hN⟩, hD0⟩ := hv
  have hx := B.exec
  have hb := B.bytes
  have hr := B.returns
  have hts := atoms_spec (ws := wsX3_addRoad) B.pre
  have hown : s.vm.findClass RX3 = some m.cls := findClass_of_methodNamed B.named
  have hlocks := B.notSynchronized
  subst hsz
  have hD := hD0.self (sz := s.heap.size)
  generalize hAe : va_A [(h, .inr (3, [.ref hm, .ref dp, .ref hu, .ref we, .ref se, .ref hq, .int (nI nt)])), (dp, .inl (cI, 2, .inl fd)), (we, .inl (cI, 20, .inl fw)), (se, .inl (cI, 20, .inl fe)), (hm, .inr (0, [.ref pv, .ref up, .int (nI nr)])), (pv, .inl (cI, 10, .inl fp)), (up, .inl (cI, 10, .inl fu)), (hu, .inr (2, [.ref sd, .ref tw, .ref st, .ref od, .int (nI cn)])), (sd, .inl (cI, 12, .inl fs)), (tw, .inl (cI, 264, .inl ft)), (st, .inl (cI, 264, .inl ff)), (od, .inl (cI, 264, .inl fo))] s.heap.size = A at hD ⊢
  have hA : ∀ q : Nat, s.heap.size ≤ q → A q := fun q h => by rw [← hAe]; exact Or.inr h
  have hS : va_S A s.heap s.heap [] := va_S.rf
  have inX0 : ∀ w ∈ wsX00, w ∈ wsX3_addRoad := wt_in [43, 44, 45] (by decide +kernel)
  have inX3 : ∀ w ∈ wsX30, w ∈ wsX3_addRoad := wt_in [36, 37, 38, 39, 40, 41, 42] (by decide +kernel)
  have hl := lv_entry ([.ref h, .int (nI a), .int (nI b), .int z]) (n := 4) (Nat.le_of_ble_eq_true rfl)
  rw [lg_entry_eq]
  generalize (lg_sl ([.ref h, .int (nI a), .int (nI b), .int z]) ++ List.replicate (4 - (lg_sl ([.ref h, .int (nI a), .int (nI b), .int z])).length) Slot.unset).toArray = ls at hl ⊢
  have hl : lv_has ls 4 [(0, .ref h), (1, .int (nI a)), (2, .int (nI b)), (3, .int z)] := hl
  refine lv_iload_n hx hb dX3_addRoad_0 rfl (lv_at hl 1 rfl) ?_
  refine lv_bipush (v := nI 10) hx hb dX3_addRoad_1 (by decide +kernel) ?_
  refine wt_ro_go (va_runS (As := [.int (nI a), .int (nI 10)]) (rest := []) ⟨hx, hb, hml, hown, hts⟩ (k_X3_belowN l a 10 (by omega) (by omega)) (va_cwS 2 hts gX3_addRoad_X3_below rfl rfl rfl (by decide +kernel) ⟨Nat.le_of_ble_eq_true rfl, Nat.le_of_ble_eq_true rfl⟩) wt_PS rfl rfl hl.1 rfl (lv_room (Nat.le_of_ble_eq_true rfl)) dX3_addRoad_3 ⟨Nat.zero_le _, Nat.zero_le _⟩) ?_
  refine wt_if_eqB (tgt := 23) hx hb dX3_addRoad_6 (by decide) (fun c_6_1 => ?_) (fun c_6_1 => ?_)
  · exfalso; omega
  · refine lv_iload_n hx hb dX3_addRoad_9 rfl (lv_at hl 2 rfl) ?_
    refine lv_bipush (v := nI 10) hx hb dX3_addRoad_10 (by decide +kernel) ?_
    refine wt_ro_go (va_runS (As := [.int (nI b), .int (nI 10)]) (rest := []) ⟨hx, hb, hml, hown, hts⟩ (k_X3_belowN l b 10 (by omega) (by omega)) (va_cwS 2 hts gX3_addRoad_X3_below rfl rfl rfl (by decide +kernel) ⟨Nat.le_of_ble_eq_true rfl, Nat.le_of_ble_eq_true rfl⟩) wt_PS rfl rfl hl.1 rfl (lv_room (Nat.le_of_ble_eq_true rfl)) dX3_addRoad_12 ⟨Nat.zero_le _, Nat.zero_le _⟩) ?_
    refine wt_if_eqB (tgt := 23) hx hb dX3_addRoad_15 (by decide) (fun c_15_2 => ?_) (fun c_15_2 => ?_)
    · exfalso; omega
    · refine lv_iload_n hx hb dX3_addRoad_18 rfl (lv_at hl 1 rfl) ?_
      refine lv_iload_n hx hb dX3_addRoad_19 rfl (lv_at hl 2 rfl) ?_
      refine wt_icmp_ne (tgt := 33) hx hb (by omega) (by omega) dX3_addRoad_20 (by decide) (fun c_20_3 => ?_) (fun c_20_3 => ?_)
      · refine lv_aload_n hx hb dX3_addRoad_33 rfl (lv_at hl 0 rfl) ?_
        refine va_get (D := (dC, dI)) (ci := 3) (v := .int (nI nt)) (C := RX3) (T := TX3) (N := 7) hx hb hts inX3 hown hK hP 0 rfl rfl 6 (by decide) (hts (.fieldLink RX3 40 "WarTable" "turns" "I") (List.mem_of_getElem? (i := 5) rfl)) (fun _ h9 => h9) rfl dX3_addRoad_34 ?_
        refine wt_if_gt (tgt := 64) hx hb (by omega) dX3_addRoad_37 (by decide) (fun c_37_4 => ?_) (fun c_37_4 => ?_)
        · exfalso; omega
        · refine lv_aload_n hx hb dX3_addRoad_40 rfl (lv_at hl 0 rfl) ?_
          refine va_get (D := (dC, dI)) (ci := 3) (v := .ref hm) (C := RX3) (T := TX3) (N := 7) hx hb hts inX3 hown hK hP 0 rfl rfl 0 (by decide) (hts (.fieldLink RX3 12 "WarTable" "map" "LWarTable$RoadMap;") (List.mem_of_getElem? (i := 6) rfl)) (fun _ h9 => h9) rfl dX3_addRoad_41 ?_
          refine lv_iload_n hx hb dX3_addRoad_44 rfl (lv_at hl 1 rfl) ?_
          refine lv_iload_n hx hb dX3_addRoad_45 rfl (lv_at hl 2 rfl) ?_
          refine wt_ro_go (va_runV (As := [.int (nI a), .int (nI b)]) (rest := []) ⟨hx, hb, hml, hown, hts⟩ (k_X0_joins l dC dI cI hm pv up fp fu nr (nI a) (nI b)) (cwV 2 hts gX3_addRoad_X0_joins rfl rfl rfl (by decide +kernel) ⟨Nat.le_of_ble_eq_true rfl, Nat.le_of_ble_eq_true rfl⟩) (wt_PV (C := RX0) (T := TX0) (N := 3) (ci := 0) (q0 := 4) hK hP hN rfl rfl [4, 5, 6] rfl) rfl rfl hl.1 rfl (lv_room (Nat.le_of_ble_eq_true rfl)) dX3_addRoad_46 ⟨Nat.zero_le _, Nat.zero_le _⟩) ?_
          refine wt_if_neB (tgt := 64) hx hb dX3_addRoad_49 (by decide) (fun c_49_5 => ?_) (fun c_49_5 => ?_)
          · exact absurd c_49_5 hj
          · refine lv_aload_n hx hb dX3_addRoad_52 rfl (lv_at hl 0 rfl) ?_
            refine va_get (D := (dC, dI)) (ci := 3) (v := .ref hm) (C := RX3) (T := TX3) (N := 7) hx hb hts inX3 hown hK hP 0 rfl rfl 0 (by decide) (hts (.fieldLink RX3 12 "WarTable" "map" "LWarTable$RoadMap;") (List.mem_of_getElem? (i := 6) rfl)) (fun _ h9 => h9) rfl dX3_addRoad_53 ?_
            refine wt_ro_go (va_runV (As := []) (rest := []) ⟨hx, hb, hml, hown, hts⟩ (k_X0_roads l dC dI cI hm pv up fp fu nr) (cwV 0 hts gX3_addRoad_X0_roads rfl rfl rfl (by decide +kernel) ⟨Nat.le_of_ble_eq_true rfl, Nat.le_of_ble_eq_true rfl⟩) (wt_PV (C := RX0) (T := TX0) (N := 3) (ci := 0) (q0 := 4) hK hP hN rfl rfl [4, 5, 6] rfl) rfl rfl hl.1 rfl (lv_room (Nat.le_of_ble_eq_true rfl)) dX3_addRoad_56 ⟨Nat.zero_le _, Nat.zero_le _⟩) ?_
            refine lv_bipush (v := nI 15) hx hb dX3_addRoad_59 (by decide +kernel) ?_
            refine wt_icmp_lt (tgt := 74) hx hb (by omega) (by omega) dX3_addRoad_61 (by decide) (fun c_61_6 => ?_) (fun c_61_6 => ?_)
            · refine lv_aload_n hx hb dX3_addRoad_74 rfl (lv_at hl 0 rfl) ?_
              refine va_get (D := (dC, dI)) (ci := 3) (v := .ref hm) (C := RX3) (T := TX3) (N := 7) hx hb hts inX3 hown hK hP 0 rfl rfl 0 (by decide) (hts (.fieldLink RX3 12 "WarTable" "map" "LWarTable$RoadMap;") (List.mem_of_getElem? (i := 6) rfl)) (fun _ h9 => h9) rfl dX3_addRoad_75 ?_
              refine lv_iload_n hx hb dX3_addRoad_78 rfl (lv_at hl 1 rfl) ?_
              refine lv_iload_n hx hb dX3_addRoad_79 rfl (lv_at hl 2 rfl) ?_
              refine lv_iload_n hx hb dX3_addRoad_80 rfl (lv_at hl 3 rfl) ?_
              refine wt_mu_go (w1 := [(hm, .inr (0, [.ref pv, .ref up, .int (nI (nr + 1))])), (pv, .inl (cI, 10, .inl (wt_if (z = 0) fp (wt_jn fp a b)))), (up, .inl (cI, 10, .inl (wt_if (z = 0) (wt_jn fu a b) fu)))]) (w2 := [(h, .inr (3, [.ref hm, .ref dp, .ref hu, .ref we, .ref se, .ref hq, .int (nI nt)])), (dp, .inl (cI, 2, .inl fd)), (we, .inl (cI, 20, .inl fw)), (se, .inl (cI, 20, .inl fe)), (hm, .inr (0, [.ref pv, .ref up, .int (nI (nr + 1))])), (pv, .inl (cI, 10, .inl (wt_if (z = 0) fp (wt_jn fp a b)))), (up, .inl (cI, 10, .inl (wt_if (z = 0) (wt_jn fu a b) fu))), (hu, .inr (2, [.ref sd, .ref tw, .ref st, .ref od, .int (nI cn)])), (sd, .inl (cI, 12, .inl fs)), (tw, .inl (cI, 264, .inl ft)), (st, .inl (cI, 264, .inl ff)), (od, .inl (cI, 264, .inl fo))]) (wr := [(h, .inr (3, [.ref hm, .ref dp, .ref hu, .ref we, .ref se, .ref hq, .int (nI nt)])), (dp, .inl (cI, 2, .inl fd)), (we, .inl (cI, 20, .inl fw)), (se, .inl (cI, 20, .inl fe)), (hu, .inr (2, [.ref sd, .ref tw, .ref st, .ref od, .int (nI cn)])), (sd, .inl (cI, 12, .inl fs)), (tw, .inl (cI, 264, .inl ft)), (st, .inl (cI, 264, .inl ff)), (od, .inl (cI, 264, .inl fo))]) (va_runV (As := [.int (nI a), .int (nI b), .int z]) (rest := []) ⟨hx, hb, hml, hown, hts⟩ (k_X0_join l dC dI cI hm pv up fp fu nr a b z s.heap.size (by omega) (by omega)) (cwV 3 hts gX3_addRoad_X0_join rfl rfl rfl (by decide +kernel) ⟨Nat.le_of_ble_eq_true rfl, Nat.le_of_ble_eq_true rfl⟩) (wt_PVM (C := RX0) (T := TX0) (N := 3) (ci := 0) (q0 := 4) hK hP hN hD rfl rfl [4, 5, 6] rfl rfl) rfl rfl hl.1 rfl (lv_room (Nat.le_of_ble_eq_true rfl)) dX3_addRoad_81 ⟨Nat.zero_le _, Nat.zero_le _⟩) hP hD hS hA [4, 5, 6] [0, 1, 2, 3, 7, 8, 9, 10, 11] rfl rfl rfl rfl (by decide) rfl [0, 1, 2, 3, 9, 10, 11, 4, 5, 6, 7, 8] rfl rfl (fun H locs hP hD hS hz9 => ?_)
              refine W.eq (g2 := F0 m 84 ls []) rfl ?_
              refine lv_aload_n hx hb dX3_addRoad_84 rfl (lv_at hl 0 rfl) ?_
              refine va_get (D := (dC, dI)) (ci := 3) (v := .ref hm) (C := RX3) (T := TX3) (N := 7) hx hb hts inX3 hown hK hP 0 rfl rfl 0 (by decide) (hts (.fieldLink RX3 12 "WarTable" "map" "LWarTable$RoadMap;") (List.mem_of_getElem? (i := 6) rfl)) (fun _ h9 => h9) rfl dX3_addRoad_85 ?_
              refine wt_ro_go (va_runV (As := []) (rest := []) ⟨hx, hb, hml, hown, hts⟩ (k_X0_roads l dC dI cI hm pv up (wt_if (z = 0) fp (wt_jn fp a b)) (wt_if (z = 0) (wt_jn fu a b) fu) (nr + 1)) (cwV 0 hts gX3_addRoad_X0_roads rfl rfl rfl (by decide +kernel) ⟨Nat.le_of_ble_eq_true rfl, Nat.le_of_ble_eq_true rfl⟩) (wt_PV (C := RX0) (T := TX0) (N := 3) (ci := 0) (q0 := 4) hK hP hN rfl rfl [4, 5, 6] rfl) rfl rfl hl.1 rfl (lv_room (Nat.le_of_ble_eq_true rfl)) dX3_addRoad_88 ⟨Nat.zero_le _, Nat.zero_le _⟩) ?_
              exact wt_miret hx hb hr rfl hP hS dX3_addRoad_91 hlocks
            · exfalso; omega
      · exfalso; omega
set_option maxHeartbeats 4000000 in
set_option maxRecDepth 100000 in
theorem k_X3_addUnitS (l : Launch) (dC : Nat → ClassId) (dI : Nat → Nat → Nat) (cI : ClassId) (h : Nat) (dp : Nat) (we : Nat) (se : Nat) (fd : Nat → Int32) (fw : Nat → Int32) (fe : Nat → Int32) (nt : Nat) (hm : Nat) (pv : Nat) (up : Nat) (fp : Nat → Int32) (fu : Nat → Int32) (nr : Nat) (hu : Nat) (sd : Nat) (tw : Nat) (st : Nat) (od : Nat) (fs : Nat → Int32) (ft : Nat → Int32) (ff : Nat → Int32) (fo : Nat → Int32) (cn : Nat) (hq : Nat) (d : Nat) (t : Nat) (q : Nat) (sz : Nat) (hd2 : d < 2) (ht : t < 10) (hq1 : 1 ≤ q) (hq2 : q ≤ 9) (hn0 : nt = 0) (hh : ¬ wt_has (wt_held fs ft nt (1 - d) cn) (nI t)) (hcn : cn < 12) : Met l yX3_addUnit wsX3_addUnit ({ frames := 6, cells := 0, slots := 0, locals := 90 }) (va_Pc [.ref h, .int (nI d), .int (nI t), .int (nI q)] (wt_pm (dC, dI) cI [(h, .inr (3, [.ref hm, .ref dp, .ref hu, .ref we, .ref se, .ref hq, .int (nI nt)])), (dp, .inl (cI, 2, .inl fd)), (we, .inl (cI, 20, .inl fw)), (se, .inl (cI, 20, .inl fe)), (hm, .inr (0, [.ref pv, .ref up, .int (nI nr)])), (pv, .inl (cI, 10, .inl fp)), (up, .inl (cI, 10, .inl fu)), (hu, .inr (2, [.ref sd, .ref tw, .ref st, .ref od, .int (nI cn)])), (sd, .inl (cI, 12, .inl fs)), (tw, .inl (cI, 264, .inl ft)), (st, .inl (cI, 264, .inl ff)), (od, .inl (cI, 264, .inl fo))] sz)) (wt_mu (some (.int (nI cn))) (dC, dI) [(h, .inr (3, [.ref hm, .ref dp, .ref hu, .ref we, .ref se, .ref hq, .int (nI nt)])), (dp, .inl (cI, 2, .inl fd)), (we, .inl (cI, 20, .inl fw)), (se, .inl (cI, 20, .inl fe)), (hm, .inr (0, [.ref pv, .ref up, .int (nI nr)])), (pv, .inl (cI, 10, .inl fp)), (up, .inl (cI, 10, .inl fu)), (hu, .inr (2, [.ref sd, .ref tw, .ref st, .ref od, .int (nI (cn + 1))])), (sd, .inl (cI, 12, .inl (upd fs cn (nI d)))), (tw, .inl (cI, 264, .inl (wt_plT ft 0 cn (nI t) (nI q)))), (st, .inl (cI, 264, .inl (wt_plF ff 0 cn (nI q)))), (od, .inl (cI, 264, .inl fo))] (va_A [(h, .inr (3, [.ref hm, .ref dp, .ref hu, .ref we, .ref se, .ref hq, .int (nI nt)])), (dp, .inl (cI, 2, .inl fd)), (we, .inl (cI, 20, .inl fw)), (se, .inl (cI, 20, .inl fe)), (hm, .inr (0, [.ref pv, .ref up, .int (nI nr)])), (pv, .inl (cI, 10, .inl fp)), (up, .inl (cI, 10, .inl fu)), (hu, .inr (2, [.ref sd, .ref tw, .ref st, .ref od, .int (nI cn)])), (sd, .inl (cI, 12, .inl fs)), (tw, .inl (cI, 264, .inl ft)), (st, .inl (cI, 264, .inl ff)), (od, .inl (cI, 264, .inl fo))] sz)) 0 0 (va_A [(h, .inr (3, [.ref hm, .ref dp, .ref hu, .ref we, .ref se, .ref hq, .int (nI nt)])), (dp, .inl (cI, 2, .inl fd)), (we, .inl (cI, 20, .inl fw)), (se, .inl (cI, 20, .inl fe)), (hm, .inr (0, [.ref pv, .ref up, .int (nI nr)])), (pv, .inl (cI, 10, .inl fp)), (up, .inl (cI, 10, .inl fu)), (hu, .inr (2, [.ref sd, .ref tw, .ref st, .ref od, .int (nI cn)])), (sd, .inl (cI, 12, .inl fs)), (tw, .inl (cI, 264, .inl ft)), (st, .inl (cI, 264, .inl ff)), (od, .inl (cI, 264, .inl fo))] sz) := by
  refine Met.ofW (cc := cX3_addUnit) (maxL := 4) (ret := (some .int)) (by decide) rfl ?_
  intro p e s m args below meth c s₁ B hml hv
  obtain ⟨rfl, hsz, ⟨hP, hK, hN⟩, hD0⟩ := hv
  have hx := B.exec
  have hb := B.bytes
  have hr := B.returns
  have hts := atoms_spec (ws := wsX3_addUnit) B.pre
  have hown : s.vm.findClass RX3 = some m.cls := findClass_of_methodNamed B.named
  have hlocks := B.notSynchronized
  subst hsz
  have hD := hD0.self (sz := s.heap.size)
  generalize hAe : va_A [(h, .inr (3, [.ref hm, .ref dp, .ref hu, .ref we, .ref se, .ref hq, .int (nI nt)])), (dp, .inl (cI, 2, .inl fd)), (we, .inl (cI, 20, .inl fw)), (se, .inl (cI, 20, .inl fe)), (hm, .inr (0, [.ref pv, .ref up, .int (nI nr)])), (pv, .inl (cI, 10, .inl fp)), (up, .inl (cI, 10, .inl fu)), (hu, .inr (2, [.ref sd, .ref tw, .ref st, .ref od, .int (nI cn)])), (sd, .inl (cI, 12, .inl fs)), (tw, .inl (cI, 264, .inl ft)), (st, .inl (cI, 264, .inl ff)), (od, .inl (cI, 264, .inl fo))] s.heap.size = A at hD ⊢
  have hA : ∀ q : Nat, s.heap.size ≤ q → A q := fun q h => by rw [← hAe]; exact Or.inr h
  have hS : va_S A s.heap s.heap [] := va_S.rf
  have inX2 : ∀ w ∈ wsX20, w ∈ wsX3_addUnit := wt_in [66, 67, 68, 69, 70] (by decide +kernel)
  have inX3 : ∀ w ∈ wsX30, w ∈ wsX3_addUnit := wt_in [59, 60, 61, 62, 63, 64, 65] (by decide +kernel)
  have hl := lv_entry ([.ref h, .int (nI d), .int (nI t), .int (nI q)]) (n := 4) (Nat.le_of_ble_eq_true rfl)
  rw [lg_entry_eq]
  generalize (lg_sl ([.ref h, .int (nI d), .int (nI t), .int (nI q)]) ++ List.replicate (4 - (lg_sl ([.ref h, .int (nI d), .int (nI t), .int (nI q)])).length) Slot.unset).toArray = ls at hl ⊢
  have hl : lv_has ls 4 [(0, .ref h), (1, .int (nI d)), (2, .int (nI t)), (3, .int (nI q))] := hl
  refine lv_iload_n hx hb dX3_addUnit_0 rfl (lv_at hl 1 rfl) ?_
  refine lv_iconst (v := nI 2) hx hb dX3_addUnit_1 (by decide +kernel) ?_
  refine wt_ro_go (va_runS (As := [.int (nI d), .int (nI 2)]) (rest := []) ⟨hx, hb, hml, hown, hts⟩ (k_X3_belowN l d 2 (by omega) (by omega)) (va_cwS 2 hts gX3_addUnit_X3_below rfl rfl rfl (by decide +kernel) ⟨Nat.le_of_ble_eq_true rfl, Nat.le_of_ble_eq_true rfl⟩) wt_PS rfl rfl hl.1 rfl (lv_room (Nat.le_of_ble_eq_true rfl)) dX3_addUnit_2 ⟨Nat.zero_le _, Nat.zero_le _⟩) ?_
  refine wt_if_eqB (tgt := 28) hx hb dX3_addUnit_5 (by decide) (fun c_5_1 => ?_) (fun c_5_1 => ?_)
  · exfalso; omega
  · refine lv_iload_n hx hb dX3_addUnit_8 rfl (lv_at hl 2 rfl) ?_
    refine lv_bipush (v := nI 10) hx hb dX3_addUnit_9 (by decide +kernel) ?_
    refine wt_ro_go (va_runS (As := [.int (nI t), .int (nI 10)]) (rest := []) ⟨hx, hb, hml, hown, hts⟩ (k_X3_belowN l t 10 (by omega) (by omega)) (va_cwS 2 hts gX3_addUnit_X3_below rfl rfl rfl (by decide +kernel) ⟨Nat.le_of_ble_eq_true rfl, Nat.le_of_ble_eq_true rfl⟩) wt_PS rfl rfl hl.1 rfl (lv_room (Nat.le_of_ble_eq_true rfl)) dX3_addUnit_11 ⟨Nat.zero_le _, Nat.zero_le _⟩) ?_
    refine wt_if_eqB (tgt := 28) hx hb dX3_addUnit_14 (by decide) (fun c_14_2 => ?_) (fun c_14_2 => ?_)
    · exfalso; omega
    · refine lv_iload_n hx hb dX3_addUnit_17 rfl (lv_at hl 3 rfl) ?_
      refine lv_iconst (v := nI 1) hx hb dX3_addUnit_18 (by decide +kernel) ?_
      refine wt_icmp_lt (tgt := 28) hx hb (by omega) (by omega) dX3_addUnit_19 (by decide) (fun c_19_3 => ?_) (fun c_19_3 => ?_)
      · exfalso; omega
      · refine lv_iload_n hx hb dX3_addUnit_22 rfl (lv_at hl 3 rfl) ?_
        refine lv_bipush (v := nI 9) hx hb dX3_addUnit_23 (by decide +kernel) ?_
        refine wt_icmp_le (tgt := 38) hx hb (by omega) (by omega) dX3_addUnit_25 (by decide) (fun c_25_4 => ?_) (fun c_25_4 => ?_)
        · refine lv_aload_n hx hb dX3_addUnit_38 rfl (lv_at hl 0 rfl) ?_
          refine va_get (D := (dC, dI)) (ci := 3) (v := .int (nI nt)) (C := RX3) (T := TX3) (N := 7) hx hb hts inX3 hown hK hP 0 rfl rfl 6 (by decide) (hts (.fieldLink RX3 40 "WarTable" "turns" "I") (List.mem_of_getElem? (i := 5) rfl)) (fun _ h9 => h9) rfl dX3_addUnit_39 ?_
          refine wt_if_gt (tgt := 79) hx hb (by omega) dX3_addUnit_42 (by decide) (fun c_42_5 => ?_) (fun c_42_5 => ?_)
          · exfalso; omega
          · refine lv_aload_n hx hb dX3_addUnit_45 rfl (lv_at hl 0 rfl) ?_
            refine va_get (D := (dC, dI)) (ci := 3) (v := .ref hu) (C := RX3) (T := TX3) (N := 7) hx hb hts inX3 hown hK hP 0 rfl rfl 2 (by decide) (hts (.fieldLink RX3 23 "WarTable" "units" "LWarTable$Units;") (List.mem_of_getElem? (i := 6) rfl)) (fun _ h9 => h9) rfl dX3_addUnit_46 ?_
            refine lv_aload_n hx hb dX3_addUnit_49 rfl (lv_at hl 0 rfl) ?_
            refine va_get (D := (dC, dI)) (ci := 3) (v := .int (nI nt)) (C := RX3) (T := TX3) (N := 7) hx hb hts inX3 hown hK hP 0 rfl rfl 6 (by decide) (hts (.fieldLink RX3 40 "WarTable" "turns" "I") (List.mem_of_getElem? (i := 5) rfl)) (fun _ h9 => h9) rfl dX3_addUnit_50 ?_
            refine lv_iload_n hx hb dX3_addUnit_53 rfl (lv_at hl 1 rfl) ?_
            refine wt_ro_go (va_runS (As := [.int (nI d)]) (rest := [.int (nI nt), .ref hu]) ⟨hx, hb, hml, hown, hts⟩ (k_X3_opponent l d (by omega)) (va_cwS 1 hts gX3_addUnit_X3_opponent rfl rfl rfl (by decide +kernel) ⟨Nat.le_of_ble_eq_true rfl, Nat.le_of_ble_eq_true rfl⟩) wt_PS rfl rfl hl.1 rfl (lv_room (Nat.le_of_ble_eq_true rfl)) dX3_addUnit_54 ⟨Nat.zero_le _, Nat.zero_le _⟩) ?_
            refine wt_ro_go (va_runV (As := [.int (nI nt), .int (nI (1 - d))]) (rest := []) ⟨hx, hb, hml, hown, hts⟩ (k_X2_townsHeld l dC dI cI hu sd tw st od fs ft ff fo cn nt (1 - d) (by omega) (by omega)) (cwV 2 hts gX3_addUnit_X2_townsHeld rfl rfl rfl (by decide +kernel) ⟨Nat.le_of_ble_eq_true rfl, Nat.le_of_ble_eq_true rfl⟩) (wt_PV (C := RX2) (T := TX2) (N := 5) (ci := 2) (q0 := 7) hK hP hN rfl rfl [7, 8, 9, 10, 11] rfl) rfl rfl hl.1 rfl (lv_room (Nat.le_of_ble_eq_true rfl)) dX3_addUnit_57 ⟨Nat.zero_le _, Nat.zero_le _⟩) ?_
            refine lv_iload_n hx hb dX3_addUnit_60 rfl (lv_at hl 2 rfl) ?_
            refine wt_ro_go (va_runS (As := [.int (wt_held fs ft nt (1 - d) cn), .int (nI t)]) (rest := []) ⟨hx, hb, hml, hown, hts⟩ (k_X3_has l (wt_held fs ft nt (1 - d) cn) (nI t)) (va_cwS 2 hts gX3_addUnit_X3_has rfl rfl rfl (by decide +kernel) ⟨Nat.le_of_ble_eq_true rfl, Nat.le_of_ble_eq_true rfl⟩) wt_PS rfl rfl hl.1 rfl (lv_room (Nat.le_of_ble_eq_true rfl)) dX3_addUnit_61 ⟨Nat.zero_le _, Nat.zero_le _⟩) ?_
            refine wt_if_neB (tgt := 79) hx hb dX3_addUnit_64 (by decide) (fun c_64_6 => ?_) (fun c_64_6 => ?_)
            · exact absurd c_64_6 hh
            · refine lv_aload_n hx hb dX3_addUnit_67 rfl (lv_at hl 0 rfl) ?_
              refine va_get (D := (dC, dI)) (ci := 3) (v := .ref hu) (C := RX3) (T := TX3) (N := 7) hx hb hts inX3 hown hK hP 0 rfl rfl 2 (by decide) (hts (.fieldLink RX3 23 "WarTable" "units" "LWarTable$Units;") (List.mem_of_getElem? (i := 6) rfl)) (fun _ h9 => h9) rfl dX3_addUnit_68 ?_
              refine wt_ro_go (va_runV (As := []) (rest := []) ⟨hx, hb, hml, hown, hts⟩ (k_X2_count l dC dI cI hu sd tw st od fs ft ff fo cn) (cwV 0 hts gX3_addUnit_X2_count rfl rfl rfl (by decide +kernel) ⟨Nat.le_of_ble_eq_true rfl, Nat.le_of_ble_eq_true rfl⟩) (wt_PV (C := RX2) (T := TX2) (N := 5) (ci := 2) (q0 := 7) hK hP hN rfl rfl [7, 8, 9, 10, 11] rfl) rfl rfl hl.1 rfl (lv_room (Nat.le_of_ble_eq_true rfl)) dX3_addUnit_71 ⟨Nat.zero_le _, Nat.zero_le _⟩) ?_
              refine lv_bipush (v := nI 12) hx hb dX3_addUnit_74 (by decide +kernel) ?_
              refine wt_icmp_lt (tgt := 89) hx hb (by omega) (by omega) dX3_addUnit_76 (by decide) (fun c_76_7 => ?_) (fun c_76_7 => ?_)
              · refine lv_aload_n hx hb dX3_addUnit_89 rfl (lv_at hl 0 rfl) ?_
                refine va_get (D := (dC, dI)) (ci := 3) (v := .ref hu) (C := RX3) (T := TX3) (N := 7) hx hb hts inX3 hown hK hP 0 rfl rfl 2 (by decide) (hts (.fieldLink RX3 23 "WarTable" "units" "LWarTable$Units;") (List.mem_of_getElem? (i := 6) rfl)) (fun _ h9 => h9) rfl dX3_addUnit_90 ?_
                refine lv_iload_n hx hb dX3_addUnit_93 rfl (lv_at hl 1 rfl) ?_
                refine lv_iload_n hx hb dX3_addUnit_94 rfl (lv_at hl 2 rfl) ?_
                refine lv_iload_n hx hb dX3_addUnit_95 rfl (lv_at hl 3 rfl) ?_
                refine wt_mu_go (w1 := [(hu, .inr (2, [.ref sd, .ref tw, .ref st, .ref od, .int (nI (cn + 1))])), (sd, .inl (cI, 12, .inl (upd fs cn (nI d)))), (tw, .inl (cI, 264, .inl (wt_plT ft 0 cn (nI t) (nI q)))), (st, .inl (cI, 264, .inl (wt_plF ff 0 cn (nI q)))), (od, .inl (cI, 264, .inl fo))]) (w2 := [(h, .inr (3, [.ref hm, .ref dp, .ref hu, .ref we, .ref se, .ref hq, .int (nI nt)])), (dp, .inl (cI, 2, .inl fd)), (we, .inl (cI, 20, .inl fw)), (se, .inl (cI, 20, .inl fe)), (hm, .inr (0, [.ref pv, .ref up, .int (nI nr)])), (pv, .inl (cI, 10, .inl fp)), (up, .inl (cI, 10, .inl fu)), (hu, .inr (2, [.ref sd, .ref tw, .ref st, .ref od, .int (nI (cn + 1))])), (sd, .inl (cI, 12, .inl (upd fs cn (nI d)))), (tw, .inl (cI, 264, .inl (wt_plT ft 0 cn (nI t) (nI q)))), (st, .inl (cI, 264, .inl (wt_plF ff 0 cn (nI q)))), (od, .inl (cI, 264, .inl fo))]) (wr := [(h, .inr (3, [.ref hm, .ref dp, .ref hu, .ref we, .ref se, .ref hq, .int (nI nt)])), (dp, .inl (cI, 2, .inl fd)), (we, .inl (cI, 20, .inl fw)), (se, .inl (cI, 20, .inl fe)), (hm, .inr (0, [.ref pv, .ref up, .int (nI nr)])), (pv, .inl (cI, 10, .inl fp)), (up, .inl (cI, 10, .inl fu))]) (va_runV (As := [.int (nI d), .int (nI t), .int (nI q)]) (rest := []) ⟨hx, hb, hml, hown, hts⟩ (k_X2_add l dC dI cI hu sd tw st od fs ft ff fo cn (nI d) (nI t) (nI q) s.heap.size (by omega)) (cwV 3 hts gX3_addUnit_X2_add rfl rfl rfl (by decide +kernel) ⟨Nat.le_of_ble_eq_true rfl, Nat.le_of_ble_eq_true rfl⟩) (wt_PVM (C := RX2) (T := TX2) (N := 5) (ci := 2) (q0 := 7) hK hP hN hD rfl rfl [7, 8, 9, 10, 11] rfl rfl) rfl rfl hl.1 rfl (lv_room (Nat.le_of_ble_eq_true rfl)) dX3_addUnit_96 ⟨Nat.zero_le _, Nat.zero_le _⟩) hP hD hS hA [7, 8, 9, 10, 11] [0, 1, 2, 3, 4, 5, 6] rfl rfl rfl rfl (by decide) rfl [0, 1, 2, 3, 4, 5, 6, 7, 8, 9, 10, 11] rfl rfl (fun H locs hP hD hS hz9 => ?_)
                refine W.eq (g2 := F0 m 99 ls [.int (nI cn)]) rfl ?_
                exact wt_miret hx hb hr rfl hP hS dX3_addUnit_99 hlocks
              · exfalso; omega
        · exfalso; omega
set_option maxHeartbeats 4000000 in
set_option maxRecDepth 100000 in
theorem k_X3_orderS (l : Launch) (dC : Nat → ClassId) (dI : Nat → Nat → Nat) (cI : ClassId) (h : Nat) (dp : Nat) (we : Nat) (se : Nat) (fd : Nat → Int32) (fw : Nat → Int32) (fe : Nat → Int32) (nt : Nat) (hm : Nat) (pv : Nat) (up : Nat) (fp : Nat → Int32) (fu : Nat → Int32) (nr : Nat) (hu : Nat) (sd : Nat) (tw : Nat) (st : Nat) (od : Nat) (fs : Nat → Int32) (ft : Nat → Int32) (ff : Nat → Int32) (fo : Nat → Int32) (cn : Nat) (hq : Nat) (u : Nat) (y : Int32) (sz : Nat) (hcn : cn ≤ 12) (hnt : nt ≤ 20) (hu2 : u < cn) (hy : wt_ok y) : Met l yX3_order wsX3_order ({ frames := 7, cells := 0, slots := 0, locals := 111 }) (va_Pc [.ref h, .int (nI u), .int y] (wt_pm (dC, dI) cI [(h, .inr (3, [.ref hm, .ref dp, .ref hu, .ref we, .ref se, .ref hq, .int (nI nt)])), (dp, .inl (cI, 2, .inl fd)), (we, .inl (cI, 20, .inl fw)), (se, .inl (cI, 20, .inl fe)), (hm, .inr (0, [.ref pv, .ref up, .int (nI nr)])), (pv, .inl (cI, 10, .inl fp)), (up, .inl (cI, 10, .inl fu)), (hu, .inr (2, [.ref sd, .ref tw, .ref st, .ref od, .int (nI cn)])), (sd, .inl (cI, 12, .inl fs)), (tw, .inl (cI, 264, .inl ft)), (st, .inl (cI, 264, .inl ff)), (od, .inl (cI, 264, .inl fo))] sz)) (wt_mu (some (.int (fo (nt * 12 + u) - nI 1))) (dC, dI) [(h, .inr (3, [.ref hm, .ref dp, .ref hu, .ref we, .ref se, .ref hq, .int (nI nt)])), (dp, .inl (cI, 2, .inl fd)), (we, .inl (cI, 20, .inl fw)), (se, .inl (cI, 20, .inl fe)), (hm, .inr (0, [.ref pv, .ref up, .int (nI nr)])), (pv, .inl (cI, 10, .inl fp)), (up, .inl (cI, 10, .inl fu)), (hu, .inr (2, [.ref sd, .ref tw, .ref st, .ref od, .int (nI cn)])), (sd, .inl (cI, 12, .inl fs)), (tw, .inl (cI, 264, .inl ft)), (st, .inl (cI, 264, .inl ff)), (od, .inl (cI, 264, .inl (upd fo (nt * 12 + u) (y + nI 1))))] (va_A [(h, .inr (3, [.ref hm, .ref dp, .ref hu, .ref we, .ref se, .ref hq, .int (nI nt)])), (dp, .inl (cI, 2, .inl fd)), (we, .inl (cI, 20, .inl fw)), (se, .inl (cI, 20, .inl fe)), (hm, .inr (0, [.ref pv, .ref up, .int (nI nr)])), (pv, .inl (cI, 10, .inl fp)), (up, .inl (cI, 10, .inl fu)), (hu, .inr (2, [.ref sd, .ref tw, .ref st, .ref od, .int (nI cn)])), (sd, .inl (cI, 12, .inl fs)), (tw, .inl (cI, 264, .inl ft)), (st, .inl (cI, 264, .inl ff)), (od, .inl (cI, 264, .inl fo))] sz)) 0 0 (va_A [(h, .inr (3, [.ref hm, .ref dp, .ref hu, .ref we, .ref se, .ref hq, .int (nI nt)])), (dp, .inl (cI, 2, .inl fd)), (we, .inl (cI, 20, .inl fw)), (se, .inl (cI, 20, .inl fe)), (hm, .inr (0, [.ref pv, .ref up, .int (nI nr)])), (pv, .inl (cI, 10, .inl fp)), (up, .inl (cI, 10, .inl fu)), (hu, .inr (2, [.ref sd, .ref tw, .ref st, .ref od, .int (nI cn)])), (sd, .inl (cI, 12, .inl fs)), (tw, .inl (cI, 264, .inl ft)), (st, .inl (cI, 264, .inl ff)), (od, .inl (cI, 264, .inl fo))] sz) := by
  refine Met.ofW (cc := cX3_order) (maxL := 4) (ret := (some .int)) (by decide) rfl ?_
  intro p e s m args below meth c s₁ B hml hv
  obtain ⟨rfl, hsz, ⟨hP, hK, hN⟩, hD0⟩ := hv
  have hx := B.exec
  have hb := B.bytes
  have hr := B.returns
  have hts := atoms_spec (ws := wsX3_order) B.pre
  have hown : s.vm.findClass RX3 = some m.cls := findClass_of_methodNamed B.named
  have hlocks := B.notSynchronized
  subst hsz
  have hD := hD0.self (sz := s.heap.size)
  generalize hAe : va_A [(h, .inr (3, [.ref hm, .ref dp, .ref hu, .ref we, .ref se, .ref hq, .int (nI nt)])), (dp, .inl (cI, 2, .inl fd)), (we, .inl (cI, 20, .inl fw)), (se, .inl (cI, 20, .inl fe)), (hm, .inr (0, [.ref pv, .ref up, .int (nI nr)])), (pv, .inl (cI, 10, .inl fp)), (up, .inl (cI, 10, .inl fu)), (hu, .inr (2, [.ref sd, .ref tw, .ref st, .ref od, .int (nI cn)])), (sd, .inl (cI, 12, .inl fs)), (tw, .inl (cI, 264, .inl ft)), (st, .inl (cI, 264, .inl ff)), (od, .inl (cI, 264, .inl fo))] s.heap.size = A at hD ⊢
  have hA : ∀ q : Nat, s.heap.size ≤ q → A q := fun q h => by rw [← hAe]; exact Or.inr h
  have hS : va_S A s.heap s.heap [] := va_S.rf
  have inX2 : ∀ w ∈ wsX20, w ∈ wsX3_order := wt_in [43, 44, 45, 46, 47] (by decide +kernel)
  have inX3 : ∀ w ∈ wsX30, w ∈ wsX3_order := wt_in [36, 37, 38, 39, 40, 41, 42] (by decide +kernel)
  have hl := lv_entry ([.ref h, .int (nI u), .int y]) (n := 4) (Nat.le_of_ble_eq_true rfl)
  rw [lg_entry_eq]
  generalize (lg_sl ([.ref h, .int (nI u), .int y]) ++ List.replicate (4 - (lg_sl ([.ref h, .int (nI u), .int y])).length) Slot.unset).toArray = ls at hl ⊢
  have hl : lv_has ls 4 [(0, .ref h), (1, .int (nI u)), (2, .int y)] := hl
  refine lv_aload_n hx hb dX3_order_0 rfl (lv_at hl 0 rfl) ?_
  refine lv_iload_n hx hb dX3_order_1 rfl (lv_at hl 1 rfl) ?_
  refine wt_rv_go (va_runV (As := [.int (nI u)]) (rest := []) ⟨hx, hb, hml, hown, hts⟩ (k_X3_checkUnitS l dC dI cI h dp we se fd fw fe nt hm pv up fp fu nr hu sd tw st od fs ft ff fo cn hq u (by omega) (by omega)) (cwV 1 hts gX3_order_X3_checkUnit rfl rfl rfl (by decide +kernel) ⟨Nat.le_of_ble_eq_true rfl, Nat.le_of_ble_eq_true rfl⟩) (wt_PV (C := RX3) (T := TX3) (N := 7) (ci := 3) (q0 := 0) hK hP hN rfl rfl [0, 1, 2, 3, 4, 5, 6, 7, 8, 9, 10, 11] rfl) rfl rfl hl.1 rfl (lv_room (Nat.le_of_ble_eq_true rfl)) dX3_order_2 ⟨Nat.zero_le _, Nat.zero_le _⟩) ?_
  refine lv_iload_n hx hb dX3_order_5 rfl (lv_at hl 2 rfl) ?_
  refine lv_iconst (v := (-1)) hx hb dX3_order_6 (by decide +kernel) ?_
  refine wt_icmp_eqI (tgt := 29) hx hb dX3_order_7 (by decide) (fun c_7_1 => ?_) (fun c_7_1 => ?_)
  · refine lv_aload_n hx hb dX3_order_29 rfl (lv_at hl 0 rfl) ?_
    refine va_get (D := (dC, dI)) (ci := 3) (v := .ref hu) (C := RX3) (T := TX3) (N := 7) hx hb hts inX3 hown hK hP 0 rfl rfl 2 (by decide) (hts (.fieldLink RX3 23 "WarTable" "units" "LWarTable$Units;") (List.mem_of_getElem? (i := 3) rfl)) (fun _ h9 => h9) rfl dX3_order_30 ?_
    refine lv_aload_n hx hb dX3_order_33 rfl (lv_at hl 0 rfl) ?_
    refine va_get (D := (dC, dI)) (ci := 3) (v := .int (nI nt)) (C := RX3) (T := TX3) (N := 7) hx hb hts inX3 hown hK hP 0 rfl rfl 6 (by decide) (hts (.fieldLink RX3 40 "WarTable" "turns" "I") (List.mem_of_getElem? (i := 4) rfl)) (fun _ h9 => h9) rfl dX3_order_34 ?_
    refine lv_iload_n hx hb dX3_order_37 rfl (lv_at hl 1 rfl) ?_
    refine wt_ro_go (va_runV (As := [.int (nI nt), .int (nI u)]) (rest := []) ⟨hx, hb, hml, hown, hts⟩ (k_X2_orderFor l dC dI cI hu sd tw st od fs ft ff fo cn nt u (by omega) (by omega)) (cwV 2 hts gX3_order_X2_orderFor rfl rfl rfl (by decide +kernel) ⟨Nat.le_of_ble_eq_true rfl, Nat.le_of_ble_eq_true rfl⟩) (wt_PV (C := RX2) (T := TX2) (N := 5) (ci := 2) (q0 := 7) hK hP hN rfl rfl [7, 8, 9, 10, 11] rfl) rfl rfl hl.1 rfl (lv_room (Nat.le_of_ble_eq_true rfl)) dX3_order_38 ⟨Nat.zero_le _, Nat.zero_le _⟩) ?_
    refine lv_istore_n (lv' := [(3, .int (fo (nt * 12 + u) - nI 1)), (0, .ref h), (1, .int (nI u)), (2, .int y)]) hx hb dX3_order_41 rfl hl (by decide) rfl (fun ls hl => ?_)
    refine lv_aload_n hx hb dX3_order_42 rfl (lv_at hl 1 rfl) ?_
    refine va_get (D := (dC, dI)) (ci := 3) (v := .ref hu) (C := RX3) (T := TX3) (N := 7) hx hb hts inX3 hown hK hP 0 rfl rfl 2 (by decide) (hts (.fieldLink RX3 23 "WarTable" "units" "LWarTable$Units;") (List.mem_of_getElem? (i := 3) rfl)) (fun _ h9 => h9) rfl dX3_order_43 ?_
    refine lv_aload_n hx hb dX3_order_46 rfl (lv_at hl 1 rfl) ?_
    refine va_get (D := (dC, dI)) (ci := 3) (v := .int (nI nt)) (C := RX3) (T := TX3) (N := 7) hx hb hts inX3 hown hK hP 0 rfl rfl 6 (by decide) (hts (.fieldLink RX3 40 "WarTable" "turns" "I") (List.mem_of_getElem? (i := 4) rfl)) (fun _ h9 => h9) rfl dX3_order_47 ?_
    refine lv_iload_n hx hb dX3_order_50 rfl (lv_at hl 2 rfl) ?_
    refine lv_iload_n hx hb dX3_order_51 rfl (lv_at hl 3 rfl) ?_
    refine wt_mu_go (w1 := [(hu, .inr (2, [.ref sd, .ref tw, .ref st, .ref od, .int (nI cn)])), (sd, .inl (cI, 12, .inl fs)), (tw, .inl (cI, 264, .inl ft)), (st, .inl (cI, 264, .inl ff)), (od, .inl (cI, 264, .inl (upd fo (nt * 12 + u) (y + nI 1))))]) (w2 := [(h, .inr (3, [.ref hm, .ref dp, .ref hu, .ref we, .ref se, .ref hq, .int (nI nt)])), (dp, .inl (cI, 2, .inl fd)), (we, .inl (cI, 20, .inl fw)), (se, .inl (cI, 20, .inl fe)), (hm, .inr (0, [.ref pv, .ref up, .int (nI nr)])), (pv, .inl (cI, 10, .inl fp)), (up, .inl (cI, 10, .inl fu)), (hu, .inr (2, [.ref sd, .ref tw, .ref st, .ref od, .int (nI cn)])), (sd, .inl (cI, 12, .inl fs)), (tw, .inl (cI, 264, .inl ft)), (st, .inl (cI, 264, .inl ff)), (od, .inl (cI, 264, .inl (upd fo (nt * 12 + u) (y + nI 1))))]) (wr := [(h, .inr (3, [.ref hm, .ref dp, .ref hu, .ref we, .ref se, .ref hq, .int (nI nt)])), (dp, .inl (cI, 2, .inl fd)), (we, .inl (cI, 20, .inl fw)), (se, .inl (cI, 20, .inl fe)), (hm, .inr (0, [.ref pv, .ref up, .int (nI nr)])), (pv, .inl (cI, 10, .inl fp)), (up, .inl (cI, 10, .inl fu))]) (va_runV (As := [.int (nI nt), .int (nI u), .int y]) (rest := []) ⟨hx, hb, hml, hown, hts⟩ (k_X2_giveOrder l dC dI cI hu sd tw st od fs ft ff fo cn nt u y s.heap.size (by omega) (by omega)) (cwV 3 hts gX3_order_X2_giveOrder rfl rfl rfl (by decide +kernel) ⟨Nat.le_of_ble_eq_true rfl, Nat.le_of_ble_eq_true rfl⟩) (wt_PVM (C := RX2) (T := TX2) (N := 5) (ci := 2) (q0 := 7) hK hP hN hD rfl rfl [7, 8, 9, 10, 11] rfl rfl) rfl rfl hl.1 rfl (lv_room (Nat.le_of_ble_eq_true rfl)) dX3_order_52 ⟨Nat.zero_le _, Nat.zero_le _⟩) hP hD hS hA [7, 8, 9, 10, 11] [0, 1, 2, 3, 4, 5, 6] rfl rfl rfl rfl (by decide) rfl [0, 1, 2, 3, 4, 5, 6, 7, 8, 9, 10, 11] rfl rfl (fun H locs hP hD hS hz9 => ?_)
    refine W.eq (g2 := F0 m 55 ls []) rfl ?_
    refine lv_iload_n hx hb dX3_order_55 rfl (lv_at hl 0 rfl) ?_
    exact wt_miret hx hb hr rfl hP hS dX3_order_56 hlocks
  · refine lv_iload_n hx hb dX3_order_10 rfl (lv_at hl 2 rfl) ?_
    refine lv_bipush (v := nI 10) hx hb dX3_order_11 (by decide +kernel) ?_
    refine wt_ro_go (va_runS (As := [.int y, .int (nI 10)]) (rest := []) ⟨hx, hb, hml, hown, hts⟩ (k_X3_belowI l y 10 (by omega)) (va_cwS 2 hts gX3_order_X3_below rfl rfl rfl (by decide +kernel) ⟨Nat.le_of_ble_eq_true rfl, Nat.le_of_ble_eq_true rfl⟩) wt_PS rfl rfl hl.1 rfl (lv_room (Nat.le_of_ble_eq_true rfl)) dX3_order_13 ⟨Nat.zero_le _, Nat.zero_le _⟩) ?_
    refine wt_if_neB (tgt := 29) hx hb dX3_order_16 (by decide) (fun c_16_2 => ?_) (fun c_16_2 => ?_)
    · refine lv_aload_n hx hb dX3_order_29 rfl (lv_at hl 0 rfl) ?_
      refine va_get (D := (dC, dI)) (ci := 3) (v := .ref hu) (C := RX3) (T := TX3) (N := 7) hx hb hts inX3 hown hK hP 0 rfl rfl 2 (by decide) (hts (.fieldLink RX3 23 "WarTable" "units" "LWarTable$Units;") (List.mem_of_getElem? (i := 3) rfl)) (fun _ h9 => h9) rfl dX3_order_30 ?_
      refine lv_aload_n hx hb dX3_order_33 rfl (lv_at hl 0 rfl) ?_
      refine va_get (D := (dC, dI)) (ci := 3) (v := .int (nI nt)) (C := RX3) (T := TX3) (N := 7) hx hb hts inX3 hown hK hP 0 rfl rfl 6 (by decide) (hts (.fieldLink RX3 40 "WarTable" "turns" "I") (List.mem_of_getElem? (i := 4) rfl)) (fun _ h9 => h9) rfl dX3_order_34 ?_
      refine lv_iload_n hx hb dX3_order_37 rfl (lv_at hl 1 rfl) ?_
      refine wt_ro_go (va_runV (As := [.int (nI nt), .int (nI u)]) (rest := []) ⟨hx, hb, hml, hown, hts⟩ (k_X2_orderFor l dC dI cI hu sd tw st od fs ft ff fo cn nt u (by omega) (by omega)) (cwV 2 hts gX3_order_X2_orderFor rfl rfl rfl (by decide +kernel) ⟨Nat.le_of_ble_eq_true rfl, Nat.le_of_ble_eq_true rfl⟩) (wt_PV (C := RX2) (T := TX2) (N := 5) (ci := 2) (q0 := 7) hK hP hN rfl rfl [7, 8, 9, 10, 11] rfl) rfl rfl hl.1 rfl (lv_room (Nat.le_of_ble_eq_true rfl)) dX3_order_38 ⟨Nat.zero_le _, Nat.zero_le _⟩) ?_
      refine lv_istore_n (lv' := [(3, .int (fo (nt * 12 + u) - nI 1)), (0, .ref h), (1, .int (nI u)), (2, .int y)]) hx hb dX3_order_41 rfl hl (by decide) rfl (fun ls hl => ?_)
      refine lv_aload_n hx hb dX3_order_42 rfl (lv_at hl 1 rfl) ?_
      refine va_get (D := (dC, dI)) (ci := 3) (v := .ref hu) (C := RX3) (T := TX3) (N := 7) hx hb hts inX3 hown hK hP 0 rfl rfl 2 (by decide) (hts (.fieldLink RX3 23 "WarTable" "units" "LWarTable$Units;") (List.mem_of_getElem? (i := 3) rfl)) (fun _ h9 => h9) rfl dX3_order_43 ?_
      refine lv_aload_n hx hb dX3_order_46 rfl (lv_at hl 1 rfl) ?_
      refine va_get (D := (dC, dI)) (ci := 3) (v := .int (nI nt)) (C := RX3) (T := TX3) (N := 7) hx hb hts inX3 hown hK hP 0 rfl rfl 6 (by decide) (hts (.fieldLink RX3 40 "WarTable" "turns" "I") (List.mem_of_getElem? (i := 4) rfl)) (fun _ h9 => h9) rfl dX3_order_47 ?_
      refine lv_iload_n hx hb dX3_order_50 rfl (lv_at hl 2 rfl) ?_
      refine lv_iload_n hx hb dX3_order_51 rfl (lv_at hl 3 rfl) ?_
      refine wt_mu_go (w1 := [(hu, .inr (2, [.ref sd, .ref tw, .ref st, .ref od, .int (nI cn)])), (sd, .inl (cI, 12, .inl fs)), (tw, .inl (cI, 264, .inl ft)), (st, .inl (cI, 264, .inl ff)), (od, .inl (cI, 264, .inl (upd fo (nt * 12 + u) (y + nI 1))))]) (w2 := [(h, .inr (3, [.ref hm, .ref dp, .ref hu, .ref we, .ref se, .ref hq, .int (nI nt)])), (dp, .inl (cI, 2, .inl fd)), (we, .inl (cI, 20, .inl fw)), (se, .inl (cI, 20, .inl fe)), (hm, .inr (0, [.ref pv, .ref up, .int (nI nr)])), (pv, .inl (cI, 10, .inl fp)), (up, .inl (cI, 10, .inl fu)), (hu, .inr (2, [.ref sd, .ref tw, .ref st, .ref od, .int (nI cn)])), (sd, .inl (cI, 12, .inl fs)), (tw, .inl (cI, 264, .inl ft)), (st, .inl (cI, 264, .inl ff)), (od, .inl (cI, 264, .inl (upd fo (nt * 12 + u) (y + nI 1))))]) (wr := [(h, .inr (3, [.ref hm, .ref dp, .ref hu, .ref we, .ref se, .ref hq, .int (nI nt)])), (dp, .inl (cI, 2, .inl fd)), (we, .inl (cI, 20, .inl fw)), (se, .inl (cI, 20, .inl fe)), (hm, .inr (0, [.ref pv, .ref up, .int (nI nr)])), (pv, .inl (cI, 10, .inl fp)), (up, .inl (cI, 10, .inl fu))]) (va_runV (As := [.int (nI nt), .int (nI u), .int y]) (rest := []) ⟨hx, hb, hml, hown, hts⟩ (k_X2_giveOrder l dC dI cI hu sd tw st od fs ft ff fo cn nt u y s.heap.size (by omega) (by omega)) (cwV 3 hts gX3_order_X2_giveOrder rfl rfl rfl (by decide +kernel) ⟨Nat.le_of_ble_eq_true rfl, Nat.le_of_ble_eq_true rfl⟩) (wt_PVM (C := RX2) (T := TX2) (N := 5) (ci := 2) (q0 := 7) hK hP hN hD rfl rfl [7, 8, 9, 10, 11] rfl rfl) rfl rfl hl.1 rfl (lv_room (Nat.le_of_ble_eq_true rfl)) dX3_order_52 ⟨Nat.zero_le _, Nat.zero_le _⟩) hP hD hS hA [7, 8, 9, 10, 11] [0, 1, 2, 3, 4, 5, 6] rfl rfl rfl rfl (by decide) rfl [0, 1, 2, 3, 4, 5, 6, 7, 8, 9, 10, 11] rfl rfl (fun H locs hP hD hS hz9 => ?_)
      refine W.eq (g2 := F0 m 55 ls []) rfl ?_
      refine lv_iload_n hx hb dX3_order_55 rfl (lv_at hl 0 rfl) ?_
      exact wt_miret hx hb hr rfl hP hS dX3_order_56 hlocks
    · exact absurd (hy.resolve_left c_7_1) c_16_2
set_option maxHeartbeats 4000000 in
set_option maxRecDepth 100000 in
theorem k_X3_playS (l : Launch) (dC : Nat → ClassId) (dI : Nat → Nat → Nat) (cI : ClassId) (h : Nat) (dp : Nat) (we : Nat) (se : Nat) (fd : Nat → Int32) (fw : Nat → Int32) (fe : Nat → Int32) (nt : Nat) (hm : Nat) (pv : Nat) (up : Nat) (fp : Nat → Int32) (fu : Nat → Int32) (nr : Nat) (hu : Nat) (sd : Nat) (tw : Nat) (st : Nat) (od : Nat) (fs : Nat → Int32) (ft : Nat → Int32) (ff : Nat → Int32) (fo : Nat → Int32) (cn : Nat) (hq : Nat) (w : Int32) (sz : Nat) (hcn : cn ≤ 12) (hn1 : nt < 20) (hw : vp_in w 3) : Met l yX3_play wsX3_play ({ frames := 7, cells := 0, slots := 0, locals := 145 }) (va_Pc [.ref h, .int w] (wt_pm (dC, dI) cI [(h, .inr (3, [.ref hm, .ref dp, .ref hu, .ref we, .ref se, .ref hq, .int (nI nt)])), (dp, .inl (cI, 2, .inl fd)), (we, .inl (cI, 20, .inl fw)), (se, .inl (cI, 20, .inl fe)), (hm, .inr (0, [.ref pv, .ref up, .int (nI nr)])), (pv, .inl (cI, 10, .inl fp)), (up, .inl (cI, 10, .inl fu)), (hu, .inr (2, [.ref sd, .ref tw, .ref st, .ref od, .int (nI cn)])), (sd, .inl (cI, 12, .inl fs)), (tw, .inl (cI, 264, .inl ft)), (st, .inl (cI, 264, .inl ff)), (od, .inl (cI, 264, .inl fo))] sz)) (wt_mu (some (.int ((nI (wt_fold (wt_lvs (wt_fold (wt_trn fd (upd fw nt w) fp fu fs fo cn nt) ((nt + 1) - nt) ((ft, ff), fe)).1.1 nt) cn 0)) - (nI (wt_fold (wt_lvs (wt_fold (wt_trn fd (upd fw nt w) fp fu fs fo cn nt) ((nt + 1) - nt) ((ft, ff), fe)).1.1 (nt + 1)) cn 0))))) (dC, dI) [(h, .inr (3, [.ref hm, .ref dp, .ref hu, .ref we, .ref se, .ref hq, .int (nI (nt + 1))])), (dp, .inl (cI, 2, .inl fd)), (we, .inl (cI, 20, .inl (upd fw nt w))), (se, .inl (cI, 20, .inl ((wt_fold (wt_trn fd (upd fw nt w) fp fu fs fo cn nt) ((nt + 1) - nt) ((ft, ff), fe)).2))), (hm, .inr (0, [.ref pv, .ref up, .int (nI nr)])), (pv, .inl (cI, 10, .inl fp)), (up, .inl (cI, 10, .inl fu)), (hu, .inr (2, [.ref sd, .ref tw, .ref st, .ref od, .int (nI cn)])), (sd, .inl (cI, 12, .inl fs)), (tw, .inl (cI, 264, .inl ((wt_fold (wt_trn fd (upd fw nt w) fp fu fs fo cn nt) ((nt + 1) - nt) ((ft, ff), fe)).1.1))), (st, .inl (cI, 264, .inl ((wt_fold (wt_trn fd (upd fw nt w) fp fu fs fo cn nt) ((nt + 1) - nt) ((ft, ff), fe)).1.2))), (od, .inl (cI, 264, .inl fo))] (va_A [(h, .inr (3, [.ref hm, .ref dp, .ref hu, .ref we, .ref se, .ref hq, .int (nI nt)])), (dp, .inl (cI, 2, .inl fd)), (we, .inl (cI, 20, .inl fw)), (se, .inl (cI, 20, .inl fe)), (hm, .inr (0, [.ref pv, .ref up, .int (nI nr)])), (pv, .inl (cI, 10, .inl fp)), (up, .inl (cI, 10, .inl fu)), (hu, .inr (2, [.ref sd, .ref tw, .ref st, .ref od, .int (nI cn)])), (sd, .inl (cI, 12, .inl fs)), (tw, .inl (cI, 264, .inl ft)), (st, .inl (cI, 264, .inl ff)), (od, .inl (cI, 264, .inl fo))] sz)) 0 0 (va_A [(h, .inr (3, [.ref hm, .ref dp, .ref hu, .ref we, .ref se, .ref hq, .int (nI nt)])), (dp, .inl (cI, 2, .inl fd)), (we, .inl (cI, 20, .inl fw)), (se, .inl (cI, 20, .inl fe)), (hm, .inr (0, [.ref pv, .ref up, .int (nI nr)])), (pv, .inl (cI, 10, .inl fp)), (up, .inl (cI, 10, .inl fu)), (hu, .inr (2, [.ref sd, .ref tw, .ref st, .ref od, .int (nI cn)])), (sd, .inl (cI, 12, .inl fs)), (tw, .inl (cI, 264, .inl ft)), (st, .inl (cI, 264, .inl ff)), (od, .inl (cI, 264, .inl fo))] sz) := by
  refine Met.ofW (cc := cX3_play) (maxL := 3) (ret := (some .int)) (by decide) rfl ?_
  intro p e s m args below meth c s₁ B hml hv
  obtain ⟨rfl, hsz, ⟨hP, hK, hN⟩, hD0⟩ := hv
  have hx := B.exec
  have hb := B.bytes
  have hr := B.returns
  have hts := atoms_spec (ws := wsX3_play) B.pre
  have hown : s.vm.findClass RX3 = some m.cls := findClass_of_methodNamed B.named
  have hlocks := B.notSynchronized
  subst hsz
  have hD := hD0.self (sz := s.heap.size)
  generalize hAe : va_A [(h, .inr (3, [.ref hm, .ref dp, .ref hu, .ref we, .ref se, .ref hq, .int (nI nt)])), (dp, .inl (cI, 2, .inl fd)), (we, .inl (cI, 20, .inl fw)), (se, .inl (cI, 20, .inl fe)), (hm, .inr (0, [.ref pv, .ref up, .int (nI nr)])), (pv, .inl (cI, 10, .inl fp)), (up, .inl (cI, 10, .inl fu)), (hu, .inr (2, [.ref sd, .ref tw, .ref st, .ref od, .int (nI cn)])), (sd, .inl (cI, 12, .inl fs)), (tw, .inl (cI, 264, .inl ft)), (st, .inl (cI, 264, .inl ff)), (od, .inl (cI, 264, .inl fo))] s.heap.size = A at hD ⊢
  have hA : ∀ q : Nat, s.heap.size ≤ q → A q := fun q h => by rw [← hAe]; exact Or.inr h
  have hS : va_S A s.heap s.heap [] := va_S.rf
  have inX0 : ∀ w ∈ wsX00, w ∈ wsX3_play := wt_in [145, 146, 147] (by decide +kernel)
  have inX2 : ∀ w ∈ wsX20, w ∈ wsX3_play := wt_in [140, 141, 142, 143, 144] (by decide +kernel)
  have inX3 : ∀ w ∈ wsX30, w ∈ wsX3_play := wt_in [133, 134, 135, 136, 137, 138, 139] (by decide +kernel)
  have hl := lv_entry ([.ref h, .int w]) (n := 3) (Nat.le_of_ble_eq_true rfl)
  rw [lg_entry_eq]
  generalize (lg_sl ([.ref h, .int w]) ++ List.replicate (3 - (lg_sl ([.ref h, .int w])).length) Slot.unset).toArray = ls at hl ⊢
  have hl : lv_has ls 3 [(0, .ref h), (1, .int w)] := hl
  refine lv_iload_n hx hb dX3_play_0 rfl (lv_at hl 1 rfl) ?_
  refine wt_rv_go (va_runS (As := [.int w]) (rest := []) ⟨hx, hb, hml, hown, hts⟩ (k_X3_checkWeatherS l w (by omega)) (va_cwS 1 hts gX3_play_X3_checkWeather rfl rfl rfl (by decide +kernel) ⟨Nat.le_of_ble_eq_true rfl, Nat.le_of_ble_eq_true rfl⟩) wt_PS rfl rfl hl.1 rfl (lv_room (Nat.le_of_ble_eq_true rfl)) dX3_play_1 ⟨Nat.zero_le _, Nat.zero_le _⟩) ?_
  refine lv_aload_n hx hb dX3_play_4 rfl (lv_at hl 0 rfl) ?_
  refine va_get (D := (dC, dI)) (ci := 3) (v := .int (nI nt)) (C := RX3) (T := TX3) (N := 7) hx hb hts inX3 hown hK hP 0 rfl rfl 6 (by decide) (hts (.fieldLink RX3 40 "WarTable" "turns" "I") (List.mem_of_getElem? (i := 3) rfl)) (fun _ h9 => h9) rfl dX3_play_5 ?_
  refine lv_bipush (v := nI 20) hx hb dX3_play_8 (by decide +kernel) ?_
  refine wt_ro_go (va_runS (As := [.int (nI nt), .int (nI 20)]) (rest := []) ⟨hx, hb, hml, hown, hts⟩ (k_X3_belowN l nt 20 (by omega) (by omega)) (va_cwS 2 hts gX3_play_X3_below rfl rfl rfl (by decide +kernel) ⟨Nat.le_of_ble_eq_true rfl, Nat.le_of_ble_eq_true rfl⟩) wt_PS rfl rfl hl.1 rfl (lv_room (Nat.le_of_ble_eq_true rfl)) dX3_play_10 ⟨Nat.zero_le _, Nat.zero_le _⟩) ?_
  refine wt_if_neB (tgt := 26) hx hb dX3_play_13 (by decide) (fun c_13_1 => ?_) (fun c_13_1 => ?_)
  · refine lv_aload_n hx hb dX3_play_26 rfl (lv_at hl 0 rfl) ?_
    refine va_get (D := (dC, dI)) (ci := 3) (v := .int (nI nt)) (C := RX3) (T := TX3) (N := 7) hx hb hts inX3 hown hK hP 0 rfl rfl 6 (by decide) (hts (.fieldLink RX3 40 "WarTable" "turns" "I") (List.mem_of_getElem? (i := 3) rfl)) (fun _ h9 => h9) rfl dX3_play_27 ?_
    refine lv_istore_n (lv' := [(2, .int (nI nt)), (0, .ref h), (1, .int w)]) hx hb dX3_play_30 rfl hl (by decide) rfl (fun ls hl => ?_)
    refine lv_aload_n hx hb dX3_play_31 rfl (lv_at hl 1 rfl) ?_
    refine va_get (D := (dC, dI)) (ci := 3) (v := .ref we) (C := RX3) (T := TX3) (N := 7) hx hb hts inX3 hown hK hP 0 rfl rfl 3 (by decide) (hts (.fieldLink RX3 27 "WarTable" "weathers" "[I") (List.mem_of_getElem? (i := 4) rfl)) (fun _ h9 => h9) rfl dX3_play_32 ?_
    refine lv_iload_n hx hb dX3_play_35 rfl (lv_at hl 0 rfl) ?_
    refine lv_iload_n hx hb dX3_play_36 rfl (lv_at hl 2 rfl) ?_
    refine wt_iast hx hb hK hP hD hS 2 rfl (by omega) (by omega) dX3_play_37 (fun H locs hP hD hS => ?_)
    have hP : va_P (dC, dI) vwCl [(h, .inr (3, [.ref hm, .ref dp, .ref hu, .ref we, .ref se, .ref hq, .int (nI nt)])), (dp, .inl (cI, 2, .inl fd)), (we, .inl (cI, 20, .inl (upd fw nt w))), (se, .inl (cI, 20, .inl fe)), (hm, .inr (0, [.ref pv, .ref up, .int (nI nr)])), (pv, .inl (cI, 10, .inl fp)), (up, .inl (cI, 10, .inl fu)), (hu, .inr (2, [.ref sd, .ref tw, .ref st, .ref od, .int (nI cn)])), (sd, .inl (cI, 12, .inl fs)), (tw, .inl (cI, 264, .inl ft)), (st, .inl (cI, 264, .inl ff)), (od, .inl (cI, 264, .inl fo))] H := hP
    have hD : va_D A [(h, .inr (3, [.ref hm, .ref dp, .ref hu, .ref we, .ref se, .ref hq, .int (nI nt)])), (dp, .inl (cI, 2, .inl fd)), (we, .inl (cI, 20, .inl (upd fw nt w))), (se, .inl (cI, 20, .inl fe)), (hm, .inr (0, [.ref pv, .ref up, .int (nI nr)])), (pv, .inl (cI, 10, .inl fp)), (up, .inl (cI, 10, .inl fu)), (hu, .inr (2, [.ref sd, .ref tw, .ref st, .ref od, .int (nI cn)])), (sd, .inl (cI, 12, .inl fs)), (tw, .inl (cI, 264, .inl ft)), (st, .inl (cI, 264, .inl ff)), (od, .inl (cI, 264, .inl fo))] := hD
    refine lv_aload_n hx hb dX3_play_38 rfl (lv_at hl 1 rfl) ?_
    refine lv_iload_n hx hb dX3_play_39 rfl (lv_at hl 0 rfl) ?_
    refine lv_iconst (v := nI 1) hx hb dX3_play_40 (by decide +kernel) ?_
    refine wt_iadd hx hb dX3_play_41 ?_
    refine va_put (D := (dC, dI)) (ci := 3) (v := .int (nI (nt + 1))) (ty := .int) (C := RX3) (T := TX3) (N := 7) hx hb hts inX3 tyX3 tyX3_ok nmX3 hown hK hP hD hS 0 rfl rfl 6 (by decide) (hts (.fieldLink RX3 40 "WarTable" "turns" "I") (List.mem_of_getElem? (i := 3) rfl)) (fun _ h9 => h9) rfl (by decide +kernel) rfl rfl (Nat.le_of_ble_eq_true rfl) dX3_play_42 (fun H locs hP hD hS => ?_)
    have hP : va_P (dC, dI) vwCl [(h, .inr (3, [.ref hm, .ref dp, .ref hu, .ref we, .ref se, .ref hq, .int (nI (nt + 1))])), (dp, .inl (cI, 2, .inl fd)), (we, .inl (cI, 20, .inl (upd fw nt w))), (se, .inl (cI, 20, .inl fe)), (hm, .inr (0, [.ref pv, .ref up, .int (nI nr)])), (pv, .inl (cI, 10, .inl fp)), (up, .inl (cI, 10, .inl fu)), (hu, .inr (2, [.ref sd, .ref tw, .ref st, .ref od, .int (nI cn)])), (sd, .inl (cI, 12, .inl fs)), (tw, .inl (cI, 264, .inl ft)), (st, .inl (cI, 264, .inl ff)), (od, .inl (cI, 264, .inl fo))] H := hP
    have hD : va_D A [(h, .inr (3, [.ref hm, .ref dp, .ref hu, .ref we, .ref se, .ref hq, .int (nI (nt + 1))])), (dp, .inl (cI, 2, .inl fd)), (we, .inl (cI, 20, .inl (upd fw nt w))), (se, .inl (cI, 20, .inl fe)), (hm, .inr (0, [.ref pv, .ref up, .int (nI nr)])), (pv, .inl (cI, 10, .inl fp)), (up, .inl (cI, 10, .inl fu)), (hu, .inr (2, [.ref sd, .ref tw, .ref st, .ref od, .int (nI cn)])), (sd, .inl (cI, 12, .inl fs)), (tw, .inl (cI, 264, .inl ft)), (st, .inl (cI, 264, .inl ff)), (od, .inl (cI, 264, .inl fo))] := hD
    refine lv_aload_n hx hb dX3_play_45 rfl (lv_at hl 1 rfl) ?_
    refine lv_iload_n hx hb dX3_play_46 rfl (lv_at hl 0 rfl) ?_
    refine wt_mu_go (w1 := [(h, .inr (3, [.ref hm, .ref dp, .ref hu, .ref we, .ref se, .ref hq, .int (nI (nt + 1))])), (dp, .inl (cI, 2, .inl fd)), (we, .inl (cI, 20, .inl (upd fw nt w))), (se, .inl (cI, 20, .inl ((wt_fold (wt_trn fd (upd fw nt w) fp fu fs fo cn nt) ((nt + 1) - nt) ((ft, ff), fe)).2))), (hm, .inr (0, [.ref pv, .ref up, .int (nI nr)])), (pv, .inl (cI, 10, .inl fp)), (up, .inl (cI, 10, .inl fu)), (hu, .inr (2, [.ref sd, .ref tw, .ref st, .ref od, .int (nI cn)])), (sd, .inl (cI, 12, .inl fs)), (tw, .inl (cI, 264, .inl ((wt_fold (wt_trn fd (upd fw nt w) fp fu fs fo cn nt) ((nt + 1) - nt) ((ft, ff), fe)).1.1))), (st, .inl (cI, 264, .inl ((wt_fold (wt_trn fd (upd fw nt w) fp fu fs fo cn nt) ((nt + 1) - nt) ((ft, ff), fe)).1.2))), (od, .inl (cI, 264, .inl fo))]) (w2 := [(h, .inr (3, [.ref hm, .ref dp, .ref hu, .ref we, .ref se, .ref hq, .int (nI (nt + 1))])), (dp, .inl (cI, 2, .inl fd)), (we, .inl (cI, 20, .inl (upd fw nt w))), (se, .inl (cI, 20, .inl ((wt_fold (wt_trn fd (upd fw nt w) fp fu fs fo cn nt) ((nt + 1) - nt) ((ft, ff), fe)).2))), (hm, .inr (0, [.ref pv, .ref up, .int (nI nr)])), (pv, .inl (cI, 10, .inl fp)), (up, .inl (cI, 10, .inl fu)), (hu, .inr (2, [.ref sd, .ref tw, .ref st, .ref od, .int (nI cn)])), (sd, .inl (cI, 12, .inl fs)), (tw, .inl (cI, 264, .inl ((wt_fold (wt_trn fd (upd fw nt w) fp fu fs fo cn nt) ((nt + 1) - nt) ((ft, ff), fe)).1.1))), (st, .inl (cI, 264, .inl ((wt_fold (wt_trn fd (upd fw nt w) fp fu fs fo cn nt) ((nt + 1) - nt) ((ft, ff), fe)).1.2))), (od, .inl (cI, 264, .inl fo))]) (wr := []) (va_runV (As := [.int (nI nt)]) (rest := []) ⟨hx, hb, hml, hown, hts⟩ (k_X3_playFrom l dC dI cI h dp we se fd (upd fw nt w) fe (nt + 1) hm pv up fp fu nr hu sd tw st od fs ft ff fo cn hq nt H.size (by omega) (by omega) (by omega)) (cwV 1 hts gX3_play_X3_playFrom rfl rfl rfl (by decide +kernel) ⟨Nat.le_of_ble_eq_true rfl, Nat.le_of_ble_eq_true rfl⟩) (wt_PVM (C := RX3) (T := TX3) (N := 7) (ci := 3) (q0 := 0) hK hP hN hD rfl rfl [0, 1, 2, 3, 4, 5, 6, 7, 8, 9, 10, 11] rfl rfl) rfl rfl hl.1 rfl (lv_room (Nat.le_of_ble_eq_true rfl)) dX3_play_47 ⟨Nat.zero_le _, Nat.zero_le _⟩) hP hD hS hA [0, 1, 2, 3, 4, 5, 6, 7, 8, 9, 10, 11] [] rfl rfl rfl rfl (by decide) rfl [0, 1, 2, 3, 4, 5, 6, 7, 8, 9, 10, 11] rfl rfl (fun H locs hP hD hS hz9 => ?_)
    refine W.eq (g2 := F0 m 50 ls []) rfl ?_
    refine lv_aload_n hx hb dX3_play_50 rfl (lv_at hl 1 rfl) ?_
    refine va_get (D := (dC, dI)) (ci := 3) (v := .ref hu) (C := RX3) (T := TX3) (N := 7) hx hb hts inX3 hown hK hP 0 rfl rfl 2 (by decide) (hts (.fieldLink RX3 23 "WarTable" "units" "LWarTable$Units;") (List.mem_of_getElem? (i := 5) rfl)) (fun _ h9 => h9) rfl dX3_play_51 ?_
    refine lv_iload_n hx hb dX3_play_54 rfl (lv_at hl 0 rfl) ?_
    refine wt_ro_go (va_runV (As := [.int (nI nt)]) (rest := []) ⟨hx, hb, hml, hown, hts⟩ (k_X2_livingAt l dC dI cI hu sd tw st od fs ((wt_fold (wt_trn fd (upd fw nt w) fp fu fs fo cn nt) ((nt + 1) - nt) ((ft, ff), fe)).1.1) ((wt_fold (wt_trn fd (upd fw nt w) fp fu fs fo cn nt) ((nt + 1) - nt) ((ft, ff), fe)).1.2) fo cn nt (by omega) (by omega)) (cwV 1 hts gX3_play_X2_livingAt rfl rfl rfl (by decide +kernel) ⟨Nat.le_of_ble_eq_true rfl, Nat.le_of_ble_eq_true rfl⟩) (wt_PV (C := RX2) (T := TX2) (N := 5) (ci := 2) (q0 := 7) hK hP hN rfl rfl [7, 8, 9, 10, 11] rfl) rfl rfl hl.1 rfl (lv_room (Nat.le_of_ble_eq_true rfl)) dX3_play_55 ⟨Nat.zero_le _, Nat.zero_le _⟩) ?_
    refine lv_aload_n hx hb dX3_play_58 rfl (lv_at hl 1 rfl) ?_
    refine va_get (D := (dC, dI)) (ci := 3) (v := .ref hu) (C := RX3) (T := TX3) (N := 7) hx hb hts inX3 hown hK hP 0 rfl rfl 2 (by decide) (hts (.fieldLink RX3 23 "WarTable" "units" "LWarTable$Units;") (List.mem_of_getElem? (i := 5) rfl)) (fun _ h9 => h9) rfl dX3_play_59 ?_
    refine lv_iload_n hx hb dX3_play_62 rfl (lv_at hl 0 rfl) ?_
    refine lv_iconst (v := nI 1) hx hb dX3_play_63 (by decide +kernel) ?_
    refine wt_iadd hx hb dX3_play_64 ?_
    refine wt_ro_go (va_runV (As := [.int (nI (nt + 1))]) (rest := [.int (nI (wt_fold (wt_lvs ((wt_fold (wt_trn fd (upd fw nt w) fp fu fs fo cn nt) ((nt + 1) - nt) ((ft, ff), fe)).1.1) nt) cn 0))]) ⟨hx, hb, hml, hown, hts⟩ (k_X2_livingAt l dC dI cI hu sd tw st od fs ((wt_fold (wt_trn fd (upd fw nt w) fp fu fs fo cn nt) ((nt + 1) - nt) ((ft, ff), fe)).1.1) ((wt_fold (wt_trn fd (upd fw nt w) fp fu fs fo cn nt) ((nt + 1) - nt) ((ft, ff), fe)).1.2) fo cn (nt + 1) (by omega) (by omega)) (cwV 1 hts gX3_play_X2_livingAt rfl rfl rfl (by decide +kernel) ⟨Nat.le_of_ble_eq_true rfl, Nat.le_of_ble_eq_true rfl⟩) (wt_PV (C := RX2) (T := TX2) (N := 5) (ci := 2) (q0 := 7) hK hP hN rfl rfl [7, 8, 9, 10, 11] rfl) rfl rfl hl.1 rfl (lv_room (Nat.le_of_ble_eq_true rfl)) dX3_play_65 ⟨Nat.zero_le _, Nat.zero_le _⟩) ?_
    refine lv_isub hx hb dX3_play_68 ?_
    exact wt_miret hx hb hr (by simp only [wt_fold_s, wt_if_t c_13_1]) hP hS dX3_play_69 hlocks
  · exfalso; omega
set_option maxHeartbeats 4000000 in
set_option maxRecDepth 100000 in
theorem k_X3_played (l : Launch) (dC : Nat → ClassId) (dI : Nat → Nat → Nat) (cI : ClassId) (h : Nat) (dp : Nat) (we : Nat) (se : Nat) (fd : Nat → Int32) (fw : Nat → Int32) (fe : Nat → Int32) (nt : Nat) (hm : Nat) (pv : Nat) (up : Nat) (fp : Nat → Int32) (fu : Nat → Int32) (nr : Nat) (hu : Nat) (sd : Nat) (tw : Nat) (st : Nat) (od : Nat) (fs : Nat → Int32) (ft : Nat → Int32) (ff : Nat → Int32) (fo : Nat → Int32) (cn : Nat) (hq : Nat) : Met l yX3_played wsX3_played ({ frames := 0, cells := 0, slots := 0, locals := 0 }) (va_Pc [.ref h] (wt_pre (dC, dI) cI [(h, .inr (3, [.ref hm, .ref dp, .ref hu, .ref we, .ref se, .ref hq, .int (nI nt)])), (dp, .inl (cI, 2, .inl fd)), (we, .inl (cI, 20, .inl fw)), (se, .inl (cI, 20, .inl fe)), (hm, .inr (0, [.ref pv, .ref up, .int (nI nr)])), (pv, .inl (cI, 10, .inl fp)), (up, .inl (cI, 10, .inl fu)), (hu, .inr (2, [.ref sd, .ref tw, .ref st, .ref od, .int (nI cn)])), (sd, .inl (cI, 12, .inl fs)), (tw, .inl (cI, 264, .inl ft)), (st, .inl (cI, 264, .inl ff)), (od, .inl (cI, 264, .inl fo))])) (wt_ro (nI nt)) 0 0 wt_no := by
  refine Met.ofW (cc := cX3_played) (maxL := 1) (ret := (some .int)) (by decide) rfl ?_
  intro p e s m args below meth c s₁ B hml hv
  obtain ⟨rfl, hP, hK, hN⟩ := hv
  have hx := B.exec
  have hb := B.bytes
  have hr := B.returns
  have hts := atoms_spec (ws := wsX3_played) B.pre
  have hown : s.vm.findClass RX3 = some m.cls := findClass_of_methodNamed B.named
  have hlocks := B.notSynchronized
  have inX3 : ∀ w ∈ wsX30, w ∈ wsX3_played := wt_in [2, 3, 4, 5, 6, 7, 8] (by decide +kernel)
  have hl := lv_entry ([.ref h]) (n := 1) (Nat.le_of_ble_eq_true rfl)
  rw [lg_entry_eq]
  generalize (lg_sl ([.ref h]) ++ List.replicate (1 - (lg_sl ([.ref h])).length) Slot.unset).toArray = ls at hl ⊢
  have hl : lv_has ls 1 [(0, .ref h)] := hl
  refine lv_aload_n hx hb dX3_played_0 rfl (lv_at hl 0 rfl) ?_
  refine va_get (D := (dC, dI)) (ci := 3) (v := .int (nI nt)) (C := RX3) (T := TX3) (N := 7) hx hb hts inX3 hown hK hP 0 rfl rfl 6 (by decide) (hts (.fieldLink RX3 40 "WarTable" "turns" "I") (List.mem_of_getElem? (i := 1) rfl)) (fun _ h9 => h9) rfl dX3_played_1 ?_
  exact wt_ret hx hb hr rfl rfl dX3_played_4 hlocks
set_option maxHeartbeats 4000000 in
set_option maxRecDepth 100000 in
theorem k_X3_townOfS (l : Launch) (dC : Nat → ClassId) (dI : Nat → Nat → Nat) (cI : ClassId) (h : Nat) (dp : Nat) (we : Nat) (se : Nat) (fd : Nat → Int32) (fw : Nat → Int32) (fe : Nat → Int32) (nt : Nat) (hm : Nat) (pv : Nat) (up : Nat) (fp : Nat → Int32) (fu : Nat → Int32) (nr : Nat) (hu : Nat) (sd : Nat) (tw : Nat) (st : Nat) (od : Nat) (fs : Nat → Int32) (ft : Nat → Int32) (ff : Nat → Int32) (fo : Nat → Int32) (cn : Nat) (hq : Nat) (u : Nat) (hcn : cn ≤ 12) (hnt : nt ≤ 20) (hu2 : u < cn) : Met l yX3_townOf wsX3_townOf ({ frames := 7, cells := 0, slots := 0, locals := 111 }) (va_Pc [.ref h, .int (nI u)] (wt_pre (dC, dI) cI [(h, .inr (3, [.ref hm, .ref dp, .ref hu, .ref we, .ref se, .ref hq, .int (nI nt)])), (dp, .inl (cI, 2, .inl fd)), (we, .inl (cI, 20, .inl fw)), (se, .inl (cI, 20, .inl fe)), (hm, .inr (0, [.ref pv, .ref up, .int (nI nr)])), (pv, .inl (cI, 10, .inl fp)), (up, .inl (cI, 10, .inl fu)), (hu, .inr (2, [.ref sd, .ref tw, .ref st, .ref od, .int (nI cn)])), (sd, .inl (cI, 12, .inl fs)), (tw, .inl (cI, 264, .inl ft)), (st, .inl (cI, 264, .inl ff)), (od, .inl (cI, 264, .inl fo))])) (wt_ro (ft (nt * 12 + u))) 0 0 wt_no := by
  refine Met.ofW (cc := cX3_townOf) (maxL := 2) (ret := (some .int)) (by decide) rfl ?_
  intro p e s m args below meth c s₁ B hml hv
  obtain ⟨rfl, hP, hK, hN⟩ := hv
  have hx := B.exec
  have hb := B.bytes
  have hr := B.returns
  have hts := atoms_spec (ws := wsX3_townOf) B.pre
  have hown : s.vm.findClass RX3 = some m.cls := findClass_of_methodNamed B.named
  have hlocks := B.notSynchronized
  have inX2 : ∀ w ∈ wsX20, w ∈ wsX3_townOf := wt_in [37, 38, 39, 40, 41] (by decide +kernel)
  have inX3 : ∀ w ∈ wsX30, w ∈ wsX3_townOf := wt_in [30, 31, 32, 33, 34, 35, 36] (by decide +kernel)
  have hl := lv_entry ([.ref h, .int (nI u)]) (n := 2) (Nat.le_of_ble_eq_true rfl)
  rw [lg_entry_eq]
  generalize (lg_sl ([.ref h, .int (nI u)]) ++ List.replicate (2 - (lg_sl ([.ref h, .int (nI u)])).length) Slot.unset).toArray = ls at hl ⊢
  have hl : lv_has ls 2 [(0, .ref h), (1, .int (nI u))] := hl
  refine lv_aload_n hx hb dX3_townOf_0 rfl (lv_at hl 0 rfl) ?_
  refine lv_iload_n hx hb dX3_townOf_1 rfl (lv_at hl 1 rfl) ?_
  refine wt_rv_go (va_runV (As := [.int (nI u)]) (rest := []) ⟨hx, hb, hml, hown, hts⟩ (k_X3_checkUnitS l dC dI cI h dp we se fd fw fe nt hm pv up fp fu nr hu sd tw st od fs ft ff fo cn hq u (by omega) (by omega)) (cwV 1 hts gX3_townOf_X3_checkUnit rfl rfl rfl (by decide +kernel) ⟨Nat.le_of_ble_eq_true rfl, Nat.le_of_ble_eq_true rfl⟩) (wt_PV (C := RX3) (T := TX3) (N := 7) (ci := 3) (q0 := 0) hK hP hN rfl rfl [0, 1, 2, 3, 4, 5, 6, 7, 8, 9, 10, 11] rfl) rfl rfl hl.1 rfl (lv_room (Nat.le_of_ble_eq_true rfl)) dX3_townOf_2 ⟨Nat.zero_le _, Nat.zero_le _⟩) ?_
  refine lv_aload_n hx hb dX3_townOf_5 rfl (lv_at hl 0 rfl) ?_
  refine va_get (D := (dC, dI)) (ci := 3) (v := .ref hu) (C := RX3) (T := TX3) (N := 7) hx hb hts inX3 hown hK hP 0 rfl rfl 2 (by decide) (hts (.fieldLink RX3 23 "WarTable" "units" "LWarTable$Units;") (List.mem_of_getElem? (i := 1) rfl)) (fun _ h9 => h9) rfl dX3_townOf_6 ?_
  refine lv_aload_n hx hb dX3_townOf_9 rfl (lv_at hl 0 rfl) ?_
  refine va_get (D := (dC, dI)) (ci := 3) (v := .int (nI nt)) (C := RX3) (T := TX3) (N := 7) hx hb hts inX3 hown hK hP 0 rfl rfl 6 (by decide) (hts (.fieldLink RX3 40 "WarTable" "turns" "I") (List.mem_of_getElem? (i := 2) rfl)) (fun _ h9 => h9) rfl dX3_townOf_10 ?_
  refine lv_iload_n hx hb dX3_townOf_13 rfl (lv_at hl 1 rfl) ?_
  refine wt_ro_go (va_runV (As := [.int (nI nt), .int (nI u)]) (rest := []) ⟨hx, hb, hml, hown, hts⟩ (k_X2_townAt l dC dI cI hu sd tw st od fs ft ff fo cn nt u (by omega) (by omega)) (cwV 2 hts gX3_townOf_X2_townAt rfl rfl rfl (by decide +kernel) ⟨Nat.le_of_ble_eq_true rfl, Nat.le_of_ble_eq_true rfl⟩) (wt_PV (C := RX2) (T := TX2) (N := 5) (ci := 2) (q0 := 7) hK hP hN rfl rfl [7, 8, 9, 10, 11] rfl) rfl rfl hl.1 rfl (lv_room (Nat.le_of_ble_eq_true rfl)) dX3_townOf_14 ⟨Nat.zero_le _, Nat.zero_le _⟩) ?_
  exact wt_ret hx hb hr rfl rfl dX3_townOf_17 hlocks
set_option maxHeartbeats 4000000 in
set_option maxRecDepth 100000 in
theorem k_X3_strengthS (l : Launch) (dC : Nat → ClassId) (dI : Nat → Nat → Nat) (cI : ClassId) (h : Nat) (dp : Nat) (we : Nat) (se : Nat) (fd : Nat → Int32) (fw : Nat → Int32) (fe : Nat → Int32) (nt : Nat) (hm : Nat) (pv : Nat) (up : Nat) (fp : Nat → Int32) (fu : Nat → Int32) (nr : Nat) (hu : Nat) (sd : Nat) (tw : Nat) (st : Nat) (od : Nat) (fs : Nat → Int32) (ft : Nat → Int32) (ff : Nat → Int32) (fo : Nat → Int32) (cn : Nat) (hq : Nat) (u : Nat) (hcn : cn ≤ 12) (hnt : nt ≤ 20) (hu2 : u < cn) : Met l yX3_strength wsX3_strength ({ frames := 7, cells := 0, slots := 0, locals := 111 }) (va_Pc [.ref h, .int (nI u)] (wt_pre (dC, dI) cI [(h, .inr (3, [.ref hm, .ref dp, .ref hu, .ref we, .ref se, .ref hq, .int (nI nt)])), (dp, .inl (cI, 2, .inl fd)), (we, .inl (cI, 20, .inl fw)), (se, .inl (cI, 20, .inl fe)), (hm, .inr (0, [.ref pv, .ref up, .int (nI nr)])), (pv, .inl (cI, 10, .inl fp)), (up, .inl (cI, 10, .inl fu)), (hu, .inr (2, [.ref sd, .ref tw, .ref st, .ref od, .int (nI cn)])), (sd, .inl (cI, 12, .inl fs)), (tw, .inl (cI, 264, .inl ft)), (st, .inl (cI, 264, .inl ff)), (od, .inl (cI, 264, .inl fo))])) (wt_ro (ff (nt * 12 + u))) 0 0 wt_no := by
  refine Met.ofW (cc := cX3_strength) (maxL := 2) (ret := (some .int)) (by decide) rfl ?_
  intro p e s m args below meth c s₁ B hml hv
  obtain ⟨rfl, hP, hK, hN⟩ := hv
  have hx := B.exec
  have hb := B.bytes
  have hr := B.returns
  have hts := atoms_spec (ws := wsX3_strength) B.pre
  have hown : s.vm.findClass RX3 = some m.cls := findClass_of_methodNamed B.named
  have hlocks := B.notSynchronized
  have inX2 : ∀ w ∈ wsX20, w ∈ wsX3_strength := wt_in [37, 38, 39, 40, 41] (by decide +kernel)
  have inX3 : ∀ w ∈ wsX30, w ∈ wsX3_strength := wt_in [30, 31, 32, 33, 34, 35, 36] (by decide +kernel)
  have hl := lv_entry ([.ref h, .int (nI u)]) (n := 2) (Nat.le_of_ble_eq_true rfl)
  rw [lg_entry_eq]
  generalize (lg_sl ([.ref h, .int (nI u)]) ++ List.replicate (2 - (lg_sl ([.ref h, .int (nI u)])).length) Slot.unset).toArray = ls at hl ⊢
  have hl : lv_has ls 2 [(0, .ref h), (1, .int (nI u))] := hl
  refine lv_aload_n hx hb dX3_strength_0 rfl (lv_at hl 0 rfl) ?_
  refine lv_iload_n hx hb dX3_strength_1 rfl (lv_at hl 1 rfl) ?_
  refine wt_rv_go (va_runV (As := [.int (nI u)]) (rest := []) ⟨hx, hb, hml, hown, hts⟩ (k_X3_checkUnitS l dC dI cI h dp we se fd fw fe nt hm pv up fp fu nr hu sd tw st od fs ft ff fo cn hq u (by omega) (by omega)) (cwV 1 hts gX3_strength_X3_checkUnit rfl rfl rfl (by decide +kernel) ⟨Nat.le_of_ble_eq_true rfl, Nat.le_of_ble_eq_true rfl⟩) (wt_PV (C := RX3) (T := TX3) (N := 7) (ci := 3) (q0 := 0) hK hP hN rfl rfl [0, 1, 2, 3, 4, 5, 6, 7, 8, 9, 10, 11] rfl) rfl rfl hl.1 rfl (lv_room (Nat.le_of_ble_eq_true rfl)) dX3_strength_2 ⟨Nat.zero_le _, Nat.zero_le _⟩) ?_
  refine lv_aload_n hx hb dX3_strength_5 rfl (lv_at hl 0 rfl) ?_
  refine va_get (D := (dC, dI)) (ci := 3) (v := .ref hu) (C := RX3) (T := TX3) (N := 7) hx hb hts inX3 hown hK hP 0 rfl rfl 2 (by decide) (hts (.fieldLink RX3 23 "WarTable" "units" "LWarTable$Units;") (List.mem_of_getElem? (i := 1) rfl)) (fun _ h9 => h9) rfl dX3_strength_6 ?_
  refine lv_aload_n hx hb dX3_strength_9 rfl (lv_at hl 0 rfl) ?_
  refine va_get (D := (dC, dI)) (ci := 3) (v := .int (nI nt)) (C := RX3) (T := TX3) (N := 7) hx hb hts inX3 hown hK hP 0 rfl rfl 6 (by decide) (hts (.fieldLink RX3 40 "WarTable" "turns" "I") (List.mem_of_getElem? (i := 2) rfl)) (fun _ h9 => h9) rfl dX3_strength_10 ?_
  refine lv_iload_n hx hb dX3_strength_13 rfl (lv_at hl 1 rfl) ?_
  refine wt_ro_go (va_runV (As := [.int (nI nt), .int (nI u)]) (rest := []) ⟨hx, hb, hml, hown, hts⟩ (k_X2_strengthAt l dC dI cI hu sd tw st od fs ft ff fo cn nt u (by omega) (by omega)) (cwV 2 hts gX3_strength_X2_strengthAt rfl rfl rfl (by decide +kernel) ⟨Nat.le_of_ble_eq_true rfl, Nat.le_of_ble_eq_true rfl⟩) (wt_PV (C := RX2) (T := TX2) (N := 5) (ci := 2) (q0 := 7) hK hP hN rfl rfl [7, 8, 9, 10, 11] rfl) rfl rfl hl.1 rfl (lv_room (Nat.le_of_ble_eq_true rfl)) dX3_strength_14 ⟨Nat.zero_le _, Nat.zero_le _⟩) ?_
  exact wt_ret hx hb hr rfl rfl dX3_strength_17 hlocks
set_option maxHeartbeats 4000000 in
set_option maxRecDepth 100000 in
theorem k_X3_supplyS (l : Launch) (dC : Nat → ClassId) (dI : Nat → Nat → Nat) (cI : ClassId) (h : Nat) (dp : Nat) (we : Nat) (se : Nat) (fd : Nat → Int32) (fw : Nat → Int32) (fe : Nat → Int32) (nt : Nat) (hm : Nat) (pv : Nat) (up : Nat) (fp : Nat → Int32) (fu : Nat → Int32) (nr : Nat) (hu : Nat) (sd : Nat) (tw : Nat) (st : Nat) (od : Nat) (fs : Nat → Int32) (ft : Nat → Int32) (ff : Nat → Int32) (fo : Nat → Int32) (cn : Nat) (hq : Nat) (u : Nat) (w : Int32) (d : Nat) (hcn : cn ≤ 12) (hnt : nt ≤ 20) (hu2 : u < cn) (hw : vp_in w 3) (hd2 : d < 2) (hfs : fs u = nI d) : Met l yX3_supply wsX3_supply ({ frames := 7, cells := 0, slots := 0, locals := 111 }) (va_Pc [.ref h, .int (nI u), .int w] (wt_pre (dC, dI) cI [(h, .inr (3, [.ref hm, .ref dp, .ref hu, .ref we, .ref se, .ref hq, .int (nI nt)])), (dp, .inl (cI, 2, .inl fd)), (we, .inl (cI, 20, .inl fw)), (se, .inl (cI, 20, .inl fe)), (hm, .inr (0, [.ref pv, .ref up, .int (nI nr)])), (pv, .inl (cI, 10, .inl fp)), (up, .inl (cI, 10, .inl fu)), (hu, .inr (2, [.ref sd, .ref tw, .ref st, .ref od, .int (nI cn)])), (sd, .inl (cI, 12, .inl fs)), (tw, .inl (cI, 264, .inl ft)), (st, .inl (cI, 264, .inl ff)), (od, .inl (cI, 264, .inl fo))])) (wt_ro (wt_least (fun q => wt_has (wt_sup fd fp fu fs ft cn nt d w q) (ft (nt * 12 + u))) 5)) 0 0 wt_no := by
  refine Met.ofW (cc := cX3_supply) (maxL := 5) (ret := (some .int)) (by decide) rfl ?_
  intro p e s m args below meth c s₁ B hml hv
  obtain ⟨rfl, hP, hK, hN⟩ := hv
  have hx := B.exec
  have hb := B.bytes
  have hr := B.returns
  have hts := atoms_spec (ws := wsX3_supply) B.pre
  have hown : s.vm.findClass RX3 = some m.cls := findClass_of_methodNamed B.named
  have hlocks := B.notSynchronized
  have inX0 : ∀ w ∈ wsX00, w ∈ wsX3_supply := wt_in [84, 85, 86] (by decide +kernel)
  have inX2 : ∀ w ∈ wsX20, w ∈ wsX3_supply := wt_in [79, 80, 81, 82, 83] (by decide +kernel)
  have inX3 : ∀ w ∈ wsX30, w ∈ wsX3_supply := wt_in [72, 73, 74, 75, 76, 77, 78] (by decide +kernel)
  have hl := lv_entry ([.ref h, .int (nI u), .int w]) (n := 5) (Nat.le_of_ble_eq_true rfl)
  rw [lg_entry_eq]
  generalize (lg_sl ([.ref h, .int (nI u), .int w]) ++ List.replicate (5 - (lg_sl ([.ref h, .int (nI u), .int w])).length) Slot.unset).toArray = ls at hl ⊢
  have hl : lv_has ls 5 [(0, .ref h), (1, .int (nI u)), (2, .int w)] := hl
  refine lv_aload_n hx hb dX3_supply_0 rfl (lv_at hl 0 rfl) ?_
  refine lv_iload_n hx hb dX3_supply_1 rfl (lv_at hl 1 rfl) ?_
  refine wt_rv_go (va_runV (As := [.int (nI u)]) (rest := []) ⟨hx, hb, hml, hown, hts⟩ (k_X3_checkUnitS l dC dI cI h dp we se fd fw fe nt hm pv up fp fu nr hu sd tw st od fs ft ff fo cn hq u (by omega) (by omega)) (cwV 1 hts gX3_supply_X3_checkUnit rfl rfl rfl (by decide +kernel) ⟨Nat.le_of_ble_eq_true rfl, Nat.le_of_ble_eq_true rfl⟩) (wt_PV (C := RX3) (T := TX3) (N := 7) (ci := 3) (q0 := 0) hK hP hN rfl rfl [0, 1, 2, 3, 4, 5, 6, 7, 8, 9, 10, 11] rfl) rfl rfl hl.1 rfl (lv_room (Nat.le_of_ble_eq_true rfl)) dX3_supply_2 ⟨Nat.zero_le _, Nat.zero_le _⟩) ?_
  refine lv_iload_n hx hb dX3_supply_5 rfl (lv_at hl 2 rfl) ?_
  refine wt_rv_go (va_runS (As := [.int w]) (rest := []) ⟨hx, hb, hml, hown, hts⟩ (k_X3_checkWeatherS l w (by omega)) (va_cwS 1 hts gX3_supply_X3_checkWeather rfl rfl rfl (by decide +kernel) ⟨Nat.le_of_ble_eq_true rfl, Nat.le_of_ble_eq_true rfl⟩) wt_PS rfl rfl hl.1 rfl (lv_room (Nat.le_of_ble_eq_true rfl)) dX3_supply_6 ⟨Nat.zero_le _, Nat.zero_le _⟩) ?_
  refine lv_aload_n hx hb dX3_supply_9 rfl (lv_at hl 0 rfl) ?_
  refine va_get (D := (dC, dI)) (ci := 3) (v := .ref hu) (C := RX3) (T := TX3) (N := 7) hx hb hts inX3 hown hK hP 0 rfl rfl 2 (by decide) (hts (.fieldLink RX3 23 "WarTable" "units" "LWarTable$Units;") (List.mem_of_getElem? (i := 1) rfl)) (fun _ h9 => h9) rfl dX3_supply_10 ?_
  refine lv_aload_n hx hb dX3_supply_13 rfl (lv_at hl 0 rfl) ?_
  refine va_get (D := (dC, dI)) (ci := 3) (v := .int (nI nt)) (C := RX3) (T := TX3) (N := 7) hx hb hts inX3 hown hK hP 0 rfl rfl 6 (by decide) (hts (.fieldLink RX3 40 "WarTable" "turns" "I") (List.mem_of_getElem? (i := 2) rfl)) (fun _ h9 => h9) rfl dX3_supply_14 ?_
  refine lv_iload_n hx hb dX3_supply_17 rfl (lv_at hl 1 rfl) ?_
  refine wt_ro_go (va_runV (As := [.int (nI nt), .int (nI u)]) (rest := []) ⟨hx, hb, hml, hown, hts⟩ (k_X2_townAt l dC dI cI hu sd tw st od fs ft ff fo cn nt u (by omega) (by omega)) (cwV 2 hts gX3_supply_X2_townAt rfl rfl rfl (by decide +kernel) ⟨Nat.le_of_ble_eq_true rfl, Nat.le_of_ble_eq_true rfl⟩) (wt_PV (C := RX2) (T := TX2) (N := 5) (ci := 2) (q0 := 7) hK hP hN rfl rfl [7, 8, 9, 10, 11] rfl) rfl rfl hl.1 rfl (lv_room (Nat.le_of_ble_eq_true rfl)) dX3_supply_18 ⟨Nat.zero_le _, Nat.zero_le _⟩) ?_
  refine lv_istore_n (lv' := [(3, .int (ft (nt * 12 + u))), (0, .ref h), (1, .int (nI u)), (2, .int w)]) hx hb dX3_supply_21 rfl hl (by decide) rfl (fun ls hl => ?_)
  refine lv_iconst (v := nI 0) hx hb dX3_supply_22 (by decide +kernel) ?_
  refine lv_istore (lv' := [(4, .int (nI 0)), (3, .int (ft (nt * 12 + u))), (0, .ref h), (1, .int (nI u)), (2, .int w)]) hx hb dX3_supply_23 hl (by decide) rfl (fun ls hl => ?_)
  refine wt_lp (σ := Nat) 0 (fun i => 5 - i) (fun i ls => (i ≤ 5) ∧ (∀ q : Nat, q < i → ¬ (fun q => wt_has (wt_sup fd fp fu fs ft cn nt d w q) (ft (nt * 12 + u))) q) ∧ lv_has ls 5 [(4, .int (nI i)), (3, .int (ft (nt * 12 + u))), (0, .ref h), (1, .int (nI u)), (2, .int w)]) ⟨(by omega), (fun q hq => absurd hq (Nat.not_lt_zero q)), lv_sub hl [0, 1, 2, 3, 4] rfl⟩ (fun i ls h9 ih_25 => ?_)
  obtain ⟨h_25_0, h_25_1, hl⟩ := h9
  refine lv_iload hx hb dX3_supply_25 (lv_at hl 0 rfl) ?_
  refine lv_iconst (v := nI 4) hx hb dX3_supply_27 (by decide +kernel) ?_
  refine wt_icmp_gt (tgt := 66) hx hb (by omega) (by omega) dX3_supply_28 (by decide) (fun c_28_1 => ?_) (fun c_28_1 => ?_)
  · refine lv_iconst (v := (-1)) hx hb dX3_supply_66 (by decide +kernel) ?_
    exact wt_ret hx hb hr (wt_least_none (P := (fun q => wt_has (wt_sup fd fp fu fs ft cn nt d w q) (ft (nt * 12 + u)))) (fun q hq => h_25_1 q (by omega))).symm rfl dX3_supply_67 hlocks
  · refine lv_aload_n hx hb dX3_supply_31 rfl (lv_at hl 2 rfl) ?_
    refine lv_aload_n hx hb dX3_supply_32 rfl (lv_at hl 2 rfl) ?_
    refine va_get (D := (dC, dI)) (ci := 3) (v := .int (nI nt)) (C := RX3) (T := TX3) (N := 7) hx hb hts inX3 hown hK hP 0 rfl rfl 6 (by decide) (hts (.fieldLink RX3 40 "WarTable" "turns" "I") (List.mem_of_getElem? (i := 2) rfl)) (fun _ h9 => h9) rfl dX3_supply_33 ?_
    refine lv_aload_n hx hb dX3_supply_36 rfl (lv_at hl 2 rfl) ?_
    refine va_get (D := (dC, dI)) (ci := 3) (v := .ref hu) (C := RX3) (T := TX3) (N := 7) hx hb hts inX3 hown hK hP 0 rfl rfl 2 (by decide) (hts (.fieldLink RX3 23 "WarTable" "units" "LWarTable$Units;") (List.mem_of_getElem? (i := 1) rfl)) (fun _ h9 => h9) rfl dX3_supply_37 ?_
    refine lv_iload_n hx hb dX3_supply_40 rfl (lv_at hl 3 rfl) ?_
    refine wt_ro_go (va_runV (As := [.int (nI u)]) (rest := [.int (nI nt), .ref h]) ⟨hx, hb, hml, hown, hts⟩ (k_X2_sideOf l dC dI cI hu sd tw st od fs ft ff fo cn u (by omega)) (cwV 1 hts gX3_supply_X2_sideOf rfl rfl rfl (by decide +kernel) ⟨Nat.le_of_ble_eq_true rfl, Nat.le_of_ble_eq_true rfl⟩) (wt_PV (C := RX2) (T := TX2) (N := 5) (ci := 2) (q0 := 7) hK hP hN rfl rfl [7, 8, 9, 10, 11] rfl) rfl rfl hl.1 rfl (lv_room (Nat.le_of_ble_eq_true rfl)) dX3_supply_41 ⟨Nat.zero_le _, Nat.zero_le _⟩) ?_
    refine wt_top (y := nI d) hfs ?_
    refine lv_iload_n hx hb dX3_supply_44 rfl (lv_at hl 4 rfl) ?_
    refine lv_iload hx hb dX3_supply_45 (lv_at hl 0 rfl) ?_
    refine wt_ro_go (va_runV (As := [.int (nI nt), .int (nI d), .int w, .int (nI i)]) (rest := []) ⟨hx, hb, hml, hown, hts⟩ (k_X3_suppliedTowns l dC dI cI h dp we se fd fw fe nt hm pv up fp fu nr hu sd tw st od fs ft ff fo cn hq nt d w i (by omega) (by omega) (by omega) (by omega)) (cwV 4 hts gX3_supply_X3_suppliedTowns rfl rfl rfl (by decide +kernel) ⟨Nat.le_of_ble_eq_true rfl, Nat.le_of_ble_eq_true rfl⟩) (wt_PV (C := RX3) (T := TX3) (N := 7) (ci := 3) (q0 := 0) hK hP hN rfl rfl [0, 1, 2, 3, 4, 5, 6, 7, 8, 9, 10, 11] rfl) rfl rfl hl.1 rfl (lv_room (Nat.le_of_ble_eq_true rfl)) dX3_supply_47 ⟨Nat.zero_le _, Nat.zero_le _⟩) ?_
    refine lv_iload_n hx hb dX3_supply_50 rfl (lv_at hl 1 rfl) ?_
    refine wt_ro_go (va_runS (As := [.int (wt_sup fd fp fu fs ft cn nt d w i), .int (ft (nt * 12 + u))]) (rest := []) ⟨hx, hb, hml, hown, hts⟩ (k_X3_has l (wt_sup fd fp fu fs ft cn nt d w i) (ft (nt * 12 + u))) (va_cwS 2 hts gX3_supply_X3_has rfl rfl rfl (by decide +kernel) ⟨Nat.le_of_ble_eq_true rfl, Nat.le_of_ble_eq_true rfl⟩) wt_PS rfl rfl hl.1 rfl (lv_room (Nat.le_of_ble_eq_true rfl)) dX3_supply_51 ⟨Nat.zero_le _, Nat.zero_le _⟩) ?_
    refine wt_if_eqB (tgt := 60) hx hb dX3_supply_54 (by decide) (fun c_54_2 => ?_) (fun c_54_2 => ?_)
    · refine lv_iinc (v := nI (i + 1)) (lv' := [(4, .int (nI (i + 1))), (3, .int (ft (nt * 12 + u))), (0, .ref h), (1, .int (nI u)), (2, .int w)]) hx hb dX3_supply_60 hl (k := 0) rfl (nI_1 i) (by decide) rfl (fun ls hl => ?_)
      refine lv_goto (tgt := 25) hx hb dX3_supply_63 (by decide) ?_
      exact ih_25 (i + 1) _ (by omega) ⟨(by omega), (wt_all_s h_25_1 c_54_2), lv_sub hl [0, 1, 2, 3, 4] rfl⟩
    · refine lv_iload hx hb dX3_supply_57 (lv_at hl 0 rfl) ?_
      exact wt_ret hx hb hr (wt_least_eq (P := (fun q => wt_has (wt_sup fd fp fu fs ft cn nt d w q) (ft (nt * 12 + u)))) h_25_1 c_54_2 (by omega)).symm rfl dX3_supply_59 hlocks
set_option maxHeartbeats 4000000 in
set_option maxRecDepth 100000 in
theorem k_X3_townAfterS (l : Launch) (dC : Nat → ClassId) (dI : Nat → Nat → Nat) (cI : ClassId) (h : Nat) (dp : Nat) (we : Nat) (se : Nat) (fd : Nat → Int32) (fw : Nat → Int32) (fe : Nat → Int32) (nt : Nat) (hm : Nat) (pv : Nat) (up : Nat) (fp : Nat → Int32) (fu : Nat → Int32) (nr : Nat) (hu : Nat) (sd : Nat) (tw : Nat) (st : Nat) (od : Nat) (fs : Nat → Int32) (ft : Nat → Int32) (ff : Nat → Int32) (fo : Nat → Int32) (cn : Nat) (hq : Nat) (u : Nat) (t : Nat) (hcn : cn ≤ 12) (hnt : nt ≤ 20) (hu2 : u < cn) (ht : t < nt) : Met l yX3_townAfter wsX3_townAfter ({ frames := 7, cells := 0, slots := 0, locals := 111 }) (va_Pc [.ref h, .int (nI u), .int (nI t)] (wt_pre (dC, dI) cI [(h, .inr (3, [.ref hm, .ref dp, .ref hu, .ref we, .ref se, .ref hq, .int (nI nt)])), (dp, .inl (cI, 2, .inl fd)), (we, .inl (cI, 20, .inl fw)), (se, .inl (cI, 20, .inl fe)), (hm, .inr (0, [.ref pv, .ref up, .int (nI nr)])), (pv, .inl (cI, 10, .inl fp)), (up, .inl (cI, 10, .inl fu)), (hu, .inr (2, [.ref sd, .ref tw, .ref st, .ref od, .int (nI cn)])), (sd, .inl (cI, 12, .inl fs)), (tw, .inl (cI, 264, .inl ft)), (st, .inl (cI, 264, .inl ff)), (od, .inl (cI, 264, .inl fo))])) (wt_ro (ft ((t + 1) * 12 + u))) 0 0 wt_no := by
  refine Met.ofW (cc := cX3_townAfter) (maxL := 3) (ret := (some .int)) (by decide) rfl ?_
  intro p e s m args below meth c s₁ B hml hv
  obtain ⟨rfl, hP, hK, hN⟩ := hv
  have hx := B.exec
  have hb := B.bytes
  have hr := B.returns
  have hts := atoms_spec (ws := wsX3_townAfter) B.pre
  have hown : s.vm.findClass RX3 = some m.cls := findClass_of_methodNamed B.named
  have hlocks := B.notSynchronized
  have inX2 : ∀ w ∈ wsX20, w ∈ wsX3_townAfter := wt_in [45, 46, 47, 48, 49] (by decide +kernel)
  have inX3 : ∀ w ∈ wsX30, w ∈ wsX3_townAfter := wt_in [38, 39, 40, 41, 42, 43, 44] (by decide +kernel)
  have hl := lv_entry ([.ref h, .int (nI u), .int (nI t)]) (n := 3) (Nat.le_of_ble_eq_true rfl)
  rw [lg_entry_eq]
  generalize (lg_sl ([.ref h, .int (nI u), .int (nI t)]) ++ List.replicate (3 - (lg_sl ([.ref h, .int (nI u), .int (nI t)])).length) Slot.unset).toArray = ls at hl ⊢
  have hl : lv_has ls 3 [(0, .ref h), (1, .int (nI u)), (2, .int (nI t))] := hl
  refine lv_aload_n hx hb dX3_townAfter_0 rfl (lv_at hl 0 rfl) ?_
  refine lv_iload_n hx hb dX3_townAfter_1 rfl (lv_at hl 1 rfl) ?_
  refine wt_rv_go (va_runV (As := [.int (nI u)]) (rest := []) ⟨hx, hb, hml, hown, hts⟩ (k_X3_checkUnitS l dC dI cI h dp we se fd fw fe nt hm pv up fp fu nr hu sd tw st od fs ft ff fo cn hq u (by omega) (by omega)) (cwV 1 hts gX3_townAfter_X3_checkUnit rfl rfl rfl (by decide +kernel) ⟨Nat.le_of_ble_eq_true rfl, Nat.le_of_ble_eq_true rfl⟩) (wt_PV (C := RX3) (T := TX3) (N := 7) (ci := 3) (q0 := 0) hK hP hN rfl rfl [0, 1, 2, 3, 4, 5, 6, 7, 8, 9, 10, 11] rfl) rfl rfl hl.1 rfl (lv_room (Nat.le_of_ble_eq_true rfl)) dX3_townAfter_2 ⟨Nat.zero_le _, Nat.zero_le _⟩) ?_
  refine lv_aload_n hx hb dX3_townAfter_5 rfl (lv_at hl 0 rfl) ?_
  refine lv_iload_n hx hb dX3_townAfter_6 rfl (lv_at hl 2 rfl) ?_
  refine wt_rv_go (va_runV (As := [.int (nI t)]) (rest := []) ⟨hx, hb, hml, hown, hts⟩ (k_X3_checkTurnS l dC dI cI h dp we se fd fw fe nt hm pv up fp fu nr hu sd tw st od fs ft ff fo cn hq t (by omega) (by omega)) (cwV 1 hts gX3_townAfter_X3_checkTurn rfl rfl rfl (by decide +kernel) ⟨Nat.le_of_ble_eq_true rfl, Nat.le_of_ble_eq_true rfl⟩) (wt_PV (C := RX3) (T := TX3) (N := 7) (ci := 3) (q0 := 0) hK hP hN rfl rfl [0, 1, 2, 3, 4, 5, 6, 7, 8, 9, 10, 11] rfl) rfl rfl hl.1 rfl (lv_room (Nat.le_of_ble_eq_true rfl)) dX3_townAfter_7 ⟨Nat.zero_le _, Nat.zero_le _⟩) ?_
  refine lv_aload_n hx hb dX3_townAfter_10 rfl (lv_at hl 0 rfl) ?_
  refine va_get (D := (dC, dI)) (ci := 3) (v := .ref hu) (C := RX3) (T := TX3) (N := 7) hx hb hts inX3 hown hK hP 0 rfl rfl 2 (by decide) (hts (.fieldLink RX3 23 "WarTable" "units" "LWarTable$Units;") (List.mem_of_getElem? (i := 1) rfl)) (fun _ h9 => h9) rfl dX3_townAfter_11 ?_
  refine lv_iload_n hx hb dX3_townAfter_14 rfl (lv_at hl 2 rfl) ?_
  refine lv_iconst (v := nI 1) hx hb dX3_townAfter_15 (by decide +kernel) ?_
  refine wt_iadd hx hb dX3_townAfter_16 ?_
  refine lv_iload_n hx hb dX3_townAfter_17 rfl (lv_at hl 1 rfl) ?_
  refine wt_ro_go (va_runV (As := [.int (nI (t + 1)), .int (nI u)]) (rest := []) ⟨hx, hb, hml, hown, hts⟩ (k_X2_townAt l dC dI cI hu sd tw st od fs ft ff fo cn (t + 1) u (by omega) (by omega)) (cwV 2 hts gX3_townAfter_X2_townAt rfl rfl rfl (by decide +kernel) ⟨Nat.le_of_ble_eq_true rfl, Nat.le_of_ble_eq_true rfl⟩) (wt_PV (C := RX2) (T := TX2) (N := 5) (ci := 2) (q0 := 7) hK hP hN rfl rfl [7, 8, 9, 10, 11] rfl) rfl rfl hl.1 rfl (lv_room (Nat.le_of_ble_eq_true rfl)) dX3_townAfter_18 ⟨Nat.zero_le _, Nat.zero_le _⟩) ?_
  exact wt_ret hx hb hr rfl rfl dX3_townAfter_21 hlocks
set_option maxHeartbeats 4000000 in
set_option maxRecDepth 100000 in
theorem k_X3_reportedS (l : Launch) (dC : Nat → ClassId) (dI : Nat → Nat → Nat) (cI : ClassId) (h : Nat) (dp : Nat) (we : Nat) (se : Nat) (fd : Nat → Int32) (fw : Nat → Int32) (fe : Nat → Int32) (nt : Nat) (hm : Nat) (pv : Nat) (up : Nat) (fp : Nat → Int32) (fu : Nat → Int32) (nr : Nat) (hu : Nat) (sd : Nat) (tw : Nat) (st : Nat) (od : Nat) (fs : Nat → Int32) (ft : Nat → Int32) (ff : Nat → Int32) (fo : Nat → Int32) (cn : Nat) (hq : Nat) (d : Nat) (u : Nat) (hcn : cn ≤ 12) (hnt : nt ≤ 20) (hd2 : d < 2) (hu2 : u < cn) (hfs : ¬ fs u = nI d) (hn3 : 3 ≤ nt) : Met l yX3_reported wsX3_reported ({ frames := 7, cells := 0, slots := 0, locals := 111 }) (va_Pc [.ref h, .int (nI d), .int (nI u)] (wt_pre (dC, dI) cI [(h, .inr (3, [.ref hm, .ref dp, .ref hu, .ref we, .ref se, .ref hq, .int (nI nt)])), (dp, .inl (cI, 2, .inl fd)), (we, .inl (cI, 20, .inl fw)), (se, .inl (cI, 20, .inl fe)), (hm, .inr (0, [.ref pv, .ref up, .int (nI nr)])), (pv, .inl (cI, 10, .inl fp)), (up, .inl (cI, 10, .inl fu)), (hu, .inr (2, [.ref sd, .ref tw, .ref st, .ref od, .int (nI cn)])), (sd, .inl (cI, 12, .inl fs)), (tw, .inl (cI, 264, .inl ft)), (st, .inl (cI, 264, .inl ff)), (od, .inl (cI, 264, .inl fo))])) (wt_ro (wt_last (fun t => wt_has (fe t) (nI u)) (fun t => ft ((t + 1) * 12 + u)) (nt - 2))) 0 0 wt_no := by
  refine Met.ofW (cc := cX3_reported) (maxL := 4) (ret := (some .int)) (by decide) rfl ?_
  intro p e s m args below meth c s₁ B hml hv
  obtain ⟨rfl, hP, hK, hN⟩ := hv
  have hx := B.exec
  have hb := B.bytes
  have hr := B.returns
  have hts := atoms_spec (ws := wsX3_reported) B.pre
  have hown : s.vm.findClass RX3 = some m.cls := findClass_of_methodNamed B.named
  have hlocks := B.notSynchronized
  have inX2 : ∀ w ∈ wsX20, w ∈ wsX3_reported := wt_in [58, 59, 60, 61, 62] (by decide +kernel)
  have inX3 : ∀ w ∈ wsX30, w ∈ wsX3_reported := wt_in [51, 52, 53, 54, 55, 56, 57] (by decide +kernel)
  have hl := lv_entry ([.ref h, .int (nI d), .int (nI u)]) (n := 4) (Nat.le_of_ble_eq_true rfl)
  rw [lg_entry_eq]
  generalize (lg_sl ([.ref h, .int (nI d), .int (nI u)]) ++ List.replicate (4 - (lg_sl ([.ref h, .int (nI d), .int (nI u)])).length) Slot.unset).toArray = ls at hl ⊢
  have hl : lv_has ls 4 [(0, .ref h), (1, .int (nI d)), (2, .int (nI u))] := hl
  refine lv_iload_n hx hb dX3_reported_0 rfl (lv_at hl 1 rfl) ?_
  refine wt_rv_go (va_runS (As := [.int (nI d)]) (rest := []) ⟨hx, hb, hml, hown, hts⟩ (k_X3_checkSideS l d (by omega)) (va_cwS 1 hts gX3_reported_X3_checkSide rfl rfl rfl (by decide +kernel) ⟨Nat.le_of_ble_eq_true rfl, Nat.le_of_ble_eq_true rfl⟩) wt_PS rfl rfl hl.1 rfl (lv_room (Nat.le_of_ble_eq_true rfl)) dX3_reported_1 ⟨Nat.zero_le _, Nat.zero_le _⟩) ?_
  refine lv_aload_n hx hb dX3_reported_4 rfl (lv_at hl 0 rfl) ?_
  refine lv_iload_n hx hb dX3_reported_5 rfl (lv_at hl 2 rfl) ?_
  refine wt_rv_go (va_runV (As := [.int (nI u)]) (rest := []) ⟨hx, hb, hml, hown, hts⟩ (k_X3_checkUnitS l dC dI cI h dp we se fd fw fe nt hm pv up fp fu nr hu sd tw st od fs ft ff fo cn hq u (by omega) (by omega)) (cwV 1 hts gX3_reported_X3_checkUnit rfl rfl rfl (by decide +kernel) ⟨Nat.le_of_ble_eq_true rfl, Nat.le_of_ble_eq_true rfl⟩) (wt_PV (C := RX3) (T := TX3) (N := 7) (ci := 3) (q0 := 0) hK hP hN rfl rfl [0, 1, 2, 3, 4, 5, 6, 7, 8, 9, 10, 11] rfl) rfl rfl hl.1 rfl (lv_room (Nat.le_of_ble_eq_true rfl)) dX3_reported_6 ⟨Nat.zero_le _, Nat.zero_le _⟩) ?_
  refine lv_aload_n hx hb dX3_reported_9 rfl (lv_at hl 0 rfl) ?_
  refine va_get (D := (dC, dI)) (ci := 3) (v := .ref hu) (C := RX3) (T := TX3) (N := 7) hx hb hts inX3 hown hK hP 0 rfl rfl 2 (by decide) (hts (.fieldLink RX3 23 "WarTable" "units" "LWarTable$Units;") (List.mem_of_getElem? (i := 3) rfl)) (fun _ h9 => h9) rfl dX3_reported_10 ?_
  refine lv_iload_n hx hb dX3_reported_13 rfl (lv_at hl 2 rfl) ?_
  refine wt_ro_go (va_runV (As := [.int (nI u)]) (rest := []) ⟨hx, hb, hml, hown, hts⟩ (k_X2_sideOf l dC dI cI hu sd tw st od fs ft ff fo cn u (by omega)) (cwV 1 hts gX3_reported_X2_sideOf rfl rfl rfl (by decide +kernel) ⟨Nat.le_of_ble_eq_true rfl, Nat.le_of_ble_eq_true rfl⟩) (wt_PV (C := RX2) (T := TX2) (N := 5) (ci := 2) (q0 := 7) hK hP hN rfl rfl [7, 8, 9, 10, 11] rfl) rfl rfl hl.1 rfl (lv_room (Nat.le_of_ble_eq_true rfl)) dX3_reported_14 ⟨Nat.zero_le _, Nat.zero_le _⟩) ?_
  refine lv_iload_n hx hb dX3_reported_17 rfl (lv_at hl 1 rfl) ?_
  refine wt_icmp_neI (tgt := 31) hx hb dX3_reported_18 (by decide) (fun c_18_1 => ?_) (fun c_18_1 => ?_)
  · refine lv_aload_n hx hb dX3_reported_31 rfl (lv_at hl 0 rfl) ?_
    refine va_get (D := (dC, dI)) (ci := 3) (v := .int (nI nt)) (C := RX3) (T := TX3) (N := 7) hx hb hts inX3 hown hK hP 0 rfl rfl 6 (by decide) (hts (.fieldLink RX3 40 "WarTable" "turns" "I") (List.mem_of_getElem? (i := 4) rfl)) (fun _ h9 => h9) rfl dX3_reported_32 ?_
    refine lv_bipush (v := nI 20) hx hb dX3_reported_35 (by decide +kernel) ?_
    refine va_mmin hx hb (by rw [hml]; exact hl.1.symm) hown (hts (.methodLink RX3 170 Lib.Math.min.name) (List.mem_of_getElem? (i := 5) rfl)) (hts (.static Lib.Math.min.name) (List.mem_of_getElem? (i := 6) rfl)) (hts (.initialized "java/lang/Math") (List.mem_of_getElem? (i := 7) rfl)) (hts (.code Lib.Math.min.name Lib.Math.min.code 2 (some .int)) (List.mem_of_getElem? (i := 8) rfl)) (Nat.le_of_ble_eq_true rfl) (Nat.le_of_ble_eq_true rfl) (Nat.zero_le _) (Nat.zero_le _) dX3_reported_37 ?_
    refine wt_top (y := (wt_mi2 (nI nt) (nI 20))) rfl ?_
    refine wt_top (y := nI nt) (wt_min_le hnt (by decide)) ?_
    refine lv_iconst (v := nI 1) hx hb dX3_reported_40 (by decide +kernel) ?_
    refine lv_isub hx hb dX3_reported_41 ?_
    refine lv_iconst (v := nI 2) hx hb dX3_reported_42 (by decide +kernel) ?_
    refine lv_isub hx hb dX3_reported_43 ?_
    refine wt_top (y := nI (nt - 3)) (wt_m12 hn3 hnt) ?_
    refine lv_istore_n (lv' := [(3, .int (nI (nt - 3))), (0, .ref h), (1, .int (nI d)), (2, .int (nI u))]) hx hb dX3_reported_44 rfl hl (by decide) rfl (fun ls hl => ?_)
    refine wt_lp (σ := Nat) (nt - 3) (fun i => i) (fun i ls => (i + 1 ≤ nt - 2) ∧ ((wt_last (fun t => wt_has (fe t) (nI u)) (fun t => ft ((t + 1) * 12 + u)) (nt - 2)) = wt_last (fun t => wt_has (fe t) (nI u)) (fun t => ft ((t + 1) * 12 + u)) (i + 1)) ∧ lv_has ls 4 [(3, .int (nI i)), (0, .ref h), (1, .int (nI d)), (2, .int (nI u))]) ⟨(by omega), (by rw [show nt - 3 + 1 = nt - 2 by omega]), lv_sub hl [0, 1, 2, 3] rfl⟩ (fun i ls h9 ih_45 => ?_)
    obtain ⟨h_45_0, h_45_1, hl⟩ := h9
    refine lv_iload_n hx hb dX3_reported_45 rfl (lv_at hl 0 rfl) ?_
    refine wt_if_lt (tgt := 80) hx hb (by omega) dX3_reported_46 (by decide) ?_
    refine lv_aload_n hx hb dX3_reported_49 rfl (lv_at hl 1 rfl) ?_
    refine va_get (D := (dC, dI)) (ci := 3) (v := .ref se) (C := RX3) (T := TX3) (N := 7) hx hb hts inX3 hown hK hP 0 rfl rfl 4 (by decide) (hts (.fieldLink RX3 30 "WarTable" "seen" "[I") (List.mem_of_getElem? (i := 9) rfl)) (fun _ h9 => h9) rfl dX3_reported_50 ?_
    refine lv_iload_n hx hb dX3_reported_53 rfl (lv_at hl 0 rfl) ?_
    refine wt_iald hx hb hK hP 3 rfl (by omega) (by omega) dX3_reported_54 ?_
    refine lv_iload_n hx hb dX3_reported_55 rfl (lv_at hl 3 rfl) ?_
    refine wt_ro_go (va_runS (As := [.int (fe i), .int (nI u)]) (rest := []) ⟨hx, hb, hml, hown, hts⟩ (k_X3_has l (fe i) (nI u)) (va_cwS 2 hts gX3_reported_X3_has rfl rfl rfl (by decide +kernel) ⟨Nat.le_of_ble_eq_true rfl, Nat.le_of_ble_eq_true rfl⟩) wt_PS rfl rfl hl.1 rfl (lv_room (Nat.le_of_ble_eq_true rfl)) dX3_reported_56 ⟨Nat.zero_le _, Nat.zero_le _⟩) ?_
    refine wt_if_eqB (tgt := 74) hx hb dX3_reported_59 (by decide) (fun c_59_2 => ?_) (fun c_59_2 => ?_)
    · rcases Nat.eq_zero_or_pos i with h0z | h0p
      · refine lv_iinc (v := (-1)) (lv' := [(3, .int (-1)), (0, .ref h), (1, .int (nI d)), (2, .int (nI u))]) hx hb dX3_reported_74 hl (k := 0) rfl (wt_dec_0 h0z) (by decide) rfl (fun ls hl => ?_)
        refine lv_goto (tgt := 45) hx hb dX3_reported_77 (by decide) ?_
        refine lv_iload_n hx hb dX3_reported_45 rfl (lv_at hl 0 rfl) ?_
        refine wt_if_ltI (tgt := 80) hx hb dX3_reported_46 (by decide) (fun c_46_3 => ?_) (fun c_46_3 => ?_)
        · refine lv_iconst (v := (-1)) hx hb dX3_reported_80 (by decide +kernel) ?_
          exact wt_ret hx hb hr (by rw [h_45_1, wt_last_f c_59_2, h0z, wt_last_0]) rfl dX3_reported_81 hlocks
        · exact absurd (by decide) c_46_3
      · refine lv_iinc (v := nI (i - 1)) (lv' := [(3, .int (nI (i - 1))), (0, .ref h), (1, .int (nI d)), (2, .int (nI u))]) hx hb dX3_reported_74 hl (k := 0) rfl (wt_dec h0p) (by decide) rfl (fun ls hl => ?_)
        refine lv_goto (tgt := 45) hx hb dX3_reported_77 (by decide) ?_
        exact ih_45 (i - 1) _ (by omega) ⟨(by omega), (by rw [h_45_1, wt_last_f c_59_2, show i - 1 + 1 = i by omega]), lv_sub hl [0, 1, 2, 3] rfl⟩
    · refine lv_aload_n hx hb dX3_reported_62 rfl (lv_at hl 1 rfl) ?_
      refine va_get (D := (dC, dI)) (ci := 3) (v := .ref hu) (C := RX3) (T := TX3) (N := 7) hx hb hts inX3 hown hK hP 0 rfl rfl 2 (by decide) (hts (.fieldLink RX3 23 "WarTable" "units" "LWarTable$Units;") (List.mem_of_getElem? (i := 3) rfl)) (fun _ h9 => h9) rfl dX3_reported_63 ?_
      refine lv_iload_n hx hb dX3_reported_66 rfl (lv_at hl 0 rfl) ?_
      refine lv_iconst (v := nI 1) hx hb dX3_reported_67 (by decide +kernel) ?_
      refine wt_iadd hx hb dX3_reported_68 ?_
      refine lv_iload_n hx hb dX3_reported_69 rfl (lv_at hl 3 rfl) ?_
      refine wt_ro_go (va_runV (As := [.int (nI (i + 1)), .int (nI u)]) (rest := []) ⟨hx, hb, hml, hown, hts⟩ (k_X2_townAt l dC dI cI hu sd tw st od fs ft ff fo cn (i + 1) u (by omega) (by omega)) (cwV 2 hts gX3_reported_X2_townAt rfl rfl rfl (by decide +kernel) ⟨Nat.le_of_ble_eq_true rfl, Nat.le_of_ble_eq_true rfl⟩) (wt_PV (C := RX2) (T := TX2) (N := 5) (ci := 2) (q0 := 7) hK hP hN rfl rfl [7, 8, 9, 10, 11] rfl) rfl rfl hl.1 rfl (lv_room (Nat.le_of_ble_eq_true rfl)) dX3_reported_70 ⟨Nat.zero_le _, Nat.zero_le _⟩) ?_
      exact wt_ret hx hb hr (by rw [h_45_1, wt_last_t (P := fun t => wt_has (fe t) (nI u)) c_59_2]) rfl dX3_reported_73 hlocks
  · exact absurd c_18_1 hfs
set_option maxHeartbeats 4000000 in
set_option maxRecDepth 100000 in
theorem k_X3_reportedZ (l : Launch) (dC : Nat → ClassId) (dI : Nat → Nat → Nat) (cI : ClassId) (h : Nat) (dp : Nat) (we : Nat) (se : Nat) (fd : Nat → Int32) (fw : Nat → Int32) (fe : Nat → Int32) (nt : Nat) (hm : Nat) (pv : Nat) (up : Nat) (fp : Nat → Int32) (fu : Nat → Int32) (nr : Nat) (hu : Nat) (sd : Nat) (tw : Nat) (st : Nat) (od : Nat) (fs : Nat → Int32) (ft : Nat → Int32) (ff : Nat → Int32) (fo : Nat → Int32) (cn : Nat) (hq : Nat) (d : Nat) (u : Nat) (hcn : cn ≤ 12) (hnt : nt ≤ 20) (hd2 : d < 2) (hu2 : u < cn) (hfs : ¬ fs u = nI d) (hn3 : nt < 3) : Met l yX3_reported wsX3_reported ({ frames := 7, cells := 0, slots := 0, locals := 111 }) (va_Pc [.ref h, .int (nI d), .int (nI u)] (wt_pre (dC, dI) cI [(h, .inr (3, [.ref hm, .ref dp, .ref hu, .ref we, .ref se, .ref hq, .int (nI nt)])), (dp, .inl (cI, 2, .inl fd)), (we, .inl (cI, 20, .inl fw)), (se, .inl (cI, 20, .inl fe)), (hm, .inr (0, [.ref pv, .ref up, .int (nI nr)])), (pv, .inl (cI, 10, .inl fp)), (up, .inl (cI, 10, .inl fu)), (hu, .inr (2, [.ref sd, .ref tw, .ref st, .ref od, .int (nI cn)])), (sd, .inl (cI, 12, .inl fs)), (tw, .inl (cI, 264, .inl ft)), (st, .inl (cI, 264, .inl ff)), (od, .inl (cI, 264, .inl fo))])) (wt_ro (-1)) 0 0 wt_no := by
  refine Met.ofW (cc := cX3_reported) (maxL := 4) (ret := (some .int)) (by decide) rfl ?_
  intro p e s m args below meth c s₁ B hml hv
  obtain ⟨rfl, hP, hK, hN⟩ := hv
  have hx := B.exec
  have hb := B.bytes
  have hr := B.returns
  have hts := atoms_spec (ws := wsX3_reported) B.pre
  have hown : s.vm.findClass RX3 = some m.cls := findClass_of_methodNamed B.named
  have hlocks := B.notSynchronized
  have inX2 : ∀ w ∈ wsX20, w ∈ wsX3_reported := wt_in [58, 59, 60, 61, 62] (by decide +kernel)
  have inX3 : ∀ w ∈ wsX30, w ∈ wsX3_reported := wt_in [51, 52, 53, 54, 55, 56, 57] (by decide +kernel)
  have hl := lv_entry ([.ref h, .int (nI d), .int (nI u)]) (n := 4) (Nat.le_of_ble_eq_true rfl)
  rw [lg_entry_eq]
  generalize (lg_sl ([.ref h, .int (nI d), .int (nI u)]) ++ List.replicate (4 - (lg_sl ([.ref h, .int (nI d), .int (nI u)])).length) Slot.unset).toArray = ls at hl ⊢
  have hl : lv_has ls 4 [(0, .ref h), (1, .int (nI d)), (2, .int (nI u))] := hl
  refine lv_iload_n hx hb dX3_reported_0 rfl (lv_at hl 1 rfl) ?_
  refine wt_rv_go (va_runS (As := [.int (nI d)]) (rest := []) ⟨hx, hb, hml, hown, hts⟩ (k_X3_checkSideS l d (by omega)) (va_cwS 1 hts gX3_reported_X3_checkSide rfl rfl rfl (by decide +kernel) ⟨Nat.le_of_ble_eq_true rfl, Nat.le_of_ble_eq_true rfl⟩) wt_PS rfl rfl hl.1 rfl (lv_room (Nat.le_of_ble_eq_true rfl)) dX3_reported_1 ⟨Nat.zero_le _, Nat.zero_le _⟩) ?_
  refine lv_aload_n hx hb dX3_reported_4 rfl (lv_at hl 0 rfl) ?_
  refine lv_iload_n hx hb dX3_reported_5 rfl (lv_at hl 2 rfl) ?_
  refine wt_rv_go (va_runV (As := [.int (nI u)]) (rest := []) ⟨hx, hb, hml, hown, hts⟩ (k_X3_checkUnitS l dC dI cI h dp we se fd fw fe nt hm pv up fp fu nr hu sd tw st od fs ft ff fo cn hq u (by omega) (by omega)) (cwV 1 hts gX3_reported_X3_checkUnit rfl rfl rfl (by decide +kernel) ⟨Nat.le_of_ble_eq_true rfl, Nat.le_of_ble_eq_true rfl⟩) (wt_PV (C := RX3) (T := TX3) (N := 7) (ci := 3) (q0 := 0) hK hP hN rfl rfl [0, 1, 2, 3, 4, 5, 6, 7, 8, 9, 10, 11] rfl) rfl rfl hl.1 rfl (lv_room (Nat.le_of_ble_eq_true rfl)) dX3_reported_6 ⟨Nat.zero_le _, Nat.zero_le _⟩) ?_
  refine lv_aload_n hx hb dX3_reported_9 rfl (lv_at hl 0 rfl) ?_
  refine va_get (D := (dC, dI)) (ci := 3) (v := .ref hu) (C := RX3) (T := TX3) (N := 7) hx hb hts inX3 hown hK hP 0 rfl rfl 2 (by decide) (hts (.fieldLink RX3 23 "WarTable" "units" "LWarTable$Units;") (List.mem_of_getElem? (i := 3) rfl)) (fun _ h9 => h9) rfl dX3_reported_10 ?_
  refine lv_iload_n hx hb dX3_reported_13 rfl (lv_at hl 2 rfl) ?_
  refine wt_ro_go (va_runV (As := [.int (nI u)]) (rest := []) ⟨hx, hb, hml, hown, hts⟩ (k_X2_sideOf l dC dI cI hu sd tw st od fs ft ff fo cn u (by omega)) (cwV 1 hts gX3_reported_X2_sideOf rfl rfl rfl (by decide +kernel) ⟨Nat.le_of_ble_eq_true rfl, Nat.le_of_ble_eq_true rfl⟩) (wt_PV (C := RX2) (T := TX2) (N := 5) (ci := 2) (q0 := 7) hK hP hN rfl rfl [7, 8, 9, 10, 11] rfl) rfl rfl hl.1 rfl (lv_room (Nat.le_of_ble_eq_true rfl)) dX3_reported_14 ⟨Nat.zero_le _, Nat.zero_le _⟩) ?_
  refine lv_iload_n hx hb dX3_reported_17 rfl (lv_at hl 1 rfl) ?_
  refine wt_icmp_neI (tgt := 31) hx hb dX3_reported_18 (by decide) (fun c_18_1 => ?_) (fun c_18_1 => ?_)
  · refine lv_aload_n hx hb dX3_reported_31 rfl (lv_at hl 0 rfl) ?_
    refine va_get (D := (dC, dI)) (ci := 3) (v := .int (nI nt)) (C := RX3) (T := TX3) (N := 7) hx hb hts inX3 hown hK hP 0 rfl rfl 6 (by decide) (hts (.fieldLink RX3 40 "WarTable" "turns" "I") (List.mem_of_getElem? (i := 4) rfl)) (fun _ h9 => h9) rfl dX3_reported_32 ?_
    refine lv_bipush (v := nI 20) hx hb dX3_reported_35 (by decide +kernel) ?_
    refine va_mmin hx hb (by rw [hml]; exact hl.1.symm) hown (hts (.methodLink RX3 170 Lib.Math.min.name) (List.mem_of_getElem? (i := 5) rfl)) (hts (.static Lib.Math.min.name) (List.mem_of_getElem? (i := 6) rfl)) (hts (.initialized "java/lang/Math") (List.mem_of_getElem? (i := 7) rfl)) (hts (.code Lib.Math.min.name Lib.Math.min.code 2 (some .int)) (List.mem_of_getElem? (i := 8) rfl)) (Nat.le_of_ble_eq_true rfl) (Nat.le_of_ble_eq_true rfl) (Nat.zero_le _) (Nat.zero_le _) dX3_reported_37 ?_
    refine wt_top (y := (wt_mi2 (nI nt) (nI 20))) rfl ?_
    refine wt_top (y := nI nt) (wt_min_le hnt (by decide)) ?_
    refine lv_iconst (v := nI 1) hx hb dX3_reported_40 (by decide +kernel) ?_
    refine lv_isub hx hb dX3_reported_41 ?_
    refine lv_iconst (v := nI 2) hx hb dX3_reported_42 (by decide +kernel) ?_
    refine lv_isub hx hb dX3_reported_43 ?_
    refine lv_istore_n (lv' := [(3, .int ((nI nt - nI 1) - (nI 2))), (0, .ref h), (1, .int (nI d)), (2, .int (nI u))]) hx hb dX3_reported_44 rfl hl (by decide) rfl (fun ls hl => ?_)
    refine lv_iload_n hx hb dX3_reported_45 rfl (lv_at hl 0 rfl) ?_
    refine wt_if_ltI (tgt := 80) hx hb dX3_reported_46 (by decide) (fun c_46_2 => ?_) (fun c_46_2 => ?_)
    · refine lv_iconst (v := (-1)) hx hb dX3_reported_80 (by decide +kernel) ?_
      exact wt_ret hx hb hr rfl rfl dX3_reported_81 hlocks
    · exact absurd (wt_m12lt hn3) c_46_2
  · exact absurd c_18_1 hfs
set_option maxHeartbeats 4000000 in
set_option maxRecDepth 100000 in
theorem k_X3_forceS (l : Launch) (dC : Nat → ClassId) (dI : Nat → Nat → Nat) (cI : ClassId) (h : Nat) (dp : Nat) (we : Nat) (se : Nat) (fd : Nat → Int32) (fw : Nat → Int32) (fe : Nat → Int32) (nt : Nat) (hm : Nat) (pv : Nat) (up : Nat) (fp : Nat → Int32) (fu : Nat → Int32) (nr : Nat) (hu : Nat) (sd : Nat) (tw : Nat) (st : Nat) (od : Nat) (fs : Nat → Int32) (ft : Nat → Int32) (ff : Nat → Int32) (fo : Nat → Int32) (cn : Nat) (hq : Nat) (d : Nat) (hcn : cn ≤ 12) (hnt : nt ≤ 20) (hd2 : d < 2) : Met l yX3_force wsX3_force ({ frames := 7, cells := 0, slots := 0, locals := 110 }) (va_Pc [.ref h, .int (nI d)] (wt_pre (dC, dI) cI [(h, .inr (3, [.ref hm, .ref dp, .ref hu, .ref we, .ref se, .ref hq, .int (nI nt)])), (dp, .inl (cI, 2, .inl fd)), (we, .inl (cI, 20, .inl fw)), (se, .inl (cI, 20, .inl fe)), (hm, .inr (0, [.ref pv, .ref up, .int (nI nr)])), (pv, .inl (cI, 10, .inl fp)), (up, .inl (cI, 10, .inl fu)), (hu, .inr (2, [.ref sd, .ref tw, .ref st, .ref od, .int (nI cn)])), (sd, .inl (cI, 12, .inl fs)), (tw, .inl (cI, 264, .inl ft)), (st, .inl (cI, 264, .inl ff)), (od, .inl (cI, 264, .inl fo))])) (wt_ro (wt_fold (wt_frs fs ff nt d) cn (nI 0))) 0 0 wt_no := by
  refine Met.ofW (cc := cX3_force) (maxL := 4) (ret := (some .int)) (by decide) rfl ?_
  intro p e s m args below meth c s₁ B hml hv
  obtain ⟨rfl, hP, hK, hN⟩ := hv
  have hx := B.exec
  have hb := B.bytes
  have hr := B.returns
  have hts := atoms_spec (ws := wsX3_force) B.pre
  have hown : s.vm.findClass RX3 = some m.cls := findClass_of_methodNamed B.named
  have hlocks := B.notSynchronized
  have inX2 : ∀ w ∈ wsX20, w ∈ wsX3_force := wt_in [41, 42, 43, 44, 45] (by decide +kernel)
  have inX3 : ∀ w ∈ wsX30, w ∈ wsX3_force := wt_in [34, 35, 36, 37, 38, 39, 40] (by decide +kernel)
  have hl := lv_entry ([.ref h, .int (nI d)]) (n := 4) (Nat.le_of_ble_eq_true rfl)
  rw [lg_entry_eq]
  generalize (lg_sl ([.ref h, .int (nI d)]) ++ List.replicate (4 - (lg_sl ([.ref h, .int (nI d)])).length) Slot.unset).toArray = ls at hl ⊢
  have hl : lv_has ls 4 [(0, .ref h), (1, .int (nI d))] := hl
  refine lv_iload_n hx hb dX3_force_0 rfl (lv_at hl 1 rfl) ?_
  refine wt_rv_go (va_runS (As := [.int (nI d)]) (rest := []) ⟨hx, hb, hml, hown, hts⟩ (k_X3_checkSideS l d (by omega)) (va_cwS 1 hts gX3_force_X3_checkSide rfl rfl rfl (by decide +kernel) ⟨Nat.le_of_ble_eq_true rfl, Nat.le_of_ble_eq_true rfl⟩) wt_PS rfl rfl hl.1 rfl (lv_room (Nat.le_of_ble_eq_true rfl)) dX3_force_1 ⟨Nat.zero_le _, Nat.zero_le _⟩) ?_
  refine lv_iconst (v := nI 0) hx hb dX3_force_4 (by decide +kernel) ?_
  refine lv_istore_n (lv' := [(2, .int (nI 0)), (0, .ref h), (1, .int (nI d))]) hx hb dX3_force_5 rfl hl (by decide) rfl (fun ls hl => ?_)
  refine lv_iconst (v := nI 0) hx hb dX3_force_6 (by decide +kernel) ?_
  refine lv_istore_n (lv' := [(3, .int (nI 0)), (2, .int (nI 0)), (0, .ref h), (1, .int (nI d))]) hx hb dX3_force_7 rfl hl (by decide) rfl (fun ls hl => ?_)
  have e1 : nI 0 = (wt_fold (wt_frs fs ff nt d) 0 (nI 0)) := rfl
  refine wt_lp (σ := Nat) 0 (fun i => cn - i) (fun i ls => (i ≤ cn) ∧ lv_has ls 4 [(3, .int (nI i)), (2, .int (wt_fold (wt_frs fs ff nt d) i (nI 0))), (0, .ref h), (1, .int (nI d))]) ⟨(by omega), Eq.mp (congrArg (fun z9 : Int32 => lv_has ls 4 [(3, .int (nI 0)), (2, .int z9), (0, .ref h), (1, .int (nI d))]) e1) (lv_sub hl [0, 1, 2, 3] rfl)⟩ (fun i ls h9 ih_8 => ?_)
  obtain ⟨h_8_0, hl⟩ := h9
  refine lv_iload_n hx hb dX3_force_8 rfl (lv_at hl 0 rfl) ?_
  refine lv_aload_n hx hb dX3_force_9 rfl (lv_at hl 2 rfl) ?_
  refine va_get (D := (dC, dI)) (ci := 3) (v := .ref hu) (C := RX3) (T := TX3) (N := 7) hx hb hts inX3 hown hK hP 0 rfl rfl 2 (by decide) (hts (.fieldLink RX3 23 "WarTable" "units" "LWarTable$Units;") (List.mem_of_getElem? (i := 1) rfl)) (fun _ h9 => h9) rfl dX3_force_10 ?_
  refine wt_ro_go (va_runV (As := []) (rest := [.int (nI i)]) ⟨hx, hb, hml, hown, hts⟩ (k_X2_count l dC dI cI hu sd tw st od fs ft ff fo cn) (cwV 0 hts gX3_force_X2_count rfl rfl rfl (by decide +kernel) ⟨Nat.le_of_ble_eq_true rfl, Nat.le_of_ble_eq_true rfl⟩) (wt_PV (C := RX2) (T := TX2) (N := 5) (ci := 2) (q0 := 7) hK hP hN rfl rfl [7, 8, 9, 10, 11] rfl) rfl rfl hl.1 rfl (lv_room (Nat.le_of_ble_eq_true rfl)) dX3_force_13 ⟨Nat.zero_le _, Nat.zero_le _⟩) ?_
  refine wt_icmp_ge (tgt := 52) hx hb (by omega) (by omega) dX3_force_16 (by decide) (fun c_16_2 => ?_) (fun c_16_2 => ?_)
  · refine lv_iload_n hx hb dX3_force_52 rfl (lv_at hl 1 rfl) ?_
    exact wt_ret hx hb hr (by rw [show i = cn by omega]) rfl dX3_force_53 hlocks
  · refine lv_aload_n hx hb dX3_force_19 rfl (lv_at hl 2 rfl) ?_
    refine va_get (D := (dC, dI)) (ci := 3) (v := .ref hu) (C := RX3) (T := TX3) (N := 7) hx hb hts inX3 hown hK hP 0 rfl rfl 2 (by decide) (hts (.fieldLink RX3 23 "WarTable" "units" "LWarTable$Units;") (List.mem_of_getElem? (i := 1) rfl)) (fun _ h9 => h9) rfl dX3_force_20 ?_
    refine lv_iload_n hx hb dX3_force_23 rfl (lv_at hl 0 rfl) ?_
    refine wt_ro_go (va_runV (As := [.int (nI i)]) (rest := []) ⟨hx, hb, hml, hown, hts⟩ (k_X2_sideOf l dC dI cI hu sd tw st od fs ft ff fo cn i (by omega)) (cwV 1 hts gX3_force_X2_sideOf rfl rfl rfl (by decide +kernel) ⟨Nat.le_of_ble_eq_true rfl, Nat.le_of_ble_eq_true rfl⟩) (wt_PV (C := RX2) (T := TX2) (N := 5) (ci := 2) (q0 := 7) hK hP hN rfl rfl [7, 8, 9, 10, 11] rfl) rfl rfl hl.1 rfl (lv_room (Nat.le_of_ble_eq_true rfl)) dX3_force_24 ⟨Nat.zero_le _, Nat.zero_le _⟩) ?_
    refine lv_iload_n hx hb dX3_force_27 rfl (lv_at hl 3 rfl) ?_
    refine wt_icmp_neI (tgt := 46) hx hb dX3_force_28 (by decide) (fun c_28_3 => ?_) (fun c_28_3 => ?_)
    · refine lv_iinc (v := nI (i + 1)) (lv' := [(3, .int (nI (i + 1))), (2, .int (wt_fold (wt_frs fs ff nt d) i (nI 0))), (0, .ref h), (1, .int (nI d))]) hx hb dX3_force_46 hl (k := 0) rfl (nI_1 i) (by decide) rfl (fun ls hl => ?_)
      refine lv_goto (tgt := 8) hx hb dX3_force_49 (by decide) ?_
      have e4 : (wt_fold (wt_frs fs ff nt d) i (nI 0)) = (wt_fold (wt_frs fs ff nt d) (i + 1) (nI 0)) := (by simp only [wt_fold_s, wt_frs, wt_if_f c_28_3])
      exact ih_8 (i + 1) _ (by omega) ⟨(by omega), Eq.mp (congrArg (fun z9 : Int32 => lv_has ls 4 [(3, .int (nI (i + 1))), (2, .int z9), (0, .ref h), (1, .int (nI d))]) e4) (lv_sub hl [0, 1, 2, 3] rfl)⟩
    · refine lv_iload_n hx hb dX3_force_31 rfl (lv_at hl 1 rfl) ?_
      refine lv_aload_n hx hb dX3_force_32 rfl (lv_at hl 2 rfl) ?_
      refine va_get (D := (dC, dI)) (ci := 3) (v := .ref hu) (C := RX3) (T := TX3) (N := 7) hx hb hts inX3 hown hK hP 0 rfl rfl 2 (by decide) (hts (.fieldLink RX3 23 "WarTable" "units" "LWarTable$Units;") (List.mem_of_getElem? (i := 1) rfl)) (fun _ h9 => h9) rfl dX3_force_33 ?_
      refine lv_aload_n hx hb dX3_force_36 rfl (lv_at hl 2 rfl) ?_
      refine va_get (D := (dC, dI)) (ci := 3) (v := .int (nI nt)) (C := RX3) (T := TX3) (N := 7) hx hb hts inX3 hown hK hP 0 rfl rfl 6 (by decide) (hts (.fieldLink RX3 40 "WarTable" "turns" "I") (List.mem_of_getElem? (i := 2) rfl)) (fun _ h9 => h9) rfl dX3_force_37 ?_
      refine lv_iload_n hx hb dX3_force_40 rfl (lv_at hl 0 rfl) ?_
      refine wt_ro_go (va_runV (As := [.int (nI nt), .int (nI i)]) (rest := [.int (wt_fold (wt_frs fs ff nt d) i (nI 0))]) ⟨hx, hb, hml, hown, hts⟩ (k_X2_strengthAt l dC dI cI hu sd tw st od fs ft ff fo cn nt i (by omega) (by omega)) (cwV 2 hts gX3_force_X2_strengthAt rfl rfl rfl (by decide +kernel) ⟨Nat.le_of_ble_eq_true rfl, Nat.le_of_ble_eq_true rfl⟩) (wt_PV (C := RX2) (T := TX2) (N := 5) (ci := 2) (q0 := 7) hK hP hN rfl rfl [7, 8, 9, 10, 11] rfl) rfl rfl hl.1 rfl (lv_room (Nat.le_of_ble_eq_true rfl)) dX3_force_41 ⟨Nat.zero_le _, Nat.zero_le _⟩) ?_
      refine lv_iadd hx hb dX3_force_44 ?_
      refine lv_istore_n (lv' := [(2, .int ((wt_fold (wt_frs fs ff nt d) i (nI 0)) + (ff (nt * 12 + i)))), (3, .int (nI i)), (0, .ref h), (1, .int (nI d))]) hx hb dX3_force_45 rfl hl (by decide) rfl (fun ls hl => ?_)
      refine lv_iinc (v := nI (i + 1)) (lv' := [(3, .int (nI (i + 1))), (2, .int ((wt_fold (wt_frs fs ff nt d) i (nI 0)) + (ff (nt * 12 + i)))), (0, .ref h), (1, .int (nI d))]) hx hb dX3_force_46 hl (k := 1) rfl (nI_1 i) (by decide) rfl (fun ls hl => ?_)
      refine lv_goto (tgt := 8) hx hb dX3_force_49 (by decide) ?_
      have e5 : ((wt_fold (wt_frs fs ff nt d) i (nI 0)) + (ff (nt * 12 + i))) = (wt_fold (wt_frs fs ff nt d) (i + 1) (nI 0)) := (by simp only [wt_fold_s, wt_frs, wt_if_t c_28_3])
      exact ih_8 (i + 1) _ (by omega) ⟨(by omega), Eq.mp (congrArg (fun z9 : Int32 => lv_has ls 4 [(3, .int (nI (i + 1))), (2, .int z9), (0, .ref h), (1, .int (nI d))]) e5) (lv_sub hl [0, 1, 2, 3] rfl)⟩
end
