/-! Throws: the rows of methods that throw, nothing written -/
def wt_strs : List (Nat × String) := [(50, "a road joins two different towns from 0 to 9"), (64, "no such road can be added any more"), (71, "a side is 0 or 1, a town 0 to 9"), (73, "a turn was played"), (75, "a side is 0 or 1, a town 0 to 9, a strength 1 to 9"), (91, "no such unit can be added any more"), (101, "a town is 0 to 9, or -1 for no order"), (113, "20 turns were played"), (141, "no ruling stands"), (167, "the unit is one of the side"), (176, "a side is 0 or 1"), (178, "a weather is 0 to 2"), (180, "there is no such unit"), (182, "no such turn was played")]
def wt_zq (A : Nat → Prop) (U : State) (H : Heap) : Prop := vx_Zq Bundle.tN "UNASSIGNED_STACK" Bundle.steD A U H ∧ vx_Zq Bundle.tN "SUPPRESSED_SENTINEL" Bundle.listD A U H
def wt_str (U : State) : Prop := ∀ q ∈ wt_strs, ∃ sa : Nat, vk_R RX3 q.1 q.2 sa U
def wt_iae : String := "java/lang/IllegalArgumentException"
def wt_ise : String := "java/lang/IllegalStateException"
def wt_iob : String := "java/lang/IndexOutOfBoundsException"
def wt_xwD : List MethodName := [Bundle.initS "java/lang/RuntimeException", Bundle.initS "java/lang/Exception", Bundle.initS "java/lang/Throwable"]
def wt_xwC : List (String × String) := [("java/lang/IllegalArgumentException", "java/lang/IllegalArgumentException"), ("java/lang/IllegalStateException", "java/lang/IllegalStateException"), ("java/lang/IndexOutOfBoundsException", "java/lang/IndexOutOfBoundsException")]
def wt_xwN : List (String × String) := [("java/lang/IllegalStateException", "java/lang/IllegalArgumentException"), ("java/lang/IllegalArgumentException", "java/lang/IndexOutOfBoundsException"), ("java/lang/IndexOutOfBoundsException", "java/lang/IllegalArgumentException")]
/-- what the tables say of the exceptions' classes that no word list carries -/
def wt_xw (U : State) : Prop := (∀ x ∈ wt_xwD, va_Nw (.declares x) U) ∧ (∀ q ∈ wt_xwC, va_Nw (.castable q.1 q.2) U) ∧ ∀ q ∈ wt_xwN, va_Nc q.1 q.2 U
theorem wt_xw_warm {s U : State} (hW : s.WarmedH U.vm) (h : wt_xw s) : wt_xw U := ⟨fun x hx => va_Nw.warmD hW (h.1 x hx), fun q hq => va_Nw.warmC hW (h.2.1 q hq), fun q hq => va_Nc.moved hW.alike (h.2.2 q hq)⟩
theorem wt_xw_blind {U : State} {g : JFrame} {mk : MethodId} {a : Array Value} (h : wt_xw U) : wt_xw (U.calling g mk a) := ⟨fun x hx => va_Nw.same (u := U) rfl rfl (h.1 x hx), fun q hq => va_Nw.same (u := U) rfl rfl (h.2.1 q hq), fun q hq => va_Nc.moved (u := U) (U := U.calling g mk a) (Vm.Alike.refl U.vm) (h.2.2 q hq)⟩
def wt_xe (U : State) : Prop := wt_zq wt_no U U.heap ∧ wt_str U ∧ wt_xw U
theorem wt_str_warm {s U : State} (hW : s.WarmedH U.vm) (h : wt_str s) : wt_str U := fun q hq => by
  obtain ⟨sa, h1⟩ := h q hq
  exact ⟨sa, vk_R.warm hW h1⟩
theorem wt_str_same {u U : State} (hv : U.vm = u.vm) (h : wt_str u) : wt_str U := fun q hq => by
  obtain ⟨sa, h1⟩ := h q hq
  exact ⟨sa, vk_R.same hv h1⟩
theorem wt_zq_moved {A : Nat → Prop} {u U : State} {H : Heap} (hvm : u.vm.Alike U.vm) (h : wt_zq A u H) : wt_zq A U H := ⟨vx_Zq.moved hvm h.1, vx_Zq.moved hvm h.2⟩
theorem wt_zq_kept {A : Nat → Prop} {U : State} {H H1 : Heap} (h : wt_zq A U H) (hq : ∀ a : Nat, a < H.size → ¬ A a → H1[a]? = H[a]?) : wt_zq A U H1 := ⟨h.1.kept hq, h.2.kept hq⟩
theorem wt_zq_no {A : Nat → Prop} {U : State} {H : Heap} (h : wt_zq A U H) : wt_zq wt_no U H := ⟨h.1.narrow (fun _ z => z.elim), h.2.narrow (fun _ z => z.elim)⟩
theorem wt_xe_blind {U : State} {g : JFrame} {mk : MethodId} {a : Array Value} (h : wt_xe U) : wt_xe (U.calling g mk a) := ⟨wt_zq_moved (u := U) (U := U.calling g mk a) (Vm.Alike.refl U.vm) h.1, wt_str_same (u := U) rfl h.2.1, wt_xw_blind h.2.2⟩
theorem wt_xe_at {s U : State} {H : Heap} (hZ : wt_zq wt_no s H) (hX : wt_str s ∧ wt_xw s) (hU : U.heap = H) (hW : s.WarmedH U.vm) : wt_xe U := ⟨wt_zq_moved hW.alike (by rw [hU]; exact hZ), wt_str_warm hW hX.1, wt_xw_warm hW hX.2⟩
/-- thrown: the class by its name; no old cell has changed -/
def wt_xc (E0 : String) : String → State → State → Prop := fun E st t => E = E0 ∧ st.heap.size ≤ t.heap.size ∧ ∀ q : Nat, q < st.heap.size → t.heap[q]? = st.heap[q]?
def wt_nv : Array Value → State → Outcome → State → Prop := fun _ _ _ _ => False
def wt_names : List String := ["java/lang/RuntimeException", "java/lang/Exception"]
def wt_xB (cls : String) : List Cond := [.declares (Bundle.initS "java/lang/RuntimeException"), .declares (Bundle.initS "java/lang/Exception"), .declares (Bundle.initS "java/lang/Throwable"), .castable cls cls]
theorem wt_xg1 : ∀ w ∈ (vx_atS RX3 52 "java/lang/IllegalArgumentException" wt_names).filter (fun w => !goodWord w), w ∈ wt_xB "java/lang/IllegalArgumentException" := by decide +kernel
theorem wt_xg2 : ∀ w ∈ (vx_atS RX3 66 "java/lang/IllegalStateException" wt_names).filter (fun w => !goodWord w), w ∈ wt_xB "java/lang/IllegalStateException" := by decide +kernel
theorem wt_xg3 : ∀ w ∈ (vx_atS RX3 169 "java/lang/IndexOutOfBoundsException" wt_names).filter (fun w => !goodWord w), w ∈ wt_xB "java/lang/IndexOutOfBoundsException" := by decide +kernel
theorem wt_xB_of {args : Array Value} {s : State} {cls : String} (h : wt_xw s) (hc : (cls, cls) ∈ wt_xwC) : ∀ w ∈ wt_xB cls, w.before args s = true := vx_c (va_Nw.use rfl (h.1 _ (List.mem_of_getElem? (i := 0) rfl))) (vx_c (va_Nw.use rfl (h.1 _ (List.mem_of_getElem? (i := 1) rfl))) (vx_c (va_Nw.use rfl (h.1 _ (List.mem_of_getElem? (i := 2) rfl))) (vx_c (va_Nw.use rfl (h.2.1 _ hc)) vx_n)))
theorem wt_xo1 : ∀ w ∈ Cond.classLink RX3 48 "java/lang/IllegalArgumentException" :: Cond.initialized "java/lang/IllegalArgumentException" :: vx_atS RX3 52 "java/lang/IllegalArgumentException" wt_names, vx_ot w = true := by decide +kernel
theorem wt_xo2 : ∀ w ∈ Cond.classLink RX3 62 "java/lang/IllegalStateException" :: Cond.initialized "java/lang/IllegalStateException" :: vx_atS RX3 66 "java/lang/IllegalStateException" wt_names, vx_ot w = true := by decide +kernel
theorem wt_xo3 : ∀ w ∈ Cond.classLink RX3 165 "java/lang/IndexOutOfBoundsException" :: Cond.initialized "java/lang/IndexOutOfBoundsException" :: vx_atS RX3 169 "java/lang/IndexOutOfBoundsException" wt_names, vx_ot w = true := by decide +kernel
theorem wt_hat {args : Array Value} {s : State} {L : List Cond} {cls : String} (hX : wt_xe s) (hc : (cls, cls) ∈ wt_xwC) (hg : ∀ w ∈ L.filter (fun w => !goodWord w), w ∈ wt_xB cls) (h1 : ∀ w ∈ L.filter goodWord, w.before args s = true) : ∀ w ∈ L, w.before args s = true := vx_hat h1 hg (wt_xB_of hX.2.2 hc)
/-- an answer of nothing, nothing written -/
def wt_rv : Array Value → State → Outcome → State → Prop := fun _ st o t => o = .returned none ∧ t.heap = st.heap
def wt_mi2 (x y : Int32) : Int32 := if y < x then y else x
theorem wt_min_le {a b : Nat} (h : a ≤ b) (hb : b < 2 ^ 31) : wt_mi2 (nI a) (nI b) = nI a := if_neg (nI_nlt h hb)
section WT2
variable {p : Program} {l : Launch} {e : Env} {R : Room} {s : State} {m : MethodId} {args : Array Value} {below : List Frame} {meth : Method} {c : Code} {H : Heap} {locs : List Loc} {cells slots : Nat} {Q : State → Prop}
variable {cc : ByteArray} {pc : Nat} {ls : Array Slot} {rest st0 : List Value} {D : va_G} {cI : ClassId} {A : Nat → Prop} {a : Nat} {ws : va_W} {H0 : Heap} {av : Array Value}
theorem wt_rv_go (hr : va_Run p l e R s m args below meth c H locs cells slots 0 0 (F0 m pc ls st0) rest (wt_rv av) wt_no) (k : W p l e R s m args below meth c H locs cells slots Q (F0 m (pc + 3) ls rest)) : W p l e R s m args below meth c H locs cells slots Q (F0 m pc ls st0) := by
  intro T hT X
  obtain ⟨v, st₀, t, T', L, h0, X', hL, e1, -, ⟨hv, hh⟩, st⟩ := hr T hT X
  have hL0 : L = [] := by
    cases L with
    | nil => rfl
    | cons q L => exact (hL q List.mem_cons_self).elim
  subst hL0
  rw [List.append_nil] at X'
  cases hv
  obtain ⟨t2, a1, b1⟩ := k T' (by rw [e1, hh, h0]) X'
  exact ⟨t2, st t2 a1, b1⟩
theorem wt_rvret (hexec : p.tables.exec = Jvm.exec) (hb : c.code = cc) (hr : meth.sig.returnType = none) (hH : H = s.heap) (hdg : decode cc pc = .ok (.return_, 1)) (hlocks : meth.locks = false) : W p l e R s m args below meth c H [] 0 0 (MQ below wt_rv args s 0 0 wt_no) (F0 m pc ls []) :=
  W.vret hexec hb hr (fun t ht _ => ⟨rfl, by rw [ht, hH]⟩) (fun _ h => nomatch h) hdg hlocks
/-- throw new E("text") -/
theorem wt_throw {Qc : Array Value → State → Outcome → State → Prop} (hexec : p.tables.exec = Jvm.exec) (hb : c.code = cc) (hl : l.stackTraces = false) {cls text : String} {ik is ic : Nat}
    (hown : s.vm.findClass RX3 = some m.cls) (hcls : Bundle.fit cls = true)
    (hk : (Cond.classLink RX3 ik cls).before args s = true) (hini : (Cond.initialized cls).before args s = true) (hX : wt_xe s) (hst : (is, text) ∈ wt_strs) (hat : ∀ w ∈ vx_atS RX3 ic cls wt_names, w.before args s = true)
    (hgood : ∀ w ∈ Cond.classLink RX3 ik cls :: Cond.initialized cls :: vx_atS RX3 ic cls wt_names, vx_ot w = true) (hH : H = s.heap) (hsize : ls.size = c.maxLocals)
    (d0 : decode cc pc = .ok (.new ik, 3)) (d3 : decode cc (pc + 3) = .ok (.dup, 1)) (d4 : decode cc (pc + 4) = .ok (.ldc is, 2)) (d6 : decode cc (pc + 6) = .ok (.invokespecial ic, 3)) (d9 : decode cc (pc + 9) = .ok (.athrow, 1))
    (hout : ∀ x ∈ c.exceptionTable.toList, False) (hRf : 5 < R.frames) (hRl : (rest.map fun v => v.category).sum + 82 ≤ R.locals) (hRc : 1 ≤ R.cells) (hRs : 6 ≤ R.slots) (hlocks : meth.locks = false) :
    W p l e R s m args below meth c H [] 0 0 (vx_MQ below Qc (wt_xc cls) args s 1 6 wt_no) (F0 m pc ls rest) := by
  subst hH
  obtain ⟨sa, hstr⟩ := hX.2.1 _ hst
  exact vx_throwS (names := wt_names) (A := wt_no) hexec hb hl hown hcls (by decide +kernel) hk hini hstr hat hgood hX.1.1 hX.1.2 va_S.rf hsize d0 d3 d4 d6 d9 (fun x hx => (hout x hx).elim) hRf hRl (by omega) (by omega) hlocks (fun t _ h1 h2 => ⟨rfl, h1, h2⟩) (fun _ h => nomatch h) (by omega) (by omega)
/-- a callee throws: it goes on to the caller -/
theorem wt_thr_call {E : String} {Qc : Array Value → State → Outcome → State → Prop} (hout : ∀ x ∈ c.exceptionTable.toList, False) (hlocks : meth.locks = false) (hH : H = s.heap) (hr : vx_Run p l e R s m args below meth c H [] 0 0 1 6 (F0 m pc ls st0) rest (wt_nv av) (wt_xc E) wt_no) : W p l e R s m args below meth c H [] 0 0 (vx_MQ below Qc (wt_xc E) args s 1 6 wt_no) (F0 m pc ls st0) := by
  subst hH
  intro T hT X
  rcases hr T hT X with ⟨v, st₀, t, T', L, h0, X', hL, e1, e2, hf, st⟩ | ⟨q, st₀, t, T', L, E', ce, h0, X', hL, e1, e2, ⟨hE, hz, hq⟩, hce, hcv, hcl, st⟩
  · exact hf.elim
  · have hL0 : L = [] := by
      cases L with
      | nil => rfl
      | cons q L => exact (hL q List.mem_cons_self).elim
    subst hL0
    rw [h0] at hz hq
    have K : vx_W p l e R s m args below meth c T'.heap [] (0 + 1) (0 + 6) (vx_MQ below Qc (wt_xc E) args s 1 6 wt_no) (F0 m pc ls rest) q := vx_out (Qc := Qc) (XC := wt_xc E) (free := wt_no) (mc := 1) (ms := 6) (pc := pc) (ls := ls) (rest := rest) (E := E') (ce := ce) (q := q) (H := T'.heap) (fun x hx => (hout x hx).elim) hlocks (by rw [e1]; exact hce) hcv hcl (fun t2 ht2 _ => ⟨hE, by rw [ht2, e1]; exact hz, fun z hz2 => by rw [ht2, e1]; exact hq z hz2⟩) (fun _ h => nomatch h) (by omega) (by omega)
    obtain ⟨t2, a1, b1⟩ := K T' rfl X'
    exact ⟨t2, st.trans a1, b1⟩
/-- a callee's start, of a callee that may throw -/
theorem wt_PXS {As : List Value} (hX : wt_xe s) (hH : H = s.heap) : PreS s H (va_Pc As wt_xe) As := ⟨fun _ _ _ _ q => ⟨q.1, wt_xe_blind q.2⟩, fun _ hU hW => ⟨rfl, wt_xe_at hX.1 hX.2 (by rw [hU, hH]) hW⟩⟩
theorem wt_PXV {wH wc : va_W} {b : Nat} {As : List Value} {C : String} {T : u_T} {N ci q0 : Nat} {fs : List Value} (hX : wt_xe s) (hH : H = s.heap) (hK : va_K D vwCl [(cI, .int)] s) (hP : va_P D vwCl wH H) (hN : wt_nst s) (hc : vwCl[ci]? = some (C, T, N)) (he : wH[q0]? = some (b, .inr (ci, fs))) (is : List Nat) (his : is.filterMap (fun i => wH[i]?) = wc) : PreV s H C b (va_Pc (.ref b :: As) (fun U => wt_pre D cI wc U ∧ wt_xe U)) As :=
  ⟨fun _ _ _ _ q => ⟨q.1, wt_pre_blind q.2.1, wt_xe_blind q.2.2⟩, va_recv hK hP hc he, fun _ hU hW => ⟨rfl, wt_pre_at hK (hP.sub is his) hN hU hW, wt_xe_at hX.1 hX.2 (by rw [hU, hH]) hW⟩⟩
end WT2
