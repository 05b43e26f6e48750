/-! The law's own helpers: a call of the class, an answer kept or an exception caught -/
def wt_nx : String → State → State → Prop := fun _ _ _ => False
def wt_pml (D : va_G) (cI cL : ClassId) (ws : va_W) (sz : Nat) (U : State) : Prop := U.heap.size = sz ∧ (va_P D vwCl ws U.heap ∧ va_K D vwCl [(cI, .int), (cL, .long)] U ∧ wt_nst U) ∧ va_D (fun _ => True) ws ∧ wt_xe U
section WT3
variable {p : Program} {l : Launch} {e : Env} {R : Room} {s : State} {m : MethodId} {args : Array Value} {below : List Frame} {meth : Method} {c : Code} {H : Heap} {locs : List Loc} {cells slots : Nat} {Q : State → Prop}
variable {cc : ByteArray} {pc : Nat} {ls : Array Slot} {rest st0 : List Value} {D : va_G} {cI cL : ClassId} {A : Nat → Prop} {a : Nat} {ws : va_W} {H0 : Heap} {av : Array Value}
theorem wt_thr_h {E : String} {wH : va_W} (hr : vx_Run p l e R s m args below meth c H locs cells slots 1 6 (F0 m pc ls st0) rest (wt_nv av) (wt_xc E) wt_no) (hP : va_P D vwCl wH H) (hS : va_S A H0 H locs)
    (kx : ∀ (ce : Cell) (q9 : Addr) (H1 : Heap), va_P D vwCl wH H1 → va_S A H0 H1 locs → H.size ≤ H1.size → H1[q9]? = some ce → ce.vm = .none → s.vm.findClass E = some ce.cls → vx_W p l e R s m args below meth c H1 locs (cells + 1) (slots + 6) Q (F0 m pc ls rest) q9) : W p l e R s m args below meth c H locs cells slots Q (F0 m pc ls st0) := by
  intro T hT X
  rcases hr T hT X with ⟨v, st₀, t, T', L, h0, X', hL, e1, e2, hf, st⟩ | ⟨q, st₀, t, T', L, E', ce, h0, X', hL, e1, e2, ⟨hE, hz, hq⟩, hce, hcv, hcl, st⟩
  · exact hf.elim
  · have hL0 : L = [] := by
      cases L with
      | nil => rfl
      | cons q L => exact (hL q List.mem_cons_self).elim
    subst hL0
    subst hE
    rw [List.append_nil] at X'
    rw [h0, ← e1] at hz hq
    have hP1 : va_P D vwCl wH T'.heap := hP.kept (fun k x hx => hq x.1 ((hP k x hx).lt))
    have hS1 : va_S A H0 T'.heap locs := ⟨Nat.le_trans hS.1 hz, fun q h1 h2 => by rw [hq q (Nat.lt_of_lt_of_le h1 hS.1)]; exact hS.2.1 q h1 h2, hS.2.2⟩
    obtain ⟨t2, a1, b1⟩ := kx ce q T'.heap hP1 hS1 hz (by rw [e1]; exact hce) hcv hcl T' rfl X'
    exact ⟨t2, st.trans a1, b1⟩
theorem wt_run_of {mc ms : Nat} {g : JFrame} {Qa : State → Outcome → State → Prop} {free : Addr → Prop} (h : vx_Run p l e R s m args below meth c H locs cells slots mc ms g rest Qa wt_nx free) : va_Run p l e R s m args below meth c H locs cells slots mc ms g rest Qa free := by
  intro T hT X
  rcases h T hT X with h | ⟨q, st₀, t, T', L, E', ce, h0, X', hL, e1, e2, hx, -⟩
  · exact h
  · exact hx.elim
theorem wt_pml_blind {ws : va_W} {sz : Nat} {U : State} {g : JFrame} {mk : MethodId} {a : Array Value} (h : wt_pml D cI cL ws sz U) : wt_pml D cI cL ws sz (U.calling g mk a) := ⟨h.1, ⟨h.2.1.1, va_K.moved (u := U) (U := U.calling g mk a) (Vm.Alike.refl U.vm) h.2.1.2.1, wt_nst_same (u := U) rfl h.2.1.2.2⟩, h.2.2.1, wt_xe_blind h.2.2.2⟩
theorem wt_PL {wH wc : va_W} {As : List Value} (hK : va_K D vwCl [(cI, .int), (cL, .long)] s) (hP : va_P D vwCl wH H) (hN : wt_nst s) (hD : va_D A wH) (hZ : wt_zq wt_no s H) (hX : wt_str s ∧ wt_xw s) (is : List Nat) (hC : is.map (fun i => wH[i]?) = wc.map some) (hn : va_nd is = true) : PreS s H (va_Pc As (wt_pml D cI cL wc H.size)) As :=
  ⟨fun _ _ _ _ q => ⟨q.1, wt_pml_blind q.2⟩, fun U hU hW => ⟨rfl, by rw [hU], ⟨by rw [hU]; exact hP.sub is (wt_fm _ _ _ hC), va_K.moved hW.alike hK, wt_nst_warm hW hN⟩, (hD.sub is hn hC).weaken (fun _ _ _ _ => trivial), wt_xe_at hZ hX hU hW⟩⟩
end WT3
