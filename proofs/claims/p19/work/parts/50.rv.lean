/-! What the public methods compute; answers of nothing; turned over from my rows of whole (40, 44, 50) -/
def wt_ok (x : Int32) : Prop := x = -1 ∨ vp_in x 10
theorem wt_upd_s {f : Nat → Int32} {k : Nat} {x : Int32} : upd f k x k = x := if_pos rfl
theorem wt_upd_n {f : Nat → Int32} {k j : Nat} {x : Int32} (h : j ≠ k) : upd f k x j = f j := if_neg h
/-- the least number below n with P, -1 if there is none -/
noncomputable def wt_least (P : Nat → Prop) : Nat → Int32
  | 0 => -1
  | n + 1 => wt_if (∃ q : Nat, q < n ∧ P q) (wt_least P n) (wt_if (P n) (nI n) (-1))
theorem wt_least_none {P : Nat → Prop} : ∀ {n : Nat}, (∀ q, q < n → ¬ P q) → wt_least P n = -1
  | 0, _ => rfl
  | n + 1, h => by
    show wt_if _ _ _ = _
    rw [wt_if_f (fun z => by obtain ⟨q, hq, z⟩ := z; exact h q (by omega) z), wt_if_f (h n (by omega))]
theorem wt_least_eq {P : Nat → Prop} {i : Nat} (h : ∀ q, q < i → ¬ P q) (hi : P i) : ∀ {n : Nat}, i < n → wt_least P n = nI i
  | 0, hn => absurd hn (Nat.not_lt_zero _)
  | n + 1, hn => by
    show wt_if _ _ _ = _
    by_cases c : i = n
    · subst c
      rw [wt_if_f (fun z => by obtain ⟨q, hq, z⟩ := z; exact h q hq z), wt_if_t hi]
    · rw [wt_if_t ⟨i, by omega, hi⟩]
      exact wt_least_eq h hi (by omega)
/-- the value at the last number below n with P, -1 if there is none -/
noncomputable def wt_last (P : Nat → Prop) (g : Nat → Int32) : Nat → Int32
  | 0 => -1
  | n + 1 => wt_if (P n) (g n) (wt_last P g n)
theorem wt_last_t {P : Nat → Prop} {g : Nat → Int32} {n : Nat} (h : P n) : wt_last P g (n + 1) = g n := wt_if_t h
theorem wt_last_f {P : Nat → Prop} {g : Nat → Int32} {n : Nat} (h : ¬ P n) : wt_last P g (n + 1) = wt_last P g n := wt_if_f h
theorem wt_last_0 {P : Nat → Prop} {g : Nat → Int32} : wt_last P g 0 = -1 := rfl
theorem wt_dec_0 {i : Nat} (h : i = 0) : nI i + Int32.ofInt (-1) = -1 := by rw [h]; decide
theorem wt_m12 {n : Nat} (h : 3 ≤ n) (hn : n ≤ 20) : ((nI n - nI 1) - nI 2) = nI (n - 3) := by
  rw [pk_sub (by omega), pk_sub (by omega)]
  congr 1
theorem wt_m12lt {n : Nat} (h : n < 3) : ((nI n - nI 1) - nI 2) < 0 := by
  have : n = 0 ∨ n = 1 ∨ n = 2 := by omega
  rcases this with rfl | rfl | rfl <;> decide
theorem wt_m3lt {n : Nat} (h : n < 3) : (nI n - nI 3) < 0 := by
  have : n = 0 ∨ n = 1 ∨ n = 2 := by omega
  rcases this with rfl | rfl | rfl <;> decide
noncomputable def wt_frs (fs ff : Nat → Int32) (k d : Nat) (u : Nat) (a : Int32) : Int32 := wt_if (fs u = nI d) (a + ff (k * 12 + u)) a
/-- an answer of nothing, nothing written -/
def wt_rv : Array Value → State → Outcome → State → Prop := fun _ st o t => o = .returned none ∧ t.heap = st.heap
def wt_mi2 (x y : Int32) : Int32 := if y < x then y else x
theorem wt_min_le {a b : Nat} (h : a ≤ b) (hb : b < 2 ^ 31) : wt_mi2 (nI a) (nI b) = nI a := if_neg (nI_nlt h hb)
section WT2
variable {p : Program} {l : Launch} {e : Env} {R : Room} {s : State} {m : MethodId} {args : Array Value} {below : List Frame} {meth : Method} {c : Code} {H : Heap} {locs : List Loc} {cells slots : Nat} {Q : State → Prop}
variable {cc : ByteArray} {pc : Nat} {ls : Array Slot} {rest st0 : List Value} {D : va_G} {cI : ClassId} {A : Nat → Prop} {a : Nat} {ws : va_W} {H0 : Heap} {av : Array Value}
theorem wt_rv_go (hr : va_Run p l e R s m args below meth c H locs cells slots 0 0 (F0 m pc ls st0) rest (wt_rv av) wt_no) (k : W p l e R s m args below meth c H locs cells slots Q (F0 m (pc + 3) ls rest)) : W p l e R s m args below meth c H locs cells slots Q (F0 m pc ls st0) := by
  intro T hT X
  obtain ⟨v, st₀, t, T', L, h0, X', hL, e1, -, ⟨hv, hh⟩, st⟩ := hr T hT X
  have hL0 : L = [] := by
    cases L with
    | nil => rfl
    | cons q L => exact (hL q List.mem_cons_self).elim
  subst hL0
  rw [List.append_nil] at X'
  cases hv
  obtain ⟨t2, a1, b1⟩ := k T' (by rw [e1, hh, h0]) X'
  exact ⟨t2, st t2 a1, b1⟩
theorem wt_rvret (hexec : p.tables.exec = Jvm.exec) (hb : c.code = cc) (hr : meth.sig.returnType = none) (hH : H = s.heap) (hdg : decode cc pc = .ok (.return_, 1)) (hlocks : meth.locks = false) : W p l e R s m args below meth c H [] 0 0 (MQ below wt_rv args s 0 0 wt_no) (F0 m pc ls []) :=
  W.vret hexec hb hr (fun t ht _ => ⟨rfl, by rw [ht, hH]⟩) (fun _ h => nomatch h) hdg hlocks
end WT2
