/-! The law's own small methods: what they compute; calls of them -/
noncomputable def wt_cel (L : Nat) (xs : Nat → Int32) (i : Nat) : Int32 := wt_if (i < L) (xs i) ((936751593 : Int32) * nI (i + 1))
noncomputable def wt_xv (L : Nat) (xs : Nat → Int32) (i : Nat) : Int32 := wt_cel L xs i &&& (2147483647 : Int32)
def wt_atN (x : Int32) (n : Nat) : Nat := (x.toUInt32.toNat / 2) % n
theorem wt_atN_lt (x : Int32) {n : Nat} (h : 0 < n) : wt_atN x n < n := Nat.mod_lt _ h
theorem wt_half_lt (x : Int32) : x.toUInt32.toNat / 2 < 2 ^ 31 := by
  have := x.toUInt32.toNat_lt
  omega
theorem wt_ushr1 (x : Int32) : (x.toUInt32 >>> ((nI 1).toUInt32 &&& Int32.toUInt32 31)).toInt32 = nI (x.toUInt32.toNat / 2) := by
  have e : ((nI 1).toUInt32 &&& Int32.toUInt32 31) = 1 := by decide
  rw [e]
  apply Int32.toBitVec_inj.mp
  apply BitVec.eq_of_toNat_eq
  show (x.toUInt32 >>> 1).toNat = (BitVec.ofNat 32 (x.toUInt32.toNat / 2)).toNat
  rw [UInt32.toNat_shiftRight, BitVec.toNat_ofNat, Nat.mod_eq_of_lt (b := 2 ^ 32) (by have := wt_half_lt x; omega)]
  rfl
theorem wt_rem {m n : Nat} (hm : m < 2 ^ 31) (h0 : 0 < n) (hn : n < 2 ^ 31) : nI m - nI m / nI n * nI n = nI (m % n) := by
  have h1 := Nat.div_add_mod m n
  have h2 : m / n * n = n * (m / n) := Nat.mul_comm _ _
  rw [pk_div hm h0 hn, pk_mul, pk_sub (by omega)]
  congr 1
  omega
/-- a bit of a set, as the law tests it -/
theorem wt_sb : ∀ j, j < 32 → ∀ s : Int32, (s >>> (nI j &&& 31)) &&& nI 1 = nI 1 ↔ wt_has s (nI j) := by
  intro j hj s
  rw [wt_hb _ hj]
  have hs : (nI j &&& 31) = nI j := by
    have : ∀ l, l < 32 → (nI l &&& 31) = nI l := by decide +kernel
    exact this j hj
  rw [hs, ← Int32.toBitVec_inj, Int32.toBitVec_and, Int32.toBitVec_shiftRight]
  have h1 : (nI 1).toBitVec = BitVec.twoPow 32 0 := by decide
  rw [h1, BitVec.and_twoPow]
  have h2 : (s.toBitVec.sshiftRight' ((nI j).toBitVec.smod 32)).getLsbD 0 = s.toBitVec.getLsbD j := by
    have h3 : ∀ l, l < 32 → ((nI l).toBitVec.smod 32).toNat = l := by decide +kernel
    rw [BitVec.getLsbD_sshiftRight', h3 j hj]
    simp [hj]
  rw [h2]
  cases s.toBitVec.getLsbD j
  · exact ⟨fun z => absurd z (by decide), fun z => absurd z (by decide)⟩
  · exact ⟨fun _ => rfl, fun _ => rfl⟩
theorem wt_sb0 {j : Nat} (hj : j < 32) {s : Int32} (h : wt_has s (nI j)) : ¬ (s >>> (nI j &&& 31)) &&& nI 1 = 0 := fun z => by
  have := (wt_sb j hj s).mpr h
  rw [z] at this
  exact absurd this (by decide)
theorem wt_ex_s {P : Nat → Prop} {q : Nat} : (∃ z, z < q + 1 ∧ P z) ↔ (∃ z, z < q ∧ P z) ∨ P q := by
  constructor
  · intro ⟨z, h1, h2⟩
    rcases Nat.lt_or_ge z q with h | h
    · exact Or.inl ⟨z, h, h2⟩
    · rw [show z = q by omega] at h2
      exact Or.inr h2
  · intro h
    rcases h with ⟨z, h1, h2⟩ | h
    · exact ⟨z, by omega, h2⟩
    · exact ⟨q, by omega, h⟩
theorem wt_b_orx {P Q S : Prop} (h : S ↔ P ∨ Q) : wt_b P ||| wt_b Q = wt_b S := by
  by_cases p : P
  · rw [wt_b_t p, wt_b_t (h.mpr (Or.inl p))]
    by_cases q : Q
    · rw [wt_b_t q]; decide
    · rw [wt_b_f q]; decide
  · by_cases q : Q
    · rw [wt_b_f p, wt_b_t q, wt_b_t (h.mpr (Or.inr q))]; decide
    · rw [wt_b_f p, wt_b_f q, wt_b_f (fun z => (h.mp z).elim p q)]; decide
theorem wt_frs_k {fs gk ff : Nat → Int32} {k d u : Nat} {a : Int32} (h : fs u = gk u) : a + wt_if (gk u = nI d) (ff (k * 12 + u)) (nI 0) = wt_frs fs ff k d u a := by
  unfold wt_frs
  rw [h]
  by_cases c : gk u = nI d
  · rw [wt_if_t c, wt_if_t c]
  · rw [wt_if_f c, wt_if_f c, nI_0]; exact Int32.add_zero a
/-- supply of the unit u, as it is asked -/
noncomputable def wt_Z (fd fp fu fs ft : Nat → Int32) (cn k : Nat) (w : Int32) (u : Nat) : Int32 := wt_least (fun q => wt_has (wt_sup fd fp fu fs ft cn k (fs u).toNatClampNeg w q) (ft (k * 12 + u))) 5
noncomputable def wt_zst (fd fp fu fs ft : Nat → Int32) (cn k : Nat) (w : Int32) (u : Nat) (f : Nat → Int32) : Nat → Int32 := upd f u (wt_Z fd fp fu fs ft cn k w u)
noncomputable def wt_dpt (x : Int32) : Int32 := wt_if (x = 0) (nI 0) (nI 9)
theorem wt_sd_fs {fs gk : Nat → Int32} {u : Nat} (h : fs u = gk u) (hs : gk u = nI 0 ∨ gk u = nI 1) : (fs u).toNatClampNeg < 2 ∧ fs u = nI (fs u).toNatClampNeg := by
  rw [h]
  rcases hs with z | z <;> rw [z] <;> decide
theorem wt_spq {fd fp fu fs ft gk : Nat → Int32} {cn k : Nat} {w : Int32} (hcn : cn = 10) (hok : ∀ u : Nat, u < 10 → wt_ok (ft (k * 12 + u))) (hfk : ∀ u : Nat, u < 10 → fs u = gk u) (hs : ∀ u : Nat, u < 10 → gk u = nI 0 ∨ gk u = nI 1) (hd0 : fd 0 = nI 0) (hd1 : fd 1 = nI 9) {u : Nat} (hu : u < 10) :
    (¬ wt_Z fd fp fu fs ft cn k w u < -1 ∧ ¬ nI 4 < wt_Z fd fp fu fs ft cn k w u) ∧ (ft (k * 12 + u) < 0 → wt_Z fd fp fu fs ft cn k w u = -1) ∧
    ((∃ q : Nat, q < 10 ∧ (¬ gk q = gk u ∧ ¬ ft (k * 12 + u) < 0 ∧ ft (k * 12 + q) = ft (k * 12 + u))) → wt_Z fd fp fu fs ft cn k w u = -1) ∧ (wt_Z fd fp fu fs ft cn k w u = 0 → ft (k * 12 + u) = wt_dpt (gk u)) ∧
    (ft (k * 12 + u) = wt_dpt (gk u) → ¬ (∃ q : Nat, q < 10 ∧ (¬ gk q = gk u ∧ ¬ ft (k * 12 + u) < 0 ∧ ft (k * 12 + q) = ft (k * 12 + u))) → wt_Z fd fp fu fs ft cn k w u = 0) ∧ (w = nI 2 → ¬ 0 < wt_Z fd fp fu fs ft cn k w u) ∧
    (wt_has (wt_sun fd fp fu fs ft cn k w) (nI u) → ¬ wt_Z fd fp fu fs ft cn k w u < 0) := by
  subst hcn
  obtain ⟨h1, h2⟩ := wt_sd_fs (hfk u hu) (hs u hu)
  have hM : (∃ q : Nat, q < 10 ∧ (¬ gk q = gk u ∧ ¬ ft (k * 12 + u) < 0 ∧ ft (k * 12 + q) = ft (k * 12 + u))) ↔ ∃ e : Nat, e < 10 ∧ (¬ fs e = fs u ∧ ¬ ft (k * 12 + u) < 0 ∧ ft (k * 12 + e) = ft (k * 12 + u)) := by
    refine ⟨fun ⟨q, a1, a2, a3⟩ => ⟨q, a1, ?_, a3⟩, fun ⟨q, a1, a2, a3⟩ => ⟨q, a1, ?_, a3⟩⟩
    · rw [hfk q a1, hfk u hu]; exact a2
    · rw [← hfk q a1, ← hfk u hu]; exact a2
  have hsf : ∀ u : Nat, u < 10 → fs u = nI 0 ∨ fs u = nI 1 := fun v hv => by rw [hfk v hv]; exact hs v hv
  generalize hsd : (fs u).toNatClampNeg = sd at h1 h2
  have hD : ∃ D : Nat, D < 10 ∧ fd sd = nI D ∧ wt_dpt (gk u) = nI D := by
    have hg : gk u = nI sd := by rw [← hfk u hu]; exact h2
    have : sd = 0 ∨ sd = 1 := by omega
    rcases this with rfl | rfl
    · exact ⟨0, by omega, hd0, by rw [hg]; exact wt_if_t nI_0⟩
    · exact ⟨9, by omega, hd1, by rw [hg]; exact wt_if_f (by decide)⟩
  obtain ⟨D, hD1, hD2, hD3⟩ := hD
  rw [hD3]
  exact wt_spok hok hsf (by omega) hD1 hD2 h1 hu h2 hM (by unfold wt_Z; rw [hsd])
theorem wt_inZ {x : Int32} {b : Nat} (hb : b < 2 ^ 30) : (¬ x < nI 0 ∧ ¬ nI b < x) ↔ vp_in x (b + 1) := by
  constructor
  · intro ⟨h1, h2⟩
    refine wt_in_lt (by omega) (by rw [nI_0] at h1; exact h1) ?_
    rw [nI_0] at h1
    obtain ⟨j, hj, rfl⟩ := nI_of h1
    have : ¬ b < j := fun q => h2 (nI_lt q hj)
    exact nI_lt (by omega) (by omega)
  · intro h
    obtain ⟨j, hj, rfl⟩ := vp_in_of h (by omega)
    exact ⟨nI_nlt (Nat.zero_le _) (by omega), nI_nlt (by omega) (by omega)⟩
theorem wt_ok_iff {y : Int32} : (¬ y < (-1) ∧ ¬ nI 9 < y) ↔ wt_ok y := by
  constructor
  · intro ⟨h1, h2⟩
    by_cases h : y < 0
    · left
      have a1 : y.toInt < 0 := by rw [Int32.lt_iff_toInt_lt] at h; exact h
      have a2 : ¬ y.toInt < -1 := by rw [Int32.lt_iff_toInt_lt] at h1; exact h1
      exact Int32.toInt_inj.mp (by rw [show (-1 : Int32).toInt = -1 by decide]; omega)
    · exact Or.inr (wt_inZ (b := 9) (by decide) |>.mp ⟨by rw [nI_0]; exact h, h2⟩)
  · intro h
    rcases h with rfl | h
    · exact ⟨by decide, by decide⟩
    · obtain ⟨h1, h2⟩ := (wt_inZ (b := 9) (by decide)).mpr h
      refine ⟨fun z => ?_, h2⟩
      rw [Int32.lt_iff_toInt_lt] at z h1
      rw [show (-1 : Int32).toInt = -1 by decide] at z
      rw [show (nI 0).toInt = 0 by decide] at h1
      omega
theorem wt_opp {fs gk : Nat → Int32} {u : Nat} (h : fs u = gk u) (hs : gk u = nI 0 ∨ gk u = nI 1) : ∃ d : Nat, d < 2 ∧ nI 1 - gk u = nI d ∧ ¬ fs u = nI d := by
  rw [h]
  rcases hs with z | z
  · exact ⟨1, by omega, by rw [z]; decide, by rw [z]; decide⟩
  · exact ⟨0, by omega, by rw [z]; decide, by rw [z]; decide⟩
theorem wt_last_ok {P : Nat → Prop} {g : Nat → Int32} : ∀ {n : Nat}, (∀ q, q < n → wt_ok (g q)) → wt_ok (wt_last P g n)
  | 0, _ => Or.inl rfl
  | n + 1, h => by
    by_cases c : P n
    · rw [wt_last_t c]; exact h n (by omega)
    · rw [wt_last_f c]; exact wt_last_ok (fun q hq => h q (by omega))
/-- what the law asks of a unit behind a turn -/
def wt_mv (nt : Nat) (ft ff gh gq ga gz : Nat → Int32) (w u : Nat) : Prop :=
  (¬ gh (12 + u) - ff (nt * 12 + u) < 0 ∧ ¬ nI 2 < gh (12 + u) - ff (nt * 12 + u)) ∧ (ft (nt * 12 + u) < 0 ↔ ff (nt * 12 + u) = 0) ∧ (gh u < 0 → ft (nt * 12 + u) < 0) ∧
  (¬ ft (nt * 12 + u) < 0 → ¬ ft (nt * 12 + u) = gh u → ft (nt * 12 + u) = gq u ∧ ¬ gz u < 0 ∧ ¬ w = 2 ∧ vp_in (gh u) 10 ∧ ¬ (ga (gh u).toNatClampNeg >>> (ft (nt * 12 + u) &&& 31)) &&& nI 1 = 0)
section WTB
variable {p : Program} {l : Launch} {e : Env} {R : Room} {s : State} {m : MethodId} {args : Array Value} {below : List Frame} {meth : Method} {c : Code} {H : Heap} {locs : List Loc} {cells slots : Nat} {Q : State → Prop}
variable {cc : ByteArray} {pc : Nat} {ls : Array Slot} {rest st0 : List Value} {D : va_G} {cI : ClassId} {A : Nat → Prop} {a : Nat} {ws : va_W} {H0 : Heap} {av : Array Value}
/-- the script at a callee's start -/
theorem wt_PX {As : List Value} {b L : Nat} {xs : Nat → Int32} (hX : va_X b L xs s s.heap) (hbl : b < s.heap.size) (hbA : ¬ A b) (hS : va_S A s.heap H locs) : PreS s H (va_Pc As (fun U => va_X b L xs U U.heap ∧ b < U.heap.size)) As :=
  ⟨fun _ _ _ _ q => ⟨q.1, va_X.moved (Vm.Alike.refl _) q.2.1, q.2.2⟩, fun U hU hW => ⟨rfl, (va_X.moved hW.alike hX).kept (by rw [hU]; exact hS.2.1 b hbl hbA), by rw [hU]; exact Nat.lt_of_lt_of_le hbl hS.1⟩⟩
theorem wt_PSW {wH wc : va_W} {As : List Value} (hK : va_K D vwCl [(cI, .int)] s) (hP : va_P D vwCl wH H) (hN : wt_nst s) (is : List Nat) (his : is.filterMap (fun i => wH[i]?) = wc) : PreS s H (va_Pc As (wt_pre D cI wc)) As :=
  ⟨fun _ _ _ _ q => ⟨q.1, wt_pre_blind q.2⟩, fun _ hU hW => ⟨rfl, wt_pre_at hK (hP.sub is his) hN hU hW⟩⟩
theorem wt_PIX {wH wc : va_W} {As : List Value} {b L : Nat} {xs : Nat → Int32} (hK : va_K D vwCl [(cI, .int)] s) (hP : va_P D vwCl wH H) (hN : wt_nst s) (hD : va_D A wH) (hS : va_S A s.heap H locs) (hA : ∀ q, s.heap.size ≤ q → A q) (hX : va_X b L xs s s.heap) (hbl : b < s.heap.size) (hbA : ¬ A b) (is : List Nat) (hC : is.map (fun i => wH[i]?) = wc.map some) (hn : va_nd is = true) :
    PreS s H (va_Pc As (fun U => wt_pm D cI wc H.size U ∧ va_X b L xs U U.heap ∧ b < U.heap.size ∧ ¬ va_A wc H.size b)) As :=
  ⟨fun _ _ _ _ q => ⟨q.1, wt_pm_blind q.2.1, va_X.moved (Vm.Alike.refl _) q.2.2.1, q.2.2.2⟩,
   fun U hU hW => ⟨rfl, wt_pm_at hK hP hN hD is hC hn hU hW, (va_X.moved hW.alike hX).kept (by rw [hU]; exact hS.2.1 b hbl hbA), by rw [hU]; exact Nat.lt_of_lt_of_le hbl hS.1, fun z => hbA (va_free hD hS hA is hC b z)⟩⟩
theorem wt_miretz {w1 : va_W} {v : Int32} {P : Prop} (hexec : p.tables.exec = Jvm.exec) (hb : c.code = cc) (hr : meth.sig.returnType = some .boolean) (hv : v = wt_b P) (hP : va_P D vwCl w1 H) (hS : va_S A s.heap H locs) (hdg : decode cc pc = .ok (.ireturn, 1)) (hlocks : meth.locks = false) : W p l e R s m args below meth c H locs cells slots (MQ below (wt_mu (some (.int (wt_b P))) D w1 A) args s cells slots A) (F0 m pc ls [.int v]) :=
  W.zret hexec hb hr (by rw [hv]; exact wt_b_nar P) (fun t ht _ => ⟨by rw [hv], by rw [ht]; exact hP, hS.F ht⟩) hS.2.2 hdg hlocks
end WTB
