/-! What the reference's methods compute, as functions of its cells' contents -/
theorem wt_vn {x : Int32} {n : Nat} (h : vp_in x n) (hn : n < 2 ^ 31) : x = nI x.toNatClampNeg := by
  obtain ⟨j, hj, rfl⟩ := vp_in_of h hn
  rw [nI_clamp (by omega)]
theorem wt_vlt {x : Int32} {n : Nat} (h : vp_in x n) : x.toNatClampNeg < n := Nat.not_le.mp fun q => h (Or.inr q)
theorem wt_inZ {x : Int32} {b : Nat} (hb : b < 2 ^ 30) : (¬ x < nI 0 ∧ ¬ nI b < x) ↔ vp_in x (b + 1) := by
  constructor
  · intro ⟨h1, h2⟩
    refine wt_in_lt (by omega) (by rw [nI_0] at h1; exact h1) ?_
    rw [nI_0] at h1
    obtain ⟨j, hj, rfl⟩ := nI_of h1
    have : ¬ b < j := fun q => h2 (nI_lt q hj)
    exact nI_lt (by omega) (by omega)
  · intro h
    obtain ⟨j, hj, rfl⟩ := vp_in_of h (by omega)
    exact ⟨nI_nlt (Nat.zero_le _) (by omega), nI_nlt (by omega) (by omega)⟩
theorem wt_inU {x : Int32} {b : Nat} (hb : b < 2 ^ 30) : (¬ x < nI 0 ∧ ¬ (nI b - nI 1) < x) ↔ vp_in x b := by
  rcases Nat.eq_zero_or_pos b with h0 | h0
  · subst h0
    constructor
    · intro ⟨h1, h2⟩
      rw [nI_0] at h1
      obtain ⟨j, hj, rfl⟩ := nI_of h1
      exact absurd (show nI 0 - nI 1 < nI j by
        rw [Int32.lt_iff_toInt_lt, nI_toInt hj, show (nI 0 - nI 1 : Int32).toInt = -1 by decide]
        omega) h2
    · intro h
      exact absurd (wt_vlt h) (Nat.not_lt_zero _)
  · obtain ⟨c, rfl⟩ : ∃ c, b = c + 1 := ⟨b - 1, by omega⟩
    rw [pk_sub (by omega), show c + 1 - 1 = c by omega]
    exact wt_inZ (by omega)
def wt_ok (x : Int32) : Prop := x = -1 ∨ vp_in x 10
def wt_hld (si pl : Nat → Int32) (mn : Nat) (x y : Int32) : Prop := ∃ k : Nat, k < mn ∧ si k = y ∧ pl k = x
def wt_row (src : Nat → Int32) (t : Nat) (u : Nat) (f : Nat → Int32) : Nat → Int32 := upd f u (src (12 * t + u))
def wt_opn (pa : Nat → Int32) (a b : Nat) (w : Int32) : Prop := 0 < pa (10 * a + b) ∧ (w = 0 ∨ (w = nI 1 ∧ pa (10 * a + b) = nI 2))
-- supply
noncomputable def wt_fa1 (si pl : Nat → Int32) (mn u : Nat) (en : Int32) (k : Nat) (f : Nat → Int32) : Nat → Int32 := upd f k (wt_if (nI k = pl u) (wt_if (wt_hld si pl mn (nI k) en) (-1) (nI 0)) (-1))
noncomputable def wt_fq (pa si pl : Nat → Int32) (mn : Nat) (w en : Int32) (s r : Nat) (q : Nat) (f : Nat → Int32) : Nat → Int32 := wt_if (f r = nI s) (wt_if (f q = -1) (wt_if (wt_opn pa r q w) (wt_if (wt_hld si pl mn (nI q) en) f (upd f q (nI (s + 1)))) f) f) f
noncomputable def wt_fr (pa si pl : Nat → Int32) (mn : Nat) (w en : Int32) (s : Nat) (r : Nat) (f : Nat → Int32) : Nat → Int32 := wt_fold (wt_fq pa si pl mn w en s r) 10 f
noncomputable def wt_fx (pa si pl : Nat → Int32) (mn : Nat) (w en : Int32) (s : Nat) (f : Nat → Int32) : Nat → Int32 := wt_fold (wt_fr pa si pl mn w en s) 10 f
noncomputable def wt_fa0 (si pl : Nat → Int32) (mn u : Nat) (en : Int32) (fa : Nat → Int32) : Nat → Int32 := wt_fold (wt_fa1 si pl mn u en) 10 fa
noncomputable def wt_far (pa si pl : Nat → Int32) (mn : Nat) (w : Int32) (u : Nat) (fa : Nat → Int32) : Nat → Int32 := wt_fold (wt_fx pa si pl mn w (nI 1 - si u)) 4 (wt_fa0 si pl mn u (nI 1 - si u) fa)
noncomputable def wt_spo (pa de si pl : Nat → Int32) (mn : Nat) (w : Int32) (u : Nat) (fa : Nat → Int32) : Int32 := wt_if (pl u = -1) (-1) (wt_far pa si pl mn w u fa (de (si u).toNatClampNeg).toNatClampNeg)
-- march
def wt_cms (pa pl su od mw : Nat → Int32) (t : Nat) (q : Nat) : Prop := ¬ pl q = -1 ∧ ¬ od (12 * t + q) = -1 ∧ su q = nI 1 ∧ wt_opn pa (pl q).toNatClampNeg (od (12 * t + q)).toNatClampNeg (mw t)
noncomputable def wt_g1 (pa pl su od mw : Nat → Int32) (t : Nat) (k : Nat) (f : Nat → Int32) : Nat → Int32 := upd f k (wt_if (pl k = -1) (pl k) (wt_if (od (12 * t + k) = -1) (pl k) (wt_if (su k = nI 1) (wt_if (wt_opn pa (pl k).toNatClampNeg (od (12 * t + k)).toNatClampNeg (mw t)) (od (12 * t + k)) (pl k)) (pl k))))
def wt_mt1 (pa si pl su od mw : Nat → Int32) (t : Nat) (k : Nat) (z : Nat) : Prop := ¬ si z = si k ∧ wt_cms pa pl su od mw t z ∧ od (12 * t + z) = pl k ∧ pl z = od (12 * t + k)
noncomputable def wt_g2 (pa si pl su od mw : Nat → Int32) (mn t : Nat) (k : Nat) (f : Nat → Int32) : Nat → Int32 := upd f k (wt_if (∃ z : Nat, z < mn ∧ wt_mt1 pa si pl su od mw t k z) (pl k) (f k))
noncomputable def wt_gol (pa si pl su od mw : Nat → Int32) (mn t : Nat) (go : Nat → Int32) : Nat → Int32 := wt_fold (wt_g2 pa si pl su od mw mn t) mn (wt_fold (wt_g1 pa pl su od mw t) mn go)
def wt_cp (g : Nat → Int32) (k : Nat) (f : Nat → Int32) : Nat → Int32 := upd f k (g k)
theorem wt_ex_s {P : Nat → Prop} {q : Nat} : (∃ z, z < q + 1 ∧ P z) ↔ (∃ z, z < q ∧ P z) ∨ P q := by
  constructor
  · intro ⟨z, h1, h2⟩
    rcases Nat.lt_or_ge z q with h | h
    · exact Or.inl ⟨z, h, h2⟩
    · rw [show z = q by omega] at h2
      exact Or.inr h2
  · intro h
    rcases h with ⟨z, h1, h2⟩ | h
    · exact ⟨z, by omega, h2⟩
    · exact ⟨q, by omega, h⟩
theorem wt_or0 {P : Nat → Prop} {q : Nat} (h : ¬ P q) : (wt_b (∃ z, z < q ∧ P z) ||| nI 0) = wt_b (∃ z, z < q + 1 ∧ P z) := by
  rw [wt_b_c (wt_ex_s (P := P) (q := q)), wt_b_c (show ((∃ z, z < q ∧ P z) ∨ P q) ↔ (∃ z, z < q ∧ P z) from ⟨fun z => z.elim id (fun y => absurd y h), Or.inl⟩)]
  by_cases c : ∃ z, z < q ∧ P z
  · rw [wt_b_t c]; decide
  · rw [wt_b_f c]; decide
theorem wt_or1 {P : Nat → Prop} {q : Nat} (h : P q) : (wt_b (∃ z, z < q ∧ P z) ||| nI 1) = wt_b (∃ z, z < q + 1 ∧ P z) := by
  rw [wt_b_t (P := ∃ z, z < q + 1 ∧ P z) ⟨q, by omega, h⟩]
  by_cases c : ∃ z, z < q ∧ P z
  · rw [wt_b_t c]; decide
  · rw [wt_b_f c]; decide
-- fights
noncomputable def wt_smi (si pl su fo : Nat → Int32) (x y : Int32) (u : Nat) (a : Int32) : Int32 := wt_if (si u = y) (wt_if (pl u = x) (wt_if (su u = nI 1) (a + fo u) (a + fo u / nI 2)) (a + nI 0)) (a + nI 0)
noncomputable def wt_smt (si pl su fo : Nat → Int32) (mn : Nat) (x y : Int32) : Int32 := wt_fold (wt_smi si pl su fo x y) mn (nI 0)
noncomputable def wt_los (x y : Int32) : Int32 := wt_if (x = y) (nI 1) (wt_if (x < y) (nI 2) (wt_if (x < nI 2 * y) (nI 1) (nI 0)))
noncomputable def wt_ff1 (si pl : Nat → Int32) (x a b : Int32) (u : Nat) (f : Nat → Int32) : Nat → Int32 := wt_if (pl u = x) (wt_if (si u = 0) (wt_if (wt_los a b < f u) (upd f u (f u - wt_los a b)) (upd f u (nI 0))) (wt_if (wt_los b a < f u) (upd f u (f u - wt_los b a)) (upd f u (nI 0)))) f
noncomputable def wt_ffo (si pl su fo : Nat → Int32) (mn : Nat) (x : Int32) : Nat → Int32 := wt_fold (wt_ff1 si pl x (wt_smt si pl su fo mn x (nI 0)) (wt_smt si pl su fo mn x (nI 1))) mn fo
noncomputable def wt_fp1 (g : Nat → Int32) (u : Nat) (f : Nat → Int32) : Nat → Int32 := upd f u (wt_if (g u = 0) (-1) (f u))
noncomputable def wt_fgm (si su : Nat → Int32) (mn : Nat) (x : Nat) (p : (Nat → Int32) × (Nat → Int32)) : (Nat → Int32) × (Nat → Int32) := wt_if (wt_hld si p.1 mn (nI x) (nI 0)) (wt_if (wt_hld si p.1 mn (nI x) (nI 1)) (wt_fold (wt_fp1 (wt_ffo si p.1 su p.2 mn (nI x))) mn p.1, wt_ffo si p.1 su p.2 mn (nI x)) p) p
-- sight
def wt_se1 (pa si pl : Nat → Int32) (y : Int32) (t : Nat) (k : Nat) : Prop := si k = y ∧ ¬ pl k = -1 ∧ (pl k = nI t ∨ 0 < pa (10 * (pl k).toNatClampNeg + t))
def wt_see (pa si pl : Nat → Int32) (mn : Nat) (y : Int32) (t : Nat) : Prop := ∃ k : Nat, k < mn ∧ wt_se1 pa si pl y t k
-- a turn
noncomputable def wt_ss (pa de si p0 : Nat → Int32) (mn : Nat) (w : Int32) (k : Nat) (p : (Nat → Int32) × (Nat → Int32)) : (Nat → Int32) × (Nat → Int32) := (upd p.1 k (wt_if (wt_spo pa de si p0 mn w k p.2 = -1) (nI 0) (nI 1)), wt_far pa si p0 mn w k p.2)
noncomputable def wt_pS (pa de si p0 : Nat → Int32) (mn : Nat) (w : Int32) (su fa : Nat → Int32) : (Nat → Int32) × (Nat → Int32) := wt_fold (wt_ss pa de si p0 mn w) mn (su, fa)
def wt_p0 (to pl : Nat → Int32) (mn t : Nat) : Nat → Int32 := wt_fold (wt_row to t) mn pl
noncomputable def wt_p2 (si su : Nat → Int32) (mn : Nat) (p1 f0 : Nat → Int32) : (Nat → Int32) × (Nat → Int32) := wt_fold (wt_fgm si su mn) 10 (p1, f0)
def wt_put (g : Nat → Int32) (b : Nat) (k : Nat) (f : Nat → Int32) : Nat → Int32 := upd f (12 * b + k) (g k)
noncomputable def wt_pus (pa si p2 : Nat → Int32) (mn t : Nat) (k : Nat) (f : Nat → Int32) : Nat → Int32 := upd f (12 * t + k) (wt_if (p2 k = -1) (-1) (wt_if (wt_see pa si p2 mn (nI 1 - si k) (p2 k).toNatClampNeg) (p2 k) (-1)))
abbrev wt_Q : Type := (Nat → Int32) × (Nat → Int32) × (Nat → Int32) × (Nat → Int32) × (Nat → Int32) × (Nat → Int32) × (Nat → Int32) × (Nat → Int32)
noncomputable def wt_pt3 (pa si : Nat → Int32) (mn t : Nat) (to sr sn p2 f2 su go fa : Nat → Int32) : wt_Q := (wt_fold (wt_put p2 (t + 1)) mn to, wt_fold (wt_put f2 (t + 1)) mn sr, wt_fold (wt_pus pa si p2 mn t) mn sn, p2, f2, su, go, fa)
noncomputable def wt_pt2 (pa si od mw : Nat → Int32) (mn t : Nat) (to sr sn p0 f0 : Nat → Int32) (S : (Nat → Int32) × (Nat → Int32)) (go : Nat → Int32) : wt_Q := wt_pt3 pa si mn t to sr sn (wt_p2 si S.1 mn (wt_fold (wt_cp (wt_gol pa si p0 S.1 od mw mn t go)) mn p0) f0).1 (wt_p2 si S.1 mn (wt_fold (wt_cp (wt_gol pa si p0 S.1 od mw mn t go)) mn p0) f0).2 S.1 (wt_gol pa si p0 S.1 od mw mn t go) S.2
noncomputable def wt_ptn (pa de si od mw : Nat → Int32) (mn t : Nat) (to sr sn pl fo su go fa : Nat → Int32) : wt_Q := wt_pt2 pa si od mw mn t to sr sn (wt_p0 to pl mn t) (wt_p0 sr fo mn t) (wt_pS pa de si (wt_p0 to pl mn t) mn (mw t) su fa) go
noncomputable def wt_ags (pa de si od mw : Nat → Int32) (mn t : Nat) (j : Nat) (q : wt_Q) : wt_Q := wt_ptn pa de si od mw mn (t + j) q.1 q.2.1 q.2.2.1 q.2.2.2.1 q.2.2.2.2.1 q.2.2.2.2.2.1 q.2.2.2.2.2.2.1 q.2.2.2.2.2.2.2
noncomputable def wt_lbs (sr : Nat → Int32) (t : Nat) (u n : Nat) : Nat := wt_if (sr (12 * t + u) = 0) (n + 1) n
def wt_hd1 (to sr : Nat → Int32) (t : Nat) (k : Nat) (f : Nat → Int32) : Nat → Int32 := upd f k (nI 10 * to (12 * t + k) + sr (12 * t + k))
noncomputable def wt_agn (to sr xh : Nat → Int32) (t : Nat) (k n : Nat) : Nat := wt_if (xh k = nI 10 * to (12 * t + k) + sr (12 * t + k)) n (n + 1)
-- values of towns stay towns
theorem wt_upd_s {f : Nat → Int32} {k : Nat} {x : Int32} : upd f k x k = x := if_pos rfl
theorem wt_upd_n {f : Nat → Int32} {k j : Nat} {x : Int32} (h : j ≠ k) : upd f k x j = f j := if_neg h
/-- a fold that writes place k at step k, out of g, whatever it finds -/
theorem wt_fold_at (F : Nat → (Nat → Int32) → Nat → Int32) (g : Nat → Int32) (hF : ∀ k f, F k f = upd f k (g k)) (n : Nat) (f : Nat → Int32) (u : Nat) : wt_fold F n f u = wt_if (u < n) (g u) (f u) := by
  induction n with
  | zero => rw [wt_fold_0, wt_if_f (Nat.not_lt_zero _)]
  | succ n ih =>
    rw [wt_fold_s, hF]
    by_cases h : u = n
    · subst h
      rw [wt_upd_s, wt_if_t (Nat.lt_succ_self _)]
    · rw [wt_upd_n h, ih]
      by_cases h2 : u < n
      · rw [wt_if_t h2, wt_if_t (by omega)]
      · rw [wt_if_f h2, wt_if_f (by omega)]
theorem wt_p0_at {to pl : Nat → Int32} {mn t u : Nat} (h : u < mn) : wt_p0 to pl mn t u = to (12 * t + u) := by
  unfold wt_p0
  rw [wt_fold_at (wt_row to t) (fun k => to (12 * t + k)) (fun _ _ => rfl), wt_if_t h]
theorem wt_cp_at {g f : Nat → Int32} {mn u : Nat} (h : u < mn) : wt_fold (wt_cp g) mn f u = g u := by
  rw [wt_fold_at (wt_cp g) g (fun _ _ => rfl), wt_if_t h]
theorem wt_g1_at {pa pl su od mw : Nat → Int32} {t mn u : Nat} {f : Nat → Int32} (h : u < mn) : wt_fold (wt_g1 pa pl su od mw t) mn f u = wt_if (pl u = -1) (pl u) (wt_if (od (12 * t + u) = -1) (pl u) (wt_if (su u = nI 1) (wt_if (wt_opn pa (pl u).toNatClampNeg (od (12 * t + u)).toNatClampNeg (mw t)) (od (12 * t + u)) (pl u)) (pl u))) := by
  rw [wt_fold_at (wt_g1 pa pl su od mw t) (fun u => wt_if (pl u = -1) (pl u) (wt_if (od (12 * t + u) = -1) (pl u) (wt_if (su u = nI 1) (wt_if (wt_opn pa (pl u).toNatClampNeg (od (12 * t + u)).toNatClampNeg (mw t)) (od (12 * t + u)) (pl u)) (pl u)))) (fun _ _ => rfl), wt_if_t h]
/-- a fold whose step k writes at k alone, out of what stands there -/
theorem wt_fold_own (F : Nat → (Nat → Int32) → Nat → Int32) (g : Nat → Int32 → Int32) (hF : ∀ k f, F k f = upd f k (g k (f k))) (n : Nat) (f : Nat → Int32) (u : Nat) : wt_fold F n f u = wt_if (u < n) (g u (f u)) (f u) := by
  induction n with
  | zero => rw [wt_fold_0, wt_if_f (Nat.not_lt_zero _)]
  | succ n ih =>
    rw [wt_fold_s, hF]
    by_cases h : u = n
    · subst h
      rw [wt_upd_s, wt_if_t (Nat.lt_succ_self _), ih, wt_if_f (Nat.lt_irrefl _)]
    · rw [wt_upd_n h, ih]
      by_cases h2 : u < n
      · rw [wt_if_t h2, wt_if_t (by omega)]
      · rw [wt_if_f h2, wt_if_f (by omega)]
theorem wt_gol_at {pa si pl su od mw : Nat → Int32} {mn t u : Nat} {go : Nat → Int32} (h : u < mn) : wt_gol pa si pl su od mw mn t go u = wt_if (∃ z : Nat, z < mn ∧ wt_mt1 pa si pl su od mw t u z) (pl u) (wt_fold (wt_g1 pa pl su od mw t) mn go u) := by
  unfold wt_gol
  rw [wt_fold_own (wt_g2 pa si pl su od mw mn t) (fun k x => wt_if (∃ z : Nat, z < mn ∧ wt_mt1 pa si pl su od mw t k z) (pl k) x) (fun _ _ => rfl), wt_if_t h]
theorem wt_if_ok {P : Prop} {a b : Int32} (ha : wt_ok a) (hb : wt_ok b) : wt_ok (wt_if P a b) := by
  by_cases h : P
  · rw [wt_if_t h]; exact ha
  · rw [wt_if_f h]; exact hb
theorem wt_ok_gol {pa si pl su od mw : Nat → Int32} {mn t : Nat} {go : Nat → Int32} (hp : ∀ u, u < mn → wt_ok (pl u)) (ho : ∀ u, u < mn → wt_ok (od (12 * t + u))) : ∀ u, u < mn → wt_ok (wt_gol pa si pl su od mw mn t go u) := by
  intro u hu
  rw [wt_gol_at hu, wt_g1_at hu]
  exact wt_if_ok (hp u hu) (wt_if_ok (hp u hu) (wt_if_ok (hp u hu) (wt_if_ok (wt_if_ok (ho u hu) (hp u hu)) (hp u hu))))
theorem wt_ok_fgm {si su : Nat → Int32} {mn x : Nat} {p : (Nat → Int32) × (Nat → Int32)} (hp : ∀ u, u < mn → wt_ok (p.1 u)) : ∀ u, u < mn → wt_ok ((wt_fgm si su mn x p).1 u) := by
  intro u hu
  unfold wt_fgm
  by_cases h1 : wt_hld si p.1 mn (nI x) (nI 0)
  · rw [wt_if_t h1]
    by_cases h2 : wt_hld si p.1 mn (nI x) (nI 1)
    · rw [wt_if_t h2]
      show wt_ok (wt_fold (wt_fp1 (wt_ffo si p.1 su p.2 mn (nI x))) mn p.1 u)
      rw [wt_fold_own (wt_fp1 (wt_ffo si p.1 su p.2 mn (nI x))) (fun k y => wt_if (wt_ffo si p.1 su p.2 mn (nI x) k = 0) (-1) y) (fun _ _ => rfl), wt_if_t hu]
      exact wt_if_ok (Or.inl rfl) (hp u hu)
    · rw [wt_if_f h2]; exact hp u hu
  · rw [wt_if_f h1]; exact hp u hu
theorem wt_ok_p2 {si su : Nat → Int32} {mn : Nat} {p1 f0 : Nat → Int32} (hp : ∀ u, u < mn → wt_ok (p1 u)) (n : Nat) : ∀ u, u < mn → wt_ok ((wt_fold (wt_fgm si su mn) n (p1, f0)).1 u) := by
  induction n with
  | zero => exact hp
  | succ n ih => exact wt_ok_fgm ih
theorem wt_put_at {g f : Nat → Int32} {b mn u : Nat} (h : u < mn) : wt_fold (wt_put g b) mn f (12 * b + u) = g u := by
  induction mn with
  | zero => omega
  | succ n ih =>
    rw [wt_fold_s]
    unfold wt_put
    by_cases h2 : u = n
    · subst h2; exact wt_upd_s
    · rw [wt_upd_n (by omega)]
      exact ih (by omega)
theorem wt_put_out {g f : Nat → Int32} {b mn j : Nat} (h : j < 12 * b ∨ 12 * b + mn ≤ j) : wt_fold (wt_put g b) mn f j = f j := by
  induction mn with
  | zero => rfl
  | succ n ih =>
    rw [wt_fold_s]
    unfold wt_put
    rw [wt_upd_n (by omega)]
    exact ih (by omega)
theorem wt_ok_ptn {pa de si od mw : Nat → Int32} {mn t : Nat} {to sr sn pl fo su go fa : Nat → Int32} (hto : ∀ u, u < mn → wt_ok (to (12 * t + u))) (ho : ∀ u, u < mn → wt_ok (od (12 * t + u))) : ∀ u, u < mn → wt_ok ((wt_ptn pa de si od mw mn t to sr sn pl fo su go fa).1 (12 * (t + 1) + u)) := by
  intro u hu
  show wt_ok (wt_fold (wt_put _ (t + 1)) mn to (12 * (t + 1) + u))
  rw [wt_put_at hu]
  refine wt_ok_p2 (fun u hu => ?_) 10 u hu
  rw [wt_cp_at hu]
  exact wt_ok_gol (fun u hu => by rw [wt_p0_at hu]; exact hto u hu) ho u hu
