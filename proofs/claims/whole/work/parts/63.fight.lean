/-! Fights and sight, here and there; a whole turn -/
theorem wt_los_eq (x y : Int32) : wt_loss x y = wt_los x y := by
  unfold wt_loss wt_los
  by_cases c : x = y
  · subst c
    have : ¬ x < x := by rw [Int32.lt_iff_toInt_lt]; omega
    rw [wt_if_f this, wt_if_t rfl, wt_if_t rfl]
  · rw [wt_if_f (P := x = y) c, wt_if_f (P := x = y) c]
theorem wt_los_v (x y : Int32) : ∃ q : Nat, q ≤ 2 ∧ wt_los x y = nI q := by
  unfold wt_los
  by_cases c : x = y
  · exact ⟨1, by omega, wt_if_t c⟩
  · rw [wt_if_f c]
    by_cases d : x < y
    · exact ⟨2, by omega, wt_if_t d⟩
    · rw [wt_if_f d]
      by_cases e : x < nI 2 * y
      · exact ⟨1, by omega, wt_if_t e⟩
      · exact ⟨0, by omega, wt_if_f e⟩
theorem wt_lose {q k : Nat} (hq : q ≤ 9) (hk : k ≤ 2) : wt_max (nI q - nI k) (nI 0) = nI (q - k) ∧ (0 < nI q - nI k ↔ k < q) ∧ (nI k < nI q ↔ k < q) := by
  have h : ∀ q, q < 10 → ∀ k, k < 3 → wt_max (nI q - nI k) (nI 0) = nI (q - k) ∧ (0 < nI q - nI k ↔ k < q) ∧ (nI k < nI q ↔ k < q) := by
    unfold wt_max
    decide +kernel
  exact h q (by omega) k (by omega)
/-- what a fight leaves of a unit: town and strength -/
noncomputable def wt_aft (x : Int32) (L : Int32) (p f : Int32) : Int32 × Int32 := wt_if (p = x) (wt_if (0 < f - L) x (-1), wt_max (f - L) (nI 0)) (p, f)
section WTF
variable {fs si su : Nat → Int32} {cn k x : Nat} {sp : Int32}
theorem wt_fts_at (hcn : cn ≤ 12) {a b : Int32} {p : (Nat → Int32) × (Nat → Int32)} : ∀ (n : Nat), n ≤ 12 →
    (∀ j, (j < k * 12 ∨ k * 12 + n ≤ j) → (wt_fold (wt_fts fs k x a b) n p).1 j = p.1 j ∧ (wt_fold (wt_fts fs k x a b) n p).2 j = p.2 j) ∧
    ∀ u, u < n → ((wt_fold (wt_fts fs k x a b) n p).1 (k * 12 + u), (wt_fold (wt_fts fs k x a b) n p).2 (k * 12 + u)) = wt_aft (nI x) (wt_if (fs u = 0) (wt_loss a b) (wt_loss b a)) (p.1 (k * 12 + u)) (p.2 (k * 12 + u)) := by
  intro n
  induction n with
  | zero => intro _; exact ⟨fun _ _ => ⟨rfl, rfl⟩, fun u h => absurd h (Nat.not_lt_zero _)⟩
  | succ n ih =>
    intro hn
    obtain ⟨h1, h2⟩ := ih (by omega)
    rw [wt_fold_s]
    generalize wt_fold (wt_fts fs k x a b) n p = X at h1 h2 ⊢
    have ea : X.1 (k * 12 + n) = p.1 (k * 12 + n) := (h1 _ (by omega)).1
    have eb : X.2 (k * 12 + n) = p.2 (k * 12 + n) := (h1 _ (by omega)).2
    unfold wt_fts
    by_cases c : X.1 (k * 12 + n) = nI x
    · rw [wt_if_t c]
      have e : wt_if (fs n = 0) (wt_pl X k n (nI x) (X.2 (k * 12 + n) - wt_loss a b)) (wt_pl X k n (nI x) (X.2 (k * 12 + n) - wt_loss b a)) = wt_pl X k n (nI x) (p.2 (k * 12 + n) - wt_if (fs n = 0) (wt_loss a b) (wt_loss b a)) := by
        by_cases d : fs n = 0
        · rw [wt_if_t d, wt_if_t d, eb]
        · rw [wt_if_f d, wt_if_f d, eb]
      rw [e]
      unfold wt_pl wt_plT wt_plF
      refine ⟨fun j hj => ⟨?_, ?_⟩, fun u hu => ?_⟩
      · show upd X.1 _ _ j = _
        rw [wt_upd_n (by omega)]; exact (h1 j (by omega)).1
      · show upd X.2 _ _ j = _
        rw [wt_upd_n (by omega)]; exact (h1 j (by omega)).2
      · show (upd X.1 _ _ _, upd X.2 _ _ _) = _
        by_cases q : u = n
        · subst q
          rw [wt_upd_s, wt_upd_s]
          unfold wt_aft
          rw [← ea, wt_if_t c]
        · rw [wt_upd_n (by omega), wt_upd_n (by omega)]; exact h2 u (by omega)
    · rw [wt_if_f c]
      refine ⟨fun j hj => h1 j (by omega), fun u hu => ?_⟩
      by_cases q : u = n
      · subst q
        unfold wt_aft
        rw [ea, eb, wt_if_f (by rw [← ea]; exact c)]
      · exact h2 u (by omega)
theorem wt_fgt_at (hcn : cn ≤ 12) {p : (Nat → Int32) × (Nat → Int32)} : (∀ j, (j < k * 12 ∨ k * 12 + cn ≤ j) → (wt_fgt fs cn k x sp p).1 j = p.1 j ∧ (wt_fgt fs cn k x sp p).2 j = p.2 j) ∧
    ∀ u, u < cn → ((wt_fgt fs cn k x sp p).1 (k * 12 + u), (wt_fgt fs cn k x sp p).2 (k * 12 + u)) = wt_aft (nI x) (wt_if (fs u = 0) (wt_loss (wt_sum fs p.1 p.2 cn k x 0 sp) (wt_sum fs p.1 p.2 cn k x 1 sp)) (wt_loss (wt_sum fs p.1 p.2 cn k x 1 sp) (wt_sum fs p.1 p.2 cn k x 0 sp))) (p.1 (k * 12 + u)) (p.2 (k * 12 + u)) := wt_fts_at hcn cn hcn
theorem wt_sum_eq (hs : wt_Rs cn fs si) {p q : (Nat → Int32) × (Nat → Int32)} (h : ∀ u, u < cn → p.1 (k * 12 + u) = q.1 u ∧ p.2 (k * 12 + u) = q.2 u) (hsu : ∀ u, u < cn → (wt_has sp (nI u) ↔ su u = nI 1)) (d : Nat) : wt_sum fs p.1 p.2 cn k x d sp = wt_smt si q.1 su q.2 cn (nI x) (nI d) := by
  unfold wt_sum wt_smt
  refine wt_fold_c (fun u hu a => ?_)
  unfold wt_sms wt_smi
  obtain ⟨h1, h2⟩ := h u hu
  rw [h1, h2, (hs u hu).1]
  have z0 : a + nI 0 = a := by rw [nI_0]; exact Int32.add_zero a
  by_cases c : si u = nI d
  · rw [wt_if_t c, wt_if_t c]
    by_cases c2 : q.1 u = nI x
    · rw [wt_if_t c2, wt_if_t c2]
      by_cases c3 : su u = nI 1
      · rw [wt_if_t ((hsu u hu).mpr c3), wt_if_t c3]
      · rw [wt_if_f (fun z => c3 ((hsu u hu).mp z)), wt_if_f c3]
    · rw [wt_if_f c2, wt_if_f c2, z0]
  · rw [wt_if_f c, wt_if_f c, z0]
theorem wt_upd_self {f : Nat → Int32} {k : Nat} : upd f k (f k) = f := by
  funext j
  by_cases c : j = k
  · subst c; exact wt_upd_s
  · exact wt_upd_n c
theorem wt_ffo_at {pl mf : Nat → Int32} {mn : Nat} {X : Int32} {u : Nat} (hu : u < mn) : wt_ffo si pl su mf mn X u = wt_if (pl u = X) (wt_if (wt_if (si u = 0) (wt_los (wt_smt si pl su mf mn X (nI 0)) (wt_smt si pl su mf mn X (nI 1))) (wt_los (wt_smt si pl su mf mn X (nI 1)) (wt_smt si pl su mf mn X (nI 0))) < mf u) (mf u - wt_if (si u = 0) (wt_los (wt_smt si pl su mf mn X (nI 0)) (wt_smt si pl su mf mn X (nI 1))) (wt_los (wt_smt si pl su mf mn X (nI 1)) (wt_smt si pl su mf mn X (nI 0)))) (nI 0)) (mf u) := by
  unfold wt_ffo
  generalize wt_smt si pl su mf mn X (nI 0) = a
  generalize wt_smt si pl su mf mn X (nI 1) = b
  rw [wt_fold_own (wt_ff1 si pl X a b) (fun k y => wt_if (pl k = X) (wt_if (wt_if (si k = 0) (wt_los a b) (wt_los b a) < y) (y - wt_if (si k = 0) (wt_los a b) (wt_los b a)) (nI 0)) y) ?_, wt_if_t hu]
  intro k f
  unfold wt_ff1
  by_cases c : pl k = X
  · rw [wt_if_t c, wt_if_t c]
    by_cases d : si k = 0
    · rw [wt_if_t d, wt_if_t d]
      by_cases e : wt_los a b < f k
      · rw [wt_if_t e, wt_if_t e]
      · rw [wt_if_f e, wt_if_f e]
    · rw [wt_if_f d, wt_if_f d]
      by_cases e : wt_los b a < f k
      · rw [wt_if_t e, wt_if_t e]
      · rw [wt_if_f e, wt_if_f e]
  · rw [wt_if_f c, wt_if_f c, wt_upd_self]
/-- one unit's fate, here and there -/
theorem wt_fate {P F L : Int32} {x : Nat} (hx : x < 10) (hg : wt_gd P F) (hL : ∃ q : Nat, q ≤ 2 ∧ L = nI q) : wt_aft (nI x) L P F = (wt_if (wt_if (P = nI x) (wt_if (L < F) (F - L) (nI 0)) F = 0) (-1) P, wt_if (P = nI x) (wt_if (L < F) (F - L) (nI 0)) F) ∧ wt_gd (wt_aft (nI x) L P F).1 (wt_aft (nI x) L P F).2 ∧ (∀ y : Nat, y < 10 → y ≠ x → ((wt_aft (nI x) L P F).1 = nI y ↔ P = nI y)) := by
  obtain ⟨hok, q, hq, rfl, hiff⟩ := hg
  obtain ⟨r, hr, rfl⟩ := hL
  obtain ⟨l1, l2, l3⟩ := wt_lose hq hr
  unfold wt_aft
  by_cases c : P = nI x
  · have hq0 : 0 < q := Nat.pos_of_ne_zero fun z => wt_ne_m1 (t := x) (by omega) (c.symm.trans (hiff.mpr z))
    rw [wt_if_t c, wt_if_t c, l1]
    by_cases d : r < q
    · rw [wt_if_t (l2.mpr d), wt_if_t (l3.mpr d), pk_sub (by omega), wt_if_f (nI_ne0 (by omega) (by omega))]
      refine ⟨by rw [c], ⟨Or.inr (vp_in_nI hx (by decide)), q - r, by omega, rfl, ⟨fun z => absurd z (wt_ne_m1 (by omega)), fun z => by omega⟩⟩, fun y _ hy => ?_⟩
      show nI x = nI y ↔ P = nI y
      rw [c]
    · rw [wt_if_f (fun z => d (l2.mp z)), wt_if_f (fun z => d (l3.mp z)), wt_if_t nI_0, show q - r = 0 by omega]
      refine ⟨rfl, ⟨Or.inl rfl, 0, by omega, rfl, ⟨fun _ => rfl, fun _ => rfl⟩⟩, fun y hy1 hy => ?_⟩
      show (-1 : Int32) = nI y ↔ P = nI y
      rw [c]
      exact ⟨fun z => absurd z.symm (wt_ne_m1 (by omega)), fun z => absurd ((nI_eq (by omega) (by omega)).mp z).symm hy⟩
  · rw [wt_if_f c, wt_if_f c]
    refine ⟨?_, ⟨hok, q, hq, rfl, hiff⟩, fun y _ _ => Iff.rfl⟩
    by_cases d : q = 0
    · rw [wt_if_t (by rw [d]; exact nI_0), hiff.mpr d]
    · rw [wt_if_f (nI_ne0 (by omega) (by omega))]
/-- the fights, town by town -/
theorem wt_fights (hcn : cn ≤ 12) (hs : wt_Rs cn fs si) {p q : (Nat → Int32) × (Nat → Int32)} (h0 : ∀ u, u < cn → p.1 (k * 12 + u) = q.1 u ∧ p.2 (k * 12 + u) = q.2 u ∧ wt_gd (q.1 u) (q.2 u)) (hsu : ∀ u, u < cn → (wt_has sp (nI u) ↔ su u = nI 1)) : ∀ (n : Nat), n ≤ 10 →
    (∀ j, (j < k * 12 ∨ k * 12 + cn ≤ j) → (wt_fold (wt_fes fs cn k sp (wt_held fs p.1 k 0 cn &&& wt_held fs p.1 k 1 cn)) n p).1 j = p.1 j ∧ (wt_fold (wt_fes fs cn k sp (wt_held fs p.1 k 0 cn &&& wt_held fs p.1 k 1 cn)) n p).2 j = p.2 j) ∧
    (∀ u, u < cn → (wt_fold (wt_fes fs cn k sp (wt_held fs p.1 k 0 cn &&& wt_held fs p.1 k 1 cn)) n p).1 (k * 12 + u) = (wt_fold (wt_fgm si su cn) n q).1 u ∧ (wt_fold (wt_fes fs cn k sp (wt_held fs p.1 k 0 cn &&& wt_held fs p.1 k 1 cn)) n p).2 (k * 12 + u) = (wt_fold (wt_fgm si su cn) n q).2 u ∧ wt_gd ((wt_fold (wt_fgm si su cn) n q).1 u) ((wt_fold (wt_fgm si su cn) n q).2 u)) ∧
    ∀ u, u < cn → ∀ y, n ≤ y → y < 10 → ((wt_fold (wt_fgm si su cn) n q).1 u = nI y ↔ q.1 u = nI y) := by
  have hok : ∀ u, u < cn → wt_ok (p.1 (k * 12 + u)) := fun u hu => by rw [(h0 u hu).1]; exact (h0 u hu).2.2.1
  generalize hct : wt_held fs p.1 k 0 cn &&& wt_held fs p.1 k 1 cn = ct
  intro n
  induction n with
  | zero => intro _; exact ⟨fun _ _ => ⟨rfl, rfl⟩, h0, fun _ _ _ _ _ => Iff.rfl⟩
  | succ n ih =>
    intro hn
    obtain ⟨i1, i2, i3⟩ := ih (by omega)
    rw [wt_fold_s, wt_fold_s]
    generalize wt_fold (wt_fes fs cn k sp ct) n p = X at i1 i2 ⊢
    generalize wt_fold (wt_fgm si su cn) n q = Y at i2 i3 ⊢
    -- the guard
    have hh : ∀ d : Nat, wt_has (wt_held fs p.1 k d cn) (nI n) ↔ wt_hld si Y.1 cn (nI n) (nI d) := by
      intro d
      rw [wt_held_iff hok (by omega)]
      unfold wt_hld
      refine ⟨fun ⟨u, a1, a2, a3⟩ => ⟨u, a1, ?_, ?_⟩, fun ⟨u, a1, a2, a3⟩ => ⟨u, a1, ?_, ?_⟩⟩
      · rw [← (hs u a1).1]; exact a2
      · exact (i3 u a1 n (Nat.le_refl _) (by omega)).mpr (by rw [← (h0 u a1).1]; exact a3)
      · rw [(hs u a1).1]; exact a2
      · rw [(h0 u a1).1]; exact (i3 u a1 n (Nat.le_refl _) (by omega)).mp a3
    have hg : wt_has ct (nI n) ↔ wt_hld si Y.1 cn (nI n) (nI 0) ∧ wt_hld si Y.1 cn (nI n) (nI 1) := by
      rw [← hct, wt_ha (by omega), hh 0, hh 1]
    unfold wt_fes wt_fgm
    by_cases c : wt_hld si Y.1 cn (nI n) (nI 0) ∧ wt_hld si Y.1 cn (nI n) (nI 1)
    · rw [wt_if_t (hg.mpr c), wt_if_t c.1, wt_if_t c.2]
      obtain ⟨f1, f2⟩ := wt_fgt_at (fs := fs) (k := k) (x := n) (sp := sp) (p := X) hcn
      have hsum := fun d => wt_sum_eq (x := n) (k := k) (p := X) (q := Y) hs (fun u hu => ⟨(i2 u hu).1, (i2 u hu).2.1⟩) hsu d
      rw [hsum 0, hsum 1] at f2
      have fate : ∀ u, u < cn → ((wt_fgt fs cn k n sp X).1 (k * 12 + u), (wt_fgt fs cn k n sp X).2 (k * 12 + u)) = (wt_fold (wt_fp1 (wt_ffo si Y.1 su Y.2 cn (nI n))) cn Y.1 u, wt_ffo si Y.1 su Y.2 cn (nI n) u) ∧ wt_gd (wt_fold (wt_fp1 (wt_ffo si Y.1 su Y.2 cn (nI n))) cn Y.1 u) (wt_ffo si Y.1 su Y.2 cn (nI n) u) ∧ ∀ y, y < 10 → y ≠ n → (wt_fold (wt_fp1 (wt_ffo si Y.1 su Y.2 cn (nI n))) cn Y.1 u = nI y ↔ Y.1 u = nI y) := by
        intro u hu
        have hL : wt_if (fs u = 0) (wt_loss (wt_smt si Y.1 su Y.2 cn (nI n) (nI 0)) (wt_smt si Y.1 su Y.2 cn (nI n) (nI 1))) (wt_loss (wt_smt si Y.1 su Y.2 cn (nI n) (nI 1)) (wt_smt si Y.1 su Y.2 cn (nI n) (nI 0))) = wt_if (si u = 0) (wt_los (wt_smt si Y.1 su Y.2 cn (nI n) (nI 0)) (wt_smt si Y.1 su Y.2 cn (nI n) (nI 1))) (wt_los (wt_smt si Y.1 su Y.2 cn (nI n) (nI 1)) (wt_smt si Y.1 su Y.2 cn (nI n) (nI 0))) := by
          rw [(hs u hu).1, wt_los_eq, wt_los_eq]
        have hv : ∃ r : Nat, r ≤ 2 ∧ wt_if (si u = 0) (wt_los (wt_smt si Y.1 su Y.2 cn (nI n) (nI 0)) (wt_smt si Y.1 su Y.2 cn (nI n) (nI 1))) (wt_los (wt_smt si Y.1 su Y.2 cn (nI n) (nI 1)) (wt_smt si Y.1 su Y.2 cn (nI n) (nI 0))) = nI r := by
          by_cases d : si u = 0
          · rw [wt_if_t d]; exact wt_los_v _ _
          · rw [wt_if_f d]; exact wt_los_v _ _
        obtain ⟨g1, g2, g3⟩ := wt_fate (x := n) (by omega) (i2 u hu).2.2 hv
        have e := f2 u hu
        rw [hL, (i2 u hu).1, (i2 u hu).2.1] at e
        have e2 : wt_fold (wt_fp1 (wt_ffo si Y.1 su Y.2 cn (nI n))) cn Y.1 u = wt_if (wt_ffo si Y.1 su Y.2 cn (nI n) u = 0) (-1) (Y.1 u) := by
          rw [wt_fold_own (wt_fp1 (wt_ffo si Y.1 su Y.2 cn (nI n))) (fun k y => wt_if (wt_ffo si Y.1 su Y.2 cn (nI n) k = 0) (-1) y) (fun _ _ => rfl), wt_if_t hu]
        have e3 := wt_ffo_at (si := si) (su := su) (pl := Y.1) (mf := Y.2) (X := nI n) hu
        have e4 : (wt_fold (wt_fp1 (wt_ffo si Y.1 su Y.2 cn (nI n))) cn Y.1 u, wt_ffo si Y.1 su Y.2 cn (nI n) u) = wt_aft (nI n) (wt_if (si u = 0) (wt_los (wt_smt si Y.1 su Y.2 cn (nI n) (nI 0)) (wt_smt si Y.1 su Y.2 cn (nI n) (nI 1))) (wt_los (wt_smt si Y.1 su Y.2 cn (nI n) (nI 1)) (wt_smt si Y.1 su Y.2 cn (nI n) (nI 0)))) (Y.1 u) (Y.2 u) := by
          rw [g1, e2, e3]
        rw [e, ← e4]
        refine ⟨rfl, ?_, ?_⟩
        · rw [← e4] at g2; exact g2
        · intro y h1 h2
          have := g3 y h1 h2
          rw [← e4] at this
          exact this
      refine ⟨fun j hj => ⟨(f1 j hj).1.trans (i1 j hj).1, (f1 j hj).2.trans (i1 j hj).2⟩, fun u hu => ?_, fun u hu y hy1 hy2 => ?_⟩
      · obtain ⟨a1, a2, -⟩ := fate u hu
        exact ⟨congrArg Prod.fst a1, congrArg Prod.snd a1, a2⟩
      · exact ((fate u hu).2.2 y hy2 (by omega)).trans (i3 u hu y (by omega) hy2)
    · have e : wt_if (wt_hld si Y.1 cn (nI n) (nI 0)) (wt_if (wt_hld si Y.1 cn (nI n) (nI 1)) (wt_fold (wt_fp1 (wt_ffo si Y.1 su Y.2 cn (nI n))) cn Y.1, wt_ffo si Y.1 su Y.2 cn (nI n)) Y) Y = Y := by
        by_cases c1 : wt_hld si Y.1 cn (nI n) (nI 0)
        · rw [wt_if_t c1, wt_if_f (fun z => c ⟨c1, z⟩)]
        · rw [wt_if_f c1]
      rw [wt_if_f (fun z => c (hg.mp z)), e]
      exact ⟨i1, i2, fun u hu y hy1 hy2 => i3 u hu y (by omega) hy2⟩
end WTF
