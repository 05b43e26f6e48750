/-! A turn of the class: what it does to each unit; march, fights (from my rows of whole: 62, 63) -/
def wt_gd (t s : Int32) : Prop := wt_ok t ∧ ∃ q : Nat, q ≤ 9 ∧ s = nI q ∧ (t = -1 ↔ q = 0)
theorem wt_sub1 {d : Nat} (h : d < 2) : nI 1 - nI d = nI (1 - d) := pk_sub (by omega)
theorem wt_fold_c {α : Type} {F G : Nat → α → α} {x : α} : ∀ {n : Nat}, (∀ u, u < n → ∀ a, F u a = G u a) → wt_fold F n x = wt_fold G n x
  | 0, _ => rfl
  | n + 1, h => by rw [wt_fold_s, wt_fold_s, wt_fold_c (n := n) (fun u hu => h u (by omega)), h n (by omega)]
theorem wt_max0 {q : Nat} (h : q < 2 ^ 31) : wt_max (nI q) (nI 0) = nI q := wt_max_0 h
section WTT
variable {fd fp fu fs fo ft ff : Nat → Int32} {cn t : Nat} {w : Int32}
/-- the march: row t + 1 of towns and strengths -/
theorem wt_mar_at (hcn : cn ≤ 12) {go : Int32} {p : (Nat → Int32) × (Nat → Int32)} : ∀ (n : Nat), n ≤ 12 →
    (∀ j, (j < (t + 1) * 12 ∨ (t + 1) * 12 + n ≤ j) → (wt_fold (wt_mrs fs fo cn t go) n p).1 j = p.1 j ∧ (wt_fold (wt_mrs fs fo cn t go) n p).2 j = p.2 j) ∧
    ∀ u, u < n → (wt_fold (wt_mrs fs fo cn t go) n p).1 ((t + 1) * 12 + u) = wt_if (0 < p.2 (t * 12 + u)) (wt_if (wt_has go (nI u)) (wt_if (wt_met fs p.1 fo cn t u go) (p.1 (t * 12 + u)) (fo (t * 12 + u) - nI 1)) (p.1 (t * 12 + u))) (-1) ∧ (wt_fold (wt_mrs fs fo cn t go) n p).2 ((t + 1) * 12 + u) = wt_max (p.2 (t * 12 + u)) (nI 0) := by
  intro n
  induction n with
  | zero => intro _; exact ⟨fun _ _ => ⟨rfl, rfl⟩, fun u h => absurd h (Nat.not_lt_zero _)⟩
  | succ n ih =>
    intro hn
    obtain ⟨h1, h2⟩ := ih (by omega)
    rw [wt_fold_s]
    generalize wt_fold (wt_mrs fs fo cn t go) n p = X at h1 h2 ⊢
    have ea : X.1 (t * 12 + n) = p.1 (t * 12 + n) := (h1 _ (by omega)).1
    have eb : X.2 (t * 12 + n) = p.2 (t * 12 + n) := (h1 _ (by omega)).2
    have em : wt_met fs X.1 fo cn t n go = wt_met fs p.1 fo cn t n go := by
      unfold wt_met wt_met1
      refine propext ⟨fun ⟨q, a1, a2, a3, a4, a5⟩ => ⟨q, a1, a2, a3, ?_, ?_⟩, fun ⟨q, a1, a2, a3, a4, a5⟩ => ⟨q, a1, a2, a3, ?_, ?_⟩⟩
      · rw [← (h1 (t * 12 + q) (by omega)).1]; exact a4
      · rw [← ea]; exact a5
      · rw [(h1 (t * 12 + q) (by omega)).1]; exact a4
      · rw [ea]; exact a5
    have e : wt_mrs fs fo cn t go n X = wt_pl X (t + 1) n (wt_if (wt_has go (nI n)) (wt_if (wt_met fs p.1 fo cn t n go) (p.1 (t * 12 + n)) (fo (t * 12 + n) - nI 1)) (p.1 (t * 12 + n))) (p.2 (t * 12 + n)) := by
      unfold wt_mrs
      rw [ea, eb, em]
      by_cases c : wt_has go (nI n)
      · rw [wt_if_t c, wt_if_t c]
        by_cases d : wt_met fs p.1 fo cn t n go
        · rw [wt_if_t d, wt_if_t d]
        · rw [wt_if_f d, wt_if_f d]
      · rw [wt_if_f c, wt_if_f c]
    rw [e]
    unfold wt_pl wt_plT wt_plF
    refine ⟨fun j hj => ⟨?_, ?_⟩, fun u hu => ?_⟩
    · show upd X.1 _ _ j = _
      rw [wt_upd_n (by omega)]; exact (h1 j (by omega)).1
    · show upd X.2 _ _ j = _
      rw [wt_upd_n (by omega)]; exact (h1 j (by omega)).2
    · show upd X.1 _ _ _ = _ ∧ upd X.2 _ _ _ = _
      by_cases c : u = n
      · subst c
        rw [wt_upd_s, wt_upd_s]; exact ⟨rfl, rfl⟩
      · rw [wt_upd_n (by omega), wt_upd_n (by omega)]; exact h2 u (by omega)
end WTT
theorem wt_lose {q k : Nat} (hq : q ≤ 9) (hk : k ≤ 2) : wt_max (nI q - nI k) (nI 0) = nI (q - k) ∧ (0 < nI q - nI k ↔ k < q) ∧ (nI k < nI q ↔ k < q) := by
  have h : ∀ q, q < 10 → ∀ k, k < 3 → wt_max (nI q - nI k) (nI 0) = nI (q - k) ∧ (0 < nI q - nI k ↔ k < q) ∧ (nI k < nI q ↔ k < q) := by
    unfold wt_max
    decide +kernel
  exact h q (by omega) k (by omega)
/-- what a fight leaves of a unit: town and strength -/
noncomputable def wt_aft (x : Int32) (L : Int32) (p f : Int32) : Int32 × Int32 := wt_if (p = x) (wt_if (0 < f - L) x (-1), wt_max (f - L) (nI 0)) (p, f)
section WTF
variable {fs : Nat → Int32} {cn k x : Nat} {sp : Int32}
theorem wt_fts_at (hcn : cn ≤ 12) {a b : Int32} {p : (Nat → Int32) × (Nat → Int32)} : ∀ (n : Nat), n ≤ 12 →
    (∀ j, (j < k * 12 ∨ k * 12 + n ≤ j) → (wt_fold (wt_fts fs k x a b) n p).1 j = p.1 j ∧ (wt_fold (wt_fts fs k x a b) n p).2 j = p.2 j) ∧
    ∀ u, u < n → ((wt_fold (wt_fts fs k x a b) n p).1 (k * 12 + u), (wt_fold (wt_fts fs k x a b) n p).2 (k * 12 + u)) = wt_aft (nI x) (wt_if (fs u = 0) (wt_loss a b) (wt_loss b a)) (p.1 (k * 12 + u)) (p.2 (k * 12 + u)) := by
  intro n
  induction n with
  | zero => intro _; exact ⟨fun _ _ => ⟨rfl, rfl⟩, fun u h => absurd h (Nat.not_lt_zero _)⟩
  | succ n ih =>
    intro hn
    obtain ⟨h1, h2⟩ := ih (by omega)
    rw [wt_fold_s]
    generalize wt_fold (wt_fts fs k x a b) n p = X at h1 h2 ⊢
    have ea : X.1 (k * 12 + n) = p.1 (k * 12 + n) := (h1 _ (by omega)).1
    have eb : X.2 (k * 12 + n) = p.2 (k * 12 + n) := (h1 _ (by omega)).2
    unfold wt_fts
    by_cases c : X.1 (k * 12 + n) = nI x
    · rw [wt_if_t c]
      have e : wt_if (fs n = 0) (wt_pl X k n (nI x) (X.2 (k * 12 + n) - wt_loss a b)) (wt_pl X k n (nI x) (X.2 (k * 12 + n) - wt_loss b a)) = wt_pl X k n (nI x) (p.2 (k * 12 + n) - wt_if (fs n = 0) (wt_loss a b) (wt_loss b a)) := by
        by_cases d : fs n = 0
        · rw [wt_if_t d, wt_if_t d, eb]
        · rw [wt_if_f d, wt_if_f d, eb]
      rw [e]
      unfold wt_pl wt_plT wt_plF
      refine ⟨fun j hj => ⟨?_, ?_⟩, fun u hu => ?_⟩
      · show upd X.1 _ _ j = _
        rw [wt_upd_n (by omega)]; exact (h1 j (by omega)).1
      · show upd X.2 _ _ j = _
        rw [wt_upd_n (by omega)]; exact (h1 j (by omega)).2
      · show (upd X.1 _ _ _, upd X.2 _ _ _) = _
        by_cases q : u = n
        · subst q
          rw [wt_upd_s, wt_upd_s]
          unfold wt_aft
          rw [← ea, wt_if_t c]
        · rw [wt_upd_n (by omega), wt_upd_n (by omega)]; exact h2 u (by omega)
    · rw [wt_if_f c]
      refine ⟨fun j hj => h1 j (by omega), fun u hu => ?_⟩
      by_cases q : u = n
      · subst q
        unfold wt_aft
        rw [ea, eb, wt_if_f (by rw [← ea]; exact c)]
      · exact h2 u (by omega)
theorem wt_fgt_at (hcn : cn ≤ 12) {p : (Nat → Int32) × (Nat → Int32)} : (∀ j, (j < k * 12 ∨ k * 12 + cn ≤ j) → (wt_fgt fs cn k x sp p).1 j = p.1 j ∧ (wt_fgt fs cn k x sp p).2 j = p.2 j) ∧
    ∀ u, u < cn → ((wt_fgt fs cn k x sp p).1 (k * 12 + u), (wt_fgt fs cn k x sp p).2 (k * 12 + u)) = wt_aft (nI x) (wt_if (fs u = 0) (wt_loss (wt_sum fs p.1 p.2 cn k x 0 sp) (wt_sum fs p.1 p.2 cn k x 1 sp)) (wt_loss (wt_sum fs p.1 p.2 cn k x 1 sp) (wt_sum fs p.1 p.2 cn k x 0 sp))) (p.1 (k * 12 + u)) (p.2 (k * 12 + u)) := wt_fts_at hcn cn hcn
end WTF
theorem wt_loss_v (x y : Int32) : ∃ q : Nat, q ≤ 2 ∧ wt_loss x y = nI q := by
  unfold wt_loss
  by_cases c : x < y
  · exact ⟨2, by omega, wt_if_t c⟩
  · rw [wt_if_f c]
    by_cases d : x = y
    · exact ⟨1, by omega, wt_if_t d⟩
    · rw [wt_if_f d]
      by_cases e : x < nI 2 * y
      · exact ⟨1, by omega, wt_if_t e⟩
      · exact ⟨0, by omega, wt_if_f e⟩
/-- town and strength, before and behind a fight or none: no more than 2 is lost, the town stays or is left -/
def wt_fl (P F P1 F1 : Int32) : Prop := ∃ q q1 : Nat, q ≤ 9 ∧ F = nI q ∧ F1 = nI q1 ∧ q1 ≤ q ∧ q ≤ q1 + 2 ∧ (P1 = -1 ↔ q1 = 0) ∧ (P1 = -1 ∨ P1 = P)
theorem wt_fl_same {P F : Int32} (h : wt_gd P F) : wt_fl P F P F := by
  obtain ⟨hok, q, hq, h1, h2⟩ := h
  exact ⟨q, q, hq, h1, h1, Nat.le_refl _, by omega, h2, Or.inr rfl⟩
/-- one unit in one town's fight -/
theorem wt_fl_aft {P F L : Int32} {x : Nat} (hx : x < 10) (hg : wt_gd P F) (hL : ∃ q : Nat, q ≤ 2 ∧ L = nI q) : wt_fl P F (wt_aft (nI x) L P F).1 (wt_aft (nI x) L P F).2 ∧ (¬ P = nI x → wt_aft (nI x) L P F = (P, F)) := by
  obtain ⟨hok, q, hq, rfl, hiff⟩ := id hg
  obtain ⟨r, hr, rfl⟩ := hL
  obtain ⟨l1, l2, -⟩ := wt_lose hq hr
  unfold wt_aft
  by_cases c : P = nI x
  · rw [wt_if_t c, l1]
    refine ⟨?_, fun z => absurd c z⟩
    by_cases d : r < q
    · rw [wt_if_t (l2.mpr d)]
      exact ⟨q, q - r, hq, rfl, rfl, by omega, by omega, ⟨fun z => absurd z (wt_ne_m1 (by omega)), fun z => by omega⟩, Or.inr c.symm⟩
    · rw [wt_if_f (fun z => d (l2.mp z))]
      exact ⟨q, q - r, hq, rfl, rfl, by omega, by omega, ⟨fun _ => by omega, fun _ => rfl⟩, Or.inl rfl⟩
  · rw [wt_if_f c]
    exact ⟨wt_fl_same hg, fun _ => rfl⟩
theorem wt_fl_gd {P F P1 F1 : Int32} (h : wt_fl P F P1 F1) (hok : wt_ok P) : wt_gd P1 F1 := by
  obtain ⟨q, q1, h1, h2, h3, h4, h5, h6, h7⟩ := h
  refine ⟨?_, q1, by omega, h3, h6⟩
  rcases h7 with h7 | h7
  · exact Or.inl h7
  · rw [h7]; exact hok
