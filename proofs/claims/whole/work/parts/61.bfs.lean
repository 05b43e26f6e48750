/-! The reference's search from the unit's town: after s steps a town holds the least number of roads, up to s -/
theorem wt_fq_at {pa si pl : Nat → Int32} {mn : Nat} {w en : Int32} {s r : Nat} (hs : s < 100) {f : Nat → Int32} : ∀ (n : Nat) {q : Nat}, wt_fold (wt_fq pa si pl mn w en s r) n f q = wt_if (q < n ∧ f r = nI s ∧ f q = -1 ∧ wt_opn pa r q w ∧ ¬ wt_hld si pl mn (nI q) en) (nI (s + 1)) (f q) := by
  intro n
  induction n with
  | zero =>
    intro q
    rw [wt_fold_0, wt_if_f (fun z => absurd z.1 (Nat.not_lt_zero _))]
  | succ n ih =>
    intro q
    rw [wt_fold_s]
    have hr : wt_fold (wt_fq pa si pl mn w en s r) n f r = f r := by
      rw [ih]
      refine wt_if_f (fun z => ?_)
      exact wt_ne_m1 (t := s) (by omega) (z.2.1.symm.trans z.2.2.1)
    have hn : wt_fold (wt_fq pa si pl mn w en s r) n f n = f n := by
      rw [ih]
      exact wt_if_f (fun z => absurd z.1 (Nat.lt_irrefl _))
    have old : q ≠ n → wt_fold (wt_fq pa si pl mn w en s r) n f q = wt_if (q < n + 1 ∧ f r = nI s ∧ f q = -1 ∧ wt_opn pa r q w ∧ ¬ wt_hld si pl mn (nI q) en) (nI (s + 1)) (f q) := by
      intro h
      rw [ih]
      by_cases c : q < n ∧ f r = nI s ∧ f q = -1 ∧ wt_opn pa r q w ∧ ¬ wt_hld si pl mn (nI q) en
      · rw [wt_if_t c, wt_if_t ⟨by omega, c.2⟩]
      · rw [wt_if_f c, wt_if_f (fun z => c ⟨by omega, z.2⟩)]
    generalize hg : wt_fold (wt_fq pa si pl mn w en s r) n f = g at hr hn old ⊢
    unfold wt_fq
    rw [hr, hn]
    have same : ∀ (h : ¬ (f r = nI s ∧ f n = -1 ∧ wt_opn pa r n w ∧ ¬ wt_hld si pl mn (nI n) en)), g q = wt_if (q < n + 1 ∧ f r = nI s ∧ f q = -1 ∧ wt_opn pa r q w ∧ ¬ wt_hld si pl mn (nI q) en) (nI (s + 1)) (f q) := by
      intro h
      by_cases c : q = n
      · subst c
        rw [hn, wt_if_f (fun z => h z.2)]
      · exact old c
    by_cases c1 : f r = nI s
    · rw [wt_if_t c1]
      by_cases c2 : f n = -1
      · rw [wt_if_t c2]
        by_cases c3 : wt_opn pa r n w
        · rw [wt_if_t c3]
          by_cases c4 : wt_hld si pl mn (nI n) en
          · rw [wt_if_t c4]; exact same (fun z => z.2.2.2 c4)
          · rw [wt_if_f c4]
            by_cases c : q = n
            · subst c
              rw [wt_upd_s, wt_if_t ⟨by omega, c1, c2, c3, c4⟩]
            · rw [wt_upd_n c]; exact old c
        · rw [wt_if_f c3]; exact same (fun z => c3 z.2.2.1)
      · rw [wt_if_f c2]; exact same (fun z => c2 z.2.1)
    · rw [wt_if_f c1]; exact same (fun z => c1 z.1)
theorem wt_fr_at {pa si pl : Nat → Int32} {mn : Nat} {w en : Int32} {s : Nat} (hs : s < 100) {f : Nat → Int32} : ∀ (n : Nat) {q : Nat}, q < 10 → wt_fold (wt_fr pa si pl mn w en s) n f q = wt_if (f q = -1 ∧ ∃ r : Nat, r < n ∧ f r = nI s ∧ wt_opn pa r q w ∧ ¬ wt_hld si pl mn (nI q) en) (nI (s + 1)) (f q) := by
  intro n
  induction n with
  | zero =>
    intro q _
    rw [wt_fold_0, wt_if_f (fun z => by obtain ⟨_, r, h, _⟩ := z; omega)]
  | succ n ih =>
    intro q hq
    rw [wt_fold_s]
    show wt_fold (wt_fq pa si pl mn w en s n) 10 (wt_fold (wt_fr pa si pl mn w en s) n f) q = _
    rw [wt_fq_at hs 10]
    -- what stands at n: s, or not, as at the start
    have hn : n < 10 → (wt_fold (wt_fr pa si pl mn w en s) n f n = nI s ↔ f n = nI s) := by
      intro h10
      rw [ih h10]
      by_cases c : f n = -1 ∧ ∃ r : Nat, r < n ∧ f r = nI s ∧ wt_opn pa r n w ∧ ¬ wt_hld si pl mn (nI n) en
      · rw [wt_if_t c]
        constructor
        · intro z
          have := (nI_eq (a := s + 1) (b := s) (by omega) (by omega)).mp z
          omega
        · intro z
          exact absurd (z.symm.trans c.1) (wt_ne_m1 (by omega))
      · rw [wt_if_f c]
    by_cases c : f q = -1 ∧ ∃ r : Nat, r < n ∧ f r = nI s ∧ wt_opn pa r q w ∧ ¬ wt_hld si pl mn (nI q) en
    · have e : wt_fold (wt_fr pa si pl mn w en s) n f q = nI (s + 1) := by rw [ih hq, wt_if_t c]
      rw [e, wt_if_f (fun z => wt_ne_m1 (t := s + 1) (by omega) z.2.2.1)]
      obtain ⟨c1, r, h1, h2⟩ := c
      rw [wt_if_t ⟨c1, r, by omega, h2⟩]
    · have e : wt_fold (wt_fr pa si pl mn w en s) n f q = f q := by rw [ih hq, wt_if_f c]
      rw [e]
      by_cases h10 : n < 10
      · by_cases d : f q = -1 ∧ f n = nI s ∧ wt_opn pa n q w ∧ ¬ wt_hld si pl mn (nI q) en
        · rw [wt_if_t ⟨hq, (hn h10).mpr d.2.1, d.1, d.2.2⟩, wt_if_t ⟨d.1, n, by omega, d.2⟩]
        · rw [wt_if_f (fun z => d ⟨z.2.2.1, (hn h10).mp z.2.1, z.2.2.2⟩), wt_if_f]
          intro ⟨z1, r, z2, z3⟩
          by_cases hr : r = n
          · subst hr; exact d ⟨z1, z3⟩
          · exact c ⟨z1, r, by omega, z3⟩
      · -- no town has that number: nothing is said of it
        by_cases d : f q = -1 ∧ (wt_fold (wt_fr pa si pl mn w en s) n f n = nI s) ∧ wt_opn pa n q w ∧ ¬ wt_hld si pl mn (nI q) en
        · rw [wt_if_t ⟨hq, d.2.1, d.1, d.2.2⟩]
          by_cases d2 : f n = nI s
          · rw [wt_if_t ⟨d.1, n, by omega, d2, d.2.2⟩]
          · exfalso
            have h0 : ∀ k, k ≤ n → wt_fold (wt_fr pa si pl mn w en s) k f n = f n := by
              intro k
              induction k with
              | zero => intro _; rfl
              | succ k ihk =>
                intro hk
                rw [wt_fold_s]
                show wt_fold (wt_fq pa si pl mn w en s k) 10 _ n = _
                rw [wt_fq_at hs 10, wt_if_f (fun z => by omega)]
                exact ihk (by omega)
            exact d2 ((h0 n (Nat.le_refl _)).symm.trans d.2.1)
        · rw [wt_if_f (fun z => d ⟨z.2.2.1, z.2.1, z.2.2.2⟩), wt_if_f]
          intro ⟨z1, r, z2, z3⟩
          by_cases hr : r = n
          · subst hr
            refine d ⟨z1, ?_, z3.2⟩
            have h0 : ∀ k, k ≤ r → wt_fold (wt_fr pa si pl mn w en s) k f r = f r := by
              intro k
              induction k with
              | zero => intro _; rfl
              | succ k ihk =>
                intro hk
                rw [wt_fold_s]
                show wt_fold (wt_fq pa si pl mn w en s k) 10 _ r = _
                rw [wt_fq_at hs 10, wt_if_f (fun z => by omega)]
                exact ihk (by omega)
            rw [h0 r (Nat.le_refl _)]
            exact z3.1
          · exact c ⟨z1, r, by omega, z3⟩
theorem wt_least_is {P : Nat → Prop} {s : Nat} : ∀ {n : Nat}, n < 2 ^ 31 → s < 2 ^ 31 → wt_least P n = nI s → s < n ∧ P s ∧ ∀ q, q < s → ¬ P q
  | 0, _, hs, h => absurd h.symm (wt_ne_m1 hs)
  | n + 1, hn, hs, h => by
    have h : wt_if (∃ q : Nat, q < n ∧ P q) (wt_least P n) (wt_if (P n) (nI n) (-1)) = nI s := h
    by_cases c : ∃ q : Nat, q < n ∧ P q
    · rw [wt_if_t c] at h
      obtain ⟨h1, h2⟩ := wt_least_is (by omega) hs h
      exact ⟨by omega, h2⟩
    · rw [wt_if_f c] at h
      by_cases d : P n
      · rw [wt_if_t d] at h
        have e := (nI_eq (by omega) hs).mp h
        subst e
        exact ⟨by omega, d, fun q hq z => c ⟨q, hq, z⟩⟩
      · rw [wt_if_f d] at h
        exact absurd h.symm (wt_ne_m1 hs)
theorem wt_least_m1 {P : Nat → Prop} {n : Nat} (hn : n < 2 ^ 31) (h : wt_least P n = -1) : ∀ q, q < n → ¬ P q := by
  intro q hq hP
  -- the least of them
  have ex : ∀ m : Nat, (∃ q, q < m ∧ P q) → ∃ q, q < m ∧ P q ∧ ∀ z, z < q → ¬ P z := by
    intro m
    induction m with
    | zero => intro ⟨q, h, _⟩; omega
    | succ m ih =>
      intro ⟨q, h1, h2⟩
      by_cases c : ∃ q, q < m ∧ P q
      · obtain ⟨z, a1, a2⟩ := ih c
        exact ⟨z, by omega, a2⟩
      · exact ⟨q, h1, h2, fun z hz hp => c ⟨z, by omega, hp⟩⟩
  obtain ⟨z, a1, a2, a3⟩ := ex n ⟨q, hq, hP⟩
  exact wt_ne_m1 (by omega) ((wt_least_eq a3 a2 a1).symm.trans h)
theorem wt_least_c {P Q : Nat → Prop} : ∀ {n : Nat}, (∀ q, q < n → (P q ↔ Q q)) → wt_least P n = wt_least Q n
  | 0, _ => rfl
  | n + 1, h => by
    show wt_if _ _ _ = wt_if _ _ _
    rw [wt_least_c (n := n) (fun q hq => h q (by omega)), propext (h n (by omega)), show (∃ q : Nat, q < n ∧ P q) = (∃ q : Nat, q < n ∧ Q q) from propext ⟨fun ⟨q, a, b⟩ => ⟨q, a, (h q (by omega)).mp b⟩, fun ⟨q, a, b⟩ => ⟨q, a, (h q (by omega)).mpr b⟩⟩]
theorem wt_bfs {pa si pl fa : Nat → Int32} {mn u A : Nat} {w : Int32} (hA : A < 10) (hpl : pl u = nI A) : ∀ (s : Nat), s < 10 → ∀ {b : Nat}, b < 10 →
    wt_fold (wt_fx pa si pl mn w (nI 1 - si u)) s (wt_fa0 si pl mn u (nI 1 - si u) fa) b = wt_least (fun q => wt_rc pa w (fun t => ¬ wt_hld si pl mn (nI t) (nI 1 - si u)) A q b) (s + 1) := by
  intro s
  induction s with
  | zero =>
    intro _ b hb
    rw [wt_fold_0]
    unfold wt_fa0
    rw [wt_fold_at (wt_fa1 si pl mn u (nI 1 - si u)) (fun k => wt_if (nI k = pl u) (wt_if (wt_hld si pl mn (nI k) (nI 1 - si u)) (-1) (nI 0)) (-1)) (fun _ _ => rfl), wt_if_t hb, hpl]
    by_cases c : b = A ∧ ¬ wt_hld si pl mn (nI b) (nI 1 - si u)
    · rw [wt_if_t (by rw [c.1]), wt_if_f c.2]
      exact (wt_least_eq (P := fun q => wt_rc pa w (fun t => ¬ wt_hld si pl mn (nI t) (nI 1 - si u)) A q b) (i := 0) (fun q hq => absurd hq (Nat.not_lt_zero _)) c (by omega)).symm
    · rw [wt_least_none (fun q hq => by rw [show q = 0 by omega]; exact c)]
      by_cases d : b = A
      · rw [wt_if_t (by rw [d]), wt_if_t (Classical.byContradiction fun z => c ⟨d, z⟩)]
      · rw [wt_if_f (fun z => d ((nI_eq (by omega) (by omega)).mp z))]
  | succ s ih =>
    intro hs b hb
    rw [wt_fold_s]
    show wt_fold (wt_fr pa si pl mn w (nI 1 - si u) s) 10 _ b = _
    rw [wt_fr_at (by omega) 10 hb, ih (by omega) hb]
    show _ = wt_if _ _ _
    by_cases c : ∃ q : Nat, q < s + 1 ∧ wt_rc pa w (fun t => ¬ wt_hld si pl mn (nI t) (nI 1 - si u)) A q b
    · rw [wt_if_t c, wt_if_f]
      intro z
      obtain ⟨q, h1, h2⟩ := c
      exact wt_least_m1 (by omega) z.1 q h1 h2
    · have none : ∀ q, q < s + 1 → ¬ wt_rc pa w (fun t => ¬ wt_hld si pl mn (nI t) (nI 1 - si u)) A q b := fun q h1 h2 => c ⟨q, h1, h2⟩
      rw [wt_if_f c, wt_least_none none]
      have key : (∃ r : Nat, r < 10 ∧ wt_fold (wt_fx pa si pl mn w (nI 1 - si u)) s (wt_fa0 si pl mn u (nI 1 - si u) fa) r = nI s ∧ wt_opn pa r b w ∧ ¬ wt_hld si pl mn (nI b) (nI 1 - si u)) ↔ wt_rc pa w (fun t => ¬ wt_hld si pl mn (nI t) (nI 1 - si u)) A (s + 1) b := by
        constructor
        · intro ⟨r, h1, h2, h3, h4⟩
          rw [ih (by omega) h1] at h2
          exact ⟨Or.inr ⟨r, h1, (wt_least_is (by omega) (by omega) h2).2.1, h3⟩, h4⟩
        · intro ⟨h1, h2⟩
          rcases h1 with h1 | ⟨r, h1, h3, h4⟩
          · exact absurd h1 (none s (by omega))
          · refine ⟨r, h1, ?_, h4, h2⟩
            rw [ih (by omega) h1]
            refine wt_least_eq (P := fun q => wt_rc pa w (fun t => ¬ wt_hld si pl mn (nI t) (nI 1 - si u)) A q r) (i := s) (fun q hq z => ?_) h3 (by omega)
            exact none (q + 1) (by omega) ⟨Or.inr ⟨r, h1, z, h4⟩, h2⟩
      by_cases d : wt_rc pa w (fun t => ¬ wt_hld si pl mn (nI t) (nI 1 - si u)) A (s + 1) b
      · rw [wt_if_t d, wt_if_t ⟨rfl, key.mpr d⟩]
      · rw [wt_if_f d, wt_if_f (fun z => d (key.mp z.2))]
/-- the reference's answer: the least number of roads, up to 4 -/
theorem wt_spo_at {pa de si pl fa : Nat → Int32} {mn u A D : Nat} {w : Int32} (hA : A < 10) (hpl : pl u = nI A) (hD : D < 10) (hde : de (si u).toNatClampNeg = nI D) : wt_spo pa de si pl mn w u fa = wt_least (fun q => wt_rc pa w (fun t => ¬ wt_hld si pl mn (nI t) (nI 1 - si u)) A q D) 5 := by
  unfold wt_spo wt_far
  rw [wt_if_f (by rw [hpl]; exact wt_ne_m1 (by omega)), hde, nI_clamp (by omega)]
  exact wt_bfs hA hpl 4 (by omega) hD
