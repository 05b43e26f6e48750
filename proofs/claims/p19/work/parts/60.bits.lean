/-! Sets as numbers, bit by bit; folds; from my rows of whole (60) -/
theorem wt_sh : ∀ l, l < 32 → (nI 1 <<< (nI l &&& 31)).toBitVec = BitVec.twoPow 32 l := by decide +kernel
theorem wt_tp : ∀ l, l < 32 → BitVec.twoPow 32 l ≠ 0#32 := by decide +kernel
theorem wt_on : ∀ l, l < 32 → (-1 : Int32).toBitVec.getLsbD l = true := by decide +kernel
theorem wt_hb (s : Int32) {j : Nat} (hj : j < 32) : wt_has s (nI j) ↔ s.toBitVec.getLsbD j = true := by
  have e : (s &&& wt_bit (nI j)) = 0 ↔ s.toBitVec.getLsbD j = false := by
    unfold wt_bit
    rw [← Int32.toBitVec_inj, Int32.toBitVec_and, wt_sh j hj, BitVec.and_twoPow]
    cases hb : s.toBitVec.getLsbD j
    · exact ⟨fun _ => rfl, fun _ => rfl⟩
    · exact ⟨fun z => absurd ((if_pos rfl).symm.trans z) (wt_tp j hj), fun z => absurd z (by decide)⟩
  unfold wt_has
  rw [e]
  constructor
  · intro h
    cases hb : s.toBitVec.getLsbD j
    · exact absurd hb h.2.2
    · rfl
  · intro h
    exact ⟨nI_pos (by omega), nI_lt hj (by decide), fun z => by rw [h] at z; cases z⟩
theorem wt_ho {x y : Int32} {j : Nat} (hj : j < 32) : wt_has (x ||| y) (nI j) ↔ wt_has x (nI j) ∨ wt_has y (nI j) := by
  rw [wt_hb _ hj, wt_hb _ hj, wt_hb _ hj, Int32.toBitVec_or, BitVec.getLsbD_or, Bool.or_eq_true]
theorem wt_ha {x y : Int32} {j : Nat} (hj : j < 32) : wt_has (x &&& y) (nI j) ↔ wt_has x (nI j) ∧ wt_has y (nI j) := by
  rw [wt_hb _ hj, wt_hb _ hj, wt_hb _ hj, Int32.toBitVec_and, BitVec.getLsbD_and, Bool.and_eq_true]
theorem wt_hx {x : Int32} {j : Nat} (hj : j < 32) : wt_has (x ^^^ (-1)) (nI j) ↔ ¬ wt_has x (nI j) := by
  rw [wt_hb _ hj, wt_hb _ hj, Int32.toBitVec_xor, BitVec.getLsbD_xor, wt_on j hj]
  cases x.toBitVec.getLsbD j <;> simp
theorem wt_hz {j : Nat} (hj : j < 32) : ¬ wt_has (nI 0) (nI j) := by
  rw [wt_hb _ hj]
  have : ∀ l, l < 32 → ¬ (nI 0).toBitVec.getLsbD l = true := by decide +kernel
  exact this j hj
theorem wt_h1 {i j : Nat} (hi : i < 32) (hj : j < 32) : wt_has (wt_bit (nI i)) (nI j) ↔ i = j := by
  rw [wt_hb _ hj]
  unfold wt_bit
  rw [wt_sh i hi, BitVec.getLsbD_twoPow]
  simp [hi]
theorem wt_hm {s : Int32} : ¬ wt_has s (-1) := fun h => h.1 (by decide)
/-- a set that is gathered by the numbers of its members -/
theorem wt_for {C : Nat → Prop} {F : Nat → Int32 → Int32} (hF : ∀ u a, F u a = wt_if (C u) (a ||| wt_bit (nI u)) a) {n : Nat} (hn : n ≤ 32) {j : Nat} (hj : j < 32) : wt_has (wt_fold F n (nI 0)) (nI j) ↔ j < n ∧ C j := by
  induction n with
  | zero => exact ⟨fun h => absurd h (wt_hz hj), fun h => absurd h.1 (Nat.not_lt_zero _)⟩
  | succ n ih =>
    have ih := ih (by omega)
    rw [wt_fold_s, hF]
    by_cases c : C n
    · rw [wt_if_t c, wt_ho hj, ih, wt_h1 (by omega) hj]
      constructor
      · intro h
        rcases h with h | h
        · exact ⟨by omega, h.2⟩
        · subst h; exact ⟨by omega, c⟩
      · intro h
        by_cases q : n = j
        · exact Or.inr q
        · exact Or.inl ⟨by omega, h.2⟩
    · rw [wt_if_f c, ih]
      constructor
      · intro h; exact ⟨by omega, h.2⟩
      · intro h
        by_cases q : j = n
        · subst q; exact absurd h.2 c
        · exact ⟨by omega, h.2⟩
theorem wt_sus_iff {x y : Int32} {fs ft : Nat → Int32} {k n : Nat} (hn : n ≤ 32) {j : Nat} (hj : j < n) : wt_has (wt_fold (wt_sus x y fs ft k) n (nI 0)) (nI j) ↔ (fs j = 0 ∧ wt_has x (ft (k * 12 + j))) ∨ (¬ fs j = 0 ∧ wt_has y (ft (k * 12 + j))) := by
  rw [wt_for (C := fun u => (fs u = 0 ∧ wt_has x (ft (k * 12 + u))) ∨ (¬ fs u = 0 ∧ wt_has y (ft (k * 12 + u)))) ?_ hn (by omega)]
  · exact ⟨fun h => h.2, fun h => ⟨hj, h⟩⟩
  · intro u a
    unfold wt_sus
    by_cases c : fs u = 0
    · rw [wt_if_t c]
      by_cases d : wt_has x (ft (k * 12 + u))
      · rw [wt_if_t d, wt_if_t (Or.inl ⟨c, d⟩)]
      · rw [wt_if_f d, wt_if_f (fun z => z.elim (fun z => d z.2) (fun z => z.1 c))]
    · rw [wt_if_f c]
      by_cases d : wt_has y (ft (k * 12 + u))
      · rw [wt_if_t d, wt_if_t (Or.inr ⟨c, d⟩)]
      · rw [wt_if_f d, wt_if_f (fun z => z.elim (fun z => c z.1) (fun z => d z.2))]
theorem wt_ok_cases {x : Int32} (h : wt_ok x) : x = -1 ∨ ∃ t : Nat, t < 10 ∧ x = nI t := h.imp id (fun z => vp_in_of z (by decide))
theorem wt_ne_m1 {t : Nat} (h : t < 2 ^ 31) : ¬ nI t = -1 := by
  intro z
  have a := nI_toInt h
  rw [z, show (-1 : Int32).toInt = -1 by decide] at a
  omega
theorem wt_held_iff {fs ft : Nat → Int32} {k sd n : Nat} (hok : ∀ u, u < n → wt_ok (ft (k * 12 + u))) {j : Nat} (hj : j < 32) : wt_has (wt_held fs ft k sd n) (nI j) ↔ ∃ u : Nat, u < n ∧ fs u = nI sd ∧ ft (k * 12 + u) = nI j := by
  unfold wt_held
  induction n with
  | zero => exact ⟨fun h => absurd h (wt_hz hj), fun ⟨u, h, _⟩ => absurd h (Nat.not_lt_zero _)⟩
  | succ n ih =>
    have ih := ih (fun u hu => hok u (by omega))
    rw [wt_fold_s]
    have key : wt_has (wt_hs fs ft k sd n (wt_fold (wt_hs fs ft k sd) n (nI 0))) (nI j) ↔ wt_has (wt_fold (wt_hs fs ft k sd) n (nI 0)) (nI j) ∨ (fs n = nI sd ∧ ft (k * 12 + n) = nI j) := by
      unfold wt_hs
      by_cases c : fs n = nI sd
      · rw [wt_if_t c]
        rcases wt_ok_cases (hok n (by omega)) with d | ⟨t, ht, d⟩
        · rw [wt_if_t d]
          exact ⟨Or.inl, fun z => z.elim id (fun z => absurd (z.2.symm.trans d) (wt_ne_m1 (by omega)))⟩
        · rw [wt_if_f (by rw [d]; exact wt_ne_m1 (by omega)), wt_ho hj, d, wt_h1 (by omega) hj]
          exact ⟨fun z => z.imp id (fun z => ⟨c, by rw [z]⟩), fun z => z.imp id (fun z => (nI_eq (by omega) (by omega)).mp z.2)⟩
      · rw [wt_if_f c]
        exact ⟨Or.inl, fun z => z.elim id (fun z => absurd z.1 c)⟩
    rw [key, ih]
    constructor
    · intro h
      rcases h with ⟨u, h1, h2⟩ | h
      · exact ⟨u, by omega, h2⟩
      · exact ⟨n, by omega, h⟩
    · intro ⟨u, h1, h2⟩
      by_cases q : u = n
      · subst q; exact Or.inr h2
      · exact Or.inl ⟨u, by omega, h2⟩
theorem wt_wid_iff {fp fu : Nat → Int32} {x w : Int32} {j : Nat} (hj : j < 32) : wt_has (wt_wid fp fu x w) (nI j) ↔ wt_has x (nI j) ∨ ∃ t : Nat, t < 10 ∧ wt_has x (nI t) ∧ wt_has (wt_nxt fp fu (nI t) w) (nI j) := by
  have key : ∀ n, wt_has (wt_fold (wt_wds fp fu x w) n x) (nI j) ↔ wt_has x (nI j) ∨ ∃ t : Nat, t < n ∧ wt_has x (nI t) ∧ wt_has (wt_nxt fp fu (nI t) w) (nI j) := by
    intro n
    induction n with
    | zero => exact ⟨Or.inl, fun h => h.elim id (fun ⟨t, h, _⟩ => absurd h (Nat.not_lt_zero _))⟩
    | succ n ih =>
      rw [wt_fold_s]
      unfold wt_wds
      by_cases c : wt_has x (nI n)
      · rw [wt_if_t c, wt_ho hj]
        show wt_has (wt_fold (wt_wds fp fu x w) n x) (nI j) ∨ _ ↔ _
        rw [ih]
        constructor
        · intro h
          rcases h with (h | ⟨t, h1, h2⟩) | h
          · exact Or.inl h
          · exact Or.inr ⟨t, by omega, h2⟩
          · exact Or.inr ⟨n, by omega, c, h⟩
        · intro h
          rcases h with h | ⟨t, h1, h2⟩
          · exact Or.inl (Or.inl h)
          · by_cases q : t = n
            · subst q; exact Or.inr h2.2
            · exact Or.inl (Or.inr ⟨t, by omega, h2⟩)
      · rw [wt_if_f c]
        show wt_has (wt_fold (wt_wds fp fu x w) n x) (nI j) ↔ _
        rw [ih]
        constructor
        · intro h; exact h.imp id (fun ⟨t, h1, h2⟩ => ⟨t, by omega, h2⟩)
        · intro h
          refine h.imp id (fun ⟨t, h1, h2⟩ => ⟨t, ?_, h2⟩)
          by_cases q : t = n
          · subst q; exact absurd h2.1 c
          · omega
  exact key 10
theorem wt_w3 {w : Int32} (h : vp_in w 3) : w = nI 0 ∨ w = nI 1 ∨ w = nI 2 := by
  obtain ⟨j, hj, rfl⟩ := vp_in_of h (by decide)
  have : j = 0 ∨ j = 1 ∨ j = 2 := by omega
  rcases this with rfl | rfl | rfl
  · exact Or.inl rfl
  · exact Or.inr (Or.inl rfl)
  · exact Or.inr (Or.inr rfl)
