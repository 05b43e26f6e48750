/-! What a unit's supply answers -/
theorem wt_least_c {P : Nat → Prop} : ∀ n : Nat, (wt_least P n = -1 ∧ ∀ q, q < n → ¬ P q) ∨ ∃ i, i < n ∧ P i ∧ (∀ q, q < i → ¬ P q) ∧ wt_least P n = nI i
  | 0 => Or.inl ⟨rfl, fun _ h => absurd h (Nat.not_lt_zero _)⟩
  | n + 1 => by
    rcases wt_least_c (P := P) n with ⟨-, h⟩ | ⟨i, h1, h2, h3, -⟩
    · by_cases c : P n
      · exact Or.inr ⟨n, by omega, c, h, wt_least_eq h c (by omega)⟩
      · have h' : ∀ q, q < n + 1 → ¬ P q := wt_all_s h c
        exact Or.inl ⟨wt_least_none h', h'⟩
    · exact Or.inr ⟨i, by omega, h2, h3, wt_least_eq h3 h2 (by omega)⟩
theorem wt_m1_lt {x : Int32} (h : wt_ok x) : x < 0 ↔ x = -1 := by
  rcases wt_ok_cases h with rfl | ⟨t, ht, rfl⟩
  · exact ⟨fun _ => rfl, fun _ => by decide⟩
  · exact ⟨fun z => absurd z (nI_pos (by omega)), fun z => absurd z (wt_ne_m1 (by omega))⟩
theorem wt_nxt_snow {fp fu : Nat → Int32} {x : Int32} : wt_nxt fp fu x (nI 2) = nI 0 := by
  unfold wt_nxt
  by_cases c : vp_in x 10
  · rw [wt_if_t c, wt_if_t rfl]
  · rw [wt_if_f c]
section WTS
variable {fd fp fu fs ft : Nat → Int32} {cn k sd D : Nat} {w : Int32}
theorem wt_sup_safe {r j : Nat} (hj : j < 32) (h : wt_has (wt_sup fd fp fu fs ft cn k sd w r) (nI j)) : ¬ wt_has (wt_held fs ft k (1 - sd) cn) (nI j) := by
  unfold wt_sup at h
  cases r with
  | zero => rw [wt_fold_0, wt_ha hj, wt_hx hj] at h; exact h.2
  | succ r => rw [wt_fold_s, wt_ha hj, wt_hx hj] at h; exact h.2
theorem wt_sup_0 {j : Nat} (hj : j < 32) (hD : D < 32) (hd : fd sd = nI D) : wt_has (wt_sup fd fp fu fs ft cn k sd w 0) (nI j) ↔ D = j ∧ ¬ wt_has (wt_held fs ft k (1 - sd) cn) (nI j) := by
  unfold wt_sup
  rw [wt_fold_0, wt_ha hj, wt_hx hj, hd, wt_h1 hD hj]
theorem wt_sup_snow : ∀ {r j : Nat}, j < 32 → wt_has (wt_sup fd fp fu fs ft cn k sd (nI 2) r) (nI j) → wt_has (wt_sup fd fp fu fs ft cn k sd (nI 2) 0) (nI j)
  | 0, _, _, h => h
  | r + 1, j, hj, h => by
    have e : wt_sup fd fp fu fs ft cn k sd (nI 2) (r + 1) = wt_wid fp fu (wt_sup fd fp fu fs ft cn k sd (nI 2) r) (nI 2) &&& (wt_held fs ft k (1 - sd) cn ^^^ (-1)) := rfl
    rw [e, wt_ha hj, wt_wid_iff hj] at h
    rcases h.1 with h1 | ⟨t, -, -, h1⟩
    · exact wt_sup_snow hj h1
    · rw [wt_nxt_snow] at h1
      exact absurd h1 (wt_hz hj)
/-- the supply of the unit u, of the side sd, whose depot is D: all that is asked of it -/
theorem wt_spok (hok : ∀ u, u < cn → wt_ok (ft (k * 12 + u))) (hs : ∀ u, u < cn → fs u = nI 0 ∨ fs u = nI 1) (hcn : cn ≤ 12) (hD : D < 10) (hd : fd sd = nI D) (hsd : sd < 2) {u : Nat} (hu : u < cn) (hfs : fs u = nI sd) {M : Prop} (hM : M ↔ ∃ e : Nat, e < cn ∧ (¬ fs e = fs u ∧ ¬ ft (k * 12 + u) < 0 ∧ ft (k * 12 + e) = ft (k * 12 + u))) {Z : Int32} (hZ : wt_least (fun q => wt_has (wt_sup fd fp fu fs ft cn k sd w q) (ft (k * 12 + u))) 5 = Z) :
    (¬ Z < -1 ∧ ¬ nI 4 < Z) ∧ (ft (k * 12 + u) < 0 → Z = -1) ∧ (M → Z = -1) ∧ (Z = 0 → ft (k * 12 + u) = nI D) ∧ (ft (k * 12 + u) = nI D → ¬ M → Z = 0) ∧ (w = nI 2 → ¬ 0 < Z) ∧ (wt_has (wt_sun fd fp fu fs ft cn k w) (nI u) → ¬ Z < 0) := by
  have hheld : ∀ y, y < 32 → (wt_has (wt_held fs ft k (1 - sd) cn) (nI y) ↔ ∃ e : Nat, e < cn ∧ fs e = nI (1 - sd) ∧ ft (k * 12 + e) = nI y) := fun y hy => wt_held_iff hok hy
  have hen : ∀ e, e < cn → (¬ fs e = fs u ↔ fs e = nI (1 - sd)) := by
    intro e he
    rw [hfs]
    have : sd = 0 ∨ sd = 1 := by omega
    rcases this with rfl | rfl
    · rcases hs e he with z | z
      · rw [z]; exact ⟨fun h => absurd rfl h, fun h => absurd h (by decide)⟩
      · rw [z]; exact ⟨fun _ => rfl, fun _ => by decide⟩
    · rcases hs e he with z | z
      · rw [z]; exact ⟨fun _ => rfl, fun _ => by decide⟩
      · rw [z]; exact ⟨fun h => absurd rfl h, fun h => absurd h (by decide)⟩
  have hsun : wt_has (wt_sun fd fp fu fs ft cn k w) (nI u) → wt_has (wt_sup fd fp fu fs ft cn k sd w 4) (ft (k * 12 + u)) := by
    unfold wt_sun
    rw [wt_sus_iff (by omega) hu, hfs]
    have : sd = 0 ∨ sd = 1 := by omega
    rcases this with rfl | rfl
    · exact fun z => z.elim (fun z => z.2) (fun z => absurd nI_0 z.1)
    · exact fun z => z.elim (fun z => absurd z.1 (by decide)) (fun z => z.2)
  rcases wt_ok_cases (hok u hu) with hT | ⟨t, ht, hT⟩
  · -- lost
    have e : Z = -1 := by
      rw [← hZ]
      refine wt_least_none (fun q _ z => ?_)
      rw [hT] at z
      exact wt_hm z
    have hneg : ft (k * 12 + u) < 0 := by rw [hT]; decide
    refine ⟨by rw [e]; exact ⟨by decide, by decide⟩, fun _ => e, fun _ => e, fun z => ?_, fun z => ?_, fun _ => by rw [e]; decide, fun z => ?_⟩
    · rw [e] at z; exact absurd z (by decide)
    · exact absurd (hT.symm.trans z).symm (wt_ne_m1 (by omega))
    · have := hsun z
      rw [hT] at this
      exact absurd this wt_hm
  · have hpos : ¬ ft (k * 12 + u) < 0 := by rw [hT]; exact nI_pos (by omega)
    have hMh : M ↔ wt_has (wt_held fs ft k (1 - sd) cn) (nI t) := by
      rw [hM, hheld t (by omega)]
      refine ⟨fun ⟨e, a1, a2, _, a4⟩ => ⟨e, a1, (hen e a1).mp a2, a4.trans hT⟩, fun ⟨e, a1, a2, a3⟩ => ⟨e, a1, (hen e a1).mpr a2, hpos, a3.trans hT.symm⟩⟩
    rw [hT] at hZ hsun ⊢
    rcases wt_least_c (P := fun q => wt_has (wt_sup fd fp fu fs ft cn k sd w q) (nI t)) 5 with ⟨e, hn⟩ | ⟨i, hi, hp, hn, e⟩
    · rw [hZ] at e
      refine ⟨by rw [e]; exact ⟨by decide, by decide⟩, fun _ => e, fun _ => e, fun z => ?_, fun z hm => ?_, fun _ => by rw [e]; decide, fun z => absurd (hsun z) (hn 4 (by omega))⟩
      · rw [e] at z; exact absurd z (by decide)
      · exact absurd ((wt_sup_0 (by omega) (by omega) hd).mpr ⟨((nI_eq (by omega) (by omega)).mp z).symm, fun y => hm (hMh.mpr y)⟩) (hn 0 (by omega))
    · rw [hZ] at e
      have hnm : ¬ M := fun z => wt_sup_safe (by omega) hp (hMh.mp z)
      refine ⟨?_, fun z => absurd z (nI_pos (by omega)), fun z => absurd z hnm, fun z => ?_, fun z _ => ?_, fun z => ?_, fun _ => by rw [e]; exact nI_pos (by omega)⟩
      · rw [e]
        refine ⟨fun z => ?_, nI_nlt (by omega) (by omega)⟩
        have : nI i < 0 := by
          rw [Int32.lt_iff_toInt_lt] at z ⊢
          rw [show (-1 : Int32).toInt = -1 by decide] at z
          rw [show (0 : Int32).toInt = 0 by decide]
          omega
        exact absurd this (nI_pos (by omega))
      · rw [e, ← nI_0] at z
        have : i = 0 := (nI_eq (by omega) (by omega)).mp z
        subst this
        rw [((wt_sup_0 (by omega) (by omega) hd).mp hp).1]
      · have h0 := (wt_sup_0 (fp := fp) (fu := fu) (fs := fs) (ft := ft) (cn := cn) (k := k) (w := w) (by omega) (by omega) hd).mpr ⟨((nI_eq (by omega) (by omega)).mp z).symm, fun y => hnm (hMh.mpr y)⟩
        have : i = 0 := Nat.eq_zero_of_not_pos fun q => hn 0 q h0
        rw [e, this]; exact nI_0
      · subst z
        have h0 := wt_sup_snow (by omega) hp
        have : i = 0 := Nat.eq_zero_of_not_pos fun q => hn 0 q h0
        rw [e, this]; decide
end WTS
