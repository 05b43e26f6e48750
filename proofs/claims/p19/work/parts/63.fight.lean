/-! All fights of a turn, then the whole turn, unit by unit -/
section WTG
variable {fs : Nat → Int32} {cn k : Nat} {sp ct : Int32}
theorem wt_fes_at (hcn : cn ≤ 12) {p : (Nat → Int32) × (Nat → Int32)} (hg : ∀ u, u < cn → wt_gd (p.1 (k * 12 + u)) (p.2 (k * 12 + u))) : ∀ n : Nat, n ≤ 10 →
    (∀ j, (j < k * 12 ∨ k * 12 + cn ≤ j) → (wt_fold (wt_fes fs cn k sp ct) n p).1 j = p.1 j ∧ (wt_fold (wt_fes fs cn k sp ct) n p).2 j = p.2 j) ∧
    ∀ u, u < cn → wt_fl (p.1 (k * 12 + u)) (p.2 (k * 12 + u)) ((wt_fold (wt_fes fs cn k sp ct) n p).1 (k * 12 + u)) ((wt_fold (wt_fes fs cn k sp ct) n p).2 (k * 12 + u)) ∧
      ∀ y, n ≤ y → y < 10 → (wt_fold (wt_fes fs cn k sp ct) n p).1 (k * 12 + u) = nI y → (wt_fold (wt_fes fs cn k sp ct) n p).1 (k * 12 + u) = p.1 (k * 12 + u) ∧ (wt_fold (wt_fes fs cn k sp ct) n p).2 (k * 12 + u) = p.2 (k * 12 + u) := by
  intro n
  induction n with
  | zero => intro _; exact ⟨fun _ _ => ⟨rfl, rfl⟩, fun u hu => ⟨wt_fl_same (hg u hu), fun _ _ _ _ => ⟨rfl, rfl⟩⟩⟩
  | succ n ih =>
    intro hn
    obtain ⟨h1, h2⟩ := ih (by omega)
    rw [wt_fold_s]
    generalize wt_fold (wt_fes fs cn k sp ct) n p = X at h1 h2 ⊢
    unfold wt_fes
    by_cases c : wt_has ct (nI n)
    · rw [wt_if_t c]
      obtain ⟨f1, f2⟩ := wt_fgt_at (fs := fs) (k := k) (x := n) (sp := sp) (p := X) hcn
      refine ⟨fun j hj => ⟨(f1 j hj).1.trans (h1 j hj).1, (f1 j hj).2.trans (h1 j hj).2⟩, fun u hu => ?_⟩
      have e := f2 u hu
      generalize hL : wt_if (fs u = 0) (wt_loss (wt_sum fs X.1 X.2 cn k n 0 sp) (wt_sum fs X.1 X.2 cn k n 1 sp)) (wt_loss (wt_sum fs X.1 X.2 cn k n 1 sp) (wt_sum fs X.1 X.2 cn k n 0 sp)) = L at e
      have hv : ∃ q : Nat, q ≤ 2 ∧ L = nI q := by
        rw [← hL]
        by_cases d : fs u = 0
        · rw [wt_if_t d]; exact wt_loss_v _ _
        · rw [wt_if_f d]; exact wt_loss_v _ _
      obtain ⟨i1, i2⟩ := h2 u hu
      have ea : (wt_fgt fs cn k n sp X).1 (k * 12 + u) = (wt_aft (nI n) L (X.1 (k * 12 + u)) (X.2 (k * 12 + u))).1 := congrArg Prod.fst e
      have eb : (wt_fgt fs cn k n sp X).2 (k * 12 + u) = (wt_aft (nI n) L (X.1 (k * 12 + u)) (X.2 (k * 12 + u))).2 := congrArg Prod.snd e
      rw [ea, eb]
      have hgd : wt_gd (X.1 (k * 12 + u)) (X.2 (k * 12 + u)) := wt_fl_gd i1 (hg u hu).1
      obtain ⟨a1, a2⟩ := wt_fl_aft (x := n) (by omega) hgd hv
      by_cases d : X.1 (k * 12 + u) = nI n
      · obtain ⟨b1, b2⟩ := i2 n (Nat.le_refl _) (by omega) d
        rw [b1, b2] at a1 ⊢
        refine ⟨a1, fun y hy1 hy2 hy => ?_⟩
        obtain ⟨-, -, -, -, -, -, -, -, g⟩ := a1
        rcases g with g | g
        · exact absurd (hy.symm.trans g) (wt_ne_m1 (by omega))
        · have := (nI_eq (by omega) (by omega)).mp (hy.symm.trans (g.trans (b1.symm.trans d)))
          omega
      · rw [a2 d]
        exact ⟨i1, fun y hy1 hy2 hy => i2 y (by omega) hy2 hy⟩
    · rw [wt_if_f c]
      exact ⟨h1, fun u hu => ⟨(h2 u hu).1, fun y hy1 hy2 hy => (h2 u hu).2 y (by omega) hy2 hy⟩⟩
theorem wt_fev_at (hcn : cn ≤ 12) {p : (Nat → Int32) × (Nat → Int32)} (hg : ∀ u, u < cn → wt_gd (p.1 (k * 12 + u)) (p.2 (k * 12 + u))) :
    (∀ j, (j < k * 12 ∨ k * 12 + cn ≤ j) → (wt_fev fs cn k sp p).1 j = p.1 j ∧ (wt_fev fs cn k sp p).2 j = p.2 j) ∧
    ∀ u, u < cn → wt_fl (p.1 (k * 12 + u)) (p.2 (k * 12 + u)) ((wt_fev fs cn k sp p).1 (k * 12 + u)) ((wt_fev fs cn k sp p).2 (k * 12 + u)) := by
  obtain ⟨h1, h2⟩ := wt_fes_at (fs := fs) (sp := sp) (ct := wt_held fs p.1 k 0 cn &&& wt_held fs p.1 k 1 cn) hcn hg 10 (Nat.le_refl _)
  exact ⟨h1, fun u hu => (h2 u hu).1⟩
end WTG
section WTH
variable {fd fp fu fs fo ft ff : Nat → Int32} {cn t : Nat} {w : Int32}
/-- what a turn does to one unit: strengths fall by no more than 2, the lost stay lost, and who goes, goes by its order, supplied, over an open road -/
def wt_ev (P F P1 F1 O : Int32) (S R : Prop) : Prop := ∃ q q1 : Nat, q ≤ 9 ∧ F = nI q ∧ F1 = nI q1 ∧ q1 ≤ q ∧ q ≤ q1 + 2 ∧ (P1 = -1 ↔ q1 = 0) ∧ wt_ok P1 ∧ (P1 = -1 ∨ P1 = P ∨ (P1 = O ∧ S ∧ R))
theorem wt_tr2_at (hcn : cn ≤ 12) (hg : ∀ u, u < cn → wt_gd (ft (t * 12 + u)) (ff (t * 12 + u))) (ho : ∀ u, u < cn → wt_ok (fo (t * 12 + u) - nI 1)) :
    (∀ j, (j < (t + 1) * 12 ∨ (t + 1) * 12 + cn ≤ j) → (wt_tr2 fd fp fu fs fo cn t w (ft, ff)).1 j = ft j ∧ (wt_tr2 fd fp fu fs fo cn t w (ft, ff)).2 j = ff j) ∧
    ∀ u, u < cn → wt_ev (ft (t * 12 + u)) (ff (t * 12 + u)) ((wt_tr2 fd fp fu fs fo cn t w (ft, ff)).1 ((t + 1) * 12 + u)) ((wt_tr2 fd fp fu fs fo cn t w (ft, ff)).2 ((t + 1) * 12 + u)) (fo (t * 12 + u) - nI 1) (wt_has (wt_sun fd fp fu fs ft cn t w) (nI u)) (wt_has (wt_nxt fp fu (ft (t * 12 + u)) w) (fo (t * 12 + u) - nI 1)) := by
  unfold wt_tr2
  generalize hsp : wt_sun fd fp fu fs ft cn t w = sp
  generalize hgo : wt_goe fp fu ft fo cn t w sp = go
  obtain ⟨m1, m2⟩ := wt_mar_at (fs := fs) (fo := fo) (t := t) (go := go) (p := (ft, ff)) hcn cn hcn
  -- who goes
  have hgi : ∀ u, u < cn → wt_has go (nI u) → wt_has sp (nI u) ∧ wt_has (wt_nxt fp fu (ft (t * 12 + u)) w) (fo (t * 12 + u) - nI 1) := by
    intro u hu h
    rw [← hgo] at h
    unfold wt_goe at h
    rw [wt_for (C := fun u => wt_has sp (nI u) ∧ wt_has (wt_nxt fp fu (ft (t * 12 + u)) w) (fo (t * 12 + u) - nI 1)) ?_ (by omega) (by omega)] at h
    · exact h.2
    · intro v a
      unfold wt_gos
      by_cases c : wt_has sp (nI v)
      · rw [wt_if_t c]
        by_cases d : wt_has (wt_nxt fp fu (ft (t * 12 + v)) w) (fo (t * 12 + v) - nI 1)
        · rw [wt_if_t d, wt_if_t ⟨c, d⟩]
        · rw [wt_if_f d, wt_if_f (fun z => d z.2)]
      · rw [wt_if_f c, wt_if_f (fun z => c z.1)]
  have hM : wt_mar fs fo cn t go (ft, ff) = wt_fold (wt_mrs fs fo cn t go) cn (ft, ff) := rfl
  generalize hX : wt_mar fs fo cn t go (ft, ff) = X
  rw [← hM, hX] at m1 m2
  -- behind the march
  have hm : ∀ u, u < cn → X.2 ((t + 1) * 12 + u) = ff (t * 12 + u) ∧ wt_gd (X.1 ((t + 1) * 12 + u)) (X.2 ((t + 1) * 12 + u)) ∧ (X.1 ((t + 1) * 12 + u) = ft (t * 12 + u) ∨ (X.1 ((t + 1) * 12 + u) = fo (t * 12 + u) - nI 1 ∧ wt_has sp (nI u) ∧ wt_has (wt_nxt fp fu (ft (t * 12 + u)) w) (fo (t * 12 + u) - nI 1))) := by
    intro u hu
    obtain ⟨a1, a2⟩ := m2 u hu
    obtain ⟨hok, q, hq, hF, hiff⟩ := hg u hu
    have a1' : X.1 ((t + 1) * 12 + u) = wt_if (0 < ff (t * 12 + u)) (wt_if (wt_has go (nI u)) (wt_if (wt_met fs ft fo cn t u go) (ft (t * 12 + u)) (fo (t * 12 + u) - nI 1)) (ft (t * 12 + u))) (-1) := a1
    have a2' : X.2 ((t + 1) * 12 + u) = wt_max (ff (t * 12 + u)) (nI 0) := a2
    have e2 : X.2 ((t + 1) * 12 + u) = ff (t * 12 + u) := by rw [a2', hF, wt_max0 (by omega)]
    rw [e2]
    refine ⟨rfl, ?_⟩
    rw [a1', hF]
    rcases Nat.eq_zero_or_pos q with h0 | h0
    · have hl : ft (t * 12 + u) = -1 := hiff.mpr h0
      rw [wt_if_f (by rw [h0]; decide), hl]
      exact ⟨⟨Or.inl rfl, q, hq, rfl, ⟨fun _ => h0, fun _ => rfl⟩⟩, Or.inl rfl⟩
    · have hpos : (0 : Int32) < nI q := by
        have := nI_lt h0 (by omega : q < 2 ^ 31)
        rw [nI_0] at this
        exact this
      have hnl : ¬ ft (t * 12 + u) = -1 := fun z => by have := hiff.mp z; omega
      rw [wt_if_t hpos]
      have stay : wt_gd (ft (t * 12 + u)) (nI q) := ⟨hok, q, hq, rfl, hiff⟩
      by_cases c : wt_has go (nI u)
      · rw [wt_if_t c]
        by_cases d : wt_met fs ft fo cn t u go
        · rw [wt_if_t d]; exact ⟨stay, Or.inl rfl⟩
        · rw [wt_if_f d]
          obtain ⟨g1, g2⟩ := hgi u hu c
          refine ⟨⟨ho u hu, q, hq, rfl, ⟨fun z => ?_, fun z => by omega⟩⟩, Or.inr ⟨rfl, g1, g2⟩⟩
          rw [z] at g2
          exact absurd g2 wt_hm
      · rw [wt_if_f c]; exact ⟨stay, Or.inl rfl⟩
  obtain ⟨f1, f2⟩ := wt_fev_at (fs := fs) (k := t + 1) (sp := sp) (p := X) hcn (fun u hu => (hm u hu).2.1)
  refine ⟨fun j hj => ⟨(f1 j hj).1.trans (m1 j hj).1, (f1 j hj).2.trans (m1 j hj).2⟩, fun u hu => ?_⟩
  obtain ⟨b1, b2, b3⟩ := hm u hu
  have hfl := f2 u hu
  have hgd := wt_fl_gd hfl b2.1
  obtain ⟨q, q1, c1, c2, c3, c4, c5, c6, c7⟩ := hfl
  refine ⟨q, q1, c1, b1.symm.trans c2, c3, c4, c5, c6, hgd.1, ?_⟩
  rcases c7 with c7 | c7
  · exact Or.inl c7
  · rcases b3 with b3 | ⟨b3, b4, b5⟩
    · exact Or.inr (Or.inl (c7.trans b3))
    · exact Or.inr (Or.inr ⟨c7.trans b3, b4, b5⟩)
end WTH
