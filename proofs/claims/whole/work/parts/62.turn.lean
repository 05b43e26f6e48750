/-! A turn, here and there -/
def wt_gd (t s : Int32) : Prop := wt_ok t ∧ ∃ q : Nat, q ≤ 9 ∧ s = nI q ∧ (t = -1 ↔ q = 0)
def wt_Rr (cn k : Nat) (ft ff to sr : Nat → Int32) : Prop := ∀ u : Nat, u < cn → ft (k * 12 + u) = to (12 * k + u) ∧ ff (k * 12 + u) = sr (12 * k + u) ∧ wt_gd (to (12 * k + u)) (sr (12 * k + u))
def wt_Rd (fd de : Nat → Int32) : Prop := ∀ d : Nat, d < 2 → fd d = de d ∧ vp_in (de d) 10
def wt_Rs (cn : Nat) (fs si : Nat → Int32) : Prop := ∀ u : Nat, u < cn → fs u = si u ∧ (si u = nI 0 ∨ si u = nI 1)
theorem wt_Rs_d {cn : Nat} {fs si : Nat → Int32} (h : wt_Rs cn fs si) {u : Nat} (hu : u < cn) : ∃ d : Nat, d < 2 ∧ fs u = nI d ∧ si u = nI d := by
  obtain ⟨h1, h2⟩ := h u hu
  rcases h2 with h2 | h2
  · exact ⟨0, by omega, h1.trans h2, h2⟩
  · exact ⟨1, by omega, h1.trans h2, h2⟩
theorem wt_sub1 {d : Nat} (h : d < 2) : nI 1 - nI d = nI (1 - d) := pk_sub (by omega)
theorem wt_fold_c {α : Type} {F G : Nat → α → α} {x : α} : ∀ {n : Nat}, (∀ u, u < n → ∀ a, F u a = G u a) → wt_fold F n x = wt_fold G n x
  | 0, _ => rfl
  | n + 1, h => by rw [wt_fold_s, wt_fold_s, wt_fold_c (n := n) (fun u hu => h u (by omega)), h n (by omega)]
theorem wt_pS_at {pa de si p0 : Nat → Int32} {mn : Nat} {w : Int32} {su fa : Nat → Int32} : ∀ {n u : Nat}, u < n → ∃ f : Nat → Int32, (wt_fold (wt_ss pa de si p0 mn w) n (su, fa)).1 u = wt_if (wt_spo pa de si p0 mn w u f = -1) (nI 0) (nI 1)
  | 0, _, h => absurd h (Nat.not_lt_zero _)
  | n + 1, u, h => by
    rw [wt_fold_s]
    unfold wt_ss
    by_cases c : u = n
    · subst c
      exact ⟨_, wt_upd_s⟩
    · obtain ⟨f, hf⟩ := wt_pS_at (pa := pa) (de := de) (si := si) (p0 := p0) (mn := mn) (w := w) (su := su) (fa := fa) (n := n) (u := u) (by omega)
      exact ⟨f, by rw [← hf]; exact wt_upd_n c⟩
section WTT
variable {fd fp fu fs fo ft ff pa de si od mw to sr : Nat → Int32} {cn t : Nat} {w : Int32}
/-- supplied, here and there -/
theorem wt_supd (hcn : cn ≤ 12) (hm : wt_Rm fp fu pa) (hw : vp_in w 3) (hd : wt_Rd fd de) (hs : wt_Rs cn fs si) (hr : wt_Rr cn t ft ff to sr) {p0 su fa : Nat → Int32} (hp0 : ∀ u, u < cn → p0 u = to (12 * t + u)) {u : Nat} (hu : u < cn) :
    wt_has (wt_sun fd fp fu fs ft cn t w) (nI u) ↔ (wt_pS pa de si p0 cn w su fa).1 u = nI 1 := by
  obtain ⟨d, hd2, hfs, hsi⟩ := wt_Rs_d hs hu
  obtain ⟨hfd, hvd⟩ := hd d hd2
  obtain ⟨D, hD, hdD⟩ := vp_in_of hvd (by decide)
  obtain ⟨h1, h2, hok, -⟩ := hr u hu
  have hokf : ∀ v, v < cn → wt_ok (ft (t * 12 + v)) := fun v hv => by rw [(hr v hv).1]; exact (hr v hv).2.2.1
  -- here
  have here : wt_has (wt_sun fd fp fu fs ft cn t w) (nI u) ↔ wt_has (wt_sup fd fp fu fs ft cn t d w 4) (ft (t * 12 + u)) := by
    unfold wt_sun
    rw [wt_sus_iff (by omega) hu, hfs]
    have : d = 0 ∨ d = 1 := by omega
    rcases this with rfl | rfl
    · exact ⟨fun z => z.elim (fun z => z.2) (fun z => absurd nI_0 z.1), fun z => Or.inl ⟨nI_0, z⟩⟩
    · exact ⟨fun z => z.elim (fun z => absurd z.1 (by decide)) (fun z => z.2), fun z => Or.inr ⟨by decide, z⟩⟩
  rw [here]
  unfold wt_pS
  obtain ⟨f, hf⟩ := wt_pS_at (pa := pa) (de := de) (si := si) (p0 := p0) (mn := cn) (w := w) (su := su) (fa := fa) hu
  rw [hf]
  have there : (wt_if (wt_spo pa de si p0 cn w u f = -1) (nI 0) (nI 1) = nI 1) ↔ ¬ wt_spo pa de si p0 cn w u f = -1 := by
    by_cases c : wt_spo pa de si p0 cn w u f = -1
    · rw [wt_if_t c]
      exact ⟨fun z => absurd z (by decide), fun z => absurd c z⟩
    · rw [wt_if_f c]
      exact ⟨fun _ => c, fun _ => rfl⟩
  rw [there, h1]
  rcases wt_ok_cases hok with c | ⟨A, hA, c⟩
  · rw [c]
    refine ⟨fun z => absurd z wt_hm, fun z => absurd ?_ z⟩
    unfold wt_spo
    exact wt_if_t (by rw [hp0 u hu]; exact c)
  · rw [c, wt_sup_iff hm hw hD (hfd.trans hdD) hokf 4 hA, wt_spo_at (D := D) hA (by rw [hp0 u hu]; exact c) hD (by rw [hsi, nI_clamp (by omega)]; exact hdD)]
    have hsf : (fun y : Nat => ¬ ∃ v : Nat, v < cn ∧ fs v = nI (1 - d) ∧ ft (t * 12 + v) = nI y) = (fun y : Nat => ¬ wt_hld si p0 cn (nI y) (nI 1 - si u)) := by
      funext y
      unfold wt_hld
      rw [hsi, wt_sub1 hd2]
      refine propext (not_congr ⟨fun ⟨v, a1, a2, a3⟩ => ⟨v, a1, ?_, ?_⟩, fun ⟨v, a1, a2, a3⟩ => ⟨v, a1, ?_, ?_⟩⟩)
      · rw [← (hs v a1).1]; exact a2
      · rw [hp0 v a1, ← (hr v a1).1]; exact a3
      · rw [(hs v a1).1]; exact a2
      · rw [(hr v a1).1, ← hp0 v a1]; exact a3
    rw [hsf]
    constructor
    · intro z y
      exact wt_least_m1 (by decide) y 4 (by omega) (wt_rc_sym hm hD hA z)
    · intro z
      by_cases q : wt_rc pa w (fun y : Nat => ¬ wt_hld si p0 cn (nI y) (nI 1 - si u)) A 4 D
      · exact wt_rc_sym hm hA hD q
      · exact absurd (wt_least_none (fun k hk y => q (wt_rc_le y (by omega)))) z
/-- who would go -/
theorem wt_goe_iff (hcn : cn ≤ 12) (hm : wt_Rm fp fu pa) (hw : vp_in w 3) (hmw : mw t = w) (hr : wt_Rr cn t ft ff to sr) (ho : ∀ u, u < cn → fo (t * 12 + u) - nI 1 = od (12 * t + u) ∧ wt_ok (od (12 * t + u))) {sp : Int32} {p0 su : Nat → Int32} (hp0 : ∀ u, u < cn → p0 u = to (12 * t + u)) (hsu : ∀ u, u < cn → (wt_has sp (nI u) ↔ su u = nI 1)) {u : Nat} (hu : u < cn) :
    wt_has (wt_goe fp fu ft fo cn t w sp) (nI u) ↔ wt_cms pa p0 su od mw t u := by
  unfold wt_goe
  rw [wt_for (C := fun u => wt_has sp (nI u) ∧ wt_has (wt_nxt fp fu (ft (t * 12 + u)) w) (fo (t * 12 + u) - nI 1)) ?_ (by omega) (by omega)]
  · obtain ⟨h1, h2, hok, -⟩ := hr u hu
    obtain ⟨h3, hoo⟩ := ho u hu
    unfold wt_cms
    rw [hmw, hp0 u hu, h3, h1, hsu u hu]
    rcases wt_ok_cases hok with c | ⟨a, ha, c⟩
    · rw [c]
      refine ⟨fun z => ?_, fun z => absurd rfl z.1⟩
      have e : wt_nxt fp fu (-1) w = nI 0 := by
        unfold wt_nxt
        exact wt_if_f (fun z => z (Or.inl (by decide)))
      rw [e] at z
      rcases wt_ok_cases hoo with c2 | ⟨b, hb, c2⟩
      · rw [c2] at z; exact absurd z.2.2 wt_hm
      · rw [c2] at z; exact absurd z.2.2 (wt_hz (by omega))
    · rcases wt_ok_cases hoo with c2 | ⟨b, hb, c2⟩
      · rw [c2]
        exact ⟨fun z => absurd z.2.2 wt_hm, fun z => absurd rfl z.2.1⟩
      · rw [c, c2, wt_nxt_iff hm hw ha hb, nI_clamp (by omega), nI_clamp (by omega)]
        exact ⟨fun z => ⟨wt_ne_m1 (by omega), wt_ne_m1 (by omega), z.2.1, z.2.2⟩, fun z => ⟨hu, z.2.2.1, z.2.2.2⟩⟩
  · intro v a
    unfold wt_gos
    by_cases c : wt_has sp (nI v)
    · rw [wt_if_t c]
      by_cases d : wt_has (wt_nxt fp fu (ft (t * 12 + v)) w) (fo (t * 12 + v) - nI 1)
      · rw [wt_if_t d, wt_if_t ⟨c, d⟩]
      · rw [wt_if_f d, wt_if_f (fun z => d z.2)]
    · rw [wt_if_f c, wt_if_f (fun z => c z.1)]
theorem wt_max0 {q : Nat} (h : q < 2 ^ 31) : wt_max (nI q) (nI 0) = nI q := wt_max_0 h
/-- the march: row t + 1 of towns and strengths -/
theorem wt_mar_at (hcn : cn ≤ 12) {go : Int32} {p : (Nat → Int32) × (Nat → Int32)} : ∀ (n : Nat), n ≤ 12 →
    (∀ j, (j < (t + 1) * 12 ∨ (t + 1) * 12 + n ≤ j) → (wt_fold (wt_mrs fs fo cn t go) n p).1 j = p.1 j ∧ (wt_fold (wt_mrs fs fo cn t go) n p).2 j = p.2 j) ∧
    ∀ u, u < n → (wt_fold (wt_mrs fs fo cn t go) n p).1 ((t + 1) * 12 + u) = wt_if (0 < p.2 (t * 12 + u)) (wt_if (wt_has go (nI u)) (wt_if (wt_met fs p.1 fo cn t u go) (p.1 (t * 12 + u)) (fo (t * 12 + u) - nI 1)) (p.1 (t * 12 + u))) (-1) ∧ (wt_fold (wt_mrs fs fo cn t go) n p).2 ((t + 1) * 12 + u) = wt_max (p.2 (t * 12 + u)) (nI 0) := by
  intro n
  induction n with
  | zero => intro _; exact ⟨fun _ _ => ⟨rfl, rfl⟩, fun u h => absurd h (Nat.not_lt_zero _)⟩
  | succ n ih =>
    intro hn
    obtain ⟨h1, h2⟩ := ih (by omega)
    rw [wt_fold_s]
    generalize wt_fold (wt_mrs fs fo cn t go) n p = X at h1 h2 ⊢
    have ea : X.1 (t * 12 + n) = p.1 (t * 12 + n) := (h1 _ (by omega)).1
    have eb : X.2 (t * 12 + n) = p.2 (t * 12 + n) := (h1 _ (by omega)).2
    have em : wt_met fs X.1 fo cn t n go = wt_met fs p.1 fo cn t n go := by
      unfold wt_met wt_met1
      refine propext ⟨fun ⟨q, a1, a2, a3, a4, a5⟩ => ⟨q, a1, a2, a3, ?_, ?_⟩, fun ⟨q, a1, a2, a3, a4, a5⟩ => ⟨q, a1, a2, a3, ?_, ?_⟩⟩
      · rw [← (h1 (t * 12 + q) (by omega)).1]; exact a4
      · rw [← ea]; exact a5
      · rw [(h1 (t * 12 + q) (by omega)).1]; exact a4
      · rw [ea]; exact a5
    have e : wt_mrs fs fo cn t go n X = wt_pl X (t + 1) n (wt_if (wt_has go (nI n)) (wt_if (wt_met fs p.1 fo cn t n go) (p.1 (t * 12 + n)) (fo (t * 12 + n) - nI 1)) (p.1 (t * 12 + n))) (p.2 (t * 12 + n)) := by
      unfold wt_mrs
      rw [ea, eb, em]
      by_cases c : wt_has go (nI n)
      · rw [wt_if_t c, wt_if_t c]
        by_cases d : wt_met fs p.1 fo cn t n go
        · rw [wt_if_t d, wt_if_t d]
        · rw [wt_if_f d, wt_if_f d]
      · rw [wt_if_f c, wt_if_f c]
    rw [e]
    unfold wt_pl wt_plT wt_plF
    refine ⟨fun j hj => ⟨?_, ?_⟩, fun u hu => ?_⟩
    · show upd X.1 _ _ j = _
      rw [wt_upd_n (by omega)]; exact (h1 j (by omega)).1
    · show upd X.2 _ _ j = _
      rw [wt_upd_n (by omega)]; exact (h1 j (by omega)).2
    · show upd X.1 _ _ _ = _ ∧ upd X.2 _ _ _ = _
      by_cases c : u = n
      · subst c
        rw [wt_upd_s, wt_upd_s]; exact ⟨rfl, rfl⟩
      · rw [wt_upd_n (by omega), wt_upd_n (by omega)]; exact h2 u (by omega)
/-- the march, here and there -/
theorem wt_march_eq (hcn : cn ≤ 12) (hs : wt_Rs cn fs si) (hr : wt_Rr cn t ft ff to sr) (ho : ∀ u, u < cn → fo (t * 12 + u) - nI 1 = od (12 * t + u) ∧ wt_ok (od (12 * t + u))) {go : Int32} {p0 su g0 : Nat → Int32} (hp0 : ∀ u, u < cn → p0 u = to (12 * t + u)) (hgo : ∀ u, u < cn → (wt_has go (nI u) ↔ wt_cms pa p0 su od mw t u)) {u : Nat} (hu : u < cn) :
    (wt_mar fs fo cn t go (ft, ff)).1 ((t + 1) * 12 + u) = wt_fold (wt_cp (wt_gol pa si p0 su od mw cn t g0)) cn p0 u ∧ (wt_mar fs fo cn t go (ft, ff)).2 ((t + 1) * 12 + u) = sr (12 * t + u) ∧ wt_gd (wt_fold (wt_cp (wt_gol pa si p0 su od mw cn t g0)) cn p0 u) (sr (12 * t + u)) := by
  unfold wt_mar
  obtain ⟨m1, m2⟩ := (wt_mar_at (fs := fs) (fo := fo) (t := t) (go := go) (p := (ft, ff)) hcn cn hcn).2 u hu
  rw [m1, m2, wt_cp_at hu, wt_gol_at hu, wt_g1_at hu]
  obtain ⟨h1, h2, hok, q, hq, hsq, hiff⟩ := hr u hu
  obtain ⟨h3, hoo⟩ := ho u hu
  show wt_if (0 < ff (t * 12 + u)) (wt_if (wt_has go (nI u)) (wt_if (wt_met fs ft fo cn t u go) (ft (t * 12 + u)) (fo (t * 12 + u) - nI 1)) (ft (t * 12 + u))) (-1) = _ ∧ wt_max (ff (t * 12 + u)) (nI 0) = _ ∧ _
  have hmet : wt_met fs ft fo cn t u go ↔ ∃ z : Nat, z < cn ∧ wt_mt1 pa si p0 su od mw t u z := by
    unfold wt_met wt_met1 wt_mt1
    refine ⟨fun ⟨z, a1, a2, a3, a4, a5⟩ => ⟨z, a1, ?_, (hgo z a1).mp a2, ?_, ?_⟩, fun ⟨z, a1, a2, a3, a4, a5⟩ => ⟨z, a1, (hgo z a1).mpr a3, ?_, ?_, ?_⟩⟩
    · rw [← (hs z a1).1, ← (hs u hu).1]; exact a3
    · rw [← (ho z a1).1, hp0 u hu, ← h1]; exact a5
    · rw [hp0 z a1, ← (hr z a1).1, ← h3]; exact a4
    · rw [(hs z a1).1, (hs u hu).1]; exact a2
    · rw [(hr z a1).1, ← hp0 z a1, h3]; exact a5
    · rw [(ho z a1).1, h1, ← hp0 u hu]; exact a4
  -- what the reference's first loop leaves
  have hg1 : wt_if (p0 u = -1) (p0 u) (wt_if (od (12 * t + u) = -1) (p0 u) (wt_if (su u = nI 1) (wt_if (wt_opn pa (p0 u).toNatClampNeg (od (12 * t + u)).toNatClampNeg (mw t)) (od (12 * t + u)) (p0 u)) (p0 u))) = wt_if (wt_cms pa p0 su od mw t u) (od (12 * t + u)) (p0 u) := by
    unfold wt_cms
    by_cases c1 : p0 u = -1
    · rw [wt_if_t c1, wt_if_f (fun z => z.1 c1)]
    · rw [wt_if_f c1]
      by_cases c2 : od (12 * t + u) = -1
      · rw [wt_if_t c2, wt_if_f (fun z => z.2.1 c2)]
      · rw [wt_if_f c2]
        by_cases c3 : su u = nI 1
        · rw [wt_if_t c3]
          by_cases c4 : wt_opn pa (p0 u).toNatClampNeg (od (12 * t + u)).toNatClampNeg (mw t)
          · rw [wt_if_t c4, wt_if_t ⟨c1, c2, c3, c4⟩]
          · rw [wt_if_f c4, wt_if_f (fun z => c4 z.2.2.2)]
        · rw [wt_if_f c3, wt_if_f (fun z => c3 z.2.2.1)]
  rw [hg1, h2, hsq, wt_max0 (by omega), h1, h3, ← hp0 u hu]
  have hgd : ∀ x : Int32, wt_ok x → (x = -1 ↔ q = 0) → wt_gd x (nI q) := fun x a b => ⟨a, q, hq, rfl, b⟩
  rw [← hp0 u hu] at hok hiff
  rcases Nat.eq_zero_or_pos q with hq0 | hq0
  · have hl : p0 u = -1 := hiff.mpr hq0
    have hnc : ¬ wt_cms pa p0 su od mw t u := fun z => z.1 hl
    rw [wt_if_f (by rw [hq0]; decide), wt_if_f hnc]
    refine ⟨?_, rfl, ?_⟩
    · by_cases c : ∃ z : Nat, z < cn ∧ wt_mt1 pa si p0 su od mw t u z
      · rw [wt_if_t c, hl]
      · rw [wt_if_f c, hl]
    · have e : wt_if (∃ z : Nat, z < cn ∧ wt_mt1 pa si p0 su od mw t u z) (p0 u) (p0 u) = p0 u := by
        by_cases c : ∃ z : Nat, z < cn ∧ wt_mt1 pa si p0 su od mw t u z
        · rw [wt_if_t c]
        · rw [wt_if_f c]
      rw [e]
      exact hgd _ hok hiff
  · have hpos : (0 : Int32) < nI q := by
      have := nI_lt hq0 (by omega : q < 2 ^ 31)
      rw [nI_0] at this
      exact this
    have hnl : ¬ p0 u = -1 := fun z => by have := hiff.mp z; omega
    rw [wt_if_t hpos]
    by_cases c : wt_cms pa p0 su od mw t u
    · rw [wt_if_t ((hgo u hu).mpr c), wt_if_t c]
      by_cases d : ∃ z : Nat, z < cn ∧ wt_mt1 pa si p0 su od mw t u z
      · rw [wt_if_t (hmet.mpr d), wt_if_t d]
        exact ⟨rfl, rfl, hgd _ hok hiff⟩
      · rw [wt_if_f (fun z => d (hmet.mp z)), wt_if_f d]
        exact ⟨rfl, rfl, hgd _ hoo ⟨fun z => absurd z c.2.1, fun z => by omega⟩⟩
    · rw [wt_if_f (fun z => c ((hgo u hu).mp z)), wt_if_f c]
      by_cases d : ∃ z : Nat, z < cn ∧ wt_mt1 pa si p0 su od mw t u z
      · rw [wt_if_t d]
        exact ⟨rfl, rfl, hgd _ hok hiff⟩
      · rw [wt_if_f d]
        exact ⟨rfl, rfl, hgd _ hok hiff⟩
end WTT
