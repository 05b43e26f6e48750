/-! Sight; a whole turn; turns played again; what holds between the class and the reference -/
theorem wt_pus_at {pa si p2 f : Nat → Int32} {mn t : Nat} : ∀ {n u : Nat}, u < n → wt_fold (wt_pus pa si p2 mn t) n f (12 * t + u) = wt_if (p2 u = -1) (-1) (wt_if (wt_see pa si p2 mn (nI 1 - si u) (p2 u).toNatClampNeg) (p2 u) (-1))
  | 0, _, h => absurd h (Nat.not_lt_zero _)
  | n + 1, u, h => by
    rw [wt_fold_s]
    unfold wt_pus
    by_cases c : u = n
    · subst c; exact wt_upd_s
    · rw [wt_upd_n (by omega)]; exact wt_pus_at (by omega)
theorem wt_pus_out {pa si p2 f : Nat → Int32} {mn t : Nat} : ∀ {n j : Nat}, (j < 12 * t ∨ 12 * t + n ≤ j) → wt_fold (wt_pus pa si p2 mn t) n f j = f j
  | 0, _, _ => rfl
  | n + 1, j, h => by
    rw [wt_fold_s]
    unfold wt_pus
    rw [wt_upd_n (by omega)]
    exact wt_pus_out (by omega)
theorem wt_sight {fp fu fs ft pa si p2 : Nat → Int32} {cn k : Nat} (hcn : cn ≤ 12) (hm : wt_Rm fp fu pa) (hs : wt_Rs cn fs si) (hp : ∀ u, u < cn → ft (k * 12 + u) = p2 u ∧ wt_ok (p2 u)) {u : Nat} (hu : u < cn) : wt_has (wt_sig fp fu fs ft cn k) (nI u) ↔ ¬ p2 u = -1 ∧ wt_see pa si p2 cn (nI 1 - si u) (p2 u).toNatClampNeg := by
  obtain ⟨d, hd2, hfs, hsi⟩ := wt_Rs_d hs hu
  have hok : ∀ v, v < cn → wt_ok (ft (k * 12 + v)) := fun v hv => by rw [(hp v hv).1]; exact (hp v hv).2
  have here : wt_has (wt_sig fp fu fs ft cn k) (nI u) ↔ wt_has (wt_wid fp fu (wt_held fs ft k (1 - d) cn) (nI 0)) (p2 u) := by
    unfold wt_sig
    rw [wt_sus_iff (by omega) hu, hfs, (hp u hu).1]
    have : d = 0 ∨ d = 1 := by omega
    rcases this with rfl | rfl
    · exact ⟨fun z => z.elim (fun z => z.2) (fun z => absurd nI_0 z.1), fun z => Or.inl ⟨nI_0, z⟩⟩
    · exact ⟨fun z => z.elim (fun z => absurd z.1 (by decide)) (fun z => z.2), fun z => Or.inr ⟨by decide, z⟩⟩
  rw [here, hsi, wt_sub1 hd2]
  rcases wt_ok_cases (hp u hu).2 with c | ⟨A, hA, c⟩
  · rw [c]
    exact ⟨fun z => absurd z wt_hm, fun z => absurd rfl z.1⟩
  · rw [c, nI_clamp (by omega), wt_wid_iff (by omega)]
    have op : ∀ y, y < 10 → (wt_has (wt_nxt fp fu (nI y) (nI 0)) (nI A) ↔ 0 < pa (10 * y + A)) := fun y hy => by
      rw [wt_nxt_iff hm (vp_in_nI (by omega) (by decide)) hy hA]
      unfold wt_opn
      exact ⟨fun z => z.1, fun z => ⟨z, Or.inl nI_0⟩⟩
    have hl : ∀ y, y < 32 → (wt_has (wt_held fs ft k (1 - d) cn) (nI y) ↔ ∃ v : Nat, v < cn ∧ si v = nI (1 - d) ∧ p2 v = nI y) := fun y hy => by
      rw [wt_held_iff hok hy]
      exact ⟨fun ⟨v, a1, a2, a3⟩ => ⟨v, a1, by rw [← (hs v a1).1]; exact a2, by rw [← (hp v a1).1]; exact a3⟩, fun ⟨v, a1, a2, a3⟩ => ⟨v, a1, by rw [(hs v a1).1]; exact a2, by rw [(hp v a1).1]; exact a3⟩⟩
    unfold wt_see wt_se1
    constructor
    · intro z
      refine ⟨wt_ne_m1 (by omega), ?_⟩
      rcases z with z | ⟨y, h1, h2, h3⟩
      · obtain ⟨v, a1, a2, a3⟩ := (hl A (by omega)).mp z
        exact ⟨v, a1, a2, by rw [a3]; exact wt_ne_m1 (by omega), Or.inl a3⟩
      · obtain ⟨v, a1, a2, a3⟩ := (hl y (by omega)).mp h2
        exact ⟨v, a1, a2, by rw [a3]; exact wt_ne_m1 (by omega), Or.inr (by rw [a3, nI_clamp (by omega)]; exact (op y h1).mp h3)⟩
    · intro ⟨_, v, a1, a2, a3, a4⟩
      rcases a4 with a4 | a4
      · exact Or.inl ((hl A (by omega)).mpr ⟨v, a1, a2, a4⟩)
      · rcases wt_ok_cases (hp v a1).2 with b | ⟨y, hy, b⟩
        · exact absurd b a3
        · rw [b, nI_clamp (by omega)] at a4
          exact Or.inr ⟨y, hy, (hl y (by omega)).mpr ⟨v, a1, a2, b⟩, (op y hy).mpr a4⟩
/-- rows of towns and strengths up to m, reports of the turns before -/
def wt_RT (cn m : Nat) (ft ff to sr fe sn : Nat → Int32) : Prop := (∀ k : Nat, k ≤ m → wt_Rr cn k ft ff to sr) ∧ ∀ k : Nat, k < m → ∀ u : Nat, u < cn → (wt_has (fe k) (nI u) ↔ ¬ sn (12 * k + u) = -1) ∧ (¬ sn (12 * k + u) = -1 → sn (12 * k + u) = to (12 * (k + 1) + u))
section WTU
variable {fd fp fu fs fo ft ff fe pa de si od mw to sr sn pl mf su go fa : Nat → Int32} {cn t : Nat} {w : Int32}
theorem wt_turn (hcn : cn ≤ 12) (hm : wt_Rm fp fu pa) (hw : vp_in w 3) (hmw : mw t = w) (hd : wt_Rd fd de) (hs : wt_Rs cn fs si) (ho : ∀ u, u < cn → fo (t * 12 + u) - nI 1 = od (12 * t + u) ∧ wt_ok (od (12 * t + u))) (hT : wt_RT cn t ft ff to sr fe sn) :
    wt_RT cn (t + 1) (wt_tr2 fd fp fu fs fo cn t w (ft, ff)).1 (wt_tr2 fd fp fu fs fo cn t w (ft, ff)).2 (wt_ptn pa de si od mw cn t to sr sn pl mf su go fa).1 (wt_ptn pa de si od mw cn t to sr sn pl mf su go fa).2.1 (upd fe t (wt_sig fp fu fs (wt_tr2 fd fp fu fs fo cn t w (ft, ff)).1 cn (t + 1))) (wt_ptn pa de si od mw cn t to sr sn pl mf su go fa).2.2.1 ∧
    ∀ j, (t + 2) * 12 ≤ j → (wt_tr2 fd fp fu fs fo cn t w (ft, ff)).1 j = ft j ∧ (wt_tr2 fd fp fu fs fo cn t w (ft, ff)).2 j = ff j := by
  subst hmw
  have hr := hT.1 t (Nat.le_refl _)
  -- the reference's parts
  generalize hp0 : wt_p0 to pl cn t = p0
  have hp0a : ∀ u, u < cn → p0 u = to (12 * t + u) := fun u hu => by rw [← hp0]; exact wt_p0_at hu
  generalize hS : wt_pS pa de si p0 cn (mw t) su fa = S
  generalize hP1 : wt_fold (wt_cp (wt_gol pa si p0 S.1 od mw cn t go)) cn p0 = P1
  generalize hf0 : wt_p0 sr mf cn t = f0
  have hf0a : ∀ u, u < cn → f0 u = sr (12 * t + u) := fun u hu => by rw [← hf0]; exact wt_p0_at hu
  generalize hP2 : wt_p2 si S.1 cn P1 f0 = P2
  have e1 : (wt_ptn pa de si od mw cn t to sr sn pl mf su go fa).1 = wt_fold (wt_put P2.1 (t + 1)) cn to := by
    rw [← hP2, ← hP1, ← hS, ← hf0, ← hp0]; rfl
  have e2 : (wt_ptn pa de si od mw cn t to sr sn pl mf su go fa).2.1 = wt_fold (wt_put P2.2 (t + 1)) cn sr := by
    rw [← hP2, ← hP1, ← hS, ← hf0, ← hp0]; rfl
  have e3 : (wt_ptn pa de si od mw cn t to sr sn pl mf su go fa).2.2.1 = wt_fold (wt_pus pa si P2.1 cn t) cn sn := by
    rw [← hP2, ← hP1, ← hS, ← hf0, ← hp0]; rfl
  rw [e1, e2, e3]
  -- the class's parts
  have hsu : ∀ u, u < cn → (wt_has (wt_sun fd fp fu fs ft cn t (mw t)) (nI u) ↔ S.1 u = nI 1) := fun u hu => by rw [← hS]; exact wt_supd hcn hm hw hd hs hr hp0a hu
  generalize hsp : wt_sun fd fp fu fs ft cn t (mw t) = sp at hsu
  have hgo : ∀ u, u < cn → (wt_has (wt_goe fp fu ft fo cn t (mw t) sp) (nI u) ↔ wt_cms pa p0 S.1 od mw t u) := fun u hu => wt_goe_iff hcn hm hw rfl hr ho hp0a hsu hu
  generalize hgm : wt_goe fp fu ft fo cn t (mw t) sp = gm at hgo
  have e4 : wt_tr2 fd fp fu fs fo cn t (mw t) (ft, ff) = wt_fev fs cn (t + 1) sp (wt_mar fs fo cn t gm (ft, ff)) := by
    rw [← hgm, ← hsp]; rfl
  rw [e4]
  have hmar := fun u (hu : u < cn) => wt_march_eq (pa := pa) (si := si) (od := od) (mw := mw) (p0 := p0) (su := S.1) (g0 := go) hcn hs hr ho hp0a hgo hu
  have hmo := (wt_mar_at (fs := fs) (fo := fo) (t := t) (go := gm) (p := (ft, ff)) hcn cn hcn).1
  obtain ⟨f1, f2, -⟩ := wt_fights (fs := fs) (si := si) (su := S.1) (cn := cn) (k := t + 1) (sp := sp) (p := wt_mar fs fo cn t gm (ft, ff)) (q := (P1, f0)) hcn hs (fun u hu => by
    obtain ⟨a1, a2, a3⟩ := hmar u hu
    rw [hP1] at a1 a3
    exact ⟨a1, by rw [a2]; exact (hf0a u hu).symm, by show wt_gd (P1 u) (f0 u); rw [hf0a u hu]; exact a3⟩) hsu 10 (by omega)
  have e5 : wt_fold (wt_fgm si S.1 cn) 10 (P1, f0) = P2 := by rw [← hP2]; rfl
  rw [e5] at f2
  generalize hX : wt_fev fs cn (t + 1) sp (wt_mar fs fo cn t gm (ft, ff)) = X
  have e6 : wt_fold (wt_fes fs cn (t + 1) sp (wt_held fs (wt_mar fs fo cn t gm (ft, ff)).1 (t + 1) 0 cn &&& wt_held fs (wt_mar fs fo cn t gm (ft, ff)).1 (t + 1) 1 cn)) 10 (wt_mar fs fo cn t gm (ft, ff)) = X := by rw [← hX]; rfl
  rw [e6] at f1 f2
  have out : ∀ j, (j < (t + 1) * 12 ∨ (t + 1) * 12 + cn ≤ j) → X.1 j = ft j ∧ X.2 j = ff j := by
    intro j hj
    have m := hmo j hj
    exact ⟨(f1 j hj).1.trans m.1, (f1 j hj).2.trans m.2⟩
  refine ⟨⟨fun k hk u hu => ?_, fun k hk u hu => ?_⟩, fun j hj => out j (by omega)⟩
  · by_cases c : k = t + 1
    · subst c
      rw [wt_put_at hu, wt_put_at hu]
      exact f2 u hu
    · obtain ⟨a1, a2⟩ := out (k * 12 + u) (by omega)
      rw [a1, a2, wt_put_out (by omega), wt_put_out (by omega)]
      exact hT.1 k (by omega) u hu
  · by_cases c : k = t
    · subst c
      rw [wt_upd_s, wt_pus_at hu, wt_put_at hu, wt_sight (pa := pa) (si := si) (p2 := P2.1) hcn hm hs (fun v hv => ⟨(f2 v hv).1, (f2 v hv).2.2.1⟩) hu]
      by_cases c1 : P2.1 u = -1
      · rw [wt_if_t c1]
        exact ⟨⟨fun z => absurd c1 z.1, fun z => absurd rfl z⟩, fun z => absurd rfl z⟩
      · rw [wt_if_f c1]
        by_cases c2 : wt_see pa si P2.1 cn (nI 1 - si u) (P2.1 u).toNatClampNeg
        · rw [wt_if_t c2]
          exact ⟨⟨fun z => z.1, fun z => ⟨z, c2⟩⟩, fun _ => rfl⟩
        · rw [wt_if_f c2]
          exact ⟨⟨fun z => absurd z.2 c2, fun z => absurd rfl z⟩, fun z => absurd rfl z⟩
    · rw [wt_upd_n c, wt_pus_out (by omega), wt_put_out (by omega)]
      exact hT.2 k (by omega) u hu
/-- turns t to t + j - 1, played again -/
theorem wt_turns {fw : Nat → Int32} (hcn : cn ≤ 12) (hm : wt_Rm fp fu pa) (hd : wt_Rd fd de) (hs : wt_Rs cn fs si) {n : Nat} (hw : ∀ k, k < n → fw k = mw k ∧ vp_in (mw k) 3) (ho : ∀ k, k < n → ∀ u, u < cn → fo (k * 12 + u) - nI 1 = od (12 * k + u) ∧ wt_ok (od (12 * k + u))) (hT : wt_RT cn t ft ff to sr fe sn) : ∀ (j : Nat), t + j ≤ n →
    wt_RT cn (t + j) (wt_fold (wt_trn fd fw fp fu fs fo cn t) j ((ft, ff), fe)).1.1 (wt_fold (wt_trn fd fw fp fu fs fo cn t) j ((ft, ff), fe)).1.2 (wt_fold (wt_ags pa de si od mw cn t) j (to, sr, sn, pl, mf, su, go, fa)).1 (wt_fold (wt_ags pa de si od mw cn t) j (to, sr, sn, pl, mf, su, go, fa)).2.1 (wt_fold (wt_trn fd fw fp fu fs fo cn t) j ((ft, ff), fe)).2 (wt_fold (wt_ags pa de si od mw cn t) j (to, sr, sn, pl, mf, su, go, fa)).2.2.1 ∧
    ∀ i, (t + j + 1) * 12 ≤ i → (wt_fold (wt_trn fd fw fp fu fs fo cn t) j ((ft, ff), fe)).1.1 i = ft i ∧ (wt_fold (wt_trn fd fw fp fu fs fo cn t) j ((ft, ff), fe)).1.2 i = ff i := by
  intro j
  induction j with
  | zero => intro _; exact ⟨hT, fun _ _ => ⟨rfl, rfl⟩⟩
  | succ j ih =>
    intro hj
    obtain ⟨h1, h2⟩ := ih (by omega)
    rw [wt_fold_s, wt_fold_s]
    generalize wt_fold (wt_trn fd fw fp fu fs fo cn t) j ((ft, ff), fe) = X at h1 h2 ⊢
    generalize wt_fold (wt_ags pa de si od mw cn t) j (to, sr, sn, pl, mf, su, go, fa) = Y at h1 ⊢
    obtain ⟨g1, g2⟩ := wt_turn (fd := fd) (fo := fo) (de := de) (od := od) (mw := mw) (t := t + j) (w := fw (t + j)) (pl := Y.2.2.2.1) (mf := Y.2.2.2.2.1) (su := Y.2.2.2.2.2.1) (go := Y.2.2.2.2.2.2.1) (fa := Y.2.2.2.2.2.2.2) hcn hm (by rw [(hw (t + j) (by omega)).1]; exact (hw (t + j) (by omega)).2) (hw (t + j) (by omega)).1.symm hd hs (ho (t + j) (by omega)) h1
    refine ⟨g1, fun i hi => ?_⟩
    obtain ⟨a1, a2⟩ := g2 i (by omega)
    obtain ⟨b1, b2⟩ := h2 i (by omega)
    exact ⟨a1.trans b1, a2.trans b2⟩
end WTU
def wt_Ro (cn nt : Nat) (fo od : Nat → Int32) : Prop := ∀ k : Nat, k < nt → ∀ u : Nat, u < cn → fo (k * 12 + u) - nI 1 = od (12 * k + u) ∧ wt_ok (od (12 * k + u))
def wt_Rn (nt : Nat) (fo ne : Nat → Int32) : Prop := (∀ u : Nat, u < 12 → fo (nt * 12 + u) - nI 1 = ne u ∧ wt_ok (ne u)) ∧ ∀ j : Nat, nt * 12 + 12 ≤ j → fo j = 0
def wt_Rw (nt : Nat) (fw mw : Nat → Int32) : Prop := ∀ k : Nat, k < nt → fw k = mw k ∧ vp_in (mw k) 3
def wt_Rg (nt rc : Nat) (gt gw ru be : Nat → Int32) : Prop := ∀ i : Nat, i < rc → gt i = ru i ∧ gw i = be i ∧ (∃ t : Nat, t < nt ∧ ru i = nI t) ∧ vp_in (be i) 3
/-- between the class's cells and the reference's, behind it calls -/
def wt_R (it nt nr cn rc : Nat) (fd fw fe fp fu fs ft ff fo gt gw pa de si to sr od ne mw sn ru be : Nat → Int32) : Prop :=
  (nt ≤ 20 ∧ nr ≤ 15 ∧ cn ≤ 12 ∧ rc ≤ it) ∧ wt_Rd fd de ∧ wt_Rs cn fs si ∧ wt_Rm fp fu pa ∧ wt_RT cn nt ft ff to sr fe sn ∧ wt_Ro cn nt fo od ∧ wt_Rn nt fo ne ∧ wt_Rw nt fw mw ∧ wt_Rg nt rc gt gw ru be
