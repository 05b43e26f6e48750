/-! The law's turn: orders, sums, what is lost, what is moved -/
noncomputable def wt_ov (x h k : Int32) : Int32 := wt_if (wt_atN x 3 = 0) (nI (wt_atN (x >>> (nI 2 &&& 31)) 11) - nI 1) (wt_if (h < 0) (-1) (wt_if (k = 0) (h + nI 1) (h - nI 1)))
theorem wt_ov_1 {x h k : Int32} (c : wt_atN x 3 = 0) : wt_ov x h k = nI (wt_atN (x >>> (nI 2 &&& 31)) 11) - nI 1 := wt_if_t c
theorem wt_ov_2 {x h k : Int32} (c : ¬ wt_atN x 3 = 0) (d : h < 0) : wt_ov x h k = -1 := (wt_if_f c).trans (wt_if_t d)
theorem wt_ov_3 {x h k : Int32} (c : ¬ wt_atN x 3 = 0) (d : ¬ h < 0) (e : k = 0) : wt_ov x h k = h + nI 1 := (wt_if_f c).trans ((wt_if_f d).trans (wt_if_t e))
theorem wt_ov_4 {x h k : Int32} (c : ¬ wt_atN x 3 = 0) (d : ¬ h < 0) (e : ¬ k = 0) : wt_ov x h k = h - nI 1 := (wt_if_f c).trans ((wt_if_f d).trans (wt_if_f e))
noncomputable def wt_cap (v : Int32) : Int32 := wt_if (nI 9 < v) (nI 9) v
theorem wt_m1_of {a : Nat} (h : a ≤ 10) : wt_ok (nI a - nI 1) := by
  rcases Nat.eq_zero_or_pos a with z | z
  · subst z; exact Or.inl (by decide)
  · rw [pk_sub (by omega)]; exact Or.inr (vp_in_nI (by omega) (by decide))
theorem wt_cap_ok {x h k : Int32} (hh : wt_ok h) : wt_ok (wt_cap (wt_ov x h k)) := by
  have key : ∀ v : Int32, v = -1 ∨ (∃ a : Nat, a ≤ 10 ∧ v = nI a) → wt_ok (wt_cap v) := by
    intro v hv
    unfold wt_cap
    rcases hv with rfl | ⟨a, ha, rfl⟩
    · rw [wt_if_f (by decide)]; exact Or.inl rfl
    · by_cases c : nI 9 < nI a
      · rw [wt_if_t c]; exact Or.inr (vp_in_nI (by decide) (by decide))
      · rw [wt_if_f c]
        have : ¬ 9 < a := fun z => c (nI_lt z (by omega))
        exact Or.inr (vp_in_nI (by omega) (by decide))
  apply key
  by_cases c : wt_atN x 3 = 0
  · rw [wt_ov_1 c]
    have := wt_atN_lt (x >>> (nI 2 &&& 31)) (n := 11) (by omega)
    rcases wt_ok_cases (wt_m1_of (a := wt_atN (x >>> (nI 2 &&& 31)) 11) (by omega)) with z | ⟨t, ht, z⟩
    · exact Or.inl z
    · exact Or.inr ⟨t, by omega, z⟩
  · rcases wt_ok_cases hh with d | ⟨a, ha, d⟩
    · rw [wt_ov_2 c (by rw [d]; decide)]; exact Or.inl rfl
    · have hp : ¬ h < 0 := by rw [d]; exact nI_pos (by omega)
      by_cases e : k = 0
      · rw [wt_ov_3 c hp e, d, nI_add]; exact Or.inr ⟨a + 1, by omega, rfl⟩
      · rw [wt_ov_4 c hp e, d]
        rcases wt_ok_cases (wt_m1_of (a := a) (by omega)) with z | ⟨t, ht, z⟩
        · exact Or.inl z
        · exact Or.inr ⟨t, by omega, z⟩
/-- one unit's order: what the law keeps of it (town, strength), the order, the class's orders -/
noncomputable def wt_ord (ft ff gk : Nat → Int32) (L : Nat) (xs : Nat → Int32) (nt t : Nat) (p : (Nat → Int32) × ((Nat → Int32) × (Nat → Int32))) : (Nat → Int32) × ((Nat → Int32) × (Nat → Int32)) :=
  (upd (upd p.1 t (ft (nt * 12 + t))) (12 + t) (ff (nt * 12 + t)), (upd (upd p.2.1 t (wt_ov (wt_xv L xs (60 + 10 * nt + t)) (ft (nt * 12 + t)) (gk t))) t (wt_cap (wt_ov (wt_xv L xs (60 + 10 * nt + t)) (ft (nt * 12 + t)) (gk t))), upd p.2.2 (nt * 12 + t) (wt_cap (wt_ov (wt_xv L xs (60 + 10 * nt + t)) (ft (nt * 12 + t)) (gk t)) + nI 1)))
theorem wt_ord_at {ft ff gk : Nat → Int32} {L : Nat} {xs : Nat → Int32} {nt : Nat} {p : (Nat → Int32) × ((Nat → Int32) × (Nat → Int32))} (hok : ∀ u : Nat, u < 10 → wt_ok (ft (nt * 12 + u))) : ∀ n : Nat, n ≤ 10 →
    (∀ j, (j < nt * 12 ∨ nt * 12 + n ≤ j) → (wt_fold (wt_ord ft ff gk L xs nt) n p).2.2 j = p.2.2 j) ∧
    ∀ u, u < n → (wt_fold (wt_ord ft ff gk L xs nt) n p).1 u = ft (nt * 12 + u) ∧ (wt_fold (wt_ord ft ff gk L xs nt) n p).1 (12 + u) = ff (nt * 12 + u) ∧ wt_ok ((wt_fold (wt_ord ft ff gk L xs nt) n p).2.1 u) ∧ (wt_fold (wt_ord ft ff gk L xs nt) n p).2.2 (nt * 12 + u) - nI 1 = (wt_fold (wt_ord ft ff gk L xs nt) n p).2.1 u
  | 0, _ => ⟨fun _ _ => rfl, fun u h => absurd h (Nat.not_lt_zero _)⟩
  | n + 1, hn => by
    obtain ⟨h1, h2⟩ := wt_ord_at (p := p) hok n (by omega)
    rw [wt_fold_s]
    generalize wt_fold (wt_ord ft ff gk L xs nt) n p = X at h1 h2 ⊢
    have hc := wt_cap_ok (x := wt_xv L xs (60 + 10 * nt + n)) (k := gk n) (hok n (by omega))
    unfold wt_ord
    generalize wt_cap (wt_ov (wt_xv L xs (60 + 10 * nt + n)) (ft (nt * 12 + n)) (gk n)) = v at hc ⊢
    refine ⟨fun j hj => ?_, fun u hu => ?_⟩
    · show upd X.2.2 _ _ j = _
      rw [wt_upd_n (by omega)]; exact h1 j (by omega)
    · show upd (upd X.1 _ _) _ _ u = _ ∧ upd (upd X.1 _ _) _ _ (12 + u) = _ ∧ wt_ok (upd (upd X.2.1 _ _) _ _ u) ∧ upd X.2.2 _ _ (nt * 12 + u) - nI 1 = upd (upd X.2.1 _ _) _ _ u
      by_cases c : u = n
      · subst c
        rw [wt_upd_n (j := u) (by omega), wt_upd_s, wt_upd_s, wt_upd_s, wt_upd_s]
        exact ⟨rfl, rfl, hc, Int32.add_sub_cancel _ _⟩
      · rw [wt_upd_n (j := u) (k := 12 + n) (by omega), wt_upd_n (j := u) c, wt_upd_n (j := 12 + u) (by omega), wt_upd_n (j := 12 + u) (by omega), wt_upd_n (j := u) c, wt_upd_n (j := u) c, wt_upd_n (j := nt * 12 + u) (by omega)]
        exact h2 u (by omega)
/-- the lost ones, taken off one by one -/
noncomputable def wt_lsd (gh ft : Nat → Int32) (k : Nat) (u : Nat) (a : Int32) : Int32 := a - wt_b (¬ gh u < 0 ∧ ft (k * 12 + u) < 0)
theorem wt_lvs_c {ft fa : Nat → Int32} {k n : Nat} (h : ∀ u, u < n → ft (k * 12 + u) = fa (k * 12 + u)) : wt_fold (wt_lvs ft k) n 0 = wt_fold (wt_lvs fa k) n 0 :=
  wt_fold_c (fun u hu a => by unfold wt_lvs; rw [h u hu])
theorem wt_lost_n {gh ft fa : Nat → Int32} {k j : Nat} {x : Int32} (h : ∀ u : Nat, u < 10 → gh u = ft (k * 12 + u) ∧ wt_ok (ft (k * 12 + u)) ∧ wt_ok (fa (j * 12 + u)) ∧ (ft (k * 12 + u) = -1 → fa (j * 12 + u) = -1)) : ∀ n : Nat, n ≤ 10 →
    wt_fold (wt_lvs fa j) n 0 ≤ wt_fold (wt_lvs ft k) n 0 ∧ wt_fold (wt_lvs ft k) n 0 ≤ n ∧ wt_fold (wt_lsd gh fa j) n x = x - nI (wt_fold (wt_lvs ft k) n 0 - wt_fold (wt_lvs fa j) n 0)
  | 0, _ => ⟨Nat.le_refl _, Nat.le_refl _, by show x = x - nI 0; rw [nI_0, Int32.sub_zero]⟩
  | n + 1, hn => by
    obtain ⟨h1, h2, h3⟩ := wt_lost_n (x := x) h n (by omega)
    rw [wt_fold_s, wt_fold_s, wt_fold_s, h3]
    generalize wt_fold (wt_lvs ft k) n 0 = A at h1 h2 ⊢
    generalize wt_fold (wt_lvs fa j) n 0 = B at h1 h2 ⊢
    obtain ⟨g1, g2, g3, g4⟩ := h n (by omega)
    unfold wt_lvs wt_lsd
    rw [g1, Int32.sub_sub]
    by_cases c : ft (k * 12 + n) = -1
    · rw [wt_if_t c, wt_if_t (g4 c), wt_b_f (fun z => z.1 ((wt_m1_lt g2).mpr c)), nI_add]
      exact ⟨h1, by omega, rfl⟩
    · rw [wt_if_f c]
      by_cases d : fa (j * 12 + n) = -1
      · rw [wt_if_t d, wt_b_t ⟨fun z => c ((wt_m1_lt g2).mp z), (wt_m1_lt g3).mpr d⟩, nI_add, show A - B + 1 = A + 1 - B by omega]
        exact ⟨by omega, by omega, rfl⟩
      · rw [wt_if_f d, wt_b_f (fun z => d ((wt_m1_lt g3).mp z.2)), nI_add, show A - B + 0 = A + 1 - (B + 1) by omega]
        exact ⟨by omega, by omega, rfl⟩
theorem wt_lost0 {gh ft fa : Nat → Int32} {k j : Nat} (h : ∀ u : Nat, u < 10 → gh u = ft (k * 12 + u) ∧ wt_ok (ft (k * 12 + u)) ∧ wt_ok (fa (j * 12 + u)) ∧ (ft (k * 12 + u) = -1 → fa (j * 12 + u) = -1)) : wt_fold (wt_lsd gh fa j) 10 (nI (wt_fold (wt_lvs ft k) 10 0) - nI (wt_fold (wt_lvs fa j) 10 0)) = 0 := by
  obtain ⟨h1, h2, h3⟩ := wt_lost_n (x := nI (wt_fold (wt_lvs ft k) 10 0) - nI (wt_fold (wt_lvs fa j) 10 0)) h 10 (Nat.le_refl _)
  rw [h3, pk_sub h1, Int32.sub_self]
/-- sums of strengths fall with the strengths -/
theorem wt_frs_le {fs ff fa : Nat → Int32} {k j d : Nat} (h : ∀ u : Nat, u < 10 → ∃ q q1 : Nat, q ≤ 9 ∧ ff (k * 12 + u) = nI q ∧ fa (j * 12 + u) = nI q1 ∧ q1 ≤ q) : ∀ n : Nat, n ≤ 10 → ∃ a a1 : Nat, a ≤ 9 * n ∧ a1 ≤ a ∧ wt_fold (wt_frs fs ff k d) n (nI 0) = nI a ∧ wt_fold (wt_frs fs fa j d) n (nI 0) = nI a1
  | 0, _ => ⟨0, 0, Nat.le_refl _, Nat.le_refl _, rfl, rfl⟩
  | n + 1, hn => by
    obtain ⟨a, a1, h1, h2, h3, h4⟩ := wt_frs_le (fs := fs) (d := d) h n (by omega)
    obtain ⟨q, q1, g1, g2, g3, g4⟩ := h n (by omega)
    rw [wt_fold_s, wt_fold_s, h3, h4]
    unfold wt_frs
    by_cases c : fs n = nI d
    · rw [wt_if_t c, wt_if_t c, g2, g3, nI_add, nI_add]
      exact ⟨a + q, a1 + q1, by omega, by omega, rfl, rfl⟩
    · rw [wt_if_f c, wt_if_f c]
      exact ⟨a, a1, by omega, h2, rfl, rfl⟩
theorem wt_force_le {fs ff fa : Nat → Int32} {k j d : Nat} (h : ∀ u : Nat, u < 10 → ∃ q q1 : Nat, q ≤ 9 ∧ ff (k * 12 + u) = nI q ∧ fa (j * 12 + u) = nI q1 ∧ q1 ≤ q) : ¬ wt_fold (wt_frs fs ff k d) 10 (nI 0) < wt_fold (wt_frs fs fa j d) 10 (nI 0) := by
  obtain ⟨a, a1, h1, h2, h3, h4⟩ := wt_frs_le (fs := fs) (d := d) h 10 (Nat.le_refl _)
  rw [h3, h4]
  exact nI_nlt h2 (by omega)
theorem wt_has0 {x : Int32} (hx : wt_ok x) : ¬ wt_has (nI 0) x := by
  rcases wt_ok_cases hx with rfl | ⟨t, ht, rfl⟩
  · exact wt_hm
  · exact wt_hz (by omega)
/-- an open road is on the law's map -/
theorem wt_open {f g r : Nat → Int32} (hr : wt_rd f g r) {w : Nat} (hw : w < 3) {P O : Int32} (hO : wt_ok O) (h : wt_has (wt_nxt f g P (nI w)) O) : ¬ w = 2 ∧ vp_in P 10 ∧ ¬ (r P.toNatClampNeg >>> (O &&& 31)) &&& nI 1 = 0 := by
  have hv : vp_in P 10 := by
    by_cases c : vp_in P 10
    · exact c
    · unfold wt_nxt at h
      rw [wt_if_f c] at h
      exact absurd h (wt_has0 hO)
  have h2 : ¬ w = 2 := fun z => by
    rw [z, wt_nxt_snow] at h
    exact wt_has0 hO h
  obtain ⟨a, ha, rfl⟩ := vp_in_of hv (by decide)
  rcases wt_ok_cases hO with rfl | ⟨t, ht, rfl⟩
  · exact absurd h wt_hm
  · refine ⟨h2, hv, ?_⟩
    rw [nI_clamp (by omega)]
    refine wt_sb0 (by omega) ?_
    rw [hr a ha, wt_ho (by omega)]
    have : w = 0 ∨ w = 1 := by omega
    rcases this with rfl | rfl
    · rw [wt_nxt_dry ha, wt_ho (by omega)] at h; exact h
    · unfold wt_nxt at h
      rw [wt_if_t hv, wt_if_f (by decide), wt_if_t rfl, nI_clamp (by omega)] at h
      exact Or.inl h
theorem wt_mv_of {t w u : Nat} {fp fu ft ff fa fb gh gq ga gz : Nat → Int32} {S : Prop} (hw : w < 3) (hg : wt_gd (ft (t * 12 + u)) (ff (t * 12 + u))) (h1 : gh u = ft (t * 12 + u)) (h2 : gh (12 + u) = ff (t * 12 + u)) (hO : wt_ok (gq u)) (hr : wt_rd fp fu ga) (hS : S → ¬ gz u < 0)
    (he : wt_ev (ft (t * 12 + u)) (ff (t * 12 + u)) (fa ((t + 1) * 12 + u)) (fb ((t + 1) * 12 + u)) (gq u) S (wt_has (wt_nxt fp fu (ft (t * 12 + u)) (nI w)) (gq u))) : wt_mv (t + 1) fa fb gh gq ga gz w u := by
  obtain ⟨hok, q0, hq0, hF, hiff⟩ := hg
  obtain ⟨q, q1, e1, e2, e3, e4, e5, e6, e7, e8⟩ := he
  have hqq : q0 = q := (nI_eq (by omega) (by omega)).mp (hF.symm.trans e2)
  subst hqq
  unfold wt_mv
  rw [h1, h2, e2, e3, pk_sub e4]
  refine ⟨⟨nI_pos (by omega), nI_nlt (by omega) (by omega)⟩, ?_, fun z => ?_, fun z1 z2 => ?_⟩
  · rw [wt_m1_lt e7, e6, ← nI_0]
    exact (nI_eq (by omega) (by omega)).symm
  · have := hiff.mp ((wt_m1_lt hok).mp z)
    exact (wt_m1_lt e7).mpr (e6.mpr (by omega))
  · rcases e8 with g | g | ⟨g1, g2, g3⟩
    · exact absurd ((wt_m1_lt e7).mpr g) z1
    · exact absurd g z2
    · obtain ⟨k1, k2, k3⟩ := wt_open hr hw hO g3
      exact ⟨g1, hS g2, k1, k2, by rw [g1]; exact k3⟩
/-- between two turns: t are played -/
def wt_J (t : Nat) (ft ff fo : Nat → Int32) : Prop := (∀ k : Nat, k ≤ t → ∀ u : Nat, u < 10 → wt_ok (ft (k * 12 + u))) ∧ (∀ u : Nat, u < 10 → wt_gd (ft (t * 12 + u)) (ff (t * 12 + u))) ∧ ∀ j : Nat, t * 12 ≤ j → fo j = 0
/-- one turn, played: the rows before stand, and each unit goes as it may -/
def wt_TF (t w : Nat) (fd fp fu fs ft ff fa fb gq : Nat → Int32) : Prop := (∀ j : Nat, j < (t + 1) * 12 → fa j = ft j ∧ fb j = ff j) ∧ ∀ u : Nat, u < 10 → wt_ev (ft (t * 12 + u)) (ff (t * 12 + u)) (fa ((t + 1) * 12 + u)) (fb ((t + 1) * 12 + u)) (gq u) (wt_has (wt_sun fd fp fu fs ft 10 t (nI w)) (nI u)) (wt_has (wt_nxt fp fu (ft (t * 12 + u)) (nI w)) (gq u))
theorem wt_TF_of {t w : Nat} {fd fw fe fp fu fs fo ft ff gq : Nat → Int32} (hg : ∀ u : Nat, u < 10 → wt_gd (ft (t * 12 + u)) (ff (t * 12 + u))) (ho : ∀ u : Nat, u < 10 → wt_ok (gq u) ∧ fo (t * 12 + u) - nI 1 = gq u) :
    wt_TF t w fd fp fu fs ft ff (wt_fold (wt_trn fd (upd fw t (nI w)) fp fu fs fo 10 t) (t + 1 - t) ((ft, ff), fe)).1.1 (wt_fold (wt_trn fd (upd fw t (nI w)) fp fu fs fo 10 t) (t + 1 - t) ((ft, ff), fe)).1.2 gq := by
  have e : (wt_fold (wt_trn fd (upd fw t (nI w)) fp fu fs fo 10 t) (t + 1 - t) ((ft, ff), fe)).1 = wt_tr2 fd fp fu fs fo 10 t (nI w) (ft, ff) := by
    rw [show t + 1 - t = 0 + 1 by omega, wt_fold_s, wt_fold_0]
    show wt_tr2 fd fp fu fs fo 10 t (upd fw t (nI w) t) (ft, ff) = _
    rw [wt_upd_s]
  rw [e]
  obtain ⟨h1, h2⟩ := wt_tr2_at (fd := fd) (fp := fp) (fu := fu) (fs := fs) (fo := fo) (ft := ft) (ff := ff) (cn := 10) (t := t) (w := nI w) (by decide) hg (fun u hu => by rw [(ho u hu).2]; exact (ho u hu).1)
  refine ⟨fun j hj => h1 j (by omega), fun u hu => ?_⟩
  have := h2 u hu
  rw [(ho u hu).2] at this
  exact this
theorem wt_J_next {t w : Nat} {fd fp fu fs ft ff fa fb gq fo fn : Nat → Int32} (hJ : wt_J t ft ff fo) (hT : wt_TF t w fd fp fu fs ft ff fa fb gq) (hn : ∀ j : Nat, (j < t * 12 ∨ t * 12 + 10 ≤ j) → fn j = fo j) : wt_J (t + 1) fa fb fn := by
  obtain ⟨j1, j2, j3⟩ := hJ
  obtain ⟨t1, t2⟩ := hT
  refine ⟨fun k hk u hu => ?_, fun u hu => ?_, fun j hj => ?_⟩
  · by_cases c : k = t + 1
    · subst c
      obtain ⟨q, q1, -, -, -, -, -, -, e7, -⟩ := t2 u hu
      exact e7
    · rw [(t1 (k * 12 + u) (by omega)).1]; exact j1 k (by omega) u hu
  · obtain ⟨q, q1, e1, -, e3, e4, -, e6, e7, -⟩ := t2 u hu
    exact ⟨e7, q1, by omega, e3, e6⟩
  · rw [hn j (by omega)]; exact j3 j (by omega)
theorem wt_lost_of {t w : Nat} {fd fp fu fs ft ff fa fb gq fo gh : Nat → Int32} (hJ : wt_J t ft ff fo) (hT : wt_TF t w fd fp fu fs ft ff fa fb gq) (hh : ∀ u : Nat, u < 10 → gh u = ft (t * 12 + u)) : wt_fold (wt_lsd gh fa (t + 1)) 10 (nI (wt_fold (wt_lvs fa t) 10 0) - nI (wt_fold (wt_lvs fa (t + 1)) 10 0)) = 0 := by
  obtain ⟨j1, j2, j3⟩ := hJ
  obtain ⟨t1, t2⟩ := hT
  rw [wt_lvs_c (fa := ft) (fun u hu => (t1 (t * 12 + u) (by omega)).1)]
  refine wt_lost0 (fun u hu => ?_)
  obtain ⟨hok, q0, hq0, hF, hiff⟩ := j2 u hu
  obtain ⟨q, q1, e1, e2, e3, e4, e5, e6, e7, -⟩ := t2 u hu
  have hqq : q0 = q := (nI_eq (by omega) (by omega)).mp (hF.symm.trans e2)
  exact ⟨hh u hu, hok, e7, fun z => e6.mpr (by have := hiff.mp z; omega)⟩
theorem wt_fall_of {t w d : Nat} {fd fp fu fs ft ff fa fb gq : Nat → Int32} (hT : wt_TF t w fd fp fu fs ft ff fa fb gq) : ¬ wt_fold (wt_frs fs ff t d) 10 (nI 0) < wt_fold (wt_frs fs fb (t + 1) d) 10 (nI 0) := by
  refine wt_force_le (fun u hu => ?_)
  obtain ⟨q, q1, e1, e2, e3, e4, -⟩ := hT.2 u hu
  exact ⟨q, q1, e1, e2, e3, e4⟩
