/-! What stands when the law has laid the map and the units; orders given; supply asked -/
theorem wt_rd_0 : wt_rd (fun _ => 0) (fun _ => 0) (fun _ => 0) := fun _ _ => show (0 : Int32) = 0 ||| 0 by decide
theorem wt_laid (L : Nat) (xs : Nat → Int32) : ∃ (fd fp fu : Nat → Int32) (nr : Nat) (ga gk fs ft ff : Nat → Int32),
    (upd (fun _ => 0) 1 (nI 9)) = fd ∧ (wt_fold (wt_ly1 L xs) 14 (((fun _ => 0), (fun _ => 0)), ((fun _ => 0), 0))).1.1 = fp ∧ (wt_fold (wt_ly1 L xs) 14 (((fun _ => 0), (fun _ => 0)), ((fun _ => 0), 0))).1.2 = fu ∧ (wt_fold (wt_ly1 L xs) 14 (((fun _ => 0), (fun _ => 0)), ((fun _ => 0), 0))).2.2 = nr ∧ (wt_fold (wt_ly1 L xs) 14 (((fun _ => 0), (fun _ => 0)), ((fun _ => 0), 0))).2.1 = ga ∧
    (wt_fold (wt_ly2 L xs) 10 (((fun _ => 0), (fun _ => 0)), ((fun _ => 0), (fun _ => 0)))).1.1 = gk ∧ (wt_fold (wt_ly2 L xs) 10 (((fun _ => 0), (fun _ => 0)), ((fun _ => 0), (fun _ => 0)))).1.2 = fs ∧ (wt_fold (wt_ly2 L xs) 10 (((fun _ => 0), (fun _ => 0)), ((fun _ => 0), (fun _ => 0)))).2.1 = ft ∧ (wt_fold (wt_ly2 L xs) 10 (((fun _ => 0), (fun _ => 0)), ((fun _ => 0), (fun _ => 0)))).2.2 = ff ∧
    fd 0 = nI 0 ∧ fd 1 = nI 9 ∧ wt_rd fp fu ga ∧ (∀ u : Nat, u < 10 → fs u = gk u) ∧ (∀ u : Nat, u < 10 → gk u = nI 0 ∨ gk u = nI 1) ∧ wt_J 0 ft ff (fun _ => 0) := by
  refine ⟨_, _, _, _, _, _, _, _, _, rfl, rfl, rfl, rfl, rfl, rfl, rfl, rfl, rfl, ?_, wt_upd_s, (wt_ly1_inv wt_rd_0 14).2, ?_, ?_, ?_⟩
  · rw [wt_upd_n (by omega)]; exact nI_0.symm
  all_goals
    have inv := wt_ly2_inv (L := L) (xs := xs) (p := (((fun _ => 0), (fun _ => 0)), ((fun _ => 0), (fun _ => 0)))) 10 (Nat.le_refl _)
    generalize wt_fold (wt_ly2 L xs) 10 (((fun _ => 0), (fun _ => 0)), ((fun _ => 0), (fun _ => 0))) = X at inv ⊢
  · intro u hu
    obtain ⟨a1, a2, -, -⟩ := inv u hu
    exact a2.trans a1.symm
  · intro u hu
    obtain ⟨a1, -, -, -⟩ := inv u hu
    have := wt_atN_lt (wt_xv L xs (20 + u)) (n := 2) (by omega)
    rcases (show wt_atN (wt_xv L xs (20 + u)) 2 = 0 ∨ wt_atN (wt_xv L xs (20 + u)) 2 = 1 by omega) with z | z
    · left; rw [a1, z]
    · right; rw [a1, z]
  · have hok : ∀ u : Nat, u < 10 → wt_gd (X.2.1 (0 * 12 + u)) (X.2.2 (0 * 12 + u)) := by
      intro u hu
      obtain ⟨-, -, a3, a4⟩ := inv u hu
      have h1 := wt_twn_in (wt_xv L xs (20 + u))
      have h2 := wt_atN_lt ((wt_xv L xs (20 + u)) >>> (nI 5 &&& 31)) (n := 9) (by omega)
      exact ⟨by rw [a3]; exact Or.inr (vp_in_nI (by omega) (by decide)), _, by omega, a4, ⟨fun z => absurd (a3.symm.trans z) (wt_ne_m1 (by omega)), fun z => by omega⟩⟩
    refine ⟨fun k hk u hu => ?_, hok, fun _ _ => rfl⟩
    have : k = 0 := by omega
    subst this
    exact (hok u hu).1
theorem wt_ordered {ft ff gk gh gq fo : Nat → Int32} {L : Nat} {xs : Nat → Int32} {nt : Nat} (hok : ∀ u : Nat, u < 10 → wt_ok (ft (nt * 12 + u))) : ∃ gh9 gq9 fo9 : Nat → Int32, (wt_fold (wt_ord ft ff gk L xs nt) 10 (gh, (gq, fo))).1 = gh9 ∧ (wt_fold (wt_ord ft ff gk L xs nt) 10 (gh, (gq, fo))).2.1 = gq9 ∧ (wt_fold (wt_ord ft ff gk L xs nt) 10 (gh, (gq, fo))).2.2 = fo9 ∧
    (∀ j, (j < nt * 12 ∨ nt * 12 + 10 ≤ j) → fo9 j = fo j) ∧ ∀ u, u < 10 → gh9 u = ft (nt * 12 + u) ∧ gh9 (12 + u) = ff (nt * 12 + u) ∧ wt_ok (gq9 u) ∧ fo9 (nt * 12 + u) - nI 1 = gq9 u := by
  obtain ⟨h1, h2⟩ := wt_ord_at (ft := ft) (ff := ff) (gk := gk) (L := L) (xs := xs) (nt := nt) (p := (gh, (gq, fo))) hok 10 (Nat.le_refl _)
  exact ⟨_, _, _, rfl, rfl, rfl, h1, h2⟩
theorem wt_ord_new {ft ff gk gh gq fo : Nat → Int32} {L : Nat} {xs : Nat → Int32} {nt i : Nat} (hok : ∀ u : Nat, u < 10 → wt_ok (ft (nt * 12 + u))) (h0 : ∀ j : Nat, nt * 12 ≤ j → fo j = 0) (hi : i < 10) : (wt_fold (wt_ord ft ff gk L xs nt) i (gh, (gq, fo))).2.2 (nt * 12 + i) - nI 1 = -1 := by
  rw [(wt_ord_at (ft := ft) (ff := ff) (gk := gk) (L := L) (xs := xs) (nt := nt) (p := (gh, (gq, fo))) hok i (by omega)).1 _ (by omega)]
  show fo (nt * 12 + i) - nI 1 = -1
  rw [h0 _ (by omega)]
  decide
def wt_w3v (n : Nat) : Nat := if 2 < n then 0 else n
theorem wt_w3a {n : Nat} (h : 2 < n) : 0 = wt_w3v n := (if_pos h).symm
theorem wt_w3b {n : Nat} (h : ¬ 2 < n) : n = wt_w3v n := (if_neg h).symm
theorem wt_w3l (n : Nat) : wt_w3v n < 3 := by
  unfold wt_w3v
  split <;> omega
theorem wt_zst_at {fd fp fu fs ft gz : Nat → Int32} {cn k : Nat} {w : Int32} : ∀ {n u : Nat}, u < n → wt_fold (wt_zst fd fp fu fs ft cn k w) n gz u = wt_Z fd fp fu fs ft cn k w u
  | 0, _, h => absurd h (Nat.not_lt_zero _)
  | n + 1, u, h => by
    rw [wt_fold_s]
    unfold wt_zst
    by_cases c : u = n
    · subst c; exact wt_upd_s
    · rw [wt_upd_n c]; exact wt_zst_at (by omega)
theorem wt_hzz {fd fp fu fs ft gk gz : Nat → Int32} {k : Nat} {w : Int32} (hok : ∀ u : Nat, u < 10 → wt_ok (ft (k * 12 + u))) (hfk : ∀ u : Nat, u < 10 → fs u = gk u) (hs : ∀ u : Nat, u < 10 → gk u = nI 0 ∨ gk u = nI 1) (hd0 : fd 0 = nI 0) (hd1 : fd 1 = nI 9) {u : Nat} (hu : u < 10) : wt_has (wt_sun fd fp fu fs ft 10 k w) (nI u) → ¬ wt_fold (wt_zst fd fp fu fs ft 10 k w) 10 gz u < 0 := by
  rw [wt_zst_at hu]
  exact (wt_spq (fp := fp) (fu := fu) (w := w) rfl hok hfk hs hd0 hd1 hu).2.2.2.2.2.2
