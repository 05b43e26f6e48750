/-! Each call, here and there -/
section WTO
variable {fd fw fe fp fu fs ft ff fo gt gw pa de si to sr od ne mw sn ru be pl mf su go fa xh : Nat → Int32} {it nt nr cn rc : Nat}
theorem wt_R_up (h : wt_R it nt nr cn rc fd fw fe fp fu fs ft ff fo gt gw pa de si to sr od ne mw sn ru be) : wt_R (it + 1) nt nr cn rc fd fw fe fp fu fs ft ff fo gt gw pa de si to sr od ne mw sn ru be := ⟨⟨h.1.1, h.1.2.1, h.1.2.2.1, Nat.le_succ_of_le h.1.2.2.2⟩, h.2⟩
-- roads
theorem wt_jn_has {f : Nat → Int32} {a b i j : Nat} (hab : a ≠ b) (ha : a < 10) (hb : b < 10) (hj : j < 10) : wt_has (wt_jn f a b i) (nI j) ↔ wt_has (f i) (nI j) ∨ (i = a ∧ j = b) ∨ (i = b ∧ j = a) := by
  unfold wt_jn
  by_cases c : i = b
  · rw [c, wt_upd_s, wt_upd_n (Ne.symm hab), wt_ho (by omega), wt_h1 (by omega) (by omega)]
    exact ⟨fun z => z.elim Or.inl (fun z => Or.inr (Or.inr ⟨rfl, z.symm⟩)), fun z => z.elim Or.inl (fun z => z.elim (fun z => absurd z.1 (Ne.symm hab)) (fun z => Or.inr z.2.symm))⟩
  · rw [wt_upd_n c]
    by_cases d : i = a
    · rw [d, wt_upd_s, wt_ho (by omega), wt_h1 (by omega) (by omega)]
      exact ⟨fun z => z.elim Or.inl (fun z => Or.inr (Or.inl ⟨rfl, z.symm⟩)), fun z => z.elim Or.inl (fun z => z.elim (fun z => Or.inr z.2.symm) (fun z => absurd z.1 hab))⟩
    · rw [wt_upd_n d]
      exact ⟨Or.inl, fun z => z.elim id (fun z => z.elim (fun z => absurd z.1 d) (fun z => absurd z.1 c))⟩
theorem wt_join_iff (hm : wt_Rm fp fu pa) {a b : Nat} (ha : a < 10) (hb : b < 10) : wt_has (wt_nxt fp fu (nI a) (nI 0)) (nI b) ↔ 0 < pa (10 * a + b) := by
  rw [wt_nxt_iff hm (vp_in_nI (by decide) (by decide)) ha hb]
  exact ⟨fun z => z.1, fun z => ⟨z, Or.inl nI_0⟩⟩
theorem wt_Rm_add (hm : wt_Rm fp fu pa) {a b : Nat} {z : Int32} (ha : a < 10) (hb : b < 10) (hab : a ≠ b) (hj : ¬ 0 < pa (10 * a + b)) : wt_Rm (wt_if (z = 0) fp (wt_jn fp a b)) (wt_if (z = 0) (wt_jn fu a b) fu) (upd (upd pa (10 * a + b) (wt_if (z = 0) (nI 1) (nI 2))) (10 * b + a) (wt_if (z = 0) (nI 1) (nI 2))) := by
  have h0 : pa (10 * a + b) = nI 0 := by
    rcases (hm a b ha hb).2.2.1 with q | q | q
    · exact q
    · exact absurd (by rw [q]; decide) hj
    · exact absurd (by rw [q]; decide) hj
  have h0' : pa (10 * b + a) = nI 0 := by rw [← (hm a b ha hb).2.2.2]; exact h0
  generalize hv : wt_if (z = 0) (nI 1) (nI 2) = v
  have e : ∀ i j : Nat, i < 10 → j < 10 → upd (upd pa (10 * a + b) v) (10 * b + a) v (10 * i + j) = wt_if ((i = a ∧ j = b) ∨ (i = b ∧ j = a)) v (pa (10 * i + j)) := by
    intro i j hi hj
    by_cases c : i = b ∧ j = a
    · rw [c.1, c.2, wt_upd_s, wt_if_t (Or.inr ⟨rfl, rfl⟩)]
    · rw [wt_upd_n (by omega)]
      by_cases d : i = a ∧ j = b
      · rw [d.1, d.2, wt_upd_s, wt_if_t (Or.inl ⟨rfl, rfl⟩)]
      · rw [wt_upd_n (by omega), wt_if_f (fun q => q.elim d c)]
  intro i j hi hjj
  rw [e i j hi hjj, e j i hjj hi]
  obtain ⟨m1, m2, m3, m4⟩ := hm i j hi hjj
  by_cases c : (i = a ∧ j = b) ∨ (i = b ∧ j = a)
  · rw [wt_if_t c, wt_if_t (c.elim (fun q => Or.inr ⟨q.2, q.1⟩) (fun q => Or.inl ⟨q.2, q.1⟩))]
    have p0 : pa (10 * i + j) = nI 0 := by
      rcases c with c | c
      · rw [c.1, c.2]; exact h0
      · rw [c.1, c.2]; exact h0'
    rw [p0] at m1 m2
    have f1 : ¬ wt_has (fp i) (nI j) := fun q => absurd (m1.mp q) (by decide)
    have f2 : ¬ wt_has (fu i) (nI j) := fun q => absurd (m2.mp q) (by decide)
    by_cases hz : z = 0
    · rw [wt_if_t hz] at hv
      subst hv
      rw [wt_if_t hz, wt_if_t hz, wt_jn_has hab ha hb hjj]
      exact ⟨⟨fun q => absurd q f1, fun q => absurd q (by decide)⟩, ⟨fun _ => rfl, fun _ => Or.inr c⟩, Or.inr (Or.inl rfl), rfl⟩
    · rw [wt_if_f hz] at hv
      subst hv
      rw [wt_if_f hz, wt_if_f hz, wt_jn_has hab ha hb hjj]
      exact ⟨⟨fun _ => rfl, fun _ => Or.inr c⟩, ⟨fun q => absurd q f2, fun q => absurd q (by decide)⟩, Or.inr (Or.inr rfl), rfl⟩
  · rw [wt_if_f c, wt_if_f (P := (j = a ∧ i = b) ∨ (j = b ∧ i = a)) (fun q => c (q.elim (fun q => Or.inr ⟨q.2, q.1⟩) (fun q => Or.inl ⟨q.2, q.1⟩)))]
    by_cases hz : z = 0
    · rw [wt_if_t hz, wt_if_t hz, wt_jn_has hab ha hb hjj]
      exact ⟨m1, ⟨fun q => q.elim m2.mp (fun q => absurd q c), fun q => Or.inl (m2.mpr q)⟩, m3, m4⟩
    · rw [wt_if_f hz, wt_if_f hz, wt_jn_has hab ha hb hjj]
      exact ⟨⟨fun q => q.elim m1.mp (fun q => absurd q c), fun q => Or.inl (m1.mpr q)⟩, m2, m3, m4⟩
theorem wt_R_road (h : wt_R it nt nr cn rc fd fw fe fp fu fs ft ff fo gt gw pa de si to sr od ne mw sn ru be) {a b : Nat} {z : Int32} (ha : a < 10) (hb : b < 10) (hab : a ≠ b) (hj : ¬ 0 < pa (10 * a + b)) (hnr : nr < 15) : wt_R (it + 1) nt (nr + 1) cn rc fd fw fe (wt_if (z = 0) fp (wt_jn fp a b)) (wt_if (z = 0) (wt_jn fu a b) fu) fs ft ff fo gt gw (upd (upd pa (10 * a + b) (wt_if (z = 0) (nI 1) (nI 2))) (10 * b + a) (wt_if (z = 0) (nI 1) (nI 2))) de si to sr od ne mw sn ru be :=
  ⟨⟨h.1.1, hnr, h.1.2.2.1, Nat.le_succ_of_le h.1.2.2.2⟩, h.2.1, h.2.2.1, wt_Rm_add h.2.2.2.1 ha hb hab hj, h.2.2.2.2⟩
theorem wt_R_depot (h : wt_R it nt nr cn rc fd fw fe fp fu fs ft ff fo gt gw pa de si to sr od ne mw sn ru be) {d t : Nat} (hd : d < 2) (ht : t < 10) : wt_R (it + 1) nt nr cn rc (upd fd d (nI t)) fw fe fp fu fs ft ff fo gt gw pa (upd de d (nI t)) si to sr od ne mw sn ru be := by
  refine ⟨⟨h.1.1, h.1.2.1, h.1.2.2.1, Nat.le_succ_of_le h.1.2.2.2⟩, fun k hk => ?_, h.2.2⟩
  by_cases c : k = d
  · rw [c, wt_upd_s, wt_upd_s]
    exact ⟨rfl, vp_in_nI ht (by decide)⟩
  · rw [wt_upd_n c, wt_upd_n c]
    exact h.2.1 k hk
theorem wt_ok_RT (hT : wt_RT cn nt ft ff to sr fe sn) {k : Nat} (hk : k ≤ nt) : ∀ u, u < cn → wt_ok (ft (k * 12 + u)) := fun u hu => by rw [(hT.1 k hk u hu).1]; exact (hT.1 k hk u hu).2.2.1
theorem wt_unit_iff (hT : wt_RT cn nt ft ff to sr fe sn) (hs : wt_Rs cn fs si) (h0 : nt = 0) {d t : Nat} (ht : t < 10) : wt_has (wt_held fs ft nt (1 - d) cn) (nI t) ↔ wt_hld si (wt_p0 to pl cn 0) cn (nI t) (nI (1 - d)) := by
  subst h0
  rw [wt_held_iff (wt_ok_RT hT (Nat.le_refl _)) (by omega)]
  unfold wt_hld
  refine ⟨fun ⟨v, a1, a2, a3⟩ => ⟨v, a1, by rw [← (hs v a1).1]; exact a2, ?_⟩, fun ⟨v, a1, a2, a3⟩ => ⟨v, a1, by rw [(hs v a1).1]; exact a2, ?_⟩⟩
  · rw [wt_p0_at a1, ← (hT.1 0 (Nat.le_refl _) v a1).1]; exact a3
  · rw [(hT.1 0 (Nat.le_refl _) v a1).1, ← wt_p0_at (to := to) (pl := pl) (t := 0) a1]; exact a3
theorem wt_R_unit (h : wt_R it nt nr cn rc fd fw fe fp fu fs ft ff fo gt gw pa de si to sr od ne mw sn ru be) (h0 : nt = 0) {d t q : Nat} (hd : d < 2) (ht : t < 10) (hq1 : 1 ≤ q) (hq2 : q ≤ 9) (hcn : cn < 12) : wt_R (it + 1) nt nr (cn + 1) rc fd fw fe fp fu (upd fs cn (nI d)) (wt_plT ft 0 cn (nI t) (nI q)) (wt_plF ff 0 cn (nI q)) fo gt gw pa de (upd si cn (nI d)) (upd to cn (nI t)) (upd sr cn (nI q)) od ne mw sn ru be := by
  subst h0
  obtain ⟨⟨h1, h2, h3, h4⟩, hD, hS, hM, hT, hO, hN, hW, hG⟩ := h
  refine ⟨⟨h1, h2, hcn, Nat.le_succ_of_le h4⟩, hD, fun u hu => ?_, hM, ⟨fun k hk u hu => ?_, fun k hk => absurd hk (Nat.not_lt_zero _)⟩, fun k hk => absurd hk (Nat.not_lt_zero _), hN, hW, hG⟩
  · by_cases c : u = cn
    · rw [c, wt_upd_s, wt_upd_s]
      have : d = 0 ∨ d = 1 := by omega
      exact ⟨rfl, this.elim (fun z => Or.inl (by rw [z])) (fun z => Or.inr (by rw [z]))⟩
    · rw [wt_upd_n c, wt_upd_n c]
      exact hS u (by omega)
  · have hk0 : k = 0 := Nat.le_zero.mp hk
    subst hk0
    unfold wt_plT wt_plF
    have hpos : (0 : Int32) < nI q := by
      have := nI_lt (show 0 < q by omega) (show q < 2 ^ 31 by omega)
      rw [nI_0] at this
      exact this
    rw [wt_if_t hpos, wt_max_0 (by omega)]
    by_cases c : u = cn
    · subst c
      rw [show 12 * 0 + u = u by omega, wt_upd_s, wt_upd_s, wt_upd_s, wt_upd_s]
      exact ⟨rfl, rfl, Or.inr (vp_in_nI ht (by decide)), q, hq2, rfl, ⟨fun z => absurd z (wt_ne_m1 (by omega)), fun z => by omega⟩⟩
    · rw [wt_upd_n (by omega), wt_upd_n (by omega), wt_upd_n (by omega), wt_upd_n (by omega)]
      exact hT.1 0 hk u (by omega)
theorem wt_addsub {y : Int32} : (y + nI 1) - nI 1 = y := by rw [Int32.sub_eq_add_neg, Int32.add_assoc, Int32.add_right_neg, Int32.add_zero]
theorem wt_R_order (h : wt_R it nt nr cn rc fd fw fe fp fu fs ft ff fo gt gw pa de si to sr od ne mw sn ru be) {u : Nat} {y : Int32} (hu : u < cn) (hy : wt_ok y) : wt_R (it + 1) nt nr cn rc fd fw fe fp fu fs ft ff (upd fo (nt * 12 + u) (y + nI 1)) gt gw pa de si to sr od (upd ne u y) mw sn ru be := by
  obtain ⟨⟨h1, h2, h3, h4⟩, hD, hS, hM, hT, hO, hN, hW, hG⟩ := h
  refine ⟨⟨h1, h2, h3, Nat.le_succ_of_le h4⟩, hD, hS, hM, hT, fun k hk v hv => ?_, ⟨fun v hv => ?_, fun j hj => ?_⟩, hW, hG⟩
  · rw [wt_upd_n (by omega)]
    exact hO k hk v hv
  · by_cases c : v = u
    · rw [c, wt_upd_s, wt_upd_s]
      exact ⟨wt_addsub, hy⟩
    · rw [wt_upd_n (by omega), wt_upd_n c]
      exact hN.1 v hv
  · rw [wt_upd_n (by omega)]
    exact hN.2 j hj
theorem wt_Rw_upd (hW : wt_Rw nt fw mw) {t : Nat} {w : Int32} (hw : vp_in w 3) : wt_Rw nt (upd fw t w) (upd mw t w) := by
  intro k hk
  by_cases c : k = t
  · rw [c, wt_upd_s, wt_upd_s]
    exact ⟨rfl, hw⟩
  · rw [wt_upd_n c, wt_upd_n c]
    exact hW k hk
theorem wt_R_play (h : wt_R it nt nr cn rc fd fw fe fp fu fs ft ff fo gt gw pa de si to sr od ne mw sn ru be) {w : Int32} (hnt : nt < 20) (hw : vp_in w 3) : wt_R (it + 1) (nt + 1) nr cn rc fd (upd fw nt w) ((wt_fold (wt_trn fd (upd fw nt w) fp fu fs fo cn nt) ((nt + 1) - nt) ((ft, ff), fe)).2) fp fu fs ((wt_fold (wt_trn fd (upd fw nt w) fp fu fs fo cn nt) ((nt + 1) - nt) ((ft, ff), fe)).1.1) ((wt_fold (wt_trn fd (upd fw nt w) fp fu fs fo cn nt) ((nt + 1) - nt) ((ft, ff), fe)).1.2) fo gt gw pa de si ((wt_ptn pa de si (wt_fold (wt_od1 ne nt) 12 od) (upd mw nt w) cn nt to sr sn pl mf su go fa).1) ((wt_ptn pa de si (wt_fold (wt_od1 ne nt) 12 od) (upd mw nt w) cn nt to sr sn pl mf su go fa).2.1) ((wt_fold (wt_od1 ne nt) 12 od)) ((wt_fold wt_nx1 12 ne)) ((upd mw nt w)) ((wt_ptn pa de si (wt_fold (wt_od1 ne nt) 12 od) (upd mw nt w) cn nt to sr sn pl mf su go fa).2.2.1) ru be := by
  obtain ⟨⟨h1, h2, h3, h4⟩, hD, hS, hM, hT, hO, hN, hW, hG⟩ := h
  have hod : ∀ u, u < cn → fo (nt * 12 + u) - nI 1 = (wt_fold (wt_od1 ne nt) 12 od) (12 * nt + u) ∧ wt_ok ((wt_fold (wt_od1 ne nt) 12 od) (12 * nt + u)) := fun u hu => by rw [wt_od_in (by omega)]; exact hN.1 u (by omega)
  have T := wt_turn (fd := fd) (od := (wt_fold (wt_od1 ne nt) 12 od)) (mw := (upd mw nt w)) (w := w) (pl := pl) (mf := mf) (su := su) (go := go) (fa := fa) (fe := fe) (sn := sn) h3 hM hw wt_upd_s hD hS hod hT
  have e : (wt_fold (wt_trn fd (upd fw nt w) fp fu fs fo cn nt) ((nt + 1) - nt) ((ft, ff), fe)) = ((wt_tr2 fd fp fu fs fo cn nt w (ft, ff)), upd fe nt (wt_sig fp fu fs (wt_tr2 fd fp fu fs fo cn nt w (ft, ff)).1 cn (nt + 1))) := by
    rw [show nt + 1 - nt = 1 by omega, wt_fold_s, wt_fold_0]
    unfold wt_trn
    rw [show nt + 0 = nt from rfl, wt_upd_s]
  rw [e]
  refine ⟨⟨hnt, h2, h3, Nat.le_succ_of_le h4⟩, hD, hS, hM, T.1, fun k hk u hu => ?_, ⟨fun u hu => ?_, fun j hj => hN.2 j (by omega)⟩, fun k hk => ?_, fun i hi => ?_⟩
  · by_cases c : k = nt
    · rw [c]
      exact hod u hu
    · rw [wt_od_out (by omega)]
      exact hO k (by omega) u hu
  · rw [hN.2 _ (by omega), wt_nx_in hu]
    exact ⟨by decide, Or.inl rfl⟩
  · by_cases c : k = nt
    · rw [c, wt_upd_s, wt_upd_s]
      exact ⟨rfl, hw⟩
    · rw [wt_upd_n c, wt_upd_n c]
      exact hW k (by omega)
  · obtain ⟨g1, g2, ⟨t, ht, g3⟩, g4⟩ := hG i hi
    exact ⟨g1, g2, ⟨t, by omega, g3⟩, g4⟩
theorem wt_lv_lb {k : Nat} (hr : wt_Rr cn k ft ff to sr) : ∀ n : Nat, n ≤ cn → wt_fold (wt_lvs ft k) n 0 + wt_fold (wt_lbs sr k) n 0 = n
  | 0, _ => rfl
  | n + 1, hn => by
    rw [wt_fold_s, wt_fold_s]
    have ih := wt_lv_lb hr n (by omega)
    generalize wt_fold (wt_lvs ft k) n 0 = X at ih ⊢
    generalize wt_fold (wt_lbs sr k) n 0 = Y at ih ⊢
    unfold wt_lvs wt_lbs
    obtain ⟨a1, -, -, q, hq, a2, a3⟩ := hr n (by omega)
    rw [a1, a2]
    by_cases c : q = 0
    · rw [wt_if_t (a3.mpr c), wt_if_t (by rw [c]; exact nI_0)]
      omega
    · rw [wt_if_f (fun z => c (a3.mp z)), wt_if_f (nI_ne0 (by omega) (by omega))]
      omega
theorem wt_dif {A B C D : Nat} (h : A + D = C + B) : nI A - nI B = nI C - nI D := by
  have e : nI A + nI D = nI C + nI B := by rw [nI_add, nI_add, h]
  have e1 : nI A = nI C + nI B - nI D := by rw [← e, Int32.sub_eq_add_neg, Int32.add_assoc, Int32.add_right_neg, Int32.add_zero]
  rw [e1, Int32.sub_eq_add_neg, Int32.sub_eq_add_neg, Int32.sub_eq_add_neg, Int32.add_assoc, Int32.add_comm (-nI D), ← Int32.add_assoc, Int32.add_assoc (nI C), Int32.add_right_neg, Int32.add_zero]
theorem wt_lost (hT : wt_RT cn (nt + 1) ft ff to sr fe sn) : nI (wt_fold (wt_lvs ft nt) cn 0) - nI (wt_fold (wt_lvs ft (nt + 1)) cn 0) = nI (wt_fold (wt_lbs sr (nt + 1)) cn 0) - nI (wt_fold (wt_lbs sr nt) cn 0) := by
  have a := wt_lv_lb (hT.1 nt (by omega)) cn (Nat.le_refl _)
  have b := wt_lv_lb (hT.1 (nt + 1) (by omega)) cn (Nat.le_refl _)
  exact wt_dif (by omega)
theorem wt_cps_at {fr to2 : Nat} (hne : fr ≠ to2) (hr : wt_Rr cn fr ft ff to sr) : ∀ n : Nat, n ≤ cn → cn ≤ 12 →
    (∀ j, (j < to2 * 12 ∨ to2 * 12 + n ≤ j) → (wt_fold (wt_cps fr to2) n (ft, ff)).1 j = ft j ∧ (wt_fold (wt_cps fr to2) n (ft, ff)).2 j = ff j) ∧
    ∀ u, u < n → (wt_fold (wt_cps fr to2) n (ft, ff)).1 (to2 * 12 + u) = to (12 * fr + u) ∧ (wt_fold (wt_cps fr to2) n (ft, ff)).2 (to2 * 12 + u) = sr (12 * fr + u)
  | 0, _, _ => ⟨fun _ _ => ⟨rfl, rfl⟩, fun u h => absurd h (Nat.not_lt_zero _)⟩
  | n + 1, hn, hc => by
    obtain ⟨h1, h2⟩ := wt_cps_at hne hr n (by omega) hc
    rw [wt_fold_s]
    generalize wt_fold (wt_cps fr to2) n (ft, ff) = X at h1 h2 ⊢
    have e := h1 (fr * 12 + n) (by omega)
    obtain ⟨a1, a2, -, q, hq, a4, a5⟩ := hr n (by omega)
    unfold wt_cps wt_pl wt_plT wt_plF
    rw [e.1, e.2, a1, a2, a4, wt_max_0 (by omega)]
    have hv : wt_if (0 < nI q) (to (12 * fr + n)) (-1) = to (12 * fr + n) := by
      by_cases c : q = 0
      · rw [wt_if_f (by rw [c, nI_0]; decide), a5.mpr c]
      · have hpos : (0 : Int32) < nI q := by
          have := nI_lt (show 0 < q by omega) (show q < 2 ^ 31 by omega)
          rw [nI_0] at this
          exact this
        rw [wt_if_t hpos]
    rw [hv, ← a4]
    refine ⟨fun j hj => ⟨?_, ?_⟩, fun u hu => ⟨?_, ?_⟩⟩
    · show upd X.1 _ _ j = _
      rw [wt_upd_n (by omega)]; exact (h1 j (by omega)).1
    · show upd X.2 _ _ j = _
      rw [wt_upd_n (by omega)]; exact (h1 j (by omega)).2
    · show upd X.1 _ _ _ = _
      by_cases c : u = n
      · rw [c, wt_upd_s]
      · rw [wt_upd_n (by omega)]; exact (h2 u (by omega)).1
    · show upd X.2 _ _ _ = _
      by_cases c : u = n
      · rw [c, wt_upd_s]
      · rw [wt_upd_n (by omega)]; exact (h2 u (by omega)).2
theorem wt_RT_le {n : Nat} (hT : wt_RT cn nt ft ff to sr fe sn) (hn : n ≤ nt) : wt_RT cn n ft ff to sr fe sn := ⟨fun k hk => hT.1 k (by omega), fun k hk => hT.2 k (by omega)⟩
theorem wt_RT_cp {n : Nat} {g1 g2 : Nat → Int32} (hT : wt_RT cn n ft ff to sr fe sn) (hg : ∀ j, j < (n + 1) * 12 → g1 j = ft j ∧ g2 j = ff j) (hc : cn ≤ 12) : wt_RT cn n g1 g2 to sr fe sn := ⟨fun k hk u hu => by
  have := hg (k * 12 + u) (by have := Nat.mul_le_mul_right 12 hk; omega)
  rw [this.1, this.2]
  exact hT.1 k hk u hu, hT.2⟩
/-- all again from turn t on, w its weather -/
theorem wt_again_at (h : wt_R it nt nr cn rc fd fw fe fp fu fs ft ff fo gt gw pa de si to sr od ne mw sn ru be) {t : Nat} {w : Int32} (ht : t < nt) (hw : vp_in w 3) {g1 g2 : Nat → Int32} (hg : ∀ j, j < (nt + 1) * 12 → g1 j = ft j ∧ g2 j = ff j) :
    (∀ rc2 gt2 gw2 ru2 be2, rc2 ≤ it + 1 → wt_Rg nt rc2 gt2 gw2 ru2 be2 → wt_R (it + 1) nt nr cn rc2 fd (upd fw t w) (wt_fold (wt_trn fd (upd fw t w) fp fu fs fo cn t) (nt - t) ((g1, g2), fe)).2 fp fu fs (wt_fold (wt_trn fd (upd fw t w) fp fu fs fo cn t) (nt - t) ((g1, g2), fe)).1.1 (wt_fold (wt_trn fd (upd fw t w) fp fu fs fo cn t) (nt - t) ((g1, g2), fe)).1.2 fo gt2 gw2 pa de si (wt_fold (wt_ags pa de si od (upd mw t w) cn t) (nt - t) (to, sr, sn, pl, mf, su, go, fa)).1 (wt_fold (wt_ags pa de si od (upd mw t w) cn t) (nt - t) (to, sr, sn, pl, mf, su, go, fa)).2.1 od ne (upd mw t w) (wt_fold (wt_ags pa de si od (upd mw t w) cn t) (nt - t) (to, sr, sn, pl, mf, su, go, fa)).2.2.1 ru2 be2) ∧ ∀ i, (nt + 1) * 12 ≤ i → (wt_fold (wt_trn fd (upd fw t w) fp fu fs fo cn t) (nt - t) ((g1, g2), fe)).1.1 i = g1 i ∧ (wt_fold (wt_trn fd (upd fw t w) fp fu fs fo cn t) (nt - t) ((g1, g2), fe)).1.2 i = g2 i := by
  obtain ⟨⟨h1, h2, h3, h4⟩, hD, hS, hM, hT, hO, hN, hW, hG⟩ := h
  have hW2 := wt_Rw_upd (t := t) hW hw
  have T0 := wt_RT_cp (wt_RT_le hT (Nat.le_of_lt ht)) (fun j hj => hg j (by have := Nat.mul_le_mul_right 12 (show t + 1 ≤ nt + 1 by omega); omega)) h3
  have T := wt_turns (fd := fd) (fw := upd fw t w) (de := de) (od := od) (mw := upd mw t w) (pl := pl) (mf := mf) (su := su) (go := go) (fa := fa) (n := nt) h3 hM hD hS hW2 hO T0 (nt - t) (by omega)
  rw [show t + (nt - t) = nt by omega] at T
  exact ⟨fun rc2 gt2 gw2 ru2 be2 hrc hG2 => ⟨⟨h1, h2, h3, hrc⟩, hD, hS, hM, T.1, hO, hN, hW2, hG2⟩, T.2⟩
theorem wt_10 : ∀ a, a < 10 → ∀ p, p < 10 → ∀ b, b < 10 → ∀ q, q < 10 → nI 10 * nI a + nI p = nI 10 * nI b + nI q → a = b ∧ p = q := by
  intro a ha p hp b hb q hq h
  rw [pk_mul, pk_mul, nI_add, nI_add, nI_eq (by omega) (by omega)] at h
  omega
theorem wt_gd_inj {x y p q : Int32} (h1 : wt_gd x p) (h2 : wt_gd y q) (h : nI 10 * x + p = nI 10 * y + q) : x = y ∧ p = q := by
  obtain ⟨hx, i, hi, rfl, hxi⟩ := h1
  obtain ⟨hy, j, hj, rfl, hyj⟩ := h2
  have m : nI 10 * (-1 : Int32) + nI 0 = -10 := by decide
  rcases wt_ok_cases hx with c | ⟨a, ha, c⟩
  · have i0 := hxi.mp c
    subst i0 c
    rw [m] at h
    rcases wt_ok_cases hy with d | ⟨b, hb, d⟩
    · have j0 := hyj.mp d
      subst j0 d
      exact ⟨rfl, rfl⟩
    · subst d
      rw [pk_mul, nI_add] at h
      have := congrArg Int32.toInt h
      rw [nI_toInt (by omega), show (-10 : Int32).toInt = -10 by decide] at this
      omega
  · subst c
    rcases wt_ok_cases hy with d | ⟨b, hb, d⟩
    · have j0 := hyj.mp d
      subst j0 d
      rw [m, pk_mul, nI_add] at h
      have := congrArg Int32.toInt h
      rw [nI_toInt (by omega), show (-10 : Int32).toInt = -10 by decide] at this
      omega
    · subst d
      obtain ⟨r1, r2⟩ := wt_10 a ha i (by omega) b hb j (by omega) h
      rw [r1, r2]
      exact ⟨rfl, rfl⟩
theorem wt_hd_at {u : Nat} (hu : u < cn) : wt_fold (wt_hd1 to sr nt) cn xh u = nI 10 * to (12 * nt + u) + sr (12 * nt + u) := by
  rw [wt_fold_at (wt_hd1 to sr nt) (fun k => nI 10 * to (12 * nt + k) + sr (12 * nt + k)) (fun _ _ => rfl), wt_if_t hu]
theorem wt_R_rule (h : wt_R it nt nr cn rc fd fw fe fp fu fs ft ff fo gt gw pa de si to sr od ne mw sn ru be) {t : Nat} {w : Int32} (ht : t < nt) (hw : vp_in w 3) : wt_R (it + 1) nt nr cn (rc + 1) fd (upd fw t w) ((wt_fold (wt_trn fd (upd fw t w) fp fu fs fo cn t) (nt - t) (((wt_fold (wt_cps nt 21) cn (ft, ff)).1, (wt_fold (wt_cps nt 21) cn (ft, ff)).2), fe)).2) fp fu fs ((wt_fold (wt_trn fd (upd fw t w) fp fu fs fo cn t) (nt - t) (((wt_fold (wt_cps nt 21) cn (ft, ff)).1, (wt_fold (wt_cps nt 21) cn (ft, ff)).2), fe)).1.1) ((wt_fold (wt_trn fd (upd fw t w) fp fu fs fo cn t) (nt - t) (((wt_fold (wt_cps nt 21) cn (ft, ff)).1, (wt_fold (wt_cps nt 21) cn (ft, ff)).2), fe)).1.2) fo (upd gt rc (nI t)) (upd gw rc (fw t)) pa de si ((wt_fold (wt_ags pa de si od (upd mw t w) cn t) (nt - t) (to, sr, sn, pl, mf, su, go, fa)).1) ((wt_fold (wt_ags pa de si od (upd mw t w) cn t) (nt - t) (to, sr, sn, pl, mf, su, go, fa)).2.1) od ne (upd mw t w) ((wt_fold (wt_ags pa de si od (upd mw t w) cn t) (nt - t) (to, sr, sn, pl, mf, su, go, fa)).2.2.1) (upd ru rc (nI t)) (upd be rc (mw t)) ∧ nI (wt_fold (wt_dfs (wt_fold (wt_trn fd (upd fw t w) fp fu fs fo cn t) (nt - t) (((wt_fold (wt_cps nt 21) cn (ft, ff)).1, (wt_fold (wt_cps nt 21) cn (ft, ff)).2), fe)).1.1 (wt_fold (wt_trn fd (upd fw t w) fp fu fs fo cn t) (nt - t) (((wt_fold (wt_cps nt 21) cn (ft, ff)).1, (wt_fold (wt_cps nt 21) cn (ft, ff)).2), fe)).1.2 21 nt) cn 0) = nI (wt_fold (wt_agn (wt_fold (wt_ags pa de si od (upd mw t w) cn t) (nt - t) (to, sr, sn, pl, mf, su, go, fa)).1 (wt_fold (wt_ags pa de si od (upd mw t w) cn t) (nt - t) (to, sr, sn, pl, mf, su, go, fa)).2.1 (wt_fold (wt_hd1 to sr nt) cn xh) nt) cn 0) := by
  have hT := h.2.2.2.2.1
  have hc := h.1.2.2.1
  have hn := h.1.1
  obtain ⟨c1, c2⟩ := wt_cps_at (to2 := 21) (by omega) (hT.1 nt (Nat.le_refl _)) cn (Nat.le_refl _) hc
  obtain ⟨r1, r2⟩ := wt_again_at (pl := pl) (mf := mf) (su := su) (go := go) (fa := fa) h ht hw (g1 := (wt_fold (wt_cps nt 21) cn (ft, ff)).1) (g2 := (wt_fold (wt_cps nt 21) cn (ft, ff)).2) (fun j hj => c1 j (Or.inl (by omega)))
  have hr := r1 rc gt gw ru be (Nat.le_succ_of_le h.1.2.2.2) h.2.2.2.2.2.2.2.2
  refine ⟨r1 (rc + 1) _ _ _ _ (Nat.succ_le_succ h.1.2.2.2) (fun i hi => ?_), congrArg nI ?_⟩
  · by_cases c : i = rc
    · rw [c, wt_upd_s, wt_upd_s, wt_upd_s, wt_upd_s]
      exact ⟨rfl, (h.2.2.2.2.2.2.2.1 t ht).1, ⟨t, ht, rfl⟩, (h.2.2.2.2.2.2.2.1 t ht).2⟩
    · rw [wt_upd_n c, wt_upd_n c, wt_upd_n c, wt_upd_n c]
      exact h.2.2.2.2.2.2.2.2 i (by omega)
  · have hT2 := hr.2.2.2.2.1.1 nt (Nat.le_refl _)
    refine wt_fold_c (fun u hu n => ?_)
    unfold wt_dfs wt_agn
    obtain ⟨a1, a2, a3⟩ := hT2 u hu
    rw [wt_hd_at hu, (r2 (21 * 12 + u) (by omega)).1, (r2 (21 * 12 + u) (by omega)).2, (c2 u hu).1, (c2 u hu).2, a1, a2]
    have old := (hT.1 nt (Nat.le_refl _) u hu).2.2
    by_cases c : nI 10 * to (12 * nt + u) + sr (12 * nt + u) = nI 10 * (wt_fold (wt_ags pa de si od (upd mw t w) cn t) (nt - t) (to, sr, sn, pl, mf, su, go, fa)).1 (12 * nt + u) + (wt_fold (wt_ags pa de si od (upd mw t w) cn t) (nt - t) (to, sr, sn, pl, mf, su, go, fa)).2.1 (12 * nt + u)
    · obtain ⟨e1, e2⟩ := wt_gd_inj old a3 c
      rw [wt_if_t c, wt_if_t e1, wt_if_t e2]
    · rw [wt_if_f c]
      by_cases e1 : to (12 * nt + u) = (wt_fold (wt_ags pa de si od (upd mw t w) cn t) (nt - t) (to, sr, sn, pl, mf, su, go, fa)).1 (12 * nt + u)
      · rw [wt_if_t e1, wt_if_f (fun e2 => c (by rw [e1, e2]))]
      · rw [wt_if_f e1]
theorem wt_R_appeal (h : wt_R it nt nr cn rc fd fw fe fp fu fs ft ff fo gt gw pa de si to sr od ne mw sn ru be) {t : Nat} (h0 : 0 < rc) (ht : t < nt) : wt_R (it + 1) nt nr cn (rc - 1) fd (upd fw t (gw (rc - 1))) ((wt_fold (wt_trn fd (upd fw t (gw (rc - 1))) fp fu fs fo cn t) (nt - t) ((ft, ff), fe)).2) fp fu fs ((wt_fold (wt_trn fd (upd fw t (gw (rc - 1))) fp fu fs fo cn t) (nt - t) ((ft, ff), fe)).1.1) ((wt_fold (wt_trn fd (upd fw t (gw (rc - 1))) fp fu fs fo cn t) (nt - t) ((ft, ff), fe)).1.2) fo gt gw pa de si ((wt_fold (wt_ags pa de si od (upd mw t (be (rc - 1))) cn t) (nt - t) (to, sr, sn, pl, mf, su, go, fa)).1) ((wt_fold (wt_ags pa de si od (upd mw t (be (rc - 1))) cn t) (nt - t) (to, sr, sn, pl, mf, su, go, fa)).2.1) od ne (upd mw t (be (rc - 1))) ((wt_fold (wt_ags pa de si od (upd mw t (be (rc - 1))) cn t) (nt - t) (to, sr, sn, pl, mf, su, go, fa)).2.2.1) ru be := by
  have hg := h.2.2.2.2.2.2.2.2 (rc - 1) (by omega)
  rw [hg.2.1]
  exact (wt_again_at (pl := pl) (mf := mf) (su := su) (go := go) (fa := fa) h ht hg.2.2.2 (g1 := ft) (g2 := ff) (fun j hj => ⟨rfl, rfl⟩)).1 (rc - 1) _ _ _ _ (by have := h.1.2.2.2; omega) (fun i hi => h.2.2.2.2.2.2.2.2 i (by omega))
theorem wt_R_top (h : wt_R it nt nr cn rc fd fw fe fp fu fs ft ff fo gt gw pa de si to sr od ne mw sn ru be) (h0 : 0 < rc) : ∃ t : Nat, t < nt ∧ gt (rc - 1) = nI t ∧ ru (rc - 1) = nI t := by
  obtain ⟨g1, -, ⟨t, ht, g2⟩, -⟩ := h.2.2.2.2.2.2.2.2 (rc - 1) (by omega)
  exact ⟨t, ht, g1.trans g2, g2⟩
theorem wt_last_c {P Q : Nat → Prop} {g k : Nat → Int32} : ∀ {n : Nat}, (∀ q, q < n → (P q ↔ Q q) ∧ (Q q → g q = k q)) → wt_last P g n = wt_last Q k n
  | 0, _ => rfl
  | n + 1, h => by
    by_cases c : Q n
    · rw [wt_last_t c, wt_last_t ((h n (by omega)).1.mpr c), (h n (by omega)).2 c]
    · rw [wt_last_f c, wt_last_f (fun z => c ((h n (by omega)).1.mp z)), wt_last_c (fun q hq => h q (by omega))]
theorem wt_told_eq (h : wt_R it nt nr cn rc fd fw fe fp fu fs ft ff fo gt gw pa de si to sr od ne mw sn ru be) {u : Nat} (hu : u < cn) : wt_last (fun t => wt_has (fe t) (nI u)) (fun t => ft ((t + 1) * 12 + u)) (nt - 2) = wt_last (fun t => ¬ sn (12 * t + u) = -1) (fun t => sn (12 * t + u)) (nt - 2) :=
  wt_last_c (fun q hq => ⟨(h.2.2.2.2.1.2 q (by omega) u hu).1, fun z => by rw [(h.2.2.2.2.1.1 (q + 1) (by omega) u hu).1]; exact ((h.2.2.2.2.1.2 q (by omega) u hu).2 z).symm⟩)
theorem wt_force_eq (h : wt_R it nt nr cn rc fd fw fe fp fu fs ft ff fo gt gw pa de si to sr od ne mw sn ru be) {d : Nat} : wt_fold (wt_frs fs ff nt d) cn (nI 0) = wt_fold (wt_frm si sr nt d) cn (nI 0) := by
  refine wt_fold_c (fun u hu a => ?_)
  unfold wt_frs wt_frm
  rw [(h.2.2.1 u hu).1, (h.2.2.2.2.1.1 nt (Nat.le_refl _) u hu).2.1, nI_0, Int32.add_zero]
theorem wt_supply_eq (h : wt_R it nt nr cn rc fd fw fe fp fu fs ft ff fo gt gw pa de si to sr od ne mw sn ru be) {u d : Nat} {w : Int32} (hu : u < cn) (hw : vp_in w 3) (hd2 : d < 2) (hfs : fs u = nI d) : wt_least (fun q => wt_has (wt_sup fd fp fu fs ft cn nt d w q) (ft (nt * 12 + u))) 5 = wt_spo pa de si (wt_p0 to pl cn nt) cn w u fa := by
  obtain ⟨⟨h1, h2, h3, h4⟩, hD0, hs, hm, hT, -⟩ := h
  have hr := hT.1 nt (Nat.le_refl _)
  have hsi : si u = nI d := by rw [← (hs u hu).1]; exact hfs
  obtain ⟨hfd, hvd⟩ := hD0 d hd2
  obtain ⟨D, hD, hdD⟩ := vp_in_of hvd (by decide)
  obtain ⟨e1, e2, hok, -⟩ := hr u hu
  rw [e1]
  rcases wt_ok_cases hok with c | ⟨A, hA, c⟩
  · rw [c, wt_least_none (fun q _ => wt_hm)]
    unfold wt_spo
    exact (wt_if_t (by rw [wt_p0_at hu]; exact c)).symm
  · rw [c, wt_spo_at (D := D) hA (by rw [wt_p0_at hu]; exact c) hD (by rw [hsi, nI_clamp (by omega)]; exact hdD)]
    have hsf : (fun y : Nat => ¬ ∃ v : Nat, v < cn ∧ fs v = nI (1 - d) ∧ ft (nt * 12 + v) = nI y) = (fun y : Nat => ¬ wt_hld si (wt_p0 to pl cn nt) cn (nI y) (nI 1 - si u)) := by
      funext y
      unfold wt_hld
      rw [hsi, wt_sub1 hd2]
      refine propext (not_congr ⟨fun ⟨v, a1, a2, a3⟩ => ⟨v, a1, ?_, ?_⟩, fun ⟨v, a1, a2, a3⟩ => ⟨v, a1, ?_, ?_⟩⟩)
      · rw [← (hs v a1).1]; exact a2
      · rw [wt_p0_at a1, ← (hr v a1).1]; exact a3
      · rw [(hs v a1).1]; exact a2
      · rw [(hr v a1).1, ← wt_p0_at (to := to) (pl := pl) (t := nt) a1]; exact a3
    refine wt_least_c (fun q hq => ?_)
    rw [wt_sup_iff hm hw hD (hfd.trans hdD) (wt_ok_RT hT (Nat.le_refl _)) q hA, hsf]
    exact ⟨fun z => wt_rc_sym hm hD hA z, fun z => wt_rc_sym hm hA hD z⟩
theorem wt_R_de (h : wt_R it nt nr cn rc fd fw fe fp fu fs ft ff fo gt gw pa de si to sr od ne mw sn ru be) : ∀ q : Nat, q < 2 → vp_in (de q) 10 := fun q hq => (h.2.1 q hq).2
theorem wt_R_si (h : wt_R it nt nr cn rc fd fw fe fp fu fs ft ff fo gt gw pa de si to sr od ne mw sn ru be) : ∀ u : Nat, u < cn → vp_in (si u) 2 := fun u hu => (h.2.2.1 u hu).2.elim (fun z => by rw [z]; exact vp_in_nI (by decide) (by decide)) (fun z => by rw [z]; exact vp_in_nI (by decide) (by decide))
theorem wt_R_to (h : wt_R it nt nr cn rc fd fw fe fp fu fs ft ff fo gt gw pa de si to sr od ne mw sn ru be) {k : Nat} (hk : k ≤ nt) : ∀ u : Nat, u < cn → wt_ok (to (12 * k + u)) := fun u hu => (h.2.2.2.2.1.1 k hk u hu).2.2.1
theorem wt_R_od (h : wt_R it nt nr cn rc fd fw fe fp fu fs ft ff fo gt gw pa de si to sr od ne mw sn ru be) : ∀ k : Nat, k < nt → ∀ u : Nat, u < cn → wt_ok (od (12 * k + u)) := fun k hk u hu => (h.2.2.2.2.2.1 k hk u hu).2
theorem wt_R_ne (h : wt_R it nt nr cn rc fd fw fe fp fu fs ft ff fo gt gw pa de si to sr od ne mw sn ru be) : ∀ u : Nat, u < cn → wt_ok (ne u) := fun u hu => (h.2.2.2.2.2.2.1.1 u (by have := h.1.2.2.1; omega)).2
end WTO
theorem wt_R_0 : wt_R 0 0 0 0 0 (upd (fun _ => 0) 1 (nI 9)) (fun _ => 0) (fun _ => 0) (fun _ => 0) (fun _ => 0) (fun _ => 0) (fun _ => 0) (fun _ => 0) (fun _ => 0) (fun _ => 0) (fun _ => 0) (fun _ => 0) (upd (fun _ => 0) 1 (nI 9)) (fun _ => 0) (fun _ => 0) (fun _ => 0) (fun _ => 0) (wt_fold wt_nx1 12 (fun _ => 0)) (fun _ => 0) (fun _ => 0) (fun _ => 0) (fun _ => 0) := by
  refine ⟨⟨by decide, by decide, by decide, by decide⟩, fun d hd => ⟨rfl, ?_⟩, fun u hu => absurd hu (Nat.not_lt_zero _), fun a b ha hb => ?_, ⟨fun k _ u hu => absurd hu (Nat.not_lt_zero _), fun k hk => absurd hk (Nat.not_lt_zero _)⟩, fun k hk => absurd hk (Nat.not_lt_zero _), ⟨fun u hu => ?_, fun _ _ => rfl⟩, fun k hk => absurd hk (Nat.not_lt_zero _), fun k hk => absurd hk (Nat.not_lt_zero _)⟩
  · by_cases c : d = 1
    · rw [c, wt_upd_s]; exact vp_in_nI (by decide) (by decide)
    · rw [wt_upd_n c, ← nI_0]; exact vp_in_nI (by decide) (by decide)
  · refine ⟨⟨fun z => ?_, fun z => absurd (show (0 : Int32) = nI 2 from z) (by decide)⟩, ⟨fun z => ?_, fun z => absurd (show (0 : Int32) = nI 1 from z) (by decide)⟩, Or.inl nI_0.symm, rfl⟩
    · exact absurd (by rw [nI_0]; exact z) (wt_hz (j := b) (by omega))
    · exact absurd (by rw [nI_0]; exact z) (wt_hz (j := b) (by omega))
  · rw [wt_nx_in hu]
    exact ⟨show (0 : Int32) - nI 1 = -1 by decide, Or.inl rfl⟩
