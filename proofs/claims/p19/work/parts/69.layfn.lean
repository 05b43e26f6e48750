/-! What the law lays: roads and units -/
def wt_one (x : Int32) (t : Nat) : Nat := if t < 9 then t else wt_atN x 10
def wt_oth (x : Int32) (t : Nat) : Nat := if t < 9 then t + 1 else wt_atN (x >>> (nI 4 &&& 31)) 10
noncomputable def wt_pv (x : Int32) : Int32 := wt_if (wt_atN (x >>> (nI 8 &&& 31)) 3 = 0) (nI 0) (nI 1)
def wt_twn (x : Int32) : Nat := if wt_atN x 2 = 0 then wt_atN (x >>> (nI 2 &&& 31)) 4 else 9 - wt_atN (x >>> (nI 2 &&& 31)) 4
theorem wt_one_a {x : Int32} {t : Nat} (h : t < 9) : t = wt_one x t := (if_pos h).symm
theorem wt_one_b {x : Int32} {t : Nat} (h : ¬ t < 9) : wt_atN x 10 = wt_one x t := (if_neg h).symm
theorem wt_oth_a {x : Int32} {t : Nat} (h : t < 9) : t + 1 = wt_oth x t := (if_pos h).symm
theorem wt_oth_b {x : Int32} {t : Nat} (h : ¬ t < 9) : wt_atN (x >>> (nI 4 &&& 31)) 10 = wt_oth x t := (if_neg h).symm
theorem wt_twn_a {x : Int32} (h : wt_atN x 2 = 0) : wt_atN (x >>> (nI 2 &&& 31)) 4 = wt_twn x := (if_pos h).symm
theorem wt_twn_b {x : Int32} (h : ¬ wt_atN x 2 = 0) : 9 - wt_atN (x >>> (nI 2 &&& 31)) 4 = wt_twn x := (if_neg h).symm
theorem wt_one_lt (x : Int32) (t : Nat) : wt_one x t < 10 := by
  by_cases h : t < 9
  · rw [← wt_one_a h]; omega
  · rw [← wt_one_b h]; exact wt_atN_lt _ (by omega)
theorem wt_oth_lt (x : Int32) (t : Nat) : wt_oth x t < 10 := by
  by_cases h : t < 9
  · rw [← wt_oth_a h]; omega
  · rw [← wt_oth_b h]; exact wt_atN_lt _ (by omega)
theorem wt_twn_in (x : Int32) : (wt_atN x 2 = 0 ∧ wt_twn x ≤ 3) ∨ (wt_atN x 2 = 1 ∧ 6 ≤ wt_twn x ∧ wt_twn x ≤ 9) := by
  have h2 := wt_atN_lt x (n := 2) (by omega)
  have h4 := wt_atN_lt (x >>> (nI 2 &&& 31)) (n := 4) (by omega)
  by_cases h : wt_atN x 2 = 0
  · left; refine ⟨h, ?_⟩; rw [← wt_twn_a h]; omega
  · right; refine ⟨by omega, ?_⟩; rw [← wt_twn_b h]; omega
/-- the state: paved and unpaved roads; the law's own map, and how many roads -/
noncomputable def wt_ly1 (L : Nat) (xs : Nat → Int32) (t : Nat) (p : ((Nat → Int32) × (Nat → Int32)) × ((Nat → Int32) × Nat)) : ((Nat → Int32) × (Nat → Int32)) × ((Nat → Int32) × Nat) :=
  wt_if (wt_one (wt_xv L xs t) t = wt_oth (wt_xv L xs t) t) p (wt_if (((p.2.1 (wt_one (wt_xv L xs t) t)) >>> (nI (wt_oth (wt_xv L xs t) t) &&& 31)) &&& nI 1 = nI 1) p
    ((wt_if (wt_pv (wt_xv L xs t) = 0) p.1.1 (wt_jn p.1.1 (wt_one (wt_xv L xs t) t) (wt_oth (wt_xv L xs t) t)), wt_if (wt_pv (wt_xv L xs t) = 0) (wt_jn p.1.2 (wt_one (wt_xv L xs t) t) (wt_oth (wt_xv L xs t) t)) p.1.2), (wt_jn p.2.1 (wt_one (wt_xv L xs t) t) (wt_oth (wt_xv L xs t) t), p.2.2 + 1)))
section WTY
variable {L : Nat} {xs : Nat → Int32} {t : Nat} {p : ((Nat → Int32) × (Nat → Int32)) × ((Nat → Int32) × Nat)}
theorem wt_ly1_a (h : wt_one (wt_xv L xs t) t = wt_oth (wt_xv L xs t) t) : wt_ly1 L xs t p = p := wt_if_t h
theorem wt_ly1_b (h : ¬ wt_one (wt_xv L xs t) t = wt_oth (wt_xv L xs t) t) (h2 : ((p.2.1 (wt_one (wt_xv L xs t) t)) >>> (nI (wt_oth (wt_xv L xs t) t) &&& 31)) &&& nI 1 = nI 1) : wt_ly1 L xs t p = p := (wt_if_f h).trans (wt_if_t h2)
theorem wt_ly1_c (h : ¬ wt_one (wt_xv L xs t) t = wt_oth (wt_xv L xs t) t) (h2 : ¬ ((p.2.1 (wt_one (wt_xv L xs t) t)) >>> (nI (wt_oth (wt_xv L xs t) t) &&& 31)) &&& nI 1 = nI 1) : wt_ly1 L xs t p = ((wt_if (wt_pv (wt_xv L xs t) = 0) p.1.1 (wt_jn p.1.1 (wt_one (wt_xv L xs t) t) (wt_oth (wt_xv L xs t) t)), wt_if (wt_pv (wt_xv L xs t) = 0) (wt_jn p.1.2 (wt_one (wt_xv L xs t) t) (wt_oth (wt_xv L xs t) t)) p.1.2), (wt_jn p.2.1 (wt_one (wt_xv L xs t) t) (wt_oth (wt_xv L xs t) t), p.2.2 + 1)) := (wt_if_f h).trans (wt_if_f h2)
end WTY
theorem wt_jn_at {f : Nat → Int32} {a b j : Nat} (hab : a ≠ b) : wt_jn f a b j = wt_if (j = b) (f j ||| wt_bit (nI a)) (wt_if (j = a) (f j ||| wt_bit (nI b)) (f j)) := by
  unfold wt_jn
  by_cases c : j = b
  · subst c
    rw [wt_upd_s, wt_upd_n (Ne.symm hab), wt_if_t rfl]
  · rw [wt_upd_n c, wt_if_f c]
    by_cases d : j = a
    · subst d; rw [wt_upd_s, wt_if_t rfl]
    · rw [wt_upd_n d, wt_if_f d]
theorem wt_jn_or1 {f g : Nat → Int32} {a b j : Nat} (hab : a ≠ b) : wt_jn (fun k => f k ||| g k) a b j = wt_jn f a b j ||| g j := by
  rw [wt_jn_at hab, wt_jn_at hab]
  have e : ∀ x y z : Int32, x ||| y ||| z = x ||| z ||| y := fun x y z => by rw [Int32.or_assoc, Int32.or_comm y z, ← Int32.or_assoc]
  by_cases c : j = b
  · rw [wt_if_t c, wt_if_t c]; exact e _ _ _
  · rw [wt_if_f c, wt_if_f c]
    by_cases d : j = a
    · rw [wt_if_t d, wt_if_t d]; exact e _ _ _
    · rw [wt_if_f d, wt_if_f d]
theorem wt_jn_or2 {f g : Nat → Int32} {a b j : Nat} (hab : a ≠ b) : wt_jn (fun k => f k ||| g k) a b j = f j ||| wt_jn g a b j := by
  rw [wt_jn_at hab, wt_jn_at hab]
  by_cases c : j = b
  · rw [wt_if_t c, wt_if_t c]; exact Int32.or_assoc _ _ _
  · rw [wt_if_f c, wt_if_f c]
    by_cases d : j = a
    · rw [wt_if_t d, wt_if_t d]; exact Int32.or_assoc _ _ _
    · rw [wt_if_f d, wt_if_f d]
theorem wt_jn_c {f g : Nat → Int32} {a b j : Nat} (ha : a < 10) (hb : b < 10) (hj : j < 10) (h : ∀ k, k < 10 → f k = g k) : wt_jn f a b j = wt_jn g a b j := by
  by_cases hab : a = b
  · subst hab
    unfold wt_jn
    by_cases c : j = a
    · subst c; rw [wt_upd_s, wt_upd_s, wt_upd_s, wt_upd_s, h j hj]
    · rw [wt_upd_n c, wt_upd_n c, wt_upd_n c, wt_upd_n c, h j hj]
  · rw [wt_jn_at hab, wt_jn_at hab, h j hj]
/-- the roads so far: the class's and the law's own -/
def wt_rd (f g a : Nat → Int32) : Prop := ∀ j : Nat, j < 10 → a j = f j ||| g j
theorem wt_ly1_inv {L : Nat} {xs : Nat → Int32} {p : ((Nat → Int32) × (Nat → Int32)) × ((Nat → Int32) × Nat)} (h : wt_rd p.1.1 p.1.2 p.2.1) : ∀ n : Nat, (wt_fold (wt_ly1 L xs) n p).2.2 ≤ p.2.2 + n ∧ wt_rd (wt_fold (wt_ly1 L xs) n p).1.1 (wt_fold (wt_ly1 L xs) n p).1.2 (wt_fold (wt_ly1 L xs) n p).2.1
  | 0 => ⟨Nat.le_refl _, h⟩
  | n + 1 => by
    obtain ⟨h1, h2⟩ := wt_ly1_inv h n
    rw [wt_fold_s]
    generalize wt_fold (wt_ly1 L xs) n p = X at h1 h2 ⊢
    by_cases c : wt_one (wt_xv L xs n) n = wt_oth (wt_xv L xs n) n
    · rw [wt_ly1_a c]; exact ⟨by omega, h2⟩
    · by_cases d : ((X.2.1 (wt_one (wt_xv L xs n) n)) >>> (nI (wt_oth (wt_xv L xs n) n) &&& 31)) &&& nI 1 = nI 1
      · rw [wt_ly1_b c d]; exact ⟨by omega, h2⟩
      · rw [wt_ly1_c c d]
        refine ⟨by show X.2.2 + 1 ≤ p.2.2 + (n + 1); omega, fun j hj => ?_⟩
        show wt_jn X.2.1 _ _ j = wt_if (wt_pv (wt_xv L xs n) = 0) X.1.1 (wt_jn X.1.1 _ _) j ||| wt_if (wt_pv (wt_xv L xs n) = 0) (wt_jn X.1.2 _ _) X.1.2 j
        rw [wt_jn_c (wt_one_lt _ _) (wt_oth_lt _ _) hj (g := fun k => X.1.1 k ||| X.1.2 k) (fun k hk => h2 k hk)]
        by_cases e : wt_pv (wt_xv L xs n) = 0
        · rw [wt_if_t e, wt_if_t e]; exact wt_jn_or2 c
        · rw [wt_if_f e, wt_if_f e]; exact wt_jn_or1 c
theorem wt_nxt_dry {f g : Nat → Int32} {a : Nat} (ha : a < 10) : wt_nxt f g (nI a) (nI 0) = f a ||| g a := by
  unfold wt_nxt
  rw [wt_if_t (vp_in_nI ha (by decide)), wt_if_f (by decide), wt_if_f (by decide), nI_clamp (by omega)]
theorem wt_ly_hj {f g r : Nat → Int32} (h : wt_rd f g r) {a b : Nat} (ha : a < 10) (hb : b < 10) (c : ¬ ((r a) >>> (nI b &&& 31)) &&& nI 1 = nI 1) : ¬ wt_has (wt_nxt f g (nI a) (nI 0)) (nI b) := by
  rw [wt_nxt_dry ha, ← h a ha]
  exact fun z => c ((wt_sb b (by omega) _).mpr z)
/-- the state: the law's sides and the class's, towns and strengths -/
noncomputable def wt_ly2 (L : Nat) (xs : Nat → Int32) (t : Nat) (p : ((Nat → Int32) × (Nat → Int32)) × ((Nat → Int32) × (Nat → Int32))) : ((Nat → Int32) × (Nat → Int32)) × ((Nat → Int32) × (Nat → Int32)) :=
  ((upd p.1.1 t (nI (wt_atN (wt_xv L xs (20 + t)) 2)), upd p.1.2 t (nI (wt_atN (wt_xv L xs (20 + t)) 2))), (wt_plT p.2.1 0 t (nI (wt_twn (wt_xv L xs (20 + t)))) (nI (1 + wt_atN ((wt_xv L xs (20 + t)) >>> (nI 5 &&& 31)) 9)), wt_plF p.2.2 0 t (nI (1 + wt_atN ((wt_xv L xs (20 + t)) >>> (nI 5 &&& 31)) 9))))
theorem wt_ly2_inv {L : Nat} {xs : Nat → Int32} {p : ((Nat → Int32) × (Nat → Int32)) × ((Nat → Int32) × (Nat → Int32))} : ∀ n : Nat, n ≤ 10 → ∀ u : Nat, u < n → (wt_fold (wt_ly2 L xs) n p).1.1 u = nI (wt_atN (wt_xv L xs (20 + u)) 2) ∧ (wt_fold (wt_ly2 L xs) n p).1.2 u = nI (wt_atN (wt_xv L xs (20 + u)) 2) ∧ (wt_fold (wt_ly2 L xs) n p).2.1 (0 * 12 + u) = nI (wt_twn (wt_xv L xs (20 + u))) ∧ (wt_fold (wt_ly2 L xs) n p).2.2 (0 * 12 + u) = nI (1 + wt_atN ((wt_xv L xs (20 + u)) >>> (nI 5 &&& 31)) 9)
  | 0, _, u, h => absurd h (Nat.not_lt_zero _)
  | n + 1, hn, u, hu => by
    rw [wt_fold_s]
    have ih := wt_ly2_inv (L := L) (xs := xs) (p := p) n (by omega)
    generalize wt_fold (wt_ly2 L xs) n p = X at ih ⊢
    show upd X.1.1 n _ u = _ ∧ upd X.1.2 n _ u = _ ∧ upd X.2.1 (0 * 12 + n) _ (0 * 12 + u) = _ ∧ upd X.2.2 (0 * 12 + n) _ (0 * 12 + u) = _
    have h9 := wt_atN_lt ((wt_xv L xs (20 + n)) >>> (nI 5 &&& 31)) (n := 9) (by omega)
    by_cases c : u = n
    · subst c
      rw [wt_upd_s, wt_upd_s, wt_upd_s, wt_upd_s, wt_max_0 (by omega), wt_if_t (by have := nI_lt (a := 0) (b := 1 + wt_atN ((wt_xv L xs (20 + u)) >>> (nI 5 &&& 31)) 9) (by omega) (by omega); rw [nI_0] at this; exact this)]
      exact ⟨rfl, rfl, rfl, rfl⟩
    · rw [wt_upd_n c, wt_upd_n c, wt_upd_n (by omega), wt_upd_n (by omega)]
      exact ih u (by omega)
theorem wt_ly2_hh {L : Nat} {xs : Nat → Int32} {p : ((Nat → Int32) × (Nat → Int32)) × ((Nat → Int32) × (Nat → Int32))} {nt i : Nat} (h0 : nt = 0) (hi : i < 10) : ¬ wt_has (wt_held (wt_fold (wt_ly2 L xs) i p).1.2 (wt_fold (wt_ly2 L xs) i p).2.1 nt (1 - wt_atN (wt_xv L xs (20 + i)) 2) i) (nI (wt_twn (wt_xv L xs (20 + i)))) := by
  subst h0
  have inv := wt_ly2_inv (L := L) (xs := xs) (p := p) i (by omega)
  have hi9 := wt_twn_in (wt_xv L xs (20 + i))
  rw [wt_held_iff (fun u hu => ?_) (by omega)]
  · intro ⟨u, a1, a2, a3⟩
    obtain ⟨-, b2, b3, -⟩ := inv u a1
    have hu9 := wt_twn_in (wt_xv L xs (20 + u))
    have c1 := (nI_eq (by omega) (by omega)).mp (b2.symm.trans a2)
    have c2 := (nI_eq (by omega) (by omega)).mp (b3.symm.trans a3)
    omega
  · obtain ⟨-, -, b3, -⟩ := inv u hu
    have hu9 := wt_twn_in (wt_xv L xs (20 + u))
    rw [b3]
    exact Or.inr (vp_in_nI (by omega) (by decide))
