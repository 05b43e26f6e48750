/-! What the public methods compute -/
/-- the least number below n with P, -1 if there is none -/
noncomputable def wt_least (P : Nat → Prop) : Nat → Int32
  | 0 => -1
  | n + 1 => wt_if (∃ q : Nat, q < n ∧ P q) (wt_least P n) (wt_if (P n) (nI n) (-1))
theorem wt_least_none {P : Nat → Prop} : ∀ {n : Nat}, (∀ q, q < n → ¬ P q) → wt_least P n = -1
  | 0, _ => rfl
  | n + 1, h => by
    show wt_if _ _ _ = _
    rw [wt_if_f (fun z => by obtain ⟨q, hq, z⟩ := z; exact h q (by omega) z), wt_if_f (h n (by omega))]
theorem wt_least_eq {P : Nat → Prop} {i : Nat} (h : ∀ q, q < i → ¬ P q) (hi : P i) : ∀ {n : Nat}, i < n → wt_least P n = nI i
  | 0, hn => absurd hn (Nat.not_lt_zero _)
  | n + 1, hn => by
    show wt_if _ _ _ = _
    by_cases c : i = n
    · subst c
      rw [wt_if_f (fun z => by obtain ⟨q, hq, z⟩ := z; exact h q hq z), wt_if_t hi]
    · rw [wt_if_t ⟨i, by omega, hi⟩]
      exact wt_least_eq h hi (by omega)
/-- the value at the last number below n with P, -1 if there is none -/
noncomputable def wt_last (P : Nat → Prop) (g : Nat → Int32) : Nat → Int32
  | 0 => -1
  | n + 1 => wt_if (P n) (g n) (wt_last P g n)
theorem wt_last_t {P : Nat → Prop} {g : Nat → Int32} {n : Nat} (h : P n) : wt_last P g (n + 1) = g n := wt_if_t h
theorem wt_last_f {P : Nat → Prop} {g : Nat → Int32} {n : Nat} (h : ¬ P n) : wt_last P g (n + 1) = wt_last P g n := wt_if_f h
theorem wt_last_0 {P : Nat → Prop} {g : Nat → Int32} : wt_last P g 0 = -1 := rfl
theorem wt_dec_0 {i : Nat} (h : i = 0) : nI i + Int32.ofInt (-1) = -1 := by rw [h]; decide
theorem wt_m12 {n : Nat} (h : 3 ≤ n) (hn : n ≤ 20) : ((nI n - nI 1) - nI 2) = nI (n - 3) := by
  rw [pk_sub (by omega), pk_sub (by omega)]
  congr 1
theorem wt_m12lt {n : Nat} (h : n < 3) : ((nI n - nI 1) - nI 2) < 0 := by
  have : n = 0 ∨ n = 1 ∨ n = 2 := by omega
  rcases this with rfl | rfl | rfl <;> decide
theorem wt_m3lt {n : Nat} (h : n < 3) : (nI n - nI 3) < 0 := by
  have : n = 0 ∨ n = 1 ∨ n = 2 := by omega
  rcases this with rfl | rfl | rfl <;> decide
noncomputable def wt_frs (fs ff : Nat → Int32) (k d : Nat) (u : Nat) (a : Int32) : Int32 := wt_if (fs u = nI d) (a + ff (k * 12 + u)) a
noncomputable def wt_frm (si sr : Nat → Int32) (t d : Nat) (u : Nat) (a : Int32) : Int32 := wt_if (si u = nI d) (a + sr (12 * t + u)) (a + nI 0)
def wt_nx1 (k : Nat) (f : Nat → Int32) : Nat → Int32 := upd f k (-1)
def wt_od1 (ne : Nat → Int32) (t : Nat) (k : Nat) (f : Nat → Int32) : Nat → Int32 := upd f (12 * t + k) (wt_fold wt_nx1 k ne k)
theorem wt_nx_out {ne : Nat → Int32} : ∀ {n u : Nat}, n ≤ u → wt_fold wt_nx1 n ne u = ne u
  | 0, _, _ => rfl
  | n + 1, u, h => by
    rw [wt_fold_s]
    unfold wt_nx1
    rw [wt_upd_n (by omega)]
    exact wt_nx_out (by omega)
theorem wt_nx_in {ne : Nat → Int32} : ∀ {n u : Nat}, u < n → wt_fold wt_nx1 n ne u = -1
  | 0, _, h => absurd h (Nat.not_lt_zero _)
  | n + 1, u, h => by
    rw [wt_fold_s]
    unfold wt_nx1
    by_cases c : u = n
    · subst c; exact wt_upd_s
    · rw [wt_upd_n c]; exact wt_nx_in (by omega)
theorem wt_od_in {ne f : Nat → Int32} {t : Nat} : ∀ {n u : Nat}, u < n → wt_fold (wt_od1 ne t) n f (12 * t + u) = ne u
  | 0, _, h => absurd h (Nat.not_lt_zero _)
  | n + 1, u, h => by
    rw [wt_fold_s]
    unfold wt_od1
    by_cases c : u = n
    · subst c; rw [wt_upd_s]; exact wt_nx_out (Nat.le_refl _)
    · rw [wt_upd_n (by omega)]; exact wt_od_in (by omega)
theorem wt_od_out {ne f : Nat → Int32} {t : Nat} : ∀ {n j : Nat}, (j < 12 * t ∨ 12 * t + n ≤ j) → wt_fold (wt_od1 ne t) n f j = f j
  | 0, _, _ => rfl
  | n + 1, j, h => by
    rw [wt_fold_s]
    unfold wt_od1
    rw [wt_upd_n (by omega)]
    exact wt_od_out (by omega)
theorem wt_ok_iff {y : Int32} : (¬ y < (-1) ∧ ¬ nI 9 < y) ↔ wt_ok y := by
  constructor
  · intro ⟨h1, h2⟩
    by_cases h : y < 0
    · left
      have a1 : y.toInt < 0 := by rw [Int32.lt_iff_toInt_lt] at h; exact h
      have a2 : ¬ y.toInt < -1 := by rw [Int32.lt_iff_toInt_lt] at h1; exact h1
      exact Int32.toInt_inj.mp (by rw [show (-1 : Int32).toInt = -1 by decide]; omega)
    · exact Or.inr (wt_inZ (b := 9) (by decide) |>.mp ⟨by rw [nI_0]; exact h, h2⟩)
  · intro h
    rcases h with rfl | h
    · exact ⟨by decide, by decide⟩
    · obtain ⟨h1, h2⟩ := (wt_inZ (b := 9) (by decide)).mpr h
      refine ⟨fun z => ?_, h2⟩
      rw [Int32.lt_iff_toInt_lt] at z h1
      rw [show (-1 : Int32).toInt = -1 by decide] at z
      rw [show (nI 0).toInt = 0 by decide] at h1
      omega
