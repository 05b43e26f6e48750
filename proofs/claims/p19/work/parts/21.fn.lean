/-! What the class's methods compute, as functions of their cells' contents -/
theorem wt_all_s {P : Nat → Prop} {i : Nat} (h : ∀ q, q < i → P q) (hi : P i) : ∀ q, q < i + 1 → P q := fun q hq => (Nat.lt_or_ge q i).elim (h q) (fun z => by rw [show q = i by omega]; exact hi)
def wt_bit (m : Int32) : Int32 := nI 1 <<< (m &&& 31)
def wt_has (s m : Int32) : Prop := ¬ m < 0 ∧ m < nI 32 ∧ ¬ (s &&& wt_bit m) = 0
noncomputable def wt_loss (x y : Int32) : Int32 := wt_if (x < y) (nI 2) (wt_if (x = y) (nI 1) (wt_if (x < nI 2 * y) (nI 1) (nI 0)))
-- the map
noncomputable def wt_nxt (fp fu : Nat → Int32) (x w : Int32) : Int32 := wt_if (vp_in x 10) (wt_if (w = nI 2) (nI 0) (wt_if (w = nI 1) (fp x.toNatClampNeg) (fp x.toNatClampNeg ||| fu x.toNatClampNeg))) (nI 0)
noncomputable def wt_wds (fp fu : Nat → Int32) (x w : Int32) (t : Nat) (a : Int32) : Int32 := wt_if (wt_has x (nI t)) (a ||| wt_nxt fp fu (nI t) w) a
noncomputable def wt_wid (fp fu : Nat → Int32) (x w : Int32) : Int32 := wt_fold (wt_wds fp fu x w) 10 x
def wt_jn (f : Nat → Int32) (a b : Nat) : Nat → Int32 := upd (upd f a (f a ||| wt_bit (nI b))) b (upd f a (f a ||| wt_bit (nI b)) b ||| wt_bit (nI a))
-- the units
noncomputable def wt_plT (ft : Nat → Int32) (k u : Nat) (t s : Int32) : Nat → Int32 := upd ft (k * 12 + u) (wt_if (0 < s) t (-1))
def wt_plF (ff : Nat → Int32) (k u : Nat) (s : Int32) : Nat → Int32 := upd ff (k * 12 + u) (wt_max s (nI 0))
noncomputable def wt_pl (p : (Nat → Int32) × (Nat → Int32)) (k u : Nat) (t s : Int32) : (Nat → Int32) × (Nat → Int32) := (wt_plT p.1 k u t s, wt_plF p.2 k u s)
noncomputable def wt_cps (fr to : Nat) (u : Nat) (p : (Nat → Int32) × (Nat → Int32)) : (Nat → Int32) × (Nat → Int32) := wt_pl p to u (p.1 (fr * 12 + u)) (p.2 (fr * 12 + u))
noncomputable def wt_dfs (ft ff : Nat → Int32) (k j : Nat) (u n : Nat) : Nat := wt_if (ft (k * 12 + u) = ft (j * 12 + u)) (wt_if (ff (k * 12 + u) = ff (j * 12 + u)) n (n + 1)) (n + 1)
noncomputable def wt_lvs (ft : Nat → Int32) (k : Nat) (u n : Nat) : Nat := wt_if (ft (k * 12 + u) = -1) n (n + 1)
noncomputable def wt_hs (fs ft : Nat → Int32) (k sd : Nat) (u : Nat) (a : Int32) : Int32 := wt_if (fs u = nI sd) (wt_if (ft (k * 12 + u) = -1) a (a ||| wt_bit (ft (k * 12 + u)))) a
noncomputable def wt_held (fs ft : Nat → Int32) (k sd cn : Nat) : Int32 := wt_fold (wt_hs fs ft k sd) cn (nI 0)
-- a turn
noncomputable def wt_sup (fd fp fu fs ft : Nat → Int32) (cn k sd : Nat) (w : Int32) (r : Nat) : Int32 := wt_fold (fun _ t => wt_wid fp fu t w &&& (wt_held fs ft k (1 - sd) cn ^^^ (-1))) r (wt_bit (fd sd) &&& (wt_held fs ft k (1 - sd) cn ^^^ (-1)))
noncomputable def wt_sus (x y : Int32) (fs ft : Nat → Int32) (k : Nat) (u : Nat) (a : Int32) : Int32 := wt_if (fs u = 0) (wt_if (wt_has x (ft (k * 12 + u))) (a ||| wt_bit (nI u)) a) (wt_if (wt_has y (ft (k * 12 + u))) (a ||| wt_bit (nI u)) a)
noncomputable def wt_sun (fd fp fu fs ft : Nat → Int32) (cn k : Nat) (w : Int32) : Int32 := wt_fold (wt_sus (wt_sup fd fp fu fs ft cn k 0 w 4) (wt_sup fd fp fu fs ft cn k 1 w 4) fs ft k) cn (nI 0)
noncomputable def wt_gos (fp fu ft fo : Nat → Int32) (k : Nat) (w sp : Int32) (u : Nat) (a : Int32) : Int32 := wt_if (wt_has sp (nI u)) (wt_if (wt_has (wt_nxt fp fu (ft (k * 12 + u)) w) (fo (k * 12 + u) - nI 1)) (a ||| wt_bit (nI u)) a) a
noncomputable def wt_goe (fp fu ft fo : Nat → Int32) (cn k : Nat) (w sp : Int32) : Int32 := wt_fold (wt_gos fp fu ft fo k w sp) cn (nI 0)
def wt_met1 (fs ft fo : Nat → Int32) (k u : Nat) (go : Int32) (q : Nat) : Prop := wt_has go (nI q) ∧ ¬ fs q = fs u ∧ ft (k * 12 + q) = fo (k * 12 + u) - nI 1 ∧ fo (k * 12 + q) - nI 1 = ft (k * 12 + u)
def wt_met (fs ft fo : Nat → Int32) (cn k u : Nat) (go : Int32) : Prop := ∃ q : Nat, q < cn ∧ wt_met1 fs ft fo k u go q
noncomputable def wt_mrs (fs fo : Nat → Int32) (cn k : Nat) (go : Int32) (u : Nat) (p : (Nat → Int32) × (Nat → Int32)) : (Nat → Int32) × (Nat → Int32) := wt_if (wt_has go (nI u)) (wt_if (wt_met fs p.1 fo cn k u go) (wt_pl p (k + 1) u (p.1 (k * 12 + u)) (p.2 (k * 12 + u))) (wt_pl p (k + 1) u (fo (k * 12 + u) - nI 1) (p.2 (k * 12 + u)))) (wt_pl p (k + 1) u (p.1 (k * 12 + u)) (p.2 (k * 12 + u)))
noncomputable def wt_mar (fs fo : Nat → Int32) (cn k : Nat) (go : Int32) (p : (Nat → Int32) × (Nat → Int32)) : (Nat → Int32) × (Nat → Int32) := wt_fold (wt_mrs fs fo cn k go) cn p
noncomputable def wt_sms (fs ft ff : Nat → Int32) (k t sd : Nat) (sp : Int32) (u : Nat) (a : Int32) : Int32 := wt_if (fs u = nI sd) (wt_if (ft (k * 12 + u) = nI t) (wt_if (wt_has sp (nI u)) (a + ff (k * 12 + u)) (a + ff (k * 12 + u) / nI 2)) a) a
noncomputable def wt_sum (fs ft ff : Nat → Int32) (cn k t sd : Nat) (sp : Int32) : Int32 := wt_fold (wt_sms fs ft ff k t sd sp) cn (nI 0)
noncomputable def wt_fts (fs : Nat → Int32) (k t : Nat) (x y : Int32) (u : Nat) (p : (Nat → Int32) × (Nat → Int32)) : (Nat → Int32) × (Nat → Int32) := wt_if (p.1 (k * 12 + u) = nI t) (wt_if (fs u = 0) (wt_pl p k u (nI t) (p.2 (k * 12 + u) - wt_loss x y)) (wt_pl p k u (nI t) (p.2 (k * 12 + u) - wt_loss y x))) p
noncomputable def wt_fgt (fs : Nat → Int32) (cn k t : Nat) (sp : Int32) (p : (Nat → Int32) × (Nat → Int32)) : (Nat → Int32) × (Nat → Int32) := wt_fold (wt_fts fs k t (wt_sum fs p.1 p.2 cn k t 0 sp) (wt_sum fs p.1 p.2 cn k t 1 sp)) cn p
noncomputable def wt_fes (fs : Nat → Int32) (cn k : Nat) (sp ct : Int32) (t : Nat) (p : (Nat → Int32) × (Nat → Int32)) : (Nat → Int32) × (Nat → Int32) := wt_if (wt_has ct (nI t)) (wt_fgt fs cn k t sp p) p
noncomputable def wt_fev (fs : Nat → Int32) (cn k : Nat) (sp : Int32) (p : (Nat → Int32) × (Nat → Int32)) : (Nat → Int32) × (Nat → Int32) := wt_fold (wt_fes fs cn k sp (wt_held fs p.1 k 0 cn &&& wt_held fs p.1 k 1 cn)) 10 p
noncomputable def wt_sig (fp fu fs ft : Nat → Int32) (cn k : Nat) : Int32 := wt_fold (wt_sus (wt_wid fp fu (wt_held fs ft k 1 cn) (nI 0)) (wt_wid fp fu (wt_held fs ft k 0 cn) (nI 0)) fs ft k) cn (nI 0)
/-- towns, strengths and sight behind turn t -/
noncomputable def wt_tr2 (fd fp fu fs fo : Nat → Int32) (cn : Nat) (t : Nat) (w : Int32) (p : (Nat → Int32) × (Nat → Int32)) : (Nat → Int32) × (Nat → Int32) := wt_fev fs cn (t + 1) (wt_sun fd fp fu fs p.1 cn t w) (wt_mar fs fo cn t (wt_goe fp fu p.1 fo cn t w (wt_sun fd fp fu fs p.1 cn t w)) p)
noncomputable def wt_trn (fd fw fp fu fs fo : Nat → Int32) (cn f : Nat) (j : Nat) (q : ((Nat → Int32) × (Nat → Int32)) × (Nat → Int32)) : ((Nat → Int32) × (Nat → Int32)) × (Nat → Int32) := (wt_tr2 fd fp fu fs fo cn (f + j) (fw (f + j)) q.1, upd q.2 (f + j) (wt_sig fp fu fs (wt_tr2 fd fp fu fs fo cn (f + j) (fw (f + j)) q.1).1 cn (f + j + 1)))
theorem wt_max_0 {f : Nat} (h : f < 2 ^ 31) : wt_max (nI f) (nI 0) = nI f := by
  unfold wt_max
  exact if_neg (nI_nlt (Nat.zero_le f) h)
theorem wt_in_lt {x : Int32} {b : Nat} (hb : b < 2 ^ 31) (h0 : ¬ x < 0) (h : x < nI b) : vp_in x b := by
  obtain ⟨j, hj, rfl⟩ := nI_of h0
  exact vp_in_nI ((nI_ltI hj hb).mp h) hb
theorem wt_in_ge {x : Int32} {b : Nat} (hb : b < 2 ^ 31) (h : ¬ x < nI b) : ¬ vp_in x b := by
  intro q
  obtain ⟨j, hj, rfl⟩ := vp_in_of q hb
  exact h (nI_lt hj hb)
theorem wt_eta {α β : Type} (p : α × β) : (p.1, p.2) = p := rfl
