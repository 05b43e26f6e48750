set_option maxHeartbeats 4000000 in
set_option maxRecDepth 100000 in
theorem k_X3_checkSideS (l : Launch) (d : Nat) (hd2 : d < 2) : Met l yX3_checkSide wsX3_checkSide ({ frames := 6, cells := 0, slots := 0, locals := 90 }) (va_Pc [.int (nI d)] (fun _ => True)) wt_rv 0 0 wt_no := by
  refine Met.ofW (cc := cX3_checkSide) (maxL := 1) (ret := none) (by decide) rfl ?_
  intro p e s m args below meth c s₁ B hml hv
  obtain ⟨rfl, -⟩ := hv
  have hx := B.exec
  have hb := B.bytes
  have hr := B.returns
  have hts := atoms_spec (ws := wsX3_checkSide) B.pre
  have hown : s.vm.findClass RX3 = some m.cls := findClass_of_methodNamed B.named
  have hlocks := B.notSynchronized
  have hl := lv_entry ([.int (nI d)]) (n := 1) (Nat.le_of_ble_eq_true rfl)
  rw [lg_entry_eq]
  generalize (lg_sl ([.int (nI d)]) ++ List.replicate (1 - (lg_sl ([.int (nI d)])).length) Slot.unset).toArray = ls at hl ⊢
  have hl : lv_has ls 1 [(0, .int (nI d))] := hl
  refine lv_iload_n hx hb dX3_checkSide_0 rfl (lv_at hl 0 rfl) ?_
  refine lv_iconst (v := nI 2) hx hb dX3_checkSide_1 (by decide +kernel) ?_
  refine wt_ro_go (va_runS (As := [.int (nI d), .int (nI 2)]) (rest := []) ⟨hx, hb, hml, hown, hts⟩ (k_X3_belowN l d 2 (by omega) (by omega)) (va_cwS 2 hts gX3_checkSide_X3_below rfl rfl rfl (by decide +kernel) ⟨Nat.le_of_ble_eq_true rfl, Nat.le_of_ble_eq_true rfl⟩) wt_PS rfl rfl hl.1 rfl (lv_room (Nat.le_of_ble_eq_true rfl)) dX3_checkSide_2 ⟨Nat.zero_le _, Nat.zero_le _⟩) ?_
  refine wt_if_neB (tgt := 18) hx hb dX3_checkSide_5 (by decide) (fun c_5_1 => ?_) (fun c_5_1 => ?_)
  · exact wt_rvret hx hb hr rfl dX3_checkSide_18 hlocks
  · exfalso; omega
set_option maxHeartbeats 4000000 in
set_option maxRecDepth 100000 in
theorem k_X3_checkWeatherS (l : Launch) (w : Int32) (hw : vp_in w 3) : Met l yX3_checkWeather wsX3_checkWeather ({ frames := 6, cells := 0, slots := 0, locals := 90 }) (va_Pc [.int w] (fun _ => True)) wt_rv 0 0 wt_no := by
  refine Met.ofW (cc := cX3_checkWeather) (maxL := 1) (ret := none) (by decide) rfl ?_
  intro p e s m args below meth c s₁ B hml hv
  obtain ⟨rfl, -⟩ := hv
  have hx := B.exec
  have hb := B.bytes
  have hr := B.returns
  have hts := atoms_spec (ws := wsX3_checkWeather) B.pre
  have hown : s.vm.findClass RX3 = some m.cls := findClass_of_methodNamed B.named
  have hlocks := B.notSynchronized
  have hl := lv_entry ([.int w]) (n := 1) (Nat.le_of_ble_eq_true rfl)
  rw [lg_entry_eq]
  generalize (lg_sl ([.int w]) ++ List.replicate (1 - (lg_sl ([.int w])).length) Slot.unset).toArray = ls at hl ⊢
  have hl : lv_has ls 1 [(0, .int w)] := hl
  refine lv_iload_n hx hb dX3_checkWeather_0 rfl (lv_at hl 0 rfl) ?_
  refine lv_iconst (v := nI 3) hx hb dX3_checkWeather_1 (by decide +kernel) ?_
  refine wt_ro_go (va_runS (As := [.int w, .int (nI 3)]) (rest := []) ⟨hx, hb, hml, hown, hts⟩ (k_X3_belowI l w 3 (by omega)) (va_cwS 2 hts gX3_checkWeather_X3_below rfl rfl rfl (by decide +kernel) ⟨Nat.le_of_ble_eq_true rfl, Nat.le_of_ble_eq_true rfl⟩) wt_PS rfl rfl hl.1 rfl (lv_room (Nat.le_of_ble_eq_true rfl)) dX3_checkWeather_2 ⟨Nat.zero_le _, Nat.zero_le _⟩) ?_
  refine wt_if_neB (tgt := 18) hx hb dX3_checkWeather_5 (by decide) (fun c_5_1 => ?_) (fun c_5_1 => ?_)
  · exact wt_rvret hx hb hr rfl dX3_checkWeather_18 hlocks
  · exact absurd hw c_5_1
set_option maxHeartbeats 4000000 in
set_option maxRecDepth 100000 in
theorem k_X3_checkUnitS (l : Launch) (dC : Nat → ClassId) (dI : Nat → Nat → Nat) (cI : ClassId) (h : Nat) (dp : Nat) (we : Nat) (se : Nat) (fd : Nat → Int32) (fw : Nat → Int32) (fe : Nat → Int32) (nt : Nat) (hm : Nat) (pv : Nat) (up : Nat) (fp : Nat → Int32) (fu : Nat → Int32) (nr : Nat) (hu : Nat) (sd : Nat) (tw : Nat) (st : Nat) (od : Nat) (fs : Nat → Int32) (ft : Nat → Int32) (ff : Nat → Int32) (fo : Nat → Int32) (cn : Nat) (hq : Nat) (u : Nat) (hcn : cn ≤ 12) (hu2 : u < cn) : Met l yX3_checkUnit wsX3_checkUnit ({ frames := 6, cells := 0, slots := 0, locals := 90 }) (va_Pc [.ref h, .int (nI u)] (wt_pre (dC, dI) cI [(h, .inr (3, [.ref hm, .ref dp, .ref hu, .ref we, .ref se, .ref hq, .int (nI nt)])), (dp, .inl (cI, 2, .inl fd)), (we, .inl (cI, 20, .inl fw)), (se, .inl (cI, 20, .inl fe)), (hm, .inr (0, [.ref pv, .ref up, .int (nI nr)])), (pv, .inl (cI, 10, .inl fp)), (up, .inl (cI, 10, .inl fu)), (hu, .inr (2, [.ref sd, .ref tw, .ref st, .ref od, .int (nI cn)])), (sd, .inl (cI, 12, .inl fs)), (tw, .inl (cI, 264, .inl ft)), (st, .inl (cI, 264, .inl ff)), (od, .inl (cI, 264, .inl fo))])) wt_rv 0 0 wt_no := by
  refine Met.ofW (cc := cX3_checkUnit) (maxL := 2) (ret := none) (by decide) rfl ?_
  intro p e s m args below meth c s₁ B hml hv
  obtain ⟨rfl, hP, hK, hN⟩ := hv
  have hx := B.exec
  have hb := B.bytes
  have hr := B.returns
  have hts := atoms_spec (ws := wsX3_checkUnit) B.pre
  have hown : s.vm.findClass RX3 = some m.cls := findClass_of_methodNamed B.named
  have hlocks := B.notSynchronized
  have inX2 : ∀ w ∈ wsX20, w ∈ wsX3_checkUnit := wt_in [21, 22, 23, 24, 25] (by decide +kernel)
  have inX3 : ∀ w ∈ wsX30, w ∈ wsX3_checkUnit := wt_in [14, 15, 16, 17, 18, 19, 20] (by decide +kernel)
  have hl := lv_entry ([.ref h, .int (nI u)]) (n := 2) (Nat.le_of_ble_eq_true rfl)
  rw [lg_entry_eq]
  generalize (lg_sl ([.ref h, .int (nI u)]) ++ List.replicate (2 - (lg_sl ([.ref h, .int (nI u)])).length) Slot.unset).toArray = ls at hl ⊢
  have hl : lv_has ls 2 [(0, .ref h), (1, .int (nI u))] := hl
  refine lv_iload_n hx hb dX3_checkUnit_0 rfl (lv_at hl 1 rfl) ?_
  refine lv_aload_n hx hb dX3_checkUnit_1 rfl (lv_at hl 0 rfl) ?_
  refine va_get (D := (dC, dI)) (ci := 3) (v := .ref hu) (C := RX3) (T := TX3) (N := 7) hx hb hts inX3 hown hK hP 0 rfl rfl 2 (by decide) (hts (.fieldLink RX3 23 "WarTable" "units" "LWarTable$Units;") (List.mem_of_getElem? (i := 3) rfl)) (fun _ h9 => h9) rfl dX3_checkUnit_2 ?_
  refine wt_ro_go (va_runV (As := []) (rest := [.int (nI u)]) ⟨hx, hb, hml, hown, hts⟩ (k_X2_count l dC dI cI hu sd tw st od fs ft ff fo cn) (cwV 0 hts gX3_checkUnit_X2_count rfl rfl rfl (by decide +kernel) ⟨Nat.le_of_ble_eq_true rfl, Nat.le_of_ble_eq_true rfl⟩) (wt_PV (C := RX2) (T := TX2) (N := 5) (ci := 2) (q0 := 7) hK hP hN rfl rfl [7, 8, 9, 10, 11] rfl) rfl rfl hl.1 rfl (lv_room (Nat.le_of_ble_eq_true rfl)) dX3_checkUnit_5 ⟨Nat.zero_le _, Nat.zero_le _⟩) ?_
  refine wt_ro_go (va_runS (As := [.int (nI u), .int (nI cn)]) (rest := []) ⟨hx, hb, hml, hown, hts⟩ (k_X3_belowN l u cn (by omega) (by omega)) (va_cwS 2 hts gX3_checkUnit_X3_below rfl rfl rfl (by decide +kernel) ⟨Nat.le_of_ble_eq_true rfl, Nat.le_of_ble_eq_true rfl⟩) wt_PS rfl rfl hl.1 rfl (lv_room (Nat.le_of_ble_eq_true rfl)) dX3_checkUnit_8 ⟨Nat.zero_le _, Nat.zero_le _⟩) ?_
  refine wt_if_neB (tgt := 24) hx hb dX3_checkUnit_11 (by decide) (fun c_11_1 => ?_) (fun c_11_1 => ?_)
  · exact wt_rvret hx hb hr rfl dX3_checkUnit_24 hlocks
  · exfalso; omega
set_option maxHeartbeats 4000000 in
set_option maxRecDepth 100000 in
theorem k_X3_checkTurnS (l : Launch) (dC : Nat → ClassId) (dI : Nat → Nat → Nat) (cI : ClassId) (h : Nat) (dp : Nat) (we : Nat) (se : Nat) (fd : Nat → Int32) (fw : Nat → Int32) (fe : Nat → Int32) (nt : Nat) (hm : Nat) (pv : Nat) (up : Nat) (fp : Nat → Int32) (fu : Nat → Int32) (nr : Nat) (hu : Nat) (sd : Nat) (tw : Nat) (st : Nat) (od : Nat) (fs : Nat → Int32) (ft : Nat → Int32) (ff : Nat → Int32) (fo : Nat → Int32) (cn : Nat) (hq : Nat) (t : Nat) (hnt : nt ≤ 20) (ht : t < nt) : Met l yX3_checkTurn wsX3_checkTurn ({ frames := 6, cells := 0, slots := 0, locals := 90 }) (va_Pc [.ref h, .int (nI t)] (wt_pre (dC, dI) cI [(h, .inr (3, [.ref hm, .ref dp, .ref hu, .ref we, .ref se, .ref hq, .int (nI nt)])), (dp, .inl (cI, 2, .inl fd)), (we, .inl (cI, 20, .inl fw)), (se, .inl (cI, 20, .inl fe)), (hm, .inr (0, [.ref pv, .ref up, .int (nI nr)])), (pv, .inl (cI, 10, .inl fp)), (up, .inl (cI, 10, .inl fu)), (hu, .inr (2, [.ref sd, .ref tw, .ref st, .ref od, .int (nI cn)])), (sd, .inl (cI, 12, .inl fs)), (tw, .inl (cI, 264, .inl ft)), (st, .inl (cI, 264, .inl ff)), (od, .inl (cI, 264, .inl fo))])) wt_rv 0 0 wt_no := by
  refine Met.ofW (cc := cX3_checkTurn) (maxL := 2) (ret := none) (by decide) rfl ?_
  intro p e s m args below meth c s₁ B hml hv
  obtain ⟨rfl, hP, hK, hN⟩ := hv
  have hx := B.exec
  have hb := B.bytes
  have hr := B.returns
  have hts := atoms_spec (ws := wsX3_checkTurn) B.pre
  have hown : s.vm.findClass RX3 = some m.cls := findClass_of_methodNamed B.named
  have hlocks := B.notSynchronized
  have inX3 : ∀ w ∈ wsX30, w ∈ wsX3_checkTurn := wt_in [12, 13, 14, 15, 16, 17, 18] (by decide +kernel)
  have hl := lv_entry ([.ref h, .int (nI t)]) (n := 2) (Nat.le_of_ble_eq_true rfl)
  rw [lg_entry_eq]
  generalize (lg_sl ([.ref h, .int (nI t)]) ++ List.replicate (2 - (lg_sl ([.ref h, .int (nI t)])).length) Slot.unset).toArray = ls at hl ⊢
  have hl : lv_has ls 2 [(0, .ref h), (1, .int (nI t))] := hl
  refine lv_iload_n hx hb dX3_checkTurn_0 rfl (lv_at hl 1 rfl) ?_
  refine lv_aload_n hx hb dX3_checkTurn_1 rfl (lv_at hl 0 rfl) ?_
  refine va_get (D := (dC, dI)) (ci := 3) (v := .int (nI nt)) (C := RX3) (T := TX3) (N := 7) hx hb hts inX3 hown hK hP 0 rfl rfl 6 (by decide) (hts (.fieldLink RX3 40 "WarTable" "turns" "I") (List.mem_of_getElem? (i := 3) rfl)) (fun _ h9 => h9) rfl dX3_checkTurn_2 ?_
  refine lv_bipush (v := nI 20) hx hb dX3_checkTurn_5 (by decide +kernel) ?_
  refine va_mmin hx hb (by rw [hml]; exact hl.1.symm) hown (hts (.methodLink RX3 170 Lib.Math.min.name) (List.mem_of_getElem? (i := 4) rfl)) (hts (.static Lib.Math.min.name) (List.mem_of_getElem? (i := 5) rfl)) (hts (.initialized "java/lang/Math") (List.mem_of_getElem? (i := 6) rfl)) (hts (.code Lib.Math.min.name Lib.Math.min.code 2 (some .int)) (List.mem_of_getElem? (i := 7) rfl)) (Nat.le_of_ble_eq_true rfl) (Nat.le_of_ble_eq_true rfl) (Nat.zero_le _) (Nat.zero_le _) dX3_checkTurn_7 ?_
  refine wt_top (y := (wt_mi2 (nI nt) (nI 20))) rfl ?_
  refine wt_top (y := nI nt) (wt_min_le hnt (by decide)) ?_
  refine wt_ro_go (va_runS (As := [.int (nI t), .int (nI nt)]) (rest := []) ⟨hx, hb, hml, hown, hts⟩ (k_X3_belowN l t nt (by omega) (by omega)) (va_cwS 2 hts gX3_checkTurn_X3_below rfl rfl rfl (by decide +kernel) ⟨Nat.le_of_ble_eq_true rfl, Nat.le_of_ble_eq_true rfl⟩) wt_PS rfl rfl hl.1 rfl (lv_room (Nat.le_of_ble_eq_true rfl)) dX3_checkTurn_10 ⟨Nat.zero_le _, Nat.zero_le _⟩) ?_
  refine wt_if_neB (tgt := 26) hx hb dX3_checkTurn_13 (by decide) (fun c_13_1 => ?_) (fun c_13_1 => ?_)
  · exact wt_rvret hx hb hr rfl dX3_checkTurn_26 hlocks
  · exfalso; omega
set_option maxHeartbeats 4000000 in
set_option maxRecDepth 100000 in
theorem k_X3_addRoadS (l : Launch) (dC : Nat → ClassId) (dI : Nat → Nat → Nat) (cI : ClassId) (h : Nat) (dp : Nat) (we : Nat) (se : Nat) (fd : Nat → Int32) (fw : Nat → Int32) (fe : Nat → Int32) (nt : Nat) (hm : Nat) (pv : Nat) (up : Nat) (fp : Nat → Int32) (fu : Nat → Int32) (nr : Nat) (hu : Nat) (sd : Nat) (tw : Nat) (st : Nat) (od : Nat) (fs : Nat → Int32) (ft : Nat → Int32) (ff : Nat → Int32) (fo : Nat → Int32) (cn : Nat) (hq : Nat) (a : Nat) (b : Nat) (z : Int32) (sz : Nat) (ha : a < 10) (hb2 : b < 10) (hab : a ≠ b) (hn0 : nt = 0) (hj : ¬ wt_has (wt_nxt fp fu (nI a) (nI 0)) (nI b)) (hnr : nr < 15) : Met l yX3_addRoad wsX3_addRoad ({ frames := 6, cells := 0, slots := 0, locals := 90 }) (va_Pc [.ref h, .int (nI a), .int (nI b), .int z] (wt_pm (dC, dI) cI [(h, .inr (3, [.ref hm, .ref dp, .ref hu, .ref we, .ref se, .ref hq, .int (nI nt)])), (dp, .inl (cI, 2, .inl fd)), (we, .inl (cI, 20, .inl fw)), (se, .inl (cI, 20, .inl fe)), (hm, .inr (0, [.ref pv, .ref up, .int (nI nr)])), (pv, .inl (cI, 10, .inl fp)), (up, .inl (cI, 10, .inl fu)), (hu, .inr (2, [.ref sd, .ref tw, .ref st, .ref od, .int (nI cn)])), (sd, .inl (cI, 12, .inl fs)), (tw, .inl (cI, 264, .inl ft)), (st, .inl (cI, 264, .inl ff)), (od, .inl (cI, 264, .inl fo))] sz)) (wt_mu (some (.int (nI (nr + 1)))) (dC, dI) [(h, .inr (3, [.ref hm, .ref dp, .ref hu, .ref we, .ref se, .ref hq, .int (nI nt)])), (dp, .inl (cI, 2, .inl fd)), (we, .inl (cI, 20, .inl fw)), (se, .inl (cI, 20, .inl fe)), (hm, .inr (0, [.ref pv, .ref up, .int (nI (nr + 1))])), (pv, .inl (cI, 10, .inl (wt_if (z = 0) fp (wt_jn fp a b)))), (up, .inl (cI, 10, .inl (wt_if (z = 0) (wt_jn fu a b) fu))), (hu, .inr (2, [.ref sd, .ref tw, .ref st, .ref od, .int (nI cn)])), (sd, .inl (cI, 12, .inl fs)), (tw, .inl (cI, 264, .inl ft)), (st, .inl (cI, 264, .inl ff)), (od, .inl (cI, 264, .inl fo))] (va_A [(h, .inr (3, [.ref hm, .ref dp, .ref hu, .ref we, .ref se, .ref hq, .int (nI nt)])), (dp, .inl (cI, 2, .inl fd)), (we, .inl (cI, 20, .inl fw)), (se, .inl (cI, 20, .inl fe)), (hm, .inr (0, [.ref pv, .ref up, .int (nI nr)])), (pv, .inl (cI, 10, .inl fp)), (up, .inl (cI, 10, .inl fu)), (hu, .inr (2, [.ref sd, .ref tw, .ref st, .ref od, .int (nI cn)])), (sd, .inl (cI, 12, .inl fs)), (tw, .inl (cI, 264, .inl ft)), (st, .inl (cI, 264, .inl ff)), (od, .inl (cI, 264, .inl fo))] sz)) 0 0 (va_A [(h, .inr (3, [.ref hm, .ref dp, .ref hu, .ref we, .ref se, .ref hq, .int (nI nt)])), (dp, .inl (cI, 2, .inl fd)), (we, .inl (cI, 20, .inl fw)), (se, .inl (cI, 20, .inl fe)), (hm, .inr (0, [.ref pv, .ref up, .int (nI nr)])), (pv, .inl (cI, 10, .inl fp)), (up, .inl (cI, 10, .inl fu)), (hu, .inr (2, [.ref sd, .ref tw, .ref st, .ref od, .int (nI cn)])), (sd, .inl (cI, 12, .inl fs)), (tw, .inl (cI, 264, .inl ft)), (st, .inl (cI, 264, .inl ff)), (od, .inl (cI, 264, .inl fo))] sz) := by
  refine Met.ofW (cc := cX3_addRoad) (maxL := 4) (ret := (some .int)) (by decide) rfl ?_
  intro p e s m args below meth c s₁ B hml hv
  obtain ⟨rfl, hsz, ⟨hP, hK, hN⟩, hD0⟩ := hv
  have hx := B.exec
  have hb := B.bytes
  have hr := B.returns
  have hts := atoms_spec (ws := wsX3_addRoad) B.pre
  have hown : s.vm.findClass RX3 = some m.cls := findClass_of_methodNamed B.named
  have hlocks := B.notSynchronized
  subst hsz
  have hD := hD0.self (sz := s.heap.size)
  generalize hAe : va_A [(h, .inr (3, [.ref hm, .ref dp, .ref hu, .ref we, .ref se, .ref hq, .int (nI nt)])), (dp, .inl (cI, 2, .inl fd)), (we, .inl (cI, 20, .inl fw)), (se, .inl (cI, 20, .inl fe)), (hm, .inr (0, [.ref pv, .ref up, .int (nI nr)])), (pv, .inl (cI, 10, .inl fp)), (up, .inl (cI, 10, .inl fu)), (hu, .inr (2, [.ref sd, .ref tw, .ref st, .ref od, .int (nI cn)])), (sd, .inl (cI, 12, .inl fs)), (tw, .inl (cI, 264, .inl ft)), (st, .inl (cI, 264, .inl ff)), (od, .inl (cI, 264, .inl fo))] s.heap.size = A at hD ⊢
  have hA : ∀ q : Nat, s.heap.size ≤ q → A q := fun q h => by rw [← hAe]; exact Or.inr h
  have hS : va_S A s.heap s.heap [] := va_S.rf
  have inX0 : ∀ w ∈ wsX00, w ∈ wsX3_addRoad := wt_in [43, 44, 45] (by decide +kernel)
  have inX3 : ∀ w ∈ wsX30, w ∈ wsX3_addRoad := wt_in [36, 37, 38, 39, 40, 41, 42] (by decide +kernel)
  have hl := lv_entry ([.ref h, .int (nI a), .int (nI b), .int z]) (n := 4) (Nat.le_of_ble_eq_true rfl)
  rw [lg_entry_eq]
  generalize (lg_sl ([.ref h, .int (nI a), .int (nI b), .int z]) ++ List.replicate (4 - (lg_sl ([.ref h, .int (nI a), .int (nI b), .int z])).length) Slot.unset).toArray = ls at hl ⊢
  have hl : lv_has ls 4 [(0, .ref h), (1, .int (nI a)), (2, .int (nI b)), (3, .int z)] := hl
  refine lv_iload_n hx hb dX3_addRoad_0 rfl (lv_at hl 1 rfl) ?_
  refine lv_bipush (v := nI 10) hx hb dX3_addRoad_1 (by decide +kernel) ?_
  refine wt_ro_go (va_runS (As := [.int (nI a), .int (nI 10)]) (rest := []) ⟨hx, hb, hml, hown, hts⟩ (k_X3_belowN l a 10 (by omega) (by omega)) (va_cwS 2 hts gX3_addRoad_X3_below rfl rfl rfl (by decide +kernel) ⟨Nat.le_of_ble_eq_true rfl, Nat.le_of_ble_eq_true rfl⟩) wt_PS rfl rfl hl.1 rfl (lv_room (Nat.le_of_ble_eq_true rfl)) dX3_addRoad_3 ⟨Nat.zero_le _, Nat.zero_le _⟩) ?_
  refine wt_if_eqB (tgt := 23) hx hb dX3_addRoad_6 (by decide) (fun c_6_1 => ?_) (fun c_6_1 => ?_)
  · exfalso; omega
  · refine lv_iload_n hx hb dX3_addRoad_9 rfl (lv_at hl 2 rfl) ?_
    refine lv_bipush (v := nI 10) hx hb dX3_addRoad_10 (by decide +kernel) ?_
    refine wt_ro_go (va_runS (As := [.int (nI b), .int (nI 10)]) (rest := []) ⟨hx, hb, hml, hown, hts⟩ (k_X3_belowN l b 10 (by omega) (by omega)) (va_cwS 2 hts gX3_addRoad_X3_below rfl rfl rfl (by decide +kernel) ⟨Nat.le_of_ble_eq_true rfl, Nat.le_of_ble_eq_true rfl⟩) wt_PS rfl rfl hl.1 rfl (lv_room (Nat.le_of_ble_eq_true rfl)) dX3_addRoad_12 ⟨Nat.zero_le _, Nat.zero_le _⟩) ?_
    refine wt_if_eqB (tgt := 23) hx hb dX3_addRoad_15 (by decide) (fun c_15_2 => ?_) (fun c_15_2 => ?_)
    · exfalso; omega
    · refine lv_iload_n hx hb dX3_addRoad_18 rfl (lv_at hl 1 rfl) ?_
      refine lv_iload_n hx hb dX3_addRoad_19 rfl (lv_at hl 2 rfl) ?_
      refine wt_icmp_ne (tgt := 33) hx hb (by omega) (by omega) dX3_addRoad_20 (by decide) (fun c_20_3 => ?_) (fun c_20_3 => ?_)
      · refine lv_aload_n hx hb dX3_addRoad_33 rfl (lv_at hl 0 rfl) ?_
        refine va_get (D := (dC, dI)) (ci := 3) (v := .int (nI nt)) (C := RX3) (T := TX3) (N := 7) hx hb hts inX3 hown hK hP 0 rfl rfl 6 (by decide) (hts (.fieldLink RX3 40 "WarTable" "turns" "I") (List.mem_of_getElem? (i := 5) rfl)) (fun _ h9 => h9) rfl dX3_addRoad_34 ?_
        refine wt_if_gt (tgt := 64) hx hb (by omega) dX3_addRoad_37 (by decide) (fun c_37_4 => ?_) (fun c_37_4 => ?_)
        · exfalso; omega
        · refine lv_aload_n hx hb dX3_addRoad_40 rfl (lv_at hl 0 rfl) ?_
          refine va_get (D := (dC, dI)) (ci := 3) (v := .ref hm) (C := RX3) (T := TX3) (N := 7) hx hb hts inX3 hown hK hP 0 rfl rfl 0 (by decide) (hts (.fieldLink RX3 12 "WarTable" "map" "LWarTable$RoadMap;") (List.mem_of_getElem? (i := 6) rfl)) (fun _ h9 => h9) rfl dX3_addRoad_41 ?_
          refine lv_iload_n hx hb dX3_addRoad_44 rfl (lv_at hl 1 rfl) ?_
          refine lv_iload_n hx hb dX3_addRoad_45 rfl (lv_at hl 2 rfl) ?_
          refine wt_ro_go (va_runV (As := [.int (nI a), .int (nI b)]) (rest := []) ⟨hx, hb, hml, hown, hts⟩ (k_X0_joins l dC dI cI hm pv up fp fu nr (nI a) (nI b)) (cwV 2 hts gX3_addRoad_X0_joins rfl rfl rfl (by decide +kernel) ⟨Nat.le_of_ble_eq_true rfl, Nat.le_of_ble_eq_true rfl⟩) (wt_PV (C := RX0) (T := TX0) (N := 3) (ci := 0) (q0 := 4) hK hP hN rfl rfl [4, 5, 6] rfl) rfl rfl hl.1 rfl (lv_room (Nat.le_of_ble_eq_true rfl)) dX3_addRoad_46 ⟨Nat.zero_le _, Nat.zero_le _⟩) ?_
          refine wt_if_neB (tgt := 64) hx hb dX3_addRoad_49 (by decide) (fun c_49_5 => ?_) (fun c_49_5 => ?_)
          · exact absurd c_49_5 hj
          · refine lv_aload_n hx hb dX3_addRoad_52 rfl (lv_at hl 0 rfl) ?_
            refine va_get (D := (dC, dI)) (ci := 3) (v := .ref hm) (C := RX3) (T := TX3) (N := 7) hx hb hts inX3 hown hK hP 0 rfl rfl 0 (by decide) (hts (.fieldLink RX3 12 "WarTable" "map" "LWarTable$RoadMap;") (List.mem_of_getElem? (i := 6) rfl)) (fun _ h9 => h9) rfl dX3_addRoad_53 ?_
            refine wt_ro_go (va_runV (As := []) (rest := []) ⟨hx, hb, hml, hown, hts⟩ (k_X0_roads l dC dI cI hm pv up fp fu nr) (cwV 0 hts gX3_addRoad_X0_roads rfl rfl rfl (by decide +kernel) ⟨Nat.le_of_ble_eq_true rfl, Nat.le_of_ble_eq_true rfl⟩) (wt_PV (C := RX0) (T := TX0) (N := 3) (ci := 0) (q0 := 4) hK hP hN rfl rfl [4, 5, 6] rfl) rfl rfl hl.1 rfl (lv_room (Nat.le_of_ble_eq_true rfl)) dX3_addRoad_56 ⟨Nat.zero_le _, Nat.zero_le _⟩) ?_
            refine lv_bipush (v := nI 15) hx hb dX3_addRoad_59 (by decide +kernel) ?_
            refine wt_icmp_lt (tgt := 74) hx hb (by omega) (by omega) dX3_addRoad_61 (by decide) (fun c_61_6 => ?_) (fun c_61_6 => ?_)
            · refine lv_aload_n hx hb dX3_addRoad_74 rfl (lv_at hl 0 rfl) ?_
              refine va_get (D := (dC, dI)) (ci := 3) (v := .ref hm) (C := RX3) (T := TX3) (N := 7) hx hb hts inX3 hown hK hP 0 rfl rfl 0 (by decide) (hts (.fieldLink RX3 12 "WarTable" "map" "LWarTable$RoadMap;") (List.mem_of_getElem? (i := 6) rfl)) (fun _ h9 => h9) rfl dX3_addRoad_75 ?_
              refine lv_iload_n hx hb dX3_addRoad_78 rfl (lv_at hl 1 rfl) ?_
              refine lv_iload_n hx hb dX3_addRoad_79 rfl (lv_at hl 2 rfl) ?_
              refine lv_iload_n hx hb dX3_addRoad_80 rfl (lv_at hl 3 rfl) ?_
              refine wt_mu_go (w1 := [(hm, .inr (0, [.ref pv, .ref up, .int (nI (nr + 1))])), (pv, .inl (cI, 10, .inl (wt_if (z = 0) fp (wt_jn fp a b)))), (up, .inl (cI, 10, .inl (wt_if (z = 0) (wt_jn fu a b) fu)))]) (w2 := [(h, .inr (3, [.ref hm, .ref dp, .ref hu, .ref we, .ref se, .ref hq, .int (nI nt)])), (dp, .inl (cI, 2, .inl fd)), (we, .inl (cI, 20, .inl fw)), (se, .inl (cI, 20, .inl fe)), (hm, .inr (0, [.ref pv, .ref up, .int (nI (nr + 1))])), (pv, .inl (cI, 10, .inl (wt_if (z = 0) fp (wt_jn fp a b)))), (up, .inl (cI, 10, .inl (wt_if (z = 0) (wt_jn fu a b) fu))), (hu, .inr (2, [.ref sd, .ref tw, .ref st, .ref od, .int (nI cn)])), (sd, .inl (cI, 12, .inl fs)), (tw, .inl (cI, 264, .inl ft)), (st, .inl (cI, 264, .inl ff)), (od, .inl (cI, 264, .inl fo))]) (wr := [(h, .inr (3, [.ref hm, .ref dp, .ref hu, .ref we, .ref se, .ref hq, .int (nI nt)])), (dp, .inl (cI, 2, .inl fd)), (we, .inl (cI, 20, .inl fw)), (se, .inl (cI, 20, .inl fe)), (hu, .inr (2, [.ref sd, .ref tw, .ref st, .ref od, .int (nI cn)])), (sd, .inl (cI, 12, .inl fs)), (tw, .inl (cI, 264, .inl ft)), (st, .inl (cI, 264, .inl ff)), (od, .inl (cI, 264, .inl fo))]) (va_runV (As := [.int (nI a), .int (nI b), .int z]) (rest := []) ⟨hx, hb, hml, hown, hts⟩ (k_X0_join l dC dI cI hm pv up fp fu nr a b z s.heap.size (by omega) (by omega)) (cwV 3 hts gX3_addRoad_X0_join rfl rfl rfl (by decide +kernel) ⟨Nat.le_of_ble_eq_true rfl, Nat.le_of_ble_eq_true rfl⟩) (wt_PVM (C := RX0) (T := TX0) (N := 3) (ci := 0) (q0 := 4) hK hP hN hD rfl rfl [4, 5, 6] rfl rfl) rfl rfl hl.1 rfl (lv_room (Nat.le_of_ble_eq_true rfl)) dX3_addRoad_81 ⟨Nat.zero_le _, Nat.zero_le _⟩) hP hD hS hA [4, 5, 6] [0, 1, 2, 3, 7, 8, 9, 10, 11] rfl rfl rfl rfl (by decide) rfl [0, 1, 2, 3, 9, 10, 11, 4, 5, 6, 7, 8] rfl rfl (fun H locs hP hD hS hz9 => ?_)
              refine W.eq (g2 := F0 m 84 ls []) rfl ?_
              refine lv_aload_n hx hb dX3_addRoad_84 rfl (lv_at hl 0 rfl) ?_
              refine va_get (D := (dC, dI)) (ci := 3) (v := .ref hm) (C := RX3) (T := TX3) (N := 7) hx hb hts inX3 hown hK hP 0 rfl rfl 0 (by decide) (hts (.fieldLink RX3 12 "WarTable" "map" "LWarTable$RoadMap;") (List.mem_of_getElem? (i := 6) rfl)) (fun _ h9 => h9) rfl dX3_addRoad_85 ?_
              refine wt_ro_go (va_runV (As := []) (rest := []) ⟨hx, hb, hml, hown, hts⟩ (k_X0_roads l dC dI cI hm pv up (wt_if (z = 0) fp (wt_jn fp a b)) (wt_if (z = 0) (wt_jn fu a b) fu) (nr + 1)) (cwV 0 hts gX3_addRoad_X0_roads rfl rfl rfl (by decide +kernel) ⟨Nat.le_of_ble_eq_true rfl, Nat.le_of_ble_eq_true rfl⟩) (wt_PV (C := RX0) (T := TX0) (N := 3) (ci := 0) (q0 := 4) hK hP hN rfl rfl [4, 5, 6] rfl) rfl rfl hl.1 rfl (lv_room (Nat.le_of_ble_eq_true rfl)) dX3_addRoad_88 ⟨Nat.zero_le _, Nat.zero_le _⟩) ?_
              exact wt_miret hx hb hr rfl hP hS dX3_addRoad_91 hlocks
            · exfalso; omega
      · exfalso; omega
set_option maxHeartbeats 4000000 in
set_option maxRecDepth 100000 in
theorem k_X3_addUnitS (l : Launch) (dC : Nat → ClassId) (dI : Nat → Nat → Nat) (cI : ClassId) (h : Nat) (dp : Nat) (we : Nat) (se : Nat) (fd : Nat → Int32) (fw : Nat → Int32) (fe : Nat → Int32) (nt : Nat) (hm : Nat) (pv : Nat) (up : Nat) (fp : Nat → Int32) (fu : Nat → Int32) (nr : Nat) (hu : Nat) (sd : Nat) (tw : Nat) (st : Nat) (od : Nat) (fs : Nat → Int32) (ft : Nat → Int32) (ff : Nat → Int32) (fo : Nat → Int32) (cn : Nat) (hq : Nat) (d : Nat) (t : Nat) (q : Nat) (sz : Nat) (hd2 : d < 2) (ht : t < 10) (hq1 : 1 ≤ q) (hq2 : q ≤ 9) (hn0 : nt = 0) (hh : ¬ wt_has (wt_held fs ft nt (1 - d) cn) (nI t)) (hcn : cn < 12) : Met l yX3_addUnit wsX3_addUnit ({ frames := 6, cells := 0, slots := 0, locals := 90 }) (va_Pc [.ref h, .int (nI d), .int (nI t), .int (nI q)] (wt_pm (dC, dI) cI [(h, .inr (3, [.ref hm, .ref dp, .ref hu, .ref we, .ref se, .ref hq, .int (nI nt)])), (dp, .inl (cI, 2, .inl fd)), (we, .inl (cI, 20, .inl fw)), (se, .inl (cI, 20, .inl fe)), (hm, .inr (0, [.ref pv, .ref up, .int (nI nr)])), (pv, .inl (cI, 10, .inl fp)), (up, .inl (cI, 10, .inl fu)), (hu, .inr (2, [.ref sd, .ref tw, .ref st, .ref od, .int (nI cn)])), (sd, .inl (cI, 12, .inl fs)), (tw, .inl (cI, 264, .inl ft)), (st, .inl (cI, 264, .inl ff)), (od, .inl (cI, 264, .inl fo))] sz)) (wt_mu (some (.int (nI cn))) (dC, dI) [(h, .inr (3, [.ref hm, .ref dp, .ref hu, .ref we, .ref se, .ref hq, .int (nI nt)])), (dp, .inl (cI, 2, .inl fd)), (we, .inl (cI, 20, .inl fw)), (se, .inl (cI, 20, .inl fe)), (hm, .inr (0, [.ref pv, .ref up, .int (nI nr)])), (pv, .inl (cI, 10, .inl fp)), (up, .inl (cI, 10, .inl fu)), (hu, .inr (2, [.ref sd, .ref tw, .ref st, .ref od, .int (nI (cn + 1))])), (sd, .inl (cI, 12, .inl (upd fs cn (nI d)))), (tw, .inl (cI, 264, .inl (wt_plT ft 0 cn (nI t) (nI q)))), (st, .inl (cI, 264, .inl (wt_plF ff 0 cn (nI q)))), (od, .inl (cI, 264, .inl fo))] (va_A [(h, .inr (3, [.ref hm, .ref dp, .ref hu, .ref we, .ref se, .ref hq, .int (nI nt)])), (dp, .inl (cI, 2, .inl fd)), (we, .inl (cI, 20, .inl fw)), (se, .inl (cI, 20, .inl fe)), (hm, .inr (0, [.ref pv, .ref up, .int (nI nr)])), (pv, .inl (cI, 10, .inl fp)), (up, .inl (cI, 10, .inl fu)), (hu, .inr (2, [.ref sd, .ref tw, .ref st, .ref od, .int (nI cn)])), (sd, .inl (cI, 12, .inl fs)), (tw, .inl (cI, 264, .inl ft)), (st, .inl (cI, 264, .inl ff)), (od, .inl (cI, 264, .inl fo))] sz)) 0 0 (va_A [(h, .inr (3, [.ref hm, .ref dp, .ref hu, .ref we, .ref se, .ref hq, .int (nI nt)])), (dp, .inl (cI, 2, .inl fd)), (we, .inl (cI, 20, .inl fw)), (se, .inl (cI, 20, .inl fe)), (hm, .inr (0, [.ref pv, .ref up, .int (nI nr)])), (pv, .inl (cI, 10, .inl fp)), (up, .inl (cI, 10, .inl fu)), (hu, .inr (2, [.ref sd, .ref tw, .ref st, .ref od, .int (nI cn)])), (sd, .inl (cI, 12, .inl fs)), (tw, .inl (cI, 264, .inl ft)), (st, .inl (cI, 264, .inl ff)), (od, .inl (cI, 264, .inl fo))] sz) := by
  refine Met.ofW (cc := cX3_addUnit) (maxL := 4) (ret := (some .int)) (by decide) rfl ?_
  intro p e s m args below meth c s₁ B hml hv
  obtain ⟨rfl, hsz, ⟨hP, hK, hN⟩, hD0⟩ := hv
  have hx := B.exec
  have hb := B.bytes
  have hr := B.returns
  have hts := atoms_spec (ws := wsX3_addUnit) B.pre
  have hown : s.vm.findClass RX3 = some m.cls := findClass_of_methodNamed B.named
  have hlocks := B.notSynchronized
  subst hsz
  have hD := hD0.self (sz := s.heap.size)
  generalize hAe : va_A [(h, .inr (3, [.ref hm, .ref dp, .ref hu, .ref we, .ref se, .ref hq, .int (nI nt)])), (dp, .inl (cI, 2, .inl fd)), (we, .inl (cI, 20, .inl fw)), (se, .inl (cI, 20, .inl fe)), (hm, .inr (0, [.ref pv, .ref up, .int (nI nr)])), (pv, .inl (cI, 10, .inl fp)), (up, .inl (cI, 10, .inl fu)), (hu, .inr (2, [.ref sd, .ref tw, .ref st, .ref od, .int (nI cn)])), (sd, .inl (cI, 12, .inl fs)), (tw, .inl (cI, 264, .inl ft)), (st, .inl (cI, 264, .inl ff)), (od, .inl (cI, 264, .inl fo))] s.heap.size = A at hD ⊢
  have hA : ∀ q : Nat, s.heap.size ≤ q → A q := fun q h => by rw [← hAe]; exact Or.inr h
  have hS : va_S A s.heap s.heap [] := va_S.rf
  have inX2 : ∀ w ∈ wsX20, w ∈ wsX3_addUnit := wt_in [66, 67, 68, 69, 70] (by decide +kernel)
  have inX3 : ∀ w ∈ wsX30, w ∈ wsX3_addUnit := wt_in [59, 60, 61, 62, 63, 64, 65] (by decide +kernel)
  have hl := lv_entry ([.ref h, .int (nI d), .int (nI t), .int (nI q)]) (n := 4) (Nat.le_of_ble_eq_true rfl)
  rw [lg_entry_eq]
  generalize (lg_sl ([.ref h, .int (nI d), .int (nI t), .int (nI q)]) ++ List.replicate (4 - (lg_sl ([.ref h, .int (nI d), .int (nI t), .int (nI q)])).length) Slot.unset).toArray = ls at hl ⊢
  have hl : lv_has ls 4 [(0, .ref h), (1, .int (nI d)), (2, .int (nI t)), (3, .int (nI q))] := hl
  refine lv_iload_n hx hb dX3_addUnit_0 rfl (lv_at hl 1 rfl) ?_
  refine lv_iconst (v := nI 2) hx hb dX3_addUnit_1 (by decide +kernel) ?_
  refine wt_ro_go (va_runS (As := [.int (nI d), .int (nI 2)]) (rest := []) ⟨hx, hb, hml, hown, hts⟩ (k_X3_belowN l d 2 (by omega) (by omega)) (va_cwS 2 hts gX3_addUnit_X3_below rfl rfl rfl (by decide +kernel) ⟨Nat.le_of_ble_eq_true rfl, Nat.le_of_ble_eq_true rfl⟩) wt_PS rfl rfl hl.1 rfl (lv_room (Nat.le_of_ble_eq_true rfl)) dX3_addUnit_2 ⟨Nat.zero_le _, Nat.zero_le _⟩) ?_
  refine wt_if_eqB (tgt := 28) hx hb dX3_addUnit_5 (by decide) (fun c_5_1 => ?_) (fun c_5_1 => ?_)
  · exfalso; omega
  · refine lv_iload_n hx hb dX3_addUnit_8 rfl (lv_at hl 2 rfl) ?_
    refine lv_bipush (v := nI 10) hx hb dX3_addUnit_9 (by decide +kernel) ?_
    refine wt_ro_go (va_runS (As := [.int (nI t), .int (nI 10)]) (rest := []) ⟨hx, hb, hml, hown, hts⟩ (k_X3_belowN l t 10 (by omega) (by omega)) (va_cwS 2 hts gX3_addUnit_X3_below rfl rfl rfl (by decide +kernel) ⟨Nat.le_of_ble_eq_true rfl, Nat.le_of_ble_eq_true rfl⟩) wt_PS rfl rfl hl.1 rfl (lv_room (Nat.le_of_ble_eq_true rfl)) dX3_addUnit_11 ⟨Nat.zero_le _, Nat.zero_le _⟩) ?_
    refine wt_if_eqB (tgt := 28) hx hb dX3_addUnit_14 (by decide) (fun c_14_2 => ?_) (fun c_14_2 => ?_)
    · exfalso; omega
    · refine lv_iload_n hx hb dX3_addUnit_17 rfl (lv_at hl 3 rfl) ?_
      refine lv_iconst (v := nI 1) hx hb dX3_addUnit_18 (by decide +kernel) ?_
      refine wt_icmp_lt (tgt := 28) hx hb (by omega) (by omega) dX3_addUnit_19 (by decide) (fun c_19_3 => ?_) (fun c_19_3 => ?_)
      · exfalso; omega
      · refine lv_iload_n hx hb dX3_addUnit_22 rfl (lv_at hl 3 rfl) ?_
        refine lv_bipush (v := nI 9) hx hb dX3_addUnit_23 (by decide +kernel) ?_
        refine wt_icmp_le (tgt := 38) hx hb (by omega) (by omega) dX3_addUnit_25 (by decide) (fun c_25_4 => ?_) (fun c_25_4 => ?_)
        · refine lv_aload_n hx hb dX3_addUnit_38 rfl (lv_at hl 0 rfl) ?_
          refine va_get (D := (dC, dI)) (ci := 3) (v := .int (nI nt)) (C := RX3) (T := TX3) (N := 7) hx hb hts inX3 hown hK hP 0 rfl rfl 6 (by decide) (hts (.fieldLink RX3 40 "WarTable" "turns" "I") (List.mem_of_getElem? (i := 5) rfl)) (fun _ h9 => h9) rfl dX3_addUnit_39 ?_
          refine wt_if_gt (tgt := 79) hx hb (by omega) dX3_addUnit_42 (by decide) (fun c_42_5 => ?_) (fun c_42_5 => ?_)
          · exfalso; omega
          · refine lv_aload_n hx hb dX3_addUnit_45 rfl (lv_at hl 0 rfl) ?_
            refine va_get (D := (dC, dI)) (ci := 3) (v := .ref hu) (C := RX3) (T := TX3) (N := 7) hx hb hts inX3 hown hK hP 0 rfl rfl 2 (by decide) (hts (.fieldLink RX3 23 "WarTable" "units" "LWarTable$Units;") (List.mem_of_getElem? (i := 6) rfl)) (fun _ h9 => h9) rfl dX3_addUnit_46 ?_
            refine lv_aload_n hx hb dX3_addUnit_49 rfl (lv_at hl 0 rfl) ?_
            refine va_get (D := (dC, dI)) (ci := 3) (v := .int (nI nt)) (C := RX3) (T := TX3) (N := 7) hx hb hts inX3 hown hK hP 0 rfl rfl 6 (by decide) (hts (.fieldLink RX3 40 "WarTable" "turns" "I") (List.mem_of_getElem? (i := 5) rfl)) (fun _ h9 => h9) rfl dX3_addUnit_50 ?_
            refine lv_iload_n hx hb dX3_addUnit_53 rfl (lv_at hl 1 rfl) ?_
            refine wt_ro_go (va_runS (As := [.int (nI d)]) (rest := [.int (nI nt), .ref hu]) ⟨hx, hb, hml, hown, hts⟩ (k_X3_opponent l d (by omega)) (va_cwS 1 hts gX3_addUnit_X3_opponent rfl rfl rfl (by decide +kernel) ⟨Nat.le_of_ble_eq_true rfl, Nat.le_of_ble_eq_true rfl⟩) wt_PS rfl rfl hl.1 rfl (lv_room (Nat.le_of_ble_eq_true rfl)) dX3_addUnit_54 ⟨Nat.zero_le _, Nat.zero_le _⟩) ?_
            refine wt_ro_go (va_runV (As := [.int (nI nt), .int (nI (1 - d))]) (rest := []) ⟨hx, hb, hml, hown, hts⟩ (k_X2_townsHeld l dC dI cI hu sd tw st od fs ft ff fo cn nt (1 - d) (by omega) (by omega)) (cwV 2 hts gX3_addUnit_X2_townsHeld rfl rfl rfl (by decide +kernel) ⟨Nat.le_of_ble_eq_true rfl, Nat.le_of_ble_eq_true rfl⟩) (wt_PV (C := RX2) (T := TX2) (N := 5) (ci := 2) (q0 := 7) hK hP hN rfl rfl [7, 8, 9, 10, 11] rfl) rfl rfl hl.1 rfl (lv_room (Nat.le_of_ble_eq_true rfl)) dX3_addUnit_57 ⟨Nat.zero_le _, Nat.zero_le _⟩) ?_
            refine lv_iload_n hx hb dX3_addUnit_60 rfl (lv_at hl 2 rfl) ?_
            refine wt_ro_go (va_runS (As := [.int (wt_held fs ft nt (1 - d) cn), .int (nI t)]) (rest := []) ⟨hx, hb, hml, hown, hts⟩ (k_X3_has l (wt_held fs ft nt (1 - d) cn) (nI t)) (va_cwS 2 hts gX3_addUnit_X3_has rfl rfl rfl (by decide +kernel) ⟨Nat.le_of_ble_eq_true rfl, Nat.le_of_ble_eq_true rfl⟩) wt_PS rfl rfl hl.1 rfl (lv_room (Nat.le_of_ble_eq_true rfl)) dX3_addUnit_61 ⟨Nat.zero_le _, Nat.zero_le _⟩) ?_
            refine wt_if_neB (tgt := 79) hx hb dX3_addUnit_64 (by decide) (fun c_64_6 => ?_) (fun c_64_6 => ?_)
            · exact absurd c_64_6 hh
            · refine lv_aload_n hx hb dX3_addUnit_67 rfl (lv_at hl 0 rfl) ?_
              refine va_get (D := (dC, dI)) (ci := 3) (v := .ref hu) (C := RX3) (T := TX3) (N := 7) hx hb hts inX3 hown hK hP 0 rfl rfl 2 (by decide) (hts (.fieldLink RX3 23 "WarTable" "units" "LWarTable$Units;") (List.mem_of_getElem? (i := 6) rfl)) (fun _ h9 => h9) rfl dX3_addUnit_68 ?_
              refine wt_ro_go (va_runV (As := []) (rest := []) ⟨hx, hb, hml, hown, hts⟩ (k_X2_count l dC dI cI hu sd tw st od fs ft ff fo cn) (cwV 0 hts gX3_addUnit_X2_count rfl rfl rfl (by decide +kernel) ⟨Nat.le_of_ble_eq_true rfl, Nat.le_of_ble_eq_true rfl⟩) (wt_PV (C := RX2) (T := TX2) (N := 5) (ci := 2) (q0 := 7) hK hP hN rfl rfl [7, 8, 9, 10, 11] rfl) rfl rfl hl.1 rfl (lv_room (Nat.le_of_ble_eq_true rfl)) dX3_addUnit_71 ⟨Nat.zero_le _, Nat.zero_le _⟩) ?_
              refine lv_bipush (v := nI 12) hx hb dX3_addUnit_74 (by decide +kernel) ?_
              refine wt_icmp_lt (tgt := 89) hx hb (by omega) (by omega) dX3_addUnit_76 (by decide) (fun c_76_7 => ?_) (fun c_76_7 => ?_)
              · refine lv_aload_n hx hb dX3_addUnit_89 rfl (lv_at hl 0 rfl) ?_
                refine va_get (D := (dC, dI)) (ci := 3) (v := .ref hu) (C := RX3) (T := TX3) (N := 7) hx hb hts inX3 hown hK hP 0 rfl rfl 2 (by decide) (hts (.fieldLink RX3 23 "WarTable" "units" "LWarTable$Units;") (List.mem_of_getElem? (i := 6) rfl)) (fun _ h9 => h9) rfl dX3_addUnit_90 ?_
                refine lv_iload_n hx hb dX3_addUnit_93 rfl (lv_at hl 1 rfl) ?_
                refine lv_iload_n hx hb dX3_addUnit_94 rfl (lv_at hl 2 rfl) ?_
                refine lv_iload_n hx hb dX3_addUnit_95 rfl (lv_at hl 3 rfl) ?_
                refine wt_mu_go (w1 := [(hu, .inr (2, [.ref sd, .ref tw, .ref st, .ref od, .int (nI (cn + 1))])), (sd, .inl (cI, 12, .inl (upd fs cn (nI d)))), (tw, .inl (cI, 264, .inl (wt_plT ft 0 cn (nI t) (nI q)))), (st, .inl (cI, 264, .inl (wt_plF ff 0 cn (nI q)))), (od, .inl (cI, 264, .inl fo))]) (w2 := [(h, .inr (3, [.ref hm, .ref dp, .ref hu, .ref we, .ref se, .ref hq, .int (nI nt)])), (dp, .inl (cI, 2, .inl fd)), (we, .inl (cI, 20, .inl fw)), (se, .inl (cI, 20, .inl fe)), (hm, .inr (0, [.ref pv, .ref up, .int (nI nr)])), (pv, .inl (cI, 10, .inl fp)), (up, .inl (cI, 10, .inl fu)), (hu, .inr (2, [.ref sd, .ref tw, .ref st, .ref od, .int (nI (cn + 1))])), (sd, .inl (cI, 12, .inl (upd fs cn (nI d)))), (tw, .inl (cI, 264, .inl (wt_plT ft 0 cn (nI t) (nI q)))), (st, .inl (cI, 264, .inl (wt_plF ff 0 cn (nI q)))), (od, .inl (cI, 264, .inl fo))]) (wr := [(h, .inr (3, [.ref hm, .ref dp, .ref hu, .ref we, .ref se, .ref hq, .int (nI nt)])), (dp, .inl (cI, 2, .inl fd)), (we, .inl (cI, 20, .inl fw)), (se, .inl (cI, 20, .inl fe)), (hm, .inr (0, [.ref pv, .ref up, .int (nI nr)])), (pv, .inl (cI, 10, .inl fp)), (up, .inl (cI, 10, .inl fu))]) (va_runV (As := [.int (nI d), .int (nI t), .int (nI q)]) (rest := []) ⟨hx, hb, hml, hown, hts⟩ (k_X2_add l dC dI cI hu sd tw st od fs ft ff fo cn (nI d) (nI t) (nI q) s.heap.size (by omega)) (cwV 3 hts gX3_addUnit_X2_add rfl rfl rfl (by decide +kernel) ⟨Nat.le_of_ble_eq_true rfl, Nat.le_of_ble_eq_true rfl⟩) (wt_PVM (C := RX2) (T := TX2) (N := 5) (ci := 2) (q0 := 7) hK hP hN hD rfl rfl [7, 8, 9, 10, 11] rfl rfl) rfl rfl hl.1 rfl (lv_room (Nat.le_of_ble_eq_true rfl)) dX3_addUnit_96 ⟨Nat.zero_le _, Nat.zero_le _⟩) hP hD hS hA [7, 8, 9, 10, 11] [0, 1, 2, 3, 4, 5, 6] rfl rfl rfl rfl (by decide) rfl [0, 1, 2, 3, 4, 5, 6, 7, 8, 9, 10, 11] rfl rfl (fun H locs hP hD hS hz9 => ?_)
                refine W.eq (g2 := F0 m 99 ls [.int (nI cn)]) rfl ?_
                exact wt_miret hx hb hr rfl hP hS dX3_addUnit_99 hlocks
              · exfalso; omega
        · exfalso; omega
set_option maxHeartbeats 4000000 in
set_option maxRecDepth 100000 in
theorem k_X3_orderS (l : Launch) (dC : Nat → ClassId) (dI : Nat → Nat → Nat) (cI : ClassId) (h : Nat) (dp : Nat) (we : Nat) (se : Nat) (fd : Nat → Int32) (fw : Nat → Int32) (fe : Nat → Int32) (nt : Nat) (hm : Nat) (pv : Nat) (up : Nat) (fp : Nat → Int32) (fu : Nat → Int32) (nr : Nat) (hu : Nat) (sd : Nat) (tw : Nat) (st : Nat) (od : Nat) (fs : Nat → Int32) (ft : Nat → Int32) (ff : Nat → Int32) (fo : Nat → Int32) (cn : Nat) (hq : Nat) (u : Nat) (y : Int32) (sz : Nat) (hcn : cn ≤ 12) (hnt : nt ≤ 20) (hu2 : u < cn) (hy : wt_ok y) : Met l yX3_order wsX3_order ({ frames := 7, cells := 0, slots := 0, locals := 111 }) (va_Pc [.ref h, .int (nI u), .int y] (wt_pm (dC, dI) cI [(h, .inr (3, [.ref hm, .ref dp, .ref hu, .ref we, .ref se, .ref hq, .int (nI nt)])), (dp, .inl (cI, 2, .inl fd)), (we, .inl (cI, 20, .inl fw)), (se, .inl (cI, 20, .inl fe)), (hm, .inr (0, [.ref pv, .ref up, .int (nI nr)])), (pv, .inl (cI, 10, .inl fp)), (up, .inl (cI, 10, .inl fu)), (hu, .inr (2, [.ref sd, .ref tw, .ref st, .ref od, .int (nI cn)])), (sd, .inl (cI, 12, .inl fs)), (tw, .inl (cI, 264, .inl ft)), (st, .inl (cI, 264, .inl ff)), (od, .inl (cI, 264, .inl fo))] sz)) (wt_mu (some (.int (fo (nt * 12 + u) - nI 1))) (dC, dI) [(h, .inr (3, [.ref hm, .ref dp, .ref hu, .ref we, .ref se, .ref hq, .int (nI nt)])), (dp, .inl (cI, 2, .inl fd)), (we, .inl (cI, 20, .inl fw)), (se, .inl (cI, 20, .inl fe)), (hm, .inr (0, [.ref pv, .ref up, .int (nI nr)])), (pv, .inl (cI, 10, .inl fp)), (up, .inl (cI, 10, .inl fu)), (hu, .inr (2, [.ref sd, .ref tw, .ref st, .ref od, .int (nI cn)])), (sd, .inl (cI, 12, .inl fs)), (tw, .inl (cI, 264, .inl ft)), (st, .inl (cI, 264, .inl ff)), (od, .inl (cI, 264, .inl (upd fo (nt * 12 + u) (y + nI 1))))] (va_A [(h, .inr (3, [.ref hm, .ref dp, .ref hu, .ref we, .ref se, .ref hq, .int (nI nt)])), (dp, .inl (cI, 2, .inl fd)), (we, .inl (cI, 20, .inl fw)), (se, .inl (cI, 20, .inl fe)), (hm, .inr (0, [.ref pv, .ref up, .int (nI nr)])), (pv, .inl (cI, 10, .inl fp)), (up, .inl (cI, 10, .inl fu)), (hu, .inr (2, [.ref sd, .ref tw, .ref st, .ref od, .int (nI cn)])), (sd, .inl (cI, 12, .inl fs)), (tw, .inl (cI, 264, .inl ft)), (st, .inl (cI, 264, .inl ff)), (od, .inl (cI, 264, .inl fo))] sz)) 0 0 (va_A [(h, .inr (3, [.ref hm, .ref dp, .ref hu, .ref we, .ref se, .ref hq, .int (nI nt)])), (dp, .inl (cI, 2, .inl fd)), (we, .inl (cI, 20, .inl fw)), (se, .inl (cI, 20, .inl fe)), (hm, .inr (0, [.ref pv, .ref up, .int (nI nr)])), (pv, .inl (cI, 10, .inl fp)), (up, .inl (cI, 10, .inl fu)), (hu, .inr (2, [.ref sd, .ref tw, .ref st, .ref od, .int (nI cn)])), (sd, .inl (cI, 12, .inl fs)), (tw, .inl (cI, 264, .inl ft)), (st, .inl (cI, 264, .inl ff)), (od, .inl (cI, 264, .inl fo))] sz) := by
  refine Met.ofW (cc := cX3_order) (maxL := 4) (ret := (some .int)) (by decide) rfl ?_
  intro p e s m args below meth c s₁ B hml hv
  obtain ⟨rfl, hsz, ⟨hP, hK, hN⟩, hD0⟩ := hv
  have hx := B.exec
  have hb := B.bytes
  have hr := B.returns
  have hts := atoms_spec (ws := wsX3_order) B.pre
  have hown : s.vm.findClass RX3 = some m.cls := findClass_of_methodNamed B.named
  have hlocks := B.notSynchronized
  subst hsz
  have hD := hD0.self (sz := s.heap.size)
  generalize hAe : va_A [(h, .inr (3, [.ref hm, .ref dp, .ref hu, .ref we, .ref se, .ref hq, .int (nI nt)])), (dp, .inl (cI, 2, .inl fd)), (we, .inl (cI, 20, .inl fw)), (se, .inl (cI, 20, .inl fe)), (hm, .inr (0, [.ref pv, .ref up, .int (nI nr)])), (pv, .inl (cI, 10, .inl fp)), (up, .inl (cI, 10, .inl fu)), (hu, .inr (2, [.ref sd, .ref tw, .ref st, .ref od, .int (nI cn)])), (sd, .inl (cI, 12, .inl fs)), (tw, .inl (cI, 264, .inl ft)), (st, .inl (cI, 264, .inl ff)), (od, .inl (cI, 264, .inl fo))] s.heap.size = A at hD ⊢
  have hA : ∀ q : Nat, s.heap.size ≤ q → A q := fun q h => by rw [← hAe]; exact Or.inr h
  have hS : va_S A s.heap s.heap [] := va_S.rf
  have inX2 : ∀ w ∈ wsX20, w ∈ wsX3_order := wt_in [43, 44, 45, 46, 47] (by decide +kernel)
  have inX3 : ∀ w ∈ wsX30, w ∈ wsX3_order := wt_in [36, 37, 38, 39, 40, 41, 42] (by decide +kernel)
  have hl := lv_entry ([.ref h, .int (nI u), .int y]) (n := 4) (Nat.le_of_ble_eq_true rfl)
  rw [lg_entry_eq]
  generalize (lg_sl ([.ref h, .int (nI u), .int y]) ++ List.replicate (4 - (lg_sl ([.ref h, .int (nI u), .int y])).length) Slot.unset).toArray = ls at hl ⊢
  have hl : lv_has ls 4 [(0, .ref h), (1, .int (nI u)), (2, .int y)] := hl
  refine lv_aload_n hx hb dX3_order_0 rfl (lv_at hl 0 rfl) ?_
  refine lv_iload_n hx hb dX3_order_1 rfl (lv_at hl 1 rfl) ?_
  refine wt_rv_go (va_runV (As := [.int (nI u)]) (rest := []) ⟨hx, hb, hml, hown, hts⟩ (k_X3_checkUnitS l dC dI cI h dp we se fd fw fe nt hm pv up fp fu nr hu sd tw st od fs ft ff fo cn hq u (by omega) (by omega)) (cwV 1 hts gX3_order_X3_checkUnit rfl rfl rfl (by decide +kernel) ⟨Nat.le_of_ble_eq_true rfl, Nat.le_of_ble_eq_true rfl⟩) (wt_PV (C := RX3) (T := TX3) (N := 7) (ci := 3) (q0 := 0) hK hP hN rfl rfl [0, 1, 2, 3, 4, 5, 6, 7, 8, 9, 10, 11] rfl) rfl rfl hl.1 rfl (lv_room (Nat.le_of_ble_eq_true rfl)) dX3_order_2 ⟨Nat.zero_le _, Nat.zero_le _⟩) ?_
  refine lv_iload_n hx hb dX3_order_5 rfl (lv_at hl 2 rfl) ?_
  refine lv_iconst (v := (-1)) hx hb dX3_order_6 (by decide +kernel) ?_
  refine wt_icmp_eqI (tgt := 29) hx hb dX3_order_7 (by decide) (fun c_7_1 => ?_) (fun c_7_1 => ?_)
  · refine lv_aload_n hx hb dX3_order_29 rfl (lv_at hl 0 rfl) ?_
    refine va_get (D := (dC, dI)) (ci := 3) (v := .ref hu) (C := RX3) (T := TX3) (N := 7) hx hb hts inX3 hown hK hP 0 rfl rfl 2 (by decide) (hts (.fieldLink RX3 23 "WarTable" "units" "LWarTable$Units;") (List.mem_of_getElem? (i := 3) rfl)) (fun _ h9 => h9) rfl dX3_order_30 ?_
    refine lv_aload_n hx hb dX3_order_33 rfl (lv_at hl 0 rfl) ?_
    refine va_get (D := (dC, dI)) (ci := 3) (v := .int (nI nt)) (C := RX3) (T := TX3) (N := 7) hx hb hts inX3 hown hK hP 0 rfl rfl 6 (by decide) (hts (.fieldLink RX3 40 "WarTable" "turns" "I") (List.mem_of_getElem? (i := 4) rfl)) (fun _ h9 => h9) rfl dX3_order_34 ?_
    refine lv_iload_n hx hb dX3_order_37 rfl (lv_at hl 1 rfl) ?_
    refine wt_ro_go (va_runV (As := [.int (nI nt), .int (nI u)]) (rest := []) ⟨hx, hb, hml, hown, hts⟩ (k_X2_orderFor l dC dI cI hu sd tw st od fs ft ff fo cn nt u (by omega) (by omega)) (cwV 2 hts gX3_order_X2_orderFor rfl rfl rfl (by decide +kernel) ⟨Nat.le_of_ble_eq_true rfl, Nat.le_of_ble_eq_true rfl⟩) (wt_PV (C := RX2) (T := TX2) (N := 5) (ci := 2) (q0 := 7) hK hP hN rfl rfl [7, 8, 9, 10, 11] rfl) rfl rfl hl.1 rfl (lv_room (Nat.le_of_ble_eq_true rfl)) dX3_order_38 ⟨Nat.zero_le _, Nat.zero_le _⟩) ?_
    refine lv_istore_n (lv' := [(3, .int (fo (nt * 12 + u) - nI 1)), (0, .ref h), (1, .int (nI u)), (2, .int y)]) hx hb dX3_order_41 rfl hl (by decide) rfl (fun ls hl => ?_)
    refine lv_aload_n hx hb dX3_order_42 rfl (lv_at hl 1 rfl) ?_
    refine va_get (D := (dC, dI)) (ci := 3) (v := .ref hu) (C := RX3) (T := TX3) (N := 7) hx hb hts inX3 hown hK hP 0 rfl rfl 2 (by decide) (hts (.fieldLink RX3 23 "WarTable" "units" "LWarTable$Units;") (List.mem_of_getElem? (i := 3) rfl)) (fun _ h9 => h9) rfl dX3_order_43 ?_
    refine lv_aload_n hx hb dX3_order_46 rfl (lv_at hl 1 rfl) ?_
    refine va_get (D := (dC, dI)) (ci := 3) (v := .int (nI nt)) (C := RX3) (T := TX3) (N := 7) hx hb hts inX3 hown hK hP 0 rfl rfl 6 (by decide) (hts (.fieldLink RX3 40 "WarTable" "turns" "I") (List.mem_of_getElem? (i := 4) rfl)) (fun _ h9 => h9) rfl dX3_order_47 ?_
    refine lv_iload_n hx hb dX3_order_50 rfl (lv_at hl 2 rfl) ?_
    refine lv_iload_n hx hb dX3_order_51 rfl (lv_at hl 3 rfl) ?_
    refine wt_mu_go (w1 := [(hu, .inr (2, [.ref sd, .ref tw, .ref st, .ref od, .int (nI cn)])), (sd, .inl (cI, 12, .inl fs)), (tw, .inl (cI, 264, .inl ft)), (st, .inl (cI, 264, .inl ff)), (od, .inl (cI, 264, .inl (upd fo (nt * 12 + u) (y + nI 1))))]) (w2 := [(h, .inr (3, [.ref hm, .ref dp, .ref hu, .ref we, .ref se, .ref hq, .int (nI nt)])), (dp, .inl (cI, 2, .inl fd)), (we, .inl (cI, 20, .inl fw)), (se, .inl (cI, 20, .inl fe)), (hm, .inr (0, [.ref pv, .ref up, .int (nI nr)])), (pv, .inl (cI, 10, .inl fp)), (up, .inl (cI, 10, .inl fu)), (hu, .inr (2, [.ref sd, .ref tw, .ref st, .ref od, .int (nI cn)])), (sd, .inl (cI, 12, .inl fs)), (tw, .inl (cI, 264, .inl ft)), (st, .inl (cI, 264, .inl ff)), (od, .inl (cI, 264, .inl (upd fo (nt * 12 + u) (y + nI 1))))]) (wr := [(h, .inr (3, [.ref hm, .ref dp, .ref hu, .ref we, .ref se, .ref hq, .int (nI nt)])), (dp, .inl (cI, 2, .inl fd)), (we, .inl (cI, 20, .inl fw)), (se, .inl (cI, 20, .inl fe)), (hm, .inr (0, [.ref pv, .ref up, .int (nI nr)])), (pv, .inl (cI, 10, .inl fp)), (up, .inl (cI, 10, .inl fu))]) (va_runV (As := [.int (nI nt), .int (nI u), .int y]) (rest := []) ⟨hx, hb, hml, hown, hts⟩ (k_X2_giveOrder l dC dI cI hu sd tw st od fs ft ff fo cn nt u y s.heap.size (by omega) (by omega)) (cwV 3 hts gX3_order_X2_giveOrder rfl rfl rfl (by decide +kernel) ⟨Nat.le_of_ble_eq_true rfl, Nat.le_of_ble_eq_true rfl⟩) (wt_PVM (C := RX2) (T := TX2) (N := 5) (ci := 2) (q0 := 7) hK hP hN hD rfl rfl [7, 8, 9, 10, 11] rfl rfl) rfl rfl hl.1 rfl (lv_room (Nat.le_of_ble_eq_true rfl)) dX3_order_52 ⟨Nat.zero_le _, Nat.zero_le _⟩) hP hD hS hA [7, 8, 9, 10, 11] [0, 1, 2, 3, 4, 5, 6] rfl rfl rfl rfl (by decide) rfl [0, 1, 2, 3, 4, 5, 6, 7, 8, 9, 10, 11] rfl rfl (fun H locs hP hD hS hz9 => ?_)
    refine W.eq (g2 := F0 m 55 ls []) rfl ?_
    refine lv_iload_n hx hb dX3_order_55 rfl (lv_at hl 0 rfl) ?_
    exact wt_miret hx hb hr rfl hP hS dX3_order_56 hlocks
  · refine lv_iload_n hx hb dX3_order_10 rfl (lv_at hl 2 rfl) ?_
    refine lv_bipush (v := nI 10) hx hb dX3_order_11 (by decide +kernel) ?_
    refine wt_ro_go (va_runS (As := [.int y, .int (nI 10)]) (rest := []) ⟨hx, hb, hml, hown, hts⟩ (k_X3_belowI l y 10 (by omega)) (va_cwS 2 hts gX3_order_X3_below rfl rfl rfl (by decide +kernel) ⟨Nat.le_of_ble_eq_true rfl, Nat.le_of_ble_eq_true rfl⟩) wt_PS rfl rfl hl.1 rfl (lv_room (Nat.le_of_ble_eq_true rfl)) dX3_order_13 ⟨Nat.zero_le _, Nat.zero_le _⟩) ?_
    refine wt_if_neB (tgt := 29) hx hb dX3_order_16 (by decide) (fun c_16_2 => ?_) (fun c_16_2 => ?_)
    · refine lv_aload_n hx hb dX3_order_29 rfl (lv_at hl 0 rfl) ?_
      refine va_get (D := (dC, dI)) (ci := 3) (v := .ref hu) (C := RX3) (T := TX3) (N := 7) hx hb hts inX3 hown hK hP 0 rfl rfl 2 (by decide) (hts (.fieldLink RX3 23 "WarTable" "units" "LWarTable$Units;") (List.mem_of_getElem? (i := 3) rfl)) (fun _ h9 => h9) rfl dX3_order_30 ?_
      refine lv_aload_n hx hb dX3_order_33 rfl (lv_at hl 0 rfl) ?_
      refine va_get (D := (dC, dI)) (ci := 3) (v := .int (nI nt)) (C := RX3) (T := TX3) (N := 7) hx hb hts inX3 hown hK hP 0 rfl rfl 6 (by decide) (hts (.fieldLink RX3 40 "WarTable" "turns" "I") (List.mem_of_getElem? (i := 4) rfl)) (fun _ h9 => h9) rfl dX3_order_34 ?_
      refine lv_iload_n hx hb dX3_order_37 rfl (lv_at hl 1 rfl) ?_
      refine wt_ro_go (va_runV (As := [.int (nI nt), .int (nI u)]) (rest := []) ⟨hx, hb, hml, hown, hts⟩ (k_X2_orderFor l dC dI cI hu sd tw st od fs ft ff fo cn nt u (by omega) (by omega)) (cwV 2 hts gX3_order_X2_orderFor rfl rfl rfl (by decide +kernel) ⟨Nat.le_of_ble_eq_true rfl, Nat.le_of_ble_eq_true rfl⟩) (wt_PV (C := RX2) (T := TX2) (N := 5) (ci := 2) (q0 := 7) hK hP hN rfl rfl [7, 8, 9, 10, 11] rfl) rfl rfl hl.1 rfl (lv_room (Nat.le_of_ble_eq_true rfl)) dX3_order_38 ⟨Nat.zero_le _, Nat.zero_le _⟩) ?_
      refine lv_istore_n (lv' := [(3, .int (fo (nt * 12 + u) - nI 1)), (0, .ref h), (1, .int (nI u)), (2, .int y)]) hx hb dX3_order_41 rfl hl (by decide) rfl (fun ls hl => ?_)
      refine lv_aload_n hx hb dX3_order_42 rfl (lv_at hl 1 rfl) ?_
      refine va_get (D := (dC, dI)) (ci := 3) (v := .ref hu) (C := RX3) (T := TX3) (N := 7) hx hb hts inX3 hown hK hP 0 rfl rfl 2 (by decide) (hts (.fieldLink RX3 23 "WarTable" "units" "LWarTable$Units;") (List.mem_of_getElem? (i := 3) rfl)) (fun _ h9 => h9) rfl dX3_order_43 ?_
      refine lv_aload_n hx hb dX3_order_46 rfl (lv_at hl 1 rfl) ?_
      refine va_get (D := (dC, dI)) (ci := 3) (v := .int (nI nt)) (C := RX3) (T := TX3) (N := 7) hx hb hts inX3 hown hK hP 0 rfl rfl 6 (by decide) (hts (.fieldLink RX3 40 "WarTable" "turns" "I") (List.mem_of_getElem? (i := 4) rfl)) (fun _ h9 => h9) rfl dX3_order_47 ?_
      refine lv_iload_n hx hb dX3_order_50 rfl (lv_at hl 2 rfl) ?_
      refine lv_iload_n hx hb dX3_order_51 rfl (lv_at hl 3 rfl) ?_
      refine wt_mu_go (w1 := [(hu, .inr (2, [.ref sd, .ref tw, .ref st, .ref od, .int (nI cn)])), (sd, .inl (cI, 12, .inl fs)), (tw, .inl (cI, 264, .inl ft)), (st, .inl (cI, 264, .inl ff)), (od, .inl (cI, 264, .inl (upd fo (nt * 12 + u) (y + nI 1))))]) (w2 := [(h, .inr (3, [.ref hm, .ref dp, .ref hu, .ref we, .ref se, .ref hq, .int (nI nt)])), (dp, .inl (cI, 2, .inl fd)), (we, .inl (cI, 20, .inl fw)), (se, .inl (cI, 20, .inl fe)), (hm, .inr (0, [.ref pv, .ref up, .int (nI nr)])), (pv, .inl (cI, 10, .inl fp)), (up, .inl (cI, 10, .inl fu)), (hu, .inr (2, [.ref sd, .ref tw, .ref st, .ref od, .int (nI cn)])), (sd, .inl (cI, 12, .inl fs)), (tw, .inl (cI, 264, .inl ft)), (st, .inl (cI, 264, .inl ff)), (od, .inl (cI, 264, .inl (upd fo (nt * 12 + u) (y + nI 1))))]) (wr := [(h, .inr (3, [.ref hm, .ref dp, .ref hu, .ref we, .ref se, .ref hq, .int (nI nt)])), (dp, .inl (cI, 2, .inl fd)), (we, .inl (cI, 20, .inl fw)), (se, .inl (cI, 20, .inl fe)), (hm, .inr (0, [.ref pv, .ref up, .int (nI nr)])), (pv, .inl (cI, 10, .inl fp)), (up, .inl (cI, 10, .inl fu))]) (va_runV (As := [.int (nI nt), .int (nI u), .int y]) (rest := []) ⟨hx, hb, hml, hown, hts⟩ (k_X2_giveOrder l dC dI cI hu sd tw st od fs ft ff fo cn nt u y s.heap.size (by omega) (by omega)) (cwV 3 hts gX3_order_X2_giveOrder rfl rfl rfl (by decide +kernel) ⟨Nat.le_of_ble_eq_true rfl, Nat.le_of_ble_eq_true rfl⟩) (wt_PVM (C := RX2) (T := TX2) (N := 5) (ci := 2) (q0 := 7) hK hP hN hD rfl rfl [7, 8, 9, 10, 11] rfl rfl) rfl rfl hl.1 rfl (lv_room (Nat.le_of_ble_eq_true rfl)) dX3_order_52 ⟨Nat.zero_le _, Nat.zero_le _⟩) hP hD hS hA [7, 8, 9, 10, 11] [0, 1, 2, 3, 4, 5, 6] rfl rfl rfl rfl (by decide) rfl [0, 1, 2, 3, 4, 5, 6, 7, 8, 9, 10, 11] rfl rfl (fun H locs hP hD hS hz9 => ?_)
      refine W.eq (g2 := F0 m 55 ls []) rfl ?_
      refine lv_iload_n hx hb dX3_order_55 rfl (lv_at hl 0 rfl) ?_
      exact wt_miret hx hb hr rfl hP hS dX3_order_56 hlocks
    · exact absurd (hy.resolve_left c_7_1) c_16_2
set_option maxHeartbeats 4000000 in
set_option maxRecDepth 100000 in
theorem k_X3_playS (l : Launch) (dC : Nat → ClassId) (dI : Nat → Nat → Nat) (cI : ClassId) (h : Nat) (dp : Nat) (we : Nat) (se : Nat) (fd : Nat → Int32) (fw : Nat → Int32) (fe : Nat → Int32) (nt : Nat) (hm : Nat) (pv : Nat) (up : Nat) (fp : Nat → Int32) (fu : Nat → Int32) (nr : Nat) (hu : Nat) (sd : Nat) (tw : Nat) (st : Nat) (od : Nat) (fs : Nat → Int32) (ft : Nat → Int32) (ff : Nat → Int32) (fo : Nat → Int32) (cn : Nat) (hq : Nat) (w : Int32) (sz : Nat) (hcn : cn ≤ 12) (hn1 : nt < 20) (hw : vp_in w 3) : Met l yX3_play wsX3_play ({ frames := 7, cells := 0, slots := 0, locals := 145 }) (va_Pc [.ref h, .int w] (wt_pm (dC, dI) cI [(h, .inr (3, [.ref hm, .ref dp, .ref hu, .ref we, .ref se, .ref hq, .int (nI nt)])), (dp, .inl (cI, 2, .inl fd)), (we, .inl (cI, 20, .inl fw)), (se, .inl (cI, 20, .inl fe)), (hm, .inr (0, [.ref pv, .ref up, .int (nI nr)])), (pv, .inl (cI, 10, .inl fp)), (up, .inl (cI, 10, .inl fu)), (hu, .inr (2, [.ref sd, .ref tw, .ref st, .ref od, .int (nI cn)])), (sd, .inl (cI, 12, .inl fs)), (tw, .inl (cI, 264, .inl ft)), (st, .inl (cI, 264, .inl ff)), (od, .inl (cI, 264, .inl fo))] sz)) (wt_mu (some (.int ((nI (wt_fold (wt_lvs (wt_fold (wt_trn fd (upd fw nt w) fp fu fs fo cn nt) ((nt + 1) - nt) ((ft, ff), fe)).1.1 nt) cn 0)) - (nI (wt_fold (wt_lvs (wt_fold (wt_trn fd (upd fw nt w) fp fu fs fo cn nt) ((nt + 1) - nt) ((ft, ff), fe)).1.1 (nt + 1)) cn 0))))) (dC, dI) [(h, .inr (3, [.ref hm, .ref dp, .ref hu, .ref we, .ref se, .ref hq, .int (nI (nt + 1))])), (dp, .inl (cI, 2, .inl fd)), (we, .inl (cI, 20, .inl (upd fw nt w))), (se, .inl (cI, 20, .inl ((wt_fold (wt_trn fd (upd fw nt w) fp fu fs fo cn nt) ((nt + 1) - nt) ((ft, ff), fe)).2))), (hm, .inr (0, [.ref pv, .ref up, .int (nI nr)])), (pv, .inl (cI, 10, .inl fp)), (up, .inl (cI, 10, .inl fu)), (hu, .inr (2, [.ref sd, .ref tw, .ref st, .ref od, .int (nI cn)])), (sd, .inl (cI, 12, .inl fs)), (tw, .inl (cI, 264, .inl ((wt_fold (wt_trn fd (upd fw nt w) fp fu fs fo cn nt) ((nt + 1) - nt) ((ft, ff), fe)).1.1))), (st, .inl (cI, 264, .inl ((wt_fold (wt_trn fd (upd fw nt w) fp fu fs fo cn nt) ((nt + 1) - nt) ((ft, ff), fe)).1.2))), (od, .inl (cI, 264, .inl fo))] (va_A [(h, .inr (3, [.ref hm, .ref dp, .ref hu, .ref we, .ref se, .ref hq, .int (nI nt)])), (dp, .inl (cI, 2, .inl fd)), (we, .inl (cI, 20, .inl fw)), (se, .inl (cI, 20, .inl fe)), (hm, .inr (0, [.ref pv, .ref up, .int (nI nr)])), (pv, .inl (cI, 10, .inl fp)), (up, .inl (cI, 10, .inl fu)), (hu, .inr (2, [.ref sd, .ref tw, .ref st, .ref od, .int (nI cn)])), (sd, .inl (cI, 12, .inl fs)), (tw, .inl (cI, 264, .inl ft)), (st, .inl (cI, 264, .inl ff)), (od, .inl (cI, 264, .inl fo))] sz)) 0 0 (va_A [(h, .inr (3, [.ref hm, .ref dp, .ref hu, .ref we, .ref se, .ref hq, .int (nI nt)])), (dp, .inl (cI, 2, .inl fd)), (we, .inl (cI, 20, .inl fw)), (se, .inl (cI, 20, .inl fe)), (hm, .inr (0, [.ref pv, .ref up, .int (nI nr)])), (pv, .inl (cI, 10, .inl fp)), (up, .inl (cI, 10, .inl fu)), (hu, .inr (2, [.ref sd, .ref tw, .ref st, .ref od, .int (nI cn)])), (sd, .inl (cI, 12, .inl fs)), (tw, .inl (cI, 264, .inl ft)), (st, .inl (cI, 264, .inl ff)), (od, .inl (cI, 264, .inl fo))] sz) := by
  refine Met.ofW (cc := cX3_play) (maxL := 3) (ret := (some .int)) (by decide) rfl ?_
  intro p e s m args below meth c s₁ B hml hv
  obtain ⟨rfl, hsz, ⟨hP, hK, hN⟩, hD0⟩ := hv
  have hx := B.exec
  have hb := B.bytes
  have hr := B.returns
  have hts := atoms_spec (ws := wsX3_play) B.pre
  have hown : s.vm.findClass RX3 = some m.cls := findClass_of_methodNamed B.named
  have hlocks := B.notSynchronized
  subst hsz
  have hD := hD0.self (sz := s.heap.size)
  generalize hAe : va_A [(h, .inr (3, [.ref hm, .ref dp, .ref hu, .ref we, .ref se, .ref hq, .int (nI nt)])), (dp, .inl (cI, 2, .inl fd)), (we, .inl (cI, 20, .inl fw)), (se, .inl (cI, 20, .inl fe)), (hm, .inr (0, [.ref pv, .ref up, .int (nI nr)])), (pv, .inl (cI, 10, .inl fp)), (up, .inl (cI, 10, .inl fu)), (hu, .inr (2, [.ref sd, .ref tw, .ref st, .ref od, .int (nI cn)])), (sd, .inl (cI, 12, .inl fs)), (tw, .inl (cI, 264, .inl ft)), (st, .inl (cI, 264, .inl ff)), (od, .inl (cI, 264, .inl fo))] s.heap.size = A at hD ⊢
  have hA : ∀ q : Nat, s.heap.size ≤ q → A q := fun q h => by rw [← hAe]; exact Or.inr h
  have hS : va_S A s.heap s.heap [] := va_S.rf
  have inX0 : ∀ w ∈ wsX00, w ∈ wsX3_play := wt_in [145, 146, 147] (by decide +kernel)
  have inX2 : ∀ w ∈ wsX20, w ∈ wsX3_play := wt_in [140, 141, 142, 143, 144] (by decide +kernel)
  have inX3 : ∀ w ∈ wsX30, w ∈ wsX3_play := wt_in [133, 134, 135, 136, 137, 138, 139] (by decide +kernel)
  have hl := lv_entry ([.ref h, .int w]) (n := 3) (Nat.le_of_ble_eq_true rfl)
  rw [lg_entry_eq]
  generalize (lg_sl ([.ref h, .int w]) ++ List.replicate (3 - (lg_sl ([.ref h, .int w])).length) Slot.unset).toArray = ls at hl ⊢
  have hl : lv_has ls 3 [(0, .ref h), (1, .int w)] := hl
  refine lv_iload_n hx hb dX3_play_0 rfl (lv_at hl 1 rfl) ?_
  refine wt_rv_go (va_runS (As := [.int w]) (rest := []) ⟨hx, hb, hml, hown, hts⟩ (k_X3_checkWeatherS l w (by omega)) (va_cwS 1 hts gX3_play_X3_checkWeather rfl rfl rfl (by decide +kernel) ⟨Nat.le_of_ble_eq_true rfl, Nat.le_of_ble_eq_true rfl⟩) wt_PS rfl rfl hl.1 rfl (lv_room (Nat.le_of_ble_eq_true rfl)) dX3_play_1 ⟨Nat.zero_le _, Nat.zero_le _⟩) ?_
  refine lv_aload_n hx hb dX3_play_4 rfl (lv_at hl 0 rfl) ?_
  refine va_get (D := (dC, dI)) (ci := 3) (v := .int (nI nt)) (C := RX3) (T := TX3) (N := 7) hx hb hts inX3 hown hK hP 0 rfl rfl 6 (by decide) (hts (.fieldLink RX3 40 "WarTable" "turns" "I") (List.mem_of_getElem? (i := 3) rfl)) (fun _ h9 => h9) rfl dX3_play_5 ?_
  refine lv_bipush (v := nI 20) hx hb dX3_play_8 (by decide +kernel) ?_
  refine wt_ro_go (va_runS (As := [.int (nI nt), .int (nI 20)]) (rest := []) ⟨hx, hb, hml, hown, hts⟩ (k_X3_belowN l nt 20 (by omega) (by omega)) (va_cwS 2 hts gX3_play_X3_below rfl rfl rfl (by decide +kernel) ⟨Nat.le_of_ble_eq_true rfl, Nat.le_of_ble_eq_true rfl⟩) wt_PS rfl rfl hl.1 rfl (lv_room (Nat.le_of_ble_eq_true rfl)) dX3_play_10 ⟨Nat.zero_le _, Nat.zero_le _⟩) ?_
  refine wt_if_neB (tgt := 26) hx hb dX3_play_13 (by decide) (fun c_13_1 => ?_) (fun c_13_1 => ?_)
  · refine lv_aload_n hx hb dX3_play_26 rfl (lv_at hl 0 rfl) ?_
    refine va_get (D := (dC, dI)) (ci := 3) (v := .int (nI nt)) (C := RX3) (T := TX3) (N := 7) hx hb hts inX3 hown hK hP 0 rfl rfl 6 (by decide) (hts (.fieldLink RX3 40 "WarTable" "turns" "I") (List.mem_of_getElem? (i := 3) rfl)) (fun _ h9 => h9) rfl dX3_play_27 ?_
    refine lv_istore_n (lv' := [(2, .int (nI nt)), (0, .ref h), (1, .int w)]) hx hb dX3_play_30 rfl hl (by decide) rfl (fun ls hl => ?_)
    refine lv_aload_n hx hb dX3_play_31 rfl (lv_at hl 1 rfl) ?_
    refine va_get (D := (dC, dI)) (ci := 3) (v := .ref we) (C := RX3) (T := TX3) (N := 7) hx hb hts inX3 hown hK hP 0 rfl rfl 3 (by decide) (hts (.fieldLink RX3 27 "WarTable" "weathers" "[I") (List.mem_of_getElem? (i := 4) rfl)) (fun _ h9 => h9) rfl dX3_play_32 ?_
    refine lv_iload_n hx hb dX3_play_35 rfl (lv_at hl 0 rfl) ?_
    refine lv_iload_n hx hb dX3_play_36 rfl (lv_at hl 2 rfl) ?_
    refine wt_iast hx hb hK hP hD hS 2 rfl (by omega) (by omega) dX3_play_37 (fun H locs hP hD hS => ?_)
    have hP : va_P (dC, dI) vwCl [(h, .inr (3, [.ref hm, .ref dp, .ref hu, .ref we, .ref se, .ref hq, .int (nI nt)])), (dp, .inl (cI, 2, .inl fd)), (we, .inl (cI, 20, .inl (upd fw nt w))), (se, .inl (cI, 20, .inl fe)), (hm, .inr (0, [.ref pv, .ref up, .int (nI nr)])), (pv, .inl (cI, 10, .inl fp)), (up, .inl (cI, 10, .inl fu)), (hu, .inr (2, [.ref sd, .ref tw, .ref st, .ref od, .int (nI cn)])), (sd, .inl (cI, 12, .inl fs)), (tw, .inl (cI, 264, .inl ft)), (st, .inl (cI, 264, .inl ff)), (od, .inl (cI, 264, .inl fo))] H := hP
    have hD : va_D A [(h, .inr (3, [.ref hm, .ref dp, .ref hu, .ref we, .ref se, .ref hq, .int (nI nt)])), (dp, .inl (cI, 2, .inl fd)), (we, .inl (cI, 20, .inl (upd fw nt w))), (se, .inl (cI, 20, .inl fe)), (hm, .inr (0, [.ref pv, .ref up, .int (nI nr)])), (pv, .inl (cI, 10, .inl fp)), (up, .inl (cI, 10, .inl fu)), (hu, .inr (2, [.ref sd, .ref tw, .ref st, .ref od, .int (nI cn)])), (sd, .inl (cI, 12, .inl fs)), (tw, .inl (cI, 264, .inl ft)), (st, .inl (cI, 264, .inl ff)), (od, .inl (cI, 264, .inl fo))] := hD
    refine lv_aload_n hx hb dX3_play_38 rfl (lv_at hl 1 rfl) ?_
    refine lv_iload_n hx hb dX3_play_39 rfl (lv_at hl 0 rfl) ?_
    refine lv_iconst (v := nI 1) hx hb dX3_play_40 (by decide +kernel) ?_
    refine wt_iadd hx hb dX3_play_41 ?_
    refine va_put (D := (dC, dI)) (ci := 3) (v := .int (nI (nt + 1))) (ty := .int) (C := RX3) (T := TX3) (N := 7) hx hb hts inX3 tyX3 tyX3_ok nmX3 hown hK hP hD hS 0 rfl rfl 6 (by decide) (hts (.fieldLink RX3 40 "WarTable" "turns" "I") (List.mem_of_getElem? (i := 3) rfl)) (fun _ h9 => h9) rfl (by decide +kernel) rfl rfl (Nat.le_of_ble_eq_true rfl) dX3_play_42 (fun H locs hP hD hS => ?_)
    have hP : va_P (dC, dI) vwCl [(h, .inr (3, [.ref hm, .ref dp, .ref hu, .ref we, .ref se, .ref hq, .int (nI (nt + 1))])), (dp, .inl (cI, 2, .inl fd)), (we, .inl (cI, 20, .inl (upd fw nt w))), (se, .inl (cI, 20, .inl fe)), (hm, .inr (0, [.ref pv, .ref up, .int (nI nr)])), (pv, .inl (cI, 10, .inl fp)), (up, .inl (cI, 10, .inl fu)), (hu, .inr (2, [.ref sd, .ref tw, .ref st, .ref od, .int (nI cn)])), (sd, .inl (cI, 12, .inl fs)), (tw, .inl (cI, 264, .inl ft)), (st, .inl (cI, 264, .inl ff)), (od, .inl (cI, 264, .inl fo))] H := hP
    have hD : va_D A [(h, .inr (3, [.ref hm, .ref dp, .ref hu, .ref we, .ref se, .ref hq, .int (nI (nt + 1))])), (dp, .inl (cI, 2, .inl fd)), (we, .inl (cI, 20, .inl (upd fw nt w))), (se, .inl (cI, 20, .inl fe)), (hm, .inr (0, [.ref pv, .ref up, .int (nI nr)])), (pv, .inl (cI, 10, .inl fp)), (up, .inl (cI, 10, .inl fu)), (hu, .inr (2, [.ref sd, .ref tw, .ref st, .ref od, .int (nI cn)])), (sd, .inl (cI, 12, .inl fs)), (tw, .inl (cI, 264, .inl ft)), (st, .inl (cI, 264, .inl ff)), (od, .inl (cI, 264, .inl fo))] := hD
    refine lv_aload_n hx hb dX3_play_45 rfl (lv_at hl 1 rfl) ?_
    refine lv_iload_n hx hb dX3_play_46 rfl (lv_at hl 0 rfl) ?_
    refine wt_mu_go (w1 := [(h, .inr (3, [.ref hm, .ref dp, .ref hu, .ref we, .ref se, .ref hq, .int (nI (nt + 1))])), (dp, .inl (cI, 2, .inl fd)), (we, .inl (cI, 20, .inl (upd fw nt w))), (se, .inl (cI, 20, .inl ((wt_fold (wt_trn fd (upd fw nt w) fp fu fs fo cn nt) ((nt + 1) - nt) ((ft, ff), fe)).2))), (hm, .inr (0, [.ref pv, .ref up, .int (nI nr)])), (pv, .inl (cI, 10, .inl fp)), (up, .inl (cI, 10, .inl fu)), (hu, .inr (2, [.ref sd, .ref tw, .ref st, .ref od, .int (nI cn)])), (sd, .inl (cI, 12, .inl fs)), (tw, .inl (cI, 264, .inl ((wt_fold (wt_trn fd (upd fw nt w) fp fu fs fo cn nt) ((nt + 1) - nt) ((ft, ff), fe)).1.1))), (st, .inl (cI, 264, .inl ((wt_fold (wt_trn fd (upd fw nt w) fp fu fs fo cn nt) ((nt + 1) - nt) ((ft, ff), fe)).1.2))), (od, .inl (cI, 264, .inl fo))]) (w2 := [(h, .inr (3, [.ref hm, .ref dp, .ref hu, .ref we, .ref se, .ref hq, .int (nI (nt + 1))])), (dp, .inl (cI, 2, .inl fd)), (we, .inl (cI, 20, .inl (upd fw nt w))), (se, .inl (cI, 20, .inl ((wt_fold (wt_trn fd (upd fw nt w) fp fu fs fo cn nt) ((nt + 1) - nt) ((ft, ff), fe)).2))), (hm, .inr (0, [.ref pv, .ref up, .int (nI nr)])), (pv, .inl (cI, 10, .inl fp)), (up, .inl (cI, 10, .inl fu)), (hu, .inr (2, [.ref sd, .ref tw, .ref st, .ref od, .int (nI cn)])), (sd, .inl (cI, 12, .inl fs)), (tw, .inl (cI, 264, .inl ((wt_fold (wt_trn fd (upd fw nt w) fp fu fs fo cn nt) ((nt + 1) - nt) ((ft, ff), fe)).1.1))), (st, .inl (cI, 264, .inl ((wt_fold (wt_trn fd (upd fw nt w) fp fu fs fo cn nt) ((nt + 1) - nt) ((ft, ff), fe)).1.2))), (od, .inl (cI, 264, .inl fo))]) (wr := []) (va_runV (As := [.int (nI nt)]) (rest := []) ⟨hx, hb, hml, hown, hts⟩ (k_X3_playFrom l dC dI cI h dp we se fd (upd fw nt w) fe (nt + 1) hm pv up fp fu nr hu sd tw st od fs ft ff fo cn hq nt H.size (by omega) (by omega) (by omega)) (cwV 1 hts gX3_play_X3_playFrom rfl rfl rfl (by decide +kernel) ⟨Nat.le_of_ble_eq_true rfl, Nat.le_of_ble_eq_true rfl⟩) (wt_PVM (C := RX3) (T := TX3) (N := 7) (ci := 3) (q0 := 0) hK hP hN hD rfl rfl [0, 1, 2, 3, 4, 5, 6, 7, 8, 9, 10, 11] rfl rfl) rfl rfl hl.1 rfl (lv_room (Nat.le_of_ble_eq_true rfl)) dX3_play_47 ⟨Nat.zero_le _, Nat.zero_le _⟩) hP hD hS hA [0, 1, 2, 3, 4, 5, 6, 7, 8, 9, 10, 11] [] rfl rfl rfl rfl (by decide) rfl [0, 1, 2, 3, 4, 5, 6, 7, 8, 9, 10, 11] rfl rfl (fun H locs hP hD hS hz9 => ?_)
    refine W.eq (g2 := F0 m 50 ls []) rfl ?_
    refine lv_aload_n hx hb dX3_play_50 rfl (lv_at hl 1 rfl) ?_
    refine va_get (D := (dC, dI)) (ci := 3) (v := .ref hu) (C := RX3) (T := TX3) (N := 7) hx hb hts inX3 hown hK hP 0 rfl rfl 2 (by decide) (hts (.fieldLink RX3 23 "WarTable" "units" "LWarTable$Units;") (List.mem_of_getElem? (i := 5) rfl)) (fun _ h9 => h9) rfl dX3_play_51 ?_
    refine lv_iload_n hx hb dX3_play_54 rfl (lv_at hl 0 rfl) ?_
    refine wt_ro_go (va_runV (As := [.int (nI nt)]) (rest := []) ⟨hx, hb, hml, hown, hts⟩ (k_X2_livingAt l dC dI cI hu sd tw st od fs ((wt_fold (wt_trn fd (upd fw nt w) fp fu fs fo cn nt) ((nt + 1) - nt) ((ft, ff), fe)).1.1) ((wt_fold (wt_trn fd (upd fw nt w) fp fu fs fo cn nt) ((nt + 1) - nt) ((ft, ff), fe)).1.2) fo cn nt (by omega) (by omega)) (cwV 1 hts gX3_play_X2_livingAt rfl rfl rfl (by decide +kernel) ⟨Nat.le_of_ble_eq_true rfl, Nat.le_of_ble_eq_true rfl⟩) (wt_PV (C := RX2) (T := TX2) (N := 5) (ci := 2) (q0 := 7) hK hP hN rfl rfl [7, 8, 9, 10, 11] rfl) rfl rfl hl.1 rfl (lv_room (Nat.le_of_ble_eq_true rfl)) dX3_play_55 ⟨Nat.zero_le _, Nat.zero_le _⟩) ?_
    refine lv_aload_n hx hb dX3_play_58 rfl (lv_at hl 1 rfl) ?_
    refine va_get (D := (dC, dI)) (ci := 3) (v := .ref hu) (C := RX3) (T := TX3) (N := 7) hx hb hts inX3 hown hK hP 0 rfl rfl 2 (by decide) (hts (.fieldLink RX3 23 "WarTable" "units" "LWarTable$Units;") (List.mem_of_getElem? (i := 5) rfl)) (fun _ h9 => h9) rfl dX3_play_59 ?_
    refine lv_iload_n hx hb dX3_play_62 rfl (lv_at hl 0 rfl) ?_
    refine lv_iconst (v := nI 1) hx hb dX3_play_63 (by decide +kernel) ?_
    refine wt_iadd hx hb dX3_play_64 ?_
    refine wt_ro_go (va_runV (As := [.int (nI (nt + 1))]) (rest := [.int (nI (wt_fold (wt_lvs ((wt_fold (wt_trn fd (upd fw nt w) fp fu fs fo cn nt) ((nt + 1) - nt) ((ft, ff), fe)).1.1) nt) cn 0))]) ⟨hx, hb, hml, hown, hts⟩ (k_X2_livingAt l dC dI cI hu sd tw st od fs ((wt_fold (wt_trn fd (upd fw nt w) fp fu fs fo cn nt) ((nt + 1) - nt) ((ft, ff), fe)).1.1) ((wt_fold (wt_trn fd (upd fw nt w) fp fu fs fo cn nt) ((nt + 1) - nt) ((ft, ff), fe)).1.2) fo cn (nt + 1) (by omega) (by omega)) (cwV 1 hts gX3_play_X2_livingAt rfl rfl rfl (by decide +kernel) ⟨Nat.le_of_ble_eq_true rfl, Nat.le_of_ble_eq_true rfl⟩) (wt_PV (C := RX2) (T := TX2) (N := 5) (ci := 2) (q0 := 7) hK hP hN rfl rfl [7, 8, 9, 10, 11] rfl) rfl rfl hl.1 rfl (lv_room (Nat.le_of_ble_eq_true rfl)) dX3_play_65 ⟨Nat.zero_le _, Nat.zero_le _⟩) ?_
    refine lv_isub hx hb dX3_play_68 ?_
    exact wt_miret hx hb hr (by simp only [wt_fold_s, wt_if_t c_13_1]) hP hS dX3_play_69 hlocks
  · exfalso; omega
set_option maxHeartbeats 4000000 in
set_option maxRecDepth 100000 in
theorem k_X3_played (l : Launch) (dC : Nat → ClassId) (dI : Nat → Nat → Nat) (cI : ClassId) (h : Nat) (dp : Nat) (we : Nat) (se : Nat) (fd : Nat → Int32) (fw : Nat → Int32) (fe : Nat → Int32) (nt : Nat) (hm : Nat) (pv : Nat) (up : Nat) (fp : Nat → Int32) (fu : Nat → Int32) (nr : Nat) (hu : Nat) (sd : Nat) (tw : Nat) (st : Nat) (od : Nat) (fs : Nat → Int32) (ft : Nat → Int32) (ff : Nat → Int32) (fo : Nat → Int32) (cn : Nat) (hq : Nat) : Met l yX3_played wsX3_played ({ frames := 0, cells := 0, slots := 0, locals := 0 }) (va_Pc [.ref h] (wt_pre (dC, dI) cI [(h, .inr (3, [.ref hm, .ref dp, .ref hu, .ref we, .ref se, .ref hq, .int (nI nt)])), (dp, .inl (cI, 2, .inl fd)), (we, .inl (cI, 20, .inl fw)), (se, .inl (cI, 20, .inl fe)), (hm, .inr (0, [.ref pv, .ref up, .int (nI nr)])), (pv, .inl (cI, 10, .inl fp)), (up, .inl (cI, 10, .inl fu)), (hu, .inr (2, [.ref sd, .ref tw, .ref st, .ref od, .int (nI cn)])), (sd, .inl (cI, 12, .inl fs)), (tw, .inl (cI, 264, .inl ft)), (st, .inl (cI, 264, .inl ff)), (od, .inl (cI, 264, .inl fo))])) (wt_ro (nI nt)) 0 0 wt_no := by
  refine Met.ofW (cc := cX3_played) (maxL := 1) (ret := (some .int)) (by decide) rfl ?_
  intro p e s m args below meth c s₁ B hml hv
  obtain ⟨rfl, hP, hK, hN⟩ := hv
  have hx := B.exec
  have hb := B.bytes
  have hr := B.returns
  have hts := atoms_spec (ws := wsX3_played) B.pre
  have hown : s.vm.findClass RX3 = some m.cls := findClass_of_methodNamed B.named
  have hlocks := B.notSynchronized
  have inX3 : ∀ w ∈ wsX30, w ∈ wsX3_played := wt_in [2, 3, 4, 5, 6, 7, 8] (by decide +kernel)
  have hl := lv_entry ([.ref h]) (n := 1) (Nat.le_of_ble_eq_true rfl)
  rw [lg_entry_eq]
  generalize (lg_sl ([.ref h]) ++ List.replicate (1 - (lg_sl ([.ref h])).length) Slot.unset).toArray = ls at hl ⊢
  have hl : lv_has ls 1 [(0, .ref h)] := hl
  refine lv_aload_n hx hb dX3_played_0 rfl (lv_at hl 0 rfl) ?_
  refine va_get (D := (dC, dI)) (ci := 3) (v := .int (nI nt)) (C := RX3) (T := TX3) (N := 7) hx hb hts inX3 hown hK hP 0 rfl rfl 6 (by decide) (hts (.fieldLink RX3 40 "WarTable" "turns" "I") (List.mem_of_getElem? (i := 1) rfl)) (fun _ h9 => h9) rfl dX3_played_1 ?_
  exact wt_ret hx hb hr rfl rfl dX3_played_4 hlocks
set_option maxHeartbeats 4000000 in
set_option maxRecDepth 100000 in
theorem k_X3_townOfS (l : Launch) (dC : Nat → ClassId) (dI : Nat → Nat → Nat) (cI : ClassId) (h : Nat) (dp : Nat) (we : Nat) (se : Nat) (fd : Nat → Int32) (fw : Nat → Int32) (fe : Nat → Int32) (nt : Nat) (hm : Nat) (pv : Nat) (up : Nat) (fp : Nat → Int32) (fu : Nat → Int32) (nr : Nat) (hu : Nat) (sd : Nat) (tw : Nat) (st : Nat) (od : Nat) (fs : Nat → Int32) (ft : Nat → Int32) (ff : Nat → Int32) (fo : Nat → Int32) (cn : Nat) (hq : Nat) (u : Nat) (hcn : cn ≤ 12) (hnt : nt ≤ 20) (hu2 : u < cn) : Met l yX3_townOf wsX3_townOf ({ frames := 7, cells := 0, slots := 0, locals := 111 }) (va_Pc [.ref h, .int (nI u)] (wt_pre (dC, dI) cI [(h, .inr (3, [.ref hm, .ref dp, .ref hu, .ref we, .ref se, .ref hq, .int (nI nt)])), (dp, .inl (cI, 2, .inl fd)), (we, .inl (cI, 20, .inl fw)), (se, .inl (cI, 20, .inl fe)), (hm, .inr (0, [.ref pv, .ref up, .int (nI nr)])), (pv, .inl (cI, 10, .inl fp)), (up, .inl (cI, 10, .inl fu)), (hu, .inr (2, [.ref sd, .ref tw, .ref st, .ref od, .int (nI cn)])), (sd, .inl (cI, 12, .inl fs)), (tw, .inl (cI, 264, .inl ft)), (st, .inl (cI, 264, .inl ff)), (od, .inl (cI, 264, .inl fo))])) (wt_ro (ft (nt * 12 + u))) 0 0 wt_no := by
  refine Met.ofW (cc := cX3_townOf) (maxL := 2) (ret := (some .int)) (by decide) rfl ?_
  intro p e s m args below meth c s₁ B hml hv
  obtain ⟨rfl, hP, hK, hN⟩ := hv
  have hx := B.exec
  have hb := B.bytes
  have hr := B.returns
  have hts := atoms_spec (ws := wsX3_townOf) B.pre
  have hown : s.vm.findClass RX3 = some m.cls := findClass_of_methodNamed B.named
  have hlocks := B.notSynchronized
  have inX2 : ∀ w ∈ wsX20, w ∈ wsX3_townOf := wt_in [37, 38, 39, 40, 41] (by decide +kernel)
  have inX3 : ∀ w ∈ wsX30, w ∈ wsX3_townOf := wt_in [30, 31, 32, 33, 34, 35, 36] (by decide +kernel)
  have hl := lv_entry ([.ref h, .int (nI u)]) (n := 2) (Nat.le_of_ble_eq_true rfl)
  rw [lg_entry_eq]
  generalize (lg_sl ([.ref h, .int (nI u)]) ++ List.replicate (2 - (lg_sl ([.ref h, .int (nI u)])).length) Slot.unset).toArray = ls at hl ⊢
  have hl : lv_has ls 2 [(0, .ref h), (1, .int (nI u))] := hl
  refine lv_aload_n hx hb dX3_townOf_0 rfl (lv_at hl 0 rfl) ?_
  refine lv_iload_n hx hb dX3_townOf_1 rfl (lv_at hl 1 rfl) ?_
  refine wt_rv_go (va_runV (As := [.int (nI u)]) (rest := []) ⟨hx, hb, hml, hown, hts⟩ (k_X3_checkUnitS l dC dI cI h dp we se fd fw fe nt hm pv up fp fu nr hu sd tw st od fs ft ff fo cn hq u (by omega) (by omega)) (cwV 1 hts gX3_townOf_X3_checkUnit rfl rfl rfl (by decide +kernel) ⟨Nat.le_of_ble_eq_true rfl, Nat.le_of_ble_eq_true rfl⟩) (wt_PV (C := RX3) (T := TX3) (N := 7) (ci := 3) (q0 := 0) hK hP hN rfl rfl [0, 1, 2, 3, 4, 5, 6, 7, 8, 9, 10, 11] rfl) rfl rfl hl.1 rfl (lv_room (Nat.le_of_ble_eq_true rfl)) dX3_townOf_2 ⟨Nat.zero_le _, Nat.zero_le _⟩) ?_
  refine lv_aload_n hx hb dX3_townOf_5 rfl (lv_at hl 0 rfl) ?_
  refine va_get (D := (dC, dI)) (ci := 3) (v := .ref hu) (C := RX3) (T := TX3) (N := 7) hx hb hts inX3 hown hK hP 0 rfl rfl 2 (by decide) (hts (.fieldLink RX3 23 "WarTable" "units" "LWarTable$Units;") (List.mem_of_getElem? (i := 1) rfl)) (fun _ h9 => h9) rfl dX3_townOf_6 ?_
  refine lv_aload_n hx hb dX3_townOf_9 rfl (lv_at hl 0 rfl) ?_
  refine va_get (D := (dC, dI)) (ci := 3) (v := .int (nI nt)) (C := RX3) (T := TX3) (N := 7) hx hb hts inX3 hown hK hP 0 rfl rfl 6 (by decide) (hts (.fieldLink RX3 40 "WarTable" "turns" "I") (List.mem_of_getElem? (i := 2) rfl)) (fun _ h9 => h9) rfl dX3_townOf_10 ?_
  refine lv_iload_n hx hb dX3_townOf_13 rfl (lv_at hl 1 rfl) ?_
  refine wt_ro_go (va_runV (As := [.int (nI nt), .int (nI u)]) (rest := []) ⟨hx, hb, hml, hown, hts⟩ (k_X2_townAt l dC dI cI hu sd tw st od fs ft ff fo cn nt u (by omega) (by omega)) (cwV 2 hts gX3_townOf_X2_townAt rfl rfl rfl (by decide +kernel) ⟨Nat.le_of_ble_eq_true rfl, Nat.le_of_ble_eq_true rfl⟩) (wt_PV (C := RX2) (T := TX2) (N := 5) (ci := 2) (q0 := 7) hK hP hN rfl rfl [7, 8, 9, 10, 11] rfl) rfl rfl hl.1 rfl (lv_room (Nat.le_of_ble_eq_true rfl)) dX3_townOf_14 ⟨Nat.zero_le _, Nat.zero_le _⟩) ?_
  exact wt_ret hx hb hr rfl rfl dX3_townOf_17 hlocks
set_option maxHeartbeats 4000000 in
set_option maxRecDepth 100000 in
theorem k_X3_strengthS (l : Launch) (dC : Nat → ClassId) (dI : Nat → Nat → Nat) (cI : ClassId) (h : Nat) (dp : Nat) (we : Nat) (se : Nat) (fd : Nat → Int32) (fw : Nat → Int32) (fe : Nat → Int32) (nt : Nat) (hm : Nat) (pv : Nat) (up : Nat) (fp : Nat → Int32) (fu : Nat → Int32) (nr : Nat) (hu : Nat) (sd : Nat) (tw : Nat) (st : Nat) (od : Nat) (fs : Nat → Int32) (ft : Nat → Int32) (ff : Nat → Int32) (fo : Nat → Int32) (cn : Nat) (hq : Nat) (u : Nat) (hcn : cn ≤ 12) (hnt : nt ≤ 20) (hu2 : u < cn) : Met l yX3_strength wsX3_strength ({ frames := 7, cells := 0, slots := 0, locals := 111 }) (va_Pc [.ref h, .int (nI u)] (wt_pre (dC, dI) cI [(h, .inr (3, [.ref hm, .ref dp, .ref hu, .ref we, .ref se, .ref hq, .int (nI nt)])), (dp, .inl (cI, 2, .inl fd)), (we, .inl (cI, 20, .inl fw)), (se, .inl (cI, 20, .inl fe)), (hm, .inr (0, [.ref pv, .ref up, .int (nI nr)])), (pv, .inl (cI, 10, .inl fp)), (up, .inl (cI, 10, .inl fu)), (hu, .inr (2, [.ref sd, .ref tw, .ref st, .ref od, .int (nI cn)])), (sd, .inl (cI, 12, .inl fs)), (tw, .inl (cI, 264, .inl ft)), (st, .inl (cI, 264, .inl ff)), (od, .inl (cI, 264, .inl fo))])) (wt_ro (ff (nt * 12 + u))) 0 0 wt_no := by
  refine Met.ofW (cc := cX3_strength) (maxL := 2) (ret := (some .int)) (by decide) rfl ?_
  intro p e s m args below meth c s₁ B hml hv
  obtain ⟨rfl, hP, hK, hN⟩ := hv
  have hx := B.exec
  have hb := B.bytes
  have hr := B.returns
  have hts := atoms_spec (ws := wsX3_strength) B.pre
  have hown : s.vm.findClass RX3 = some m.cls := findClass_of_methodNamed B.named
  have hlocks := B.notSynchronized
  have inX2 : ∀ w ∈ wsX20, w ∈ wsX3_strength := wt_in [37, 38, 39, 40, 41] (by decide +kernel)
  have inX3 : ∀ w ∈ wsX30, w ∈ wsX3_strength := wt_in [30, 31, 32, 33, 34, 35, 36] (by decide +kernel)
  have hl := lv_entry ([.ref h, .int (nI u)]) (n := 2) (Nat.le_of_ble_eq_true rfl)
  rw [lg_entry_eq]
  generalize (lg_sl ([.ref h, .int (nI u)]) ++ List.replicate (2 - (lg_sl ([.ref h, .int (nI u)])).length) Slot.unset).toArray = ls at hl ⊢
  have hl : lv_has ls 2 [(0, .ref h), (1, .int (nI u))] := hl
  refine lv_aload_n hx hb dX3_strength_0 rfl (lv_at hl 0 rfl) ?_
  refine lv_iload_n hx hb dX3_strength_1 rfl (lv_at hl 1 rfl) ?_
  refine wt_rv_go (va_runV (As := [.int (nI u)]) (rest := []) ⟨hx, hb, hml, hown, hts⟩ (k_X3_checkUnitS l dC dI cI h dp we se fd fw fe nt hm pv up fp fu nr hu sd tw st od fs ft ff fo cn hq u (by omega) (by omega)) (cwV 1 hts gX3_strength_X3_checkUnit rfl rfl rfl (by decide +kernel) ⟨Nat.le_of_ble_eq_true rfl, Nat.le_of_ble_eq_true rfl⟩) (wt_PV (C := RX3) (T := TX3) (N := 7) (ci := 3) (q0 := 0) hK hP hN rfl rfl [0, 1, 2, 3, 4, 5, 6, 7, 8, 9, 10, 11] rfl) rfl rfl hl.1 rfl (lv_room (Nat.le_of_ble_eq_true rfl)) dX3_strength_2 ⟨Nat.zero_le _, Nat.zero_le _⟩) ?_
  refine lv_aload_n hx hb dX3_strength_5 rfl (lv_at hl 0 rfl) ?_
  refine va_get (D := (dC, dI)) (ci := 3) (v := .ref hu) (C := RX3) (T := TX3) (N := 7) hx hb hts inX3 hown hK hP 0 rfl rfl 2 (by decide) (hts (.fieldLink RX3 23 "WarTable" "units" "LWarTable$Units;") (List.mem_of_getElem? (i := 1) rfl)) (fun _ h9 => h9) rfl dX3_strength_6 ?_
  refine lv_aload_n hx hb dX3_strength_9 rfl (lv_at hl 0 rfl) ?_
  refine va_get (D := (dC, dI)) (ci := 3) (v := .int (nI nt)) (C := RX3) (T := TX3) (N := 7) hx hb hts inX3 hown hK hP 0 rfl rfl 6 (by decide) (hts (.fieldLink RX3 40 "WarTable" "turns" "I") (List.mem_of_getElem? (i := 2) rfl)) (fun _ h9 => h9) rfl dX3_strength_10 ?_
  refine lv_iload_n hx hb dX3_strength_13 rfl (lv_at hl 1 rfl) ?_
  refine wt_ro_go (va_runV (As := [.int (nI nt), .int (nI u)]) (rest := []) ⟨hx, hb, hml, hown, hts⟩ (k_X2_strengthAt l dC dI cI hu sd tw st od fs ft ff fo cn nt u (by omega) (by omega)) (cwV 2 hts gX3_strength_X2_strengthAt rfl rfl rfl (by decide +kernel) ⟨Nat.le_of_ble_eq_true rfl, Nat.le_of_ble_eq_true rfl⟩) (wt_PV (C := RX2) (T := TX2) (N := 5) (ci := 2) (q0 := 7) hK hP hN rfl rfl [7, 8, 9, 10, 11] rfl) rfl rfl hl.1 rfl (lv_room (Nat.le_of_ble_eq_true rfl)) dX3_strength_14 ⟨Nat.zero_le _, Nat.zero_le _⟩) ?_
  exact wt_ret hx hb hr rfl rfl dX3_strength_17 hlocks
set_option maxHeartbeats 4000000 in
set_option maxRecDepth 100000 in
theorem k_X3_supplyS (l : Launch) (dC : Nat → ClassId) (dI : Nat → Nat → Nat) (cI : ClassId) (h : Nat) (dp : Nat) (we : Nat) (se : Nat) (fd : Nat → Int32) (fw : Nat → Int32) (fe : Nat → Int32) (nt : Nat) (hm : Nat) (pv : Nat) (up : Nat) (fp : Nat → Int32) (fu : Nat → Int32) (nr : Nat) (hu : Nat) (sd : Nat) (tw : Nat) (st : Nat) (od : Nat) (fs : Nat → Int32) (ft : Nat → Int32) (ff : Nat → Int32) (fo : Nat → Int32) (cn : Nat) (hq : Nat) (u : Nat) (w : Int32) (d : Nat) (hcn : cn ≤ 12) (hnt : nt ≤ 20) (hu2 : u < cn) (hw : vp_in w 3) (hd2 : d < 2) (hfs : fs u = nI d) : Met l yX3_supply wsX3_supply ({ frames := 7, cells := 0, slots := 0, locals := 111 }) (va_Pc [.ref h, .int (nI u), .int w] (wt_pre (dC, dI) cI [(h, .inr (3, [.ref hm, .ref dp, .ref hu, .ref we, .ref se, .ref hq, .int (nI nt)])), (dp, .inl (cI, 2, .inl fd)), (we, .inl (cI, 20, .inl fw)), (se, .inl (cI, 20, .inl fe)), (hm, .inr (0, [.ref pv, .ref up, .int (nI nr)])), (pv, .inl (cI, 10, .inl fp)), (up, .inl (cI, 10, .inl fu)), (hu, .inr (2, [.ref sd, .ref tw, .ref st, .ref od, .int (nI cn)])), (sd, .inl (cI, 12, .inl fs)), (tw, .inl (cI, 264, .inl ft)), (st, .inl (cI, 264, .inl ff)), (od, .inl (cI, 264, .inl fo))])) (wt_ro (wt_least (fun q => wt_has (wt_sup fd fp fu fs ft cn nt d w q) (ft (nt * 12 + u))) 5)) 0 0 wt_no := by
  refine Met.ofW (cc := cX3_supply) (maxL := 5) (ret := (some .int)) (by decide) rfl ?_
  intro p e s m args below meth c s₁ B hml hv
  obtain ⟨rfl, hP, hK, hN⟩ := hv
  have hx := B.exec
  have hb := B.bytes
  have hr := B.returns
  have hts := atoms_spec (ws := wsX3_supply) B.pre
  have hown : s.vm.findClass RX3 = some m.cls := findClass_of_methodNamed B.named
  have hlocks := B.notSynchronized
  have inX0 : ∀ w ∈ wsX00, w ∈ wsX3_supply := wt_in [84, 85, 86] (by decide +kernel)
  have inX2 : ∀ w ∈ wsX20, w ∈ wsX3_supply := wt_in [79, 80, 81, 82, 83] (by decide +kernel)
  have inX3 : ∀ w ∈ wsX30, w ∈ wsX3_supply := wt_in [72, 73, 74, 75, 76, 77, 78] (by decide +kernel)
  have hl := lv_entry ([.ref h, .int (nI u), .int w]) (n := 5) (Nat.le_of_ble_eq_true rfl)
  rw [lg_entry_eq]
  generalize (lg_sl ([.ref h, .int (nI u), .int w]) ++ List.replicate (5 - (lg_sl ([.ref h, .int (nI u), .int w])).length) Slot.unset).toArray = ls at hl ⊢
  have hl : lv_has ls 5 [(0, .ref h), (1, .int (nI u)), (2, .int w)] := hl
  refine lv_aload_n hx hb dX3_supply_0 rfl (lv_at hl 0 rfl) ?_
  refine lv_iload_n hx hb dX3_supply_1 rfl (lv_at hl 1 rfl) ?_
  refine wt_rv_go (va_runV (As := [.int (nI u)]) (rest := []) ⟨hx, hb, hml, hown, hts⟩ (k_X3_checkUnitS l dC dI cI h dp we se fd fw fe nt hm pv up fp fu nr hu sd tw st od fs ft ff fo cn hq u (by omega) (by omega)) (cwV 1 hts gX3_supply_X3_checkUnit rfl rfl rfl (by decide +kernel) ⟨Nat.le_of_ble_eq_true rfl, Nat.le_of_ble_eq_true rfl⟩) (wt_PV (C := RX3) (T := TX3) (N := 7) (ci := 3) (q0 := 0) hK hP hN rfl rfl [0, 1, 2, 3, 4, 5, 6, 7, 8, 9, 10, 11] rfl) rfl rfl hl.1 rfl (lv_room (Nat.le_of_ble_eq_true rfl)) dX3_supply_2 ⟨Nat.zero_le _, Nat.zero_le _⟩) ?_
  refine lv_iload_n hx hb dX3_supply_5 rfl (lv_at hl 2 rfl) ?_
  refine wt_rv_go (va_runS (As := [.int w]) (rest := []) ⟨hx, hb, hml, hown, hts⟩ (k_X3_checkWeatherS l w (by omega)) (va_cwS 1 hts gX3_supply_X3_checkWeather rfl rfl rfl (by decide +kernel) ⟨Nat.le_of_ble_eq_true rfl, Nat.le_of_ble_eq_true rfl⟩) wt_PS rfl rfl hl.1 rfl (lv_room (Nat.le_of_ble_eq_true rfl)) dX3_supply_6 ⟨Nat.zero_le _, Nat.zero_le _⟩) ?_
  refine lv_aload_n hx hb dX3_supply_9 rfl (lv_at hl 0 rfl) ?_
  refine va_get (D := (dC, dI)) (ci := 3) (v := .ref hu) (C := RX3) (T := TX3) (N := 7) hx hb hts inX3 hown hK hP 0 rfl rfl 2 (by decide) (hts (.fieldLink RX3 23 "WarTable" "units" "LWarTable$Units;") (List.mem_of_getElem? (i := 1) rfl)) (fun _ h9 => h9) rfl dX3_supply_10 ?_
  refine lv_aload_n hx hb dX3_supply_13 rfl (lv_at hl 0 rfl) ?_
  refine va_get (D := (dC, dI)) (ci := 3) (v := .int (nI nt)) (C := RX3) (T := TX3) (N := 7) hx hb hts inX3 hown hK hP 0 rfl rfl 6 (by decide) (hts (.fieldLink RX3 40 "WarTable" "turns" "I") (List.mem_of_getElem? (i := 2) rfl)) (fun _ h9 => h9) rfl dX3_supply_14 ?_
  refine lv_iload_n hx hb dX3_supply_17 rfl (lv_at hl 1 rfl) ?_
  refine wt_ro_go (va_runV (As := [.int (nI nt), .int (nI u)]) (rest := []) ⟨hx, hb, hml, hown, hts⟩ (k_X2_townAt l dC dI cI hu sd tw st od fs ft ff fo cn nt u (by omega) (by omega)) (cwV 2 hts gX3_supply_X2_townAt rfl rfl rfl (by decide +kernel) ⟨Nat.le_of_ble_eq_true rfl, Nat.le_of_ble_eq_true rfl⟩) (wt_PV (C := RX2) (T := TX2) (N := 5) (ci := 2) (q0 := 7) hK hP hN rfl rfl [7, 8, 9, 10, 11] rfl) rfl rfl hl.1 rfl (lv_room (Nat.le_of_ble_eq_true rfl)) dX3_supply_18 ⟨Nat.zero_le _, Nat.zero_le _⟩) ?_
  refine lv_istore_n (lv' := [(3, .int (ft (nt * 12 + u))), (0, .ref h), (1, .int (nI u)), (2, .int w)]) hx hb dX3_supply_21 rfl hl (by decide) rfl (fun ls hl => ?_)
  refine lv_iconst (v := nI 0) hx hb dX3_supply_22 (by decide +kernel) ?_
  refine lv_istore (lv' := [(4, .int (nI 0)), (3, .int (ft (nt * 12 + u))), (0, .ref h), (1, .int (nI u)), (2, .int w)]) hx hb dX3_supply_23 hl (by decide) rfl (fun ls hl => ?_)
  refine wt_lp (σ := Nat) 0 (fun i => 5 - i) (fun i ls => (i ≤ 5) ∧ (∀ q : Nat, q < i → ¬ (fun q => wt_has (wt_sup fd fp fu fs ft cn nt d w q) (ft (nt * 12 + u))) q) ∧ lv_has ls 5 [(4, .int (nI i)), (3, .int (ft (nt * 12 + u))), (0, .ref h), (1, .int (nI u)), (2, .int w)]) ⟨(by omega), (fun q hq => absurd hq (Nat.not_lt_zero q)), lv_sub hl [0, 1, 2, 3, 4] rfl⟩ (fun i ls h9 ih_25 => ?_)
  obtain ⟨h_25_0, h_25_1, hl⟩ := h9
  refine lv_iload hx hb dX3_supply_25 (lv_at hl 0 rfl) ?_
  refine lv_iconst (v := nI 4) hx hb dX3_supply_27 (by decide +kernel) ?_
  refine wt_icmp_gt (tgt := 66) hx hb (by omega) (by omega) dX3_supply_28 (by decide) (fun c_28_1 => ?_) (fun c_28_1 => ?_)
  · refine lv_iconst (v := (-1)) hx hb dX3_supply_66 (by decide +kernel) ?_
    exact wt_ret hx hb hr (wt_least_none (P := (fun q => wt_has (wt_sup fd fp fu fs ft cn nt d w q) (ft (nt * 12 + u)))) (fun q hq => h_25_1 q (by omega))).symm rfl dX3_supply_67 hlocks
  · refine lv_aload_n hx hb dX3_supply_31 rfl (lv_at hl 2 rfl) ?_
    refine lv_aload_n hx hb dX3_supply_32 rfl (lv_at hl 2 rfl) ?_
    refine va_get (D := (dC, dI)) (ci := 3) (v := .int (nI nt)) (C := RX3) (T := TX3) (N := 7) hx hb hts inX3 hown hK hP 0 rfl rfl 6 (by decide) (hts (.fieldLink RX3 40 "WarTable" "turns" "I") (List.mem_of_getElem? (i := 2) rfl)) (fun _ h9 => h9) rfl dX3_supply_33 ?_
    refine lv_aload_n hx hb dX3_supply_36 rfl (lv_at hl 2 rfl) ?_
    refine va_get (D := (dC, dI)) (ci := 3) (v := .ref hu) (C := RX3) (T := TX3) (N := 7) hx hb hts inX3 hown hK hP 0 rfl rfl 2 (by decide) (hts (.fieldLink RX3 23 "WarTable" "units" "LWarTable$Units;") (List.mem_of_getElem? (i := 1) rfl)) (fun _ h9 => h9) rfl dX3_supply_37 ?_
    refine lv_iload_n hx hb dX3_supply_40 rfl (lv_at hl 3 rfl) ?_
    refine wt_ro_go (va_runV (As := [.int (nI u)]) (rest := [.int (nI nt), .ref h]) ⟨hx, hb, hml, hown, hts⟩ (k_X2_sideOf l dC dI cI hu sd tw st od fs ft ff fo cn u (by omega)) (cwV 1 hts gX3_supply_X2_sideOf rfl rfl rfl (by decide +kernel) ⟨Nat.le_of_ble_eq_true rfl, Nat.le_of_ble_eq_true rfl⟩) (wt_PV (C := RX2) (T := TX2) (N := 5) (ci := 2) (q0 := 7) hK hP hN rfl rfl [7, 8, 9, 10, 11] rfl) rfl rfl hl.1 rfl (lv_room (Nat.le_of_ble_eq_true rfl)) dX3_supply_41 ⟨Nat.zero_le _, Nat.zero_le _⟩) ?_
    refine wt_top (y := nI d) hfs ?_
    refine lv_iload_n hx hb dX3_supply_44 rfl (lv_at hl 4 rfl) ?_
    refine lv_iload hx hb dX3_supply_45 (lv_at hl 0 rfl) ?_
    refine wt_ro_go (va_runV (As := [.int (nI nt), .int (nI d), .int w, .int (nI i)]) (rest := []) ⟨hx, hb, hml, hown, hts⟩ (k_X3_suppliedTowns l dC dI cI h dp we se fd fw fe nt hm pv up fp fu nr hu sd tw st od fs ft ff fo cn hq nt d w i (by omega) (by omega) (by omega) (by omega)) (cwV 4 hts gX3_supply_X3_suppliedTowns rfl rfl rfl (by decide +kernel) ⟨Nat.le_of_ble_eq_true rfl, Nat.le_of_ble_eq_true rfl⟩) (wt_PV (C := RX3) (T := TX3) (N := 7) (ci := 3) (q0 := 0) hK hP hN rfl rfl [0, 1, 2, 3, 4, 5, 6, 7, 8, 9, 10, 11] rfl) rfl rfl hl.1 rfl (lv_room (Nat.le_of_ble_eq_true rfl)) dX3_supply_47 ⟨Nat.zero_le _, Nat.zero_le _⟩) ?_
    refine lv_iload_n hx hb dX3_supply_50 rfl (lv_at hl 1 rfl) ?_
    refine wt_ro_go (va_runS (As := [.int (wt_sup fd fp fu fs ft cn nt d w i), .int (ft (nt * 12 + u))]) (rest := []) ⟨hx, hb, hml, hown, hts⟩ (k_X3_has l (wt_sup fd fp fu fs ft cn nt d w i) (ft (nt * 12 + u))) (va_cwS 2 hts gX3_supply_X3_has rfl rfl rfl (by decide +kernel) ⟨Nat.le_of_ble_eq_true rfl, Nat.le_of_ble_eq_true rfl⟩) wt_PS rfl rfl hl.1 rfl (lv_room (Nat.le_of_ble_eq_true rfl)) dX3_supply_51 ⟨Nat.zero_le _, Nat.zero_le _⟩) ?_
    refine wt_if_eqB (tgt := 60) hx hb dX3_supply_54 (by decide) (fun c_54_2 => ?_) (fun c_54_2 => ?_)
    · refine lv_iinc (v := nI (i + 1)) (lv' := [(4, .int (nI (i + 1))), (3, .int (ft (nt * 12 + u))), (0, .ref h), (1, .int (nI u)), (2, .int w)]) hx hb dX3_supply_60 hl (k := 0) rfl (nI_1 i) (by decide) rfl (fun ls hl => ?_)
      refine lv_goto (tgt := 25) hx hb dX3_supply_63 (by decide) ?_
      exact ih_25 (i + 1) _ (by omega) ⟨(by omega), (wt_all_s h_25_1 c_54_2), lv_sub hl [0, 1, 2, 3, 4] rfl⟩
    · refine lv_iload hx hb dX3_supply_57 (lv_at hl 0 rfl) ?_
      exact wt_ret hx hb hr (wt_least_eq (P := (fun q => wt_has (wt_sup fd fp fu fs ft cn nt d w q) (ft (nt * 12 + u)))) h_25_1 c_54_2 (by omega)).symm rfl dX3_supply_59 hlocks
set_option maxHeartbeats 4000000 in
set_option maxRecDepth 100000 in
theorem k_X3_townAfterS (l : Launch) (dC : Nat → ClassId) (dI : Nat → Nat → Nat) (cI : ClassId) (h : Nat) (dp : Nat) (we : Nat) (se : Nat) (fd : Nat → Int32) (fw : Nat → Int32) (fe : Nat → Int32) (nt : Nat) (hm : Nat) (pv : Nat) (up : Nat) (fp : Nat → Int32) (fu : Nat → Int32) (nr : Nat) (hu : Nat) (sd : Nat) (tw : Nat) (st : Nat) (od : Nat) (fs : Nat → Int32) (ft : Nat → Int32) (ff : Nat → Int32) (fo : Nat → Int32) (cn : Nat) (hq : Nat) (u : Nat) (t : Nat) (hcn : cn ≤ 12) (hnt : nt ≤ 20) (hu2 : u < cn) (ht : t < nt) : Met l yX3_townAfter wsX3_townAfter ({ frames := 7, cells := 0, slots := 0, locals := 111 }) (va_Pc [.ref h, .int (nI u), .int (nI t)] (wt_pre (dC, dI) cI [(h, .inr (3, [.ref hm, .ref dp, .ref hu, .ref we, .ref se, .ref hq, .int (nI nt)])), (dp, .inl (cI, 2, .inl fd)), (we, .inl (cI, 20, .inl fw)), (se, .inl (cI, 20, .inl fe)), (hm, .inr (0, [.ref pv, .ref up, .int (nI nr)])), (pv, .inl (cI, 10, .inl fp)), (up, .inl (cI, 10, .inl fu)), (hu, .inr (2, [.ref sd, .ref tw, .ref st, .ref od, .int (nI cn)])), (sd, .inl (cI, 12, .inl fs)), (tw, .inl (cI, 264, .inl ft)), (st, .inl (cI, 264, .inl ff)), (od, .inl (cI, 264, .inl fo))])) (wt_ro (ft ((t + 1) * 12 + u))) 0 0 wt_no := by
  refine Met.ofW (cc := cX3_townAfter) (maxL := 3) (ret := (some .int)) (by decide) rfl ?_
  intro p e s m args below meth c s₁ B hml hv
  obtain ⟨rfl, hP, hK, hN⟩ := hv
  have hx := B.exec
  have hb := B.bytes
  have hr := B.returns
  have hts := atoms_spec (ws := wsX3_townAfter) B.pre
  have hown : s.vm.findClass RX3 = some m.cls := findClass_of_methodNamed B.named
  have hlocks := B.notSynchronized
  have inX2 : ∀ w ∈ wsX20, w ∈ wsX3_townAfter := wt_in [45, 46, 47, 48, 49] (by decide +kernel)
  have inX3 : ∀ w ∈ wsX30, w ∈ wsX3_townAfter := wt_in [38, 39, 40, 41, 42, 43, 44] (by decide +kernel)
  have hl := lv_entry ([.ref h, .int (nI u), .int (nI t)]) (n := 3) (Nat.le_of_ble_eq_true rfl)
  rw [lg_entry_eq]
  generalize (lg_sl ([.ref h, .int (nI u), .int (nI t)]) ++ List.replicate (3 - (lg_sl ([.ref h, .int (nI u), .int (nI t)])).length) Slot.unset).toArray = ls at hl ⊢
  have hl : lv_has ls 3 [(0, .ref h), (1, .int (nI u)), (2, .int (nI t))] := hl
  refine lv_aload_n hx hb dX3_townAfter_0 rfl (lv_at hl 0 rfl) ?_
  refine lv_iload_n hx hb dX3_townAfter_1 rfl (lv_at hl 1 rfl) ?_
  refine wt_rv_go (va_runV (As := [.int (nI u)]) (rest := []) ⟨hx, hb, hml, hown, hts⟩ (k_X3_checkUnitS l dC dI cI h dp we se fd fw fe nt hm pv up fp fu nr hu sd tw st od fs ft ff fo cn hq u (by omega) (by omega)) (cwV 1 hts gX3_townAfter_X3_checkUnit rfl rfl rfl (by decide +kernel) ⟨Nat.le_of_ble_eq_true rfl, Nat.le_of_ble_eq_true rfl⟩) (wt_PV (C := RX3) (T := TX3) (N := 7) (ci := 3) (q0 := 0) hK hP hN rfl rfl [0, 1, 2, 3, 4, 5, 6, 7, 8, 9, 10, 11] rfl) rfl rfl hl.1 rfl (lv_room (Nat.le_of_ble_eq_true rfl)) dX3_townAfter_2 ⟨Nat.zero_le _, Nat.zero_le _⟩) ?_
  refine lv_aload_n hx hb dX3_townAfter_5 rfl (lv_at hl 0 rfl) ?_
  refine lv_iload_n hx hb dX3_townAfter_6 rfl (lv_at hl 2 rfl) ?_
  refine wt_rv_go (va_runV (As := [.int (nI t)]) (rest := []) ⟨hx, hb, hml, hown, hts⟩ (k_X3_checkTurnS l dC dI cI h dp we se fd fw fe nt hm pv up fp fu nr hu sd tw st od fs ft ff fo cn hq t (by omega) (by omega)) (cwV 1 hts gX3_townAfter_X3_checkTurn rfl rfl rfl (by decide +kernel) ⟨Nat.le_of_ble_eq_true rfl, Nat.le_of_ble_eq_true rfl⟩) (wt_PV (C := RX3) (T := TX3) (N := 7) (ci := 3) (q0 := 0) hK hP hN rfl rfl [0, 1, 2, 3, 4, 5, 6, 7, 8, 9, 10, 11] rfl) rfl rfl hl.1 rfl (lv_room (Nat.le_of_ble_eq_true rfl)) dX3_townAfter_7 ⟨Nat.zero_le _, Nat.zero_le _⟩) ?_
  refine lv_aload_n hx hb dX3_townAfter_10 rfl (lv_at hl 0 rfl) ?_
  refine va_get (D := (dC, dI)) (ci := 3) (v := .ref hu) (C := RX3) (T := TX3) (N := 7) hx hb hts inX3 hown hK hP 0 rfl rfl 2 (by decide) (hts (.fieldLink RX3 23 "WarTable" "units" "LWarTable$Units;") (List.mem_of_getElem? (i := 1) rfl)) (fun _ h9 => h9) rfl dX3_townAfter_11 ?_
  refine lv_iload_n hx hb dX3_townAfter_14 rfl (lv_at hl 2 rfl) ?_
  refine lv_iconst (v := nI 1) hx hb dX3_townAfter_15 (by decide +kernel) ?_
  refine wt_iadd hx hb dX3_townAfter_16 ?_
  refine lv_iload_n hx hb dX3_townAfter_17 rfl (lv_at hl 1 rfl) ?_
  refine wt_ro_go (va_runV (As := [.int (nI (t + 1)), .int (nI u)]) (rest := []) ⟨hx, hb, hml, hown, hts⟩ (k_X2_townAt l dC dI cI hu sd tw st od fs ft ff fo cn (t + 1) u (by omega) (by omega)) (cwV 2 hts gX3_townAfter_X2_townAt rfl rfl rfl (by decide +kernel) ⟨Nat.le_of_ble_eq_true rfl, Nat.le_of_ble_eq_true rfl⟩) (wt_PV (C := RX2) (T := TX2) (N := 5) (ci := 2) (q0 := 7) hK hP hN rfl rfl [7, 8, 9, 10, 11] rfl) rfl rfl hl.1 rfl (lv_room (Nat.le_of_ble_eq_true rfl)) dX3_townAfter_18 ⟨Nat.zero_le _, Nat.zero_le _⟩) ?_
  exact wt_ret hx hb hr rfl rfl dX3_townAfter_21 hlocks
set_option maxHeartbeats 4000000 in
set_option maxRecDepth 100000 in
theorem k_X3_reportedS (l : Launch) (dC : Nat → ClassId) (dI : Nat → Nat → Nat) (cI : ClassId) (h : Nat) (dp : Nat) (we : Nat) (se : Nat) (fd : Nat → Int32) (fw : Nat → Int32) (fe : Nat → Int32) (nt : Nat) (hm : Nat) (pv : Nat) (up : Nat) (fp : Nat → Int32) (fu : Nat → Int32) (nr : Nat) (hu : Nat) (sd : Nat) (tw : Nat) (st : Nat) (od : Nat) (fs : Nat → Int32) (ft : Nat → Int32) (ff : Nat → Int32) (fo : Nat → Int32) (cn : Nat) (hq : Nat) (d : Nat) (u : Nat) (hcn : cn ≤ 12) (hnt : nt ≤ 20) (hd2 : d < 2) (hu2 : u < cn) (hfs : ¬ fs u = nI d) (hn3 : 3 ≤ nt) : Met l yX3_reported wsX3_reported ({ frames := 7, cells := 0, slots := 0, locals := 111 }) (va_Pc [.ref h, .int (nI d), .int (nI u)] (wt_pre (dC, dI) cI [(h, .inr (3, [.ref hm, .ref dp, .ref hu, .ref we, .ref se, .ref hq, .int (nI nt)])), (dp, .inl (cI, 2, .inl fd)), (we, .inl (cI, 20, .inl fw)), (se, .inl (cI, 20, .inl fe)), (hm, .inr (0, [.ref pv, .ref up, .int (nI nr)])), (pv, .inl (cI, 10, .inl fp)), (up, .inl (cI, 10, .inl fu)), (hu, .inr (2, [.ref sd, .ref tw, .ref st, .ref od, .int (nI cn)])), (sd, .inl (cI, 12, .inl fs)), (tw, .inl (cI, 264, .inl ft)), (st, .inl (cI, 264, .inl ff)), (od, .inl (cI, 264, .inl fo))])) (wt_ro (wt_last (fun t => wt_has (fe t) (nI u)) (fun t => ft ((t + 1) * 12 + u)) (nt - 2))) 0 0 wt_no := by
  refine Met.ofW (cc := cX3_reported) (maxL := 4) (ret := (some .int)) (by decide) rfl ?_
  intro p e s m args below meth c s₁ B hml hv
  obtain ⟨rfl, hP, hK, hN⟩ := hv
  have hx := B.exec
  have hb := B.bytes
  have hr := B.returns
  have hts := atoms_spec (ws := wsX3_reported) B.pre
  have hown : s.vm.findClass RX3 = some m.cls := findClass_of_methodNamed B.named
  have hlocks := B.notSynchronized
  have inX2 : ∀ w ∈ wsX20, w ∈ wsX3_reported := wt_in [58, 59, 60, 61, 62] (by decide +kernel)
  have inX3 : ∀ w ∈ wsX30, w ∈ wsX3_reported := wt_in [51, 52, 53, 54, 55, 56, 57] (by decide +kernel)
  have hl := lv_entry ([.ref h, .int (nI d), .int (nI u)]) (n := 4) (Nat.le_of_ble_eq_true rfl)
  rw [lg_entry_eq]
  generalize (lg_sl ([.ref h, .int (nI d), .int (nI u)]) ++ List.replicate (4 - (lg_sl ([.ref h, .int (nI d), .int (nI u)])).length) Slot.unset).toArray = ls at hl ⊢
  have hl : lv_has ls 4 [(0, .ref h), (1, .int (nI d)), (2, .int (nI u))] := hl
  refine lv_iload_n hx hb dX3_reported_0 rfl (lv_at hl 1 rfl) ?_
  refine wt_rv_go (va_runS (As := [.int (nI d)]) (rest := []) ⟨hx, hb, hml, hown, hts⟩ (k_X3_checkSideS l d (by omega)) (va_cwS 1 hts gX3_reported_X3_checkSide rfl rfl rfl (by decide +kernel) ⟨Nat.le_of_ble_eq_true rfl, Nat.le_of_ble_eq_true rfl⟩) wt_PS rfl rfl hl.1 rfl (lv_room (Nat.le_of_ble_eq_true rfl)) dX3_reported_1 ⟨Nat.zero_le _, Nat.zero_le _⟩) ?_
  refine lv_aload_n hx hb dX3_reported_4 rfl (lv_at hl 0 rfl) ?_
  refine lv_iload_n hx hb dX3_reported_5 rfl (lv_at hl 2 rfl) ?_
  refine wt_rv_go (va_runV (As := [.int (nI u)]) (rest := []) ⟨hx, hb, hml, hown, hts⟩ (k_X3_checkUnitS l dC dI cI h dp we se fd fw fe nt hm pv up fp fu nr hu sd tw st od fs ft ff fo cn hq u (by omega) (by omega)) (cwV 1 hts gX3_reported_X3_checkUnit rfl rfl rfl (by decide +kernel) ⟨Nat.le_of_ble_eq_true rfl, Nat.le_of_ble_eq_true rfl⟩) (wt_PV (C := RX3) (T := TX3) (N := 7) (ci := 3) (q0 := 0) hK hP hN rfl rfl [0, 1, 2, 3, 4, 5, 6, 7, 8, 9, 10, 11] rfl) rfl rfl hl.1 rfl (lv_room (Nat.le_of_ble_eq_true rfl)) dX3_reported_6 ⟨Nat.zero_le _, Nat.zero_le _⟩) ?_
  refine lv_aload_n hx hb dX3_reported_9 rfl (lv_at hl 0 rfl) ?_
  refine va_get (D := (dC, dI)) (ci := 3) (v := .ref hu) (C := RX3) (T := TX3) (N := 7) hx hb hts inX3 hown hK hP 0 rfl rfl 2 (by decide) (hts (.fieldLink RX3 23 "WarTable" "units" "LWarTable$Units;") (List.mem_of_getElem? (i := 3) rfl)) (fun _ h9 => h9) rfl dX3_reported_10 ?_
  refine lv_iload_n hx hb dX3_reported_13 rfl (lv_at hl 2 rfl) ?_
  refine wt_ro_go (va_runV (As := [.int (nI u)]) (rest := []) ⟨hx, hb, hml, hown, hts⟩ (k_X2_sideOf l dC dI cI hu sd tw st od fs ft ff fo cn u (by omega)) (cwV 1 hts gX3_reported_X2_sideOf rfl rfl rfl (by decide +kernel) ⟨Nat.le_of_ble_eq_true rfl, Nat.le_of_ble_eq_true rfl⟩) (wt_PV (C := RX2) (T := TX2) (N := 5) (ci := 2) (q0 := 7) hK hP hN rfl rfl [7, 8, 9, 10, 11] rfl) rfl rfl hl.1 rfl (lv_room (Nat.le_of_ble_eq_true rfl)) dX3_reported_14 ⟨Nat.zero_le _, Nat.zero_le _⟩) ?_
  refine lv_iload_n hx hb dX3_reported_17 rfl (lv_at hl 1 rfl) ?_
  refine wt_icmp_neI (tgt := 31) hx hb dX3_reported_18 (by decide) (fun c_18_1 => ?_) (fun c_18_1 => ?_)
  · refine lv_aload_n hx hb dX3_reported_31 rfl (lv_at hl 0 rfl) ?_
    refine va_get (D := (dC, dI)) (ci := 3) (v := .int (nI nt)) (C := RX3) (T := TX3) (N := 7) hx hb hts inX3 hown hK hP 0 rfl rfl 6 (by decide) (hts (.fieldLink RX3 40 "WarTable" "turns" "I") (List.mem_of_getElem? (i := 4) rfl)) (fun _ h9 => h9) rfl dX3_reported_32 ?_
    refine lv_bipush (v := nI 20) hx hb dX3_reported_35 (by decide +kernel) ?_
    refine va_mmin hx hb (by rw [hml]; exact hl.1.symm) hown (hts (.methodLink RX3 170 Lib.Math.min.name) (List.mem_of_getElem? (i := 5) rfl)) (hts (.static Lib.Math.min.name) (List.mem_of_getElem? (i := 6) rfl)) (hts (.initialized "java/lang/Math") (List.mem_of_getElem? (i := 7) rfl)) (hts (.code Lib.Math.min.name Lib.Math.min.code 2 (some .int)) (List.mem_of_getElem? (i := 8) rfl)) (Nat.le_of_ble_eq_true rfl) (Nat.le_of_ble_eq_true rfl) (Nat.zero_le _) (Nat.zero_le _) dX3_reported_37 ?_
    refine wt_top (y := (wt_mi2 (nI nt) (nI 20))) rfl ?_
    refine wt_top (y := nI nt) (wt_min_le hnt (by decide)) ?_
    refine lv_iconst (v := nI 1) hx hb dX3_reported_40 (by decide +kernel) ?_
    refine lv_isub hx hb dX3_reported_41 ?_
    refine lv_iconst (v := nI 2) hx hb dX3_reported_42 (by decide +kernel) ?_
    refine lv_isub hx hb dX3_reported_43 ?_
    refine wt_top (y := nI (nt - 3)) (wt_m12 hn3 hnt) ?_
    refine lv_istore_n (lv' := [(3, .int (nI (nt - 3))), (0, .ref h), (1, .int (nI d)), (2, .int (nI u))]) hx hb dX3_reported_44 rfl hl (by decide) rfl (fun ls hl => ?_)
    refine wt_lp (σ := Nat) (nt - 3) (fun i => i) (fun i ls => (i + 1 ≤ nt - 2) ∧ ((wt_last (fun t => wt_has (fe t) (nI u)) (fun t => ft ((t + 1) * 12 + u)) (nt - 2)) = wt_last (fun t => wt_has (fe t) (nI u)) (fun t => ft ((t + 1) * 12 + u)) (i + 1)) ∧ lv_has ls 4 [(3, .int (nI i)), (0, .ref h), (1, .int (nI d)), (2, .int (nI u))]) ⟨(by omega), (by rw [show nt - 3 + 1 = nt - 2 by omega]), lv_sub hl [0, 1, 2, 3] rfl⟩ (fun i ls h9 ih_45 => ?_)
    obtain ⟨h_45_0, h_45_1, hl⟩ := h9
    refine lv_iload_n hx hb dX3_reported_45 rfl (lv_at hl 0 rfl) ?_
    refine wt_if_lt (tgt := 80) hx hb (by omega) dX3_reported_46 (by decide) ?_
    refine lv_aload_n hx hb dX3_reported_49 rfl (lv_at hl 1 rfl) ?_
    refine va_get (D := (dC, dI)) (ci := 3) (v := .ref se) (C := RX3) (T := TX3) (N := 7) hx hb hts inX3 hown hK hP 0 rfl rfl 4 (by decide) (hts (.fieldLink RX3 30 "WarTable" "seen" "[I") (List.mem_of_getElem? (i := 9) rfl)) (fun _ h9 => h9) rfl dX3_reported_50 ?_
    refine lv_iload_n hx hb dX3_reported_53 rfl (lv_at hl 0 rfl) ?_
    refine wt_iald hx hb hK hP 3 rfl (by omega) (by omega) dX3_reported_54 ?_
    refine lv_iload_n hx hb dX3_reported_55 rfl (lv_at hl 3 rfl) ?_
    refine wt_ro_go (va_runS (As := [.int (fe i), .int (nI u)]) (rest := []) ⟨hx, hb, hml, hown, hts⟩ (k_X3_has l (fe i) (nI u)) (va_cwS 2 hts gX3_reported_X3_has rfl rfl rfl (by decide +kernel) ⟨Nat.le_of_ble_eq_true rfl, Nat.le_of_ble_eq_true rfl⟩) wt_PS rfl rfl hl.1 rfl (lv_room (Nat.le_of_ble_eq_true rfl)) dX3_reported_56 ⟨Nat.zero_le _, Nat.zero_le _⟩) ?_
    refine wt_if_eqB (tgt := 74) hx hb dX3_reported_59 (by decide) (fun c_59_2 => ?_) (fun c_59_2 => ?_)
    · rcases Nat.eq_zero_or_pos i with h0z | h0p
      · refine lv_iinc (v := (-1)) (lv' := [(3, .int (-1)), (0, .ref h), (1, .int (nI d)), (2, .int (nI u))]) hx hb dX3_reported_74 hl (k := 0) rfl (wt_dec_0 h0z) (by decide) rfl (fun ls hl => ?_)
        refine lv_goto (tgt := 45) hx hb dX3_reported_77 (by decide) ?_
        refine lv_iload_n hx hb dX3_reported_45 rfl (lv_at hl 0 rfl) ?_
        refine wt_if_ltI (tgt := 80) hx hb dX3_reported_46 (by decide) (fun c_46_3 => ?_) (fun c_46_3 => ?_)
        · refine lv_iconst (v := (-1)) hx hb dX3_reported_80 (by decide +kernel) ?_
          exact wt_ret hx hb hr (by rw [h_45_1, wt_last_f c_59_2, h0z, wt_last_0]) rfl dX3_reported_81 hlocks
        · exact absurd (by decide) c_46_3
      · refine lv_iinc (v := nI (i - 1)) (lv' := [(3, .int (nI (i - 1))), (0, .ref h), (1, .int (nI d)), (2, .int (nI u))]) hx hb dX3_reported_74 hl (k := 0) rfl (wt_dec h0p) (by decide) rfl (fun ls hl => ?_)
        refine lv_goto (tgt := 45) hx hb dX3_reported_77 (by decide) ?_
        exact ih_45 (i - 1) _ (by omega) ⟨(by omega), (by rw [h_45_1, wt_last_f c_59_2, show i - 1 + 1 = i by omega]), lv_sub hl [0, 1, 2, 3] rfl⟩
    · refine lv_aload_n hx hb dX3_reported_62 rfl (lv_at hl 1 rfl) ?_
      refine va_get (D := (dC, dI)) (ci := 3) (v := .ref hu) (C := RX3) (T := TX3) (N := 7) hx hb hts inX3 hown hK hP 0 rfl rfl 2 (by decide) (hts (.fieldLink RX3 23 "WarTable" "units" "LWarTable$Units;") (List.mem_of_getElem? (i := 3) rfl)) (fun _ h9 => h9) rfl dX3_reported_63 ?_
      refine lv_iload_n hx hb dX3_reported_66 rfl (lv_at hl 0 rfl) ?_
      refine lv_iconst (v := nI 1) hx hb dX3_reported_67 (by decide +kernel) ?_
      refine wt_iadd hx hb dX3_reported_68 ?_
      refine lv_iload_n hx hb dX3_reported_69 rfl (lv_at hl 3 rfl) ?_
      refine wt_ro_go (va_runV (As := [.int (nI (i + 1)), .int (nI u)]) (rest := []) ⟨hx, hb, hml, hown, hts⟩ (k_X2_townAt l dC dI cI hu sd tw st od fs ft ff fo cn (i + 1) u (by omega) (by omega)) (cwV 2 hts gX3_reported_X2_townAt rfl rfl rfl (by decide +kernel) ⟨Nat.le_of_ble_eq_true rfl, Nat.le_of_ble_eq_true rfl⟩) (wt_PV (C := RX2) (T := TX2) (N := 5) (ci := 2) (q0 := 7) hK hP hN rfl rfl [7, 8, 9, 10, 11] rfl) rfl rfl hl.1 rfl (lv_room (Nat.le_of_ble_eq_true rfl)) dX3_reported_70 ⟨Nat.zero_le _, Nat.zero_le _⟩) ?_
      exact wt_ret hx hb hr (by rw [h_45_1, wt_last_t (P := fun t => wt_has (fe t) (nI u)) c_59_2]) rfl dX3_reported_73 hlocks
  · exact absurd c_18_1 hfs
set_option maxHeartbeats 4000000 in
set_option maxRecDepth 100000 in
theorem k_X3_reportedZ (l : Launch) (dC : Nat → ClassId) (dI : Nat → Nat → Nat) (cI : ClassId) (h : Nat) (dp : Nat) (we : Nat) (se : Nat) (fd : Nat → Int32) (fw : Nat → Int32) (fe : Nat → Int32) (nt : Nat) (hm : Nat) (pv : Nat) (up : Nat) (fp : Nat → Int32) (fu : Nat → Int32) (nr : Nat) (hu : Nat) (sd : Nat) (tw : Nat) (st : Nat) (od : Nat) (fs : Nat → Int32) (ft : Nat → Int32) (ff : Nat → Int32) (fo : Nat → Int32) (cn : Nat) (hq : Nat) (d : Nat) (u : Nat) (hcn : cn ≤ 12) (hnt : nt ≤ 20) (hd2 : d < 2) (hu2 : u < cn) (hfs : ¬ fs u = nI d) (hn3 : nt < 3) : Met l yX3_reported wsX3_reported ({ frames := 7, cells := 0, slots := 0, locals := 111 }) (va_Pc [.ref h, .int (nI d), .int (nI u)] (wt_pre (dC, dI) cI [(h, .inr (3, [.ref hm, .ref dp, .ref hu, .ref we, .ref se, .ref hq, .int (nI nt)])), (dp, .inl (cI, 2, .inl fd)), (we, .inl (cI, 20, .inl fw)), (se, .inl (cI, 20, .inl fe)), (hm, .inr (0, [.ref pv, .ref up, .int (nI nr)])), (pv, .inl (cI, 10, .inl fp)), (up, .inl (cI, 10, .inl fu)), (hu, .inr (2, [.ref sd, .ref tw, .ref st, .ref od, .int (nI cn)])), (sd, .inl (cI, 12, .inl fs)), (tw, .inl (cI, 264, .inl ft)), (st, .inl (cI, 264, .inl ff)), (od, .inl (cI, 264, .inl fo))])) (wt_ro (-1)) 0 0 wt_no := by
  refine Met.ofW (cc := cX3_reported) (maxL := 4) (ret := (some .int)) (by decide) rfl ?_
  intro p e s m args below meth c s₁ B hml hv
  obtain ⟨rfl, hP, hK, hN⟩ := hv
  have hx := B.exec
  have hb := B.bytes
  have hr := B.returns
  have hts := atoms_spec (ws := wsX3_reported) B.pre
  have hown : s.vm.findClass RX3 = some m.cls := findClass_of_methodNamed B.named
  have hlocks := B.notSynchronized
  have inX2 : ∀ w ∈ wsX20, w ∈ wsX3_reported := wt_in [58, 59, 60, 61, 62] (by decide +kernel)
  have inX3 : ∀ w ∈ wsX30, w ∈ wsX3_reported := wt_in [51, 52, 53, 54, 55, 56, 57] (by decide +kernel)
  have hl := lv_entry ([.ref h, .int (nI d), .int (nI u)]) (n := 4) (Nat.le_of_ble_eq_true rfl)
  rw [lg_entry_eq]
  generalize (lg_sl ([.ref h, .int (nI d), .int (nI u)]) ++ List.replicate (4 - (lg_sl ([.ref h, .int (nI d), .int (nI u)])).length) Slot.unset).toArray = ls at hl ⊢
  have hl : lv_has ls 4 [(0, .ref h), (1, .int (nI d)), (2, .int (nI u))] := hl
  refine lv_iload_n hx hb dX3_reported_0 rfl (lv_at hl 1 rfl) ?_
  refine wt_rv_go (va_runS (As := [.int (nI d)]) (rest := []) ⟨hx, hb, hml, hown, hts⟩ (k_X3_checkSideS l d (by omega)) (va_cwS 1 hts gX3_reported_X3_checkSide rfl rfl rfl (by decide +kernel) ⟨Nat.le_of_ble_eq_true rfl, Nat.le_of_ble_eq_true rfl⟩) wt_PS rfl rfl hl.1 rfl (lv_room (Nat.le_of_ble_eq_true rfl)) dX3_reported_1 ⟨Nat.zero_le _, Nat.zero_le _⟩) ?_
  refine lv_aload_n hx hb dX3_reported_4 rfl (lv_at hl 0 rfl) ?_
  refine lv_iload_n hx hb dX3_reported_5 rfl (lv_at hl 2 rfl) ?_
  refine wt_rv_go (va_runV (As := [.int (nI u)]) (rest := []) ⟨hx, hb, hml, hown, hts⟩ (k_X3_checkUnitS l dC dI cI h dp we se fd fw fe nt hm pv up fp fu nr hu sd tw st od fs ft ff fo cn hq u (by omega) (by omega)) (cwV 1 hts gX3_reported_X3_checkUnit rfl rfl rfl (by decide +kernel) ⟨Nat.le_of_ble_eq_true rfl, Nat.le_of_ble_eq_true rfl⟩) (wt_PV (C := RX3) (T := TX3) (N := 7) (ci := 3) (q0 := 0) hK hP hN rfl rfl [0, 1, 2, 3, 4, 5, 6, 7, 8, 9, 10, 11] rfl) rfl rfl hl.1 rfl (lv_room (Nat.le_of_ble_eq_true rfl)) dX3_reported_6 ⟨Nat.zero_le _, Nat.zero_le _⟩) ?_
  refine lv_aload_n hx hb dX3_reported_9 rfl (lv_at hl 0 rfl) ?_
  refine va_get (D := (dC, dI)) (ci := 3) (v := .ref hu) (C := RX3) (T := TX3) (N := 7) hx hb hts inX3 hown hK hP 0 rfl rfl 2 (by decide) (hts (.fieldLink RX3 23 "WarTable" "units" "LWarTable$Units;") (List.mem_of_getElem? (i := 3) rfl)) (fun _ h9 => h9) rfl dX3_reported_10 ?_
  refine lv_iload_n hx hb dX3_reported_13 rfl (lv_at hl 2 rfl) ?_
  refine wt_ro_go (va_runV (As := [.int (nI u)]) (rest := []) ⟨hx, hb, hml, hown, hts⟩ (k_X2_sideOf l dC dI cI hu sd tw st od fs ft ff fo cn u (by omega)) (cwV 1 hts gX3_reported_X2_sideOf rfl rfl rfl (by decide +kernel) ⟨Nat.le_of_ble_eq_true rfl, Nat.le_of_ble_eq_true rfl⟩) (wt_PV (C := RX2) (T := TX2) (N := 5) (ci := 2) (q0 := 7) hK hP hN rfl rfl [7, 8, 9, 10, 11] rfl) rfl rfl hl.1 rfl (lv_room (Nat.le_of_ble_eq_true rfl)) dX3_reported_14 ⟨Nat.zero_le _, Nat.zero_le _⟩) ?_
  refine lv_iload_n hx hb dX3_reported_17 rfl (lv_at hl 1 rfl) ?_
  refine wt_icmp_neI (tgt := 31) hx hb dX3_reported_18 (by decide) (fun c_18_1 => ?_) (fun c_18_1 => ?_)
  · refine lv_aload_n hx hb dX3_reported_31 rfl (lv_at hl 0 rfl) ?_
    refine va_get (D := (dC, dI)) (ci := 3) (v := .int (nI nt)) (C := RX3) (T := TX3) (N := 7) hx hb hts inX3 hown hK hP 0 rfl rfl 6 (by decide) (hts (.fieldLink RX3 40 "WarTable" "turns" "I") (List.mem_of_getElem? (i := 4) rfl)) (fun _ h9 => h9) rfl dX3_reported_32 ?_
    refine lv_bipush (v := nI 20) hx hb dX3_reported_35 (by decide +kernel) ?_
    refine va_mmin hx hb (by rw [hml]; exact hl.1.symm) hown (hts (.methodLink RX3 170 Lib.Math.min.name) (List.mem_of_getElem? (i := 5) rfl)) (hts (.static Lib.Math.min.name) (List.mem_of_getElem? (i := 6) rfl)) (hts (.initialized "java/lang/Math") (List.mem_of_getElem? (i := 7) rfl)) (hts (.code Lib.Math.min.name Lib.Math.min.code 2 (some .int)) (List.mem_of_getElem? (i := 8) rfl)) (Nat.le_of_ble_eq_true rfl) (Nat.le_of_ble_eq_true rfl) (Nat.zero_le _) (Nat.zero_le _) dX3_reported_37 ?_
    refine wt_top (y := (wt_mi2 (nI nt) (nI 20))) rfl ?_
    refine wt_top (y := nI nt) (wt_min_le hnt (by decide)) ?_
    refine lv_iconst (v := nI 1) hx hb dX3_reported_40 (by decide +kernel) ?_
    refine lv_isub hx hb dX3_reported_41 ?_
    refine lv_iconst (v := nI 2) hx hb dX3_reported_42 (by decide +kernel) ?_
    refine lv_isub hx hb dX3_reported_43 ?_
    refine lv_istore_n (lv' := [(3, .int ((nI nt - nI 1) - (nI 2))), (0, .ref h), (1, .int (nI d)), (2, .int (nI u))]) hx hb dX3_reported_44 rfl hl (by decide) rfl (fun ls hl => ?_)
    refine lv_iload_n hx hb dX3_reported_45 rfl (lv_at hl 0 rfl) ?_
    refine wt_if_ltI (tgt := 80) hx hb dX3_reported_46 (by decide) (fun c_46_2 => ?_) (fun c_46_2 => ?_)
    · refine lv_iconst (v := (-1)) hx hb dX3_reported_80 (by decide +kernel) ?_
      exact wt_ret hx hb hr rfl rfl dX3_reported_81 hlocks
    · exact absurd (wt_m12lt hn3) c_46_2
  · exact absurd c_18_1 hfs
set_option maxHeartbeats 4000000 in
set_option maxRecDepth 100000 in
theorem k_X3_reportedA (l : Launch) (dC : Nat → ClassId) (dI : Nat → Nat → Nat) (cI : ClassId) (h : Nat) (dp : Nat) (we : Nat) (se : Nat) (fd : Nat → Int32) (fw : Nat → Int32) (fe : Nat → Int32) (nt : Nat) (hm : Nat) (pv : Nat) (up : Nat) (fp : Nat → Int32) (fu : Nat → Int32) (nr : Nat) (hu : Nat) (sd : Nat) (tw : Nat) (st : Nat) (od : Nat) (fs : Nat → Int32) (ft : Nat → Int32) (ff : Nat → Int32) (fo : Nat → Int32) (cn : Nat) (hq : Nat) (d : Nat) (u : Nat) (hcn : cn ≤ 12) (hnt : nt ≤ 20) (hd2 : d < 2) (hu2 : u < cn) (hfs : ¬ fs u = nI d) : Met l yX3_reported wsX3_reported ({ frames := 7, cells := 0, slots := 0, locals := 111 }) (va_Pc [.ref h, .int (nI d), .int (nI u)] (wt_pre (dC, dI) cI [(h, .inr (3, [.ref hm, .ref dp, .ref hu, .ref we, .ref se, .ref hq, .int (nI nt)])), (dp, .inl (cI, 2, .inl fd)), (we, .inl (cI, 20, .inl fw)), (se, .inl (cI, 20, .inl fe)), (hm, .inr (0, [.ref pv, .ref up, .int (nI nr)])), (pv, .inl (cI, 10, .inl fp)), (up, .inl (cI, 10, .inl fu)), (hu, .inr (2, [.ref sd, .ref tw, .ref st, .ref od, .int (nI cn)])), (sd, .inl (cI, 12, .inl fs)), (tw, .inl (cI, 264, .inl ft)), (st, .inl (cI, 264, .inl ff)), (od, .inl (cI, 264, .inl fo))])) (wt_ro (wt_last (fun t => wt_has (fe t) (nI u)) (fun t => ft ((t + 1) * 12 + u)) (nt - 2))) 0 0 wt_no := by
  rcases Nat.lt_or_ge nt 3 with h9 | h9
  · have e9 : (wt_last (fun t => wt_has (fe t) (nI u)) (fun t => ft ((t + 1) * 12 + u)) (nt - 2)) = -1 := by rw [show nt - 2 = 0 by omega]; rfl
    rw [e9]; exact k_X3_reportedZ l dC dI cI h dp we se fd fw fe nt hm pv up fp fu nr hu sd tw st od fs ft ff fo cn hq d u hcn hnt hd2 hu2 hfs h9
  · exact k_X3_reportedS l dC dI cI h dp we se fd fw fe nt hm pv up fp fu nr hu sd tw st od fs ft ff fo cn hq d u hcn hnt hd2 hu2 hfs h9
set_option maxHeartbeats 4000000 in
set_option maxRecDepth 100000 in
theorem k_X3_forceS (l : Launch) (dC : Nat → ClassId) (dI : Nat → Nat → Nat) (cI : ClassId) (h : Nat) (dp : Nat) (we : Nat) (se : Nat) (fd : Nat → Int32) (fw : Nat → Int32) (fe : Nat → Int32) (nt : Nat) (hm : Nat) (pv : Nat) (up : Nat) (fp : Nat → Int32) (fu : Nat → Int32) (nr : Nat) (hu : Nat) (sd : Nat) (tw : Nat) (st : Nat) (od : Nat) (fs : Nat → Int32) (ft : Nat → Int32) (ff : Nat → Int32) (fo : Nat → Int32) (cn : Nat) (hq : Nat) (d : Nat) (hcn : cn ≤ 12) (hnt : nt ≤ 20) (hd2 : d < 2) : Met l yX3_force wsX3_force ({ frames := 7, cells := 0, slots := 0, locals := 110 }) (va_Pc [.ref h, .int (nI d)] (wt_pre (dC, dI) cI [(h, .inr (3, [.ref hm, .ref dp, .ref hu, .ref we, .ref se, .ref hq, .int (nI nt)])), (dp, .inl (cI, 2, .inl fd)), (we, .inl (cI, 20, .inl fw)), (se, .inl (cI, 20, .inl fe)), (hm, .inr (0, [.ref pv, .ref up, .int (nI nr)])), (pv, .inl (cI, 10, .inl fp)), (up, .inl (cI, 10, .inl fu)), (hu, .inr (2, [.ref sd, .ref tw, .ref st, .ref od, .int (nI cn)])), (sd, .inl (cI, 12, .inl fs)), (tw, .inl (cI, 264, .inl ft)), (st, .inl (cI, 264, .inl ff)), (od, .inl (cI, 264, .inl fo))])) (wt_ro (wt_fold (wt_frs fs ff nt d) cn (nI 0))) 0 0 wt_no := by
  refine Met.ofW (cc := cX3_force) (maxL := 4) (ret := (some .int)) (by decide) rfl ?_
  intro p e s m args below meth c s₁ B hml hv
  obtain ⟨rfl, hP, hK, hN⟩ := hv
  have hx := B.exec
  have hb := B.bytes
  have hr := B.returns
  have hts := atoms_spec (ws := wsX3_force) B.pre
  have hown : s.vm.findClass RX3 = some m.cls := findClass_of_methodNamed B.named
  have hlocks := B.notSynchronized
  have inX2 : ∀ w ∈ wsX20, w ∈ wsX3_force := wt_in [41, 42, 43, 44, 45] (by decide +kernel)
  have inX3 : ∀ w ∈ wsX30, w ∈ wsX3_force := wt_in [34, 35, 36, 37, 38, 39, 40] (by decide +kernel)
  have hl := lv_entry ([.ref h, .int (nI d)]) (n := 4) (Nat.le_of_ble_eq_true rfl)
  rw [lg_entry_eq]
  generalize (lg_sl ([.ref h, .int (nI d)]) ++ List.replicate (4 - (lg_sl ([.ref h, .int (nI d)])).length) Slot.unset).toArray = ls at hl ⊢
  have hl : lv_has ls 4 [(0, .ref h), (1, .int (nI d))] := hl
  refine lv_iload_n hx hb dX3_force_0 rfl (lv_at hl 1 rfl) ?_
  refine wt_rv_go (va_runS (As := [.int (nI d)]) (rest := []) ⟨hx, hb, hml, hown, hts⟩ (k_X3_checkSideS l d (by omega)) (va_cwS 1 hts gX3_force_X3_checkSide rfl rfl rfl (by decide +kernel) ⟨Nat.le_of_ble_eq_true rfl, Nat.le_of_ble_eq_true rfl⟩) wt_PS rfl rfl hl.1 rfl (lv_room (Nat.le_of_ble_eq_true rfl)) dX3_force_1 ⟨Nat.zero_le _, Nat.zero_le _⟩) ?_
  refine lv_iconst (v := nI 0) hx hb dX3_force_4 (by decide +kernel) ?_
  refine lv_istore_n (lv' := [(2, .int (nI 0)), (0, .ref h), (1, .int (nI d))]) hx hb dX3_force_5 rfl hl (by decide) rfl (fun ls hl => ?_)
  refine lv_iconst (v := nI 0) hx hb dX3_force_6 (by decide +kernel) ?_
  refine lv_istore_n (lv' := [(3, .int (nI 0)), (2, .int (nI 0)), (0, .ref h), (1, .int (nI d))]) hx hb dX3_force_7 rfl hl (by decide) rfl (fun ls hl => ?_)
  have e1 : nI 0 = (wt_fold (wt_frs fs ff nt d) 0 (nI 0)) := rfl
  refine wt_lp (σ := Nat) 0 (fun i => cn - i) (fun i ls => (i ≤ cn) ∧ lv_has ls 4 [(3, .int (nI i)), (2, .int (wt_fold (wt_frs fs ff nt d) i (nI 0))), (0, .ref h), (1, .int (nI d))]) ⟨(by omega), Eq.mp (congrArg (fun z9 : Int32 => lv_has ls 4 [(3, .int (nI 0)), (2, .int z9), (0, .ref h), (1, .int (nI d))]) e1) (lv_sub hl [0, 1, 2, 3] rfl)⟩ (fun i ls h9 ih_8 => ?_)
  obtain ⟨h_8_0, hl⟩ := h9
  refine lv_iload_n hx hb dX3_force_8 rfl (lv_at hl 0 rfl) ?_
  refine lv_aload_n hx hb dX3_force_9 rfl (lv_at hl 2 rfl) ?_
  refine va_get (D := (dC, dI)) (ci := 3) (v := .ref hu) (C := RX3) (T := TX3) (N := 7) hx hb hts inX3 hown hK hP 0 rfl rfl 2 (by decide) (hts (.fieldLink RX3 23 "WarTable" "units" "LWarTable$Units;") (List.mem_of_getElem? (i := 1) rfl)) (fun _ h9 => h9) rfl dX3_force_10 ?_
  refine wt_ro_go (va_runV (As := []) (rest := [.int (nI i)]) ⟨hx, hb, hml, hown, hts⟩ (k_X2_count l dC dI cI hu sd tw st od fs ft ff fo cn) (cwV 0 hts gX3_force_X2_count rfl rfl rfl (by decide +kernel) ⟨Nat.le_of_ble_eq_true rfl, Nat.le_of_ble_eq_true rfl⟩) (wt_PV (C := RX2) (T := TX2) (N := 5) (ci := 2) (q0 := 7) hK hP hN rfl rfl [7, 8, 9, 10, 11] rfl) rfl rfl hl.1 rfl (lv_room (Nat.le_of_ble_eq_true rfl)) dX3_force_13 ⟨Nat.zero_le _, Nat.zero_le _⟩) ?_
  refine wt_icmp_ge (tgt := 52) hx hb (by omega) (by omega) dX3_force_16 (by decide) (fun c_16_2 => ?_) (fun c_16_2 => ?_)
  · refine lv_iload_n hx hb dX3_force_52 rfl (lv_at hl 1 rfl) ?_
    exact wt_ret hx hb hr (by rw [show i = cn by omega]) rfl dX3_force_53 hlocks
  · refine lv_aload_n hx hb dX3_force_19 rfl (lv_at hl 2 rfl) ?_
    refine va_get (D := (dC, dI)) (ci := 3) (v := .ref hu) (C := RX3) (T := TX3) (N := 7) hx hb hts inX3 hown hK hP 0 rfl rfl 2 (by decide) (hts (.fieldLink RX3 23 "WarTable" "units" "LWarTable$Units;") (List.mem_of_getElem? (i := 1) rfl)) (fun _ h9 => h9) rfl dX3_force_20 ?_
    refine lv_iload_n hx hb dX3_force_23 rfl (lv_at hl 0 rfl) ?_
    refine wt_ro_go (va_runV (As := [.int (nI i)]) (rest := []) ⟨hx, hb, hml, hown, hts⟩ (k_X2_sideOf l dC dI cI hu sd tw st od fs ft ff fo cn i (by omega)) (cwV 1 hts gX3_force_X2_sideOf rfl rfl rfl (by decide +kernel) ⟨Nat.le_of_ble_eq_true rfl, Nat.le_of_ble_eq_true rfl⟩) (wt_PV (C := RX2) (T := TX2) (N := 5) (ci := 2) (q0 := 7) hK hP hN rfl rfl [7, 8, 9, 10, 11] rfl) rfl rfl hl.1 rfl (lv_room (Nat.le_of_ble_eq_true rfl)) dX3_force_24 ⟨Nat.zero_le _, Nat.zero_le _⟩) ?_
    refine lv_iload_n hx hb dX3_force_27 rfl (lv_at hl 3 rfl) ?_
    refine wt_icmp_neI (tgt := 46) hx hb dX3_force_28 (by decide) (fun c_28_3 => ?_) (fun c_28_3 => ?_)
    · refine lv_iinc (v := nI (i + 1)) (lv' := [(3, .int (nI (i + 1))), (2, .int (wt_fold (wt_frs fs ff nt d) i (nI 0))), (0, .ref h), (1, .int (nI d))]) hx hb dX3_force_46 hl (k := 0) rfl (nI_1 i) (by decide) rfl (fun ls hl => ?_)
      refine lv_goto (tgt := 8) hx hb dX3_force_49 (by decide) ?_
      have e4 : (wt_fold (wt_frs fs ff nt d) i (nI 0)) = (wt_fold (wt_frs fs ff nt d) (i + 1) (nI 0)) := (by simp only [wt_fold_s, wt_frs, wt_if_f c_28_3])
      exact ih_8 (i + 1) _ (by omega) ⟨(by omega), Eq.mp (congrArg (fun z9 : Int32 => lv_has ls 4 [(3, .int (nI (i + 1))), (2, .int z9), (0, .ref h), (1, .int (nI d))]) e4) (lv_sub hl [0, 1, 2, 3] rfl)⟩
    · refine lv_iload_n hx hb dX3_force_31 rfl (lv_at hl 1 rfl) ?_
      refine lv_aload_n hx hb dX3_force_32 rfl (lv_at hl 2 rfl) ?_
      refine va_get (D := (dC, dI)) (ci := 3) (v := .ref hu) (C := RX3) (T := TX3) (N := 7) hx hb hts inX3 hown hK hP 0 rfl rfl 2 (by decide) (hts (.fieldLink RX3 23 "WarTable" "units" "LWarTable$Units;") (List.mem_of_getElem? (i := 1) rfl)) (fun _ h9 => h9) rfl dX3_force_33 ?_
      refine lv_aload_n hx hb dX3_force_36 rfl (lv_at hl 2 rfl) ?_
      refine va_get (D := (dC, dI)) (ci := 3) (v := .int (nI nt)) (C := RX3) (T := TX3) (N := 7) hx hb hts inX3 hown hK hP 0 rfl rfl 6 (by decide) (hts (.fieldLink RX3 40 "WarTable" "turns" "I") (List.mem_of_getElem? (i := 2) rfl)) (fun _ h9 => h9) rfl dX3_force_37 ?_
      refine lv_iload_n hx hb dX3_force_40 rfl (lv_at hl 0 rfl) ?_
      refine wt_ro_go (va_runV (As := [.int (nI nt), .int (nI i)]) (rest := [.int (wt_fold (wt_frs fs ff nt d) i (nI 0))]) ⟨hx, hb, hml, hown, hts⟩ (k_X2_strengthAt l dC dI cI hu sd tw st od fs ft ff fo cn nt i (by omega) (by omega)) (cwV 2 hts gX3_force_X2_strengthAt rfl rfl rfl (by decide +kernel) ⟨Nat.le_of_ble_eq_true rfl, Nat.le_of_ble_eq_true rfl⟩) (wt_PV (C := RX2) (T := TX2) (N := 5) (ci := 2) (q0 := 7) hK hP hN rfl rfl [7, 8, 9, 10, 11] rfl) rfl rfl hl.1 rfl (lv_room (Nat.le_of_ble_eq_true rfl)) dX3_force_41 ⟨Nat.zero_le _, Nat.zero_le _⟩) ?_
      refine lv_iadd hx hb dX3_force_44 ?_
      refine lv_istore_n (lv' := [(2, .int ((wt_fold (wt_frs fs ff nt d) i (nI 0)) + (ff (nt * 12 + i)))), (3, .int (nI i)), (0, .ref h), (1, .int (nI d))]) hx hb dX3_force_45 rfl hl (by decide) rfl (fun ls hl => ?_)
      refine lv_iinc (v := nI (i + 1)) (lv' := [(3, .int (nI (i + 1))), (2, .int ((wt_fold (wt_frs fs ff nt d) i (nI 0)) + (ff (nt * 12 + i)))), (0, .ref h), (1, .int (nI d))]) hx hb dX3_force_46 hl (k := 1) rfl (nI_1 i) (by decide) rfl (fun ls hl => ?_)
      refine lv_goto (tgt := 8) hx hb dX3_force_49 (by decide) ?_
      have e5 : ((wt_fold (wt_frs fs ff nt d) i (nI 0)) + (ff (nt * 12 + i))) = (wt_fold (wt_frs fs ff nt d) (i + 1) (nI 0)) := (by simp only [wt_fold_s, wt_frs, wt_if_t c_28_3])
      exact ih_8 (i + 1) _ (by omega) ⟨(by omega), Eq.mp (congrArg (fun z9 : Int32 => lv_has ls 4 [(3, .int (nI (i + 1))), (2, .int z9), (0, .ref h), (1, .int (nI d))]) e5) (lv_sub hl [0, 1, 2, 3] rfl)⟩
