set_option maxHeartbeats 4000000 in
set_option maxRecDepth 100000 in
theorem k_X3_checkSideS (l : Launch) (d : Nat) (hd2 : d < 2) : Met l yX3_checkSide wsX3_checkSide ({ frames := 6, cells := 0, slots := 0, locals := 90 }) (va_Pc [.int (nI d)] (fun _ => True)) wt_rv 0 0 wt_no := by
  refine Met.ofW (cc := cX3_checkSide) (maxL := 1) (ret := none) (by decide) rfl ?_
  intro p e s m args below meth c s₁ B hml hv
  obtain ⟨rfl, -⟩ := hv
  have hx := B.exec
  have hb := B.bytes
  have hr := B.returns
  have hts := atoms_spec (ws := wsX3_checkSide) B.pre
  have hown : s.vm.findClass RX3 = some m.cls := findClass_of_methodNamed B.named
  have hlocks := B.notSynchronized
  have hl := lv_entry ([.int (nI d)]) (n := 1) (Nat.le_of_ble_eq_true rfl)
  rw [lg_entry_eq]
  generalize (lg_sl ([.int (nI d)]) ++ List.replicate (1 - (lg_sl ([.int (nI d)])).length) Slot.unset).toArray = ls at hl ⊢
  have hl : lv_has ls 1 [(0, .int (nI d))] := hl
  refine lv_iload_n hx hb dX3_checkSide_0 rfl (lv_at hl 0 rfl) ?_
  refine lv_iconst (v := nI 2) hx hb dX3_checkSide_1 (by decide +kernel) ?_
  refine wt_ro_go (va_runS (As := [.int (nI d), .int (nI 2)]) (rest := []) ⟨hx, hb, hml, hown, hts⟩ (k_X3_belowN l d 2 (by omega) (by omega)) (va_cwS 2 hts gX3_checkSide_X3_below rfl rfl rfl (by decide +kernel) ⟨Nat.le_of_ble_eq_true rfl, Nat.le_of_ble_eq_true rfl⟩) wt_PS rfl rfl hl.1 rfl (lv_room (Nat.le_of_ble_eq_true rfl)) dX3_checkSide_2 ⟨Nat.zero_le _, Nat.zero_le _⟩) ?_
  refine wt_if_neB (tgt := 18) hx hb dX3_checkSide_5 (by decide) (fun c_5_1 => ?_) (fun c_5_1 => ?_)
  · exact wt_rvret hx hb hr rfl dX3_checkSide_18 hlocks
  · exfalso; omega
set_option maxHeartbeats 4000000 in
set_option maxRecDepth 100000 in
theorem k_X3_checkSideF (l : Launch) (hfl : l.stackTraces = false) (x : Int32) (hn9 : ¬ vp_in x 2) : vx_Met l yX3_checkSide wsX3_checkSide ({ frames := 6, cells := 1, slots := 6, locals := 90 }) (va_Pc [.int x] wt_xe) wt_nv (wt_xc "java/lang/IllegalArgumentException") 1 6 wt_no := by
  refine vx_ofW (cc := cX3_checkSide) (maxL := 1) (ret := none) (by decide) rfl ?_
  intro p e s m args below meth c s₁ B hml hta hv
  obtain ⟨rfl, hX⟩ := hv
  have hx := B.exec
  have hb := B.bytes
  have hr := B.returns
  have hts := atoms_spec (ws := wsX3_checkSide) B.pre
  have hown : s.vm.findClass RX3 = some m.cls := findClass_of_methodNamed B.named
  have hlocks := B.notSynchronized
  have hl := lv_entry ([.int x]) (n := 1) (Nat.le_of_ble_eq_true rfl)
  rw [lg_entry_eq]
  generalize (lg_sl ([.int x]) ++ List.replicate (1 - (lg_sl ([.int x])).length) Slot.unset).toArray = ls at hl ⊢
  have hl : lv_has ls 1 [(0, .int x)] := hl
  refine lv_iload_n hx hb dX3_checkSide_0 rfl (lv_at hl 0 rfl) ?_
  refine lv_iconst (v := nI 2) hx hb dX3_checkSide_1 (by decide +kernel) ?_
  refine wt_ro_go (va_runS (As := [.int x, .int (nI 2)]) (rest := []) ⟨hx, hb, hml, hown, hts⟩ (k_X3_belowI l x 2 (by omega)) (va_cwS 2 hts gX3_checkSide_X3_below rfl rfl rfl (by decide +kernel) ⟨Nat.le_of_ble_eq_true rfl, Nat.le_of_ble_eq_true rfl⟩) wt_PS rfl rfl hl.1 rfl (lv_room (Nat.le_of_ble_eq_true rfl)) dX3_checkSide_2 ⟨Nat.zero_le _, Nat.zero_le _⟩) ?_
  refine wt_if_neB (tgt := 18) hx hb dX3_checkSide_5 (by decide) (fun c_5_1 => ?_) (fun c_5_1 => ?_)
  · exact absurd c_5_1 hn9
  · exact wt_throw hx hb hfl (cls := "java/lang/IllegalArgumentException") (ik := 48) (is := 176) (ic := 52) hown (by decide +kernel) (hts (.classLink RX3 48 "java/lang/IllegalArgumentException") (List.mem_of_getElem? (i := 1) rfl)) (hts (.initialized "java/lang/IllegalArgumentException") (List.mem_of_getElem? (i := 2) rfl)) hX (List.mem_of_getElem? (i := 10) rfl) (wt_hat hX (List.mem_of_getElem? (i := 0) rfl) wt_xg1 (fun w h9 => hts w (List.mem_cons_of_mem _ (List.mem_append_right _ (h9))))) wt_xo1 rfl (by rw [hml]; exact hl.1) dX3_checkSide_8 dX3_checkSide_11 dX3_checkSide_12 dX3_checkSide_14 dX3_checkSide_17 hta (Nat.le_of_ble_eq_true rfl) (Nat.le_of_ble_eq_true rfl) (Nat.le_of_ble_eq_true rfl) (Nat.le_of_ble_eq_true rfl) hlocks
set_option maxHeartbeats 4000000 in
set_option maxRecDepth 100000 in
theorem k_X3_checkWeatherS (l : Launch) (w : Int32) (hw : vp_in w 3) : Met l yX3_checkWeather wsX3_checkWeather ({ frames := 6, cells := 0, slots := 0, locals := 90 }) (va_Pc [.int w] (fun _ => True)) wt_rv 0 0 wt_no := by
  refine Met.ofW (cc := cX3_checkWeather) (maxL := 1) (ret := none) (by decide) rfl ?_
  intro p e s m args below meth c s₁ B hml hv
  obtain ⟨rfl, -⟩ := hv
  have hx := B.exec
  have hb := B.bytes
  have hr := B.returns
  have hts := atoms_spec (ws := wsX3_checkWeather) B.pre
  have hown : s.vm.findClass RX3 = some m.cls := findClass_of_methodNamed B.named
  have hlocks := B.notSynchronized
  have hl := lv_entry ([.int w]) (n := 1) (Nat.le_of_ble_eq_true rfl)
  rw [lg_entry_eq]
  generalize (lg_sl ([.int w]) ++ List.replicate (1 - (lg_sl ([.int w])).length) Slot.unset).toArray = ls at hl ⊢
  have hl : lv_has ls 1 [(0, .int w)] := hl
  refine lv_iload_n hx hb dX3_checkWeather_0 rfl (lv_at hl 0 rfl) ?_
  refine lv_iconst (v := nI 3) hx hb dX3_checkWeather_1 (by decide +kernel) ?_
  refine wt_ro_go (va_runS (As := [.int w, .int (nI 3)]) (rest := []) ⟨hx, hb, hml, hown, hts⟩ (k_X3_belowI l w 3 (by omega)) (va_cwS 2 hts gX3_checkWeather_X3_below rfl rfl rfl (by decide +kernel) ⟨Nat.le_of_ble_eq_true rfl, Nat.le_of_ble_eq_true rfl⟩) wt_PS rfl rfl hl.1 rfl (lv_room (Nat.le_of_ble_eq_true rfl)) dX3_checkWeather_2 ⟨Nat.zero_le _, Nat.zero_le _⟩) ?_
  refine wt_if_neB (tgt := 18) hx hb dX3_checkWeather_5 (by decide) (fun c_5_1 => ?_) (fun c_5_1 => ?_)
  · exact wt_rvret hx hb hr rfl dX3_checkWeather_18 hlocks
  · exact absurd hw c_5_1
set_option maxHeartbeats 4000000 in
set_option maxRecDepth 100000 in
theorem k_X3_checkWeatherF (l : Launch) (hfl : l.stackTraces = false) (w : Int32) (hn9 : ¬ vp_in w 3) : vx_Met l yX3_checkWeather wsX3_checkWeather ({ frames := 6, cells := 1, slots := 6, locals := 90 }) (va_Pc [.int w] wt_xe) wt_nv (wt_xc "java/lang/IllegalArgumentException") 1 6 wt_no := by
  refine vx_ofW (cc := cX3_checkWeather) (maxL := 1) (ret := none) (by decide) rfl ?_
  intro p e s m args below meth c s₁ B hml hta hv
  obtain ⟨rfl, hX⟩ := hv
  have hx := B.exec
  have hb := B.bytes
  have hr := B.returns
  have hts := atoms_spec (ws := wsX3_checkWeather) B.pre
  have hown : s.vm.findClass RX3 = some m.cls := findClass_of_methodNamed B.named
  have hlocks := B.notSynchronized
  have hl := lv_entry ([.int w]) (n := 1) (Nat.le_of_ble_eq_true rfl)
  rw [lg_entry_eq]
  generalize (lg_sl ([.int w]) ++ List.replicate (1 - (lg_sl ([.int w])).length) Slot.unset).toArray = ls at hl ⊢
  have hl : lv_has ls 1 [(0, .int w)] := hl
  refine lv_iload_n hx hb dX3_checkWeather_0 rfl (lv_at hl 0 rfl) ?_
  refine lv_iconst (v := nI 3) hx hb dX3_checkWeather_1 (by decide +kernel) ?_
  refine wt_ro_go (va_runS (As := [.int w, .int (nI 3)]) (rest := []) ⟨hx, hb, hml, hown, hts⟩ (k_X3_belowI l w 3 (by omega)) (va_cwS 2 hts gX3_checkWeather_X3_below rfl rfl rfl (by decide +kernel) ⟨Nat.le_of_ble_eq_true rfl, Nat.le_of_ble_eq_true rfl⟩) wt_PS rfl rfl hl.1 rfl (lv_room (Nat.le_of_ble_eq_true rfl)) dX3_checkWeather_2 ⟨Nat.zero_le _, Nat.zero_le _⟩) ?_
  refine wt_if_neB (tgt := 18) hx hb dX3_checkWeather_5 (by decide) (fun c_5_1 => ?_) (fun c_5_1 => ?_)
  · exact absurd c_5_1 hn9
  · exact wt_throw hx hb hfl (cls := "java/lang/IllegalArgumentException") (ik := 48) (is := 178) (ic := 52) hown (by decide +kernel) (hts (.classLink RX3 48 "java/lang/IllegalArgumentException") (List.mem_of_getElem? (i := 1) rfl)) (hts (.initialized "java/lang/IllegalArgumentException") (List.mem_of_getElem? (i := 2) rfl)) hX (List.mem_of_getElem? (i := 11) rfl) (wt_hat hX (List.mem_of_getElem? (i := 0) rfl) wt_xg1 (fun w h9 => hts w (List.mem_cons_of_mem _ (List.mem_append_right _ (h9))))) wt_xo1 rfl (by rw [hml]; exact hl.1) dX3_checkWeather_8 dX3_checkWeather_11 dX3_checkWeather_12 dX3_checkWeather_14 dX3_checkWeather_17 hta (Nat.le_of_ble_eq_true rfl) (Nat.le_of_ble_eq_true rfl) (Nat.le_of_ble_eq_true rfl) (Nat.le_of_ble_eq_true rfl) hlocks
set_option maxHeartbeats 4000000 in
set_option maxRecDepth 100000 in
theorem k_X3_checkUnitS (l : Launch) (dC : Nat → ClassId) (dI : Nat → Nat → Nat) (cI : ClassId) (h : Nat) (dp : Nat) (we : Nat) (se : Nat) (fd : Nat → Int32) (fw : Nat → Int32) (fe : Nat → Int32) (nt : Nat) (hm : Nat) (pv : Nat) (up : Nat) (fp : Nat → Int32) (fu : Nat → Int32) (nr : Nat) (hu : Nat) (sd : Nat) (tw : Nat) (st : Nat) (od : Nat) (fs : Nat → Int32) (ft : Nat → Int32) (ff : Nat → Int32) (fo : Nat → Int32) (cn : Nat) (hq : Nat) (rt : Nat) (rv : Nat) (gt : Nat → Int32) (gw : Nat → Int32) (rc : Nat) (u : Nat) (hcn : cn ≤ 12) (hu2 : u < cn) : Met l yX3_checkUnit wsX3_checkUnit ({ frames := 6, cells := 0, slots := 0, locals := 90 }) (va_Pc [.ref h, .int (nI u)] (wt_pre (dC, dI) cI [(h, .inr (3, [.ref hm, .ref dp, .ref hu, .ref we, .ref se, .ref hq, .int (nI nt)])), (dp, .inl (cI, 2, .inl fd)), (we, .inl (cI, 20, .inl fw)), (se, .inl (cI, 20, .inl fe)), (hm, .inr (0, [.ref pv, .ref up, .int (nI nr)])), (pv, .inl (cI, 10, .inl fp)), (up, .inl (cI, 10, .inl fu)), (hu, .inr (2, [.ref sd, .ref tw, .ref st, .ref od, .int (nI cn)])), (sd, .inl (cI, 12, .inl fs)), (tw, .inl (cI, 264, .inl ft)), (st, .inl (cI, 264, .inl ff)), (od, .inl (cI, 264, .inl fo)), (hq, .inr (1, [.ref rt, .ref rv, .int (nI rc)])), (rt, .inl (cI, 512, .inl gt)), (rv, .inl (cI, 512, .inl gw))])) wt_rv 0 0 wt_no := by
  refine Met.ofW (cc := cX3_checkUnit) (maxL := 2) (ret := none) (by decide) rfl ?_
  intro p e s m args below meth c s₁ B hml hv
  obtain ⟨rfl, hP, hK, hN⟩ := hv
  have hx := B.exec
  have hb := B.bytes
  have hr := B.returns
  have hts := atoms_spec (ws := wsX3_checkUnit) B.pre
  have hown : s.vm.findClass RX3 = some m.cls := findClass_of_methodNamed B.named
  have hlocks := B.notSynchronized
  have inX2 : ∀ w ∈ wsX20, w ∈ wsX3_checkUnit := wt_in [21, 22, 23, 24, 25] (by decide +kernel)
  have inX3 : ∀ w ∈ wsX30, w ∈ wsX3_checkUnit := wt_in [14, 15, 16, 17, 18, 19, 20] (by decide +kernel)
  have hl := lv_entry ([.ref h, .int (nI u)]) (n := 2) (Nat.le_of_ble_eq_true rfl)
  rw [lg_entry_eq]
  generalize (lg_sl ([.ref h, .int (nI u)]) ++ List.replicate (2 - (lg_sl ([.ref h, .int (nI u)])).length) Slot.unset).toArray = ls at hl ⊢
  have hl : lv_has ls 2 [(0, .ref h), (1, .int (nI u))] := hl
  refine lv_iload_n hx hb dX3_checkUnit_0 rfl (lv_at hl 1 rfl) ?_
  refine lv_aload_n hx hb dX3_checkUnit_1 rfl (lv_at hl 0 rfl) ?_
  refine va_get (D := (dC, dI)) (ci := 3) (v := .ref hu) (C := RX3) (T := TX3) (N := 7) hx hb hts inX3 hown hK hP 0 rfl rfl 2 (by decide) (hts (.fieldLink RX3 23 "WarTable" "units" "LWarTable$Units;") (List.mem_of_getElem? (i := 3) rfl)) (fun _ h9 => h9) rfl dX3_checkUnit_2 ?_
  refine wt_ro_go (va_runV (As := []) (rest := [.int (nI u)]) ⟨hx, hb, hml, hown, hts⟩ (k_X2_count l dC dI cI hu sd tw st od fs ft ff fo cn) (cwV 0 hts gX3_checkUnit_X2_count rfl rfl rfl (by decide +kernel) ⟨Nat.le_of_ble_eq_true rfl, Nat.le_of_ble_eq_true rfl⟩) (wt_PV (C := RX2) (T := TX2) (N := 5) (ci := 2) (q0 := 7) hK hP hN rfl rfl [7, 8, 9, 10, 11] rfl) rfl rfl hl.1 rfl (lv_room (Nat.le_of_ble_eq_true rfl)) dX3_checkUnit_5 ⟨Nat.zero_le _, Nat.zero_le _⟩) ?_
  refine wt_ro_go (va_runS (As := [.int (nI u), .int (nI cn)]) (rest := []) ⟨hx, hb, hml, hown, hts⟩ (k_X3_belowN l u cn (by omega) (by omega)) (va_cwS 2 hts gX3_checkUnit_X3_below rfl rfl rfl (by decide +kernel) ⟨Nat.le_of_ble_eq_true rfl, Nat.le_of_ble_eq_true rfl⟩) wt_PS rfl rfl hl.1 rfl (lv_room (Nat.le_of_ble_eq_true rfl)) dX3_checkUnit_8 ⟨Nat.zero_le _, Nat.zero_le _⟩) ?_
  refine wt_if_neB (tgt := 24) hx hb dX3_checkUnit_11 (by decide) (fun c_11_1 => ?_) (fun c_11_1 => ?_)
  · exact wt_rvret hx hb hr rfl dX3_checkUnit_24 hlocks
  · exfalso; omega
set_option maxHeartbeats 4000000 in
set_option maxRecDepth 100000 in
theorem k_X3_checkUnitF (l : Launch) (hfl : l.stackTraces = false) (dC : Nat → ClassId) (dI : Nat → Nat → Nat) (cI : ClassId) (h : Nat) (dp : Nat) (we : Nat) (se : Nat) (fd : Nat → Int32) (fw : Nat → Int32) (fe : Nat → Int32) (nt : Nat) (hm : Nat) (pv : Nat) (up : Nat) (fp : Nat → Int32) (fu : Nat → Int32) (nr : Nat) (hu : Nat) (sd : Nat) (tw : Nat) (st : Nat) (od : Nat) (fs : Nat → Int32) (ft : Nat → Int32) (ff : Nat → Int32) (fo : Nat → Int32) (cn : Nat) (hq : Nat) (rt : Nat) (rv : Nat) (gt : Nat → Int32) (gw : Nat → Int32) (rc : Nat) (x : Int32) (hcn : cn ≤ 12) (hn9 : ¬ vp_in x cn) : vx_Met l yX3_checkUnit wsX3_checkUnit ({ frames := 6, cells := 1, slots := 6, locals := 90 }) (va_Pc [.ref h, .int x] (fun U => wt_pre (dC, dI) cI [(h, .inr (3, [.ref hm, .ref dp, .ref hu, .ref we, .ref se, .ref hq, .int (nI nt)])), (dp, .inl (cI, 2, .inl fd)), (we, .inl (cI, 20, .inl fw)), (se, .inl (cI, 20, .inl fe)), (hm, .inr (0, [.ref pv, .ref up, .int (nI nr)])), (pv, .inl (cI, 10, .inl fp)), (up, .inl (cI, 10, .inl fu)), (hu, .inr (2, [.ref sd, .ref tw, .ref st, .ref od, .int (nI cn)])), (sd, .inl (cI, 12, .inl fs)), (tw, .inl (cI, 264, .inl ft)), (st, .inl (cI, 264, .inl ff)), (od, .inl (cI, 264, .inl fo)), (hq, .inr (1, [.ref rt, .ref rv, .int (nI rc)])), (rt, .inl (cI, 512, .inl gt)), (rv, .inl (cI, 512, .inl gw))] U ∧ wt_xe U)) wt_nv (wt_xc "java/lang/IndexOutOfBoundsException") 1 6 wt_no := by
  refine vx_ofW (cc := cX3_checkUnit) (maxL := 2) (ret := none) (by decide) rfl ?_
  intro p e s m args below meth c s₁ B hml hta hv
  obtain ⟨rfl, ⟨hP, hK, hN⟩, hX⟩ := hv
  have hx := B.exec
  have hb := B.bytes
  have hr := B.returns
  have hts := atoms_spec (ws := wsX3_checkUnit) B.pre
  have hown : s.vm.findClass RX3 = some m.cls := findClass_of_methodNamed B.named
  have hlocks := B.notSynchronized
  have inX2 : ∀ w ∈ wsX20, w ∈ wsX3_checkUnit := wt_in [21, 22, 23, 24, 25] (by decide +kernel)
  have inX3 : ∀ w ∈ wsX30, w ∈ wsX3_checkUnit := wt_in [14, 15, 16, 17, 18, 19, 20] (by decide +kernel)
  have hl := lv_entry ([.ref h, .int x]) (n := 2) (Nat.le_of_ble_eq_true rfl)
  rw [lg_entry_eq]
  generalize (lg_sl ([.ref h, .int x]) ++ List.replicate (2 - (lg_sl ([.ref h, .int x])).length) Slot.unset).toArray = ls at hl ⊢
  have hl : lv_has ls 2 [(0, .ref h), (1, .int x)] := hl
  refine lv_iload_n hx hb dX3_checkUnit_0 rfl (lv_at hl 1 rfl) ?_
  refine lv_aload_n hx hb dX3_checkUnit_1 rfl (lv_at hl 0 rfl) ?_
  refine va_get (D := (dC, dI)) (ci := 3) (v := .ref hu) (C := RX3) (T := TX3) (N := 7) hx hb hts inX3 hown hK hP 0 rfl rfl 2 (by decide) (hts (.fieldLink RX3 23 "WarTable" "units" "LWarTable$Units;") (List.mem_of_getElem? (i := 3) rfl)) (fun _ h9 => h9) rfl dX3_checkUnit_2 ?_
  refine wt_ro_go (va_runV (As := []) (rest := [.int x]) ⟨hx, hb, hml, hown, hts⟩ (k_X2_count l dC dI cI hu sd tw st od fs ft ff fo cn) (cwV 0 hts gX3_checkUnit_X2_count rfl rfl rfl (by decide +kernel) ⟨Nat.le_of_ble_eq_true rfl, Nat.le_of_ble_eq_true rfl⟩) (wt_PV (C := RX2) (T := TX2) (N := 5) (ci := 2) (q0 := 7) hK hP hN rfl rfl [7, 8, 9, 10, 11] rfl) rfl rfl hl.1 rfl (lv_room (Nat.le_of_ble_eq_true rfl)) dX3_checkUnit_5 ⟨Nat.zero_le _, Nat.zero_le _⟩) ?_
  refine wt_ro_go (va_runS (As := [.int x, .int (nI cn)]) (rest := []) ⟨hx, hb, hml, hown, hts⟩ (k_X3_belowI l x cn (by omega)) (va_cwS 2 hts gX3_checkUnit_X3_below rfl rfl rfl (by decide +kernel) ⟨Nat.le_of_ble_eq_true rfl, Nat.le_of_ble_eq_true rfl⟩) wt_PS rfl rfl hl.1 rfl (lv_room (Nat.le_of_ble_eq_true rfl)) dX3_checkUnit_8 ⟨Nat.zero_le _, Nat.zero_le _⟩) ?_
  refine wt_if_neB (tgt := 24) hx hb dX3_checkUnit_11 (by decide) (fun c_11_1 => ?_) (fun c_11_1 => ?_)
  · exact absurd c_11_1 hn9
  · exact wt_throw hx hb hfl (cls := "java/lang/IndexOutOfBoundsException") (ik := 165) (is := 180) (ic := 169) hown (by decide +kernel) (hts (.classLink RX3 165 "java/lang/IndexOutOfBoundsException") (List.mem_of_getElem? (i := 1) rfl)) (hts (.initialized "java/lang/IndexOutOfBoundsException") (List.mem_of_getElem? (i := 2) rfl)) hX (List.mem_of_getElem? (i := 12) rfl) (wt_hat hX (List.mem_of_getElem? (i := 2) rfl) wt_xg3 (fun w h9 => hts w (List.mem_cons_of_mem _ (List.mem_append_right _ (h9))))) wt_xo3 rfl (by rw [hml]; exact hl.1) dX3_checkUnit_14 dX3_checkUnit_17 dX3_checkUnit_18 dX3_checkUnit_20 dX3_checkUnit_23 hta (Nat.le_of_ble_eq_true rfl) (Nat.le_of_ble_eq_true rfl) (Nat.le_of_ble_eq_true rfl) (Nat.le_of_ble_eq_true rfl) hlocks
set_option maxHeartbeats 4000000 in
set_option maxRecDepth 100000 in
theorem k_X3_checkTurnS (l : Launch) (dC : Nat → ClassId) (dI : Nat → Nat → Nat) (cI : ClassId) (h : Nat) (dp : Nat) (we : Nat) (se : Nat) (fd : Nat → Int32) (fw : Nat → Int32) (fe : Nat → Int32) (nt : Nat) (hm : Nat) (pv : Nat) (up : Nat) (fp : Nat → Int32) (fu : Nat → Int32) (nr : Nat) (hu : Nat) (sd : Nat) (tw : Nat) (st : Nat) (od : Nat) (fs : Nat → Int32) (ft : Nat → Int32) (ff : Nat → Int32) (fo : Nat → Int32) (cn : Nat) (hq : Nat) (rt : Nat) (rv : Nat) (gt : Nat → Int32) (gw : Nat → Int32) (rc : Nat) (t : Nat) (hnt : nt ≤ 20) (ht : t < nt) : Met l yX3_checkTurn wsX3_checkTurn ({ frames := 6, cells := 0, slots := 0, locals := 90 }) (va_Pc [.ref h, .int (nI t)] (wt_pre (dC, dI) cI [(h, .inr (3, [.ref hm, .ref dp, .ref hu, .ref we, .ref se, .ref hq, .int (nI nt)])), (dp, .inl (cI, 2, .inl fd)), (we, .inl (cI, 20, .inl fw)), (se, .inl (cI, 20, .inl fe)), (hm, .inr (0, [.ref pv, .ref up, .int (nI nr)])), (pv, .inl (cI, 10, .inl fp)), (up, .inl (cI, 10, .inl fu)), (hu, .inr (2, [.ref sd, .ref tw, .ref st, .ref od, .int (nI cn)])), (sd, .inl (cI, 12, .inl fs)), (tw, .inl (cI, 264, .inl ft)), (st, .inl (cI, 264, .inl ff)), (od, .inl (cI, 264, .inl fo)), (hq, .inr (1, [.ref rt, .ref rv, .int (nI rc)])), (rt, .inl (cI, 512, .inl gt)), (rv, .inl (cI, 512, .inl gw))])) wt_rv 0 0 wt_no := by
  refine Met.ofW (cc := cX3_checkTurn) (maxL := 2) (ret := none) (by decide) rfl ?_
  intro p e s m args below meth c s₁ B hml hv
  obtain ⟨rfl, hP, hK, hN⟩ := hv
  have hx := B.exec
  have hb := B.bytes
  have hr := B.returns
  have hts := atoms_spec (ws := wsX3_checkTurn) B.pre
  have hown : s.vm.findClass RX3 = some m.cls := findClass_of_methodNamed B.named
  have hlocks := B.notSynchronized
  have inX3 : ∀ w ∈ wsX30, w ∈ wsX3_checkTurn := wt_in [12, 13, 14, 15, 16, 17, 18] (by decide +kernel)
  have hl := lv_entry ([.ref h, .int (nI t)]) (n := 2) (Nat.le_of_ble_eq_true rfl)
  rw [lg_entry_eq]
  generalize (lg_sl ([.ref h, .int (nI t)]) ++ List.replicate (2 - (lg_sl ([.ref h, .int (nI t)])).length) Slot.unset).toArray = ls at hl ⊢
  have hl : lv_has ls 2 [(0, .ref h), (1, .int (nI t))] := hl
  refine lv_iload_n hx hb dX3_checkTurn_0 rfl (lv_at hl 1 rfl) ?_
  refine lv_aload_n hx hb dX3_checkTurn_1 rfl (lv_at hl 0 rfl) ?_
  refine va_get (D := (dC, dI)) (ci := 3) (v := .int (nI nt)) (C := RX3) (T := TX3) (N := 7) hx hb hts inX3 hown hK hP 0 rfl rfl 6 (by decide) (hts (.fieldLink RX3 40 "WarTable" "turns" "I") (List.mem_of_getElem? (i := 3) rfl)) (fun _ h9 => h9) rfl dX3_checkTurn_2 ?_
  refine lv_bipush (v := nI 20) hx hb dX3_checkTurn_5 (by decide +kernel) ?_
  refine va_mmin hx hb (by rw [hml]; exact hl.1.symm) hown (hts (.methodLink RX3 170 Lib.Math.min.name) (List.mem_of_getElem? (i := 4) rfl)) (hts (.static Lib.Math.min.name) (List.mem_of_getElem? (i := 5) rfl)) (hts (.initialized "java/lang/Math") (List.mem_of_getElem? (i := 6) rfl)) (hts (.code Lib.Math.min.name Lib.Math.min.code 2 (some .int)) (List.mem_of_getElem? (i := 7) rfl)) (Nat.le_of_ble_eq_true rfl) (Nat.le_of_ble_eq_true rfl) (Nat.zero_le _) (Nat.zero_le _) dX3_checkTurn_7 ?_
  refine wt_top (y := (wt_mi2 (nI nt) (nI 20))) rfl ?_
  refine wt_top (y := nI nt) (wt_min_le hnt (by decide)) ?_
  refine wt_ro_go (va_runS (As := [.int (nI t), .int (nI nt)]) (rest := []) ⟨hx, hb, hml, hown, hts⟩ (k_X3_belowN l t nt (by omega) (by omega)) (va_cwS 2 hts gX3_checkTurn_X3_below rfl rfl rfl (by decide +kernel) ⟨Nat.le_of_ble_eq_true rfl, Nat.le_of_ble_eq_true rfl⟩) wt_PS rfl rfl hl.1 rfl (lv_room (Nat.le_of_ble_eq_true rfl)) dX3_checkTurn_10 ⟨Nat.zero_le _, Nat.zero_le _⟩) ?_
  refine wt_if_neB (tgt := 26) hx hb dX3_checkTurn_13 (by decide) (fun c_13_1 => ?_) (fun c_13_1 => ?_)
  · exact wt_rvret hx hb hr rfl dX3_checkTurn_26 hlocks
  · exfalso; omega
set_option maxHeartbeats 4000000 in
set_option maxRecDepth 100000 in
theorem k_X3_checkTurnF (l : Launch) (hfl : l.stackTraces = false) (dC : Nat → ClassId) (dI : Nat → Nat → Nat) (cI : ClassId) (h : Nat) (dp : Nat) (we : Nat) (se : Nat) (fd : Nat → Int32) (fw : Nat → Int32) (fe : Nat → Int32) (nt : Nat) (hm : Nat) (pv : Nat) (up : Nat) (fp : Nat → Int32) (fu : Nat → Int32) (nr : Nat) (hu : Nat) (sd : Nat) (tw : Nat) (st : Nat) (od : Nat) (fs : Nat → Int32) (ft : Nat → Int32) (ff : Nat → Int32) (fo : Nat → Int32) (cn : Nat) (hq : Nat) (rt : Nat) (rv : Nat) (gt : Nat → Int32) (gw : Nat → Int32) (rc : Nat) (x : Int32) (hnt : nt ≤ 20) (hn9 : ¬ vp_in x nt) : vx_Met l yX3_checkTurn wsX3_checkTurn ({ frames := 6, cells := 1, slots := 6, locals := 90 }) (va_Pc [.ref h, .int x] (fun U => wt_pre (dC, dI) cI [(h, .inr (3, [.ref hm, .ref dp, .ref hu, .ref we, .ref se, .ref hq, .int (nI nt)])), (dp, .inl (cI, 2, .inl fd)), (we, .inl (cI, 20, .inl fw)), (se, .inl (cI, 20, .inl fe)), (hm, .inr (0, [.ref pv, .ref up, .int (nI nr)])), (pv, .inl (cI, 10, .inl fp)), (up, .inl (cI, 10, .inl fu)), (hu, .inr (2, [.ref sd, .ref tw, .ref st, .ref od, .int (nI cn)])), (sd, .inl (cI, 12, .inl fs)), (tw, .inl (cI, 264, .inl ft)), (st, .inl (cI, 264, .inl ff)), (od, .inl (cI, 264, .inl fo)), (hq, .inr (1, [.ref rt, .ref rv, .int (nI rc)])), (rt, .inl (cI, 512, .inl gt)), (rv, .inl (cI, 512, .inl gw))] U ∧ wt_xe U)) wt_nv (wt_xc "java/lang/IndexOutOfBoundsException") 1 6 wt_no := by
  refine vx_ofW (cc := cX3_checkTurn) (maxL := 2) (ret := none) (by decide) rfl ?_
  intro p e s m args below meth c s₁ B hml hta hv
  obtain ⟨rfl, ⟨hP, hK, hN⟩, hX⟩ := hv
  have hx := B.exec
  have hb := B.bytes
  have hr := B.returns
  have hts := atoms_spec (ws := wsX3_checkTurn) B.pre
  have hown : s.vm.findClass RX3 = some m.cls := findClass_of_methodNamed B.named
  have hlocks := B.notSynchronized
  have inX3 : ∀ w ∈ wsX30, w ∈ wsX3_checkTurn := wt_in [12, 13, 14, 15, 16, 17, 18] (by decide +kernel)
  have hl := lv_entry ([.ref h, .int x]) (n := 2) (Nat.le_of_ble_eq_true rfl)
  rw [lg_entry_eq]
  generalize (lg_sl ([.ref h, .int x]) ++ List.replicate (2 - (lg_sl ([.ref h, .int x])).length) Slot.unset).toArray = ls at hl ⊢
  have hl : lv_has ls 2 [(0, .ref h), (1, .int x)] := hl
  refine lv_iload_n hx hb dX3_checkTurn_0 rfl (lv_at hl 1 rfl) ?_
  refine lv_aload_n hx hb dX3_checkTurn_1 rfl (lv_at hl 0 rfl) ?_
  refine va_get (D := (dC, dI)) (ci := 3) (v := .int (nI nt)) (C := RX3) (T := TX3) (N := 7) hx hb hts inX3 hown hK hP 0 rfl rfl 6 (by decide) (hts (.fieldLink RX3 40 "WarTable" "turns" "I") (List.mem_of_getElem? (i := 3) rfl)) (fun _ h9 => h9) rfl dX3_checkTurn_2 ?_
  refine lv_bipush (v := nI 20) hx hb dX3_checkTurn_5 (by decide +kernel) ?_
  refine va_mmin hx hb (by rw [hml]; exact hl.1.symm) hown (hts (.methodLink RX3 170 Lib.Math.min.name) (List.mem_of_getElem? (i := 4) rfl)) (hts (.static Lib.Math.min.name) (List.mem_of_getElem? (i := 5) rfl)) (hts (.initialized "java/lang/Math") (List.mem_of_getElem? (i := 6) rfl)) (hts (.code Lib.Math.min.name Lib.Math.min.code 2 (some .int)) (List.mem_of_getElem? (i := 7) rfl)) (Nat.le_of_ble_eq_true rfl) (Nat.le_of_ble_eq_true rfl) (Nat.zero_le _) (Nat.zero_le _) dX3_checkTurn_7 ?_
  refine wt_top (y := (wt_mi2 (nI nt) (nI 20))) rfl ?_
  refine wt_top (y := nI nt) (wt_min_le hnt (by decide)) ?_
  refine wt_ro_go (va_runS (As := [.int x, .int (nI nt)]) (rest := []) ⟨hx, hb, hml, hown, hts⟩ (k_X3_belowI l x nt (by omega)) (va_cwS 2 hts gX3_checkTurn_X3_below rfl rfl rfl (by decide +kernel) ⟨Nat.le_of_ble_eq_true rfl, Nat.le_of_ble_eq_true rfl⟩) wt_PS rfl rfl hl.1 rfl (lv_room (Nat.le_of_ble_eq_true rfl)) dX3_checkTurn_10 ⟨Nat.zero_le _, Nat.zero_le _⟩) ?_
  refine wt_if_neB (tgt := 26) hx hb dX3_checkTurn_13 (by decide) (fun c_13_1 => ?_) (fun c_13_1 => ?_)
  · exact absurd c_13_1 hn9
  · exact wt_throw hx hb hfl (cls := "java/lang/IndexOutOfBoundsException") (ik := 165) (is := 182) (ic := 169) hown (by decide +kernel) (hts (.classLink RX3 165 "java/lang/IndexOutOfBoundsException") (List.mem_of_getElem? (i := 1) rfl)) (hts (.initialized "java/lang/IndexOutOfBoundsException") (List.mem_of_getElem? (i := 2) rfl)) hX (List.mem_of_getElem? (i := 13) rfl) (wt_hat hX (List.mem_of_getElem? (i := 2) rfl) wt_xg3 (fun w h9 => hts w (List.mem_cons_of_mem _ (List.mem_append_right _ (h9))))) wt_xo3 rfl (by rw [hml]; exact hl.1) dX3_checkTurn_16 dX3_checkTurn_19 dX3_checkTurn_20 dX3_checkTurn_22 dX3_checkTurn_25 hta (Nat.le_of_ble_eq_true rfl) (Nat.le_of_ble_eq_true rfl) (Nat.le_of_ble_eq_true rfl) (Nat.le_of_ble_eq_true rfl) hlocks
set_option maxHeartbeats 4000000 in
set_option maxRecDepth 100000 in
theorem k_X3_addRoadS (l : Launch) (dC : Nat → ClassId) (dI : Nat → Nat → Nat) (cI : ClassId) (h : Nat) (dp : Nat) (we : Nat) (se : Nat) (fd : Nat → Int32) (fw : Nat → Int32) (fe : Nat → Int32) (nt : Nat) (hm : Nat) (pv : Nat) (up : Nat) (fp : Nat → Int32) (fu : Nat → Int32) (nr : Nat) (hu : Nat) (sd : Nat) (tw : Nat) (st : Nat) (od : Nat) (fs : Nat → Int32) (ft : Nat → Int32) (ff : Nat → Int32) (fo : Nat → Int32) (cn : Nat) (hq : Nat) (rt : Nat) (rv : Nat) (gt : Nat → Int32) (gw : Nat → Int32) (rc : Nat) (a : Nat) (b : Nat) (z : Int32) (sz : Nat) (ha : a < 10) (hb2 : b < 10) (hab : a ≠ b) (hn0 : nt = 0) (hj : ¬ wt_has (wt_nxt fp fu (nI a) (nI 0)) (nI b)) (hnr : nr < 15) : Met l yX3_addRoad wsX3_addRoad ({ frames := 6, cells := 0, slots := 0, locals := 90 }) (va_Pc [.ref h, .int (nI a), .int (nI b), .int z] (wt_pm (dC, dI) cI [(h, .inr (3, [.ref hm, .ref dp, .ref hu, .ref we, .ref se, .ref hq, .int (nI nt)])), (dp, .inl (cI, 2, .inl fd)), (we, .inl (cI, 20, .inl fw)), (se, .inl (cI, 20, .inl fe)), (hm, .inr (0, [.ref pv, .ref up, .int (nI nr)])), (pv, .inl (cI, 10, .inl fp)), (up, .inl (cI, 10, .inl fu)), (hu, .inr (2, [.ref sd, .ref tw, .ref st, .ref od, .int (nI cn)])), (sd, .inl (cI, 12, .inl fs)), (tw, .inl (cI, 264, .inl ft)), (st, .inl (cI, 264, .inl ff)), (od, .inl (cI, 264, .inl fo)), (hq, .inr (1, [.ref rt, .ref rv, .int (nI rc)])), (rt, .inl (cI, 512, .inl gt)), (rv, .inl (cI, 512, .inl gw))] sz)) (wt_mu (some (.int (nI (nr + 1)))) (dC, dI) [(h, .inr (3, [.ref hm, .ref dp, .ref hu, .ref we, .ref se, .ref hq, .int (nI nt)])), (dp, .inl (cI, 2, .inl fd)), (we, .inl (cI, 20, .inl fw)), (se, .inl (cI, 20, .inl fe)), (hm, .inr (0, [.ref pv, .ref up, .int (nI (nr + 1))])), (pv, .inl (cI, 10, .inl (wt_if (z = 0) fp (wt_jn fp a b)))), (up, .inl (cI, 10, .inl (wt_if (z = 0) (wt_jn fu a b) fu))), (hu, .inr (2, [.ref sd, .ref tw, .ref st, .ref od, .int (nI cn)])), (sd, .inl (cI, 12, .inl fs)), (tw, .inl (cI, 264, .inl ft)), (st, .inl (cI, 264, .inl ff)), (od, .inl (cI, 264, .inl fo)), (hq, .inr (1, [.ref rt, .ref rv, .int (nI rc)])), (rt, .inl (cI, 512, .inl gt)), (rv, .inl (cI, 512, .inl gw))] (va_A [(h, .inr (3, [.ref hm, .ref dp, .ref hu, .ref we, .ref se, .ref hq, .int (nI nt)])), (dp, .inl (cI, 2, .inl fd)), (we, .inl (cI, 20, .inl fw)), (se, .inl (cI, 20, .inl fe)), (hm, .inr (0, [.ref pv, .ref up, .int (nI nr)])), (pv, .inl (cI, 10, .inl fp)), (up, .inl (cI, 10, .inl fu)), (hu, .inr (2, [.ref sd, .ref tw, .ref st, .ref od, .int (nI cn)])), (sd, .inl (cI, 12, .inl fs)), (tw, .inl (cI, 264, .inl ft)), (st, .inl (cI, 264, .inl ff)), (od, .inl (cI, 264, .inl fo)), (hq, .inr (1, [.ref rt, .ref rv, .int (nI rc)])), (rt, .inl (cI, 512, .inl gt)), (rv, .inl (cI, 512, .inl gw))] sz)) 0 0 (va_A [(h, .inr (3, [.ref hm, .ref dp, .ref hu, .ref we, .ref se, .ref hq, .int (nI nt)])), (dp, .inl (cI, 2, .inl fd)), (we, .inl (cI, 20, .inl fw)), (se, .inl (cI, 20, .inl fe)), (hm, .inr (0, [.ref pv, .ref up, .int (nI nr)])), (pv, .inl (cI, 10, .inl fp)), (up, .inl (cI, 10, .inl fu)), (hu, .inr (2, [.ref sd, .ref tw, .ref st, .ref od, .int (nI cn)])), (sd, .inl (cI, 12, .inl fs)), (tw, .inl (cI, 264, .inl ft)), (st, .inl (cI, 264, .inl ff)), (od, .inl (cI, 264, .inl fo)), (hq, .inr (1, [.ref rt, .ref rv, .int (nI rc)])), (rt, .inl (cI, 512, .inl gt)), (rv, .inl (cI, 512, .inl gw))] sz) := by
  refine Met.ofW (cc := cX3_addRoad) (maxL := 4) (ret := (some .int)) (by decide) rfl ?_
  intro p e s m args below meth c s₁ B hml hv
  obtain ⟨rfl, hsz, ⟨hP, hK, hN⟩, hD0⟩ := hv
  have hx := B.exec
  have hb := B.bytes
  have hr := B.returns
  have hts := atoms_spec (ws := wsX3_addRoad) B.pre
  have hown : s.vm.findClass RX3 = some m.cls := findClass_of_methodNamed B.named
  have hlocks := B.notSynchronized
  subst hsz
  have hD := hD0.self (sz := s.heap.size)
  generalize hAe : va_A [(h, .inr (3, [.ref hm, .ref dp, .ref hu, .ref we, .ref se, .ref hq, .int (nI nt)])), (dp, .inl (cI, 2, .inl fd)), (we, .inl (cI, 20, .inl fw)), (se, .inl (cI, 20, .inl fe)), (hm, .inr (0, [.ref pv, .ref up, .int (nI nr)])), (pv, .inl (cI, 10, .inl fp)), (up, .inl (cI, 10, .inl fu)), (hu, .inr (2, [.ref sd, .ref tw, .ref st, .ref od, .int (nI cn)])), (sd, .inl (cI, 12, .inl fs)), (tw, .inl (cI, 264, .inl ft)), (st, .inl (cI, 264, .inl ff)), (od, .inl (cI, 264, .inl fo)), (hq, .inr (1, [.ref rt, .ref rv, .int (nI rc)])), (rt, .inl (cI, 512, .inl gt)), (rv, .inl (cI, 512, .inl gw))] s.heap.size = A at hD ⊢
  have hA : ∀ q : Nat, s.heap.size ≤ q → A q := fun q h => by rw [← hAe]; exact Or.inr h
  have hS : va_S A s.heap s.heap [] := va_S.rf
  have inX0 : ∀ w ∈ wsX00, w ∈ wsX3_addRoad := wt_in [43, 44, 45] (by decide +kernel)
  have inX3 : ∀ w ∈ wsX30, w ∈ wsX3_addRoad := wt_in [36, 37, 38, 39, 40, 41, 42] (by decide +kernel)
  have hl := lv_entry ([.ref h, .int (nI a), .int (nI b), .int z]) (n := 4) (Nat.le_of_ble_eq_true rfl)
  rw [lg_entry_eq]
  generalize (lg_sl ([.ref h, .int (nI a), .int (nI b), .int z]) ++ List.replicate (4 - (lg_sl ([.ref h, .int (nI a), .int (nI b), .int z])).length) Slot.unset).toArray = ls at hl ⊢
  have hl : lv_has ls 4 [(0, .ref h), (1, .int (nI a)), (2, .int (nI b)), (3, .int z)] := hl
  refine lv_iload_n hx hb dX3_addRoad_0 rfl (lv_at hl 1 rfl) ?_
  refine lv_bipush (v := nI 10) hx hb dX3_addRoad_1 (by decide +kernel) ?_
  refine wt_ro_go (va_runS (As := [.int (nI a), .int (nI 10)]) (rest := []) ⟨hx, hb, hml, hown, hts⟩ (k_X3_belowN l a 10 (by omega) (by omega)) (va_cwS 2 hts gX3_addRoad_X3_below rfl rfl rfl (by decide +kernel) ⟨Nat.le_of_ble_eq_true rfl, Nat.le_of_ble_eq_true rfl⟩) wt_PS rfl rfl hl.1 rfl (lv_room (Nat.le_of_ble_eq_true rfl)) dX3_addRoad_3 ⟨Nat.zero_le _, Nat.zero_le _⟩) ?_
  refine wt_if_eqB (tgt := 23) hx hb dX3_addRoad_6 (by decide) (fun c_6_1 => ?_) (fun c_6_1 => ?_)
  · exfalso; omega
  · refine lv_iload_n hx hb dX3_addRoad_9 rfl (lv_at hl 2 rfl) ?_
    refine lv_bipush (v := nI 10) hx hb dX3_addRoad_10 (by decide +kernel) ?_
    refine wt_ro_go (va_runS (As := [.int (nI b), .int (nI 10)]) (rest := []) ⟨hx, hb, hml, hown, hts⟩ (k_X3_belowN l b 10 (by omega) (by omega)) (va_cwS 2 hts gX3_addRoad_X3_below rfl rfl rfl (by decide +kernel) ⟨Nat.le_of_ble_eq_true rfl, Nat.le_of_ble_eq_true rfl⟩) wt_PS rfl rfl hl.1 rfl (lv_room (Nat.le_of_ble_eq_true rfl)) dX3_addRoad_12 ⟨Nat.zero_le _, Nat.zero_le _⟩) ?_
    refine wt_if_eqB (tgt := 23) hx hb dX3_addRoad_15 (by decide) (fun c_15_2 => ?_) (fun c_15_2 => ?_)
    · exfalso; omega
    · refine lv_iload_n hx hb dX3_addRoad_18 rfl (lv_at hl 1 rfl) ?_
      refine lv_iload_n hx hb dX3_addRoad_19 rfl (lv_at hl 2 rfl) ?_
      refine wt_icmp_ne (tgt := 33) hx hb (by omega) (by omega) dX3_addRoad_20 (by decide) (fun c_20_3 => ?_) (fun c_20_3 => ?_)
      · refine lv_aload_n hx hb dX3_addRoad_33 rfl (lv_at hl 0 rfl) ?_
        refine va_get (D := (dC, dI)) (ci := 3) (v := .int (nI nt)) (C := RX3) (T := TX3) (N := 7) hx hb hts inX3 hown hK hP 0 rfl rfl 6 (by decide) (hts (.fieldLink RX3 40 "WarTable" "turns" "I") (List.mem_of_getElem? (i := 5) rfl)) (fun _ h9 => h9) rfl dX3_addRoad_34 ?_
        refine wt_if_gt (tgt := 64) hx hb (by omega) dX3_addRoad_37 (by decide) (fun c_37_4 => ?_) (fun c_37_4 => ?_)
        · exfalso; omega
        · refine lv_aload_n hx hb dX3_addRoad_40 rfl (lv_at hl 0 rfl) ?_
          refine va_get (D := (dC, dI)) (ci := 3) (v := .ref hm) (C := RX3) (T := TX3) (N := 7) hx hb hts inX3 hown hK hP 0 rfl rfl 0 (by decide) (hts (.fieldLink RX3 12 "WarTable" "map" "LWarTable$RoadMap;") (List.mem_of_getElem? (i := 6) rfl)) (fun _ h9 => h9) rfl dX3_addRoad_41 ?_
          refine lv_iload_n hx hb dX3_addRoad_44 rfl (lv_at hl 1 rfl) ?_
          refine lv_iload_n hx hb dX3_addRoad_45 rfl (lv_at hl 2 rfl) ?_
          refine wt_ro_go (va_runV (As := [.int (nI a), .int (nI b)]) (rest := []) ⟨hx, hb, hml, hown, hts⟩ (k_X0_joins l dC dI cI hm pv up fp fu nr (nI a) (nI b)) (cwV 2 hts gX3_addRoad_X0_joins rfl rfl rfl (by decide +kernel) ⟨Nat.le_of_ble_eq_true rfl, Nat.le_of_ble_eq_true rfl⟩) (wt_PV (C := RX0) (T := TX0) (N := 3) (ci := 0) (q0 := 4) hK hP hN rfl rfl [4, 5, 6] rfl) rfl rfl hl.1 rfl (lv_room (Nat.le_of_ble_eq_true rfl)) dX3_addRoad_46 ⟨Nat.zero_le _, Nat.zero_le _⟩) ?_
          refine wt_if_neB (tgt := 64) hx hb dX3_addRoad_49 (by decide) (fun c_49_5 => ?_) (fun c_49_5 => ?_)
          · exact absurd c_49_5 hj
          · refine lv_aload_n hx hb dX3_addRoad_52 rfl (lv_at hl 0 rfl) ?_
            refine va_get (D := (dC, dI)) (ci := 3) (v := .ref hm) (C := RX3) (T := TX3) (N := 7) hx hb hts inX3 hown hK hP 0 rfl rfl 0 (by decide) (hts (.fieldLink RX3 12 "WarTable" "map" "LWarTable$RoadMap;") (List.mem_of_getElem? (i := 6) rfl)) (fun _ h9 => h9) rfl dX3_addRoad_53 ?_
            refine wt_ro_go (va_runV (As := []) (rest := []) ⟨hx, hb, hml, hown, hts⟩ (k_X0_roads l dC dI cI hm pv up fp fu nr) (cwV 0 hts gX3_addRoad_X0_roads rfl rfl rfl (by decide +kernel) ⟨Nat.le_of_ble_eq_true rfl, Nat.le_of_ble_eq_true rfl⟩) (wt_PV (C := RX0) (T := TX0) (N := 3) (ci := 0) (q0 := 4) hK hP hN rfl rfl [4, 5, 6] rfl) rfl rfl hl.1 rfl (lv_room (Nat.le_of_ble_eq_true rfl)) dX3_addRoad_56 ⟨Nat.zero_le _, Nat.zero_le _⟩) ?_
            refine lv_bipush (v := nI 15) hx hb dX3_addRoad_59 (by decide +kernel) ?_
            refine wt_icmp_lt (tgt := 74) hx hb (by omega) (by omega) dX3_addRoad_61 (by decide) (fun c_61_6 => ?_) (fun c_61_6 => ?_)
            · refine lv_aload_n hx hb dX3_addRoad_74 rfl (lv_at hl 0 rfl) ?_
              refine va_get (D := (dC, dI)) (ci := 3) (v := .ref hm) (C := RX3) (T := TX3) (N := 7) hx hb hts inX3 hown hK hP 0 rfl rfl 0 (by decide) (hts (.fieldLink RX3 12 "WarTable" "map" "LWarTable$RoadMap;") (List.mem_of_getElem? (i := 6) rfl)) (fun _ h9 => h9) rfl dX3_addRoad_75 ?_
              refine lv_iload_n hx hb dX3_addRoad_78 rfl (lv_at hl 1 rfl) ?_
              refine lv_iload_n hx hb dX3_addRoad_79 rfl (lv_at hl 2 rfl) ?_
              refine lv_iload_n hx hb dX3_addRoad_80 rfl (lv_at hl 3 rfl) ?_
              refine wt_mu_go (w1 := [(hm, .inr (0, [.ref pv, .ref up, .int (nI (nr + 1))])), (pv, .inl (cI, 10, .inl (wt_if (z = 0) fp (wt_jn fp a b)))), (up, .inl (cI, 10, .inl (wt_if (z = 0) (wt_jn fu a b) fu)))]) (w2 := [(h, .inr (3, [.ref hm, .ref dp, .ref hu, .ref we, .ref se, .ref hq, .int (nI nt)])), (dp, .inl (cI, 2, .inl fd)), (we, .inl (cI, 20, .inl fw)), (se, .inl (cI, 20, .inl fe)), (hm, .inr (0, [.ref pv, .ref up, .int (nI (nr + 1))])), (pv, .inl (cI, 10, .inl (wt_if (z = 0) fp (wt_jn fp a b)))), (up, .inl (cI, 10, .inl (wt_if (z = 0) (wt_jn fu a b) fu))), (hu, .inr (2, [.ref sd, .ref tw, .ref st, .ref od, .int (nI cn)])), (sd, .inl (cI, 12, .inl fs)), (tw, .inl (cI, 264, .inl ft)), (st, .inl (cI, 264, .inl ff)), (od, .inl (cI, 264, .inl fo)), (hq, .inr (1, [.ref rt, .ref rv, .int (nI rc)])), (rt, .inl (cI, 512, .inl gt)), (rv, .inl (cI, 512, .inl gw))]) (wr := [(h, .inr (3, [.ref hm, .ref dp, .ref hu, .ref we, .ref se, .ref hq, .int (nI nt)])), (dp, .inl (cI, 2, .inl fd)), (we, .inl (cI, 20, .inl fw)), (se, .inl (cI, 20, .inl fe)), (hu, .inr (2, [.ref sd, .ref tw, .ref st, .ref od, .int (nI cn)])), (sd, .inl (cI, 12, .inl fs)), (tw, .inl (cI, 264, .inl ft)), (st, .inl (cI, 264, .inl ff)), (od, .inl (cI, 264, .inl fo)), (hq, .inr (1, [.ref rt, .ref rv, .int (nI rc)])), (rt, .inl (cI, 512, .inl gt)), (rv, .inl (cI, 512, .inl gw))]) (va_runV (As := [.int (nI a), .int (nI b), .int z]) (rest := []) ⟨hx, hb, hml, hown, hts⟩ (k_X0_join l dC dI cI hm pv up fp fu nr a b z s.heap.size (by omega) (by omega)) (cwV 3 hts gX3_addRoad_X0_join rfl rfl rfl (by decide +kernel) ⟨Nat.le_of_ble_eq_true rfl, Nat.le_of_ble_eq_true rfl⟩) (wt_PVM (C := RX0) (T := TX0) (N := 3) (ci := 0) (q0 := 4) hK hP hN hD rfl rfl [4, 5, 6] rfl rfl) rfl rfl hl.1 rfl (lv_room (Nat.le_of_ble_eq_true rfl)) dX3_addRoad_81 ⟨Nat.zero_le _, Nat.zero_le _⟩) hP hD hS hA [4, 5, 6] [0, 1, 2, 3, 7, 8, 9, 10, 11, 12, 13, 14] rfl rfl rfl rfl (by decide) rfl [0, 1, 2, 3, 12, 13, 14, 4, 5, 6, 7, 8, 9, 10, 11] rfl rfl (fun H locs hP hD hS hz9 => ?_)
              refine W.eq (g2 := F0 m 84 ls []) rfl ?_
              refine lv_aload_n hx hb dX3_addRoad_84 rfl (lv_at hl 0 rfl) ?_
              refine va_get (D := (dC, dI)) (ci := 3) (v := .ref hm) (C := RX3) (T := TX3) (N := 7) hx hb hts inX3 hown hK hP 0 rfl rfl 0 (by decide) (hts (.fieldLink RX3 12 "WarTable" "map" "LWarTable$RoadMap;") (List.mem_of_getElem? (i := 6) rfl)) (fun _ h9 => h9) rfl dX3_addRoad_85 ?_
              refine wt_ro_go (va_runV (As := []) (rest := []) ⟨hx, hb, hml, hown, hts⟩ (k_X0_roads l dC dI cI hm pv up (wt_if (z = 0) fp (wt_jn fp a b)) (wt_if (z = 0) (wt_jn fu a b) fu) (nr + 1)) (cwV 0 hts gX3_addRoad_X0_roads rfl rfl rfl (by decide +kernel) ⟨Nat.le_of_ble_eq_true rfl, Nat.le_of_ble_eq_true rfl⟩) (wt_PV (C := RX0) (T := TX0) (N := 3) (ci := 0) (q0 := 4) hK hP hN rfl rfl [4, 5, 6] rfl) rfl rfl hl.1 rfl (lv_room (Nat.le_of_ble_eq_true rfl)) dX3_addRoad_88 ⟨Nat.zero_le _, Nat.zero_le _⟩) ?_
              exact wt_miret hx hb hr rfl hP hS dX3_addRoad_91 hlocks
            · exfalso; omega
      · exfalso; omega
set_option maxHeartbeats 4000000 in
set_option maxRecDepth 100000 in
theorem k_X3_addRoadF1 (l : Launch) (hfl : l.stackTraces = false) (dC : Nat → ClassId) (dI : Nat → Nat → Nat) (cI : ClassId) (h : Nat) (dp : Nat) (we : Nat) (se : Nat) (fd : Nat → Int32) (fw : Nat → Int32) (fe : Nat → Int32) (nt : Nat) (hm : Nat) (pv : Nat) (up : Nat) (fp : Nat → Int32) (fu : Nat → Int32) (nr : Nat) (hu : Nat) (sd : Nat) (tw : Nat) (st : Nat) (od : Nat) (fs : Nat → Int32) (ft : Nat → Int32) (ff : Nat → Int32) (fo : Nat → Int32) (cn : Nat) (hq : Nat) (rt : Nat) (rv : Nat) (gt : Nat → Int32) (gw : Nat → Int32) (rc : Nat) (x : Int32) (y : Int32) (z : Int32) (hn9 : ¬ vp_in x 10 ∨ ¬ vp_in y 10 ∨ x = y) : vx_Met l yX3_addRoad wsX3_addRoad ({ frames := 6, cells := 1, slots := 6, locals := 90 }) (va_Pc [.ref h, .int x, .int y, .int z] (fun U => wt_pre (dC, dI) cI [(h, .inr (3, [.ref hm, .ref dp, .ref hu, .ref we, .ref se, .ref hq, .int (nI nt)])), (dp, .inl (cI, 2, .inl fd)), (we, .inl (cI, 20, .inl fw)), (se, .inl (cI, 20, .inl fe)), (hm, .inr (0, [.ref pv, .ref up, .int (nI nr)])), (pv, .inl (cI, 10, .inl fp)), (up, .inl (cI, 10, .inl fu)), (hu, .inr (2, [.ref sd, .ref tw, .ref st, .ref od, .int (nI cn)])), (sd, .inl (cI, 12, .inl fs)), (tw, .inl (cI, 264, .inl ft)), (st, .inl (cI, 264, .inl ff)), (od, .inl (cI, 264, .inl fo)), (hq, .inr (1, [.ref rt, .ref rv, .int (nI rc)])), (rt, .inl (cI, 512, .inl gt)), (rv, .inl (cI, 512, .inl gw))] U ∧ wt_xe U)) wt_nv (wt_xc "java/lang/IllegalArgumentException") 1 6 wt_no := by
  refine vx_ofW (cc := cX3_addRoad) (maxL := 4) (ret := (some .int)) (by decide) rfl ?_
  intro p e s m args below meth c s₁ B hml hta hv
  obtain ⟨rfl, ⟨hP, hK, hN⟩, hX⟩ := hv
  have hx := B.exec
  have hb := B.bytes
  have hr := B.returns
  have hts := atoms_spec (ws := wsX3_addRoad) B.pre
  have hown : s.vm.findClass RX3 = some m.cls := findClass_of_methodNamed B.named
  have hlocks := B.notSynchronized
  have inX0 : ∀ w ∈ wsX00, w ∈ wsX3_addRoad := wt_in [43, 44, 45] (by decide +kernel)
  have inX3 : ∀ w ∈ wsX30, w ∈ wsX3_addRoad := wt_in [36, 37, 38, 39, 40, 41, 42] (by decide +kernel)
  have hl := lv_entry ([.ref h, .int x, .int y, .int z]) (n := 4) (Nat.le_of_ble_eq_true rfl)
  rw [lg_entry_eq]
  generalize (lg_sl ([.ref h, .int x, .int y, .int z]) ++ List.replicate (4 - (lg_sl ([.ref h, .int x, .int y, .int z])).length) Slot.unset).toArray = ls at hl ⊢
  have hl : lv_has ls 4 [(0, .ref h), (1, .int x), (2, .int y), (3, .int z)] := hl
  refine lv_iload_n hx hb dX3_addRoad_0 rfl (lv_at hl 1 rfl) ?_
  refine lv_bipush (v := nI 10) hx hb dX3_addRoad_1 (by decide +kernel) ?_
  refine wt_ro_go (va_runS (As := [.int x, .int (nI 10)]) (rest := []) ⟨hx, hb, hml, hown, hts⟩ (k_X3_belowI l x 10 (by omega)) (va_cwS 2 hts gX3_addRoad_X3_below rfl rfl rfl (by decide +kernel) ⟨Nat.le_of_ble_eq_true rfl, Nat.le_of_ble_eq_true rfl⟩) wt_PS rfl rfl hl.1 rfl (lv_room (Nat.le_of_ble_eq_true rfl)) dX3_addRoad_3 ⟨Nat.zero_le _, Nat.zero_le _⟩) ?_
  refine wt_if_eqB (tgt := 23) hx hb dX3_addRoad_6 (by decide) (fun c_6_1 => ?_) (fun c_6_1 => ?_)
  · exact wt_throw hx hb hfl (cls := "java/lang/IllegalArgumentException") (ik := 48) (is := 50) (ic := 52) hown (by decide +kernel) (hts (.classLink RX3 48 "java/lang/IllegalArgumentException") (List.mem_of_getElem? (i := 1) rfl)) (hts (.initialized "java/lang/IllegalArgumentException") (List.mem_of_getElem? (i := 2) rfl)) hX (List.mem_of_getElem? (i := 0) rfl) (wt_hat hX (List.mem_of_getElem? (i := 0) rfl) wt_xg1 (fun w h9 => hts w (List.mem_cons_of_mem _ (List.mem_append_left _ (List.mem_append_right _ (h9)))))) wt_xo1 rfl (by rw [hml]; exact hl.1) dX3_addRoad_23 dX3_addRoad_26 dX3_addRoad_27 dX3_addRoad_29 dX3_addRoad_32 hta (Nat.le_of_ble_eq_true rfl) (Nat.le_of_ble_eq_true rfl) (Nat.le_of_ble_eq_true rfl) (Nat.le_of_ble_eq_true rfl) hlocks
  · refine lv_iload_n hx hb dX3_addRoad_9 rfl (lv_at hl 2 rfl) ?_
    refine lv_bipush (v := nI 10) hx hb dX3_addRoad_10 (by decide +kernel) ?_
    refine wt_ro_go (va_runS (As := [.int y, .int (nI 10)]) (rest := []) ⟨hx, hb, hml, hown, hts⟩ (k_X3_belowI l y 10 (by omega)) (va_cwS 2 hts gX3_addRoad_X3_below rfl rfl rfl (by decide +kernel) ⟨Nat.le_of_ble_eq_true rfl, Nat.le_of_ble_eq_true rfl⟩) wt_PS rfl rfl hl.1 rfl (lv_room (Nat.le_of_ble_eq_true rfl)) dX3_addRoad_12 ⟨Nat.zero_le _, Nat.zero_le _⟩) ?_
    refine wt_if_eqB (tgt := 23) hx hb dX3_addRoad_15 (by decide) (fun c_15_2 => ?_) (fun c_15_2 => ?_)
    · exact wt_throw hx hb hfl (cls := "java/lang/IllegalArgumentException") (ik := 48) (is := 50) (ic := 52) hown (by decide +kernel) (hts (.classLink RX3 48 "java/lang/IllegalArgumentException") (List.mem_of_getElem? (i := 1) rfl)) (hts (.initialized "java/lang/IllegalArgumentException") (List.mem_of_getElem? (i := 2) rfl)) hX (List.mem_of_getElem? (i := 0) rfl) (wt_hat hX (List.mem_of_getElem? (i := 0) rfl) wt_xg1 (fun w h9 => hts w (List.mem_cons_of_mem _ (List.mem_append_left _ (List.mem_append_right _ (h9)))))) wt_xo1 rfl (by rw [hml]; exact hl.1) dX3_addRoad_23 dX3_addRoad_26 dX3_addRoad_27 dX3_addRoad_29 dX3_addRoad_32 hta (Nat.le_of_ble_eq_true rfl) (Nat.le_of_ble_eq_true rfl) (Nat.le_of_ble_eq_true rfl) (Nat.le_of_ble_eq_true rfl) hlocks
    · refine lv_iload_n hx hb dX3_addRoad_18 rfl (lv_at hl 1 rfl) ?_
      refine lv_iload_n hx hb dX3_addRoad_19 rfl (lv_at hl 2 rfl) ?_
      refine wt_icmp_neI (tgt := 33) hx hb dX3_addRoad_20 (by decide) (fun c_20_3 => ?_) (fun c_20_3 => ?_)
      · exfalso; exact hn9.elim (fun z => z (by assumption)) (fun z => z.elim (fun z => z (by assumption)) (fun z => absurd z (by assumption)))
      · exact wt_throw hx hb hfl (cls := "java/lang/IllegalArgumentException") (ik := 48) (is := 50) (ic := 52) hown (by decide +kernel) (hts (.classLink RX3 48 "java/lang/IllegalArgumentException") (List.mem_of_getElem? (i := 1) rfl)) (hts (.initialized "java/lang/IllegalArgumentException") (List.mem_of_getElem? (i := 2) rfl)) hX (List.mem_of_getElem? (i := 0) rfl) (wt_hat hX (List.mem_of_getElem? (i := 0) rfl) wt_xg1 (fun w h9 => hts w (List.mem_cons_of_mem _ (List.mem_append_left _ (List.mem_append_right _ (h9)))))) wt_xo1 rfl (by rw [hml]; exact hl.1) dX3_addRoad_23 dX3_addRoad_26 dX3_addRoad_27 dX3_addRoad_29 dX3_addRoad_32 hta (Nat.le_of_ble_eq_true rfl) (Nat.le_of_ble_eq_true rfl) (Nat.le_of_ble_eq_true rfl) (Nat.le_of_ble_eq_true rfl) hlocks
set_option maxHeartbeats 4000000 in
set_option maxRecDepth 100000 in
theorem k_X3_addRoadF2 (l : Launch) (hfl : l.stackTraces = false) (dC : Nat → ClassId) (dI : Nat → Nat → Nat) (cI : ClassId) (h : Nat) (dp : Nat) (we : Nat) (se : Nat) (fd : Nat → Int32) (fw : Nat → Int32) (fe : Nat → Int32) (nt : Nat) (hm : Nat) (pv : Nat) (up : Nat) (fp : Nat → Int32) (fu : Nat → Int32) (nr : Nat) (hu : Nat) (sd : Nat) (tw : Nat) (st : Nat) (od : Nat) (fs : Nat → Int32) (ft : Nat → Int32) (ff : Nat → Int32) (fo : Nat → Int32) (cn : Nat) (hq : Nat) (rt : Nat) (rv : Nat) (gt : Nat → Int32) (gw : Nat → Int32) (rc : Nat) (a : Nat) (b : Nat) (z : Int32) (ha : a < 10) (hb2 : b < 10) (hab : a ≠ b) (hnt : nt ≤ 20) (hnr : nr ≤ 15) (hn9 : 0 < nt ∨ wt_has (wt_nxt fp fu (nI a) (nI 0)) (nI b) ∨ nr = 15) : vx_Met l yX3_addRoad wsX3_addRoad ({ frames := 6, cells := 1, slots := 6, locals := 90 }) (va_Pc [.ref h, .int (nI a), .int (nI b), .int z] (fun U => wt_pre (dC, dI) cI [(h, .inr (3, [.ref hm, .ref dp, .ref hu, .ref we, .ref se, .ref hq, .int (nI nt)])), (dp, .inl (cI, 2, .inl fd)), (we, .inl (cI, 20, .inl fw)), (se, .inl (cI, 20, .inl fe)), (hm, .inr (0, [.ref pv, .ref up, .int (nI nr)])), (pv, .inl (cI, 10, .inl fp)), (up, .inl (cI, 10, .inl fu)), (hu, .inr (2, [.ref sd, .ref tw, .ref st, .ref od, .int (nI cn)])), (sd, .inl (cI, 12, .inl fs)), (tw, .inl (cI, 264, .inl ft)), (st, .inl (cI, 264, .inl ff)), (od, .inl (cI, 264, .inl fo)), (hq, .inr (1, [.ref rt, .ref rv, .int (nI rc)])), (rt, .inl (cI, 512, .inl gt)), (rv, .inl (cI, 512, .inl gw))] U ∧ wt_xe U)) wt_nv (wt_xc "java/lang/IllegalStateException") 1 6 wt_no := by
  refine vx_ofW (cc := cX3_addRoad) (maxL := 4) (ret := (some .int)) (by decide) rfl ?_
  intro p e s m args below meth c s₁ B hml hta hv
  obtain ⟨rfl, ⟨hP, hK, hN⟩, hX⟩ := hv
  have hx := B.exec
  have hb := B.bytes
  have hr := B.returns
  have hts := atoms_spec (ws := wsX3_addRoad) B.pre
  have hown : s.vm.findClass RX3 = some m.cls := findClass_of_methodNamed B.named
  have hlocks := B.notSynchronized
  have inX0 : ∀ w ∈ wsX00, w ∈ wsX3_addRoad := wt_in [43, 44, 45] (by decide +kernel)
  have inX3 : ∀ w ∈ wsX30, w ∈ wsX3_addRoad := wt_in [36, 37, 38, 39, 40, 41, 42] (by decide +kernel)
  have hl := lv_entry ([.ref h, .int (nI a), .int (nI b), .int z]) (n := 4) (Nat.le_of_ble_eq_true rfl)
  rw [lg_entry_eq]
  generalize (lg_sl ([.ref h, .int (nI a), .int (nI b), .int z]) ++ List.replicate (4 - (lg_sl ([.ref h, .int (nI a), .int (nI b), .int z])).length) Slot.unset).toArray = ls at hl ⊢
  have hl : lv_has ls 4 [(0, .ref h), (1, .int (nI a)), (2, .int (nI b)), (3, .int z)] := hl
  refine lv_iload_n hx hb dX3_addRoad_0 rfl (lv_at hl 1 rfl) ?_
  refine lv_bipush (v := nI 10) hx hb dX3_addRoad_1 (by decide +kernel) ?_
  refine wt_ro_go (va_runS (As := [.int (nI a), .int (nI 10)]) (rest := []) ⟨hx, hb, hml, hown, hts⟩ (k_X3_belowN l a 10 (by omega) (by omega)) (va_cwS 2 hts gX3_addRoad_X3_below rfl rfl rfl (by decide +kernel) ⟨Nat.le_of_ble_eq_true rfl, Nat.le_of_ble_eq_true rfl⟩) wt_PS rfl rfl hl.1 rfl (lv_room (Nat.le_of_ble_eq_true rfl)) dX3_addRoad_3 ⟨Nat.zero_le _, Nat.zero_le _⟩) ?_
  refine wt_if_eqB (tgt := 23) hx hb dX3_addRoad_6 (by decide) (fun c_6_1 => ?_) (fun c_6_1 => ?_)
  · exfalso; omega
  · refine lv_iload_n hx hb dX3_addRoad_9 rfl (lv_at hl 2 rfl) ?_
    refine lv_bipush (v := nI 10) hx hb dX3_addRoad_10 (by decide +kernel) ?_
    refine wt_ro_go (va_runS (As := [.int (nI b), .int (nI 10)]) (rest := []) ⟨hx, hb, hml, hown, hts⟩ (k_X3_belowN l b 10 (by omega) (by omega)) (va_cwS 2 hts gX3_addRoad_X3_below rfl rfl rfl (by decide +kernel) ⟨Nat.le_of_ble_eq_true rfl, Nat.le_of_ble_eq_true rfl⟩) wt_PS rfl rfl hl.1 rfl (lv_room (Nat.le_of_ble_eq_true rfl)) dX3_addRoad_12 ⟨Nat.zero_le _, Nat.zero_le _⟩) ?_
    refine wt_if_eqB (tgt := 23) hx hb dX3_addRoad_15 (by decide) (fun c_15_2 => ?_) (fun c_15_2 => ?_)
    · exfalso; omega
    · refine lv_iload_n hx hb dX3_addRoad_18 rfl (lv_at hl 1 rfl) ?_
      refine lv_iload_n hx hb dX3_addRoad_19 rfl (lv_at hl 2 rfl) ?_
      refine wt_icmp_ne (tgt := 33) hx hb (by omega) (by omega) dX3_addRoad_20 (by decide) (fun c_20_3 => ?_) (fun c_20_3 => ?_)
      · refine lv_aload_n hx hb dX3_addRoad_33 rfl (lv_at hl 0 rfl) ?_
        refine va_get (D := (dC, dI)) (ci := 3) (v := .int (nI nt)) (C := RX3) (T := TX3) (N := 7) hx hb hts inX3 hown hK hP 0 rfl rfl 6 (by decide) (hts (.fieldLink RX3 40 "WarTable" "turns" "I") (List.mem_of_getElem? (i := 5) rfl)) (fun _ h9 => h9) rfl dX3_addRoad_34 ?_
        refine wt_if_gt (tgt := 64) hx hb (by omega) dX3_addRoad_37 (by decide) (fun c_37_4 => ?_) (fun c_37_4 => ?_)
        · exact wt_throw hx hb hfl (cls := "java/lang/IllegalStateException") (ik := 62) (is := 64) (ic := 66) hown (by decide +kernel) (hts (.classLink RX3 62 "java/lang/IllegalStateException") (List.mem_of_getElem? (i := 3) rfl)) (hts (.initialized "java/lang/IllegalStateException") (List.mem_of_getElem? (i := 4) rfl)) hX (List.mem_of_getElem? (i := 1) rfl) (wt_hat hX (List.mem_of_getElem? (i := 1) rfl) wt_xg2 (fun w h9 => hts w (List.mem_cons_of_mem _ (List.mem_append_right _ (h9))))) wt_xo2 rfl (by rw [hml]; exact hl.1) dX3_addRoad_64 dX3_addRoad_67 dX3_addRoad_68 dX3_addRoad_70 dX3_addRoad_73 hta (Nat.le_of_ble_eq_true rfl) (Nat.le_of_ble_eq_true rfl) (Nat.le_of_ble_eq_true rfl) (Nat.le_of_ble_eq_true rfl) hlocks
        · refine lv_aload_n hx hb dX3_addRoad_40 rfl (lv_at hl 0 rfl) ?_
          refine va_get (D := (dC, dI)) (ci := 3) (v := .ref hm) (C := RX3) (T := TX3) (N := 7) hx hb hts inX3 hown hK hP 0 rfl rfl 0 (by decide) (hts (.fieldLink RX3 12 "WarTable" "map" "LWarTable$RoadMap;") (List.mem_of_getElem? (i := 6) rfl)) (fun _ h9 => h9) rfl dX3_addRoad_41 ?_
          refine lv_iload_n hx hb dX3_addRoad_44 rfl (lv_at hl 1 rfl) ?_
          refine lv_iload_n hx hb dX3_addRoad_45 rfl (lv_at hl 2 rfl) ?_
          refine wt_ro_go (va_runV (As := [.int (nI a), .int (nI b)]) (rest := []) ⟨hx, hb, hml, hown, hts⟩ (k_X0_joins l dC dI cI hm pv up fp fu nr (nI a) (nI b)) (cwV 2 hts gX3_addRoad_X0_joins rfl rfl rfl (by decide +kernel) ⟨Nat.le_of_ble_eq_true rfl, Nat.le_of_ble_eq_true rfl⟩) (wt_PV (C := RX0) (T := TX0) (N := 3) (ci := 0) (q0 := 4) hK hP hN rfl rfl [4, 5, 6] rfl) rfl rfl hl.1 rfl (lv_room (Nat.le_of_ble_eq_true rfl)) dX3_addRoad_46 ⟨Nat.zero_le _, Nat.zero_le _⟩) ?_
          refine wt_if_neB (tgt := 64) hx hb dX3_addRoad_49 (by decide) (fun c_49_5 => ?_) (fun c_49_5 => ?_)
          · exact wt_throw hx hb hfl (cls := "java/lang/IllegalStateException") (ik := 62) (is := 64) (ic := 66) hown (by decide +kernel) (hts (.classLink RX3 62 "java/lang/IllegalStateException") (List.mem_of_getElem? (i := 3) rfl)) (hts (.initialized "java/lang/IllegalStateException") (List.mem_of_getElem? (i := 4) rfl)) hX (List.mem_of_getElem? (i := 1) rfl) (wt_hat hX (List.mem_of_getElem? (i := 1) rfl) wt_xg2 (fun w h9 => hts w (List.mem_cons_of_mem _ (List.mem_append_right _ (h9))))) wt_xo2 rfl (by rw [hml]; exact hl.1) dX3_addRoad_64 dX3_addRoad_67 dX3_addRoad_68 dX3_addRoad_70 dX3_addRoad_73 hta (Nat.le_of_ble_eq_true rfl) (Nat.le_of_ble_eq_true rfl) (Nat.le_of_ble_eq_true rfl) (Nat.le_of_ble_eq_true rfl) hlocks
          · refine lv_aload_n hx hb dX3_addRoad_52 rfl (lv_at hl 0 rfl) ?_
            refine va_get (D := (dC, dI)) (ci := 3) (v := .ref hm) (C := RX3) (T := TX3) (N := 7) hx hb hts inX3 hown hK hP 0 rfl rfl 0 (by decide) (hts (.fieldLink RX3 12 "WarTable" "map" "LWarTable$RoadMap;") (List.mem_of_getElem? (i := 6) rfl)) (fun _ h9 => h9) rfl dX3_addRoad_53 ?_
            refine wt_ro_go (va_runV (As := []) (rest := []) ⟨hx, hb, hml, hown, hts⟩ (k_X0_roads l dC dI cI hm pv up fp fu nr) (cwV 0 hts gX3_addRoad_X0_roads rfl rfl rfl (by decide +kernel) ⟨Nat.le_of_ble_eq_true rfl, Nat.le_of_ble_eq_true rfl⟩) (wt_PV (C := RX0) (T := TX0) (N := 3) (ci := 0) (q0 := 4) hK hP hN rfl rfl [4, 5, 6] rfl) rfl rfl hl.1 rfl (lv_room (Nat.le_of_ble_eq_true rfl)) dX3_addRoad_56 ⟨Nat.zero_le _, Nat.zero_le _⟩) ?_
            refine lv_bipush (v := nI 15) hx hb dX3_addRoad_59 (by decide +kernel) ?_
            refine wt_icmp_lt (tgt := 74) hx hb (by omega) (by omega) dX3_addRoad_61 (by decide) (fun c_61_6 => ?_) (fun c_61_6 => ?_)
            · exfalso; exact hn9.elim (fun z => by omega) (fun z => z.elim (fun z => absurd z c_49_5) (fun z => by omega))
            · exact wt_throw hx hb hfl (cls := "java/lang/IllegalStateException") (ik := 62) (is := 64) (ic := 66) hown (by decide +kernel) (hts (.classLink RX3 62 "java/lang/IllegalStateException") (List.mem_of_getElem? (i := 3) rfl)) (hts (.initialized "java/lang/IllegalStateException") (List.mem_of_getElem? (i := 4) rfl)) hX (List.mem_of_getElem? (i := 1) rfl) (wt_hat hX (List.mem_of_getElem? (i := 1) rfl) wt_xg2 (fun w h9 => hts w (List.mem_cons_of_mem _ (List.mem_append_right _ (h9))))) wt_xo2 rfl (by rw [hml]; exact hl.1) dX3_addRoad_64 dX3_addRoad_67 dX3_addRoad_68 dX3_addRoad_70 dX3_addRoad_73 hta (Nat.le_of_ble_eq_true rfl) (Nat.le_of_ble_eq_true rfl) (Nat.le_of_ble_eq_true rfl) (Nat.le_of_ble_eq_true rfl) hlocks
      · exfalso; omega
set_option maxHeartbeats 4000000 in
set_option maxRecDepth 100000 in
theorem k_X3_setDepotS (l : Launch) (dC : Nat → ClassId) (dI : Nat → Nat → Nat) (cI : ClassId) (h : Nat) (dp : Nat) (we : Nat) (se : Nat) (fd : Nat → Int32) (fw : Nat → Int32) (fe : Nat → Int32) (nt : Nat) (hm : Nat) (pv : Nat) (up : Nat) (fp : Nat → Int32) (fu : Nat → Int32) (nr : Nat) (hu : Nat) (sd : Nat) (tw : Nat) (st : Nat) (od : Nat) (fs : Nat → Int32) (ft : Nat → Int32) (ff : Nat → Int32) (fo : Nat → Int32) (cn : Nat) (hq : Nat) (rt : Nat) (rv : Nat) (gt : Nat → Int32) (gw : Nat → Int32) (rc : Nat) (d : Nat) (t : Nat) (sz : Nat) (hd2 : d < 2) (ht : t < 10) (hn0 : nt = 0) : Met l yX3_setDepot wsX3_setDepot ({ frames := 6, cells := 0, slots := 0, locals := 90 }) (va_Pc [.ref h, .int (nI d), .int (nI t)] (wt_pm (dC, dI) cI [(h, .inr (3, [.ref hm, .ref dp, .ref hu, .ref we, .ref se, .ref hq, .int (nI nt)])), (dp, .inl (cI, 2, .inl fd)), (we, .inl (cI, 20, .inl fw)), (se, .inl (cI, 20, .inl fe)), (hm, .inr (0, [.ref pv, .ref up, .int (nI nr)])), (pv, .inl (cI, 10, .inl fp)), (up, .inl (cI, 10, .inl fu)), (hu, .inr (2, [.ref sd, .ref tw, .ref st, .ref od, .int (nI cn)])), (sd, .inl (cI, 12, .inl fs)), (tw, .inl (cI, 264, .inl ft)), (st, .inl (cI, 264, .inl ff)), (od, .inl (cI, 264, .inl fo)), (hq, .inr (1, [.ref rt, .ref rv, .int (nI rc)])), (rt, .inl (cI, 512, .inl gt)), (rv, .inl (cI, 512, .inl gw))] sz)) (wt_mu (some (.int (fd d))) (dC, dI) [(h, .inr (3, [.ref hm, .ref dp, .ref hu, .ref we, .ref se, .ref hq, .int (nI nt)])), (dp, .inl (cI, 2, .inl (upd fd d (nI t)))), (we, .inl (cI, 20, .inl fw)), (se, .inl (cI, 20, .inl fe)), (hm, .inr (0, [.ref pv, .ref up, .int (nI nr)])), (pv, .inl (cI, 10, .inl fp)), (up, .inl (cI, 10, .inl fu)), (hu, .inr (2, [.ref sd, .ref tw, .ref st, .ref od, .int (nI cn)])), (sd, .inl (cI, 12, .inl fs)), (tw, .inl (cI, 264, .inl ft)), (st, .inl (cI, 264, .inl ff)), (od, .inl (cI, 264, .inl fo)), (hq, .inr (1, [.ref rt, .ref rv, .int (nI rc)])), (rt, .inl (cI, 512, .inl gt)), (rv, .inl (cI, 512, .inl gw))] (va_A [(h, .inr (3, [.ref hm, .ref dp, .ref hu, .ref we, .ref se, .ref hq, .int (nI nt)])), (dp, .inl (cI, 2, .inl fd)), (we, .inl (cI, 20, .inl fw)), (se, .inl (cI, 20, .inl fe)), (hm, .inr (0, [.ref pv, .ref up, .int (nI nr)])), (pv, .inl (cI, 10, .inl fp)), (up, .inl (cI, 10, .inl fu)), (hu, .inr (2, [.ref sd, .ref tw, .ref st, .ref od, .int (nI cn)])), (sd, .inl (cI, 12, .inl fs)), (tw, .inl (cI, 264, .inl ft)), (st, .inl (cI, 264, .inl ff)), (od, .inl (cI, 264, .inl fo)), (hq, .inr (1, [.ref rt, .ref rv, .int (nI rc)])), (rt, .inl (cI, 512, .inl gt)), (rv, .inl (cI, 512, .inl gw))] sz)) 0 0 (va_A [(h, .inr (3, [.ref hm, .ref dp, .ref hu, .ref we, .ref se, .ref hq, .int (nI nt)])), (dp, .inl (cI, 2, .inl fd)), (we, .inl (cI, 20, .inl fw)), (se, .inl (cI, 20, .inl fe)), (hm, .inr (0, [.ref pv, .ref up, .int (nI nr)])), (pv, .inl (cI, 10, .inl fp)), (up, .inl (cI, 10, .inl fu)), (hu, .inr (2, [.ref sd, .ref tw, .ref st, .ref od, .int (nI cn)])), (sd, .inl (cI, 12, .inl fs)), (tw, .inl (cI, 264, .inl ft)), (st, .inl (cI, 264, .inl ff)), (od, .inl (cI, 264, .inl fo)), (hq, .inr (1, [.ref rt, .ref rv, .int (nI rc)])), (rt, .inl (cI, 512, .inl gt)), (rv, .inl (cI, 512, .inl gw))] sz) := by
  refine Met.ofW (cc := cX3_setDepot) (maxL := 4) (ret := (some .int)) (by decide) rfl ?_
  intro p e s m args below meth c s₁ B hml hv
  obtain ⟨rfl, hsz, ⟨hP, hK, hN⟩, hD0⟩ := hv
  have hx := B.exec
  have hb := B.bytes
  have hr := B.returns
  have hts := atoms_spec (ws := wsX3_setDepot) B.pre
  have hown : s.vm.findClass RX3 = some m.cls := findClass_of_methodNamed B.named
  have hlocks := B.notSynchronized
  subst hsz
  have hD := hD0.self (sz := s.heap.size)
  generalize hAe : va_A [(h, .inr (3, [.ref hm, .ref dp, .ref hu, .ref we, .ref se, .ref hq, .int (nI nt)])), (dp, .inl (cI, 2, .inl fd)), (we, .inl (cI, 20, .inl fw)), (se, .inl (cI, 20, .inl fe)), (hm, .inr (0, [.ref pv, .ref up, .int (nI nr)])), (pv, .inl (cI, 10, .inl fp)), (up, .inl (cI, 10, .inl fu)), (hu, .inr (2, [.ref sd, .ref tw, .ref st, .ref od, .int (nI cn)])), (sd, .inl (cI, 12, .inl fs)), (tw, .inl (cI, 264, .inl ft)), (st, .inl (cI, 264, .inl ff)), (od, .inl (cI, 264, .inl fo)), (hq, .inr (1, [.ref rt, .ref rv, .int (nI rc)])), (rt, .inl (cI, 512, .inl gt)), (rv, .inl (cI, 512, .inl gw))] s.heap.size = A at hD ⊢
  have hA : ∀ q : Nat, s.heap.size ≤ q → A q := fun q h => by rw [← hAe]; exact Or.inr h
  have hS : va_S A s.heap s.heap [] := va_S.rf
  have inX3 : ∀ w ∈ wsX30, w ∈ wsX3_setDepot := wt_in [11, 12, 13, 14, 15, 16, 17] (by decide +kernel)
  have hl := lv_entry ([.ref h, .int (nI d), .int (nI t)]) (n := 4) (Nat.le_of_ble_eq_true rfl)
  rw [lg_entry_eq]
  generalize (lg_sl ([.ref h, .int (nI d), .int (nI t)]) ++ List.replicate (4 - (lg_sl ([.ref h, .int (nI d), .int (nI t)])).length) Slot.unset).toArray = ls at hl ⊢
  have hl : lv_has ls 4 [(0, .ref h), (1, .int (nI d)), (2, .int (nI t))] := hl
  refine lv_iload_n hx hb dX3_setDepot_0 rfl (lv_at hl 1 rfl) ?_
  refine lv_iconst (v := nI 2) hx hb dX3_setDepot_1 (by decide +kernel) ?_
  refine wt_ro_go (va_runS (As := [.int (nI d), .int (nI 2)]) (rest := []) ⟨hx, hb, hml, hown, hts⟩ (k_X3_belowN l d 2 (by omega) (by omega)) (va_cwS 2 hts gX3_setDepot_X3_below rfl rfl rfl (by decide +kernel) ⟨Nat.le_of_ble_eq_true rfl, Nat.le_of_ble_eq_true rfl⟩) wt_PS rfl rfl hl.1 rfl (lv_room (Nat.le_of_ble_eq_true rfl)) dX3_setDepot_2 ⟨Nat.zero_le _, Nat.zero_le _⟩) ?_
  refine wt_if_eqB (tgt := 17) hx hb dX3_setDepot_5 (by decide) (fun c_5_1 => ?_) (fun c_5_1 => ?_)
  · exfalso; omega
  · refine lv_iload_n hx hb dX3_setDepot_8 rfl (lv_at hl 2 rfl) ?_
    refine lv_bipush (v := nI 10) hx hb dX3_setDepot_9 (by decide +kernel) ?_
    refine wt_ro_go (va_runS (As := [.int (nI t), .int (nI 10)]) (rest := []) ⟨hx, hb, hml, hown, hts⟩ (k_X3_belowN l t 10 (by omega) (by omega)) (va_cwS 2 hts gX3_setDepot_X3_below rfl rfl rfl (by decide +kernel) ⟨Nat.le_of_ble_eq_true rfl, Nat.le_of_ble_eq_true rfl⟩) wt_PS rfl rfl hl.1 rfl (lv_room (Nat.le_of_ble_eq_true rfl)) dX3_setDepot_11 ⟨Nat.zero_le _, Nat.zero_le _⟩) ?_
    refine wt_if_neB (tgt := 27) hx hb dX3_setDepot_14 (by decide) (fun c_14_2 => ?_) (fun c_14_2 => ?_)
    · refine lv_aload_n hx hb dX3_setDepot_27 rfl (lv_at hl 0 rfl) ?_
      refine va_get (D := (dC, dI)) (ci := 3) (v := .int (nI nt)) (C := RX3) (T := TX3) (N := 7) hx hb hts inX3 hown hK hP 0 rfl rfl 6 (by decide) (hts (.fieldLink RX3 40 "WarTable" "turns" "I") (List.mem_of_getElem? (i := 5) rfl)) (fun _ h9 => h9) rfl dX3_setDepot_28 ?_
      refine wt_if_le (tgt := 44) hx hb (by omega) dX3_setDepot_31 (by decide) (fun c_31_3 => ?_) (fun c_31_3 => ?_)
      · refine lv_aload_n hx hb dX3_setDepot_44 rfl (lv_at hl 0 rfl) ?_
        refine va_get (D := (dC, dI)) (ci := 3) (v := .ref dp) (C := RX3) (T := TX3) (N := 7) hx hb hts inX3 hown hK hP 0 rfl rfl 1 (by decide) (hts (.fieldLink RX3 16 "WarTable" "depots" "[I") (List.mem_of_getElem? (i := 6) rfl)) (fun _ h9 => h9) rfl dX3_setDepot_45 ?_
        refine lv_iload_n hx hb dX3_setDepot_48 rfl (lv_at hl 1 rfl) ?_
        refine wt_iald hx hb hK hP 1 rfl (by omega) (by omega) dX3_setDepot_49 ?_
        refine lv_istore_n (lv' := [(3, .int (fd d)), (0, .ref h), (1, .int (nI d)), (2, .int (nI t))]) hx hb dX3_setDepot_50 rfl hl (by decide) rfl (fun ls hl => ?_)
        refine lv_aload_n hx hb dX3_setDepot_51 rfl (lv_at hl 1 rfl) ?_
        refine va_get (D := (dC, dI)) (ci := 3) (v := .ref dp) (C := RX3) (T := TX3) (N := 7) hx hb hts inX3 hown hK hP 0 rfl rfl 1 (by decide) (hts (.fieldLink RX3 16 "WarTable" "depots" "[I") (List.mem_of_getElem? (i := 6) rfl)) (fun _ h9 => h9) rfl dX3_setDepot_52 ?_
        refine lv_iload_n hx hb dX3_setDepot_55 rfl (lv_at hl 2 rfl) ?_
        refine lv_iload_n hx hb dX3_setDepot_56 rfl (lv_at hl 3 rfl) ?_
        refine wt_iast hx hb hK hP hD hS 1 rfl (by omega) (by omega) dX3_setDepot_57 (fun H locs hP hD hS => ?_)
        have hP : va_P (dC, dI) vwCl [(h, .inr (3, [.ref hm, .ref dp, .ref hu, .ref we, .ref se, .ref hq, .int (nI nt)])), (dp, .inl (cI, 2, .inl (upd fd d (nI t)))), (we, .inl (cI, 20, .inl fw)), (se, .inl (cI, 20, .inl fe)), (hm, .inr (0, [.ref pv, .ref up, .int (nI nr)])), (pv, .inl (cI, 10, .inl fp)), (up, .inl (cI, 10, .inl fu)), (hu, .inr (2, [.ref sd, .ref tw, .ref st, .ref od, .int (nI cn)])), (sd, .inl (cI, 12, .inl fs)), (tw, .inl (cI, 264, .inl ft)), (st, .inl (cI, 264, .inl ff)), (od, .inl (cI, 264, .inl fo)), (hq, .inr (1, [.ref rt, .ref rv, .int (nI rc)])), (rt, .inl (cI, 512, .inl gt)), (rv, .inl (cI, 512, .inl gw))] H := hP
        have hD : va_D A [(h, .inr (3, [.ref hm, .ref dp, .ref hu, .ref we, .ref se, .ref hq, .int (nI nt)])), (dp, .inl (cI, 2, .inl (upd fd d (nI t)))), (we, .inl (cI, 20, .inl fw)), (se, .inl (cI, 20, .inl fe)), (hm, .inr (0, [.ref pv, .ref up, .int (nI nr)])), (pv, .inl (cI, 10, .inl fp)), (up, .inl (cI, 10, .inl fu)), (hu, .inr (2, [.ref sd, .ref tw, .ref st, .ref od, .int (nI cn)])), (sd, .inl (cI, 12, .inl fs)), (tw, .inl (cI, 264, .inl ft)), (st, .inl (cI, 264, .inl ff)), (od, .inl (cI, 264, .inl fo)), (hq, .inr (1, [.ref rt, .ref rv, .int (nI rc)])), (rt, .inl (cI, 512, .inl gt)), (rv, .inl (cI, 512, .inl gw))] := hD
        refine lv_iload_n hx hb dX3_setDepot_58 rfl (lv_at hl 0 rfl) ?_
        exact wt_miret hx hb hr rfl hP hS dX3_setDepot_59 hlocks
      · exfalso; omega
    · exfalso; omega
set_option maxHeartbeats 4000000 in
set_option maxRecDepth 100000 in
theorem k_X3_setDepotF1 (l : Launch) (hfl : l.stackTraces = false) (dC : Nat → ClassId) (dI : Nat → Nat → Nat) (cI : ClassId) (h : Nat) (dp : Nat) (we : Nat) (se : Nat) (fd : Nat → Int32) (fw : Nat → Int32) (fe : Nat → Int32) (nt : Nat) (hm : Nat) (pv : Nat) (up : Nat) (fp : Nat → Int32) (fu : Nat → Int32) (nr : Nat) (hu : Nat) (sd : Nat) (tw : Nat) (st : Nat) (od : Nat) (fs : Nat → Int32) (ft : Nat → Int32) (ff : Nat → Int32) (fo : Nat → Int32) (cn : Nat) (hq : Nat) (rt : Nat) (rv : Nat) (gt : Nat → Int32) (gw : Nat → Int32) (rc : Nat) (x : Int32) (y : Int32) (hn9 : ¬ vp_in x 2 ∨ ¬ vp_in y 10) : vx_Met l yX3_setDepot wsX3_setDepot ({ frames := 6, cells := 1, slots := 6, locals := 90 }) (va_Pc [.ref h, .int x, .int y] (fun U => wt_pre (dC, dI) cI [(h, .inr (3, [.ref hm, .ref dp, .ref hu, .ref we, .ref se, .ref hq, .int (nI nt)])), (dp, .inl (cI, 2, .inl fd)), (we, .inl (cI, 20, .inl fw)), (se, .inl (cI, 20, .inl fe)), (hm, .inr (0, [.ref pv, .ref up, .int (nI nr)])), (pv, .inl (cI, 10, .inl fp)), (up, .inl (cI, 10, .inl fu)), (hu, .inr (2, [.ref sd, .ref tw, .ref st, .ref od, .int (nI cn)])), (sd, .inl (cI, 12, .inl fs)), (tw, .inl (cI, 264, .inl ft)), (st, .inl (cI, 264, .inl ff)), (od, .inl (cI, 264, .inl fo)), (hq, .inr (1, [.ref rt, .ref rv, .int (nI rc)])), (rt, .inl (cI, 512, .inl gt)), (rv, .inl (cI, 512, .inl gw))] U ∧ wt_xe U)) wt_nv (wt_xc "java/lang/IllegalArgumentException") 1 6 wt_no := by
  refine vx_ofW (cc := cX3_setDepot) (maxL := 4) (ret := (some .int)) (by decide) rfl ?_
  intro p e s m args below meth c s₁ B hml hta hv
  obtain ⟨rfl, ⟨hP, hK, hN⟩, hX⟩ := hv
  have hx := B.exec
  have hb := B.bytes
  have hr := B.returns
  have hts := atoms_spec (ws := wsX3_setDepot) B.pre
  have hown : s.vm.findClass RX3 = some m.cls := findClass_of_methodNamed B.named
  have hlocks := B.notSynchronized
  have inX3 : ∀ w ∈ wsX30, w ∈ wsX3_setDepot := wt_in [11, 12, 13, 14, 15, 16, 17] (by decide +kernel)
  have hl := lv_entry ([.ref h, .int x, .int y]) (n := 4) (Nat.le_of_ble_eq_true rfl)
  rw [lg_entry_eq]
  generalize (lg_sl ([.ref h, .int x, .int y]) ++ List.replicate (4 - (lg_sl ([.ref h, .int x, .int y])).length) Slot.unset).toArray = ls at hl ⊢
  have hl : lv_has ls 4 [(0, .ref h), (1, .int x), (2, .int y)] := hl
  refine lv_iload_n hx hb dX3_setDepot_0 rfl (lv_at hl 1 rfl) ?_
  refine lv_iconst (v := nI 2) hx hb dX3_setDepot_1 (by decide +kernel) ?_
  refine wt_ro_go (va_runS (As := [.int x, .int (nI 2)]) (rest := []) ⟨hx, hb, hml, hown, hts⟩ (k_X3_belowI l x 2 (by omega)) (va_cwS 2 hts gX3_setDepot_X3_below rfl rfl rfl (by decide +kernel) ⟨Nat.le_of_ble_eq_true rfl, Nat.le_of_ble_eq_true rfl⟩) wt_PS rfl rfl hl.1 rfl (lv_room (Nat.le_of_ble_eq_true rfl)) dX3_setDepot_2 ⟨Nat.zero_le _, Nat.zero_le _⟩) ?_
  refine wt_if_eqB (tgt := 17) hx hb dX3_setDepot_5 (by decide) (fun c_5_1 => ?_) (fun c_5_1 => ?_)
  · exact wt_throw hx hb hfl (cls := "java/lang/IllegalArgumentException") (ik := 48) (is := 71) (ic := 52) hown (by decide +kernel) (hts (.classLink RX3 48 "java/lang/IllegalArgumentException") (List.mem_of_getElem? (i := 1) rfl)) (hts (.initialized "java/lang/IllegalArgumentException") (List.mem_of_getElem? (i := 2) rfl)) hX (List.mem_of_getElem? (i := 2) rfl) (wt_hat hX (List.mem_of_getElem? (i := 0) rfl) wt_xg1 (fun w h9 => hts w (List.mem_cons_of_mem _ (List.mem_append_left _ (List.mem_append_right _ (h9)))))) wt_xo1 rfl (by rw [hml]; exact hl.1) dX3_setDepot_17 dX3_setDepot_20 dX3_setDepot_21 dX3_setDepot_23 dX3_setDepot_26 hta (Nat.le_of_ble_eq_true rfl) (Nat.le_of_ble_eq_true rfl) (Nat.le_of_ble_eq_true rfl) (Nat.le_of_ble_eq_true rfl) hlocks
  · refine lv_iload_n hx hb dX3_setDepot_8 rfl (lv_at hl 2 rfl) ?_
    refine lv_bipush (v := nI 10) hx hb dX3_setDepot_9 (by decide +kernel) ?_
    refine wt_ro_go (va_runS (As := [.int y, .int (nI 10)]) (rest := []) ⟨hx, hb, hml, hown, hts⟩ (k_X3_belowI l y 10 (by omega)) (va_cwS 2 hts gX3_setDepot_X3_below rfl rfl rfl (by decide +kernel) ⟨Nat.le_of_ble_eq_true rfl, Nat.le_of_ble_eq_true rfl⟩) wt_PS rfl rfl hl.1 rfl (lv_room (Nat.le_of_ble_eq_true rfl)) dX3_setDepot_11 ⟨Nat.zero_le _, Nat.zero_le _⟩) ?_
    refine wt_if_neB (tgt := 27) hx hb dX3_setDepot_14 (by decide) (fun c_14_2 => ?_) (fun c_14_2 => ?_)
    · exfalso; exact hn9.elim (fun z => z (by assumption)) (fun z => z (by assumption))
    · exact wt_throw hx hb hfl (cls := "java/lang/IllegalArgumentException") (ik := 48) (is := 71) (ic := 52) hown (by decide +kernel) (hts (.classLink RX3 48 "java/lang/IllegalArgumentException") (List.mem_of_getElem? (i := 1) rfl)) (hts (.initialized "java/lang/IllegalArgumentException") (List.mem_of_getElem? (i := 2) rfl)) hX (List.mem_of_getElem? (i := 2) rfl) (wt_hat hX (List.mem_of_getElem? (i := 0) rfl) wt_xg1 (fun w h9 => hts w (List.mem_cons_of_mem _ (List.mem_append_left _ (List.mem_append_right _ (h9)))))) wt_xo1 rfl (by rw [hml]; exact hl.1) dX3_setDepot_17 dX3_setDepot_20 dX3_setDepot_21 dX3_setDepot_23 dX3_setDepot_26 hta (Nat.le_of_ble_eq_true rfl) (Nat.le_of_ble_eq_true rfl) (Nat.le_of_ble_eq_true rfl) (Nat.le_of_ble_eq_true rfl) hlocks
set_option maxHeartbeats 4000000 in
set_option maxRecDepth 100000 in
theorem k_X3_setDepotF2 (l : Launch) (hfl : l.stackTraces = false) (dC : Nat → ClassId) (dI : Nat → Nat → Nat) (cI : ClassId) (h : Nat) (dp : Nat) (we : Nat) (se : Nat) (fd : Nat → Int32) (fw : Nat → Int32) (fe : Nat → Int32) (nt : Nat) (hm : Nat) (pv : Nat) (up : Nat) (fp : Nat → Int32) (fu : Nat → Int32) (nr : Nat) (hu : Nat) (sd : Nat) (tw : Nat) (st : Nat) (od : Nat) (fs : Nat → Int32) (ft : Nat → Int32) (ff : Nat → Int32) (fo : Nat → Int32) (cn : Nat) (hq : Nat) (rt : Nat) (rv : Nat) (gt : Nat → Int32) (gw : Nat → Int32) (rc : Nat) (d : Nat) (t : Nat) (hd2 : d < 2) (ht : t < 10) (hnt : nt ≤ 20) (hn9 : 0 < nt) : vx_Met l yX3_setDepot wsX3_setDepot ({ frames := 6, cells := 1, slots := 6, locals := 90 }) (va_Pc [.ref h, .int (nI d), .int (nI t)] (fun U => wt_pre (dC, dI) cI [(h, .inr (3, [.ref hm, .ref dp, .ref hu, .ref we, .ref se, .ref hq, .int (nI nt)])), (dp, .inl (cI, 2, .inl fd)), (we, .inl (cI, 20, .inl fw)), (se, .inl (cI, 20, .inl fe)), (hm, .inr (0, [.ref pv, .ref up, .int (nI nr)])), (pv, .inl (cI, 10, .inl fp)), (up, .inl (cI, 10, .inl fu)), (hu, .inr (2, [.ref sd, .ref tw, .ref st, .ref od, .int (nI cn)])), (sd, .inl (cI, 12, .inl fs)), (tw, .inl (cI, 264, .inl ft)), (st, .inl (cI, 264, .inl ff)), (od, .inl (cI, 264, .inl fo)), (hq, .inr (1, [.ref rt, .ref rv, .int (nI rc)])), (rt, .inl (cI, 512, .inl gt)), (rv, .inl (cI, 512, .inl gw))] U ∧ wt_xe U)) wt_nv (wt_xc "java/lang/IllegalStateException") 1 6 wt_no := by
  refine vx_ofW (cc := cX3_setDepot) (maxL := 4) (ret := (some .int)) (by decide) rfl ?_
  intro p e s m args below meth c s₁ B hml hta hv
  obtain ⟨rfl, ⟨hP, hK, hN⟩, hX⟩ := hv
  have hx := B.exec
  have hb := B.bytes
  have hr := B.returns
  have hts := atoms_spec (ws := wsX3_setDepot) B.pre
  have hown : s.vm.findClass RX3 = some m.cls := findClass_of_methodNamed B.named
  have hlocks := B.notSynchronized
  have inX3 : ∀ w ∈ wsX30, w ∈ wsX3_setDepot := wt_in [11, 12, 13, 14, 15, 16, 17] (by decide +kernel)
  have hl := lv_entry ([.ref h, .int (nI d), .int (nI t)]) (n := 4) (Nat.le_of_ble_eq_true rfl)
  rw [lg_entry_eq]
  generalize (lg_sl ([.ref h, .int (nI d), .int (nI t)]) ++ List.replicate (4 - (lg_sl ([.ref h, .int (nI d), .int (nI t)])).length) Slot.unset).toArray = ls at hl ⊢
  have hl : lv_has ls 4 [(0, .ref h), (1, .int (nI d)), (2, .int (nI t))] := hl
  refine lv_iload_n hx hb dX3_setDepot_0 rfl (lv_at hl 1 rfl) ?_
  refine lv_iconst (v := nI 2) hx hb dX3_setDepot_1 (by decide +kernel) ?_
  refine wt_ro_go (va_runS (As := [.int (nI d), .int (nI 2)]) (rest := []) ⟨hx, hb, hml, hown, hts⟩ (k_X3_belowN l d 2 (by omega) (by omega)) (va_cwS 2 hts gX3_setDepot_X3_below rfl rfl rfl (by decide +kernel) ⟨Nat.le_of_ble_eq_true rfl, Nat.le_of_ble_eq_true rfl⟩) wt_PS rfl rfl hl.1 rfl (lv_room (Nat.le_of_ble_eq_true rfl)) dX3_setDepot_2 ⟨Nat.zero_le _, Nat.zero_le _⟩) ?_
  refine wt_if_eqB (tgt := 17) hx hb dX3_setDepot_5 (by decide) (fun c_5_1 => ?_) (fun c_5_1 => ?_)
  · exfalso; omega
  · refine lv_iload_n hx hb dX3_setDepot_8 rfl (lv_at hl 2 rfl) ?_
    refine lv_bipush (v := nI 10) hx hb dX3_setDepot_9 (by decide +kernel) ?_
    refine wt_ro_go (va_runS (As := [.int (nI t), .int (nI 10)]) (rest := []) ⟨hx, hb, hml, hown, hts⟩ (k_X3_belowN l t 10 (by omega) (by omega)) (va_cwS 2 hts gX3_setDepot_X3_below rfl rfl rfl (by decide +kernel) ⟨Nat.le_of_ble_eq_true rfl, Nat.le_of_ble_eq_true rfl⟩) wt_PS rfl rfl hl.1 rfl (lv_room (Nat.le_of_ble_eq_true rfl)) dX3_setDepot_11 ⟨Nat.zero_le _, Nat.zero_le _⟩) ?_
    refine wt_if_neB (tgt := 27) hx hb dX3_setDepot_14 (by decide) (fun c_14_2 => ?_) (fun c_14_2 => ?_)
    · refine lv_aload_n hx hb dX3_setDepot_27 rfl (lv_at hl 0 rfl) ?_
      refine va_get (D := (dC, dI)) (ci := 3) (v := .int (nI nt)) (C := RX3) (T := TX3) (N := 7) hx hb hts inX3 hown hK hP 0 rfl rfl 6 (by decide) (hts (.fieldLink RX3 40 "WarTable" "turns" "I") (List.mem_of_getElem? (i := 5) rfl)) (fun _ h9 => h9) rfl dX3_setDepot_28 ?_
      refine wt_if_le (tgt := 44) hx hb (by omega) dX3_setDepot_31 (by decide) (fun c_31_3 => ?_) (fun c_31_3 => ?_)
      · exfalso; omega
      · exact wt_throw hx hb hfl (cls := "java/lang/IllegalStateException") (ik := 62) (is := 73) (ic := 66) hown (by decide +kernel) (hts (.classLink RX3 62 "java/lang/IllegalStateException") (List.mem_of_getElem? (i := 3) rfl)) (hts (.initialized "java/lang/IllegalStateException") (List.mem_of_getElem? (i := 4) rfl)) hX (List.mem_of_getElem? (i := 3) rfl) (wt_hat hX (List.mem_of_getElem? (i := 1) rfl) wt_xg2 (fun w h9 => hts w (List.mem_cons_of_mem _ (List.mem_append_right _ (h9))))) wt_xo2 rfl (by rw [hml]; exact hl.1) dX3_setDepot_34 dX3_setDepot_37 dX3_setDepot_38 dX3_setDepot_40 dX3_setDepot_43 hta (Nat.le_of_ble_eq_true rfl) (Nat.le_of_ble_eq_true rfl) (Nat.le_of_ble_eq_true rfl) (Nat.le_of_ble_eq_true rfl) hlocks
    · exfalso; omega
set_option maxHeartbeats 4000000 in
set_option maxRecDepth 100000 in
theorem k_X3_addUnitS (l : Launch) (dC : Nat → ClassId) (dI : Nat → Nat → Nat) (cI : ClassId) (h : Nat) (dp : Nat) (we : Nat) (se : Nat) (fd : Nat → Int32) (fw : Nat → Int32) (fe : Nat → Int32) (nt : Nat) (hm : Nat) (pv : Nat) (up : Nat) (fp : Nat → Int32) (fu : Nat → Int32) (nr : Nat) (hu : Nat) (sd : Nat) (tw : Nat) (st : Nat) (od : Nat) (fs : Nat → Int32) (ft : Nat → Int32) (ff : Nat → Int32) (fo : Nat → Int32) (cn : Nat) (hq : Nat) (rt : Nat) (rv : Nat) (gt : Nat → Int32) (gw : Nat → Int32) (rc : Nat) (d : Nat) (t : Nat) (q : Nat) (sz : Nat) (hd2 : d < 2) (ht : t < 10) (hq1 : 1 ≤ q) (hq2 : q ≤ 9) (hn0 : nt = 0) (hh : ¬ wt_has (wt_held fs ft nt (1 - d) cn) (nI t)) (hcn : cn < 12) : Met l yX3_addUnit wsX3_addUnit ({ frames := 6, cells := 0, slots := 0, locals := 90 }) (va_Pc [.ref h, .int (nI d), .int (nI t), .int (nI q)] (wt_pm (dC, dI) cI [(h, .inr (3, [.ref hm, .ref dp, .ref hu, .ref we, .ref se, .ref hq, .int (nI nt)])), (dp, .inl (cI, 2, .inl fd)), (we, .inl (cI, 20, .inl fw)), (se, .inl (cI, 20, .inl fe)), (hm, .inr (0, [.ref pv, .ref up, .int (nI nr)])), (pv, .inl (cI, 10, .inl fp)), (up, .inl (cI, 10, .inl fu)), (hu, .inr (2, [.ref sd, .ref tw, .ref st, .ref od, .int (nI cn)])), (sd, .inl (cI, 12, .inl fs)), (tw, .inl (cI, 264, .inl ft)), (st, .inl (cI, 264, .inl ff)), (od, .inl (cI, 264, .inl fo)), (hq, .inr (1, [.ref rt, .ref rv, .int (nI rc)])), (rt, .inl (cI, 512, .inl gt)), (rv, .inl (cI, 512, .inl gw))] sz)) (wt_mu (some (.int (nI cn))) (dC, dI) [(h, .inr (3, [.ref hm, .ref dp, .ref hu, .ref we, .ref se, .ref hq, .int (nI nt)])), (dp, .inl (cI, 2, .inl fd)), (we, .inl (cI, 20, .inl fw)), (se, .inl (cI, 20, .inl fe)), (hm, .inr (0, [.ref pv, .ref up, .int (nI nr)])), (pv, .inl (cI, 10, .inl fp)), (up, .inl (cI, 10, .inl fu)), (hu, .inr (2, [.ref sd, .ref tw, .ref st, .ref od, .int (nI (cn + 1))])), (sd, .inl (cI, 12, .inl (upd fs cn (nI d)))), (tw, .inl (cI, 264, .inl (wt_plT ft 0 cn (nI t) (nI q)))), (st, .inl (cI, 264, .inl (wt_plF ff 0 cn (nI q)))), (od, .inl (cI, 264, .inl fo)), (hq, .inr (1, [.ref rt, .ref rv, .int (nI rc)])), (rt, .inl (cI, 512, .inl gt)), (rv, .inl (cI, 512, .inl gw))] (va_A [(h, .inr (3, [.ref hm, .ref dp, .ref hu, .ref we, .ref se, .ref hq, .int (nI nt)])), (dp, .inl (cI, 2, .inl fd)), (we, .inl (cI, 20, .inl fw)), (se, .inl (cI, 20, .inl fe)), (hm, .inr (0, [.ref pv, .ref up, .int (nI nr)])), (pv, .inl (cI, 10, .inl fp)), (up, .inl (cI, 10, .inl fu)), (hu, .inr (2, [.ref sd, .ref tw, .ref st, .ref od, .int (nI cn)])), (sd, .inl (cI, 12, .inl fs)), (tw, .inl (cI, 264, .inl ft)), (st, .inl (cI, 264, .inl ff)), (od, .inl (cI, 264, .inl fo)), (hq, .inr (1, [.ref rt, .ref rv, .int (nI rc)])), (rt, .inl (cI, 512, .inl gt)), (rv, .inl (cI, 512, .inl gw))] sz)) 0 0 (va_A [(h, .inr (3, [.ref hm, .ref dp, .ref hu, .ref we, .ref se, .ref hq, .int (nI nt)])), (dp, .inl (cI, 2, .inl fd)), (we, .inl (cI, 20, .inl fw)), (se, .inl (cI, 20, .inl fe)), (hm, .inr (0, [.ref pv, .ref up, .int (nI nr)])), (pv, .inl (cI, 10, .inl fp)), (up, .inl (cI, 10, .inl fu)), (hu, .inr (2, [.ref sd, .ref tw, .ref st, .ref od, .int (nI cn)])), (sd, .inl (cI, 12, .inl fs)), (tw, .inl (cI, 264, .inl ft)), (st, .inl (cI, 264, .inl ff)), (od, .inl (cI, 264, .inl fo)), (hq, .inr (1, [.ref rt, .ref rv, .int (nI rc)])), (rt, .inl (cI, 512, .inl gt)), (rv, .inl (cI, 512, .inl gw))] sz) := by
  refine Met.ofW (cc := cX3_addUnit) (maxL := 4) (ret := (some .int)) (by decide) rfl ?_
  intro p e s m args below meth c s₁ B hml hv
  obtain ⟨rfl, hsz, ⟨hP, hK, hN⟩, hD0⟩ := hv
  have hx := B.exec
  have hb := B.bytes
  have hr := B.returns
  have hts := atoms_spec (ws := wsX3_addUnit) B.pre
  have hown : s.vm.findClass RX3 = some m.cls := findClass_of_methodNamed B.named
  have hlocks := B.notSynchronized
  subst hsz
  have hD := hD0.self (sz := s.heap.size)
  generalize hAe : va_A [(h, .inr (3, [.ref hm, .ref dp, .ref hu, .ref we, .ref se, .ref hq, .int (nI nt)])), (dp, .inl (cI, 2, .inl fd)), (we, .inl (cI, 20, .inl fw)), (se, .inl (cI, 20, .inl fe)), (hm, .inr (0, [.ref pv, .ref up, .int (nI nr)])), (pv, .inl (cI, 10, .inl fp)), (up, .inl (cI, 10, .inl fu)), (hu, .inr (2, [.ref sd, .ref tw, .ref st, .ref od, .int (nI cn)])), (sd, .inl (cI, 12, .inl fs)), (tw, .inl (cI, 264, .inl ft)), (st, .inl (cI, 264, .inl ff)), (od, .inl (cI, 264, .inl fo)), (hq, .inr (1, [.ref rt, .ref rv, .int (nI rc)])), (rt, .inl (cI, 512, .inl gt)), (rv, .inl (cI, 512, .inl gw))] s.heap.size = A at hD ⊢
  have hA : ∀ q : Nat, s.heap.size ≤ q → A q := fun q h => by rw [← hAe]; exact Or.inr h
  have hS : va_S A s.heap s.heap [] := va_S.rf
  have inX2 : ∀ w ∈ wsX20, w ∈ wsX3_addUnit := wt_in [66, 67, 68, 69, 70] (by decide +kernel)
  have inX3 : ∀ w ∈ wsX30, w ∈ wsX3_addUnit := wt_in [59, 60, 61, 62, 63, 64, 65] (by decide +kernel)
  have hl := lv_entry ([.ref h, .int (nI d), .int (nI t), .int (nI q)]) (n := 4) (Nat.le_of_ble_eq_true rfl)
  rw [lg_entry_eq]
  generalize (lg_sl ([.ref h, .int (nI d), .int (nI t), .int (nI q)]) ++ List.replicate (4 - (lg_sl ([.ref h, .int (nI d), .int (nI t), .int (nI q)])).length) Slot.unset).toArray = ls at hl ⊢
  have hl : lv_has ls 4 [(0, .ref h), (1, .int (nI d)), (2, .int (nI t)), (3, .int (nI q))] := hl
  refine lv_iload_n hx hb dX3_addUnit_0 rfl (lv_at hl 1 rfl) ?_
  refine lv_iconst (v := nI 2) hx hb dX3_addUnit_1 (by decide +kernel) ?_
  refine wt_ro_go (va_runS (As := [.int (nI d), .int (nI 2)]) (rest := []) ⟨hx, hb, hml, hown, hts⟩ (k_X3_belowN l d 2 (by omega) (by omega)) (va_cwS 2 hts gX3_addUnit_X3_below rfl rfl rfl (by decide +kernel) ⟨Nat.le_of_ble_eq_true rfl, Nat.le_of_ble_eq_true rfl⟩) wt_PS rfl rfl hl.1 rfl (lv_room (Nat.le_of_ble_eq_true rfl)) dX3_addUnit_2 ⟨Nat.zero_le _, Nat.zero_le _⟩) ?_
  refine wt_if_eqB (tgt := 28) hx hb dX3_addUnit_5 (by decide) (fun c_5_1 => ?_) (fun c_5_1 => ?_)
  · exfalso; omega
  · refine lv_iload_n hx hb dX3_addUnit_8 rfl (lv_at hl 2 rfl) ?_
    refine lv_bipush (v := nI 10) hx hb dX3_addUnit_9 (by decide +kernel) ?_
    refine wt_ro_go (va_runS (As := [.int (nI t), .int (nI 10)]) (rest := []) ⟨hx, hb, hml, hown, hts⟩ (k_X3_belowN l t 10 (by omega) (by omega)) (va_cwS 2 hts gX3_addUnit_X3_below rfl rfl rfl (by decide +kernel) ⟨Nat.le_of_ble_eq_true rfl, Nat.le_of_ble_eq_true rfl⟩) wt_PS rfl rfl hl.1 rfl (lv_room (Nat.le_of_ble_eq_true rfl)) dX3_addUnit_11 ⟨Nat.zero_le _, Nat.zero_le _⟩) ?_
    refine wt_if_eqB (tgt := 28) hx hb dX3_addUnit_14 (by decide) (fun c_14_2 => ?_) (fun c_14_2 => ?_)
    · exfalso; omega
    · refine lv_iload_n hx hb dX3_addUnit_17 rfl (lv_at hl 3 rfl) ?_
      refine lv_iconst (v := nI 1) hx hb dX3_addUnit_18 (by decide +kernel) ?_
      refine wt_icmp_lt (tgt := 28) hx hb (by omega) (by omega) dX3_addUnit_19 (by decide) (fun c_19_3 => ?_) (fun c_19_3 => ?_)
      · exfalso; omega
      · refine lv_iload_n hx hb dX3_addUnit_22 rfl (lv_at hl 3 rfl) ?_
        refine lv_bipush (v := nI 9) hx hb dX3_addUnit_23 (by decide +kernel) ?_
        refine wt_icmp_le (tgt := 38) hx hb (by omega) (by omega) dX3_addUnit_25 (by decide) (fun c_25_4 => ?_) (fun c_25_4 => ?_)
        · refine lv_aload_n hx hb dX3_addUnit_38 rfl (lv_at hl 0 rfl) ?_
          refine va_get (D := (dC, dI)) (ci := 3) (v := .int (nI nt)) (C := RX3) (T := TX3) (N := 7) hx hb hts inX3 hown hK hP 0 rfl rfl 6 (by decide) (hts (.fieldLink RX3 40 "WarTable" "turns" "I") (List.mem_of_getElem? (i := 5) rfl)) (fun _ h9 => h9) rfl dX3_addUnit_39 ?_
          refine wt_if_gt (tgt := 79) hx hb (by omega) dX3_addUnit_42 (by decide) (fun c_42_5 => ?_) (fun c_42_5 => ?_)
          · exfalso; omega
          · refine lv_aload_n hx hb dX3_addUnit_45 rfl (lv_at hl 0 rfl) ?_
            refine va_get (D := (dC, dI)) (ci := 3) (v := .ref hu) (C := RX3) (T := TX3) (N := 7) hx hb hts inX3 hown hK hP 0 rfl rfl 2 (by decide) (hts (.fieldLink RX3 23 "WarTable" "units" "LWarTable$Units;") (List.mem_of_getElem? (i := 6) rfl)) (fun _ h9 => h9) rfl dX3_addUnit_46 ?_
            refine lv_aload_n hx hb dX3_addUnit_49 rfl (lv_at hl 0 rfl) ?_
            refine va_get (D := (dC, dI)) (ci := 3) (v := .int (nI nt)) (C := RX3) (T := TX3) (N := 7) hx hb hts inX3 hown hK hP 0 rfl rfl 6 (by decide) (hts (.fieldLink RX3 40 "WarTable" "turns" "I") (List.mem_of_getElem? (i := 5) rfl)) (fun _ h9 => h9) rfl dX3_addUnit_50 ?_
            refine lv_iload_n hx hb dX3_addUnit_53 rfl (lv_at hl 1 rfl) ?_
            refine wt_ro_go (va_runS (As := [.int (nI d)]) (rest := [.int (nI nt), .ref hu]) ⟨hx, hb, hml, hown, hts⟩ (k_X3_opponent l d (by omega)) (va_cwS 1 hts gX3_addUnit_X3_opponent rfl rfl rfl (by decide +kernel) ⟨Nat.le_of_ble_eq_true rfl, Nat.le_of_ble_eq_true rfl⟩) wt_PS rfl rfl hl.1 rfl (lv_room (Nat.le_of_ble_eq_true rfl)) dX3_addUnit_54 ⟨Nat.zero_le _, Nat.zero_le _⟩) ?_
            refine wt_ro_go (va_runV (As := [.int (nI nt), .int (nI (1 - d))]) (rest := []) ⟨hx, hb, hml, hown, hts⟩ (k_X2_townsHeld l dC dI cI hu sd tw st od fs ft ff fo cn nt (1 - d) (by omega) (by omega)) (cwV 2 hts gX3_addUnit_X2_townsHeld rfl rfl rfl (by decide +kernel) ⟨Nat.le_of_ble_eq_true rfl, Nat.le_of_ble_eq_true rfl⟩) (wt_PV (C := RX2) (T := TX2) (N := 5) (ci := 2) (q0 := 7) hK hP hN rfl rfl [7, 8, 9, 10, 11] rfl) rfl rfl hl.1 rfl (lv_room (Nat.le_of_ble_eq_true rfl)) dX3_addUnit_57 ⟨Nat.zero_le _, Nat.zero_le _⟩) ?_
            refine lv_iload_n hx hb dX3_addUnit_60 rfl (lv_at hl 2 rfl) ?_
            refine wt_ro_go (va_runS (As := [.int (wt_held fs ft nt (1 - d) cn), .int (nI t)]) (rest := []) ⟨hx, hb, hml, hown, hts⟩ (k_X3_has l (wt_held fs ft nt (1 - d) cn) (nI t)) (va_cwS 2 hts gX3_addUnit_X3_has rfl rfl rfl (by decide +kernel) ⟨Nat.le_of_ble_eq_true rfl, Nat.le_of_ble_eq_true rfl⟩) wt_PS rfl rfl hl.1 rfl (lv_room (Nat.le_of_ble_eq_true rfl)) dX3_addUnit_61 ⟨Nat.zero_le _, Nat.zero_le _⟩) ?_
            refine wt_if_neB (tgt := 79) hx hb dX3_addUnit_64 (by decide) (fun c_64_6 => ?_) (fun c_64_6 => ?_)
            · exact absurd c_64_6 hh
            · refine lv_aload_n hx hb dX3_addUnit_67 rfl (lv_at hl 0 rfl) ?_
              refine va_get (D := (dC, dI)) (ci := 3) (v := .ref hu) (C := RX3) (T := TX3) (N := 7) hx hb hts inX3 hown hK hP 0 rfl rfl 2 (by decide) (hts (.fieldLink RX3 23 "WarTable" "units" "LWarTable$Units;") (List.mem_of_getElem? (i := 6) rfl)) (fun _ h9 => h9) rfl dX3_addUnit_68 ?_
              refine wt_ro_go (va_runV (As := []) (rest := []) ⟨hx, hb, hml, hown, hts⟩ (k_X2_count l dC dI cI hu sd tw st od fs ft ff fo cn) (cwV 0 hts gX3_addUnit_X2_count rfl rfl rfl (by decide +kernel) ⟨Nat.le_of_ble_eq_true rfl, Nat.le_of_ble_eq_true rfl⟩) (wt_PV (C := RX2) (T := TX2) (N := 5) (ci := 2) (q0 := 7) hK hP hN rfl rfl [7, 8, 9, 10, 11] rfl) rfl rfl hl.1 rfl (lv_room (Nat.le_of_ble_eq_true rfl)) dX3_addUnit_71 ⟨Nat.zero_le _, Nat.zero_le _⟩) ?_
              refine lv_bipush (v := nI 12) hx hb dX3_addUnit_74 (by decide +kernel) ?_
              refine wt_icmp_lt (tgt := 89) hx hb (by omega) (by omega) dX3_addUnit_76 (by decide) (fun c_76_7 => ?_) (fun c_76_7 => ?_)
              · refine lv_aload_n hx hb dX3_addUnit_89 rfl (lv_at hl 0 rfl) ?_
                refine va_get (D := (dC, dI)) (ci := 3) (v := .ref hu) (C := RX3) (T := TX3) (N := 7) hx hb hts inX3 hown hK hP 0 rfl rfl 2 (by decide) (hts (.fieldLink RX3 23 "WarTable" "units" "LWarTable$Units;") (List.mem_of_getElem? (i := 6) rfl)) (fun _ h9 => h9) rfl dX3_addUnit_90 ?_
                refine lv_iload_n hx hb dX3_addUnit_93 rfl (lv_at hl 1 rfl) ?_
                refine lv_iload_n hx hb dX3_addUnit_94 rfl (lv_at hl 2 rfl) ?_
                refine lv_iload_n hx hb dX3_addUnit_95 rfl (lv_at hl 3 rfl) ?_
                refine wt_mu_go (w1 := [(hu, .inr (2, [.ref sd, .ref tw, .ref st, .ref od, .int (nI (cn + 1))])), (sd, .inl (cI, 12, .inl (upd fs cn (nI d)))), (tw, .inl (cI, 264, .inl (wt_plT ft 0 cn (nI t) (nI q)))), (st, .inl (cI, 264, .inl (wt_plF ff 0 cn (nI q)))), (od, .inl (cI, 264, .inl fo))]) (w2 := [(h, .inr (3, [.ref hm, .ref dp, .ref hu, .ref we, .ref se, .ref hq, .int (nI nt)])), (dp, .inl (cI, 2, .inl fd)), (we, .inl (cI, 20, .inl fw)), (se, .inl (cI, 20, .inl fe)), (hm, .inr (0, [.ref pv, .ref up, .int (nI nr)])), (pv, .inl (cI, 10, .inl fp)), (up, .inl (cI, 10, .inl fu)), (hu, .inr (2, [.ref sd, .ref tw, .ref st, .ref od, .int (nI (cn + 1))])), (sd, .inl (cI, 12, .inl (upd fs cn (nI d)))), (tw, .inl (cI, 264, .inl (wt_plT ft 0 cn (nI t) (nI q)))), (st, .inl (cI, 264, .inl (wt_plF ff 0 cn (nI q)))), (od, .inl (cI, 264, .inl fo)), (hq, .inr (1, [.ref rt, .ref rv, .int (nI rc)])), (rt, .inl (cI, 512, .inl gt)), (rv, .inl (cI, 512, .inl gw))]) (wr := [(h, .inr (3, [.ref hm, .ref dp, .ref hu, .ref we, .ref se, .ref hq, .int (nI nt)])), (dp, .inl (cI, 2, .inl fd)), (we, .inl (cI, 20, .inl fw)), (se, .inl (cI, 20, .inl fe)), (hm, .inr (0, [.ref pv, .ref up, .int (nI nr)])), (pv, .inl (cI, 10, .inl fp)), (up, .inl (cI, 10, .inl fu)), (hq, .inr (1, [.ref rt, .ref rv, .int (nI rc)])), (rt, .inl (cI, 512, .inl gt)), (rv, .inl (cI, 512, .inl gw))]) (va_runV (As := [.int (nI d), .int (nI t), .int (nI q)]) (rest := []) ⟨hx, hb, hml, hown, hts⟩ (k_X2_add l dC dI cI hu sd tw st od fs ft ff fo cn (nI d) (nI t) (nI q) s.heap.size (by omega)) (cwV 3 hts gX3_addUnit_X2_add rfl rfl rfl (by decide +kernel) ⟨Nat.le_of_ble_eq_true rfl, Nat.le_of_ble_eq_true rfl⟩) (wt_PVM (C := RX2) (T := TX2) (N := 5) (ci := 2) (q0 := 7) hK hP hN hD rfl rfl [7, 8, 9, 10, 11] rfl rfl) rfl rfl hl.1 rfl (lv_room (Nat.le_of_ble_eq_true rfl)) dX3_addUnit_96 ⟨Nat.zero_le _, Nat.zero_le _⟩) hP hD hS hA [7, 8, 9, 10, 11] [0, 1, 2, 3, 4, 5, 6, 12, 13, 14] rfl rfl rfl rfl (by decide) rfl [0, 1, 2, 3, 4, 5, 6, 10, 11, 12, 13, 14, 7, 8, 9] rfl rfl (fun H locs hP hD hS hz9 => ?_)
                refine W.eq (g2 := F0 m 99 ls [.int (nI cn)]) rfl ?_
                exact wt_miret hx hb hr rfl hP hS dX3_addUnit_99 hlocks
              · exfalso; omega
        · exfalso; omega
set_option maxHeartbeats 4000000 in
set_option maxRecDepth 100000 in
theorem k_X3_addUnitF1 (l : Launch) (hfl : l.stackTraces = false) (dC : Nat → ClassId) (dI : Nat → Nat → Nat) (cI : ClassId) (h : Nat) (dp : Nat) (we : Nat) (se : Nat) (fd : Nat → Int32) (fw : Nat → Int32) (fe : Nat → Int32) (nt : Nat) (hm : Nat) (pv : Nat) (up : Nat) (fp : Nat → Int32) (fu : Nat → Int32) (nr : Nat) (hu : Nat) (sd : Nat) (tw : Nat) (st : Nat) (od : Nat) (fs : Nat → Int32) (ft : Nat → Int32) (ff : Nat → Int32) (fo : Nat → Int32) (cn : Nat) (hq : Nat) (rt : Nat) (rv : Nat) (gt : Nat → Int32) (gw : Nat → Int32) (rc : Nat) (x : Int32) (y : Int32) (z : Int32) (hn9 : ¬ vp_in x 2 ∨ ¬ vp_in y 10 ∨ z < nI 1 ∨ nI 9 < z) : vx_Met l yX3_addUnit wsX3_addUnit ({ frames := 6, cells := 1, slots := 6, locals := 90 }) (va_Pc [.ref h, .int x, .int y, .int z] (fun U => wt_pre (dC, dI) cI [(h, .inr (3, [.ref hm, .ref dp, .ref hu, .ref we, .ref se, .ref hq, .int (nI nt)])), (dp, .inl (cI, 2, .inl fd)), (we, .inl (cI, 20, .inl fw)), (se, .inl (cI, 20, .inl fe)), (hm, .inr (0, [.ref pv, .ref up, .int (nI nr)])), (pv, .inl (cI, 10, .inl fp)), (up, .inl (cI, 10, .inl fu)), (hu, .inr (2, [.ref sd, .ref tw, .ref st, .ref od, .int (nI cn)])), (sd, .inl (cI, 12, .inl fs)), (tw, .inl (cI, 264, .inl ft)), (st, .inl (cI, 264, .inl ff)), (od, .inl (cI, 264, .inl fo)), (hq, .inr (1, [.ref rt, .ref rv, .int (nI rc)])), (rt, .inl (cI, 512, .inl gt)), (rv, .inl (cI, 512, .inl gw))] U ∧ wt_xe U)) wt_nv (wt_xc "java/lang/IllegalArgumentException") 1 6 wt_no := by
  refine vx_ofW (cc := cX3_addUnit) (maxL := 4) (ret := (some .int)) (by decide) rfl ?_
  intro p e s m args below meth c s₁ B hml hta hv
  obtain ⟨rfl, ⟨hP, hK, hN⟩, hX⟩ := hv
  have hx := B.exec
  have hb := B.bytes
  have hr := B.returns
  have hts := atoms_spec (ws := wsX3_addUnit) B.pre
  have hown : s.vm.findClass RX3 = some m.cls := findClass_of_methodNamed B.named
  have hlocks := B.notSynchronized
  have inX2 : ∀ w ∈ wsX20, w ∈ wsX3_addUnit := wt_in [66, 67, 68, 69, 70] (by decide +kernel)
  have inX3 : ∀ w ∈ wsX30, w ∈ wsX3_addUnit := wt_in [59, 60, 61, 62, 63, 64, 65] (by decide +kernel)
  have hl := lv_entry ([.ref h, .int x, .int y, .int z]) (n := 4) (Nat.le_of_ble_eq_true rfl)
  rw [lg_entry_eq]
  generalize (lg_sl ([.ref h, .int x, .int y, .int z]) ++ List.replicate (4 - (lg_sl ([.ref h, .int x, .int y, .int z])).length) Slot.unset).toArray = ls at hl ⊢
  have hl : lv_has ls 4 [(0, .ref h), (1, .int x), (2, .int y), (3, .int z)] := hl
  refine lv_iload_n hx hb dX3_addUnit_0 rfl (lv_at hl 1 rfl) ?_
  refine lv_iconst (v := nI 2) hx hb dX3_addUnit_1 (by decide +kernel) ?_
  refine wt_ro_go (va_runS (As := [.int x, .int (nI 2)]) (rest := []) ⟨hx, hb, hml, hown, hts⟩ (k_X3_belowI l x 2 (by omega)) (va_cwS 2 hts gX3_addUnit_X3_below rfl rfl rfl (by decide +kernel) ⟨Nat.le_of_ble_eq_true rfl, Nat.le_of_ble_eq_true rfl⟩) wt_PS rfl rfl hl.1 rfl (lv_room (Nat.le_of_ble_eq_true rfl)) dX3_addUnit_2 ⟨Nat.zero_le _, Nat.zero_le _⟩) ?_
  refine wt_if_eqB (tgt := 28) hx hb dX3_addUnit_5 (by decide) (fun c_5_1 => ?_) (fun c_5_1 => ?_)
  · exact wt_throw hx hb hfl (cls := "java/lang/IllegalArgumentException") (ik := 48) (is := 75) (ic := 52) hown (by decide +kernel) (hts (.classLink RX3 48 "java/lang/IllegalArgumentException") (List.mem_of_getElem? (i := 1) rfl)) (hts (.initialized "java/lang/IllegalArgumentException") (List.mem_of_getElem? (i := 2) rfl)) hX (List.mem_of_getElem? (i := 4) rfl) (wt_hat hX (List.mem_of_getElem? (i := 0) rfl) wt_xg1 (fun w h9 => hts w (List.mem_cons_of_mem _ (List.mem_append_left _ (List.mem_append_right _ (h9)))))) wt_xo1 rfl (by rw [hml]; exact hl.1) dX3_addUnit_28 dX3_addUnit_31 dX3_addUnit_32 dX3_addUnit_34 dX3_addUnit_37 hta (Nat.le_of_ble_eq_true rfl) (Nat.le_of_ble_eq_true rfl) (Nat.le_of_ble_eq_true rfl) (Nat.le_of_ble_eq_true rfl) hlocks
  · refine lv_iload_n hx hb dX3_addUnit_8 rfl (lv_at hl 2 rfl) ?_
    refine lv_bipush (v := nI 10) hx hb dX3_addUnit_9 (by decide +kernel) ?_
    refine wt_ro_go (va_runS (As := [.int y, .int (nI 10)]) (rest := []) ⟨hx, hb, hml, hown, hts⟩ (k_X3_belowI l y 10 (by omega)) (va_cwS 2 hts gX3_addUnit_X3_below rfl rfl rfl (by decide +kernel) ⟨Nat.le_of_ble_eq_true rfl, Nat.le_of_ble_eq_true rfl⟩) wt_PS rfl rfl hl.1 rfl (lv_room (Nat.le_of_ble_eq_true rfl)) dX3_addUnit_11 ⟨Nat.zero_le _, Nat.zero_le _⟩) ?_
    refine wt_if_eqB (tgt := 28) hx hb dX3_addUnit_14 (by decide) (fun c_14_2 => ?_) (fun c_14_2 => ?_)
    · exact wt_throw hx hb hfl (cls := "java/lang/IllegalArgumentException") (ik := 48) (is := 75) (ic := 52) hown (by decide +kernel) (hts (.classLink RX3 48 "java/lang/IllegalArgumentException") (List.mem_of_getElem? (i := 1) rfl)) (hts (.initialized "java/lang/IllegalArgumentException") (List.mem_of_getElem? (i := 2) rfl)) hX (List.mem_of_getElem? (i := 4) rfl) (wt_hat hX (List.mem_of_getElem? (i := 0) rfl) wt_xg1 (fun w h9 => hts w (List.mem_cons_of_mem _ (List.mem_append_left _ (List.mem_append_right _ (h9)))))) wt_xo1 rfl (by rw [hml]; exact hl.1) dX3_addUnit_28 dX3_addUnit_31 dX3_addUnit_32 dX3_addUnit_34 dX3_addUnit_37 hta (Nat.le_of_ble_eq_true rfl) (Nat.le_of_ble_eq_true rfl) (Nat.le_of_ble_eq_true rfl) (Nat.le_of_ble_eq_true rfl) hlocks
    · refine lv_iload_n hx hb dX3_addUnit_17 rfl (lv_at hl 3 rfl) ?_
      refine lv_iconst (v := nI 1) hx hb dX3_addUnit_18 (by decide +kernel) ?_
      refine wt_icmp_ltI (tgt := 28) hx hb dX3_addUnit_19 (by decide) (fun c_19_3 => ?_) (fun c_19_3 => ?_)
      · exact wt_throw hx hb hfl (cls := "java/lang/IllegalArgumentException") (ik := 48) (is := 75) (ic := 52) hown (by decide +kernel) (hts (.classLink RX3 48 "java/lang/IllegalArgumentException") (List.mem_of_getElem? (i := 1) rfl)) (hts (.initialized "java/lang/IllegalArgumentException") (List.mem_of_getElem? (i := 2) rfl)) hX (List.mem_of_getElem? (i := 4) rfl) (wt_hat hX (List.mem_of_getElem? (i := 0) rfl) wt_xg1 (fun w h9 => hts w (List.mem_cons_of_mem _ (List.mem_append_left _ (List.mem_append_right _ (h9)))))) wt_xo1 rfl (by rw [hml]; exact hl.1) dX3_addUnit_28 dX3_addUnit_31 dX3_addUnit_32 dX3_addUnit_34 dX3_addUnit_37 hta (Nat.le_of_ble_eq_true rfl) (Nat.le_of_ble_eq_true rfl) (Nat.le_of_ble_eq_true rfl) (Nat.le_of_ble_eq_true rfl) hlocks
      · refine lv_iload_n hx hb dX3_addUnit_22 rfl (lv_at hl 3 rfl) ?_
        refine lv_bipush (v := nI 9) hx hb dX3_addUnit_23 (by decide +kernel) ?_
        refine wt_icmp_leI (tgt := 38) hx hb dX3_addUnit_25 (by decide) (fun c_25_4 => ?_) (fun c_25_4 => ?_)
        · exfalso; exact hn9.elim (fun z => z (by assumption)) (fun z => z.elim (fun z => z (by assumption)) (fun z => z.elim (fun z => absurd z (by assumption)) (fun z => absurd z (by assumption))))
        · exact wt_throw hx hb hfl (cls := "java/lang/IllegalArgumentException") (ik := 48) (is := 75) (ic := 52) hown (by decide +kernel) (hts (.classLink RX3 48 "java/lang/IllegalArgumentException") (List.mem_of_getElem? (i := 1) rfl)) (hts (.initialized "java/lang/IllegalArgumentException") (List.mem_of_getElem? (i := 2) rfl)) hX (List.mem_of_getElem? (i := 4) rfl) (wt_hat hX (List.mem_of_getElem? (i := 0) rfl) wt_xg1 (fun w h9 => hts w (List.mem_cons_of_mem _ (List.mem_append_left _ (List.mem_append_right _ (h9)))))) wt_xo1 rfl (by rw [hml]; exact hl.1) dX3_addUnit_28 dX3_addUnit_31 dX3_addUnit_32 dX3_addUnit_34 dX3_addUnit_37 hta (Nat.le_of_ble_eq_true rfl) (Nat.le_of_ble_eq_true rfl) (Nat.le_of_ble_eq_true rfl) (Nat.le_of_ble_eq_true rfl) hlocks
set_option maxHeartbeats 4000000 in
set_option maxRecDepth 100000 in
theorem k_X3_addUnitF2 (l : Launch) (hfl : l.stackTraces = false) (dC : Nat → ClassId) (dI : Nat → Nat → Nat) (cI : ClassId) (h : Nat) (dp : Nat) (we : Nat) (se : Nat) (fd : Nat → Int32) (fw : Nat → Int32) (fe : Nat → Int32) (nt : Nat) (hm : Nat) (pv : Nat) (up : Nat) (fp : Nat → Int32) (fu : Nat → Int32) (nr : Nat) (hu : Nat) (sd : Nat) (tw : Nat) (st : Nat) (od : Nat) (fs : Nat → Int32) (ft : Nat → Int32) (ff : Nat → Int32) (fo : Nat → Int32) (cn : Nat) (hq : Nat) (rt : Nat) (rv : Nat) (gt : Nat → Int32) (gw : Nat → Int32) (rc : Nat) (d : Nat) (t : Nat) (q : Nat) (hcn : cn ≤ 12) (hnt : nt ≤ 20) (hd2 : d < 2) (ht : t < 10) (hq1 : 1 ≤ q) (hq2 : q ≤ 9) (hn9 : 0 < nt ∨ wt_has (wt_held fs ft nt (1 - d) cn) (nI t) ∨ cn = 12) : vx_Met l yX3_addUnit wsX3_addUnit ({ frames := 6, cells := 1, slots := 6, locals := 90 }) (va_Pc [.ref h, .int (nI d), .int (nI t), .int (nI q)] (fun U => wt_pre (dC, dI) cI [(h, .inr (3, [.ref hm, .ref dp, .ref hu, .ref we, .ref se, .ref hq, .int (nI nt)])), (dp, .inl (cI, 2, .inl fd)), (we, .inl (cI, 20, .inl fw)), (se, .inl (cI, 20, .inl fe)), (hm, .inr (0, [.ref pv, .ref up, .int (nI nr)])), (pv, .inl (cI, 10, .inl fp)), (up, .inl (cI, 10, .inl fu)), (hu, .inr (2, [.ref sd, .ref tw, .ref st, .ref od, .int (nI cn)])), (sd, .inl (cI, 12, .inl fs)), (tw, .inl (cI, 264, .inl ft)), (st, .inl (cI, 264, .inl ff)), (od, .inl (cI, 264, .inl fo)), (hq, .inr (1, [.ref rt, .ref rv, .int (nI rc)])), (rt, .inl (cI, 512, .inl gt)), (rv, .inl (cI, 512, .inl gw))] U ∧ wt_xe U)) wt_nv (wt_xc "java/lang/IllegalStateException") 1 6 wt_no := by
  refine vx_ofW (cc := cX3_addUnit) (maxL := 4) (ret := (some .int)) (by decide) rfl ?_
  intro p e s m args below meth c s₁ B hml hta hv
  obtain ⟨rfl, ⟨hP, hK, hN⟩, hX⟩ := hv
  have hx := B.exec
  have hb := B.bytes
  have hr := B.returns
  have hts := atoms_spec (ws := wsX3_addUnit) B.pre
  have hown : s.vm.findClass RX3 = some m.cls := findClass_of_methodNamed B.named
  have hlocks := B.notSynchronized
  have inX2 : ∀ w ∈ wsX20, w ∈ wsX3_addUnit := wt_in [66, 67, 68, 69, 70] (by decide +kernel)
  have inX3 : ∀ w ∈ wsX30, w ∈ wsX3_addUnit := wt_in [59, 60, 61, 62, 63, 64, 65] (by decide +kernel)
  have hl := lv_entry ([.ref h, .int (nI d), .int (nI t), .int (nI q)]) (n := 4) (Nat.le_of_ble_eq_true rfl)
  rw [lg_entry_eq]
  generalize (lg_sl ([.ref h, .int (nI d), .int (nI t), .int (nI q)]) ++ List.replicate (4 - (lg_sl ([.ref h, .int (nI d), .int (nI t), .int (nI q)])).length) Slot.unset).toArray = ls at hl ⊢
  have hl : lv_has ls 4 [(0, .ref h), (1, .int (nI d)), (2, .int (nI t)), (3, .int (nI q))] := hl
  refine lv_iload_n hx hb dX3_addUnit_0 rfl (lv_at hl 1 rfl) ?_
  refine lv_iconst (v := nI 2) hx hb dX3_addUnit_1 (by decide +kernel) ?_
  refine wt_ro_go (va_runS (As := [.int (nI d), .int (nI 2)]) (rest := []) ⟨hx, hb, hml, hown, hts⟩ (k_X3_belowN l d 2 (by omega) (by omega)) (va_cwS 2 hts gX3_addUnit_X3_below rfl rfl rfl (by decide +kernel) ⟨Nat.le_of_ble_eq_true rfl, Nat.le_of_ble_eq_true rfl⟩) wt_PS rfl rfl hl.1 rfl (lv_room (Nat.le_of_ble_eq_true rfl)) dX3_addUnit_2 ⟨Nat.zero_le _, Nat.zero_le _⟩) ?_
  refine wt_if_eqB (tgt := 28) hx hb dX3_addUnit_5 (by decide) (fun c_5_1 => ?_) (fun c_5_1 => ?_)
  · exfalso; omega
  · refine lv_iload_n hx hb dX3_addUnit_8 rfl (lv_at hl 2 rfl) ?_
    refine lv_bipush (v := nI 10) hx hb dX3_addUnit_9 (by decide +kernel) ?_
    refine wt_ro_go (va_runS (As := [.int (nI t), .int (nI 10)]) (rest := []) ⟨hx, hb, hml, hown, hts⟩ (k_X3_belowN l t 10 (by omega) (by omega)) (va_cwS 2 hts gX3_addUnit_X3_below rfl rfl rfl (by decide +kernel) ⟨Nat.le_of_ble_eq_true rfl, Nat.le_of_ble_eq_true rfl⟩) wt_PS rfl rfl hl.1 rfl (lv_room (Nat.le_of_ble_eq_true rfl)) dX3_addUnit_11 ⟨Nat.zero_le _, Nat.zero_le _⟩) ?_
    refine wt_if_eqB (tgt := 28) hx hb dX3_addUnit_14 (by decide) (fun c_14_2 => ?_) (fun c_14_2 => ?_)
    · exfalso; omega
    · refine lv_iload_n hx hb dX3_addUnit_17 rfl (lv_at hl 3 rfl) ?_
      refine lv_iconst (v := nI 1) hx hb dX3_addUnit_18 (by decide +kernel) ?_
      refine wt_icmp_lt (tgt := 28) hx hb (by omega) (by omega) dX3_addUnit_19 (by decide) (fun c_19_3 => ?_) (fun c_19_3 => ?_)
      · exfalso; omega
      · refine lv_iload_n hx hb dX3_addUnit_22 rfl (lv_at hl 3 rfl) ?_
        refine lv_bipush (v := nI 9) hx hb dX3_addUnit_23 (by decide +kernel) ?_
        refine wt_icmp_le (tgt := 38) hx hb (by omega) (by omega) dX3_addUnit_25 (by decide) (fun c_25_4 => ?_) (fun c_25_4 => ?_)
        · refine lv_aload_n hx hb dX3_addUnit_38 rfl (lv_at hl 0 rfl) ?_
          refine va_get (D := (dC, dI)) (ci := 3) (v := .int (nI nt)) (C := RX3) (T := TX3) (N := 7) hx hb hts inX3 hown hK hP 0 rfl rfl 6 (by decide) (hts (.fieldLink RX3 40 "WarTable" "turns" "I") (List.mem_of_getElem? (i := 5) rfl)) (fun _ h9 => h9) rfl dX3_addUnit_39 ?_
          refine wt_if_gt (tgt := 79) hx hb (by omega) dX3_addUnit_42 (by decide) (fun c_42_5 => ?_) (fun c_42_5 => ?_)
          · exact wt_throw hx hb hfl (cls := "java/lang/IllegalStateException") (ik := 62) (is := 91) (ic := 66) hown (by decide +kernel) (hts (.classLink RX3 62 "java/lang/IllegalStateException") (List.mem_of_getElem? (i := 3) rfl)) (hts (.initialized "java/lang/IllegalStateException") (List.mem_of_getElem? (i := 4) rfl)) hX (List.mem_of_getElem? (i := 5) rfl) (wt_hat hX (List.mem_of_getElem? (i := 1) rfl) wt_xg2 (fun w h9 => hts w (List.mem_cons_of_mem _ (List.mem_append_right _ (h9))))) wt_xo2 rfl (by rw [hml]; exact hl.1) dX3_addUnit_79 dX3_addUnit_82 dX3_addUnit_83 dX3_addUnit_85 dX3_addUnit_88 hta (Nat.le_of_ble_eq_true rfl) (Nat.le_of_ble_eq_true rfl) (Nat.le_of_ble_eq_true rfl) (Nat.le_of_ble_eq_true rfl) hlocks
          · refine lv_aload_n hx hb dX3_addUnit_45 rfl (lv_at hl 0 rfl) ?_
            refine va_get (D := (dC, dI)) (ci := 3) (v := .ref hu) (C := RX3) (T := TX3) (N := 7) hx hb hts inX3 hown hK hP 0 rfl rfl 2 (by decide) (hts (.fieldLink RX3 23 "WarTable" "units" "LWarTable$Units;") (List.mem_of_getElem? (i := 6) rfl)) (fun _ h9 => h9) rfl dX3_addUnit_46 ?_
            refine lv_aload_n hx hb dX3_addUnit_49 rfl (lv_at hl 0 rfl) ?_
            refine va_get (D := (dC, dI)) (ci := 3) (v := .int (nI nt)) (C := RX3) (T := TX3) (N := 7) hx hb hts inX3 hown hK hP 0 rfl rfl 6 (by decide) (hts (.fieldLink RX3 40 "WarTable" "turns" "I") (List.mem_of_getElem? (i := 5) rfl)) (fun _ h9 => h9) rfl dX3_addUnit_50 ?_
            refine lv_iload_n hx hb dX3_addUnit_53 rfl (lv_at hl 1 rfl) ?_
            refine wt_ro_go (va_runS (As := [.int (nI d)]) (rest := [.int (nI nt), .ref hu]) ⟨hx, hb, hml, hown, hts⟩ (k_X3_opponent l d (by omega)) (va_cwS 1 hts gX3_addUnit_X3_opponent rfl rfl rfl (by decide +kernel) ⟨Nat.le_of_ble_eq_true rfl, Nat.le_of_ble_eq_true rfl⟩) wt_PS rfl rfl hl.1 rfl (lv_room (Nat.le_of_ble_eq_true rfl)) dX3_addUnit_54 ⟨Nat.zero_le _, Nat.zero_le _⟩) ?_
            refine wt_ro_go (va_runV (As := [.int (nI nt), .int (nI (1 - d))]) (rest := []) ⟨hx, hb, hml, hown, hts⟩ (k_X2_townsHeld l dC dI cI hu sd tw st od fs ft ff fo cn nt (1 - d) (by omega) (by omega)) (cwV 2 hts gX3_addUnit_X2_townsHeld rfl rfl rfl (by decide +kernel) ⟨Nat.le_of_ble_eq_true rfl, Nat.le_of_ble_eq_true rfl⟩) (wt_PV (C := RX2) (T := TX2) (N := 5) (ci := 2) (q0 := 7) hK hP hN rfl rfl [7, 8, 9, 10, 11] rfl) rfl rfl hl.1 rfl (lv_room (Nat.le_of_ble_eq_true rfl)) dX3_addUnit_57 ⟨Nat.zero_le _, Nat.zero_le _⟩) ?_
            refine lv_iload_n hx hb dX3_addUnit_60 rfl (lv_at hl 2 rfl) ?_
            refine wt_ro_go (va_runS (As := [.int (wt_held fs ft nt (1 - d) cn), .int (nI t)]) (rest := []) ⟨hx, hb, hml, hown, hts⟩ (k_X3_has l (wt_held fs ft nt (1 - d) cn) (nI t)) (va_cwS 2 hts gX3_addUnit_X3_has rfl rfl rfl (by decide +kernel) ⟨Nat.le_of_ble_eq_true rfl, Nat.le_of_ble_eq_true rfl⟩) wt_PS rfl rfl hl.1 rfl (lv_room (Nat.le_of_ble_eq_true rfl)) dX3_addUnit_61 ⟨Nat.zero_le _, Nat.zero_le _⟩) ?_
            refine wt_if_neB (tgt := 79) hx hb dX3_addUnit_64 (by decide) (fun c_64_6 => ?_) (fun c_64_6 => ?_)
            · exact wt_throw hx hb hfl (cls := "java/lang/IllegalStateException") (ik := 62) (is := 91) (ic := 66) hown (by decide +kernel) (hts (.classLink RX3 62 "java/lang/IllegalStateException") (List.mem_of_getElem? (i := 3) rfl)) (hts (.initialized "java/lang/IllegalStateException") (List.mem_of_getElem? (i := 4) rfl)) hX (List.mem_of_getElem? (i := 5) rfl) (wt_hat hX (List.mem_of_getElem? (i := 1) rfl) wt_xg2 (fun w h9 => hts w (List.mem_cons_of_mem _ (List.mem_append_right _ (h9))))) wt_xo2 rfl (by rw [hml]; exact hl.1) dX3_addUnit_79 dX3_addUnit_82 dX3_addUnit_83 dX3_addUnit_85 dX3_addUnit_88 hta (Nat.le_of_ble_eq_true rfl) (Nat.le_of_ble_eq_true rfl) (Nat.le_of_ble_eq_true rfl) (Nat.le_of_ble_eq_true rfl) hlocks
            · refine lv_aload_n hx hb dX3_addUnit_67 rfl (lv_at hl 0 rfl) ?_
              refine va_get (D := (dC, dI)) (ci := 3) (v := .ref hu) (C := RX3) (T := TX3) (N := 7) hx hb hts inX3 hown hK hP 0 rfl rfl 2 (by decide) (hts (.fieldLink RX3 23 "WarTable" "units" "LWarTable$Units;") (List.mem_of_getElem? (i := 6) rfl)) (fun _ h9 => h9) rfl dX3_addUnit_68 ?_
              refine wt_ro_go (va_runV (As := []) (rest := []) ⟨hx, hb, hml, hown, hts⟩ (k_X2_count l dC dI cI hu sd tw st od fs ft ff fo cn) (cwV 0 hts gX3_addUnit_X2_count rfl rfl rfl (by decide +kernel) ⟨Nat.le_of_ble_eq_true rfl, Nat.le_of_ble_eq_true rfl⟩) (wt_PV (C := RX2) (T := TX2) (N := 5) (ci := 2) (q0 := 7) hK hP hN rfl rfl [7, 8, 9, 10, 11] rfl) rfl rfl hl.1 rfl (lv_room (Nat.le_of_ble_eq_true rfl)) dX3_addUnit_71 ⟨Nat.zero_le _, Nat.zero_le _⟩) ?_
              refine lv_bipush (v := nI 12) hx hb dX3_addUnit_74 (by decide +kernel) ?_
              refine wt_icmp_lt (tgt := 89) hx hb (by omega) (by omega) dX3_addUnit_76 (by decide) (fun c_76_7 => ?_) (fun c_76_7 => ?_)
              · exfalso; exact hn9.elim (fun z => by omega) (fun z => z.elim (fun z => absurd z c_64_6) (fun z => by omega))
              · exact wt_throw hx hb hfl (cls := "java/lang/IllegalStateException") (ik := 62) (is := 91) (ic := 66) hown (by decide +kernel) (hts (.classLink RX3 62 "java/lang/IllegalStateException") (List.mem_of_getElem? (i := 3) rfl)) (hts (.initialized "java/lang/IllegalStateException") (List.mem_of_getElem? (i := 4) rfl)) hX (List.mem_of_getElem? (i := 5) rfl) (wt_hat hX (List.mem_of_getElem? (i := 1) rfl) wt_xg2 (fun w h9 => hts w (List.mem_cons_of_mem _ (List.mem_append_right _ (h9))))) wt_xo2 rfl (by rw [hml]; exact hl.1) dX3_addUnit_79 dX3_addUnit_82 dX3_addUnit_83 dX3_addUnit_85 dX3_addUnit_88 hta (Nat.le_of_ble_eq_true rfl) (Nat.le_of_ble_eq_true rfl) (Nat.le_of_ble_eq_true rfl) (Nat.le_of_ble_eq_true rfl) hlocks
        · exfalso; omega
set_option maxHeartbeats 4000000 in
set_option maxRecDepth 100000 in
theorem k_X3_orderS (l : Launch) (dC : Nat → ClassId) (dI : Nat → Nat → Nat) (cI : ClassId) (h : Nat) (dp : Nat) (we : Nat) (se : Nat) (fd : Nat → Int32) (fw : Nat → Int32) (fe : Nat → Int32) (nt : Nat) (hm : Nat) (pv : Nat) (up : Nat) (fp : Nat → Int32) (fu : Nat → Int32) (nr : Nat) (hu : Nat) (sd : Nat) (tw : Nat) (st : Nat) (od : Nat) (fs : Nat → Int32) (ft : Nat → Int32) (ff : Nat → Int32) (fo : Nat → Int32) (cn : Nat) (hq : Nat) (rt : Nat) (rv : Nat) (gt : Nat → Int32) (gw : Nat → Int32) (rc : Nat) (u : Nat) (y : Int32) (sz : Nat) (hcn : cn ≤ 12) (hnt : nt ≤ 20) (hu2 : u < cn) (hy : wt_ok y) : Met l yX3_order wsX3_order ({ frames := 7, cells := 0, slots := 0, locals := 111 }) (va_Pc [.ref h, .int (nI u), .int y] (wt_pm (dC, dI) cI [(h, .inr (3, [.ref hm, .ref dp, .ref hu, .ref we, .ref se, .ref hq, .int (nI nt)])), (dp, .inl (cI, 2, .inl fd)), (we, .inl (cI, 20, .inl fw)), (se, .inl (cI, 20, .inl fe)), (hm, .inr (0, [.ref pv, .ref up, .int (nI nr)])), (pv, .inl (cI, 10, .inl fp)), (up, .inl (cI, 10, .inl fu)), (hu, .inr (2, [.ref sd, .ref tw, .ref st, .ref od, .int (nI cn)])), (sd, .inl (cI, 12, .inl fs)), (tw, .inl (cI, 264, .inl ft)), (st, .inl (cI, 264, .inl ff)), (od, .inl (cI, 264, .inl fo)), (hq, .inr (1, [.ref rt, .ref rv, .int (nI rc)])), (rt, .inl (cI, 512, .inl gt)), (rv, .inl (cI, 512, .inl gw))] sz)) (wt_mu (some (.int (fo (nt * 12 + u) - nI 1))) (dC, dI) [(h, .inr (3, [.ref hm, .ref dp, .ref hu, .ref we, .ref se, .ref hq, .int (nI nt)])), (dp, .inl (cI, 2, .inl fd)), (we, .inl (cI, 20, .inl fw)), (se, .inl (cI, 20, .inl fe)), (hm, .inr (0, [.ref pv, .ref up, .int (nI nr)])), (pv, .inl (cI, 10, .inl fp)), (up, .inl (cI, 10, .inl fu)), (hu, .inr (2, [.ref sd, .ref tw, .ref st, .ref od, .int (nI cn)])), (sd, .inl (cI, 12, .inl fs)), (tw, .inl (cI, 264, .inl ft)), (st, .inl (cI, 264, .inl ff)), (od, .inl (cI, 264, .inl (upd fo (nt * 12 + u) (y + nI 1)))), (hq, .inr (1, [.ref rt, .ref rv, .int (nI rc)])), (rt, .inl (cI, 512, .inl gt)), (rv, .inl (cI, 512, .inl gw))] (va_A [(h, .inr (3, [.ref hm, .ref dp, .ref hu, .ref we, .ref se, .ref hq, .int (nI nt)])), (dp, .inl (cI, 2, .inl fd)), (we, .inl (cI, 20, .inl fw)), (se, .inl (cI, 20, .inl fe)), (hm, .inr (0, [.ref pv, .ref up, .int (nI nr)])), (pv, .inl (cI, 10, .inl fp)), (up, .inl (cI, 10, .inl fu)), (hu, .inr (2, [.ref sd, .ref tw, .ref st, .ref od, .int (nI cn)])), (sd, .inl (cI, 12, .inl fs)), (tw, .inl (cI, 264, .inl ft)), (st, .inl (cI, 264, .inl ff)), (od, .inl (cI, 264, .inl fo)), (hq, .inr (1, [.ref rt, .ref rv, .int (nI rc)])), (rt, .inl (cI, 512, .inl gt)), (rv, .inl (cI, 512, .inl gw))] sz)) 0 0 (va_A [(h, .inr (3, [.ref hm, .ref dp, .ref hu, .ref we, .ref se, .ref hq, .int (nI nt)])), (dp, .inl (cI, 2, .inl fd)), (we, .inl (cI, 20, .inl fw)), (se, .inl (cI, 20, .inl fe)), (hm, .inr (0, [.ref pv, .ref up, .int (nI nr)])), (pv, .inl (cI, 10, .inl fp)), (up, .inl (cI, 10, .inl fu)), (hu, .inr (2, [.ref sd, .ref tw, .ref st, .ref od, .int (nI cn)])), (sd, .inl (cI, 12, .inl fs)), (tw, .inl (cI, 264, .inl ft)), (st, .inl (cI, 264, .inl ff)), (od, .inl (cI, 264, .inl fo)), (hq, .inr (1, [.ref rt, .ref rv, .int (nI rc)])), (rt, .inl (cI, 512, .inl gt)), (rv, .inl (cI, 512, .inl gw))] sz) := by
  refine Met.ofW (cc := cX3_order) (maxL := 4) (ret := (some .int)) (by decide) rfl ?_
  intro p e s m args below meth c s₁ B hml hv
  obtain ⟨rfl, hsz, ⟨hP, hK, hN⟩, hD0⟩ := hv
  have hx := B.exec
  have hb := B.bytes
  have hr := B.returns
  have hts := atoms_spec (ws := wsX3_order) B.pre
  have hown : s.vm.findClass RX3 = some m.cls := findClass_of_methodNamed B.named
  have hlocks := B.notSynchronized
  subst hsz
  have hD := hD0.self (sz := s.heap.size)
  generalize hAe : va_A [(h, .inr (3, [.ref hm, .ref dp, .ref hu, .ref we, .ref se, .ref hq, .int (nI nt)])), (dp, .inl (cI, 2, .inl fd)), (we, .inl (cI, 20, .inl fw)), (se, .inl (cI, 20, .inl fe)), (hm, .inr (0, [.ref pv, .ref up, .int (nI nr)])), (pv, .inl (cI, 10, .inl fp)), (up, .inl (cI, 10, .inl fu)), (hu, .inr (2, [.ref sd, .ref tw, .ref st, .ref od, .int (nI cn)])), (sd, .inl (cI, 12, .inl fs)), (tw, .inl (cI, 264, .inl ft)), (st, .inl (cI, 264, .inl ff)), (od, .inl (cI, 264, .inl fo)), (hq, .inr (1, [.ref rt, .ref rv, .int (nI rc)])), (rt, .inl (cI, 512, .inl gt)), (rv, .inl (cI, 512, .inl gw))] s.heap.size = A at hD ⊢
  have hA : ∀ q : Nat, s.heap.size ≤ q → A q := fun q h => by rw [← hAe]; exact Or.inr h
  have hS : va_S A s.heap s.heap [] := va_S.rf
  have inX2 : ∀ w ∈ wsX20, w ∈ wsX3_order := wt_in [43, 44, 45, 46, 47] (by decide +kernel)
  have inX3 : ∀ w ∈ wsX30, w ∈ wsX3_order := wt_in [36, 37, 38, 39, 40, 41, 42] (by decide +kernel)
  have hl := lv_entry ([.ref h, .int (nI u), .int y]) (n := 4) (Nat.le_of_ble_eq_true rfl)
  rw [lg_entry_eq]
  generalize (lg_sl ([.ref h, .int (nI u), .int y]) ++ List.replicate (4 - (lg_sl ([.ref h, .int (nI u), .int y])).length) Slot.unset).toArray = ls at hl ⊢
  have hl : lv_has ls 4 [(0, .ref h), (1, .int (nI u)), (2, .int y)] := hl
  refine lv_aload_n hx hb dX3_order_0 rfl (lv_at hl 0 rfl) ?_
  refine lv_iload_n hx hb dX3_order_1 rfl (lv_at hl 1 rfl) ?_
  refine wt_rv_go (va_runV (As := [.int (nI u)]) (rest := []) ⟨hx, hb, hml, hown, hts⟩ (k_X3_checkUnitS l dC dI cI h dp we se fd fw fe nt hm pv up fp fu nr hu sd tw st od fs ft ff fo cn hq rt rv gt gw rc u (by omega) (by omega)) (cwV 1 hts gX3_order_X3_checkUnit rfl rfl rfl (by decide +kernel) ⟨Nat.le_of_ble_eq_true rfl, Nat.le_of_ble_eq_true rfl⟩) (wt_PV (C := RX3) (T := TX3) (N := 7) (ci := 3) (q0 := 0) hK hP hN rfl rfl [0, 1, 2, 3, 4, 5, 6, 7, 8, 9, 10, 11, 12, 13, 14] rfl) rfl rfl hl.1 rfl (lv_room (Nat.le_of_ble_eq_true rfl)) dX3_order_2 ⟨Nat.zero_le _, Nat.zero_le _⟩) ?_
  refine lv_iload_n hx hb dX3_order_5 rfl (lv_at hl 2 rfl) ?_
  refine lv_iconst (v := (-1)) hx hb dX3_order_6 (by decide +kernel) ?_
  refine wt_icmp_eqI (tgt := 29) hx hb dX3_order_7 (by decide) (fun c_7_1 => ?_) (fun c_7_1 => ?_)
  · refine lv_aload_n hx hb dX3_order_29 rfl (lv_at hl 0 rfl) ?_
    refine va_get (D := (dC, dI)) (ci := 3) (v := .ref hu) (C := RX3) (T := TX3) (N := 7) hx hb hts inX3 hown hK hP 0 rfl rfl 2 (by decide) (hts (.fieldLink RX3 23 "WarTable" "units" "LWarTable$Units;") (List.mem_of_getElem? (i := 3) rfl)) (fun _ h9 => h9) rfl dX3_order_30 ?_
    refine lv_aload_n hx hb dX3_order_33 rfl (lv_at hl 0 rfl) ?_
    refine va_get (D := (dC, dI)) (ci := 3) (v := .int (nI nt)) (C := RX3) (T := TX3) (N := 7) hx hb hts inX3 hown hK hP 0 rfl rfl 6 (by decide) (hts (.fieldLink RX3 40 "WarTable" "turns" "I") (List.mem_of_getElem? (i := 4) rfl)) (fun _ h9 => h9) rfl dX3_order_34 ?_
    refine lv_iload_n hx hb dX3_order_37 rfl (lv_at hl 1 rfl) ?_
    refine wt_ro_go (va_runV (As := [.int (nI nt), .int (nI u)]) (rest := []) ⟨hx, hb, hml, hown, hts⟩ (k_X2_orderFor l dC dI cI hu sd tw st od fs ft ff fo cn nt u (by omega) (by omega)) (cwV 2 hts gX3_order_X2_orderFor rfl rfl rfl (by decide +kernel) ⟨Nat.le_of_ble_eq_true rfl, Nat.le_of_ble_eq_true rfl⟩) (wt_PV (C := RX2) (T := TX2) (N := 5) (ci := 2) (q0 := 7) hK hP hN rfl rfl [7, 8, 9, 10, 11] rfl) rfl rfl hl.1 rfl (lv_room (Nat.le_of_ble_eq_true rfl)) dX3_order_38 ⟨Nat.zero_le _, Nat.zero_le _⟩) ?_
    refine lv_istore_n (lv' := [(3, .int (fo (nt * 12 + u) - nI 1)), (0, .ref h), (1, .int (nI u)), (2, .int y)]) hx hb dX3_order_41 rfl hl (by decide) rfl (fun ls hl => ?_)
    refine lv_aload_n hx hb dX3_order_42 rfl (lv_at hl 1 rfl) ?_
    refine va_get (D := (dC, dI)) (ci := 3) (v := .ref hu) (C := RX3) (T := TX3) (N := 7) hx hb hts inX3 hown hK hP 0 rfl rfl 2 (by decide) (hts (.fieldLink RX3 23 "WarTable" "units" "LWarTable$Units;") (List.mem_of_getElem? (i := 3) rfl)) (fun _ h9 => h9) rfl dX3_order_43 ?_
    refine lv_aload_n hx hb dX3_order_46 rfl (lv_at hl 1 rfl) ?_
    refine va_get (D := (dC, dI)) (ci := 3) (v := .int (nI nt)) (C := RX3) (T := TX3) (N := 7) hx hb hts inX3 hown hK hP 0 rfl rfl 6 (by decide) (hts (.fieldLink RX3 40 "WarTable" "turns" "I") (List.mem_of_getElem? (i := 4) rfl)) (fun _ h9 => h9) rfl dX3_order_47 ?_
    refine lv_iload_n hx hb dX3_order_50 rfl (lv_at hl 2 rfl) ?_
    refine lv_iload_n hx hb dX3_order_51 rfl (lv_at hl 3 rfl) ?_
    refine wt_mu_go (w1 := [(hu, .inr (2, [.ref sd, .ref tw, .ref st, .ref od, .int (nI cn)])), (sd, .inl (cI, 12, .inl fs)), (tw, .inl (cI, 264, .inl ft)), (st, .inl (cI, 264, .inl ff)), (od, .inl (cI, 264, .inl (upd fo (nt * 12 + u) (y + nI 1))))]) (w2 := [(h, .inr (3, [.ref hm, .ref dp, .ref hu, .ref we, .ref se, .ref hq, .int (nI nt)])), (dp, .inl (cI, 2, .inl fd)), (we, .inl (cI, 20, .inl fw)), (se, .inl (cI, 20, .inl fe)), (hm, .inr (0, [.ref pv, .ref up, .int (nI nr)])), (pv, .inl (cI, 10, .inl fp)), (up, .inl (cI, 10, .inl fu)), (hu, .inr (2, [.ref sd, .ref tw, .ref st, .ref od, .int (nI cn)])), (sd, .inl (cI, 12, .inl fs)), (tw, .inl (cI, 264, .inl ft)), (st, .inl (cI, 264, .inl ff)), (od, .inl (cI, 264, .inl (upd fo (nt * 12 + u) (y + nI 1)))), (hq, .inr (1, [.ref rt, .ref rv, .int (nI rc)])), (rt, .inl (cI, 512, .inl gt)), (rv, .inl (cI, 512, .inl gw))]) (wr := [(h, .inr (3, [.ref hm, .ref dp, .ref hu, .ref we, .ref se, .ref hq, .int (nI nt)])), (dp, .inl (cI, 2, .inl fd)), (we, .inl (cI, 20, .inl fw)), (se, .inl (cI, 20, .inl fe)), (hm, .inr (0, [.ref pv, .ref up, .int (nI nr)])), (pv, .inl (cI, 10, .inl fp)), (up, .inl (cI, 10, .inl fu)), (hq, .inr (1, [.ref rt, .ref rv, .int (nI rc)])), (rt, .inl (cI, 512, .inl gt)), (rv, .inl (cI, 512, .inl gw))]) (va_runV (As := [.int (nI nt), .int (nI u), .int y]) (rest := []) ⟨hx, hb, hml, hown, hts⟩ (k_X2_giveOrder l dC dI cI hu sd tw st od fs ft ff fo cn nt u y s.heap.size (by omega) (by omega)) (cwV 3 hts gX3_order_X2_giveOrder rfl rfl rfl (by decide +kernel) ⟨Nat.le_of_ble_eq_true rfl, Nat.le_of_ble_eq_true rfl⟩) (wt_PVM (C := RX2) (T := TX2) (N := 5) (ci := 2) (q0 := 7) hK hP hN hD rfl rfl [7, 8, 9, 10, 11] rfl rfl) rfl rfl hl.1 rfl (lv_room (Nat.le_of_ble_eq_true rfl)) dX3_order_52 ⟨Nat.zero_le _, Nat.zero_le _⟩) hP hD hS hA [7, 8, 9, 10, 11] [0, 1, 2, 3, 4, 5, 6, 12, 13, 14] rfl rfl rfl rfl (by decide) rfl [0, 1, 2, 3, 4, 5, 6, 10, 11, 12, 13, 14, 7, 8, 9] rfl rfl (fun H locs hP hD hS hz9 => ?_)
    refine W.eq (g2 := F0 m 55 ls []) rfl ?_
    refine lv_iload_n hx hb dX3_order_55 rfl (lv_at hl 0 rfl) ?_
    exact wt_miret hx hb hr rfl hP hS dX3_order_56 hlocks
  · refine lv_iload_n hx hb dX3_order_10 rfl (lv_at hl 2 rfl) ?_
    refine lv_bipush (v := nI 10) hx hb dX3_order_11 (by decide +kernel) ?_
    refine wt_ro_go (va_runS (As := [.int y, .int (nI 10)]) (rest := []) ⟨hx, hb, hml, hown, hts⟩ (k_X3_belowI l y 10 (by omega)) (va_cwS 2 hts gX3_order_X3_below rfl rfl rfl (by decide +kernel) ⟨Nat.le_of_ble_eq_true rfl, Nat.le_of_ble_eq_true rfl⟩) wt_PS rfl rfl hl.1 rfl (lv_room (Nat.le_of_ble_eq_true rfl)) dX3_order_13 ⟨Nat.zero_le _, Nat.zero_le _⟩) ?_
    refine wt_if_neB (tgt := 29) hx hb dX3_order_16 (by decide) (fun c_16_2 => ?_) (fun c_16_2 => ?_)
    · refine lv_aload_n hx hb dX3_order_29 rfl (lv_at hl 0 rfl) ?_
      refine va_get (D := (dC, dI)) (ci := 3) (v := .ref hu) (C := RX3) (T := TX3) (N := 7) hx hb hts inX3 hown hK hP 0 rfl rfl 2 (by decide) (hts (.fieldLink RX3 23 "WarTable" "units" "LWarTable$Units;") (List.mem_of_getElem? (i := 3) rfl)) (fun _ h9 => h9) rfl dX3_order_30 ?_
      refine lv_aload_n hx hb dX3_order_33 rfl (lv_at hl 0 rfl) ?_
      refine va_get (D := (dC, dI)) (ci := 3) (v := .int (nI nt)) (C := RX3) (T := TX3) (N := 7) hx hb hts inX3 hown hK hP 0 rfl rfl 6 (by decide) (hts (.fieldLink RX3 40 "WarTable" "turns" "I") (List.mem_of_getElem? (i := 4) rfl)) (fun _ h9 => h9) rfl dX3_order_34 ?_
      refine lv_iload_n hx hb dX3_order_37 rfl (lv_at hl 1 rfl) ?_
      refine wt_ro_go (va_runV (As := [.int (nI nt), .int (nI u)]) (rest := []) ⟨hx, hb, hml, hown, hts⟩ (k_X2_orderFor l dC dI cI hu sd tw st od fs ft ff fo cn nt u (by omega) (by omega)) (cwV 2 hts gX3_order_X2_orderFor rfl rfl rfl (by decide +kernel) ⟨Nat.le_of_ble_eq_true rfl, Nat.le_of_ble_eq_true rfl⟩) (wt_PV (C := RX2) (T := TX2) (N := 5) (ci := 2) (q0 := 7) hK hP hN rfl rfl [7, 8, 9, 10, 11] rfl) rfl rfl hl.1 rfl (lv_room (Nat.le_of_ble_eq_true rfl)) dX3_order_38 ⟨Nat.zero_le _, Nat.zero_le _⟩) ?_
      refine lv_istore_n (lv' := [(3, .int (fo (nt * 12 + u) - nI 1)), (0, .ref h), (1, .int (nI u)), (2, .int y)]) hx hb dX3_order_41 rfl hl (by decide) rfl (fun ls hl => ?_)
      refine lv_aload_n hx hb dX3_order_42 rfl (lv_at hl 1 rfl) ?_
      refine va_get (D := (dC, dI)) (ci := 3) (v := .ref hu) (C := RX3) (T := TX3) (N := 7) hx hb hts inX3 hown hK hP 0 rfl rfl 2 (by decide) (hts (.fieldLink RX3 23 "WarTable" "units" "LWarTable$Units;") (List.mem_of_getElem? (i := 3) rfl)) (fun _ h9 => h9) rfl dX3_order_43 ?_
      refine lv_aload_n hx hb dX3_order_46 rfl (lv_at hl 1 rfl) ?_
      refine va_get (D := (dC, dI)) (ci := 3) (v := .int (nI nt)) (C := RX3) (T := TX3) (N := 7) hx hb hts inX3 hown hK hP 0 rfl rfl 6 (by decide) (hts (.fieldLink RX3 40 "WarTable" "turns" "I") (List.mem_of_getElem? (i := 4) rfl)) (fun _ h9 => h9) rfl dX3_order_47 ?_
      refine lv_iload_n hx hb dX3_order_50 rfl (lv_at hl 2 rfl) ?_
      refine lv_iload_n hx hb dX3_order_51 rfl (lv_at hl 3 rfl) ?_
      refine wt_mu_go (w1 := [(hu, .inr (2, [.ref sd, .ref tw, .ref st, .ref od, .int (nI cn)])), (sd, .inl (cI, 12, .inl fs)), (tw, .inl (cI, 264, .inl ft)), (st, .inl (cI, 264, .inl ff)), (od, .inl (cI, 264, .inl (upd fo (nt * 12 + u) (y + nI 1))))]) (w2 := [(h, .inr (3, [.ref hm, .ref dp, .ref hu, .ref we, .ref se, .ref hq, .int (nI nt)])), (dp, .inl (cI, 2, .inl fd)), (we, .inl (cI, 20, .inl fw)), (se, .inl (cI, 20, .inl fe)), (hm, .inr (0, [.ref pv, .ref up, .int (nI nr)])), (pv, .inl (cI, 10, .inl fp)), (up, .inl (cI, 10, .inl fu)), (hu, .inr (2, [.ref sd, .ref tw, .ref st, .ref od, .int (nI cn)])), (sd, .inl (cI, 12, .inl fs)), (tw, .inl (cI, 264, .inl ft)), (st, .inl (cI, 264, .inl ff)), (od, .inl (cI, 264, .inl (upd fo (nt * 12 + u) (y + nI 1)))), (hq, .inr (1, [.ref rt, .ref rv, .int (nI rc)])), (rt, .inl (cI, 512, .inl gt)), (rv, .inl (cI, 512, .inl gw))]) (wr := [(h, .inr (3, [.ref hm, .ref dp, .ref hu, .ref we, .ref se, .ref hq, .int (nI nt)])), (dp, .inl (cI, 2, .inl fd)), (we, .inl (cI, 20, .inl fw)), (se, .inl (cI, 20, .inl fe)), (hm, .inr (0, [.ref pv, .ref up, .int (nI nr)])), (pv, .inl (cI, 10, .inl fp)), (up, .inl (cI, 10, .inl fu)), (hq, .inr (1, [.ref rt, .ref rv, .int (nI rc)])), (rt, .inl (cI, 512, .inl gt)), (rv, .inl (cI, 512, .inl gw))]) (va_runV (As := [.int (nI nt), .int (nI u), .int y]) (rest := []) ⟨hx, hb, hml, hown, hts⟩ (k_X2_giveOrder l dC dI cI hu sd tw st od fs ft ff fo cn nt u y s.heap.size (by omega) (by omega)) (cwV 3 hts gX3_order_X2_giveOrder rfl rfl rfl (by decide +kernel) ⟨Nat.le_of_ble_eq_true rfl, Nat.le_of_ble_eq_true rfl⟩) (wt_PVM (C := RX2) (T := TX2) (N := 5) (ci := 2) (q0 := 7) hK hP hN hD rfl rfl [7, 8, 9, 10, 11] rfl rfl) rfl rfl hl.1 rfl (lv_room (Nat.le_of_ble_eq_true rfl)) dX3_order_52 ⟨Nat.zero_le _, Nat.zero_le _⟩) hP hD hS hA [7, 8, 9, 10, 11] [0, 1, 2, 3, 4, 5, 6, 12, 13, 14] rfl rfl rfl rfl (by decide) rfl [0, 1, 2, 3, 4, 5, 6, 10, 11, 12, 13, 14, 7, 8, 9] rfl rfl (fun H locs hP hD hS hz9 => ?_)
      refine W.eq (g2 := F0 m 55 ls []) rfl ?_
      refine lv_iload_n hx hb dX3_order_55 rfl (lv_at hl 0 rfl) ?_
      exact wt_miret hx hb hr rfl hP hS dX3_order_56 hlocks
    · exact absurd (hy.resolve_left c_7_1) c_16_2
set_option maxHeartbeats 4000000 in
set_option maxRecDepth 100000 in
theorem k_X3_orderF1 (l : Launch) (hfl : l.stackTraces = false) (dC : Nat → ClassId) (dI : Nat → Nat → Nat) (cI : ClassId) (h : Nat) (dp : Nat) (we : Nat) (se : Nat) (fd : Nat → Int32) (fw : Nat → Int32) (fe : Nat → Int32) (nt : Nat) (hm : Nat) (pv : Nat) (up : Nat) (fp : Nat → Int32) (fu : Nat → Int32) (nr : Nat) (hu : Nat) (sd : Nat) (tw : Nat) (st : Nat) (od : Nat) (fs : Nat → Int32) (ft : Nat → Int32) (ff : Nat → Int32) (fo : Nat → Int32) (cn : Nat) (hq : Nat) (rt : Nat) (rv : Nat) (gt : Nat → Int32) (gw : Nat → Int32) (rc : Nat) (x : Int32) (y : Int32) (hcn : cn ≤ 12) (hnt : nt ≤ 20) (hn9 : ¬ vp_in x cn) : vx_Met l yX3_order wsX3_order ({ frames := 7, cells := 1, slots := 6, locals := 111 }) (va_Pc [.ref h, .int x, .int y] (fun U => wt_pre (dC, dI) cI [(h, .inr (3, [.ref hm, .ref dp, .ref hu, .ref we, .ref se, .ref hq, .int (nI nt)])), (dp, .inl (cI, 2, .inl fd)), (we, .inl (cI, 20, .inl fw)), (se, .inl (cI, 20, .inl fe)), (hm, .inr (0, [.ref pv, .ref up, .int (nI nr)])), (pv, .inl (cI, 10, .inl fp)), (up, .inl (cI, 10, .inl fu)), (hu, .inr (2, [.ref sd, .ref tw, .ref st, .ref od, .int (nI cn)])), (sd, .inl (cI, 12, .inl fs)), (tw, .inl (cI, 264, .inl ft)), (st, .inl (cI, 264, .inl ff)), (od, .inl (cI, 264, .inl fo)), (hq, .inr (1, [.ref rt, .ref rv, .int (nI rc)])), (rt, .inl (cI, 512, .inl gt)), (rv, .inl (cI, 512, .inl gw))] U ∧ wt_xe U)) wt_nv (wt_xc "java/lang/IndexOutOfBoundsException") 1 6 wt_no := by
  refine vx_ofW (cc := cX3_order) (maxL := 4) (ret := (some .int)) (by decide) rfl ?_
  intro p e s m args below meth c s₁ B hml hta hv
  obtain ⟨rfl, ⟨hP, hK, hN⟩, hX⟩ := hv
  have hx := B.exec
  have hb := B.bytes
  have hr := B.returns
  have hts := atoms_spec (ws := wsX3_order) B.pre
  have hown : s.vm.findClass RX3 = some m.cls := findClass_of_methodNamed B.named
  have hlocks := B.notSynchronized
  have inX2 : ∀ w ∈ wsX20, w ∈ wsX3_order := wt_in [43, 44, 45, 46, 47] (by decide +kernel)
  have inX3 : ∀ w ∈ wsX30, w ∈ wsX3_order := wt_in [36, 37, 38, 39, 40, 41, 42] (by decide +kernel)
  have hl := lv_entry ([.ref h, .int x, .int y]) (n := 4) (Nat.le_of_ble_eq_true rfl)
  rw [lg_entry_eq]
  generalize (lg_sl ([.ref h, .int x, .int y]) ++ List.replicate (4 - (lg_sl ([.ref h, .int x, .int y])).length) Slot.unset).toArray = ls at hl ⊢
  have hl : lv_has ls 4 [(0, .ref h), (1, .int x), (2, .int y)] := hl
  refine lv_aload_n hx hb dX3_order_0 rfl (lv_at hl 0 rfl) ?_
  refine lv_iload_n hx hb dX3_order_1 rfl (lv_at hl 1 rfl) ?_
  exact wt_thr_call hta hlocks rfl (vx_runV (As := [.int x]) (rest := []) ⟨hx, hb, hml, hown, hts⟩ (k_X3_checkUnitF l hfl dC dI cI h dp we se fd fw fe nt hm pv up fp fu nr hu sd tw st od fs ft ff fo cn hq rt rv gt gw rc x (by omega) (by omega)) (cwV 1 hts gX3_order_X3_checkUnit rfl rfl rfl (by decide +kernel) ⟨Nat.le_of_ble_eq_true rfl, Nat.le_of_ble_eq_true rfl⟩) (wt_PXV (C := RX3) (T := TX3) (N := 7) (ci := 3) (q0 := 0) hX rfl hK hP hN rfl rfl [0, 1, 2, 3, 4, 5, 6, 7, 8, 9, 10, 11, 12, 13, 14] rfl) rfl rfl hl.1 rfl (lv_room (Nat.le_of_ble_eq_true rfl)) dX3_order_2 ⟨Nat.le_of_ble_eq_true rfl, Nat.le_of_ble_eq_true rfl⟩)
set_option maxHeartbeats 4000000 in
set_option maxRecDepth 100000 in
theorem k_X3_orderF2 (l : Launch) (hfl : l.stackTraces = false) (dC : Nat → ClassId) (dI : Nat → Nat → Nat) (cI : ClassId) (h : Nat) (dp : Nat) (we : Nat) (se : Nat) (fd : Nat → Int32) (fw : Nat → Int32) (fe : Nat → Int32) (nt : Nat) (hm : Nat) (pv : Nat) (up : Nat) (fp : Nat → Int32) (fu : Nat → Int32) (nr : Nat) (hu : Nat) (sd : Nat) (tw : Nat) (st : Nat) (od : Nat) (fs : Nat → Int32) (ft : Nat → Int32) (ff : Nat → Int32) (fo : Nat → Int32) (cn : Nat) (hq : Nat) (rt : Nat) (rv : Nat) (gt : Nat → Int32) (gw : Nat → Int32) (rc : Nat) (u : Nat) (y : Int32) (hcn : cn ≤ 12) (hnt : nt ≤ 20) (hu2 : u < cn) (hn9 : ¬ wt_ok y) : vx_Met l yX3_order wsX3_order ({ frames := 7, cells := 1, slots := 6, locals := 111 }) (va_Pc [.ref h, .int (nI u), .int y] (fun U => wt_pre (dC, dI) cI [(h, .inr (3, [.ref hm, .ref dp, .ref hu, .ref we, .ref se, .ref hq, .int (nI nt)])), (dp, .inl (cI, 2, .inl fd)), (we, .inl (cI, 20, .inl fw)), (se, .inl (cI, 20, .inl fe)), (hm, .inr (0, [.ref pv, .ref up, .int (nI nr)])), (pv, .inl (cI, 10, .inl fp)), (up, .inl (cI, 10, .inl fu)), (hu, .inr (2, [.ref sd, .ref tw, .ref st, .ref od, .int (nI cn)])), (sd, .inl (cI, 12, .inl fs)), (tw, .inl (cI, 264, .inl ft)), (st, .inl (cI, 264, .inl ff)), (od, .inl (cI, 264, .inl fo)), (hq, .inr (1, [.ref rt, .ref rv, .int (nI rc)])), (rt, .inl (cI, 512, .inl gt)), (rv, .inl (cI, 512, .inl gw))] U ∧ wt_xe U)) wt_nv (wt_xc "java/lang/IllegalArgumentException") 1 6 wt_no := by
  refine vx_ofW (cc := cX3_order) (maxL := 4) (ret := (some .int)) (by decide) rfl ?_
  intro p e s m args below meth c s₁ B hml hta hv
  obtain ⟨rfl, ⟨hP, hK, hN⟩, hX⟩ := hv
  have hx := B.exec
  have hb := B.bytes
  have hr := B.returns
  have hts := atoms_spec (ws := wsX3_order) B.pre
  have hown : s.vm.findClass RX3 = some m.cls := findClass_of_methodNamed B.named
  have hlocks := B.notSynchronized
  have inX2 : ∀ w ∈ wsX20, w ∈ wsX3_order := wt_in [43, 44, 45, 46, 47] (by decide +kernel)
  have inX3 : ∀ w ∈ wsX30, w ∈ wsX3_order := wt_in [36, 37, 38, 39, 40, 41, 42] (by decide +kernel)
  have hl := lv_entry ([.ref h, .int (nI u), .int y]) (n := 4) (Nat.le_of_ble_eq_true rfl)
  rw [lg_entry_eq]
  generalize (lg_sl ([.ref h, .int (nI u), .int y]) ++ List.replicate (4 - (lg_sl ([.ref h, .int (nI u), .int y])).length) Slot.unset).toArray = ls at hl ⊢
  have hl : lv_has ls 4 [(0, .ref h), (1, .int (nI u)), (2, .int y)] := hl
  refine lv_aload_n hx hb dX3_order_0 rfl (lv_at hl 0 rfl) ?_
  refine lv_iload_n hx hb dX3_order_1 rfl (lv_at hl 1 rfl) ?_
  refine wt_rv_go (va_runV (As := [.int (nI u)]) (rest := []) ⟨hx, hb, hml, hown, hts⟩ (k_X3_checkUnitS l dC dI cI h dp we se fd fw fe nt hm pv up fp fu nr hu sd tw st od fs ft ff fo cn hq rt rv gt gw rc u (by omega) (by omega)) (cwV 1 hts gX3_order_X3_checkUnit rfl rfl rfl (by decide +kernel) ⟨Nat.le_of_ble_eq_true rfl, Nat.le_of_ble_eq_true rfl⟩) (wt_PV (C := RX3) (T := TX3) (N := 7) (ci := 3) (q0 := 0) hK hP hN rfl rfl [0, 1, 2, 3, 4, 5, 6, 7, 8, 9, 10, 11, 12, 13, 14] rfl) rfl rfl hl.1 rfl (lv_room (Nat.le_of_ble_eq_true rfl)) dX3_order_2 ⟨Nat.zero_le _, Nat.zero_le _⟩) ?_
  refine lv_iload_n hx hb dX3_order_5 rfl (lv_at hl 2 rfl) ?_
  refine lv_iconst (v := (-1)) hx hb dX3_order_6 (by decide +kernel) ?_
  refine wt_icmp_eqI (tgt := 29) hx hb dX3_order_7 (by decide) (fun c_7_1 => ?_) (fun c_7_1 => ?_)
  · exact absurd (Or.inl c_7_1) hn9
  · refine lv_iload_n hx hb dX3_order_10 rfl (lv_at hl 2 rfl) ?_
    refine lv_bipush (v := nI 10) hx hb dX3_order_11 (by decide +kernel) ?_
    refine wt_ro_go (va_runS (As := [.int y, .int (nI 10)]) (rest := []) ⟨hx, hb, hml, hown, hts⟩ (k_X3_belowI l y 10 (by omega)) (va_cwS 2 hts gX3_order_X3_below rfl rfl rfl (by decide +kernel) ⟨Nat.le_of_ble_eq_true rfl, Nat.le_of_ble_eq_true rfl⟩) wt_PS rfl rfl hl.1 rfl (lv_room (Nat.le_of_ble_eq_true rfl)) dX3_order_13 ⟨Nat.zero_le _, Nat.zero_le _⟩) ?_
    refine wt_if_neB (tgt := 29) hx hb dX3_order_16 (by decide) (fun c_16_2 => ?_) (fun c_16_2 => ?_)
    · exact absurd (Or.inr c_16_2) hn9
    · exact wt_throw hx hb hfl (cls := "java/lang/IllegalArgumentException") (ik := 48) (is := 101) (ic := 52) hown (by decide +kernel) (hts (.classLink RX3 48 "java/lang/IllegalArgumentException") (List.mem_of_getElem? (i := 1) rfl)) (hts (.initialized "java/lang/IllegalArgumentException") (List.mem_of_getElem? (i := 2) rfl)) hX (List.mem_of_getElem? (i := 6) rfl) (wt_hat hX (List.mem_of_getElem? (i := 0) rfl) wt_xg1 (fun w h9 => hts w (List.mem_cons_of_mem _ (List.mem_append_left _ (List.mem_append_right _ (h9)))))) wt_xo1 rfl (by rw [hml]; exact hl.1) dX3_order_19 dX3_order_22 dX3_order_23 dX3_order_25 dX3_order_28 hta (Nat.le_of_ble_eq_true rfl) (Nat.le_of_ble_eq_true rfl) (Nat.le_of_ble_eq_true rfl) (Nat.le_of_ble_eq_true rfl) hlocks
