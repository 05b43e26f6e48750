set_option maxHeartbeats 4000000 in
set_option maxRecDepth 100000 in
theorem k_X2_count (l : Launch) (dC : Nat → ClassId) (dI : Nat → Nat → Nat) (cI : ClassId) (hu : Nat) (sd : Nat) (tw : Nat) (st : Nat) (od : Nat) (fs : Nat → Int32) (ft : Nat → Int32) (ff : Nat → Int32) (fo : Nat → Int32) (cn : Nat) : Met l yX2_count wsX2_count ({ frames := 0, cells := 0, slots := 0, locals := 0 }) (va_Pc [.ref hu] (wt_pre (dC, dI) cI [(hu, .inr (2, [.ref sd, .ref tw, .ref st, .ref od, .int (nI cn)])), (sd, .inl (cI, 12, .inl fs)), (tw, .inl (cI, 264, .inl ft)), (st, .inl (cI, 264, .inl ff)), (od, .inl (cI, 264, .inl fo))])) (wt_ro (nI cn)) 0 0 wt_no := by
  refine Met.ofW (cc := cX2_count) (maxL := 1) (ret := (some .int)) (by decide) rfl ?_
  intro p e s m args below meth c s₁ B hml hv
  obtain ⟨rfl, hP, hK, hN⟩ := hv
  have hx := B.exec
  have hb := B.bytes
  have hr := B.returns
  have hts := atoms_spec (ws := wsX2_count) B.pre
  have hown : s.vm.findClass RX2 = some m.cls := findClass_of_methodNamed B.named
  have hlocks := B.notSynchronized
  have inX2 : ∀ w ∈ wsX20, w ∈ wsX2_count := wt_in [2, 3, 4, 5, 6] (by decide +kernel)
  have hl := lv_entry ([.ref hu]) (n := 1) (Nat.le_of_ble_eq_true rfl)
  rw [lg_entry_eq]
  generalize (lg_sl ([.ref hu]) ++ List.replicate (1 - (lg_sl ([.ref hu])).length) Slot.unset).toArray = ls at hl ⊢
  have hl : lv_has ls 1 [(0, .ref hu)] := hl
  refine lv_aload_n hx hb dX2_count_0 rfl (lv_at hl 0 rfl) ?_
  refine va_get (D := (dC, dI)) (ci := 2) (v := .int (nI cn)) (C := RX2) (T := TX2) (N := 5) hx hb hts inX2 hown hK hP 0 rfl rfl 4 (by decide) (hts (.fieldLink RX2 24 "WarTable$Units" "count" "I") (List.mem_of_getElem? (i := 1) rfl)) (fun _ h9 => h9) rfl dX2_count_1 ?_
  exact wt_ret hx hb hr rfl rfl dX2_count_4 hlocks
set_option maxHeartbeats 4000000 in
set_option maxRecDepth 100000 in
theorem k_X2_sideOf (l : Launch) (dC : Nat → ClassId) (dI : Nat → Nat → Nat) (cI : ClassId) (hu : Nat) (sd : Nat) (tw : Nat) (st : Nat) (od : Nat) (fs : Nat → Int32) (ft : Nat → Int32) (ff : Nat → Int32) (fo : Nat → Int32) (cn : Nat) (u : Nat) (hu2 : u < 12) : Met l yX2_sideOf wsX2_sideOf ({ frames := 1, cells := 0, slots := 0, locals := 21 }) (va_Pc [.ref hu, .int (nI u)] (wt_pre (dC, dI) cI [(hu, .inr (2, [.ref sd, .ref tw, .ref st, .ref od, .int (nI cn)])), (sd, .inl (cI, 12, .inl fs)), (tw, .inl (cI, 264, .inl ft)), (st, .inl (cI, 264, .inl ff)), (od, .inl (cI, 264, .inl fo))])) (wt_ro (fs u)) 0 0 wt_no := by
  refine Met.ofW (cc := cX2_sideOf) (maxL := 2) (ret := (some .int)) (by decide) rfl ?_
  intro p e s m args below meth c s₁ B hml hv
  obtain ⟨rfl, hP, hK, hN⟩ := hv
  have hx := B.exec
  have hb := B.bytes
  have hr := B.returns
  have hts := atoms_spec (ws := wsX2_sideOf) B.pre
  have hown : s.vm.findClass RX2 = some m.cls := findClass_of_methodNamed B.named
  have hlocks := B.notSynchronized
  have inX2 : ∀ w ∈ wsX20, w ∈ wsX2_sideOf := wt_in [5, 6, 7, 8, 9] (by decide +kernel)
  have hl := lv_entry ([.ref hu, .int (nI u)]) (n := 2) (Nat.le_of_ble_eq_true rfl)
  rw [lg_entry_eq]
  generalize (lg_sl ([.ref hu, .int (nI u)]) ++ List.replicate (2 - (lg_sl ([.ref hu, .int (nI u)])).length) Slot.unset).toArray = ls at hl ⊢
  have hl : lv_has ls 2 [(0, .ref hu), (1, .int (nI u))] := hl
  refine lv_iload_n hx hb dX2_sideOf_0 rfl (lv_at hl 1 rfl) ?_
  refine lv_bipush (v := nI 12) hx hb dX2_sideOf_1 (by decide +kernel) ?_
  refine wt_ro_go (va_runSN (As := [.int (nI u), .int (nI 12)]) (rest := []) ⟨hx, hb, hml, hown, hts⟩ (k_X3_belowN l u 12 (by omega) (by omega)) ⟨va_cnB (host := RX3) 2 hts gX2_sideOf_X3_below_n28 rfl rfl rfl (hN _ (List.mem_of_getElem? (i := 6) rfl)) (hts (.initialized RX3) (List.mem_of_getElem? (i := 3) rfl)) (by decide +kernel) ⟨Nat.le_of_ble_eq_true rfl, Nat.le_of_ble_eq_true rfl⟩, (hts (.static yX3_below) (List.mem_of_getElem? (i := 2) rfl)), trivial⟩ wt_PS rfl rfl hl.1 rfl (lv_room (Nat.le_of_ble_eq_true rfl)) dX2_sideOf_3 ⟨Nat.zero_le _, Nat.zero_le _⟩) ?_
  refine wt_if_eqB (tgt := 18) hx hb dX2_sideOf_6 (by decide) (fun c_6_1 => ?_) (fun c_6_1 => ?_)
  · exfalso; omega
  · refine lv_aload_n hx hb dX2_sideOf_9 rfl (lv_at hl 0 rfl) ?_
    refine va_get (D := (dC, dI)) (ci := 2) (v := .ref sd) (C := RX2) (T := TX2) (N := 5) hx hb hts inX2 hown hK hP 0 rfl rfl 0 (by decide) (hts (.fieldLink RX2 9 "WarTable$Units" "sides" "[I") (List.mem_of_getElem? (i := 1) rfl)) (fun _ h9 => h9) rfl dX2_sideOf_10 ?_
    refine lv_iload_n hx hb dX2_sideOf_13 rfl (lv_at hl 1 rfl) ?_
    refine wt_iald hx hb hK hP 1 rfl (by omega) (by omega) dX2_sideOf_14 ?_
    refine lv_goto (tgt := 19) hx hb dX2_sideOf_15 (by decide) ?_
    exact wt_ret hx hb hr rfl rfl dX2_sideOf_19 hlocks
set_option maxHeartbeats 4000000 in
set_option maxRecDepth 100000 in
theorem k_X2_townAt (l : Launch) (dC : Nat → ClassId) (dI : Nat → Nat → Nat) (cI : ClassId) (hu : Nat) (sd : Nat) (tw : Nat) (st : Nat) (od : Nat) (fs : Nat → Int32) (ft : Nat → Int32) (ff : Nat → Int32) (fo : Nat → Int32) (cn : Nat) (k : Nat) (u : Nat) (hk : k < 22) (hu2 : u < 12) : Met l yX2_townAt wsX2_townAt ({ frames := 1, cells := 0, slots := 0, locals := 21 }) (va_Pc [.ref hu, .int (nI k), .int (nI u)] (wt_pre (dC, dI) cI [(hu, .inr (2, [.ref sd, .ref tw, .ref st, .ref od, .int (nI cn)])), (sd, .inl (cI, 12, .inl fs)), (tw, .inl (cI, 264, .inl ft)), (st, .inl (cI, 264, .inl ff)), (od, .inl (cI, 264, .inl fo))])) (wt_ro (ft (k * 12 + u))) 0 0 wt_no := by
  refine Met.ofW (cc := cX2_townAt) (maxL := 3) (ret := (some .int)) (by decide) rfl ?_
  intro p e s m args below meth c s₁ B hml hv
  obtain ⟨rfl, hP, hK, hN⟩ := hv
  have hx := B.exec
  have hb := B.bytes
  have hr := B.returns
  have hts := atoms_spec (ws := wsX2_townAt) B.pre
  have hown : s.vm.findClass RX2 = some m.cls := findClass_of_methodNamed B.named
  have hlocks := B.notSynchronized
  have inX2 : ∀ w ∈ wsX20, w ∈ wsX2_townAt := wt_in [9, 10, 11, 12, 13] (by decide +kernel)
  have hl := lv_entry ([.ref hu, .int (nI k), .int (nI u)]) (n := 3) (Nat.le_of_ble_eq_true rfl)
  rw [lg_entry_eq]
  generalize (lg_sl ([.ref hu, .int (nI k), .int (nI u)]) ++ List.replicate (3 - (lg_sl ([.ref hu, .int (nI k), .int (nI u)])).length) Slot.unset).toArray = ls at hl ⊢
  have hl : lv_has ls 3 [(0, .ref hu), (1, .int (nI k)), (2, .int (nI u))] := hl
  refine lv_iload_n hx hb dX2_townAt_0 rfl (lv_at hl 1 rfl) ?_
  refine lv_iload_n hx hb dX2_townAt_1 rfl (lv_at hl 2 rfl) ?_
  refine wt_ro_go (va_runS (As := [.int (nI k), .int (nI u)]) (rest := []) ⟨hx, hb, hml, hown, hts⟩ (k_X2_isKept l k u (by omega) (by omega)) (va_cwS 2 hts gX2_townAt_X2_isKept rfl rfl rfl (by decide +kernel) ⟨Nat.le_of_ble_eq_true rfl, Nat.le_of_ble_eq_true rfl⟩) wt_PS rfl rfl hl.1 rfl (lv_room (Nat.le_of_ble_eq_true rfl)) dX2_townAt_2 ⟨Nat.zero_le _, Nat.zero_le _⟩) ?_
  refine wt_if_eqB (tgt := 21) hx hb dX2_townAt_5 (by decide) (fun c_5_1 => ?_) (fun c_5_1 => ?_)
  · exfalso; omega
  · refine lv_aload_n hx hb dX2_townAt_8 rfl (lv_at hl 0 rfl) ?_
    refine va_get (D := (dC, dI)) (ci := 2) (v := .ref tw) (C := RX2) (T := TX2) (N := 5) hx hb hts inX2 hown hK hP 0 rfl rfl 1 (by decide) (hts (.fieldLink RX2 15 "WarTable$Units" "towns" "[I") (List.mem_of_getElem? (i := 1) rfl)) (fun _ h9 => h9) rfl dX2_townAt_9 ?_
    refine lv_iload_n hx hb dX2_townAt_12 rfl (lv_at hl 1 rfl) ?_
    refine lv_iload_n hx hb dX2_townAt_13 rfl (lv_at hl 2 rfl) ?_
    refine wt_ro_go (va_runS (As := [.int (nI k), .int (nI u)]) (rest := [.ref tw]) ⟨hx, hb, hml, hown, hts⟩ (k_X2_index l k u) (va_cwS 2 hts gX2_townAt_X2_index rfl rfl rfl (by decide +kernel) ⟨Nat.le_of_ble_eq_true rfl, Nat.le_of_ble_eq_true rfl⟩) wt_PS rfl rfl hl.1 rfl (lv_room (Nat.le_of_ble_eq_true rfl)) dX2_townAt_14 ⟨Nat.zero_le _, Nat.zero_le _⟩) ?_
    refine wt_iald hx hb hK hP 2 rfl (by omega) (by omega) dX2_townAt_17 ?_
    refine lv_goto (tgt := 22) hx hb dX2_townAt_18 (by decide) ?_
    exact wt_ret hx hb hr rfl rfl dX2_townAt_22 hlocks
set_option maxHeartbeats 4000000 in
set_option maxRecDepth 100000 in
theorem k_X2_strengthAt (l : Launch) (dC : Nat → ClassId) (dI : Nat → Nat → Nat) (cI : ClassId) (hu : Nat) (sd : Nat) (tw : Nat) (st : Nat) (od : Nat) (fs : Nat → Int32) (ft : Nat → Int32) (ff : Nat → Int32) (fo : Nat → Int32) (cn : Nat) (k : Nat) (u : Nat) (hk : k < 22) (hu2 : u < 12) : Met l yX2_strengthAt wsX2_strengthAt ({ frames := 1, cells := 0, slots := 0, locals := 21 }) (va_Pc [.ref hu, .int (nI k), .int (nI u)] (wt_pre (dC, dI) cI [(hu, .inr (2, [.ref sd, .ref tw, .ref st, .ref od, .int (nI cn)])), (sd, .inl (cI, 12, .inl fs)), (tw, .inl (cI, 264, .inl ft)), (st, .inl (cI, 264, .inl ff)), (od, .inl (cI, 264, .inl fo))])) (wt_ro (ff (k * 12 + u))) 0 0 wt_no := by
  refine Met.ofW (cc := cX2_strengthAt) (maxL := 3) (ret := (some .int)) (by decide) rfl ?_
  intro p e s m args below meth c s₁ B hml hv
  obtain ⟨rfl, hP, hK, hN⟩ := hv
  have hx := B.exec
  have hb := B.bytes
  have hr := B.returns
  have hts := atoms_spec (ws := wsX2_strengthAt) B.pre
  have hown : s.vm.findClass RX2 = some m.cls := findClass_of_methodNamed B.named
  have hlocks := B.notSynchronized
  have inX2 : ∀ w ∈ wsX20, w ∈ wsX2_strengthAt := wt_in [9, 10, 11, 12, 13] (by decide +kernel)
  have hl := lv_entry ([.ref hu, .int (nI k), .int (nI u)]) (n := 3) (Nat.le_of_ble_eq_true rfl)
  rw [lg_entry_eq]
  generalize (lg_sl ([.ref hu, .int (nI k), .int (nI u)]) ++ List.replicate (3 - (lg_sl ([.ref hu, .int (nI k), .int (nI u)])).length) Slot.unset).toArray = ls at hl ⊢
  have hl : lv_has ls 3 [(0, .ref hu), (1, .int (nI k)), (2, .int (nI u))] := hl
  refine lv_iload_n hx hb dX2_strengthAt_0 rfl (lv_at hl 1 rfl) ?_
  refine lv_iload_n hx hb dX2_strengthAt_1 rfl (lv_at hl 2 rfl) ?_
  refine wt_ro_go (va_runS (As := [.int (nI k), .int (nI u)]) (rest := []) ⟨hx, hb, hml, hown, hts⟩ (k_X2_isKept l k u (by omega) (by omega)) (va_cwS 2 hts gX2_strengthAt_X2_isKept rfl rfl rfl (by decide +kernel) ⟨Nat.le_of_ble_eq_true rfl, Nat.le_of_ble_eq_true rfl⟩) wt_PS rfl rfl hl.1 rfl (lv_room (Nat.le_of_ble_eq_true rfl)) dX2_strengthAt_2 ⟨Nat.zero_le _, Nat.zero_le _⟩) ?_
  refine wt_if_eqB (tgt := 21) hx hb dX2_strengthAt_5 (by decide) (fun c_5_1 => ?_) (fun c_5_1 => ?_)
  · exfalso; omega
  · refine lv_aload_n hx hb dX2_strengthAt_8 rfl (lv_at hl 0 rfl) ?_
    refine va_get (D := (dC, dI)) (ci := 2) (v := .ref st) (C := RX2) (T := TX2) (N := 5) hx hb hts inX2 hown hK hP 0 rfl rfl 2 (by decide) (hts (.fieldLink RX2 18 "WarTable$Units" "strengths" "[I") (List.mem_of_getElem? (i := 1) rfl)) (fun _ h9 => h9) rfl dX2_strengthAt_9 ?_
    refine lv_iload_n hx hb dX2_strengthAt_12 rfl (lv_at hl 1 rfl) ?_
    refine lv_iload_n hx hb dX2_strengthAt_13 rfl (lv_at hl 2 rfl) ?_
    refine wt_ro_go (va_runS (As := [.int (nI k), .int (nI u)]) (rest := [.ref st]) ⟨hx, hb, hml, hown, hts⟩ (k_X2_index l k u) (va_cwS 2 hts gX2_strengthAt_X2_index rfl rfl rfl (by decide +kernel) ⟨Nat.le_of_ble_eq_true rfl, Nat.le_of_ble_eq_true rfl⟩) wt_PS rfl rfl hl.1 rfl (lv_room (Nat.le_of_ble_eq_true rfl)) dX2_strengthAt_14 ⟨Nat.zero_le _, Nat.zero_le _⟩) ?_
    refine wt_iald hx hb hK hP 3 rfl (by omega) (by omega) dX2_strengthAt_17 ?_
    refine lv_goto (tgt := 22) hx hb dX2_strengthAt_18 (by decide) ?_
    exact wt_ret hx hb hr rfl rfl dX2_strengthAt_22 hlocks
set_option maxHeartbeats 4000000 in
set_option maxRecDepth 100000 in
theorem k_X2_orderFor (l : Launch) (dC : Nat → ClassId) (dI : Nat → Nat → Nat) (cI : ClassId) (hu : Nat) (sd : Nat) (tw : Nat) (st : Nat) (od : Nat) (fs : Nat → Int32) (ft : Nat → Int32) (ff : Nat → Int32) (fo : Nat → Int32) (cn : Nat) (k : Nat) (u : Nat) (hk : k < 22) (hu2 : u < 12) : Met l yX2_orderFor wsX2_orderFor ({ frames := 1, cells := 0, slots := 0, locals := 21 }) (va_Pc [.ref hu, .int (nI k), .int (nI u)] (wt_pre (dC, dI) cI [(hu, .inr (2, [.ref sd, .ref tw, .ref st, .ref od, .int (nI cn)])), (sd, .inl (cI, 12, .inl fs)), (tw, .inl (cI, 264, .inl ft)), (st, .inl (cI, 264, .inl ff)), (od, .inl (cI, 264, .inl fo))])) (wt_ro (fo (k * 12 + u) - nI 1)) 0 0 wt_no := by
  refine Met.ofW (cc := cX2_orderFor) (maxL := 3) (ret := (some .int)) (by decide) rfl ?_
  intro p e s m args below meth c s₁ B hml hv
  obtain ⟨rfl, hP, hK, hN⟩ := hv
  have hx := B.exec
  have hb := B.bytes
  have hr := B.returns
  have hts := atoms_spec (ws := wsX2_orderFor) B.pre
  have hown : s.vm.findClass RX2 = some m.cls := findClass_of_methodNamed B.named
  have hlocks := B.notSynchronized
  have inX2 : ∀ w ∈ wsX20, w ∈ wsX2_orderFor := wt_in [9, 10, 11, 12, 13] (by decide +kernel)
  have hl := lv_entry ([.ref hu, .int (nI k), .int (nI u)]) (n := 3) (Nat.le_of_ble_eq_true rfl)
  rw [lg_entry_eq]
  generalize (lg_sl ([.ref hu, .int (nI k), .int (nI u)]) ++ List.replicate (3 - (lg_sl ([.ref hu, .int (nI k), .int (nI u)])).length) Slot.unset).toArray = ls at hl ⊢
  have hl : lv_has ls 3 [(0, .ref hu), (1, .int (nI k)), (2, .int (nI u))] := hl
  refine lv_iload_n hx hb dX2_orderFor_0 rfl (lv_at hl 1 rfl) ?_
  refine lv_iload_n hx hb dX2_orderFor_1 rfl (lv_at hl 2 rfl) ?_
  refine wt_ro_go (va_runS (As := [.int (nI k), .int (nI u)]) (rest := []) ⟨hx, hb, hml, hown, hts⟩ (k_X2_isKept l k u (by omega) (by omega)) (va_cwS 2 hts gX2_orderFor_X2_isKept rfl rfl rfl (by decide +kernel) ⟨Nat.le_of_ble_eq_true rfl, Nat.le_of_ble_eq_true rfl⟩) wt_PS rfl rfl hl.1 rfl (lv_room (Nat.le_of_ble_eq_true rfl)) dX2_orderFor_2 ⟨Nat.zero_le _, Nat.zero_le _⟩) ?_
  refine wt_if_eqB (tgt := 23) hx hb dX2_orderFor_5 (by decide) (fun c_5_1 => ?_) (fun c_5_1 => ?_)
  · exfalso; omega
  · refine lv_aload_n hx hb dX2_orderFor_8 rfl (lv_at hl 0 rfl) ?_
    refine va_get (D := (dC, dI)) (ci := 2) (v := .ref od) (C := RX2) (T := TX2) (N := 5) hx hb hts inX2 hown hK hP 0 rfl rfl 3 (by decide) (hts (.fieldLink RX2 21 "WarTable$Units" "orders" "[I") (List.mem_of_getElem? (i := 1) rfl)) (fun _ h9 => h9) rfl dX2_orderFor_9 ?_
    refine lv_iload_n hx hb dX2_orderFor_12 rfl (lv_at hl 1 rfl) ?_
    refine lv_iload_n hx hb dX2_orderFor_13 rfl (lv_at hl 2 rfl) ?_
    refine wt_ro_go (va_runS (As := [.int (nI k), .int (nI u)]) (rest := [.ref od]) ⟨hx, hb, hml, hown, hts⟩ (k_X2_index l k u) (va_cwS 2 hts gX2_orderFor_X2_index rfl rfl rfl (by decide +kernel) ⟨Nat.le_of_ble_eq_true rfl, Nat.le_of_ble_eq_true rfl⟩) wt_PS rfl rfl hl.1 rfl (lv_room (Nat.le_of_ble_eq_true rfl)) dX2_orderFor_14 ⟨Nat.zero_le _, Nat.zero_le _⟩) ?_
    refine wt_iald hx hb hK hP 4 rfl (by omega) (by omega) dX2_orderFor_17 ?_
    refine lv_iconst (v := nI 1) hx hb dX2_orderFor_18 (by decide +kernel) ?_
    refine lv_isub hx hb dX2_orderFor_19 ?_
    refine lv_goto (tgt := 24) hx hb dX2_orderFor_20 (by decide) ?_
    exact wt_ret hx hb hr (by simp only [wt_fold_s, wt_if_t c_5_1]) rfl dX2_orderFor_24 hlocks
set_option maxHeartbeats 4000000 in
set_option maxRecDepth 100000 in
theorem k_X2_giveOrder (l : Launch) (dC : Nat → ClassId) (dI : Nat → Nat → Nat) (cI : ClassId) (hu : Nat) (sd : Nat) (tw : Nat) (st : Nat) (od : Nat) (fs : Nat → Int32) (ft : Nat → Int32) (ff : Nat → Int32) (fo : Nat → Int32) (cn : Nat) (k : Nat) (u : Nat) (x : Int32) (sz : Nat) (hk : k < 22) (hu2 : u < 12) : Met l yX2_giveOrder wsX2_giveOrder ({ frames := 1, cells := 0, slots := 0, locals := 21 }) (va_Pc [.ref hu, .int (nI k), .int (nI u), .int x] (wt_pm (dC, dI) cI [(hu, .inr (2, [.ref sd, .ref tw, .ref st, .ref od, .int (nI cn)])), (sd, .inl (cI, 12, .inl fs)), (tw, .inl (cI, 264, .inl ft)), (st, .inl (cI, 264, .inl ff)), (od, .inl (cI, 264, .inl fo))] sz)) (wt_mu none (dC, dI) [(hu, .inr (2, [.ref sd, .ref tw, .ref st, .ref od, .int (nI cn)])), (sd, .inl (cI, 12, .inl fs)), (tw, .inl (cI, 264, .inl ft)), (st, .inl (cI, 264, .inl ff)), (od, .inl (cI, 264, .inl (upd fo (k * 12 + u) (x + nI 1))))] (va_A [(hu, .inr (2, [.ref sd, .ref tw, .ref st, .ref od, .int (nI cn)])), (sd, .inl (cI, 12, .inl fs)), (tw, .inl (cI, 264, .inl ft)), (st, .inl (cI, 264, .inl ff)), (od, .inl (cI, 264, .inl fo))] sz)) 0 0 (va_A [(hu, .inr (2, [.ref sd, .ref tw, .ref st, .ref od, .int (nI cn)])), (sd, .inl (cI, 12, .inl fs)), (tw, .inl (cI, 264, .inl ft)), (st, .inl (cI, 264, .inl ff)), (od, .inl (cI, 264, .inl fo))] sz) := by
  refine Met.ofW (cc := cX2_giveOrder) (maxL := 4) (ret := none) (by decide) rfl ?_
  intro p e s m args below meth c s₁ B hml hv
  obtain ⟨rfl, hsz, ⟨hP, hK, hN⟩, hD0⟩ := hv
  have hx := B.exec
  have hb := B.bytes
  have hr := B.returns
  have hts := atoms_spec (ws := wsX2_giveOrder) B.pre
  have hown : s.vm.findClass RX2 = some m.cls := findClass_of_methodNamed B.named
  have hlocks := B.notSynchronized
  subst hsz
  have hD := hD0.self (sz := s.heap.size)
  generalize hAe : va_A [(hu, .inr (2, [.ref sd, .ref tw, .ref st, .ref od, .int (nI cn)])), (sd, .inl (cI, 12, .inl fs)), (tw, .inl (cI, 264, .inl ft)), (st, .inl (cI, 264, .inl ff)), (od, .inl (cI, 264, .inl fo))] s.heap.size = A at hD ⊢
  have hA : ∀ q : Nat, s.heap.size ≤ q → A q := fun q h => by rw [← hAe]; exact Or.inr h
  have hS : va_S A s.heap s.heap [] := va_S.rf
  have inX2 : ∀ w ∈ wsX20, w ∈ wsX2_giveOrder := wt_in [9, 10, 11, 12, 13] (by decide +kernel)
  have hl := lv_entry ([.ref hu, .int (nI k), .int (nI u), .int x]) (n := 4) (Nat.le_of_ble_eq_true rfl)
  rw [lg_entry_eq]
  generalize (lg_sl ([.ref hu, .int (nI k), .int (nI u), .int x]) ++ List.replicate (4 - (lg_sl ([.ref hu, .int (nI k), .int (nI u), .int x])).length) Slot.unset).toArray = ls at hl ⊢
  have hl : lv_has ls 4 [(0, .ref hu), (1, .int (nI k)), (2, .int (nI u)), (3, .int x)] := hl
  refine lv_iload_n hx hb dX2_giveOrder_0 rfl (lv_at hl 1 rfl) ?_
  refine lv_iload_n hx hb dX2_giveOrder_1 rfl (lv_at hl 2 rfl) ?_
  refine wt_ro_go (va_runS (As := [.int (nI k), .int (nI u)]) (rest := []) ⟨hx, hb, hml, hown, hts⟩ (k_X2_isKept l k u (by omega) (by omega)) (va_cwS 2 hts gX2_giveOrder_X2_isKept rfl rfl rfl (by decide +kernel) ⟨Nat.le_of_ble_eq_true rfl, Nat.le_of_ble_eq_true rfl⟩) wt_PS rfl rfl hl.1 rfl (lv_room (Nat.le_of_ble_eq_true rfl)) dX2_giveOrder_2 ⟨Nat.zero_le _, Nat.zero_le _⟩) ?_
  refine wt_if_eqB (tgt := 21) hx hb dX2_giveOrder_5 (by decide) (fun c_5_1 => ?_) (fun c_5_1 => ?_)
  · exfalso; omega
  · refine lv_aload_n hx hb dX2_giveOrder_8 rfl (lv_at hl 0 rfl) ?_
    refine va_get (D := (dC, dI)) (ci := 2) (v := .ref od) (C := RX2) (T := TX2) (N := 5) hx hb hts inX2 hown hK hP 0 rfl rfl 3 (by decide) (hts (.fieldLink RX2 21 "WarTable$Units" "orders" "[I") (List.mem_of_getElem? (i := 1) rfl)) (fun _ h9 => h9) rfl dX2_giveOrder_9 ?_
    refine lv_iload_n hx hb dX2_giveOrder_12 rfl (lv_at hl 1 rfl) ?_
    refine lv_iload_n hx hb dX2_giveOrder_13 rfl (lv_at hl 2 rfl) ?_
    refine wt_ro_go (va_runS (As := [.int (nI k), .int (nI u)]) (rest := [.ref od]) ⟨hx, hb, hml, hown, hts⟩ (k_X2_index l k u) (va_cwS 2 hts gX2_giveOrder_X2_index rfl rfl rfl (by decide +kernel) ⟨Nat.le_of_ble_eq_true rfl, Nat.le_of_ble_eq_true rfl⟩) wt_PS rfl rfl hl.1 rfl (lv_room (Nat.le_of_ble_eq_true rfl)) dX2_giveOrder_14 ⟨Nat.zero_le _, Nat.zero_le _⟩) ?_
    refine lv_iload_n hx hb dX2_giveOrder_17 rfl (lv_at hl 3 rfl) ?_
    refine lv_iconst (v := nI 1) hx hb dX2_giveOrder_18 (by decide +kernel) ?_
    refine lv_iadd hx hb dX2_giveOrder_19 ?_
    refine wt_iast hx hb hK hP hD hS 4 rfl (by omega) (by omega) dX2_giveOrder_20 (fun H locs hP hD hS => ?_)
    have hP : va_P (dC, dI) vwCl [(hu, .inr (2, [.ref sd, .ref tw, .ref st, .ref od, .int (nI cn)])), (sd, .inl (cI, 12, .inl fs)), (tw, .inl (cI, 264, .inl ft)), (st, .inl (cI, 264, .inl ff)), (od, .inl (cI, 264, .inl (upd fo (k * 12 + u) (x + (nI 1)))))] H := hP
    have hD : va_D A [(hu, .inr (2, [.ref sd, .ref tw, .ref st, .ref od, .int (nI cn)])), (sd, .inl (cI, 12, .inl fs)), (tw, .inl (cI, 264, .inl ft)), (st, .inl (cI, 264, .inl ff)), (od, .inl (cI, 264, .inl (upd fo (k * 12 + u) (x + (nI 1)))))] := hD
    have e2 : (upd fo (k * 12 + u) (x + (nI 1))) = (upd fo (k * 12 + u) (x + nI 1)) := rfl
    have hP : va_P (dC, dI) vwCl [(hu, .inr (2, [.ref sd, .ref tw, .ref st, .ref od, .int (nI cn)])), (sd, .inl (cI, 12, .inl fs)), (tw, .inl (cI, 264, .inl ft)), (st, .inl (cI, 264, .inl ff)), (od, .inl (cI, 264, .inl (upd fo (k * 12 + u) (x + nI 1))))] H := Eq.mp (congrArg (fun z9 : Nat → Int32 => va_P (dC, dI) vwCl [(hu, .inr (2, [.ref sd, .ref tw, .ref st, .ref od, .int (nI cn)])), (sd, .inl (cI, 12, .inl fs)), (tw, .inl (cI, 264, .inl ft)), (st, .inl (cI, 264, .inl ff)), (od, .inl (cI, 264, .inl z9))] H) e2) hP
    have hD : va_D A [(hu, .inr (2, [.ref sd, .ref tw, .ref st, .ref od, .int (nI cn)])), (sd, .inl (cI, 12, .inl fs)), (tw, .inl (cI, 264, .inl ft)), (st, .inl (cI, 264, .inl ff)), (od, .inl (cI, 264, .inl (upd fo (k * 12 + u) (x + nI 1))))] := wt_adr hD rfl
    exact wt_mvret hx hb hr hP hS dX2_giveOrder_21 hlocks
set_option maxHeartbeats 4000000 in
set_option maxRecDepth 100000 in
theorem k_X2_place (l : Launch) (dC : Nat → ClassId) (dI : Nat → Nat → Nat) (cI : ClassId) (hu : Nat) (sd : Nat) (tw : Nat) (st : Nat) (od : Nat) (fs : Nat → Int32) (ft : Nat → Int32) (ff : Nat → Int32) (fo : Nat → Int32) (cn : Nat) (k : Nat) (u : Nat) (x : Int32) (y : Int32) (sz : Nat) (hk : k < 22) (hu2 : u < 12) : Met l yX2_place wsX2_place ({ frames := 1, cells := 0, slots := 0, locals := 21 }) (va_Pc [.ref hu, .int (nI k), .int (nI u), .int x, .int y] (wt_pm (dC, dI) cI [(hu, .inr (2, [.ref sd, .ref tw, .ref st, .ref od, .int (nI cn)])), (sd, .inl (cI, 12, .inl fs)), (tw, .inl (cI, 264, .inl ft)), (st, .inl (cI, 264, .inl ff)), (od, .inl (cI, 264, .inl fo))] sz)) (wt_mu none (dC, dI) [(hu, .inr (2, [.ref sd, .ref tw, .ref st, .ref od, .int (nI cn)])), (sd, .inl (cI, 12, .inl fs)), (tw, .inl (cI, 264, .inl (wt_plT ft k u x y))), (st, .inl (cI, 264, .inl (wt_plF ff k u y))), (od, .inl (cI, 264, .inl fo))] (va_A [(hu, .inr (2, [.ref sd, .ref tw, .ref st, .ref od, .int (nI cn)])), (sd, .inl (cI, 12, .inl fs)), (tw, .inl (cI, 264, .inl ft)), (st, .inl (cI, 264, .inl ff)), (od, .inl (cI, 264, .inl fo))] sz)) 0 0 (va_A [(hu, .inr (2, [.ref sd, .ref tw, .ref st, .ref od, .int (nI cn)])), (sd, .inl (cI, 12, .inl fs)), (tw, .inl (cI, 264, .inl ft)), (st, .inl (cI, 264, .inl ff)), (od, .inl (cI, 264, .inl fo))] sz) := by
  refine Met.ofW (cc := cX2_place) (maxL := 5) (ret := none) (by decide) rfl ?_
  intro p e s m args below meth c s₁ B hml hv
  obtain ⟨rfl, hsz, ⟨hP, hK, hN⟩, hD0⟩ := hv
  have hx := B.exec
  have hb := B.bytes
  have hr := B.returns
  have hts := atoms_spec (ws := wsX2_place) B.pre
  have hown : s.vm.findClass RX2 = some m.cls := findClass_of_methodNamed B.named
  have hlocks := B.notSynchronized
  subst hsz
  have hD := hD0.self (sz := s.heap.size)
  generalize hAe : va_A [(hu, .inr (2, [.ref sd, .ref tw, .ref st, .ref od, .int (nI cn)])), (sd, .inl (cI, 12, .inl fs)), (tw, .inl (cI, 264, .inl ft)), (st, .inl (cI, 264, .inl ff)), (od, .inl (cI, 264, .inl fo))] s.heap.size = A at hD ⊢
  have hA : ∀ q : Nat, s.heap.size ≤ q → A q := fun q h => by rw [← hAe]; exact Or.inr h
  have hS : va_S A s.heap s.heap [] := va_S.rf
  have inX2 : ∀ w ∈ wsX20, w ∈ wsX2_place := wt_in [14, 15, 16, 17, 18] (by decide +kernel)
  have hl := lv_entry ([.ref hu, .int (nI k), .int (nI u), .int x, .int y]) (n := 5) (Nat.le_of_ble_eq_true rfl)
  rw [lg_entry_eq]
  generalize (lg_sl ([.ref hu, .int (nI k), .int (nI u), .int x, .int y]) ++ List.replicate (5 - (lg_sl ([.ref hu, .int (nI k), .int (nI u), .int x, .int y])).length) Slot.unset).toArray = ls at hl ⊢
  have hl : lv_has ls 5 [(0, .ref hu), (1, .int (nI k)), (2, .int (nI u)), (3, .int x), (4, .int y)] := hl
  refine lv_iload_n hx hb dX2_place_0 rfl (lv_at hl 1 rfl) ?_
  refine lv_iload_n hx hb dX2_place_1 rfl (lv_at hl 2 rfl) ?_
  refine wt_ro_go (va_runS (As := [.int (nI k), .int (nI u)]) (rest := []) ⟨hx, hb, hml, hown, hts⟩ (k_X2_isKept l k u (by omega) (by omega)) (va_cwS 2 hts gX2_place_X2_isKept rfl rfl rfl (by decide +kernel) ⟨Nat.le_of_ble_eq_true rfl, Nat.le_of_ble_eq_true rfl⟩) wt_PS rfl rfl hl.1 rfl (lv_room (Nat.le_of_ble_eq_true rfl)) dX2_place_2 ⟨Nat.zero_le _, Nat.zero_le _⟩) ?_
  refine wt_if_eqB (tgt := 44) hx hb dX2_place_5 (by decide) (fun c_5_1 => ?_) (fun c_5_1 => ?_)
  · exfalso; omega
  · refine lv_aload_n hx hb dX2_place_8 rfl (lv_at hl 0 rfl) ?_
    refine va_get (D := (dC, dI)) (ci := 2) (v := .ref tw) (C := RX2) (T := TX2) (N := 5) hx hb hts inX2 hown hK hP 0 rfl rfl 1 (by decide) (hts (.fieldLink RX2 15 "WarTable$Units" "towns" "[I") (List.mem_of_getElem? (i := 1) rfl)) (fun _ h9 => h9) rfl dX2_place_9 ?_
    refine lv_iload_n hx hb dX2_place_12 rfl (lv_at hl 1 rfl) ?_
    refine lv_iload_n hx hb dX2_place_13 rfl (lv_at hl 2 rfl) ?_
    refine wt_ro_go (va_runS (As := [.int (nI k), .int (nI u)]) (rest := [.ref tw]) ⟨hx, hb, hml, hown, hts⟩ (k_X2_index l k u) (va_cwS 2 hts gX2_place_X2_index rfl rfl rfl (by decide +kernel) ⟨Nat.le_of_ble_eq_true rfl, Nat.le_of_ble_eq_true rfl⟩) wt_PS rfl rfl hl.1 rfl (lv_room (Nat.le_of_ble_eq_true rfl)) dX2_place_14 ⟨Nat.zero_le _, Nat.zero_le _⟩) ?_
    refine lv_iload hx hb dX2_place_17 (lv_at hl 4 rfl) ?_
    refine wt_if_leI (tgt := 26) hx hb dX2_place_19 (by decide) (fun c_19_2 => ?_) (fun c_19_2 => ?_)
    · refine lv_iconst (v := (-1)) hx hb dX2_place_26 (by decide +kernel) ?_
      refine wt_iast hx hb hK hP hD hS 2 rfl (by omega) (by omega) dX2_place_27 (fun H locs hP hD hS => ?_)
      have hP : va_P (dC, dI) vwCl [(hu, .inr (2, [.ref sd, .ref tw, .ref st, .ref od, .int (nI cn)])), (sd, .inl (cI, 12, .inl fs)), (tw, .inl (cI, 264, .inl (upd ft (k * 12 + u) (-1)))), (st, .inl (cI, 264, .inl ff)), (od, .inl (cI, 264, .inl fo))] H := hP
      have hD : va_D A [(hu, .inr (2, [.ref sd, .ref tw, .ref st, .ref od, .int (nI cn)])), (sd, .inl (cI, 12, .inl fs)), (tw, .inl (cI, 264, .inl (upd ft (k * 12 + u) (-1)))), (st, .inl (cI, 264, .inl ff)), (od, .inl (cI, 264, .inl fo))] := hD
      refine lv_aload_n hx hb dX2_place_28 rfl (lv_at hl 0 rfl) ?_
      refine va_get (D := (dC, dI)) (ci := 2) (v := .ref st) (C := RX2) (T := TX2) (N := 5) hx hb hts inX2 hown hK hP 0 rfl rfl 2 (by decide) (hts (.fieldLink RX2 18 "WarTable$Units" "strengths" "[I") (List.mem_of_getElem? (i := 2) rfl)) (fun _ h9 => h9) rfl dX2_place_29 ?_
      refine lv_iload_n hx hb dX2_place_32 rfl (lv_at hl 1 rfl) ?_
      refine lv_iload_n hx hb dX2_place_33 rfl (lv_at hl 2 rfl) ?_
      refine wt_ro_go (va_runS (As := [.int (nI k), .int (nI u)]) (rest := [.ref st]) ⟨hx, hb, hml, hown, hts⟩ (k_X2_index l k u) (va_cwS 2 hts gX2_place_X2_index rfl rfl rfl (by decide +kernel) ⟨Nat.le_of_ble_eq_true rfl, Nat.le_of_ble_eq_true rfl⟩) wt_PS rfl rfl hl.1 rfl (lv_room (Nat.le_of_ble_eq_true rfl)) dX2_place_34 ⟨Nat.zero_le _, Nat.zero_le _⟩) ?_
      refine lv_iload hx hb dX2_place_37 (lv_at hl 4 rfl) ?_
      refine lv_iconst (v := nI 0) hx hb dX2_place_39 (by decide +kernel) ?_
      refine va_mmax hx hb (by rw [hml]; exact hl.1.symm) hown (hts (.methodLink RX2 43 Lib.Math.max.name) (List.mem_of_getElem? (i := 3) rfl)) (hts (.static Lib.Math.max.name) (List.mem_of_getElem? (i := 4) rfl)) (hts (.initialized "java/lang/Math") (List.mem_of_getElem? (i := 5) rfl)) (hts (.code Lib.Math.max.name Lib.Math.max.code 2 (some .int)) (List.mem_of_getElem? (i := 6) rfl)) (Nat.le_of_ble_eq_true rfl) (Nat.le_of_ble_eq_true rfl) (Nat.zero_le _) (Nat.zero_le _) dX2_place_40 ?_
      refine wt_top (y := (wt_max y (nI 0))) rfl ?_
      refine wt_iast hx hb hK hP hD hS 3 rfl (by omega) (by omega) dX2_place_43 (fun H locs hP hD hS => ?_)
      have hP : va_P (dC, dI) vwCl [(hu, .inr (2, [.ref sd, .ref tw, .ref st, .ref od, .int (nI cn)])), (sd, .inl (cI, 12, .inl fs)), (tw, .inl (cI, 264, .inl (upd ft (k * 12 + u) (-1)))), (st, .inl (cI, 264, .inl (upd ff (k * 12 + u) (wt_max y (nI 0))))), (od, .inl (cI, 264, .inl fo))] H := hP
      have hD : va_D A [(hu, .inr (2, [.ref sd, .ref tw, .ref st, .ref od, .int (nI cn)])), (sd, .inl (cI, 12, .inl fs)), (tw, .inl (cI, 264, .inl (upd ft (k * 12 + u) (-1)))), (st, .inl (cI, 264, .inl (upd ff (k * 12 + u) (wt_max y (nI 0))))), (od, .inl (cI, 264, .inl fo))] := hD
      have e3 : (upd ft (k * 12 + u) (-1)) = (wt_plT ft k u x y) := (by simp only [wt_fold_s, wt_plT, wt_plF, wt_if_t c_5_1, wt_if_f c_19_2])
      have hP : va_P (dC, dI) vwCl [(hu, .inr (2, [.ref sd, .ref tw, .ref st, .ref od, .int (nI cn)])), (sd, .inl (cI, 12, .inl fs)), (tw, .inl (cI, 264, .inl (wt_plT ft k u x y))), (st, .inl (cI, 264, .inl (upd ff (k * 12 + u) (wt_max y (nI 0))))), (od, .inl (cI, 264, .inl fo))] H := Eq.mp (congrArg (fun z9 : Nat → Int32 => va_P (dC, dI) vwCl [(hu, .inr (2, [.ref sd, .ref tw, .ref st, .ref od, .int (nI cn)])), (sd, .inl (cI, 12, .inl fs)), (tw, .inl (cI, 264, .inl z9)), (st, .inl (cI, 264, .inl (upd ff (k * 12 + u) (wt_max y (nI 0))))), (od, .inl (cI, 264, .inl fo))] H) e3) hP
      have e4 : (upd ff (k * 12 + u) (wt_max y (nI 0))) = (wt_plF ff k u y) := (by simp only [wt_fold_s, wt_plT, wt_plF, wt_if_t c_5_1, wt_if_f c_19_2])
      have hP : va_P (dC, dI) vwCl [(hu, .inr (2, [.ref sd, .ref tw, .ref st, .ref od, .int (nI cn)])), (sd, .inl (cI, 12, .inl fs)), (tw, .inl (cI, 264, .inl (wt_plT ft k u x y))), (st, .inl (cI, 264, .inl (wt_plF ff k u y))), (od, .inl (cI, 264, .inl fo))] H := Eq.mp (congrArg (fun z9 : Nat → Int32 => va_P (dC, dI) vwCl [(hu, .inr (2, [.ref sd, .ref tw, .ref st, .ref od, .int (nI cn)])), (sd, .inl (cI, 12, .inl fs)), (tw, .inl (cI, 264, .inl (wt_plT ft k u x y))), (st, .inl (cI, 264, .inl z9)), (od, .inl (cI, 264, .inl fo))] H) e4) hP
      have hD : va_D A [(hu, .inr (2, [.ref sd, .ref tw, .ref st, .ref od, .int (nI cn)])), (sd, .inl (cI, 12, .inl fs)), (tw, .inl (cI, 264, .inl (wt_plT ft k u x y))), (st, .inl (cI, 264, .inl (wt_plF ff k u y))), (od, .inl (cI, 264, .inl fo))] := wt_adr hD rfl
      exact wt_mvret hx hb hr hP hS dX2_place_44 hlocks
    · refine lv_iload_n hx hb dX2_place_22 rfl (lv_at hl 3 rfl) ?_
      refine lv_goto (tgt := 27) hx hb dX2_place_23 (by decide) ?_
      refine wt_iast hx hb hK hP hD hS 2 rfl (by omega) (by omega) dX2_place_27 (fun H locs hP hD hS => ?_)
      have hP : va_P (dC, dI) vwCl [(hu, .inr (2, [.ref sd, .ref tw, .ref st, .ref od, .int (nI cn)])), (sd, .inl (cI, 12, .inl fs)), (tw, .inl (cI, 264, .inl (upd ft (k * 12 + u) x))), (st, .inl (cI, 264, .inl ff)), (od, .inl (cI, 264, .inl fo))] H := hP
      have hD : va_D A [(hu, .inr (2, [.ref sd, .ref tw, .ref st, .ref od, .int (nI cn)])), (sd, .inl (cI, 12, .inl fs)), (tw, .inl (cI, 264, .inl (upd ft (k * 12 + u) x))), (st, .inl (cI, 264, .inl ff)), (od, .inl (cI, 264, .inl fo))] := hD
      refine lv_aload_n hx hb dX2_place_28 rfl (lv_at hl 0 rfl) ?_
      refine va_get (D := (dC, dI)) (ci := 2) (v := .ref st) (C := RX2) (T := TX2) (N := 5) hx hb hts inX2 hown hK hP 0 rfl rfl 2 (by decide) (hts (.fieldLink RX2 18 "WarTable$Units" "strengths" "[I") (List.mem_of_getElem? (i := 2) rfl)) (fun _ h9 => h9) rfl dX2_place_29 ?_
      refine lv_iload_n hx hb dX2_place_32 rfl (lv_at hl 1 rfl) ?_
      refine lv_iload_n hx hb dX2_place_33 rfl (lv_at hl 2 rfl) ?_
      refine wt_ro_go (va_runS (As := [.int (nI k), .int (nI u)]) (rest := [.ref st]) ⟨hx, hb, hml, hown, hts⟩ (k_X2_index l k u) (va_cwS 2 hts gX2_place_X2_index rfl rfl rfl (by decide +kernel) ⟨Nat.le_of_ble_eq_true rfl, Nat.le_of_ble_eq_true rfl⟩) wt_PS rfl rfl hl.1 rfl (lv_room (Nat.le_of_ble_eq_true rfl)) dX2_place_34 ⟨Nat.zero_le _, Nat.zero_le _⟩) ?_
      refine lv_iload hx hb dX2_place_37 (lv_at hl 4 rfl) ?_
      refine lv_iconst (v := nI 0) hx hb dX2_place_39 (by decide +kernel) ?_
      refine va_mmax hx hb (by rw [hml]; exact hl.1.symm) hown (hts (.methodLink RX2 43 Lib.Math.max.name) (List.mem_of_getElem? (i := 3) rfl)) (hts (.static Lib.Math.max.name) (List.mem_of_getElem? (i := 4) rfl)) (hts (.initialized "java/lang/Math") (List.mem_of_getElem? (i := 5) rfl)) (hts (.code Lib.Math.max.name Lib.Math.max.code 2 (some .int)) (List.mem_of_getElem? (i := 6) rfl)) (Nat.le_of_ble_eq_true rfl) (Nat.le_of_ble_eq_true rfl) (Nat.zero_le _) (Nat.zero_le _) dX2_place_40 ?_
      refine wt_top (y := (wt_max y (nI 0))) rfl ?_
      refine wt_iast hx hb hK hP hD hS 3 rfl (by omega) (by omega) dX2_place_43 (fun H locs hP hD hS => ?_)
      have hP : va_P (dC, dI) vwCl [(hu, .inr (2, [.ref sd, .ref tw, .ref st, .ref od, .int (nI cn)])), (sd, .inl (cI, 12, .inl fs)), (tw, .inl (cI, 264, .inl (upd ft (k * 12 + u) x))), (st, .inl (cI, 264, .inl (upd ff (k * 12 + u) (wt_max y (nI 0))))), (od, .inl (cI, 264, .inl fo))] H := hP
      have hD : va_D A [(hu, .inr (2, [.ref sd, .ref tw, .ref st, .ref od, .int (nI cn)])), (sd, .inl (cI, 12, .inl fs)), (tw, .inl (cI, 264, .inl (upd ft (k * 12 + u) x))), (st, .inl (cI, 264, .inl (upd ff (k * 12 + u) (wt_max y (nI 0))))), (od, .inl (cI, 264, .inl fo))] := hD
      have e5 : (upd ft (k * 12 + u) x) = (wt_plT ft k u x y) := (by simp only [wt_fold_s, wt_plT, wt_plF, wt_if_t c_5_1, wt_if_t c_19_2])
      have hP : va_P (dC, dI) vwCl [(hu, .inr (2, [.ref sd, .ref tw, .ref st, .ref od, .int (nI cn)])), (sd, .inl (cI, 12, .inl fs)), (tw, .inl (cI, 264, .inl (wt_plT ft k u x y))), (st, .inl (cI, 264, .inl (upd ff (k * 12 + u) (wt_max y (nI 0))))), (od, .inl (cI, 264, .inl fo))] H := Eq.mp (congrArg (fun z9 : Nat → Int32 => va_P (dC, dI) vwCl [(hu, .inr (2, [.ref sd, .ref tw, .ref st, .ref od, .int (nI cn)])), (sd, .inl (cI, 12, .inl fs)), (tw, .inl (cI, 264, .inl z9)), (st, .inl (cI, 264, .inl (upd ff (k * 12 + u) (wt_max y (nI 0))))), (od, .inl (cI, 264, .inl fo))] H) e5) hP
      have e6 : (upd ff (k * 12 + u) (wt_max y (nI 0))) = (wt_plF ff k u y) := (by simp only [wt_fold_s, wt_plT, wt_plF, wt_if_t c_5_1, wt_if_t c_19_2])
      have hP : va_P (dC, dI) vwCl [(hu, .inr (2, [.ref sd, .ref tw, .ref st, .ref od, .int (nI cn)])), (sd, .inl (cI, 12, .inl fs)), (tw, .inl (cI, 264, .inl (wt_plT ft k u x y))), (st, .inl (cI, 264, .inl (wt_plF ff k u y))), (od, .inl (cI, 264, .inl fo))] H := Eq.mp (congrArg (fun z9 : Nat → Int32 => va_P (dC, dI) vwCl [(hu, .inr (2, [.ref sd, .ref tw, .ref st, .ref od, .int (nI cn)])), (sd, .inl (cI, 12, .inl fs)), (tw, .inl (cI, 264, .inl (wt_plT ft k u x y))), (st, .inl (cI, 264, .inl z9)), (od, .inl (cI, 264, .inl fo))] H) e6) hP
      have hD : va_D A [(hu, .inr (2, [.ref sd, .ref tw, .ref st, .ref od, .int (nI cn)])), (sd, .inl (cI, 12, .inl fs)), (tw, .inl (cI, 264, .inl (wt_plT ft k u x y))), (st, .inl (cI, 264, .inl (wt_plF ff k u y))), (od, .inl (cI, 264, .inl fo))] := wt_adr hD rfl
      exact wt_mvret hx hb hr hP hS dX2_place_44 hlocks
set_option maxHeartbeats 4000000 in
set_option maxRecDepth 100000 in
theorem k_X2_add (l : Launch) (dC : Nat → ClassId) (dI : Nat → Nat → Nat) (cI : ClassId) (hu : Nat) (sd : Nat) (tw : Nat) (st : Nat) (od : Nat) (fs : Nat → Int32) (ft : Nat → Int32) (ff : Nat → Int32) (fo : Nat → Int32) (cn : Nat) (x : Int32) (y : Int32) (z : Int32) (sz : Nat) (hcn : cn < 12) : Met l yX2_add wsX2_add ({ frames := 2, cells := 0, slots := 0, locals := 45 }) (va_Pc [.ref hu, .int x, .int y, .int z] (wt_pm (dC, dI) cI [(hu, .inr (2, [.ref sd, .ref tw, .ref st, .ref od, .int (nI cn)])), (sd, .inl (cI, 12, .inl fs)), (tw, .inl (cI, 264, .inl ft)), (st, .inl (cI, 264, .inl ff)), (od, .inl (cI, 264, .inl fo))] sz)) (wt_mu (some (.int (nI cn))) (dC, dI) [(hu, .inr (2, [.ref sd, .ref tw, .ref st, .ref od, .int (nI (cn + 1))])), (sd, .inl (cI, 12, .inl (upd fs cn x))), (tw, .inl (cI, 264, .inl (wt_plT ft 0 cn y z))), (st, .inl (cI, 264, .inl (wt_plF ff 0 cn z))), (od, .inl (cI, 264, .inl fo))] (va_A [(hu, .inr (2, [.ref sd, .ref tw, .ref st, .ref od, .int (nI cn)])), (sd, .inl (cI, 12, .inl fs)), (tw, .inl (cI, 264, .inl ft)), (st, .inl (cI, 264, .inl ff)), (od, .inl (cI, 264, .inl fo))] sz)) 0 0 (va_A [(hu, .inr (2, [.ref sd, .ref tw, .ref st, .ref od, .int (nI cn)])), (sd, .inl (cI, 12, .inl fs)), (tw, .inl (cI, 264, .inl ft)), (st, .inl (cI, 264, .inl ff)), (od, .inl (cI, 264, .inl fo))] sz) := by
  refine Met.ofW (cc := cX2_add) (maxL := 5) (ret := (some .int)) (by decide) rfl ?_
  intro p e s m args below meth c s₁ B hml hv
  obtain ⟨rfl, hsz, ⟨hP, hK, hN⟩, hD0⟩ := hv
  have hx := B.exec
  have hb := B.bytes
  have hr := B.returns
  have hts := atoms_spec (ws := wsX2_add) B.pre
  have hown : s.vm.findClass RX2 = some m.cls := findClass_of_methodNamed B.named
  have hlocks := B.notSynchronized
  subst hsz
  have hD := hD0.self (sz := s.heap.size)
  generalize hAe : va_A [(hu, .inr (2, [.ref sd, .ref tw, .ref st, .ref od, .int (nI cn)])), (sd, .inl (cI, 12, .inl fs)), (tw, .inl (cI, 264, .inl ft)), (st, .inl (cI, 264, .inl ff)), (od, .inl (cI, 264, .inl fo))] s.heap.size = A at hD ⊢
  have hA : ∀ q : Nat, s.heap.size ≤ q → A q := fun q h => by rw [← hAe]; exact Or.inr h
  have hS : va_S A s.heap s.heap [] := va_S.rf
  have inX2 : ∀ w ∈ wsX20, w ∈ wsX2_add := wt_in [23, 24, 25, 26, 27] (by decide +kernel)
  have hl := lv_entry ([.ref hu, .int x, .int y, .int z]) (n := 5) (Nat.le_of_ble_eq_true rfl)
  rw [lg_entry_eq]
  generalize (lg_sl ([.ref hu, .int x, .int y, .int z]) ++ List.replicate (5 - (lg_sl ([.ref hu, .int x, .int y, .int z])).length) Slot.unset).toArray = ls at hl ⊢
  have hl : lv_has ls 5 [(0, .ref hu), (1, .int x), (2, .int y), (3, .int z)] := hl
  refine lv_aload_n hx hb dX2_add_0 rfl (lv_at hl 0 rfl) ?_
  refine va_get (D := (dC, dI)) (ci := 2) (v := .int (nI cn)) (C := RX2) (T := TX2) (N := 5) hx hb hts inX2 hown hK hP 0 rfl rfl 4 (by decide) (hts (.fieldLink RX2 24 "WarTable$Units" "count" "I") (List.mem_of_getElem? (i := 1) rfl)) (fun _ h9 => h9) rfl dX2_add_1 ?_
  refine lv_istore (lv' := [(4, .int (nI cn)), (0, .ref hu), (1, .int x), (2, .int y), (3, .int z)]) hx hb dX2_add_4 hl (by decide) rfl (fun ls hl => ?_)
  refine lv_iload hx hb dX2_add_6 (lv_at hl 0 rfl) ?_
  refine lv_bipush (v := nI 12) hx hb dX2_add_8 (by decide +kernel) ?_
  refine wt_ro_go (va_runSN (As := [.int (nI cn), .int (nI 12)]) (rest := []) ⟨hx, hb, hml, hown, hts⟩ (k_X3_belowN l cn 12 (by omega) (by omega)) ⟨va_cnB (host := RX3) 2 hts gX2_add_X3_below_n28 rfl rfl rfl (hN _ (List.mem_of_getElem? (i := 6) rfl)) (hts (.initialized RX3) (List.mem_of_getElem? (i := 4) rfl)) (by decide +kernel) ⟨Nat.le_of_ble_eq_true rfl, Nat.le_of_ble_eq_true rfl⟩, (hts (.static yX3_below) (List.mem_of_getElem? (i := 3) rfl)), trivial⟩ wt_PS rfl rfl hl.1 rfl (lv_room (Nat.le_of_ble_eq_true rfl)) dX2_add_10 ⟨Nat.zero_le _, Nat.zero_le _⟩) ?_
  refine wt_if_neB (tgt := 18) hx hb dX2_add_13 (by decide) (fun c_13_1 => ?_) (fun c_13_1 => ?_)
  · refine lv_aload_n hx hb dX2_add_18 rfl (lv_at hl 1 rfl) ?_
    refine va_get (D := (dC, dI)) (ci := 2) (v := .ref sd) (C := RX2) (T := TX2) (N := 5) hx hb hts inX2 hown hK hP 0 rfl rfl 0 (by decide) (hts (.fieldLink RX2 9 "WarTable$Units" "sides" "[I") (List.mem_of_getElem? (i := 2) rfl)) (fun _ h9 => h9) rfl dX2_add_19 ?_
    refine lv_iload hx hb dX2_add_22 (lv_at hl 0 rfl) ?_
    refine lv_iload_n hx hb dX2_add_24 rfl (lv_at hl 2 rfl) ?_
    refine wt_iast hx hb hK hP hD hS 1 rfl (by omega) (by omega) dX2_add_25 (fun H locs hP hD hS => ?_)
    have hP : va_P (dC, dI) vwCl [(hu, .inr (2, [.ref sd, .ref tw, .ref st, .ref od, .int (nI cn)])), (sd, .inl (cI, 12, .inl (upd fs cn x))), (tw, .inl (cI, 264, .inl ft)), (st, .inl (cI, 264, .inl ff)), (od, .inl (cI, 264, .inl fo))] H := hP
    have hD : va_D A [(hu, .inr (2, [.ref sd, .ref tw, .ref st, .ref od, .int (nI cn)])), (sd, .inl (cI, 12, .inl (upd fs cn x))), (tw, .inl (cI, 264, .inl ft)), (st, .inl (cI, 264, .inl ff)), (od, .inl (cI, 264, .inl fo))] := hD
    refine lv_aload_n hx hb dX2_add_26 rfl (lv_at hl 1 rfl) ?_
    refine lv_iload hx hb dX2_add_27 (lv_at hl 0 rfl) ?_
    refine lv_iconst (v := nI 1) hx hb dX2_add_29 (by decide +kernel) ?_
    refine wt_iadd hx hb dX2_add_30 ?_
    refine va_put (D := (dC, dI)) (ci := 2) (v := .int (nI (cn + 1))) (ty := .int) (C := RX2) (T := TX2) (N := 5) hx hb hts inX2 tyX2 tyX2_ok nmX2 hown hK hP hD hS 0 rfl rfl 4 (by decide) (hts (.fieldLink RX2 24 "WarTable$Units" "count" "I") (List.mem_of_getElem? (i := 1) rfl)) (fun _ h9 => h9) rfl (by decide +kernel) rfl rfl (Nat.le_of_ble_eq_true rfl) dX2_add_31 (fun H locs hP hD hS => ?_)
    have hP : va_P (dC, dI) vwCl [(hu, .inr (2, [.ref sd, .ref tw, .ref st, .ref od, .int (nI (cn + 1))])), (sd, .inl (cI, 12, .inl (upd fs cn x))), (tw, .inl (cI, 264, .inl ft)), (st, .inl (cI, 264, .inl ff)), (od, .inl (cI, 264, .inl fo))] H := hP
    have hD : va_D A [(hu, .inr (2, [.ref sd, .ref tw, .ref st, .ref od, .int (nI (cn + 1))])), (sd, .inl (cI, 12, .inl (upd fs cn x))), (tw, .inl (cI, 264, .inl ft)), (st, .inl (cI, 264, .inl ff)), (od, .inl (cI, 264, .inl fo))] := hD
    refine lv_aload_n hx hb dX2_add_34 rfl (lv_at hl 1 rfl) ?_
    refine lv_iconst (v := nI 0) hx hb dX2_add_35 (by decide +kernel) ?_
    refine lv_iload hx hb dX2_add_36 (lv_at hl 0 rfl) ?_
    refine lv_iload_n hx hb dX2_add_38 rfl (lv_at hl 3 rfl) ?_
    refine lv_iload_n hx hb dX2_add_39 rfl (lv_at hl 4 rfl) ?_
    refine wt_mu_go (w1 := [(hu, .inr (2, [.ref sd, .ref tw, .ref st, .ref od, .int (nI (cn + 1))])), (sd, .inl (cI, 12, .inl (upd fs cn x))), (tw, .inl (cI, 264, .inl (wt_plT ft 0 cn y z))), (st, .inl (cI, 264, .inl (wt_plF ff 0 cn z))), (od, .inl (cI, 264, .inl fo))]) (w2 := [(hu, .inr (2, [.ref sd, .ref tw, .ref st, .ref od, .int (nI (cn + 1))])), (sd, .inl (cI, 12, .inl (upd fs cn x))), (tw, .inl (cI, 264, .inl (wt_plT ft 0 cn y z))), (st, .inl (cI, 264, .inl (wt_plF ff 0 cn z))), (od, .inl (cI, 264, .inl fo))]) (wr := []) (va_runV (As := [.int (nI 0), .int (nI cn), .int y, .int z]) (rest := []) ⟨hx, hb, hml, hown, hts⟩ (k_X2_place l dC dI cI hu sd tw st od (upd fs cn x) ft ff fo (cn + 1) 0 cn y z H.size (by omega) (by omega)) (cwV 4 hts gX2_add_X2_place rfl rfl rfl (by decide +kernel) ⟨Nat.le_of_ble_eq_true rfl, Nat.le_of_ble_eq_true rfl⟩) (wt_PVM (C := RX2) (T := TX2) (N := 5) (ci := 2) (q0 := 0) hK hP hN hD rfl rfl [0, 1, 2, 3, 4] rfl rfl) rfl rfl hl.1 rfl (lv_room (Nat.le_of_ble_eq_true rfl)) dX2_add_40 ⟨Nat.zero_le _, Nat.zero_le _⟩) hP hD hS hA [0, 1, 2, 3, 4] [] rfl rfl rfl rfl (by decide) rfl [0, 1, 2, 3, 4] rfl rfl (fun H locs hP hD hS hz9 => ?_)
    refine W.eq (g2 := F0 m 43 ls []) rfl ?_
    refine lv_iload hx hb dX2_add_43 (lv_at hl 0 rfl) ?_
    exact wt_miret hx hb hr rfl hP hS dX2_add_45 hlocks
  · exfalso; omega
set_option maxHeartbeats 4000000 in
set_option maxRecDepth 100000 in
theorem k_X2_livingAt (l : Launch) (dC : Nat → ClassId) (dI : Nat → Nat → Nat) (cI : ClassId) (hu : Nat) (sd : Nat) (tw : Nat) (st : Nat) (od : Nat) (fs : Nat → Int32) (ft : Nat → Int32) (ff : Nat → Int32) (fo : Nat → Int32) (cn : Nat) (k : Nat) (hcn : cn ≤ 12) (hk : k < 22) : Met l yX2_livingAt wsX2_livingAt ({ frames := 2, cells := 0, slots := 0, locals := 43 }) (va_Pc [.ref hu, .int (nI k)] (wt_pre (dC, dI) cI [(hu, .inr (2, [.ref sd, .ref tw, .ref st, .ref od, .int (nI cn)])), (sd, .inl (cI, 12, .inl fs)), (tw, .inl (cI, 264, .inl ft)), (st, .inl (cI, 264, .inl ff)), (od, .inl (cI, 264, .inl fo))])) (wt_ro (nI (wt_fold (wt_lvs ft k) cn 0))) 0 0 wt_no := by
  refine Met.ofW (cc := cX2_livingAt) (maxL := 4) (ret := (some .int)) (by decide) rfl ?_
  intro p e s m args below meth c s₁ B hml hv
  obtain ⟨rfl, hP, hK, hN⟩ := hv
  have hx := B.exec
  have hb := B.bytes
  have hr := B.returns
  have hts := atoms_spec (ws := wsX2_livingAt) B.pre
  have hown : s.vm.findClass RX2 = some m.cls := findClass_of_methodNamed B.named
  have hlocks := B.notSynchronized
  have inX2 : ∀ w ∈ wsX20, w ∈ wsX2_livingAt := wt_in [14, 15, 16, 17, 18] (by decide +kernel)
  have hl := lv_entry ([.ref hu, .int (nI k)]) (n := 4) (Nat.le_of_ble_eq_true rfl)
  rw [lg_entry_eq]
  generalize (lg_sl ([.ref hu, .int (nI k)]) ++ List.replicate (4 - (lg_sl ([.ref hu, .int (nI k)])).length) Slot.unset).toArray = ls at hl ⊢
  have hl : lv_has ls 4 [(0, .ref hu), (1, .int (nI k))] := hl
  refine lv_iconst (v := nI 0) hx hb dX2_livingAt_0 (by decide +kernel) ?_
  refine lv_istore_n (lv' := [(2, .int (nI 0)), (0, .ref hu), (1, .int (nI k))]) hx hb dX2_livingAt_1 rfl hl (by decide) rfl (fun ls hl => ?_)
  refine lv_iconst (v := nI 0) hx hb dX2_livingAt_2 (by decide +kernel) ?_
  refine lv_istore_n (lv' := [(3, .int (nI 0)), (2, .int (nI 0)), (0, .ref hu), (1, .int (nI k))]) hx hb dX2_livingAt_3 rfl hl (by decide) rfl (fun ls hl => ?_)
  have e1 : nI 0 = nI (wt_fold (wt_lvs ft k) 0 0) := rfl
  refine wt_lp (σ := Nat) 0 (fun i => cn - i) (fun i ls => (i ≤ cn) ∧ lv_has ls 4 [(3, .int (nI i)), (2, .int (nI (wt_fold (wt_lvs ft k) i 0))), (0, .ref hu), (1, .int (nI k))]) ⟨(by omega), Eq.mp (congrArg (fun z9 : Int32 => lv_has ls 4 [(3, .int (nI 0)), (2, .int z9), (0, .ref hu), (1, .int (nI k))]) e1) (lv_sub hl [0, 1, 2, 3] rfl)⟩ (fun i ls h9 ih_4 => ?_)
  obtain ⟨h_4_0, hl⟩ := h9
  refine lv_iload_n hx hb dX2_livingAt_4 rfl (lv_at hl 0 rfl) ?_
  refine lv_aload_n hx hb dX2_livingAt_5 rfl (lv_at hl 2 rfl) ?_
  refine va_get (D := (dC, dI)) (ci := 2) (v := .int (nI cn)) (C := RX2) (T := TX2) (N := 5) hx hb hts inX2 hown hK hP 0 rfl rfl 4 (by decide) (hts (.fieldLink RX2 24 "WarTable$Units" "count" "I") (List.mem_of_getElem? (i := 1) rfl)) (fun _ h9 => h9) rfl dX2_livingAt_6 ?_
  refine wt_icmp_ge (tgt := 31) hx hb (by omega) (by omega) dX2_livingAt_9 (by decide) (fun c_9_2 => ?_) (fun c_9_2 => ?_)
  · refine lv_iload_n hx hb dX2_livingAt_31 rfl (lv_at hl 1 rfl) ?_
    exact wt_ret hx hb hr (by rw [show i = cn by omega]) rfl dX2_livingAt_32 hlocks
  · refine lv_aload_n hx hb dX2_livingAt_12 rfl (lv_at hl 2 rfl) ?_
    refine lv_iload_n hx hb dX2_livingAt_13 rfl (lv_at hl 3 rfl) ?_
    refine lv_iload_n hx hb dX2_livingAt_14 rfl (lv_at hl 0 rfl) ?_
    refine wt_ro_go (va_runV (As := [.int (nI k), .int (nI i)]) (rest := []) ⟨hx, hb, hml, hown, hts⟩ (k_X2_townAt l dC dI cI hu sd tw st od fs ft ff fo cn k i (by omega) (by omega)) (cwV 2 hts gX2_livingAt_X2_townAt rfl rfl rfl (by decide +kernel) ⟨Nat.le_of_ble_eq_true rfl, Nat.le_of_ble_eq_true rfl⟩) (wt_PV (C := RX2) (T := TX2) (N := 5) (ci := 2) (q0 := 0) hK hP hN rfl rfl [0, 1, 2, 3, 4] rfl) rfl rfl hl.1 rfl (lv_room (Nat.le_of_ble_eq_true rfl)) dX2_livingAt_15 ⟨Nat.zero_le _, Nat.zero_le _⟩) ?_
    refine lv_iconst (v := (-1)) hx hb dX2_livingAt_18 (by decide +kernel) ?_
    refine wt_icmp_eqI (tgt := 25) hx hb dX2_livingAt_19 (by decide) (fun c_19_3 => ?_) (fun c_19_3 => ?_)
    · refine lv_iinc (v := nI (i + 1)) (lv' := [(3, .int (nI (i + 1))), (2, .int (nI (wt_fold (wt_lvs ft k) i 0))), (0, .ref hu), (1, .int (nI k))]) hx hb dX2_livingAt_25 hl (k := 0) rfl (nI_1 i) (by decide) rfl (fun ls hl => ?_)
      refine lv_goto (tgt := 4) hx hb dX2_livingAt_28 (by decide) ?_
      have e4 : nI (wt_fold (wt_lvs ft k) i 0) = nI (wt_fold (wt_lvs ft k) (i + 1) 0) := (congrArg nI (by simp only [wt_fold_s, wt_lvs, wt_if_t c_19_3]))
      exact ih_4 (i + 1) _ (by omega) ⟨(by omega), Eq.mp (congrArg (fun z9 : Int32 => lv_has ls 4 [(3, .int (nI (i + 1))), (2, .int z9), (0, .ref hu), (1, .int (nI k))]) e4) (lv_sub hl [0, 1, 2, 3] rfl)⟩
    · refine lv_iinc (v := nI ((wt_fold (wt_lvs ft k) i 0) + 1)) (lv' := [(2, .int (nI ((wt_fold (wt_lvs ft k) i 0) + 1))), (3, .int (nI i)), (0, .ref hu), (1, .int (nI k))]) hx hb dX2_livingAt_22 hl (k := 1) rfl (nI_1 (wt_fold (wt_lvs ft k) i 0)) (by decide) rfl (fun ls hl => ?_)
      refine lv_iinc (v := nI (i + 1)) (lv' := [(3, .int (nI (i + 1))), (2, .int (nI ((wt_fold (wt_lvs ft k) i 0) + 1))), (0, .ref hu), (1, .int (nI k))]) hx hb dX2_livingAt_25 hl (k := 1) rfl (nI_1 i) (by decide) rfl (fun ls hl => ?_)
      refine lv_goto (tgt := 4) hx hb dX2_livingAt_28 (by decide) ?_
      have e5 : nI ((wt_fold (wt_lvs ft k) i 0) + 1) = nI (wt_fold (wt_lvs ft k) (i + 1) 0) := (congrArg nI (by simp only [wt_fold_s, wt_lvs, wt_if_f c_19_3]))
      exact ih_4 (i + 1) _ (by omega) ⟨(by omega), Eq.mp (congrArg (fun z9 : Int32 => lv_has ls 4 [(3, .int (nI (i + 1))), (2, .int z9), (0, .ref hu), (1, .int (nI k))]) e5) (lv_sub hl [0, 1, 2, 3] rfl)⟩
set_option maxHeartbeats 4000000 in
set_option maxRecDepth 100000 in
theorem k_X2_townsHeld (l : Launch) (dC : Nat → ClassId) (dI : Nat → Nat → Nat) (cI : ClassId) (hu : Nat) (sd : Nat) (tw : Nat) (st : Nat) (od : Nat) (fs : Nat → Int32) (ft : Nat → Int32) (ff : Nat → Int32) (fo : Nat → Int32) (cn : Nat) (k : Nat) (d : Nat) (hcn : cn ≤ 12) (hk : k < 22) : Met l yX2_townsHeld wsX2_townsHeld ({ frames := 2, cells := 0, slots := 0, locals := 43 }) (va_Pc [.ref hu, .int (nI k), .int (nI d)] (wt_pre (dC, dI) cI [(hu, .inr (2, [.ref sd, .ref tw, .ref st, .ref od, .int (nI cn)])), (sd, .inl (cI, 12, .inl fs)), (tw, .inl (cI, 264, .inl ft)), (st, .inl (cI, 264, .inl ff)), (od, .inl (cI, 264, .inl fo))])) (wt_ro (wt_held fs ft k d cn)) 0 0 wt_no := by
  refine Met.ofW (cc := cX2_townsHeld) (maxL := 6) (ret := (some .int)) (by decide) rfl ?_
  intro p e s m args below meth c s₁ B hml hv
  obtain ⟨rfl, hP, hK, hN⟩ := hv
  have hx := B.exec
  have hb := B.bytes
  have hr := B.returns
  have hts := atoms_spec (ws := wsX2_townsHeld) B.pre
  have hown : s.vm.findClass RX2 = some m.cls := findClass_of_methodNamed B.named
  have hlocks := B.notSynchronized
  have inX2 : ∀ w ∈ wsX20, w ∈ wsX2_townsHeld := wt_in [24, 25, 26, 27, 28] (by decide +kernel)
  have hl := lv_entry ([.ref hu, .int (nI k), .int (nI d)]) (n := 6) (Nat.le_of_ble_eq_true rfl)
  rw [lg_entry_eq]
  generalize (lg_sl ([.ref hu, .int (nI k), .int (nI d)]) ++ List.replicate (6 - (lg_sl ([.ref hu, .int (nI k), .int (nI d)])).length) Slot.unset).toArray = ls at hl ⊢
  have hl : lv_has ls 6 [(0, .ref hu), (1, .int (nI k)), (2, .int (nI d))] := hl
  refine lv_iconst (v := nI 0) hx hb dX2_townsHeld_0 (by decide +kernel) ?_
  refine lv_istore_n (lv' := [(3, .int (nI 0)), (0, .ref hu), (1, .int (nI k)), (2, .int (nI d))]) hx hb dX2_townsHeld_1 rfl hl (by decide) rfl (fun ls hl => ?_)
  refine lv_iconst (v := nI 0) hx hb dX2_townsHeld_2 (by decide +kernel) ?_
  refine lv_istore (lv' := [(4, .int (nI 0)), (3, .int (nI 0)), (0, .ref hu), (1, .int (nI k)), (2, .int (nI d))]) hx hb dX2_townsHeld_3 hl (by decide) rfl (fun ls hl => ?_)
  have e1 : nI 0 = (wt_fold (wt_hs fs ft k d) 0 (nI 0)) := rfl
  refine wt_lp (σ := Nat) 0 (fun i => cn - i) (fun i ls => (i ≤ cn) ∧ lv_has ls 6 [(4, .int (nI i)), (3, .int (wt_fold (wt_hs fs ft k d) i (nI 0))), (0, .ref hu), (1, .int (nI k)), (2, .int (nI d))]) ⟨(by omega), Eq.mp (congrArg (fun z9 : Int32 => lv_has ls 6 [(4, .int (nI 0)), (3, .int z9), (0, .ref hu), (1, .int (nI k)), (2, .int (nI d))]) e1) (lv_sub hl [0, 1, 2, 3, 4] rfl)⟩ (fun i ls h9 ih_5 => ?_)
  obtain ⟨h_5_0, hl⟩ := h9
  refine lv_iload hx hb dX2_townsHeld_5 (lv_at hl 0 rfl) ?_
  refine lv_aload_n hx hb dX2_townsHeld_7 rfl (lv_at hl 2 rfl) ?_
  refine va_get (D := (dC, dI)) (ci := 2) (v := .int (nI cn)) (C := RX2) (T := TX2) (N := 5) hx hb hts inX2 hown hK hP 0 rfl rfl 4 (by decide) (hts (.fieldLink RX2 24 "WarTable$Units" "count" "I") (List.mem_of_getElem? (i := 1) rfl)) (fun _ h9 => h9) rfl dX2_townsHeld_8 ?_
  refine wt_icmp_ge (tgt := 53) hx hb (by omega) (by omega) dX2_townsHeld_11 (by decide) (fun c_11_2 => ?_) (fun c_11_2 => ?_)
  · refine lv_iload_n hx hb dX2_townsHeld_53 rfl (lv_at hl 1 rfl) ?_
    exact wt_ret hx hb hr (by rw [show i = cn by omega]; rfl) rfl dX2_townsHeld_54 hlocks
  · refine lv_aload_n hx hb dX2_townsHeld_14 rfl (lv_at hl 2 rfl) ?_
    refine lv_iload_n hx hb dX2_townsHeld_15 rfl (lv_at hl 3 rfl) ?_
    refine lv_iload hx hb dX2_townsHeld_16 (lv_at hl 0 rfl) ?_
    refine wt_ro_go (va_runV (As := [.int (nI k), .int (nI i)]) (rest := []) ⟨hx, hb, hml, hown, hts⟩ (k_X2_townAt l dC dI cI hu sd tw st od fs ft ff fo cn k i (by omega) (by omega)) (cwV 2 hts gX2_townsHeld_X2_townAt rfl rfl rfl (by decide +kernel) ⟨Nat.le_of_ble_eq_true rfl, Nat.le_of_ble_eq_true rfl⟩) (wt_PV (C := RX2) (T := TX2) (N := 5) (ci := 2) (q0 := 0) hK hP hN rfl rfl [0, 1, 2, 3, 4] rfl) rfl rfl hl.1 rfl (lv_room (Nat.le_of_ble_eq_true rfl)) dX2_townsHeld_18 ⟨Nat.zero_le _, Nat.zero_le _⟩) ?_
    refine lv_istore (lv' := [(5, .int (ft (k * 12 + i))), (4, .int (nI i)), (3, .int (wt_fold (wt_hs fs ft k d) i (nI 0))), (0, .ref hu), (1, .int (nI k)), (2, .int (nI d))]) hx hb dX2_townsHeld_21 hl (by decide) rfl (fun ls hl => ?_)
    refine lv_aload_n hx hb dX2_townsHeld_23 rfl (lv_at hl 3 rfl) ?_
    refine lv_iload hx hb dX2_townsHeld_24 (lv_at hl 1 rfl) ?_
    refine wt_ro_go (va_runV (As := [.int (nI i)]) (rest := []) ⟨hx, hb, hml, hown, hts⟩ (k_X2_sideOf l dC dI cI hu sd tw st od fs ft ff fo cn i (by omega)) (cwV 1 hts gX2_townsHeld_X2_sideOf rfl rfl rfl (by decide +kernel) ⟨Nat.le_of_ble_eq_true rfl, Nat.le_of_ble_eq_true rfl⟩) (wt_PV (C := RX2) (T := TX2) (N := 5) (ci := 2) (q0 := 0) hK hP hN rfl rfl [0, 1, 2, 3, 4] rfl) rfl rfl hl.1 rfl (lv_room (Nat.le_of_ble_eq_true rfl)) dX2_townsHeld_26 ⟨Nat.zero_le _, Nat.zero_le _⟩) ?_
    refine lv_iload_n hx hb dX2_townsHeld_29 rfl (lv_at hl 5 rfl) ?_
    refine wt_icmp_neI (tgt := 47) hx hb dX2_townsHeld_30 (by decide) (fun c_30_3 => ?_) (fun c_30_3 => ?_)
    · refine lv_iinc (v := nI (i + 1)) (lv' := [(4, .int (nI (i + 1))), (5, .int (ft (k * 12 + i))), (3, .int (wt_fold (wt_hs fs ft k d) i (nI 0))), (0, .ref hu), (1, .int (nI k)), (2, .int (nI d))]) hx hb dX2_townsHeld_47 hl (k := 1) rfl (nI_1 i) (by decide) rfl (fun ls hl => ?_)
      refine lv_goto (tgt := 5) hx hb dX2_townsHeld_50 (by decide) ?_
      have e4 : (wt_fold (wt_hs fs ft k d) i (nI 0)) = (wt_fold (wt_hs fs ft k d) (i + 1) (nI 0)) := (by simp only [wt_fold_s, wt_hs, wt_if_f c_30_3])
      exact ih_5 (i + 1) _ (by omega) ⟨(by omega), Eq.mp (congrArg (fun z9 : Int32 => lv_has ls 6 [(4, .int (nI (i + 1))), (3, .int z9), (0, .ref hu), (1, .int (nI k)), (2, .int (nI d))]) e4) (lv_sub hl [0, 2, 3, 4, 5] rfl)⟩
    · refine lv_iload hx hb dX2_townsHeld_33 (lv_at hl 0 rfl) ?_
      refine lv_iconst (v := (-1)) hx hb dX2_townsHeld_35 (by decide +kernel) ?_
      refine wt_icmp_eqI (tgt := 47) hx hb dX2_townsHeld_36 (by decide) (fun c_36_5 => ?_) (fun c_36_5 => ?_)
      · refine lv_iinc (v := nI (i + 1)) (lv' := [(4, .int (nI (i + 1))), (5, .int (ft (k * 12 + i))), (3, .int (wt_fold (wt_hs fs ft k d) i (nI 0))), (0, .ref hu), (1, .int (nI k)), (2, .int (nI d))]) hx hb dX2_townsHeld_47 hl (k := 1) rfl (nI_1 i) (by decide) rfl (fun ls hl => ?_)
        refine lv_goto (tgt := 5) hx hb dX2_townsHeld_50 (by decide) ?_
        have e6 : (wt_fold (wt_hs fs ft k d) i (nI 0)) = (wt_fold (wt_hs fs ft k d) (i + 1) (nI 0)) := (by simp only [wt_fold_s, wt_hs, wt_if_t c_30_3, wt_if_t c_36_5])
        exact ih_5 (i + 1) _ (by omega) ⟨(by omega), Eq.mp (congrArg (fun z9 : Int32 => lv_has ls 6 [(4, .int (nI (i + 1))), (3, .int z9), (0, .ref hu), (1, .int (nI k)), (2, .int (nI d))]) e6) (lv_sub hl [0, 2, 3, 4, 5] rfl)⟩
      · refine lv_iload_n hx hb dX2_townsHeld_39 rfl (lv_at hl 2 rfl) ?_
        refine lv_iload hx hb dX2_townsHeld_40 (lv_at hl 0 rfl) ?_
        refine wt_ro_go (va_runSN (As := [.int (ft (k * 12 + i))]) (rest := [.int (wt_fold (wt_hs fs ft k d) i (nI 0))]) ⟨hx, hb, hml, hown, hts⟩ (k_X3_bit l (ft (k * 12 + i))) ⟨va_cnB (host := RX3) 1 hts gX2_townsHeld_X3_bit_n58 rfl rfl rfl (hN _ (List.mem_of_getElem? (i := 7) rfl)) (hts (.initialized RX3) (List.mem_of_getElem? (i := 20) rfl)) (by decide +kernel) ⟨Nat.le_of_ble_eq_true rfl, Nat.le_of_ble_eq_true rfl⟩, (hts (.static yX3_bit) (List.mem_of_getElem? (i := 22) rfl)), trivial⟩ wt_PS rfl rfl hl.1 rfl (lv_room (Nat.le_of_ble_eq_true rfl)) dX2_townsHeld_42 ⟨Nat.zero_le _, Nat.zero_le _⟩) ?_
        refine lv_ior hx hb dX2_townsHeld_45 ?_
        refine lv_istore_n (lv' := [(3, .int ((wt_fold (wt_hs fs ft k d) i (nI 0)) ||| (wt_bit (ft (k * 12 + i))))), (5, .int (ft (k * 12 + i))), (4, .int (nI i)), (0, .ref hu), (1, .int (nI k)), (2, .int (nI d))]) hx hb dX2_townsHeld_46 rfl hl (by decide) rfl (fun ls hl => ?_)
        refine lv_iinc (v := nI (i + 1)) (lv' := [(4, .int (nI (i + 1))), (3, .int ((wt_fold (wt_hs fs ft k d) i (nI 0)) ||| (wt_bit (ft (k * 12 + i))))), (5, .int (ft (k * 12 + i))), (0, .ref hu), (1, .int (nI k)), (2, .int (nI d))]) hx hb dX2_townsHeld_47 hl (k := 2) rfl (nI_1 i) (by decide) rfl (fun ls hl => ?_)
        refine lv_goto (tgt := 5) hx hb dX2_townsHeld_50 (by decide) ?_
        have e7 : ((wt_fold (wt_hs fs ft k d) i (nI 0)) ||| (wt_bit (ft (k * 12 + i)))) = (wt_fold (wt_hs fs ft k d) (i + 1) (nI 0)) := (by simp only [wt_fold_s, wt_hs, wt_if_t c_30_3, wt_if_f c_36_5])
        exact ih_5 (i + 1) _ (by omega) ⟨(by omega), Eq.mp (congrArg (fun z9 : Int32 => lv_has ls 6 [(4, .int (nI (i + 1))), (3, .int z9), (0, .ref hu), (1, .int (nI k)), (2, .int (nI d))]) e7) (lv_sub hl [0, 1, 3, 4, 5] rfl)⟩
