set_option maxHeartbeats 4000000 in
set_option maxRecDepth 100000 in
theorem k_X0_init (l : Launch) (dC : Nat → ClassId) (dI : Nat → Nat → Nat) (cI : ClassId) (hm : Nat) (sz : Nat) : Met l yX0_init wsX0_init ({ frames := 1, cells := 2, slots := 20, locals := 20 }) (va_Pc [.ref hm] (wt_pm (dC, dI) cI [(hm, .inr (0, [.null, .null, .int 0]))] sz)) (va_Qv (fun _ : Unit => True) (fun _ t => ∃ (pv up : Nat), va_P (dC, dI) vwCl [(hm, .inr (0, [.ref pv, .ref up, .int (nI 0)])), (pv, .inl (cI, 10, .inl (fun _ => 0))), (up, .inl (cI, 10, .inl (fun _ => 0)))] t.heap ∧ va_D (va_A [(hm, .inr (0, [.null, .null, .int 0]))] sz) [(hm, .inr (0, [.ref pv, .ref up, .int (nI 0)])), (pv, .inl (cI, 10, .inl (fun _ => 0))), (up, .inl (cI, 10, .inl (fun _ => 0)))]) (va_A [(hm, .inr (0, [.null, .null, .int 0]))] sz)) 2 20 (va_A [(hm, .inr (0, [.null, .null, .int 0]))] sz) := by
  refine Met.ofW (cc := cX0_init) (maxL := 1) (ret := none) (by decide) rfl ?_
  intro p e s m args below meth c s₁ B hml hv
  obtain ⟨rfl, hsz, ⟨hP, hK, hN⟩, hD0⟩ := hv
  have hx := B.exec
  have hb := B.bytes
  have hr := B.returns
  have hts := atoms_spec (ws := wsX0_init) B.pre
  have hown : s.vm.findClass RX0 = some m.cls := findClass_of_methodNamed B.named
  have hlocks := B.notSynchronized
  have hin : meth.name = "<init>" := (name_of_methodNamed B.named B.method).1
  subst hsz
  have hD := hD0.self (sz := s.heap.size)
  generalize hAe : va_A [(hm, .inr (0, [.null, .null, .int 0]))] s.heap.size = A at hD ⊢
  have hA : ∀ q : Nat, s.heap.size ≤ q → A q := fun q h => by rw [← hAe]; exact Or.inr h
  have hS : va_S A s.heap s.heap [] := va_S.rf
  have inX0 : ∀ w ∈ wsX00, w ∈ wsX0_init := wt_in [8, 9, 10] (by decide +kernel)
  have hl := lv_entry ([.ref hm]) (n := 1) (Nat.le_of_ble_eq_true rfl)
  rw [lg_entry_eq]
  generalize (lg_sl ([.ref hm]) ++ List.replicate (1 - (lg_sl ([.ref hm])).length) Slot.unset).toArray = ls at hl ⊢
  have hl : lv_has ls 1 [(0, .ref hm)] := hl
  refine lv_aload_n hx hb dX0_init_0 rfl (lv_at hl 0 rfl) ?_
  refine W.objInit hx hb hown (hts (.methodLink RX0 3 objectInit) (List.mem_of_getElem? (i := 1) rfl)) (hts (.instanceMethod objectInit) (List.mem_of_getElem? (i := 2) rfl)) (hts _ (List.mem_of_getElem? (i := 3) rfl)) rfl (by rw [hml]; exact hl.1) rfl dX0_init_1 (Nat.le_of_ble_eq_true rfl) (Nat.le_of_ble_eq_true rfl) ?_
  refine W.eq (g2 := F0 m 4 ls []) rfl ?_
  refine lv_aload_n hx hb dX0_init_4 rfl (lv_at hl 0 rfl) ?_
  refine lv_bipush (v := nI 10) hx hb dX0_init_5 (by decide +kernel) ?_
  refine wt_newa hx hb (hts (.arrayClass .int) (List.mem_of_getElem? (i := 4) rfl)) hK hP hD hS hA (by decide) (Nat.le_of_ble_eq_true rfl) (Nat.le_of_ble_eq_true rfl) dX0_init_7 (fun q1 H hP hD hS => ?_)
  have hP : va_P (dC, dI) vwCl [(hm, .inr (0, [.null, .null, .int 0])), (q1, .inl (cI, 10, .inl (fun _ => 0)))] H := hP
  have hD : va_D A [(hm, .inr (0, [.null, .null, .int 0])), (q1, .inl (cI, 10, .inl (fun _ => 0)))] := hD
  refine W.widen (k := 1) (n := 10) (by omega) (by omega) ?_
  refine va_putF (D := (dC, dI)) (ci := 0) (v := .ref q1) (ty := .array .int) (C := RX0) (T := TX0) (N := 3) hx hb hts inX0 tyX0 tyX0_ok nmX0 hown hK hP hD hS 0 rfl rfl 0 (by decide) (hts (.fieldLink RX0 9 "WarTable$RoadMap" "nextOverPaved" "[I") (List.mem_of_getElem? (i := 5) rfl)) (fun _ h9 => h9) rfl hin rfl (by decide +kernel) rfl rfl (Nat.le_of_ble_eq_true rfl) dX0_init_9 (fun H locs hP hD hS => ?_)
  have hP : va_P (dC, dI) vwCl [(hm, .inr (0, [.ref q1, .null, .int 0])), (q1, .inl (cI, 10, .inl (fun _ => 0)))] H := hP
  have hD : va_D A [(hm, .inr (0, [.ref q1, .null, .int 0])), (q1, .inl (cI, 10, .inl (fun _ => 0)))] := hD
  refine lv_aload_n hx hb dX0_init_12 rfl (lv_at hl 0 rfl) ?_
  refine lv_bipush (v := nI 10) hx hb dX0_init_13 (by decide +kernel) ?_
  refine wt_newa hx hb (hts (.arrayClass .int) (List.mem_of_getElem? (i := 4) rfl)) hK hP hD hS hA (by decide) (Nat.le_of_ble_eq_true rfl) (Nat.le_of_ble_eq_true rfl) dX0_init_15 (fun q2 H hP hD hS => ?_)
  have hP : va_P (dC, dI) vwCl [(hm, .inr (0, [.ref q1, .null, .int 0])), (q1, .inl (cI, 10, .inl (fun _ => 0))), (q2, .inl (cI, 10, .inl (fun _ => 0)))] H := hP
  have hD : va_D A [(hm, .inr (0, [.ref q1, .null, .int 0])), (q1, .inl (cI, 10, .inl (fun _ => 0))), (q2, .inl (cI, 10, .inl (fun _ => 0)))] := hD
  refine W.widen (k := 2) (n := 20) (by omega) (by omega) ?_
  refine va_putF (D := (dC, dI)) (ci := 0) (v := .ref q2) (ty := .array .int) (C := RX0) (T := TX0) (N := 3) hx hb hts inX0 tyX0 tyX0_ok nmX0 hown hK hP hD hS 0 rfl rfl 1 (by decide) (hts (.fieldLink RX0 15 "WarTable$RoadMap" "nextOverUnpaved" "[I") (List.mem_of_getElem? (i := 6) rfl)) (fun _ h9 => h9) rfl hin rfl (by decide +kernel) rfl rfl (Nat.le_of_ble_eq_true rfl) dX0_init_17 (fun H locs hP hD hS => ?_)
  have hP : va_P (dC, dI) vwCl [(hm, .inr (0, [.ref q1, .ref q2, .int 0])), (q1, .inl (cI, 10, .inl (fun _ => 0))), (q2, .inl (cI, 10, .inl (fun _ => 0)))] H := hP
  have hD : va_D A [(hm, .inr (0, [.ref q1, .ref q2, .int 0])), (q1, .inl (cI, 10, .inl (fun _ => 0))), (q2, .inl (cI, 10, .inl (fun _ => 0)))] := hD
  refine lv_aload_n hx hb dX0_init_20 rfl (lv_at hl 0 rfl) ?_
  refine lv_iconst (v := nI 0) hx hb dX0_init_21 (by decide +kernel) ?_
  refine va_put (D := (dC, dI)) (ci := 0) (v := .int (nI 0)) (ty := .int) (C := RX0) (T := TX0) (N := 3) hx hb hts inX0 tyX0 tyX0_ok nmX0 hown hK hP hD hS 0 rfl rfl 2 (by decide) (hts (.fieldLink RX0 18 "WarTable$RoadMap" "roads" "I") (List.mem_of_getElem? (i := 7) rfl)) (fun _ h9 => h9) rfl (by decide +kernel) rfl rfl (Nat.le_of_ble_eq_true rfl) dX0_init_22 (fun H locs hP hD hS => ?_)
  have hP : va_P (dC, dI) vwCl [(hm, .inr (0, [.ref q1, .ref q2, .int (nI 0)])), (q1, .inl (cI, 10, .inl (fun _ => 0))), (q2, .inl (cI, 10, .inl (fun _ => 0)))] H := hP
  have hD : va_D A [(hm, .inr (0, [.ref q1, .ref q2, .int (nI 0)])), (q1, .inl (cI, 10, .inl (fun _ => 0))), (q2, .inl (cI, 10, .inl (fun _ => 0)))] := hD
  have hP : va_P (dC, dI) vwCl [(hm, .inr (0, [.ref q1, .ref q2, .int (nI 0)])), (q1, .inl (cI, 10, .inl (fun _ => 0))), (q2, .inl (cI, 10, .inl (fun _ => 0)))] H := hP.sub [0, 1, 2] rfl
  have hD : va_D A [(hm, .inr (0, [.ref q1, .ref q2, .int (nI 0)])), (q1, .inl (cI, 10, .inl (fun _ => 0))), (q2, .inl (cI, 10, .inl (fun _ => 0)))] := hD.sub [0, 1, 2] rfl rfl
  exact W.vret hx hb hr (fun t ht hW => ⟨⟨(), rfl, trivial, q1, q2, by rw [ht]; exact hP, hD⟩, hS.F ht⟩) hS.2.2 dX0_init_25 hlocks
set_option maxHeartbeats 4000000 in
set_option maxRecDepth 100000 in
theorem k_X1_init (l : Launch) (dC : Nat → ClassId) (dI : Nat → Nat → Nat) (cI : ClassId) (hq : Nat) (sz : Nat) : Met l yX1_init wsX1_init ({ frames := 1, cells := 2, slots := 1024, locals := 20 }) (va_Pc [.ref hq] (wt_pm (dC, dI) cI [(hq, .inr (1, [.null, .null, .int 0]))] sz)) (va_Qv (fun _ : Unit => True) (fun _ t => ∃ (rt rv : Nat), va_P (dC, dI) vwCl [(hq, .inr (1, [.ref rt, .ref rv, .int (nI 0)])), (rt, .inl (cI, 512, .inl (fun _ => 0))), (rv, .inl (cI, 512, .inl (fun _ => 0)))] t.heap ∧ va_D (va_A [(hq, .inr (1, [.null, .null, .int 0]))] sz) [(hq, .inr (1, [.ref rt, .ref rv, .int (nI 0)])), (rt, .inl (cI, 512, .inl (fun _ => 0))), (rv, .inl (cI, 512, .inl (fun _ => 0)))]) (va_A [(hq, .inr (1, [.null, .null, .int 0]))] sz)) 2 1024 (va_A [(hq, .inr (1, [.null, .null, .int 0]))] sz) := by
  refine Met.ofW (cc := cX1_init) (maxL := 1) (ret := none) (by decide) rfl ?_
  intro p e s m args below meth c s₁ B hml hv
  obtain ⟨rfl, hsz, ⟨hP, hK, hN⟩, hD0⟩ := hv
  have hx := B.exec
  have hb := B.bytes
  have hr := B.returns
  have hts := atoms_spec (ws := wsX1_init) B.pre
  have hown : s.vm.findClass RX1 = some m.cls := findClass_of_methodNamed B.named
  have hlocks := B.notSynchronized
  have hin : meth.name = "<init>" := (name_of_methodNamed B.named B.method).1
  subst hsz
  have hD := hD0.self (sz := s.heap.size)
  generalize hAe : va_A [(hq, .inr (1, [.null, .null, .int 0]))] s.heap.size = A at hD ⊢
  have hA : ∀ q : Nat, s.heap.size ≤ q → A q := fun q h => by rw [← hAe]; exact Or.inr h
  have hS : va_S A s.heap s.heap [] := va_S.rf
  have inX1 : ∀ w ∈ wsX10, w ∈ wsX1_init := wt_in [8, 9, 10] (by decide +kernel)
  have hl := lv_entry ([.ref hq]) (n := 1) (Nat.le_of_ble_eq_true rfl)
  rw [lg_entry_eq]
  generalize (lg_sl ([.ref hq]) ++ List.replicate (1 - (lg_sl ([.ref hq])).length) Slot.unset).toArray = ls at hl ⊢
  have hl : lv_has ls 1 [(0, .ref hq)] := hl
  refine lv_aload_n hx hb dX1_init_0 rfl (lv_at hl 0 rfl) ?_
  refine W.objInit hx hb hown (hts (.methodLink RX1 3 objectInit) (List.mem_of_getElem? (i := 1) rfl)) (hts (.instanceMethod objectInit) (List.mem_of_getElem? (i := 2) rfl)) (hts _ (List.mem_of_getElem? (i := 3) rfl)) rfl (by rw [hml]; exact hl.1) rfl dX1_init_1 (Nat.le_of_ble_eq_true rfl) (Nat.le_of_ble_eq_true rfl) ?_
  refine W.eq (g2 := F0 m 4 ls []) rfl ?_
  refine lv_aload_n hx hb dX1_init_4 rfl (lv_at hl 0 rfl) ?_
  refine lv_sipush (v := nI 512) hx hb dX1_init_5 (by decide +kernel) ?_
  refine wt_newa hx hb (hts (.arrayClass .int) (List.mem_of_getElem? (i := 4) rfl)) hK hP hD hS hA (by decide) (Nat.le_of_ble_eq_true rfl) (Nat.le_of_ble_eq_true rfl) dX1_init_8 (fun q1 H hP hD hS => ?_)
  have hP : va_P (dC, dI) vwCl [(hq, .inr (1, [.null, .null, .int 0])), (q1, .inl (cI, 512, .inl (fun _ => 0)))] H := hP
  have hD : va_D A [(hq, .inr (1, [.null, .null, .int 0])), (q1, .inl (cI, 512, .inl (fun _ => 0)))] := hD
  refine W.widen (k := 1) (n := 512) (by omega) (by omega) ?_
  refine va_putF (D := (dC, dI)) (ci := 1) (v := .ref q1) (ty := .array .int) (C := RX1) (T := TX1) (N := 3) hx hb hts inX1 tyX1 tyX1_ok nmX1 hown hK hP hD hS 0 rfl rfl 0 (by decide) (hts (.fieldLink RX1 9 "WarTable$Rulings" "turns" "[I") (List.mem_of_getElem? (i := 5) rfl)) (fun _ h9 => h9) rfl hin rfl (by decide +kernel) rfl rfl (Nat.le_of_ble_eq_true rfl) dX1_init_10 (fun H locs hP hD hS => ?_)
  have hP : va_P (dC, dI) vwCl [(hq, .inr (1, [.ref q1, .null, .int 0])), (q1, .inl (cI, 512, .inl (fun _ => 0)))] H := hP
  have hD : va_D A [(hq, .inr (1, [.ref q1, .null, .int 0])), (q1, .inl (cI, 512, .inl (fun _ => 0)))] := hD
  refine lv_aload_n hx hb dX1_init_13 rfl (lv_at hl 0 rfl) ?_
  refine lv_sipush (v := nI 512) hx hb dX1_init_14 (by decide +kernel) ?_
  refine wt_newa hx hb (hts (.arrayClass .int) (List.mem_of_getElem? (i := 4) rfl)) hK hP hD hS hA (by decide) (Nat.le_of_ble_eq_true rfl) (Nat.le_of_ble_eq_true rfl) dX1_init_17 (fun q2 H hP hD hS => ?_)
  have hP : va_P (dC, dI) vwCl [(hq, .inr (1, [.ref q1, .null, .int 0])), (q1, .inl (cI, 512, .inl (fun _ => 0))), (q2, .inl (cI, 512, .inl (fun _ => 0)))] H := hP
  have hD : va_D A [(hq, .inr (1, [.ref q1, .null, .int 0])), (q1, .inl (cI, 512, .inl (fun _ => 0))), (q2, .inl (cI, 512, .inl (fun _ => 0)))] := hD
  refine W.widen (k := 2) (n := 1024) (by omega) (by omega) ?_
  refine va_putF (D := (dC, dI)) (ci := 1) (v := .ref q2) (ty := .array .int) (C := RX1) (T := TX1) (N := 3) hx hb hts inX1 tyX1 tyX1_ok nmX1 hown hK hP hD hS 0 rfl rfl 1 (by decide) (hts (.fieldLink RX1 15 "WarTable$Rulings" "weathersBefore" "[I") (List.mem_of_getElem? (i := 6) rfl)) (fun _ h9 => h9) rfl hin rfl (by decide +kernel) rfl rfl (Nat.le_of_ble_eq_true rfl) dX1_init_19 (fun H locs hP hD hS => ?_)
  have hP : va_P (dC, dI) vwCl [(hq, .inr (1, [.ref q1, .ref q2, .int 0])), (q1, .inl (cI, 512, .inl (fun _ => 0))), (q2, .inl (cI, 512, .inl (fun _ => 0)))] H := hP
  have hD : va_D A [(hq, .inr (1, [.ref q1, .ref q2, .int 0])), (q1, .inl (cI, 512, .inl (fun _ => 0))), (q2, .inl (cI, 512, .inl (fun _ => 0)))] := hD
  refine lv_aload_n hx hb dX1_init_22 rfl (lv_at hl 0 rfl) ?_
  refine lv_iconst (v := nI 0) hx hb dX1_init_23 (by decide +kernel) ?_
  refine va_put (D := (dC, dI)) (ci := 1) (v := .int (nI 0)) (ty := .int) (C := RX1) (T := TX1) (N := 3) hx hb hts inX1 tyX1 tyX1_ok nmX1 hown hK hP hD hS 0 rfl rfl 2 (by decide) (hts (.fieldLink RX1 18 "WarTable$Rulings" "count" "I") (List.mem_of_getElem? (i := 7) rfl)) (fun _ h9 => h9) rfl (by decide +kernel) rfl rfl (Nat.le_of_ble_eq_true rfl) dX1_init_24 (fun H locs hP hD hS => ?_)
  have hP : va_P (dC, dI) vwCl [(hq, .inr (1, [.ref q1, .ref q2, .int (nI 0)])), (q1, .inl (cI, 512, .inl (fun _ => 0))), (q2, .inl (cI, 512, .inl (fun _ => 0)))] H := hP
  have hD : va_D A [(hq, .inr (1, [.ref q1, .ref q2, .int (nI 0)])), (q1, .inl (cI, 512, .inl (fun _ => 0))), (q2, .inl (cI, 512, .inl (fun _ => 0)))] := hD
  have hP : va_P (dC, dI) vwCl [(hq, .inr (1, [.ref q1, .ref q2, .int (nI 0)])), (q1, .inl (cI, 512, .inl (fun _ => 0))), (q2, .inl (cI, 512, .inl (fun _ => 0)))] H := hP.sub [0, 1, 2] rfl
  have hD : va_D A [(hq, .inr (1, [.ref q1, .ref q2, .int (nI 0)])), (q1, .inl (cI, 512, .inl (fun _ => 0))), (q2, .inl (cI, 512, .inl (fun _ => 0)))] := hD.sub [0, 1, 2] rfl rfl
  exact W.vret hx hb hr (fun t ht hW => ⟨⟨(), rfl, trivial, q1, q2, by rw [ht]; exact hP, hD⟩, hS.F ht⟩) hS.2.2 dX1_init_27 hlocks
set_option maxHeartbeats 4000000 in
set_option maxRecDepth 100000 in
theorem k_X2_init (l : Launch) (dC : Nat → ClassId) (dI : Nat → Nat → Nat) (cI : ClassId) (hu : Nat) (sz : Nat) : Met l yX2_init wsX2_init ({ frames := 1, cells := 4, slots := 804, locals := 20 }) (va_Pc [.ref hu] (wt_pm (dC, dI) cI [(hu, .inr (2, [.null, .null, .null, .null, .int 0]))] sz)) (va_Qv (fun _ : Unit => True) (fun _ t => ∃ (sd tw st od : Nat), va_P (dC, dI) vwCl [(hu, .inr (2, [.ref sd, .ref tw, .ref st, .ref od, .int (nI 0)])), (sd, .inl (cI, 12, .inl (fun _ => 0))), (tw, .inl (cI, 264, .inl (fun _ => 0))), (st, .inl (cI, 264, .inl (fun _ => 0))), (od, .inl (cI, 264, .inl (fun _ => 0)))] t.heap ∧ va_D (va_A [(hu, .inr (2, [.null, .null, .null, .null, .int 0]))] sz) [(hu, .inr (2, [.ref sd, .ref tw, .ref st, .ref od, .int (nI 0)])), (sd, .inl (cI, 12, .inl (fun _ => 0))), (tw, .inl (cI, 264, .inl (fun _ => 0))), (st, .inl (cI, 264, .inl (fun _ => 0))), (od, .inl (cI, 264, .inl (fun _ => 0)))]) (va_A [(hu, .inr (2, [.null, .null, .null, .null, .int 0]))] sz)) 4 804 (va_A [(hu, .inr (2, [.null, .null, .null, .null, .int 0]))] sz) := by
  refine Met.ofW (cc := cX2_init) (maxL := 1) (ret := none) (by decide) rfl ?_
  intro p e s m args below meth c s₁ B hml hv
  obtain ⟨rfl, hsz, ⟨hP, hK, hN⟩, hD0⟩ := hv
  have hx := B.exec
  have hb := B.bytes
  have hr := B.returns
  have hts := atoms_spec (ws := wsX2_init) B.pre
  have hown : s.vm.findClass RX2 = some m.cls := findClass_of_methodNamed B.named
  have hlocks := B.notSynchronized
  have hin : meth.name = "<init>" := (name_of_methodNamed B.named B.method).1
  subst hsz
  have hD := hD0.self (sz := s.heap.size)
  generalize hAe : va_A [(hu, .inr (2, [.null, .null, .null, .null, .int 0]))] s.heap.size = A at hD ⊢
  have hA : ∀ q : Nat, s.heap.size ≤ q → A q := fun q h => by rw [← hAe]; exact Or.inr h
  have hS : va_S A s.heap s.heap [] := va_S.rf
  have inX2 : ∀ w ∈ wsX20, w ∈ wsX2_init := wt_in [10, 11, 12, 13, 14] (by decide +kernel)
  have hl := lv_entry ([.ref hu]) (n := 1) (Nat.le_of_ble_eq_true rfl)
  rw [lg_entry_eq]
  generalize (lg_sl ([.ref hu]) ++ List.replicate (1 - (lg_sl ([.ref hu])).length) Slot.unset).toArray = ls at hl ⊢
  have hl : lv_has ls 1 [(0, .ref hu)] := hl
  refine lv_aload_n hx hb dX2_init_0 rfl (lv_at hl 0 rfl) ?_
  refine W.objInit hx hb hown (hts (.methodLink RX2 3 objectInit) (List.mem_of_getElem? (i := 1) rfl)) (hts (.instanceMethod objectInit) (List.mem_of_getElem? (i := 2) rfl)) (hts _ (List.mem_of_getElem? (i := 3) rfl)) rfl (by rw [hml]; exact hl.1) rfl dX2_init_1 (Nat.le_of_ble_eq_true rfl) (Nat.le_of_ble_eq_true rfl) ?_
  refine W.eq (g2 := F0 m 4 ls []) rfl ?_
  refine lv_aload_n hx hb dX2_init_4 rfl (lv_at hl 0 rfl) ?_
  refine lv_bipush (v := nI 12) hx hb dX2_init_5 (by decide +kernel) ?_
  refine wt_newa hx hb (hts (.arrayClass .int) (List.mem_of_getElem? (i := 4) rfl)) hK hP hD hS hA (by decide) (Nat.le_of_ble_eq_true rfl) (Nat.le_of_ble_eq_true rfl) dX2_init_7 (fun q1 H hP hD hS => ?_)
  have hP : va_P (dC, dI) vwCl [(hu, .inr (2, [.null, .null, .null, .null, .int 0])), (q1, .inl (cI, 12, .inl (fun _ => 0)))] H := hP
  have hD : va_D A [(hu, .inr (2, [.null, .null, .null, .null, .int 0])), (q1, .inl (cI, 12, .inl (fun _ => 0)))] := hD
  refine W.widen (k := 1) (n := 12) (by omega) (by omega) ?_
  refine va_putF (D := (dC, dI)) (ci := 2) (v := .ref q1) (ty := .array .int) (C := RX2) (T := TX2) (N := 5) hx hb hts inX2 tyX2 tyX2_ok nmX2 hown hK hP hD hS 0 rfl rfl 0 (by decide) (hts (.fieldLink RX2 9 "WarTable$Units" "sides" "[I") (List.mem_of_getElem? (i := 5) rfl)) (fun _ h9 => h9) rfl hin rfl (by decide +kernel) rfl rfl (Nat.le_of_ble_eq_true rfl) dX2_init_9 (fun H locs hP hD hS => ?_)
  have hP : va_P (dC, dI) vwCl [(hu, .inr (2, [.ref q1, .null, .null, .null, .int 0])), (q1, .inl (cI, 12, .inl (fun _ => 0)))] H := hP
  have hD : va_D A [(hu, .inr (2, [.ref q1, .null, .null, .null, .int 0])), (q1, .inl (cI, 12, .inl (fun _ => 0)))] := hD
  refine lv_aload_n hx hb dX2_init_12 rfl (lv_at hl 0 rfl) ?_
  refine lv_sipush (v := nI 264) hx hb dX2_init_13 (by decide +kernel) ?_
  refine wt_newa hx hb (hts (.arrayClass .int) (List.mem_of_getElem? (i := 4) rfl)) hK hP hD hS hA (by decide) (Nat.le_of_ble_eq_true rfl) (Nat.le_of_ble_eq_true rfl) dX2_init_16 (fun q2 H hP hD hS => ?_)
  have hP : va_P (dC, dI) vwCl [(hu, .inr (2, [.ref q1, .null, .null, .null, .int 0])), (q1, .inl (cI, 12, .inl (fun _ => 0))), (q2, .inl (cI, 264, .inl (fun _ => 0)))] H := hP
  have hD : va_D A [(hu, .inr (2, [.ref q1, .null, .null, .null, .int 0])), (q1, .inl (cI, 12, .inl (fun _ => 0))), (q2, .inl (cI, 264, .inl (fun _ => 0)))] := hD
  refine W.widen (k := 2) (n := 276) (by omega) (by omega) ?_
  refine va_putF (D := (dC, dI)) (ci := 2) (v := .ref q2) (ty := .array .int) (C := RX2) (T := TX2) (N := 5) hx hb hts inX2 tyX2 tyX2_ok nmX2 hown hK hP hD hS 0 rfl rfl 1 (by decide) (hts (.fieldLink RX2 15 "WarTable$Units" "towns" "[I") (List.mem_of_getElem? (i := 6) rfl)) (fun _ h9 => h9) rfl hin rfl (by decide +kernel) rfl rfl (Nat.le_of_ble_eq_true rfl) dX2_init_18 (fun H locs hP hD hS => ?_)
  have hP : va_P (dC, dI) vwCl [(hu, .inr (2, [.ref q1, .ref q2, .null, .null, .int 0])), (q1, .inl (cI, 12, .inl (fun _ => 0))), (q2, .inl (cI, 264, .inl (fun _ => 0)))] H := hP
  have hD : va_D A [(hu, .inr (2, [.ref q1, .ref q2, .null, .null, .int 0])), (q1, .inl (cI, 12, .inl (fun _ => 0))), (q2, .inl (cI, 264, .inl (fun _ => 0)))] := hD
  refine lv_aload_n hx hb dX2_init_21 rfl (lv_at hl 0 rfl) ?_
  refine lv_sipush (v := nI 264) hx hb dX2_init_22 (by decide +kernel) ?_
  refine wt_newa hx hb (hts (.arrayClass .int) (List.mem_of_getElem? (i := 4) rfl)) hK hP hD hS hA (by decide) (Nat.le_of_ble_eq_true rfl) (Nat.le_of_ble_eq_true rfl) dX2_init_25 (fun q3 H hP hD hS => ?_)
  have hP : va_P (dC, dI) vwCl [(hu, .inr (2, [.ref q1, .ref q2, .null, .null, .int 0])), (q1, .inl (cI, 12, .inl (fun _ => 0))), (q2, .inl (cI, 264, .inl (fun _ => 0))), (q3, .inl (cI, 264, .inl (fun _ => 0)))] H := hP
  have hD : va_D A [(hu, .inr (2, [.ref q1, .ref q2, .null, .null, .int 0])), (q1, .inl (cI, 12, .inl (fun _ => 0))), (q2, .inl (cI, 264, .inl (fun _ => 0))), (q3, .inl (cI, 264, .inl (fun _ => 0)))] := hD
  refine W.widen (k := 3) (n := 540) (by omega) (by omega) ?_
  refine va_putF (D := (dC, dI)) (ci := 2) (v := .ref q3) (ty := .array .int) (C := RX2) (T := TX2) (N := 5) hx hb hts inX2 tyX2 tyX2_ok nmX2 hown hK hP hD hS 0 rfl rfl 2 (by decide) (hts (.fieldLink RX2 18 "WarTable$Units" "strengths" "[I") (List.mem_of_getElem? (i := 7) rfl)) (fun _ h9 => h9) rfl hin rfl (by decide +kernel) rfl rfl (Nat.le_of_ble_eq_true rfl) dX2_init_27 (fun H locs hP hD hS => ?_)
  have hP : va_P (dC, dI) vwCl [(hu, .inr (2, [.ref q1, .ref q2, .ref q3, .null, .int 0])), (q1, .inl (cI, 12, .inl (fun _ => 0))), (q2, .inl (cI, 264, .inl (fun _ => 0))), (q3, .inl (cI, 264, .inl (fun _ => 0)))] H := hP
  have hD : va_D A [(hu, .inr (2, [.ref q1, .ref q2, .ref q3, .null, .int 0])), (q1, .inl (cI, 12, .inl (fun _ => 0))), (q2, .inl (cI, 264, .inl (fun _ => 0))), (q3, .inl (cI, 264, .inl (fun _ => 0)))] := hD
  refine lv_aload_n hx hb dX2_init_30 rfl (lv_at hl 0 rfl) ?_
  refine lv_sipush (v := nI 264) hx hb dX2_init_31 (by decide +kernel) ?_
  refine wt_newa hx hb (hts (.arrayClass .int) (List.mem_of_getElem? (i := 4) rfl)) hK hP hD hS hA (by decide) (Nat.le_of_ble_eq_true rfl) (Nat.le_of_ble_eq_true rfl) dX2_init_34 (fun q4 H hP hD hS => ?_)
  have hP : va_P (dC, dI) vwCl [(hu, .inr (2, [.ref q1, .ref q2, .ref q3, .null, .int 0])), (q1, .inl (cI, 12, .inl (fun _ => 0))), (q2, .inl (cI, 264, .inl (fun _ => 0))), (q3, .inl (cI, 264, .inl (fun _ => 0))), (q4, .inl (cI, 264, .inl (fun _ => 0)))] H := hP
  have hD : va_D A [(hu, .inr (2, [.ref q1, .ref q2, .ref q3, .null, .int 0])), (q1, .inl (cI, 12, .inl (fun _ => 0))), (q2, .inl (cI, 264, .inl (fun _ => 0))), (q3, .inl (cI, 264, .inl (fun _ => 0))), (q4, .inl (cI, 264, .inl (fun _ => 0)))] := hD
  refine W.widen (k := 4) (n := 804) (by omega) (by omega) ?_
  refine va_putF (D := (dC, dI)) (ci := 2) (v := .ref q4) (ty := .array .int) (C := RX2) (T := TX2) (N := 5) hx hb hts inX2 tyX2 tyX2_ok nmX2 hown hK hP hD hS 0 rfl rfl 3 (by decide) (hts (.fieldLink RX2 21 "WarTable$Units" "orders" "[I") (List.mem_of_getElem? (i := 8) rfl)) (fun _ h9 => h9) rfl hin rfl (by decide +kernel) rfl rfl (Nat.le_of_ble_eq_true rfl) dX2_init_36 (fun H locs hP hD hS => ?_)
  have hP : va_P (dC, dI) vwCl [(hu, .inr (2, [.ref q1, .ref q2, .ref q3, .ref q4, .int 0])), (q1, .inl (cI, 12, .inl (fun _ => 0))), (q2, .inl (cI, 264, .inl (fun _ => 0))), (q3, .inl (cI, 264, .inl (fun _ => 0))), (q4, .inl (cI, 264, .inl (fun _ => 0)))] H := hP
  have hD : va_D A [(hu, .inr (2, [.ref q1, .ref q2, .ref q3, .ref q4, .int 0])), (q1, .inl (cI, 12, .inl (fun _ => 0))), (q2, .inl (cI, 264, .inl (fun _ => 0))), (q3, .inl (cI, 264, .inl (fun _ => 0))), (q4, .inl (cI, 264, .inl (fun _ => 0)))] := hD
  refine lv_aload_n hx hb dX2_init_39 rfl (lv_at hl 0 rfl) ?_
  refine lv_iconst (v := nI 0) hx hb dX2_init_40 (by decide +kernel) ?_
  refine va_put (D := (dC, dI)) (ci := 2) (v := .int (nI 0)) (ty := .int) (C := RX2) (T := TX2) (N := 5) hx hb hts inX2 tyX2 tyX2_ok nmX2 hown hK hP hD hS 0 rfl rfl 4 (by decide) (hts (.fieldLink RX2 24 "WarTable$Units" "count" "I") (List.mem_of_getElem? (i := 9) rfl)) (fun _ h9 => h9) rfl (by decide +kernel) rfl rfl (Nat.le_of_ble_eq_true rfl) dX2_init_41 (fun H locs hP hD hS => ?_)
  have hP : va_P (dC, dI) vwCl [(hu, .inr (2, [.ref q1, .ref q2, .ref q3, .ref q4, .int (nI 0)])), (q1, .inl (cI, 12, .inl (fun _ => 0))), (q2, .inl (cI, 264, .inl (fun _ => 0))), (q3, .inl (cI, 264, .inl (fun _ => 0))), (q4, .inl (cI, 264, .inl (fun _ => 0)))] H := hP
  have hD : va_D A [(hu, .inr (2, [.ref q1, .ref q2, .ref q3, .ref q4, .int (nI 0)])), (q1, .inl (cI, 12, .inl (fun _ => 0))), (q2, .inl (cI, 264, .inl (fun _ => 0))), (q3, .inl (cI, 264, .inl (fun _ => 0))), (q4, .inl (cI, 264, .inl (fun _ => 0)))] := hD
  have hP : va_P (dC, dI) vwCl [(hu, .inr (2, [.ref q1, .ref q2, .ref q3, .ref q4, .int (nI 0)])), (q1, .inl (cI, 12, .inl (fun _ => 0))), (q2, .inl (cI, 264, .inl (fun _ => 0))), (q3, .inl (cI, 264, .inl (fun _ => 0))), (q4, .inl (cI, 264, .inl (fun _ => 0)))] H := hP.sub [0, 1, 2, 3, 4] rfl
  have hD : va_D A [(hu, .inr (2, [.ref q1, .ref q2, .ref q3, .ref q4, .int (nI 0)])), (q1, .inl (cI, 12, .inl (fun _ => 0))), (q2, .inl (cI, 264, .inl (fun _ => 0))), (q3, .inl (cI, 264, .inl (fun _ => 0))), (q4, .inl (cI, 264, .inl (fun _ => 0)))] := hD.sub [0, 1, 2, 3, 4] rfl rfl
  exact W.vret hx hb hr (fun t ht hW => ⟨⟨(), rfl, trivial, q1, q2, q3, q4, by rw [ht]; exact hP, hD⟩, hS.F ht⟩) hS.2.2 dX2_init_44 hlocks
set_option maxHeartbeats 4000000 in
set_option maxRecDepth 100000 in
theorem k_X3_init (l : Launch) (dC : Nat → ClassId) (dI : Nat → Nat → Nat) (cI : ClassId) (h : Nat) (sz : Nat) : Met l yX3_init wsX3_init ({ frames := 2, cells := 14, slots := 1901, locals := 40 }) (va_Pc [.ref h] (wt_pm (dC, dI) cI [(h, .inr (3, [.null, .null, .null, .null, .null, .null, .int 0]))] sz)) (va_Qv (fun _ : Unit => True) (fun _ t => ∃ (dp we se hm pv up hu sd tw st od hq rt rv : Nat), va_P (dC, dI) vwCl [(h, .inr (3, [.ref hm, .ref dp, .ref hu, .ref we, .ref se, .ref hq, .int (nI 0)])), (dp, .inl (cI, 2, .inl (upd (fun _ => 0) 1 (nI 9)))), (we, .inl (cI, 20, .inl (fun _ => 0))), (se, .inl (cI, 20, .inl (fun _ => 0))), (hm, .inr (0, [.ref pv, .ref up, .int (nI 0)])), (pv, .inl (cI, 10, .inl (fun _ => 0))), (up, .inl (cI, 10, .inl (fun _ => 0))), (hu, .inr (2, [.ref sd, .ref tw, .ref st, .ref od, .int (nI 0)])), (sd, .inl (cI, 12, .inl (fun _ => 0))), (tw, .inl (cI, 264, .inl (fun _ => 0))), (st, .inl (cI, 264, .inl (fun _ => 0))), (od, .inl (cI, 264, .inl (fun _ => 0))), (hq, .inr (1, [.ref rt, .ref rv, .int (nI 0)])), (rt, .inl (cI, 512, .inl (fun _ => 0))), (rv, .inl (cI, 512, .inl (fun _ => 0)))] t.heap ∧ va_D (va_A [(h, .inr (3, [.null, .null, .null, .null, .null, .null, .int 0]))] sz) [(h, .inr (3, [.ref hm, .ref dp, .ref hu, .ref we, .ref se, .ref hq, .int (nI 0)])), (dp, .inl (cI, 2, .inl (upd (fun _ => 0) 1 (nI 9)))), (we, .inl (cI, 20, .inl (fun _ => 0))), (se, .inl (cI, 20, .inl (fun _ => 0))), (hm, .inr (0, [.ref pv, .ref up, .int (nI 0)])), (pv, .inl (cI, 10, .inl (fun _ => 0))), (up, .inl (cI, 10, .inl (fun _ => 0))), (hu, .inr (2, [.ref sd, .ref tw, .ref st, .ref od, .int (nI 0)])), (sd, .inl (cI, 12, .inl (fun _ => 0))), (tw, .inl (cI, 264, .inl (fun _ => 0))), (st, .inl (cI, 264, .inl (fun _ => 0))), (od, .inl (cI, 264, .inl (fun _ => 0))), (hq, .inr (1, [.ref rt, .ref rv, .int (nI 0)])), (rt, .inl (cI, 512, .inl (fun _ => 0))), (rv, .inl (cI, 512, .inl (fun _ => 0)))]) (va_A [(h, .inr (3, [.null, .null, .null, .null, .null, .null, .int 0]))] sz)) 14 1901 (va_A [(h, .inr (3, [.null, .null, .null, .null, .null, .null, .int 0]))] sz) := by
  refine Met.ofW (cc := cX3_init) (maxL := 1) (ret := none) (by decide) rfl ?_
  intro p e s m args below meth c s₁ B hml hv
  obtain ⟨rfl, hsz, ⟨hP, hK, hN⟩, hD0⟩ := hv
  have hx := B.exec
  have hb := B.bytes
  have hr := B.returns
  have hts := atoms_spec (ws := wsX3_init) B.pre
  have hown : s.vm.findClass RX3 = some m.cls := findClass_of_methodNamed B.named
  have hlocks := B.notSynchronized
  have hin : meth.name = "<init>" := (name_of_methodNamed B.named B.method).1
  subst hsz
  have hD := hD0.self (sz := s.heap.size)
  generalize hAe : va_A [(h, .inr (3, [.null, .null, .null, .null, .null, .null, .int 0]))] s.heap.size = A at hD ⊢
  have hA : ∀ q : Nat, s.heap.size ≤ q → A q := fun q h => by rw [← hAe]; exact Or.inr h
  have hS : va_S A s.heap s.heap [] := va_S.rf
  have inX0 : ∀ w ∈ wsX00, w ∈ wsX3_init := wt_in [41, 42, 43] (by decide +kernel)
  have inX1 : ∀ w ∈ wsX10, w ∈ wsX3_init := wt_in [56, 57, 58] (by decide +kernel)
  have inX2 : ∀ w ∈ wsX20, w ∈ wsX3_init := wt_in [51, 52, 53, 54, 55] (by decide +kernel)
  have inX3 : ∀ w ∈ wsX30, w ∈ wsX3_init := wt_in [44, 45, 46, 47, 48, 49, 50] (by decide +kernel)
  have hl := lv_entry ([.ref h]) (n := 1) (Nat.le_of_ble_eq_true rfl)
  rw [lg_entry_eq]
  generalize (lg_sl ([.ref h]) ++ List.replicate (1 - (lg_sl ([.ref h])).length) Slot.unset).toArray = ls at hl ⊢
  have hl : lv_has ls 1 [(0, .ref h)] := hl
  refine lv_aload_n hx hb dX3_init_0 rfl (lv_at hl 0 rfl) ?_
  refine W.objInit hx hb hown (hts (.methodLink RX3 3 objectInit) (List.mem_of_getElem? (i := 1) rfl)) (hts (.instanceMethod objectInit) (List.mem_of_getElem? (i := 2) rfl)) (hts _ (List.mem_of_getElem? (i := 3) rfl)) rfl (by rw [hml]; exact hl.1) rfl dX3_init_1 (Nat.le_of_ble_eq_true rfl) (Nat.le_of_ble_eq_true rfl) ?_
  refine W.eq (g2 := F0 m 4 ls []) rfl ?_
  refine lv_aload_n hx hb dX3_init_4 rfl (lv_at hl 0 rfl) ?_
  refine va_new (ci := 0) (fs := [.null, .null, .int 0]) (C := RX0) (T := TX0) (N := 3) hx hb hts inX0 tyX0 tyX0_ok hown (hts (.classLink RX3 9 RX0) (List.mem_of_getElem? (i := 4) rfl)) (hts (.instantiable RX0 3) (List.mem_of_getElem? (i := 5) rfl)) (hts (.initialized RX0) (List.mem_of_getElem? (i := 6) rfl)) hK hP hD hS hA rfl (fun j hj => by rcases (show j = 0 ∨ j = 1 ∨ j = 2 by omega) with rfl | rfl | rfl <;> rfl) (Nat.le_of_ble_eq_true rfl) (Nat.le_of_ble_eq_true rfl) dX3_init_5 (fun q1 H hP hD hS => ?_)
  have hP : va_P (dC, dI) vwCl [(h, .inr (3, [.null, .null, .null, .null, .null, .null, .int 0])), (q1, .inr (0, [.null, .null, .int 0]))] H := hP
  have hD : va_D A [(h, .inr (3, [.null, .null, .null, .null, .null, .null, .int 0])), (q1, .inr (0, [.null, .null, .int 0]))] := hD
  refine W.widen (k := 1) (n := 3) (by omega) (by omega) ?_
  refine lv_dup hx hb dX3_init_8 rfl ?_
  have hFc := va_free (wc := [(q1, .inr (0, [.null, .null, .int 0]))]) hD hS hA [1] rfl
  refine va_callv (va_runIN (As := []) (rest := [.ref q1, .ref h]) ⟨hx, hb, hml, hown, hts⟩ (k_X0_init l dC dI cI q1 H.size) ⟨va_cnB (host := RX3) 0 hts gX3_init_X0_init_n11 rfl rfl rfl (hN _ (List.mem_of_getElem? (i := 0) rfl)) (hts (.initialized RX0) (List.mem_of_getElem? (i := 6) rfl)) (by decide +kernel) ⟨Nat.le_of_ble_eq_true rfl, Nat.le_of_ble_eq_true rfl⟩, rfl, (hts (.instanceMethod yX0_init) (List.mem_of_getElem? (i := 21) rfl))⟩ (wt_PI hK hP hN hD [1] rfl rfl) rfl rfl hl.1 rfl (lv_room (Nat.le_of_ble_eq_true rfl)) dX3_init_9 ⟨Nat.le_of_ble_eq_true rfl, Nat.le_of_ble_eq_true rfl⟩) hS (fun q _ h => hFc q h) hFc (fun u t9 H1 locs ht9 hvm9 hw9 hB9 hz9 hk9 hS => ?_)
  obtain ⟨pv_2, up_2, hP9, hD9⟩ := hB9
  rw [ht9] at hP9
  obtain ⟨hP, hD⟩ := va_join (wr := [(h, .inr (3, [.null, .null, .null, .null, .null, .null, .int 0]))]) (w1 := [(q1, .inr (0, [.ref pv_2, .ref up_2, .int (nI 0)])), (pv_2, .inl (cI, 10, .inl (fun _ => 0))), (up_2, .inl (cI, 10, .inl (fun _ => 0)))]) hP hD [1] [0] rfl rfl (by decide) (by decide) hk9 hFc hP9 hD9
  clear hFc hk9 hP9 hD9
  generalize H1 = H at hP hS hz9 ⊢
  have hP : va_P (dC, dI) vwCl [(h, .inr (3, [.null, .null, .null, .null, .null, .null, .int 0])), (q1, .inr (0, [.ref pv_2, .ref up_2, .int (nI 0)])), (pv_2, .inl (cI, 10, .inl (fun _ => 0))), (up_2, .inl (cI, 10, .inl (fun _ => 0)))] H := hP
  have hD : va_D A [(h, .inr (3, [.null, .null, .null, .null, .null, .null, .int 0])), (q1, .inr (0, [.ref pv_2, .ref up_2, .int (nI 0)])), (pv_2, .inl (cI, 10, .inl (fun _ => 0))), (up_2, .inl (cI, 10, .inl (fun _ => 0)))] := hD
  refine W.widen (k := 3) (n := 23) (by omega) (by omega) ?_
  refine va_putF (D := (dC, dI)) (ci := 3) (v := .ref q1) (ty := .object "WarTable$RoadMap") (C := RX3) (T := TX3) (N := 7) hx hb hts inX3 tyX3 tyX3_ok nmX3 hown hK hP hD hS 0 rfl rfl 0 (by decide) (hts (.fieldLink RX3 12 "WarTable" "map" "LWarTable$RoadMap;") (List.mem_of_getElem? (i := 7) rfl)) (fun _ h9 => h9) rfl hin rfl (by decide +kernel) rfl rfl (Nat.le_of_ble_eq_true rfl) dX3_init_12 (fun H locs hP hD hS => ?_)
  have hP : va_P (dC, dI) vwCl [(h, .inr (3, [.ref q1, .null, .null, .null, .null, .null, .int 0])), (q1, .inr (0, [.ref pv_2, .ref up_2, .int (nI 0)])), (pv_2, .inl (cI, 10, .inl (fun _ => 0))), (up_2, .inl (cI, 10, .inl (fun _ => 0)))] H := hP
  have hD : va_D A [(h, .inr (3, [.ref q1, .null, .null, .null, .null, .null, .int 0])), (q1, .inr (0, [.ref pv_2, .ref up_2, .int (nI 0)])), (pv_2, .inl (cI, 10, .inl (fun _ => 0))), (up_2, .inl (cI, 10, .inl (fun _ => 0)))] := hD
  refine lv_aload_n hx hb dX3_init_15 rfl (lv_at hl 0 rfl) ?_
  refine lv_iconst (v := nI 2) hx hb dX3_init_16 (by decide +kernel) ?_
  refine wt_newa hx hb (hts (.arrayClass .int) (List.mem_of_getElem? (i := 8) rfl)) hK hP hD hS hA (by decide) (Nat.le_of_ble_eq_true rfl) (Nat.le_of_ble_eq_true rfl) dX3_init_17 (fun q3 H hP hD hS => ?_)
  have hP : va_P (dC, dI) vwCl [(h, .inr (3, [.ref q1, .null, .null, .null, .null, .null, .int 0])), (q1, .inr (0, [.ref pv_2, .ref up_2, .int (nI 0)])), (pv_2, .inl (cI, 10, .inl (fun _ => 0))), (up_2, .inl (cI, 10, .inl (fun _ => 0))), (q3, .inl (cI, 2, .inl (fun _ => 0)))] H := hP
  have hD : va_D A [(h, .inr (3, [.ref q1, .null, .null, .null, .null, .null, .int 0])), (q1, .inr (0, [.ref pv_2, .ref up_2, .int (nI 0)])), (pv_2, .inl (cI, 10, .inl (fun _ => 0))), (up_2, .inl (cI, 10, .inl (fun _ => 0))), (q3, .inl (cI, 2, .inl (fun _ => 0)))] := hD
  refine W.widen (k := 4) (n := 25) (by omega) (by omega) ?_
  refine va_putF (D := (dC, dI)) (ci := 3) (v := .ref q3) (ty := .array .int) (C := RX3) (T := TX3) (N := 7) hx hb hts inX3 tyX3 tyX3_ok nmX3 hown hK hP hD hS 0 rfl rfl 1 (by decide) (hts (.fieldLink RX3 16 "WarTable" "depots" "[I") (List.mem_of_getElem? (i := 9) rfl)) (fun _ h9 => h9) rfl hin rfl (by decide +kernel) rfl rfl (Nat.le_of_ble_eq_true rfl) dX3_init_19 (fun H locs hP hD hS => ?_)
  have hP : va_P (dC, dI) vwCl [(h, .inr (3, [.ref q1, .ref q3, .null, .null, .null, .null, .int 0])), (q1, .inr (0, [.ref pv_2, .ref up_2, .int (nI 0)])), (pv_2, .inl (cI, 10, .inl (fun _ => 0))), (up_2, .inl (cI, 10, .inl (fun _ => 0))), (q3, .inl (cI, 2, .inl (fun _ => 0)))] H := hP
  have hD : va_D A [(h, .inr (3, [.ref q1, .ref q3, .null, .null, .null, .null, .int 0])), (q1, .inr (0, [.ref pv_2, .ref up_2, .int (nI 0)])), (pv_2, .inl (cI, 10, .inl (fun _ => 0))), (up_2, .inl (cI, 10, .inl (fun _ => 0))), (q3, .inl (cI, 2, .inl (fun _ => 0)))] := hD
  refine lv_aload_n hx hb dX3_init_22 rfl (lv_at hl 0 rfl) ?_
  refine va_new (ci := 2) (fs := [.null, .null, .null, .null, .int 0]) (C := RX2) (T := TX2) (N := 5) hx hb hts inX2 tyX2 tyX2_ok hown (hts (.classLink RX3 20 RX2) (List.mem_of_getElem? (i := 10) rfl)) (hts (.instantiable RX2 5) (List.mem_of_getElem? (i := 11) rfl)) (hts (.initialized RX2) (List.mem_of_getElem? (i := 12) rfl)) hK hP hD hS hA rfl (fun j hj => by rcases (show j = 0 ∨ j = 1 ∨ j = 2 ∨ j = 3 ∨ j = 4 by omega) with rfl | rfl | rfl | rfl | rfl <;> rfl) (Nat.le_of_ble_eq_true rfl) (Nat.le_of_ble_eq_true rfl) dX3_init_23 (fun q4 H hP hD hS => ?_)
  have hP : va_P (dC, dI) vwCl [(h, .inr (3, [.ref q1, .ref q3, .null, .null, .null, .null, .int 0])), (q1, .inr (0, [.ref pv_2, .ref up_2, .int (nI 0)])), (pv_2, .inl (cI, 10, .inl (fun _ => 0))), (up_2, .inl (cI, 10, .inl (fun _ => 0))), (q3, .inl (cI, 2, .inl (fun _ => 0))), (q4, .inr (2, [.null, .null, .null, .null, .int 0]))] H := hP
  have hD : va_D A [(h, .inr (3, [.ref q1, .ref q3, .null, .null, .null, .null, .int 0])), (q1, .inr (0, [.ref pv_2, .ref up_2, .int (nI 0)])), (pv_2, .inl (cI, 10, .inl (fun _ => 0))), (up_2, .inl (cI, 10, .inl (fun _ => 0))), (q3, .inl (cI, 2, .inl (fun _ => 0))), (q4, .inr (2, [.null, .null, .null, .null, .int 0]))] := hD
  refine W.widen (k := 5) (n := 30) (by omega) (by omega) ?_
  refine lv_dup hx hb dX3_init_26 rfl ?_
  have hFc := va_free (wc := [(q4, .inr (2, [.null, .null, .null, .null, .int 0]))]) hD hS hA [5] rfl
  refine va_callv (va_runIN (As := []) (rest := [.ref q4, .ref h]) ⟨hx, hb, hml, hown, hts⟩ (k_X2_init l dC dI cI q4 H.size) ⟨va_cnB (host := RX3) 0 hts gX3_init_X2_init_n22 rfl rfl rfl (hN _ (List.mem_of_getElem? (i := 1) rfl)) (hts (.initialized RX2) (List.mem_of_getElem? (i := 12) rfl)) (by decide +kernel) ⟨Nat.le_of_ble_eq_true rfl, Nat.le_of_ble_eq_true rfl⟩, rfl, (hts (.instanceMethod yX2_init) (List.mem_of_getElem? (i := 27) rfl))⟩ (wt_PI hK hP hN hD [5] rfl rfl) rfl rfl hl.1 rfl (lv_room (Nat.le_of_ble_eq_true rfl)) dX3_init_27 ⟨Nat.le_of_ble_eq_true rfl, Nat.le_of_ble_eq_true rfl⟩) hS (fun q _ h => hFc q h) hFc (fun u t9 H1 locs ht9 hvm9 hw9 hB9 hz9 hk9 hS => ?_)
  obtain ⟨sd_5, tw_5, st_5, od_5, hP9, hD9⟩ := hB9
  rw [ht9] at hP9
  obtain ⟨hP, hD⟩ := va_join (wr := [(h, .inr (3, [.ref q1, .ref q3, .null, .null, .null, .null, .int 0])), (q1, .inr (0, [.ref pv_2, .ref up_2, .int (nI 0)])), (pv_2, .inl (cI, 10, .inl (fun _ => 0))), (up_2, .inl (cI, 10, .inl (fun _ => 0))), (q3, .inl (cI, 2, .inl (fun _ => 0)))]) (w1 := [(q4, .inr (2, [.ref sd_5, .ref tw_5, .ref st_5, .ref od_5, .int (nI 0)])), (sd_5, .inl (cI, 12, .inl (fun _ => 0))), (tw_5, .inl (cI, 264, .inl (fun _ => 0))), (st_5, .inl (cI, 264, .inl (fun _ => 0))), (od_5, .inl (cI, 264, .inl (fun _ => 0)))]) hP hD [5] [0, 1, 2, 3, 4] rfl rfl (by decide) (by decide) hk9 hFc hP9 hD9
  clear hFc hk9 hP9 hD9
  generalize H1 = H at hP hS hz9 ⊢
  have hP : va_P (dC, dI) vwCl [(h, .inr (3, [.ref q1, .ref q3, .null, .null, .null, .null, .int 0])), (q1, .inr (0, [.ref pv_2, .ref up_2, .int (nI 0)])), (pv_2, .inl (cI, 10, .inl (fun _ => 0))), (up_2, .inl (cI, 10, .inl (fun _ => 0))), (q3, .inl (cI, 2, .inl (fun _ => 0))), (q4, .inr (2, [.ref sd_5, .ref tw_5, .ref st_5, .ref od_5, .int (nI 0)])), (sd_5, .inl (cI, 12, .inl (fun _ => 0))), (tw_5, .inl (cI, 264, .inl (fun _ => 0))), (st_5, .inl (cI, 264, .inl (fun _ => 0))), (od_5, .inl (cI, 264, .inl (fun _ => 0)))] H := hP
  have hD : va_D A [(h, .inr (3, [.ref q1, .ref q3, .null, .null, .null, .null, .int 0])), (q1, .inr (0, [.ref pv_2, .ref up_2, .int (nI 0)])), (pv_2, .inl (cI, 10, .inl (fun _ => 0))), (up_2, .inl (cI, 10, .inl (fun _ => 0))), (q3, .inl (cI, 2, .inl (fun _ => 0))), (q4, .inr (2, [.ref sd_5, .ref tw_5, .ref st_5, .ref od_5, .int (nI 0)])), (sd_5, .inl (cI, 12, .inl (fun _ => 0))), (tw_5, .inl (cI, 264, .inl (fun _ => 0))), (st_5, .inl (cI, 264, .inl (fun _ => 0))), (od_5, .inl (cI, 264, .inl (fun _ => 0)))] := hD
  refine W.widen (k := 9) (n := 834) (by omega) (by omega) ?_
  refine va_putF (D := (dC, dI)) (ci := 3) (v := .ref q4) (ty := .object "WarTable$Units") (C := RX3) (T := TX3) (N := 7) hx hb hts inX3 tyX3 tyX3_ok nmX3 hown hK hP hD hS 0 rfl rfl 2 (by decide) (hts (.fieldLink RX3 23 "WarTable" "units" "LWarTable$Units;") (List.mem_of_getElem? (i := 13) rfl)) (fun _ h9 => h9) rfl hin rfl (by decide +kernel) rfl rfl (Nat.le_of_ble_eq_true rfl) dX3_init_30 (fun H locs hP hD hS => ?_)
  have hP : va_P (dC, dI) vwCl [(h, .inr (3, [.ref q1, .ref q3, .ref q4, .null, .null, .null, .int 0])), (q1, .inr (0, [.ref pv_2, .ref up_2, .int (nI 0)])), (pv_2, .inl (cI, 10, .inl (fun _ => 0))), (up_2, .inl (cI, 10, .inl (fun _ => 0))), (q3, .inl (cI, 2, .inl (fun _ => 0))), (q4, .inr (2, [.ref sd_5, .ref tw_5, .ref st_5, .ref od_5, .int (nI 0)])), (sd_5, .inl (cI, 12, .inl (fun _ => 0))), (tw_5, .inl (cI, 264, .inl (fun _ => 0))), (st_5, .inl (cI, 264, .inl (fun _ => 0))), (od_5, .inl (cI, 264, .inl (fun _ => 0)))] H := hP
  have hD : va_D A [(h, .inr (3, [.ref q1, .ref q3, .ref q4, .null, .null, .null, .int 0])), (q1, .inr (0, [.ref pv_2, .ref up_2, .int (nI 0)])), (pv_2, .inl (cI, 10, .inl (fun _ => 0))), (up_2, .inl (cI, 10, .inl (fun _ => 0))), (q3, .inl (cI, 2, .inl (fun _ => 0))), (q4, .inr (2, [.ref sd_5, .ref tw_5, .ref st_5, .ref od_5, .int (nI 0)])), (sd_5, .inl (cI, 12, .inl (fun _ => 0))), (tw_5, .inl (cI, 264, .inl (fun _ => 0))), (st_5, .inl (cI, 264, .inl (fun _ => 0))), (od_5, .inl (cI, 264, .inl (fun _ => 0)))] := hD
  refine lv_aload_n hx hb dX3_init_33 rfl (lv_at hl 0 rfl) ?_
  refine lv_bipush (v := nI 20) hx hb dX3_init_34 (by decide +kernel) ?_
  refine wt_newa hx hb (hts (.arrayClass .int) (List.mem_of_getElem? (i := 8) rfl)) hK hP hD hS hA (by decide) (Nat.le_of_ble_eq_true rfl) (Nat.le_of_ble_eq_true rfl) dX3_init_36 (fun q6 H hP hD hS => ?_)
  have hP : va_P (dC, dI) vwCl [(h, .inr (3, [.ref q1, .ref q3, .ref q4, .null, .null, .null, .int 0])), (q1, .inr (0, [.ref pv_2, .ref up_2, .int (nI 0)])), (pv_2, .inl (cI, 10, .inl (fun _ => 0))), (up_2, .inl (cI, 10, .inl (fun _ => 0))), (q3, .inl (cI, 2, .inl (fun _ => 0))), (q4, .inr (2, [.ref sd_5, .ref tw_5, .ref st_5, .ref od_5, .int (nI 0)])), (sd_5, .inl (cI, 12, .inl (fun _ => 0))), (tw_5, .inl (cI, 264, .inl (fun _ => 0))), (st_5, .inl (cI, 264, .inl (fun _ => 0))), (od_5, .inl (cI, 264, .inl (fun _ => 0))), (q6, .inl (cI, 20, .inl (fun _ => 0)))] H := hP
  have hD : va_D A [(h, .inr (3, [.ref q1, .ref q3, .ref q4, .null, .null, .null, .int 0])), (q1, .inr (0, [.ref pv_2, .ref up_2, .int (nI 0)])), (pv_2, .inl (cI, 10, .inl (fun _ => 0))), (up_2, .inl (cI, 10, .inl (fun _ => 0))), (q3, .inl (cI, 2, .inl (fun _ => 0))), (q4, .inr (2, [.ref sd_5, .ref tw_5, .ref st_5, .ref od_5, .int (nI 0)])), (sd_5, .inl (cI, 12, .inl (fun _ => 0))), (tw_5, .inl (cI, 264, .inl (fun _ => 0))), (st_5, .inl (cI, 264, .inl (fun _ => 0))), (od_5, .inl (cI, 264, .inl (fun _ => 0))), (q6, .inl (cI, 20, .inl (fun _ => 0)))] := hD
  refine W.widen (k := 10) (n := 854) (by omega) (by omega) ?_
  refine va_putF (D := (dC, dI)) (ci := 3) (v := .ref q6) (ty := .array .int) (C := RX3) (T := TX3) (N := 7) hx hb hts inX3 tyX3 tyX3_ok nmX3 hown hK hP hD hS 0 rfl rfl 3 (by decide) (hts (.fieldLink RX3 27 "WarTable" "weathers" "[I") (List.mem_of_getElem? (i := 14) rfl)) (fun _ h9 => h9) rfl hin rfl (by decide +kernel) rfl rfl (Nat.le_of_ble_eq_true rfl) dX3_init_38 (fun H locs hP hD hS => ?_)
  have hP : va_P (dC, dI) vwCl [(h, .inr (3, [.ref q1, .ref q3, .ref q4, .ref q6, .null, .null, .int 0])), (q1, .inr (0, [.ref pv_2, .ref up_2, .int (nI 0)])), (pv_2, .inl (cI, 10, .inl (fun _ => 0))), (up_2, .inl (cI, 10, .inl (fun _ => 0))), (q3, .inl (cI, 2, .inl (fun _ => 0))), (q4, .inr (2, [.ref sd_5, .ref tw_5, .ref st_5, .ref od_5, .int (nI 0)])), (sd_5, .inl (cI, 12, .inl (fun _ => 0))), (tw_5, .inl (cI, 264, .inl (fun _ => 0))), (st_5, .inl (cI, 264, .inl (fun _ => 0))), (od_5, .inl (cI, 264, .inl (fun _ => 0))), (q6, .inl (cI, 20, .inl (fun _ => 0)))] H := hP
  have hD : va_D A [(h, .inr (3, [.ref q1, .ref q3, .ref q4, .ref q6, .null, .null, .int 0])), (q1, .inr (0, [.ref pv_2, .ref up_2, .int (nI 0)])), (pv_2, .inl (cI, 10, .inl (fun _ => 0))), (up_2, .inl (cI, 10, .inl (fun _ => 0))), (q3, .inl (cI, 2, .inl (fun _ => 0))), (q4, .inr (2, [.ref sd_5, .ref tw_5, .ref st_5, .ref od_5, .int (nI 0)])), (sd_5, .inl (cI, 12, .inl (fun _ => 0))), (tw_5, .inl (cI, 264, .inl (fun _ => 0))), (st_5, .inl (cI, 264, .inl (fun _ => 0))), (od_5, .inl (cI, 264, .inl (fun _ => 0))), (q6, .inl (cI, 20, .inl (fun _ => 0)))] := hD
  refine lv_aload_n hx hb dX3_init_41 rfl (lv_at hl 0 rfl) ?_
  refine lv_bipush (v := nI 20) hx hb dX3_init_42 (by decide +kernel) ?_
  refine wt_newa hx hb (hts (.arrayClass .int) (List.mem_of_getElem? (i := 8) rfl)) hK hP hD hS hA (by decide) (Nat.le_of_ble_eq_true rfl) (Nat.le_of_ble_eq_true rfl) dX3_init_44 (fun q7 H hP hD hS => ?_)
  have hP : va_P (dC, dI) vwCl [(h, .inr (3, [.ref q1, .ref q3, .ref q4, .ref q6, .null, .null, .int 0])), (q1, .inr (0, [.ref pv_2, .ref up_2, .int (nI 0)])), (pv_2, .inl (cI, 10, .inl (fun _ => 0))), (up_2, .inl (cI, 10, .inl (fun _ => 0))), (q3, .inl (cI, 2, .inl (fun _ => 0))), (q4, .inr (2, [.ref sd_5, .ref tw_5, .ref st_5, .ref od_5, .int (nI 0)])), (sd_5, .inl (cI, 12, .inl (fun _ => 0))), (tw_5, .inl (cI, 264, .inl (fun _ => 0))), (st_5, .inl (cI, 264, .inl (fun _ => 0))), (od_5, .inl (cI, 264, .inl (fun _ => 0))), (q6, .inl (cI, 20, .inl (fun _ => 0))), (q7, .inl (cI, 20, .inl (fun _ => 0)))] H := hP
  have hD : va_D A [(h, .inr (3, [.ref q1, .ref q3, .ref q4, .ref q6, .null, .null, .int 0])), (q1, .inr (0, [.ref pv_2, .ref up_2, .int (nI 0)])), (pv_2, .inl (cI, 10, .inl (fun _ => 0))), (up_2, .inl (cI, 10, .inl (fun _ => 0))), (q3, .inl (cI, 2, .inl (fun _ => 0))), (q4, .inr (2, [.ref sd_5, .ref tw_5, .ref st_5, .ref od_5, .int (nI 0)])), (sd_5, .inl (cI, 12, .inl (fun _ => 0))), (tw_5, .inl (cI, 264, .inl (fun _ => 0))), (st_5, .inl (cI, 264, .inl (fun _ => 0))), (od_5, .inl (cI, 264, .inl (fun _ => 0))), (q6, .inl (cI, 20, .inl (fun _ => 0))), (q7, .inl (cI, 20, .inl (fun _ => 0)))] := hD
  refine W.widen (k := 11) (n := 874) (by omega) (by omega) ?_
  refine va_putF (D := (dC, dI)) (ci := 3) (v := .ref q7) (ty := .array .int) (C := RX3) (T := TX3) (N := 7) hx hb hts inX3 tyX3 tyX3_ok nmX3 hown hK hP hD hS 0 rfl rfl 4 (by decide) (hts (.fieldLink RX3 30 "WarTable" "seen" "[I") (List.mem_of_getElem? (i := 15) rfl)) (fun _ h9 => h9) rfl hin rfl (by decide +kernel) rfl rfl (Nat.le_of_ble_eq_true rfl) dX3_init_46 (fun H locs hP hD hS => ?_)
  have hP : va_P (dC, dI) vwCl [(h, .inr (3, [.ref q1, .ref q3, .ref q4, .ref q6, .ref q7, .null, .int 0])), (q1, .inr (0, [.ref pv_2, .ref up_2, .int (nI 0)])), (pv_2, .inl (cI, 10, .inl (fun _ => 0))), (up_2, .inl (cI, 10, .inl (fun _ => 0))), (q3, .inl (cI, 2, .inl (fun _ => 0))), (q4, .inr (2, [.ref sd_5, .ref tw_5, .ref st_5, .ref od_5, .int (nI 0)])), (sd_5, .inl (cI, 12, .inl (fun _ => 0))), (tw_5, .inl (cI, 264, .inl (fun _ => 0))), (st_5, .inl (cI, 264, .inl (fun _ => 0))), (od_5, .inl (cI, 264, .inl (fun _ => 0))), (q6, .inl (cI, 20, .inl (fun _ => 0))), (q7, .inl (cI, 20, .inl (fun _ => 0)))] H := hP
  have hD : va_D A [(h, .inr (3, [.ref q1, .ref q3, .ref q4, .ref q6, .ref q7, .null, .int 0])), (q1, .inr (0, [.ref pv_2, .ref up_2, .int (nI 0)])), (pv_2, .inl (cI, 10, .inl (fun _ => 0))), (up_2, .inl (cI, 10, .inl (fun _ => 0))), (q3, .inl (cI, 2, .inl (fun _ => 0))), (q4, .inr (2, [.ref sd_5, .ref tw_5, .ref st_5, .ref od_5, .int (nI 0)])), (sd_5, .inl (cI, 12, .inl (fun _ => 0))), (tw_5, .inl (cI, 264, .inl (fun _ => 0))), (st_5, .inl (cI, 264, .inl (fun _ => 0))), (od_5, .inl (cI, 264, .inl (fun _ => 0))), (q6, .inl (cI, 20, .inl (fun _ => 0))), (q7, .inl (cI, 20, .inl (fun _ => 0)))] := hD
  refine lv_aload_n hx hb dX3_init_49 rfl (lv_at hl 0 rfl) ?_
  refine va_new (ci := 1) (fs := [.null, .null, .int 0]) (C := RX1) (T := TX1) (N := 3) hx hb hts inX1 tyX1 tyX1_ok hown (hts (.classLink RX3 33 RX1) (List.mem_of_getElem? (i := 16) rfl)) (hts (.instantiable RX1 3) (List.mem_of_getElem? (i := 17) rfl)) (hts (.initialized RX1) (List.mem_of_getElem? (i := 18) rfl)) hK hP hD hS hA rfl (fun j hj => by rcases (show j = 0 ∨ j = 1 ∨ j = 2 by omega) with rfl | rfl | rfl <;> rfl) (Nat.le_of_ble_eq_true rfl) (Nat.le_of_ble_eq_true rfl) dX3_init_50 (fun q8 H hP hD hS => ?_)
  have hP : va_P (dC, dI) vwCl [(h, .inr (3, [.ref q1, .ref q3, .ref q4, .ref q6, .ref q7, .null, .int 0])), (q1, .inr (0, [.ref pv_2, .ref up_2, .int (nI 0)])), (pv_2, .inl (cI, 10, .inl (fun _ => 0))), (up_2, .inl (cI, 10, .inl (fun _ => 0))), (q3, .inl (cI, 2, .inl (fun _ => 0))), (q4, .inr (2, [.ref sd_5, .ref tw_5, .ref st_5, .ref od_5, .int (nI 0)])), (sd_5, .inl (cI, 12, .inl (fun _ => 0))), (tw_5, .inl (cI, 264, .inl (fun _ => 0))), (st_5, .inl (cI, 264, .inl (fun _ => 0))), (od_5, .inl (cI, 264, .inl (fun _ => 0))), (q6, .inl (cI, 20, .inl (fun _ => 0))), (q7, .inl (cI, 20, .inl (fun _ => 0))), (q8, .inr (1, [.null, .null, .int 0]))] H := hP
  have hD : va_D A [(h, .inr (3, [.ref q1, .ref q3, .ref q4, .ref q6, .ref q7, .null, .int 0])), (q1, .inr (0, [.ref pv_2, .ref up_2, .int (nI 0)])), (pv_2, .inl (cI, 10, .inl (fun _ => 0))), (up_2, .inl (cI, 10, .inl (fun _ => 0))), (q3, .inl (cI, 2, .inl (fun _ => 0))), (q4, .inr (2, [.ref sd_5, .ref tw_5, .ref st_5, .ref od_5, .int (nI 0)])), (sd_5, .inl (cI, 12, .inl (fun _ => 0))), (tw_5, .inl (cI, 264, .inl (fun _ => 0))), (st_5, .inl (cI, 264, .inl (fun _ => 0))), (od_5, .inl (cI, 264, .inl (fun _ => 0))), (q6, .inl (cI, 20, .inl (fun _ => 0))), (q7, .inl (cI, 20, .inl (fun _ => 0))), (q8, .inr (1, [.null, .null, .int 0]))] := hD
  refine W.widen (k := 12) (n := 877) (by omega) (by omega) ?_
  refine lv_dup hx hb dX3_init_53 rfl ?_
  have hFc := va_free (wc := [(q8, .inr (1, [.null, .null, .int 0]))]) hD hS hA [12] rfl
  refine va_callv (va_runIN (As := []) (rest := [.ref q8, .ref h]) ⟨hx, hb, hml, hown, hts⟩ (k_X1_init l dC dI cI q8 H.size) ⟨va_cnB (host := RX3) 0 hts gX3_init_X1_init_n35 rfl rfl rfl (hN _ (List.mem_of_getElem? (i := 2) rfl)) (hts (.initialized RX1) (List.mem_of_getElem? (i := 18) rfl)) (by decide +kernel) ⟨Nat.le_of_ble_eq_true rfl, Nat.le_of_ble_eq_true rfl⟩, rfl, (hts (.instanceMethod yX1_init) (List.mem_of_getElem? (i := 35) rfl))⟩ (wt_PI hK hP hN hD [12] rfl rfl) rfl rfl hl.1 rfl (lv_room (Nat.le_of_ble_eq_true rfl)) dX3_init_54 ⟨Nat.le_of_ble_eq_true rfl, Nat.le_of_ble_eq_true rfl⟩) hS (fun q _ h => hFc q h) hFc (fun u t9 H1 locs ht9 hvm9 hw9 hB9 hz9 hk9 hS => ?_)
  obtain ⟨rt_9, rv_9, hP9, hD9⟩ := hB9
  rw [ht9] at hP9
  obtain ⟨hP, hD⟩ := va_join (wr := [(h, .inr (3, [.ref q1, .ref q3, .ref q4, .ref q6, .ref q7, .null, .int 0])), (q1, .inr (0, [.ref pv_2, .ref up_2, .int (nI 0)])), (pv_2, .inl (cI, 10, .inl (fun _ => 0))), (up_2, .inl (cI, 10, .inl (fun _ => 0))), (q3, .inl (cI, 2, .inl (fun _ => 0))), (q4, .inr (2, [.ref sd_5, .ref tw_5, .ref st_5, .ref od_5, .int (nI 0)])), (sd_5, .inl (cI, 12, .inl (fun _ => 0))), (tw_5, .inl (cI, 264, .inl (fun _ => 0))), (st_5, .inl (cI, 264, .inl (fun _ => 0))), (od_5, .inl (cI, 264, .inl (fun _ => 0))), (q6, .inl (cI, 20, .inl (fun _ => 0))), (q7, .inl (cI, 20, .inl (fun _ => 0)))]) (w1 := [(q8, .inr (1, [.ref rt_9, .ref rv_9, .int (nI 0)])), (rt_9, .inl (cI, 512, .inl (fun _ => 0))), (rv_9, .inl (cI, 512, .inl (fun _ => 0)))]) hP hD [12] [0, 1, 2, 3, 4, 5, 6, 7, 8, 9, 10, 11] rfl rfl (by decide) (by decide) hk9 hFc hP9 hD9
  clear hFc hk9 hP9 hD9
  generalize H1 = H at hP hS hz9 ⊢
  have hP : va_P (dC, dI) vwCl [(h, .inr (3, [.ref q1, .ref q3, .ref q4, .ref q6, .ref q7, .null, .int 0])), (q1, .inr (0, [.ref pv_2, .ref up_2, .int (nI 0)])), (pv_2, .inl (cI, 10, .inl (fun _ => 0))), (up_2, .inl (cI, 10, .inl (fun _ => 0))), (q3, .inl (cI, 2, .inl (fun _ => 0))), (q4, .inr (2, [.ref sd_5, .ref tw_5, .ref st_5, .ref od_5, .int (nI 0)])), (sd_5, .inl (cI, 12, .inl (fun _ => 0))), (tw_5, .inl (cI, 264, .inl (fun _ => 0))), (st_5, .inl (cI, 264, .inl (fun _ => 0))), (od_5, .inl (cI, 264, .inl (fun _ => 0))), (q6, .inl (cI, 20, .inl (fun _ => 0))), (q7, .inl (cI, 20, .inl (fun _ => 0))), (q8, .inr (1, [.ref rt_9, .ref rv_9, .int (nI 0)])), (rt_9, .inl (cI, 512, .inl (fun _ => 0))), (rv_9, .inl (cI, 512, .inl (fun _ => 0)))] H := hP
  have hD : va_D A [(h, .inr (3, [.ref q1, .ref q3, .ref q4, .ref q6, .ref q7, .null, .int 0])), (q1, .inr (0, [.ref pv_2, .ref up_2, .int (nI 0)])), (pv_2, .inl (cI, 10, .inl (fun _ => 0))), (up_2, .inl (cI, 10, .inl (fun _ => 0))), (q3, .inl (cI, 2, .inl (fun _ => 0))), (q4, .inr (2, [.ref sd_5, .ref tw_5, .ref st_5, .ref od_5, .int (nI 0)])), (sd_5, .inl (cI, 12, .inl (fun _ => 0))), (tw_5, .inl (cI, 264, .inl (fun _ => 0))), (st_5, .inl (cI, 264, .inl (fun _ => 0))), (od_5, .inl (cI, 264, .inl (fun _ => 0))), (q6, .inl (cI, 20, .inl (fun _ => 0))), (q7, .inl (cI, 20, .inl (fun _ => 0))), (q8, .inr (1, [.ref rt_9, .ref rv_9, .int (nI 0)])), (rt_9, .inl (cI, 512, .inl (fun _ => 0))), (rv_9, .inl (cI, 512, .inl (fun _ => 0)))] := hD
  refine W.widen (k := 14) (n := 1901) (by omega) (by omega) ?_
  refine va_putF (D := (dC, dI)) (ci := 3) (v := .ref q8) (ty := .object "WarTable$Rulings") (C := RX3) (T := TX3) (N := 7) hx hb hts inX3 tyX3 tyX3_ok nmX3 hown hK hP hD hS 0 rfl rfl 5 (by decide) (hts (.fieldLink RX3 36 "WarTable" "standing" "LWarTable$Rulings;") (List.mem_of_getElem? (i := 19) rfl)) (fun _ h9 => h9) rfl hin rfl (by decide +kernel) rfl rfl (Nat.le_of_ble_eq_true rfl) dX3_init_57 (fun H locs hP hD hS => ?_)
  have hP : va_P (dC, dI) vwCl [(h, .inr (3, [.ref q1, .ref q3, .ref q4, .ref q6, .ref q7, .ref q8, .int 0])), (q1, .inr (0, [.ref pv_2, .ref up_2, .int (nI 0)])), (pv_2, .inl (cI, 10, .inl (fun _ => 0))), (up_2, .inl (cI, 10, .inl (fun _ => 0))), (q3, .inl (cI, 2, .inl (fun _ => 0))), (q4, .inr (2, [.ref sd_5, .ref tw_5, .ref st_5, .ref od_5, .int (nI 0)])), (sd_5, .inl (cI, 12, .inl (fun _ => 0))), (tw_5, .inl (cI, 264, .inl (fun _ => 0))), (st_5, .inl (cI, 264, .inl (fun _ => 0))), (od_5, .inl (cI, 264, .inl (fun _ => 0))), (q6, .inl (cI, 20, .inl (fun _ => 0))), (q7, .inl (cI, 20, .inl (fun _ => 0))), (q8, .inr (1, [.ref rt_9, .ref rv_9, .int (nI 0)])), (rt_9, .inl (cI, 512, .inl (fun _ => 0))), (rv_9, .inl (cI, 512, .inl (fun _ => 0)))] H := hP
  have hD : va_D A [(h, .inr (3, [.ref q1, .ref q3, .ref q4, .ref q6, .ref q7, .ref q8, .int 0])), (q1, .inr (0, [.ref pv_2, .ref up_2, .int (nI 0)])), (pv_2, .inl (cI, 10, .inl (fun _ => 0))), (up_2, .inl (cI, 10, .inl (fun _ => 0))), (q3, .inl (cI, 2, .inl (fun _ => 0))), (q4, .inr (2, [.ref sd_5, .ref tw_5, .ref st_5, .ref od_5, .int (nI 0)])), (sd_5, .inl (cI, 12, .inl (fun _ => 0))), (tw_5, .inl (cI, 264, .inl (fun _ => 0))), (st_5, .inl (cI, 264, .inl (fun _ => 0))), (od_5, .inl (cI, 264, .inl (fun _ => 0))), (q6, .inl (cI, 20, .inl (fun _ => 0))), (q7, .inl (cI, 20, .inl (fun _ => 0))), (q8, .inr (1, [.ref rt_9, .ref rv_9, .int (nI 0)])), (rt_9, .inl (cI, 512, .inl (fun _ => 0))), (rv_9, .inl (cI, 512, .inl (fun _ => 0)))] := hD
  refine lv_aload_n hx hb dX3_init_60 rfl (lv_at hl 0 rfl) ?_
  refine lv_iconst (v := nI 0) hx hb dX3_init_61 (by decide +kernel) ?_
  refine va_put (D := (dC, dI)) (ci := 3) (v := .int (nI 0)) (ty := .int) (C := RX3) (T := TX3) (N := 7) hx hb hts inX3 tyX3 tyX3_ok nmX3 hown hK hP hD hS 0 rfl rfl 6 (by decide) (hts (.fieldLink RX3 40 "WarTable" "turns" "I") (List.mem_of_getElem? (i := 20) rfl)) (fun _ h9 => h9) rfl (by decide +kernel) rfl rfl (Nat.le_of_ble_eq_true rfl) dX3_init_62 (fun H locs hP hD hS => ?_)
  have hP : va_P (dC, dI) vwCl [(h, .inr (3, [.ref q1, .ref q3, .ref q4, .ref q6, .ref q7, .ref q8, .int (nI 0)])), (q1, .inr (0, [.ref pv_2, .ref up_2, .int (nI 0)])), (pv_2, .inl (cI, 10, .inl (fun _ => 0))), (up_2, .inl (cI, 10, .inl (fun _ => 0))), (q3, .inl (cI, 2, .inl (fun _ => 0))), (q4, .inr (2, [.ref sd_5, .ref tw_5, .ref st_5, .ref od_5, .int (nI 0)])), (sd_5, .inl (cI, 12, .inl (fun _ => 0))), (tw_5, .inl (cI, 264, .inl (fun _ => 0))), (st_5, .inl (cI, 264, .inl (fun _ => 0))), (od_5, .inl (cI, 264, .inl (fun _ => 0))), (q6, .inl (cI, 20, .inl (fun _ => 0))), (q7, .inl (cI, 20, .inl (fun _ => 0))), (q8, .inr (1, [.ref rt_9, .ref rv_9, .int (nI 0)])), (rt_9, .inl (cI, 512, .inl (fun _ => 0))), (rv_9, .inl (cI, 512, .inl (fun _ => 0)))] H := hP
  have hD : va_D A [(h, .inr (3, [.ref q1, .ref q3, .ref q4, .ref q6, .ref q7, .ref q8, .int (nI 0)])), (q1, .inr (0, [.ref pv_2, .ref up_2, .int (nI 0)])), (pv_2, .inl (cI, 10, .inl (fun _ => 0))), (up_2, .inl (cI, 10, .inl (fun _ => 0))), (q3, .inl (cI, 2, .inl (fun _ => 0))), (q4, .inr (2, [.ref sd_5, .ref tw_5, .ref st_5, .ref od_5, .int (nI 0)])), (sd_5, .inl (cI, 12, .inl (fun _ => 0))), (tw_5, .inl (cI, 264, .inl (fun _ => 0))), (st_5, .inl (cI, 264, .inl (fun _ => 0))), (od_5, .inl (cI, 264, .inl (fun _ => 0))), (q6, .inl (cI, 20, .inl (fun _ => 0))), (q7, .inl (cI, 20, .inl (fun _ => 0))), (q8, .inr (1, [.ref rt_9, .ref rv_9, .int (nI 0)])), (rt_9, .inl (cI, 512, .inl (fun _ => 0))), (rv_9, .inl (cI, 512, .inl (fun _ => 0)))] := hD
  refine lv_aload_n hx hb dX3_init_65 rfl (lv_at hl 0 rfl) ?_
  refine va_get (D := (dC, dI)) (ci := 3) (v := .ref q3) (C := RX3) (T := TX3) (N := 7) hx hb hts inX3 hown hK hP 0 rfl rfl 1 (by decide) (hts (.fieldLink RX3 16 "WarTable" "depots" "[I") (List.mem_of_getElem? (i := 9) rfl)) (fun _ h9 => h9) rfl dX3_init_66 ?_
  refine lv_iconst (v := nI 1) hx hb dX3_init_69 (by decide +kernel) ?_
  refine lv_bipush (v := nI 9) hx hb dX3_init_70 (by decide +kernel) ?_
  refine wt_iast hx hb hK hP hD hS 4 rfl (by omega) (by omega) dX3_init_72 (fun H locs hP hD hS => ?_)
  have hP : va_P (dC, dI) vwCl [(h, .inr (3, [.ref q1, .ref q3, .ref q4, .ref q6, .ref q7, .ref q8, .int (nI 0)])), (q1, .inr (0, [.ref pv_2, .ref up_2, .int (nI 0)])), (pv_2, .inl (cI, 10, .inl (fun _ => 0))), (up_2, .inl (cI, 10, .inl (fun _ => 0))), (q3, .inl (cI, 2, .inl (upd (fun _ => 0) 1 (nI 9)))), (q4, .inr (2, [.ref sd_5, .ref tw_5, .ref st_5, .ref od_5, .int (nI 0)])), (sd_5, .inl (cI, 12, .inl (fun _ => 0))), (tw_5, .inl (cI, 264, .inl (fun _ => 0))), (st_5, .inl (cI, 264, .inl (fun _ => 0))), (od_5, .inl (cI, 264, .inl (fun _ => 0))), (q6, .inl (cI, 20, .inl (fun _ => 0))), (q7, .inl (cI, 20, .inl (fun _ => 0))), (q8, .inr (1, [.ref rt_9, .ref rv_9, .int (nI 0)])), (rt_9, .inl (cI, 512, .inl (fun _ => 0))), (rv_9, .inl (cI, 512, .inl (fun _ => 0)))] H := hP
  have hD : va_D A [(h, .inr (3, [.ref q1, .ref q3, .ref q4, .ref q6, .ref q7, .ref q8, .int (nI 0)])), (q1, .inr (0, [.ref pv_2, .ref up_2, .int (nI 0)])), (pv_2, .inl (cI, 10, .inl (fun _ => 0))), (up_2, .inl (cI, 10, .inl (fun _ => 0))), (q3, .inl (cI, 2, .inl (upd (fun _ => 0) 1 (nI 9)))), (q4, .inr (2, [.ref sd_5, .ref tw_5, .ref st_5, .ref od_5, .int (nI 0)])), (sd_5, .inl (cI, 12, .inl (fun _ => 0))), (tw_5, .inl (cI, 264, .inl (fun _ => 0))), (st_5, .inl (cI, 264, .inl (fun _ => 0))), (od_5, .inl (cI, 264, .inl (fun _ => 0))), (q6, .inl (cI, 20, .inl (fun _ => 0))), (q7, .inl (cI, 20, .inl (fun _ => 0))), (q8, .inr (1, [.ref rt_9, .ref rv_9, .int (nI 0)])), (rt_9, .inl (cI, 512, .inl (fun _ => 0))), (rv_9, .inl (cI, 512, .inl (fun _ => 0)))] := hD
  have hP : va_P (dC, dI) vwCl [(h, .inr (3, [.ref q1, .ref q3, .ref q4, .ref q6, .ref q7, .ref q8, .int (nI 0)])), (q3, .inl (cI, 2, .inl (upd (fun _ => 0) 1 (nI 9)))), (q6, .inl (cI, 20, .inl (fun _ => 0))), (q7, .inl (cI, 20, .inl (fun _ => 0))), (q1, .inr (0, [.ref pv_2, .ref up_2, .int (nI 0)])), (pv_2, .inl (cI, 10, .inl (fun _ => 0))), (up_2, .inl (cI, 10, .inl (fun _ => 0))), (q4, .inr (2, [.ref sd_5, .ref tw_5, .ref st_5, .ref od_5, .int (nI 0)])), (sd_5, .inl (cI, 12, .inl (fun _ => 0))), (tw_5, .inl (cI, 264, .inl (fun _ => 0))), (st_5, .inl (cI, 264, .inl (fun _ => 0))), (od_5, .inl (cI, 264, .inl (fun _ => 0))), (q8, .inr (1, [.ref rt_9, .ref rv_9, .int (nI 0)])), (rt_9, .inl (cI, 512, .inl (fun _ => 0))), (rv_9, .inl (cI, 512, .inl (fun _ => 0)))] H := hP.sub [0, 4, 10, 11, 1, 2, 3, 5, 6, 7, 8, 9, 12, 13, 14] rfl
  have hD : va_D A [(h, .inr (3, [.ref q1, .ref q3, .ref q4, .ref q6, .ref q7, .ref q8, .int (nI 0)])), (q3, .inl (cI, 2, .inl (upd (fun _ => 0) 1 (nI 9)))), (q6, .inl (cI, 20, .inl (fun _ => 0))), (q7, .inl (cI, 20, .inl (fun _ => 0))), (q1, .inr (0, [.ref pv_2, .ref up_2, .int (nI 0)])), (pv_2, .inl (cI, 10, .inl (fun _ => 0))), (up_2, .inl (cI, 10, .inl (fun _ => 0))), (q4, .inr (2, [.ref sd_5, .ref tw_5, .ref st_5, .ref od_5, .int (nI 0)])), (sd_5, .inl (cI, 12, .inl (fun _ => 0))), (tw_5, .inl (cI, 264, .inl (fun _ => 0))), (st_5, .inl (cI, 264, .inl (fun _ => 0))), (od_5, .inl (cI, 264, .inl (fun _ => 0))), (q8, .inr (1, [.ref rt_9, .ref rv_9, .int (nI 0)])), (rt_9, .inl (cI, 512, .inl (fun _ => 0))), (rv_9, .inl (cI, 512, .inl (fun _ => 0)))] := hD.sub [0, 4, 10, 11, 1, 2, 3, 5, 6, 7, 8, 9, 12, 13, 14] rfl rfl
  exact W.vret hx hb hr (fun t ht hW => ⟨⟨(), rfl, trivial, q3, q6, q7, q1, pv_2, up_2, q4, sd_5, tw_5, st_5, od_5, q8, rt_9, rv_9, by rw [ht]; exact hP, hD⟩, hS.F ht⟩) hS.2.2 dX3_init_73 hlocks
