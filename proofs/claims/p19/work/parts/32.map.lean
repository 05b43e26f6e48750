set_option maxHeartbeats 4000000 in
set_option maxRecDepth 100000 in
theorem k_X0_roads (l : Launch) (dC : Nat → ClassId) (dI : Nat → Nat → Nat) (cI : ClassId) (hm : Nat) (pv : Nat) (up : Nat) (fp : Nat → Int32) (fu : Nat → Int32) (nr : Nat) : Met l yX0_roads wsX0_roads ({ frames := 0, cells := 0, slots := 0, locals := 0 }) (va_Pc [.ref hm] (wt_pre (dC, dI) cI [(hm, .inr (0, [.ref pv, .ref up, .int (nI nr)])), (pv, .inl (cI, 10, .inl fp)), (up, .inl (cI, 10, .inl fu))])) (wt_ro (nI nr)) 0 0 wt_no := by
  refine Met.ofW (cc := cX0_roads) (maxL := 1) (ret := (some .int)) (by decide) rfl ?_
  intro p e s m args below meth c s₁ B hml hv
  obtain ⟨rfl, hP, hK, hN⟩ := hv
  have hx := B.exec
  have hb := B.bytes
  have hr := B.returns
  have hts := atoms_spec (ws := wsX0_roads) B.pre
  have hown : s.vm.findClass RX0 = some m.cls := findClass_of_methodNamed B.named
  have hlocks := B.notSynchronized
  have inX0 : ∀ w ∈ wsX00, w ∈ wsX0_roads := wt_in [2, 3, 4] (by decide +kernel)
  have hl := lv_entry ([.ref hm]) (n := 1) (Nat.le_of_ble_eq_true rfl)
  rw [lg_entry_eq]
  generalize (lg_sl ([.ref hm]) ++ List.replicate (1 - (lg_sl ([.ref hm])).length) Slot.unset).toArray = ls at hl ⊢
  have hl : lv_has ls 1 [(0, .ref hm)] := hl
  refine lv_aload_n hx hb dX0_roads_0 rfl (lv_at hl 0 rfl) ?_
  refine va_get (D := (dC, dI)) (ci := 0) (v := .int (nI nr)) (C := RX0) (T := TX0) (N := 3) hx hb hts inX0 hown hK hP 0 rfl rfl 2 (by decide) (hts (.fieldLink RX0 18 "WarTable$RoadMap" "roads" "I") (List.mem_of_getElem? (i := 1) rfl)) (fun _ h9 => h9) rfl dX0_roads_1 ?_
  exact wt_ret hx hb hr rfl rfl dX0_roads_4 hlocks
set_option maxHeartbeats 4000000 in
set_option maxRecDepth 100000 in
theorem k_X0_nextOverOpen (l : Launch) (dC : Nat → ClassId) (dI : Nat → Nat → Nat) (cI : ClassId) (hm : Nat) (pv : Nat) (up : Nat) (fp : Nat → Int32) (fu : Nat → Int32) (nr : Nat) (x : Int32) (w : Int32) : Met l yX0_nextOverOpen wsX0_nextOverOpen ({ frames := 1, cells := 0, slots := 0, locals := 21 }) (va_Pc [.ref hm, .int x, .int w] (wt_pre (dC, dI) cI [(hm, .inr (0, [.ref pv, .ref up, .int (nI nr)])), (pv, .inl (cI, 10, .inl fp)), (up, .inl (cI, 10, .inl fu))])) (wt_ro (wt_nxt fp fu x w)) 0 0 wt_no := by
  refine Met.ofW (cc := cX0_nextOverOpen) (maxL := 3) (ret := (some .int)) (by decide) rfl ?_
  intro p e s m args below meth c s₁ B hml hv
  obtain ⟨rfl, hP, hK, hN⟩ := hv
  have hx := B.exec
  have hb := B.bytes
  have hr := B.returns
  have hts := atoms_spec (ws := wsX0_nextOverOpen) B.pre
  have hown : s.vm.findClass RX0 = some m.cls := findClass_of_methodNamed B.named
  have hlocks := B.notSynchronized
  have inX0 : ∀ w ∈ wsX00, w ∈ wsX0_nextOverOpen := wt_in [6, 7, 8] (by decide +kernel)
  have hl := lv_entry ([.ref hm, .int x, .int w]) (n := 3) (Nat.le_of_ble_eq_true rfl)
  rw [lg_entry_eq]
  generalize (lg_sl ([.ref hm, .int x, .int w]) ++ List.replicate (3 - (lg_sl ([.ref hm, .int x, .int w])).length) Slot.unset).toArray = ls at hl ⊢
  have hl : lv_has ls 3 [(0, .ref hm), (1, .int x), (2, .int w)] := hl
  refine lv_iload_n hx hb dX0_nextOverOpen_0 rfl (lv_at hl 1 rfl) ?_
  refine lv_bipush (v := nI 10) hx hb dX0_nextOverOpen_1 (by decide +kernel) ?_
  refine wt_ro_go (va_runSN (As := [.int x, .int (nI 10)]) (rest := []) ⟨hx, hb, hml, hown, hts⟩ (k_X3_belowI l x 10 (by omega)) ⟨va_cnB (host := RX3) 2 hts gX0_nextOverOpen_X3_below_n30 rfl rfl rfl (hN _ (List.mem_of_getElem? (i := 4) rfl)) (hts (.initialized RX3) (List.mem_of_getElem? (i := 4) rfl)) (by decide +kernel) ⟨Nat.le_of_ble_eq_true rfl, Nat.le_of_ble_eq_true rfl⟩, (hts (.static yX3_below) (List.mem_of_getElem? (i := 3) rfl)), trivial⟩ wt_PS rfl rfl hl.1 rfl (lv_room (Nat.le_of_ble_eq_true rfl)) dX0_nextOverOpen_3 ⟨Nat.zero_le _, Nat.zero_le _⟩) ?_
  refine wt_if_eqB (tgt := 14) hx hb dX0_nextOverOpen_6 (by decide) (fun c_6_1 => ?_) (fun c_6_1 => ?_)
  · refine lv_iconst (v := nI 0) hx hb dX0_nextOverOpen_14 (by decide +kernel) ?_
    exact wt_ret hx hb hr (by simp only [wt_fold_s, wt_nxt, wt_if_f c_6_1]) rfl dX0_nextOverOpen_15 hlocks
  · refine lv_iload_n hx hb dX0_nextOverOpen_9 rfl (lv_at hl 2 rfl) ?_
    refine lv_iconst (v := nI 2) hx hb dX0_nextOverOpen_10 (by decide +kernel) ?_
    refine wt_icmp_neI (tgt := 16) hx hb dX0_nextOverOpen_11 (by decide) (fun c_11_2 => ?_) (fun c_11_2 => ?_)
    · refine lv_iload_n hx hb dX0_nextOverOpen_16 rfl (lv_at hl 2 rfl) ?_
      refine lv_iconst (v := nI 1) hx hb dX0_nextOverOpen_17 (by decide +kernel) ?_
      refine wt_icmp_neI (tgt := 30) hx hb dX0_nextOverOpen_18 (by decide) (fun c_18_3 => ?_) (fun c_18_3 => ?_)
      · refine lv_aload_n hx hb dX0_nextOverOpen_30 rfl (lv_at hl 0 rfl) ?_
        refine va_get (D := (dC, dI)) (ci := 0) (v := .ref pv) (C := RX0) (T := TX0) (N := 3) hx hb hts inX0 hown hK hP 0 rfl rfl 0 (by decide) (hts (.fieldLink RX0 9 "WarTable$RoadMap" "nextOverPaved" "[I") (List.mem_of_getElem? (i := 1) rfl)) (fun _ h9 => h9) rfl dX0_nextOverOpen_31 ?_
        refine lv_iload_n hx hb dX0_nextOverOpen_34 rfl (lv_at hl 1 rfl) ?_
        refine va_iald hx hb hK hP 1 0 rfl rfl c_6_1 dX0_nextOverOpen_35 ?_
        refine lv_aload_n hx hb dX0_nextOverOpen_36 rfl (lv_at hl 0 rfl) ?_
        refine va_get (D := (dC, dI)) (ci := 0) (v := .ref up) (C := RX0) (T := TX0) (N := 3) hx hb hts inX0 hown hK hP 0 rfl rfl 1 (by decide) (hts (.fieldLink RX0 15 "WarTable$RoadMap" "nextOverUnpaved" "[I") (List.mem_of_getElem? (i := 2) rfl)) (fun _ h9 => h9) rfl dX0_nextOverOpen_37 ?_
        refine lv_iload_n hx hb dX0_nextOverOpen_40 rfl (lv_at hl 1 rfl) ?_
        refine va_iald hx hb hK hP 2 0 rfl rfl c_6_1 dX0_nextOverOpen_41 ?_
        refine lv_ior hx hb dX0_nextOverOpen_42 ?_
        exact wt_ret hx hb hr (by simp only [wt_fold_s, wt_nxt, wt_if_t c_6_1, wt_if_f c_11_2, wt_if_f c_18_3]) rfl dX0_nextOverOpen_43 hlocks
      · refine lv_aload_n hx hb dX0_nextOverOpen_21 rfl (lv_at hl 0 rfl) ?_
        refine va_get (D := (dC, dI)) (ci := 0) (v := .ref pv) (C := RX0) (T := TX0) (N := 3) hx hb hts inX0 hown hK hP 0 rfl rfl 0 (by decide) (hts (.fieldLink RX0 9 "WarTable$RoadMap" "nextOverPaved" "[I") (List.mem_of_getElem? (i := 1) rfl)) (fun _ h9 => h9) rfl dX0_nextOverOpen_22 ?_
        refine lv_iload_n hx hb dX0_nextOverOpen_25 rfl (lv_at hl 1 rfl) ?_
        refine va_iald hx hb hK hP 1 0 rfl rfl c_6_1 dX0_nextOverOpen_26 ?_
        refine lv_goto (tgt := 43) hx hb dX0_nextOverOpen_27 (by decide) ?_
        exact wt_ret hx hb hr (by simp only [wt_fold_s, wt_nxt, wt_if_t c_6_1, wt_if_f c_11_2, wt_if_t c_18_3]) rfl dX0_nextOverOpen_43 hlocks
    · refine lv_iconst (v := nI 0) hx hb dX0_nextOverOpen_14 (by decide +kernel) ?_
      exact wt_ret hx hb hr (by simp only [wt_fold_s, wt_nxt, wt_if_t c_6_1, wt_if_t c_11_2]) rfl dX0_nextOverOpen_15 hlocks
set_option maxHeartbeats 4000000 in
set_option maxRecDepth 100000 in
theorem k_X0_joins (l : Launch) (dC : Nat → ClassId) (dI : Nat → Nat → Nat) (cI : ClassId) (hm : Nat) (pv : Nat) (up : Nat) (fp : Nat → Int32) (fu : Nat → Int32) (nr : Nat) (x : Int32) (y : Int32) : Met l yX0_joins wsX0_joins ({ frames := 2, cells := 0, slots := 0, locals := 43 }) (va_Pc [.ref hm, .int x, .int y] (wt_pre (dC, dI) cI [(hm, .inr (0, [.ref pv, .ref up, .int (nI nr)])), (pv, .inl (cI, 10, .inl fp)), (up, .inl (cI, 10, .inl fu))])) (wt_ro (wt_b (wt_has (wt_nxt fp fu x (nI 0)) y))) 0 0 wt_no := by
  refine Met.ofW (cc := cX0_joins) (maxL := 3) (ret := (some .boolean)) (by decide) rfl ?_
  intro p e s m args below meth c s₁ B hml hv
  obtain ⟨rfl, hP, hK, hN⟩ := hv
  have hx := B.exec
  have hb := B.bytes
  have hr := B.returns
  have hts := atoms_spec (ws := wsX0_joins) B.pre
  have hown : s.vm.findClass RX0 = some m.cls := findClass_of_methodNamed B.named
  have hlocks := B.notSynchronized
  have inX0 : ∀ w ∈ wsX00, w ∈ wsX0_joins := wt_in [16, 17, 18] (by decide +kernel)
  have hl := lv_entry ([.ref hm, .int x, .int y]) (n := 3) (Nat.le_of_ble_eq_true rfl)
  rw [lg_entry_eq]
  generalize (lg_sl ([.ref hm, .int x, .int y]) ++ List.replicate (3 - (lg_sl ([.ref hm, .int x, .int y])).length) Slot.unset).toArray = ls at hl ⊢
  have hl : lv_has ls 3 [(0, .ref hm), (1, .int x), (2, .int y)] := hl
  refine lv_aload_n hx hb dX0_joins_0 rfl (lv_at hl 0 rfl) ?_
  refine lv_iload_n hx hb dX0_joins_1 rfl (lv_at hl 1 rfl) ?_
  refine lv_iconst (v := nI 0) hx hb dX0_joins_2 (by decide +kernel) ?_
  refine wt_ro_go (va_runV (As := [.int x, .int (nI 0)]) (rest := []) ⟨hx, hb, hml, hown, hts⟩ (k_X0_nextOverOpen l dC dI cI hm pv up fp fu nr x (nI 0)) (cwV 2 hts gX0_joins_X0_nextOverOpen rfl rfl rfl (by decide +kernel) ⟨Nat.le_of_ble_eq_true rfl, Nat.le_of_ble_eq_true rfl⟩) (wt_PV (C := RX0) (T := TX0) (N := 3) (ci := 0) (q0 := 0) hK hP hN rfl rfl [0, 1, 2] rfl) rfl rfl hl.1 rfl (lv_room (Nat.le_of_ble_eq_true rfl)) dX0_joins_3 ⟨Nat.zero_le _, Nat.zero_le _⟩) ?_
  refine lv_iload_n hx hb dX0_joins_6 rfl (lv_at hl 2 rfl) ?_
  refine wt_ro_go (va_runSN (As := [.int (wt_nxt fp fu x (nI 0)), .int y]) (rest := []) ⟨hx, hb, hml, hown, hts⟩ (k_X3_has l (wt_nxt fp fu x (nI 0)) y) ⟨va_cnB (host := RX3) 2 hts gX0_joins_X3_has_n26 rfl rfl rfl (hN _ (List.mem_of_getElem? (i := 3) rfl)) (hts (.initialized RX3) (List.mem_of_getElem? (i := 9) rfl)) (by decide +kernel) ⟨Nat.le_of_ble_eq_true rfl, Nat.le_of_ble_eq_true rfl⟩, (hts (.static yX3_has) (List.mem_of_getElem? (i := 11) rfl)), trivial⟩ wt_PS rfl rfl hl.1 rfl (lv_room (Nat.le_of_ble_eq_true rfl)) dX0_joins_7 ⟨Nat.zero_le _, Nat.zero_le _⟩) ?_
  exact wt_retz hx hb hr rfl rfl dX0_joins_10 hlocks
set_option maxHeartbeats 4000000 in
set_option maxRecDepth 100000 in
theorem k_X0_join (l : Launch) (dC : Nat → ClassId) (dI : Nat → Nat → Nat) (cI : ClassId) (hm : Nat) (pv : Nat) (up : Nat) (fp : Nat → Int32) (fu : Nat → Int32) (nr : Nat) (a : Nat) (b : Nat) (z : Int32) (sz : Nat) (ha : a < 10) (hb2 : b < 10) : Met l yX0_join wsX0_join ({ frames := 1, cells := 0, slots := 0, locals := 21 }) (va_Pc [.ref hm, .int (nI a), .int (nI b), .int z] (wt_pm (dC, dI) cI [(hm, .inr (0, [.ref pv, .ref up, .int (nI nr)])), (pv, .inl (cI, 10, .inl fp)), (up, .inl (cI, 10, .inl fu))] sz)) (wt_mu none (dC, dI) [(hm, .inr (0, [.ref pv, .ref up, .int (nI (nr + 1))])), (pv, .inl (cI, 10, .inl (wt_if (z = 0) fp (wt_jn fp a b)))), (up, .inl (cI, 10, .inl (wt_if (z = 0) (wt_jn fu a b) fu)))] (va_A [(hm, .inr (0, [.ref pv, .ref up, .int (nI nr)])), (pv, .inl (cI, 10, .inl fp)), (up, .inl (cI, 10, .inl fu))] sz)) 0 0 (va_A [(hm, .inr (0, [.ref pv, .ref up, .int (nI nr)])), (pv, .inl (cI, 10, .inl fp)), (up, .inl (cI, 10, .inl fu))] sz) := by
  refine Met.ofW (cc := cX0_join) (maxL := 5) (ret := none) (by decide) rfl ?_
  intro p e s m args below meth c s₁ B hml hv
  obtain ⟨rfl, hsz, ⟨hP, hK, hN⟩, hD0⟩ := hv
  have hx := B.exec
  have hb := B.bytes
  have hr := B.returns
  have hts := atoms_spec (ws := wsX0_join) B.pre
  have hown : s.vm.findClass RX0 = some m.cls := findClass_of_methodNamed B.named
  have hlocks := B.notSynchronized
  subst hsz
  have hD := hD0.self (sz := s.heap.size)
  generalize hAe : va_A [(hm, .inr (0, [.ref pv, .ref up, .int (nI nr)])), (pv, .inl (cI, 10, .inl fp)), (up, .inl (cI, 10, .inl fu))] s.heap.size = A at hD ⊢
  have hA : ∀ q : Nat, s.heap.size ≤ q → A q := fun q h => by rw [← hAe]; exact Or.inr h
  have hS : va_S A s.heap s.heap [] := va_S.rf
  have inX0 : ∀ w ∈ wsX00, w ∈ wsX0_join := wt_in [9, 10, 11] (by decide +kernel)
  have hl := lv_entry ([.ref hm, .int (nI a), .int (nI b), .int z]) (n := 5) (Nat.le_of_ble_eq_true rfl)
  rw [lg_entry_eq]
  generalize (lg_sl ([.ref hm, .int (nI a), .int (nI b), .int z]) ++ List.replicate (5 - (lg_sl ([.ref hm, .int (nI a), .int (nI b), .int z])).length) Slot.unset).toArray = ls at hl ⊢
  have hl : lv_has ls 5 [(0, .ref hm), (1, .int (nI a)), (2, .int (nI b)), (3, .int z)] := hl
  refine lv_iload_n hx hb dX0_join_0 rfl (lv_at hl 1 rfl) ?_
  refine lv_bipush (v := nI 10) hx hb dX0_join_1 (by decide +kernel) ?_
  refine wt_ro_go (va_runSN (As := [.int (nI a), .int (nI 10)]) (rest := []) ⟨hx, hb, hml, hown, hts⟩ (k_X3_belowN l a 10 (by omega) (by omega)) ⟨va_cnB (host := RX3) 2 hts gX0_join_X3_below_n30 rfl rfl rfl (hN _ (List.mem_of_getElem? (i := 4) rfl)) (hts (.initialized RX3) (List.mem_of_getElem? (i := 5) rfl)) (by decide +kernel) ⟨Nat.le_of_ble_eq_true rfl, Nat.le_of_ble_eq_true rfl⟩, (hts (.static yX3_below) (List.mem_of_getElem? (i := 4) rfl)), trivial⟩ wt_PS rfl rfl hl.1 rfl (lv_room (Nat.le_of_ble_eq_true rfl)) dX0_join_3 ⟨Nat.zero_le _, Nat.zero_le _⟩) ?_
  refine wt_if_eqB (tgt := 18) hx hb dX0_join_6 (by decide) (fun c_6_1 => ?_) (fun c_6_1 => ?_)
  · exfalso; omega
  · refine lv_iload_n hx hb dX0_join_9 rfl (lv_at hl 2 rfl) ?_
    refine lv_bipush (v := nI 10) hx hb dX0_join_10 (by decide +kernel) ?_
    refine wt_ro_go (va_runSN (As := [.int (nI b), .int (nI 10)]) (rest := []) ⟨hx, hb, hml, hown, hts⟩ (k_X3_belowN l b 10 (by omega) (by omega)) ⟨va_cnB (host := RX3) 2 hts gX0_join_X3_below_n30 rfl rfl rfl (hN _ (List.mem_of_getElem? (i := 4) rfl)) (hts (.initialized RX3) (List.mem_of_getElem? (i := 5) rfl)) (by decide +kernel) ⟨Nat.le_of_ble_eq_true rfl, Nat.le_of_ble_eq_true rfl⟩, (hts (.static yX3_below) (List.mem_of_getElem? (i := 4) rfl)), trivial⟩ wt_PS rfl rfl hl.1 rfl (lv_room (Nat.le_of_ble_eq_true rfl)) dX0_join_12 ⟨Nat.zero_le _, Nat.zero_le _⟩) ?_
    refine wt_if_neB (tgt := 19) hx hb dX0_join_15 (by decide) (fun c_15_2 => ?_) (fun c_15_2 => ?_)
    · refine lv_iload_n hx hb dX0_join_19 rfl (lv_at hl 3 rfl) ?_
      refine wt_if_eqI (tgt := 30) hx hb dX0_join_20 (by decide) (fun c_20_3 => ?_) (fun c_20_3 => ?_)
      · refine lv_aload_n hx hb dX0_join_30 rfl (lv_at hl 0 rfl) ?_
        refine va_get (D := (dC, dI)) (ci := 0) (v := .ref up) (C := RX0) (T := TX0) (N := 3) hx hb hts inX0 hown hK hP 0 rfl rfl 1 (by decide) (hts (.fieldLink RX0 15 "WarTable$RoadMap" "nextOverUnpaved" "[I") (List.mem_of_getElem? (i := 2) rfl)) (fun _ h9 => h9) rfl dX0_join_31 ?_
        refine lv_astore (lv' := [(4, .ref up), (0, .ref hm), (1, .int (nI a)), (2, .int (nI b)), (3, .int z)]) hx hb dX0_join_34 hl (by decide) rfl (fun ls hl => ?_)
        refine lv_aload hx hb dX0_join_36 (lv_at hl 0 rfl) ?_
        refine lv_iload_n hx hb dX0_join_38 rfl (lv_at hl 2 rfl) ?_
        refine lv_dup2_11 hx hb dX0_join_39 rfl rfl ?_
        refine wt_iald hx hb hK hP 2 rfl (by omega) (by omega) dX0_join_40 ?_
        refine lv_iload_n hx hb dX0_join_41 rfl (lv_at hl 3 rfl) ?_
        refine wt_ro_go (va_runSN (As := [.int (nI b)]) (rest := [.int (fu a), .int (nI a), .ref up]) ⟨hx, hb, hml, hown, hts⟩ (k_X3_bit l (nI b)) ⟨va_cnB (host := RX3) 1 hts gX0_join_X3_bit_n33 rfl rfl rfl (hN _ (List.mem_of_getElem? (i := 5) rfl)) (hts (.initialized RX3) (List.mem_of_getElem? (i := 5) rfl)) (by decide +kernel) ⟨Nat.le_of_ble_eq_true rfl, Nat.le_of_ble_eq_true rfl⟩, (hts (.static yX3_bit) (List.mem_of_getElem? (i := 7) rfl)), trivial⟩ wt_PS rfl rfl hl.1 rfl (lv_room (Nat.le_of_ble_eq_true rfl)) dX0_join_42 ⟨Nat.zero_le _, Nat.zero_le _⟩) ?_
        refine lv_ior hx hb dX0_join_45 ?_
        refine wt_iast hx hb hK hP hD hS 2 rfl (by omega) (by omega) dX0_join_46 (fun H locs hP hD hS => ?_)
        have hP : va_P (dC, dI) vwCl [(hm, .inr (0, [.ref pv, .ref up, .int (nI nr)])), (pv, .inl (cI, 10, .inl fp)), (up, .inl (cI, 10, .inl (upd fu a ((fu a) ||| (wt_bit (nI b))))))] H := hP
        have hD : va_D A [(hm, .inr (0, [.ref pv, .ref up, .int (nI nr)])), (pv, .inl (cI, 10, .inl fp)), (up, .inl (cI, 10, .inl (upd fu a ((fu a) ||| (wt_bit (nI b))))))] := hD
        refine lv_aload hx hb dX0_join_47 (lv_at hl 0 rfl) ?_
        refine lv_iload_n hx hb dX0_join_49 rfl (lv_at hl 3 rfl) ?_
        refine lv_dup2_11 hx hb dX0_join_50 rfl rfl ?_
        refine wt_iald hx hb hK hP 2 rfl (by omega) (by omega) dX0_join_51 ?_
        refine lv_iload_n hx hb dX0_join_52 rfl (lv_at hl 2 rfl) ?_
        refine wt_ro_go (va_runSN (As := [.int (nI a)]) (rest := [.int ((upd fu a ((fu a) ||| (wt_bit (nI b)))) b), .int (nI b), .ref up]) ⟨hx, hb, hml, hown, hts⟩ (k_X3_bit l (nI a)) ⟨va_cnB (host := RX3) 1 hts gX0_join_X3_bit_n33 rfl rfl rfl (hN _ (List.mem_of_getElem? (i := 5) rfl)) (hts (.initialized RX3) (List.mem_of_getElem? (i := 5) rfl)) (by decide +kernel) ⟨Nat.le_of_ble_eq_true rfl, Nat.le_of_ble_eq_true rfl⟩, (hts (.static yX3_bit) (List.mem_of_getElem? (i := 7) rfl)), trivial⟩ wt_PS rfl rfl hl.1 rfl (lv_room (Nat.le_of_ble_eq_true rfl)) dX0_join_53 ⟨Nat.zero_le _, Nat.zero_le _⟩) ?_
        refine lv_ior hx hb dX0_join_56 ?_
        refine wt_iast hx hb hK hP hD hS 2 rfl (by omega) (by omega) dX0_join_57 (fun H locs hP hD hS => ?_)
        have hP : va_P (dC, dI) vwCl [(hm, .inr (0, [.ref pv, .ref up, .int (nI nr)])), (pv, .inl (cI, 10, .inl fp)), (up, .inl (cI, 10, .inl (upd (upd fu a ((fu a) ||| (wt_bit (nI b)))) b (((upd fu a ((fu a) ||| (wt_bit (nI b)))) b) ||| (wt_bit (nI a))))))] H := hP
        have hD : va_D A [(hm, .inr (0, [.ref pv, .ref up, .int (nI nr)])), (pv, .inl (cI, 10, .inl fp)), (up, .inl (cI, 10, .inl (upd (upd fu a ((fu a) ||| (wt_bit (nI b)))) b (((upd fu a ((fu a) ||| (wt_bit (nI b)))) b) ||| (wt_bit (nI a))))))] := hD
        refine lv_aload_n hx hb dX0_join_58 rfl (lv_at hl 1 rfl) ?_
        refine lv_dup hx hb dX0_join_59 rfl ?_
        refine va_get (D := (dC, dI)) (ci := 0) (v := .int (nI nr)) (C := RX0) (T := TX0) (N := 3) hx hb hts inX0 hown hK hP 0 rfl rfl 2 (by decide) (hts (.fieldLink RX0 18 "WarTable$RoadMap" "roads" "I") (List.mem_of_getElem? (i := 3) rfl)) (fun _ h9 => h9) rfl dX0_join_60 ?_
        refine lv_iconst (v := nI 1) hx hb dX0_join_63 (by decide +kernel) ?_
        refine wt_iadd hx hb dX0_join_64 ?_
        refine va_put (D := (dC, dI)) (ci := 0) (v := .int (nI (nr + 1))) (ty := .int) (C := RX0) (T := TX0) (N := 3) hx hb hts inX0 tyX0 tyX0_ok nmX0 hown hK hP hD hS 0 rfl rfl 2 (by decide) (hts (.fieldLink RX0 18 "WarTable$RoadMap" "roads" "I") (List.mem_of_getElem? (i := 3) rfl)) (fun _ h9 => h9) rfl (by decide +kernel) rfl rfl (Nat.le_of_ble_eq_true rfl) dX0_join_65 (fun H locs hP hD hS => ?_)
        have hP : va_P (dC, dI) vwCl [(hm, .inr (0, [.ref pv, .ref up, .int (nI (nr + 1))])), (pv, .inl (cI, 10, .inl fp)), (up, .inl (cI, 10, .inl (upd (upd fu a ((fu a) ||| (wt_bit (nI b)))) b (((upd fu a ((fu a) ||| (wt_bit (nI b)))) b) ||| (wt_bit (nI a))))))] H := hP
        have hD : va_D A [(hm, .inr (0, [.ref pv, .ref up, .int (nI (nr + 1))])), (pv, .inl (cI, 10, .inl fp)), (up, .inl (cI, 10, .inl (upd (upd fu a ((fu a) ||| (wt_bit (nI b)))) b (((upd fu a ((fu a) ||| (wt_bit (nI b)))) b) ||| (wt_bit (nI a))))))] := hD
        have e4 : fp = (wt_if (z = 0) fp (wt_jn fp a b)) := (by simp only [wt_fold_s, wt_jn, wt_if_t c_6_1, wt_if_t c_15_2, wt_if_t c_20_3])
        have hP : va_P (dC, dI) vwCl [(hm, .inr (0, [.ref pv, .ref up, .int (nI (nr + 1))])), (pv, .inl (cI, 10, .inl (wt_if (z = 0) fp (wt_jn fp a b)))), (up, .inl (cI, 10, .inl (upd (upd fu a ((fu a) ||| (wt_bit (nI b)))) b (((upd fu a ((fu a) ||| (wt_bit (nI b)))) b) ||| (wt_bit (nI a))))))] H := Eq.mp (congrArg (fun z9 : Nat → Int32 => va_P (dC, dI) vwCl [(hm, .inr (0, [.ref pv, .ref up, .int (nI (nr + 1))])), (pv, .inl (cI, 10, .inl z9)), (up, .inl (cI, 10, .inl (upd (upd fu a ((fu a) ||| (wt_bit (nI b)))) b (((upd fu a ((fu a) ||| (wt_bit (nI b)))) b) ||| (wt_bit (nI a))))))] H) e4) hP
        have e5 : (upd (upd fu a ((fu a) ||| (wt_bit (nI b)))) b (((upd fu a ((fu a) ||| (wt_bit (nI b)))) b) ||| (wt_bit (nI a)))) = (wt_if (z = 0) (wt_jn fu a b) fu) := (by simp only [wt_fold_s, wt_jn, wt_if_t c_6_1, wt_if_t c_15_2, wt_if_t c_20_3])
        have hP : va_P (dC, dI) vwCl [(hm, .inr (0, [.ref pv, .ref up, .int (nI (nr + 1))])), (pv, .inl (cI, 10, .inl (wt_if (z = 0) fp (wt_jn fp a b)))), (up, .inl (cI, 10, .inl (wt_if (z = 0) (wt_jn fu a b) fu)))] H := Eq.mp (congrArg (fun z9 : Nat → Int32 => va_P (dC, dI) vwCl [(hm, .inr (0, [.ref pv, .ref up, .int (nI (nr + 1))])), (pv, .inl (cI, 10, .inl (wt_if (z = 0) fp (wt_jn fp a b)))), (up, .inl (cI, 10, .inl z9))] H) e5) hP
        have hD : va_D A [(hm, .inr (0, [.ref pv, .ref up, .int (nI (nr + 1))])), (pv, .inl (cI, 10, .inl (wt_if (z = 0) fp (wt_jn fp a b)))), (up, .inl (cI, 10, .inl (wt_if (z = 0) (wt_jn fu a b) fu)))] := wt_adr hD rfl
        exact wt_mvret hx hb hr hP hS dX0_join_68 hlocks
      · refine lv_aload_n hx hb dX0_join_23 rfl (lv_at hl 0 rfl) ?_
        refine va_get (D := (dC, dI)) (ci := 0) (v := .ref pv) (C := RX0) (T := TX0) (N := 3) hx hb hts inX0 hown hK hP 0 rfl rfl 0 (by decide) (hts (.fieldLink RX0 9 "WarTable$RoadMap" "nextOverPaved" "[I") (List.mem_of_getElem? (i := 1) rfl)) (fun _ h9 => h9) rfl dX0_join_24 ?_
        refine lv_goto (tgt := 34) hx hb dX0_join_27 (by decide) ?_
        refine lv_astore (lv' := [(4, .ref pv), (0, .ref hm), (1, .int (nI a)), (2, .int (nI b)), (3, .int z)]) hx hb dX0_join_34 hl (by decide) rfl (fun ls hl => ?_)
        refine lv_aload hx hb dX0_join_36 (lv_at hl 0 rfl) ?_
        refine lv_iload_n hx hb dX0_join_38 rfl (lv_at hl 2 rfl) ?_
        refine lv_dup2_11 hx hb dX0_join_39 rfl rfl ?_
        refine wt_iald hx hb hK hP 1 rfl (by omega) (by omega) dX0_join_40 ?_
        refine lv_iload_n hx hb dX0_join_41 rfl (lv_at hl 3 rfl) ?_
        refine wt_ro_go (va_runSN (As := [.int (nI b)]) (rest := [.int (fp a), .int (nI a), .ref pv]) ⟨hx, hb, hml, hown, hts⟩ (k_X3_bit l (nI b)) ⟨va_cnB (host := RX3) 1 hts gX0_join_X3_bit_n33 rfl rfl rfl (hN _ (List.mem_of_getElem? (i := 5) rfl)) (hts (.initialized RX3) (List.mem_of_getElem? (i := 5) rfl)) (by decide +kernel) ⟨Nat.le_of_ble_eq_true rfl, Nat.le_of_ble_eq_true rfl⟩, (hts (.static yX3_bit) (List.mem_of_getElem? (i := 7) rfl)), trivial⟩ wt_PS rfl rfl hl.1 rfl (lv_room (Nat.le_of_ble_eq_true rfl)) dX0_join_42 ⟨Nat.zero_le _, Nat.zero_le _⟩) ?_
        refine lv_ior hx hb dX0_join_45 ?_
        refine wt_iast hx hb hK hP hD hS 1 rfl (by omega) (by omega) dX0_join_46 (fun H locs hP hD hS => ?_)
        have hP : va_P (dC, dI) vwCl [(hm, .inr (0, [.ref pv, .ref up, .int (nI nr)])), (pv, .inl (cI, 10, .inl (upd fp a ((fp a) ||| (wt_bit (nI b)))))), (up, .inl (cI, 10, .inl fu))] H := hP
        have hD : va_D A [(hm, .inr (0, [.ref pv, .ref up, .int (nI nr)])), (pv, .inl (cI, 10, .inl (upd fp a ((fp a) ||| (wt_bit (nI b)))))), (up, .inl (cI, 10, .inl fu))] := hD
        refine lv_aload hx hb dX0_join_47 (lv_at hl 0 rfl) ?_
        refine lv_iload_n hx hb dX0_join_49 rfl (lv_at hl 3 rfl) ?_
        refine lv_dup2_11 hx hb dX0_join_50 rfl rfl ?_
        refine wt_iald hx hb hK hP 1 rfl (by omega) (by omega) dX0_join_51 ?_
        refine lv_iload_n hx hb dX0_join_52 rfl (lv_at hl 2 rfl) ?_
        refine wt_ro_go (va_runSN (As := [.int (nI a)]) (rest := [.int ((upd fp a ((fp a) ||| (wt_bit (nI b)))) b), .int (nI b), .ref pv]) ⟨hx, hb, hml, hown, hts⟩ (k_X3_bit l (nI a)) ⟨va_cnB (host := RX3) 1 hts gX0_join_X3_bit_n33 rfl rfl rfl (hN _ (List.mem_of_getElem? (i := 5) rfl)) (hts (.initialized RX3) (List.mem_of_getElem? (i := 5) rfl)) (by decide +kernel) ⟨Nat.le_of_ble_eq_true rfl, Nat.le_of_ble_eq_true rfl⟩, (hts (.static yX3_bit) (List.mem_of_getElem? (i := 7) rfl)), trivial⟩ wt_PS rfl rfl hl.1 rfl (lv_room (Nat.le_of_ble_eq_true rfl)) dX0_join_53 ⟨Nat.zero_le _, Nat.zero_le _⟩) ?_
        refine lv_ior hx hb dX0_join_56 ?_
        refine wt_iast hx hb hK hP hD hS 1 rfl (by omega) (by omega) dX0_join_57 (fun H locs hP hD hS => ?_)
        have hP : va_P (dC, dI) vwCl [(hm, .inr (0, [.ref pv, .ref up, .int (nI nr)])), (pv, .inl (cI, 10, .inl (upd (upd fp a ((fp a) ||| (wt_bit (nI b)))) b (((upd fp a ((fp a) ||| (wt_bit (nI b)))) b) ||| (wt_bit (nI a)))))), (up, .inl (cI, 10, .inl fu))] H := hP
        have hD : va_D A [(hm, .inr (0, [.ref pv, .ref up, .int (nI nr)])), (pv, .inl (cI, 10, .inl (upd (upd fp a ((fp a) ||| (wt_bit (nI b)))) b (((upd fp a ((fp a) ||| (wt_bit (nI b)))) b) ||| (wt_bit (nI a)))))), (up, .inl (cI, 10, .inl fu))] := hD
        refine lv_aload_n hx hb dX0_join_58 rfl (lv_at hl 1 rfl) ?_
        refine lv_dup hx hb dX0_join_59 rfl ?_
        refine va_get (D := (dC, dI)) (ci := 0) (v := .int (nI nr)) (C := RX0) (T := TX0) (N := 3) hx hb hts inX0 hown hK hP 0 rfl rfl 2 (by decide) (hts (.fieldLink RX0 18 "WarTable$RoadMap" "roads" "I") (List.mem_of_getElem? (i := 3) rfl)) (fun _ h9 => h9) rfl dX0_join_60 ?_
        refine lv_iconst (v := nI 1) hx hb dX0_join_63 (by decide +kernel) ?_
        refine wt_iadd hx hb dX0_join_64 ?_
        refine va_put (D := (dC, dI)) (ci := 0) (v := .int (nI (nr + 1))) (ty := .int) (C := RX0) (T := TX0) (N := 3) hx hb hts inX0 tyX0 tyX0_ok nmX0 hown hK hP hD hS 0 rfl rfl 2 (by decide) (hts (.fieldLink RX0 18 "WarTable$RoadMap" "roads" "I") (List.mem_of_getElem? (i := 3) rfl)) (fun _ h9 => h9) rfl (by decide +kernel) rfl rfl (Nat.le_of_ble_eq_true rfl) dX0_join_65 (fun H locs hP hD hS => ?_)
        have hP : va_P (dC, dI) vwCl [(hm, .inr (0, [.ref pv, .ref up, .int (nI (nr + 1))])), (pv, .inl (cI, 10, .inl (upd (upd fp a ((fp a) ||| (wt_bit (nI b)))) b (((upd fp a ((fp a) ||| (wt_bit (nI b)))) b) ||| (wt_bit (nI a)))))), (up, .inl (cI, 10, .inl fu))] H := hP
        have hD : va_D A [(hm, .inr (0, [.ref pv, .ref up, .int (nI (nr + 1))])), (pv, .inl (cI, 10, .inl (upd (upd fp a ((fp a) ||| (wt_bit (nI b)))) b (((upd fp a ((fp a) ||| (wt_bit (nI b)))) b) ||| (wt_bit (nI a)))))), (up, .inl (cI, 10, .inl fu))] := hD
        have e6 : (upd (upd fp a ((fp a) ||| (wt_bit (nI b)))) b (((upd fp a ((fp a) ||| (wt_bit (nI b)))) b) ||| (wt_bit (nI a)))) = (wt_if (z = 0) fp (wt_jn fp a b)) := (by simp only [wt_fold_s, wt_jn, wt_if_t c_6_1, wt_if_t c_15_2, wt_if_f c_20_3])
        have hP : va_P (dC, dI) vwCl [(hm, .inr (0, [.ref pv, .ref up, .int (nI (nr + 1))])), (pv, .inl (cI, 10, .inl (wt_if (z = 0) fp (wt_jn fp a b)))), (up, .inl (cI, 10, .inl fu))] H := Eq.mp (congrArg (fun z9 : Nat → Int32 => va_P (dC, dI) vwCl [(hm, .inr (0, [.ref pv, .ref up, .int (nI (nr + 1))])), (pv, .inl (cI, 10, .inl z9)), (up, .inl (cI, 10, .inl fu))] H) e6) hP
        have e7 : fu = (wt_if (z = 0) (wt_jn fu a b) fu) := (by simp only [wt_fold_s, wt_jn, wt_if_t c_6_1, wt_if_t c_15_2, wt_if_f c_20_3])
        have hP : va_P (dC, dI) vwCl [(hm, .inr (0, [.ref pv, .ref up, .int (nI (nr + 1))])), (pv, .inl (cI, 10, .inl (wt_if (z = 0) fp (wt_jn fp a b)))), (up, .inl (cI, 10, .inl (wt_if (z = 0) (wt_jn fu a b) fu)))] H := Eq.mp (congrArg (fun z9 : Nat → Int32 => va_P (dC, dI) vwCl [(hm, .inr (0, [.ref pv, .ref up, .int (nI (nr + 1))])), (pv, .inl (cI, 10, .inl (wt_if (z = 0) fp (wt_jn fp a b)))), (up, .inl (cI, 10, .inl z9))] H) e7) hP
        have hD : va_D A [(hm, .inr (0, [.ref pv, .ref up, .int (nI (nr + 1))])), (pv, .inl (cI, 10, .inl (wt_if (z = 0) fp (wt_jn fp a b)))), (up, .inl (cI, 10, .inl (wt_if (z = 0) (wt_jn fu a b) fu)))] := wt_adr hD rfl
        exact wt_mvret hx hb hr hP hS dX0_join_68 hlocks
    · exfalso; omega
set_option maxHeartbeats 4000000 in
set_option maxRecDepth 100000 in
theorem k_X0_widened (l : Launch) (dC : Nat → ClassId) (dI : Nat → Nat → Nat) (cI : ClassId) (hm : Nat) (pv : Nat) (up : Nat) (fp : Nat → Int32) (fu : Nat → Int32) (nr : Nat) (x : Int32) (w : Int32) : Met l yX0_widened wsX0_widened ({ frames := 2, cells := 0, slots := 0, locals := 43 }) (va_Pc [.ref hm, .int x, .int w] (wt_pre (dC, dI) cI [(hm, .inr (0, [.ref pv, .ref up, .int (nI nr)])), (pv, .inl (cI, 10, .inl fp)), (up, .inl (cI, 10, .inl fu))])) (wt_ro (wt_wid fp fu x w)) 0 0 wt_no := by
  refine Met.ofW (cc := cX0_widened) (maxL := 5) (ret := (some .int)) (by decide) rfl ?_
  intro p e s m args below meth c s₁ B hml hv
  obtain ⟨rfl, hP, hK, hN⟩ := hv
  have hx := B.exec
  have hb := B.bytes
  have hr := B.returns
  have hts := atoms_spec (ws := wsX0_widened) B.pre
  have hown : s.vm.findClass RX0 = some m.cls := findClass_of_methodNamed B.named
  have hlocks := B.notSynchronized
  have inX0 : ∀ w ∈ wsX00, w ∈ wsX0_widened := wt_in [16, 17, 18] (by decide +kernel)
  have hl := lv_entry ([.ref hm, .int x, .int w]) (n := 5) (Nat.le_of_ble_eq_true rfl)
  rw [lg_entry_eq]
  generalize (lg_sl ([.ref hm, .int x, .int w]) ++ List.replicate (5 - (lg_sl ([.ref hm, .int x, .int w])).length) Slot.unset).toArray = ls at hl ⊢
  have hl : lv_has ls 5 [(0, .ref hm), (1, .int x), (2, .int w)] := hl
  refine lv_iload_n hx hb dX0_widened_0 rfl (lv_at hl 1 rfl) ?_
  refine lv_istore_n (lv' := [(3, .int x), (0, .ref hm), (1, .int x), (2, .int w)]) hx hb dX0_widened_1 rfl hl (by decide) rfl (fun ls hl => ?_)
  refine lv_iconst (v := nI 0) hx hb dX0_widened_2 (by decide +kernel) ?_
  refine lv_istore (lv' := [(4, .int (nI 0)), (3, .int x), (0, .ref hm), (1, .int x), (2, .int w)]) hx hb dX0_widened_3 hl (by decide) rfl (fun ls hl => ?_)
  have e1 : x = (wt_fold (wt_wds fp fu x w) 0 x) := rfl
  refine wt_lp (σ := Nat) 0 (fun i => 10 - i) (fun i ls => (i ≤ 10) ∧ lv_has ls 5 [(4, .int (nI i)), (3, .int (wt_fold (wt_wds fp fu x w) i x)), (0, .ref hm), (1, .int x), (2, .int w)]) ⟨(by omega), Eq.mp (congrArg (fun z9 : Int32 => lv_has ls 5 [(4, .int (nI 0)), (3, .int z9), (0, .ref hm), (1, .int x), (2, .int w)]) e1) (lv_sub hl [0, 1, 2, 3, 4] rfl)⟩ (fun i ls h9 ih_5 => ?_)
  obtain ⟨h_5_0, hl⟩ := h9
  refine lv_iload hx hb dX0_widened_5 (lv_at hl 0 rfl) ?_
  refine lv_bipush (v := nI 10) hx hb dX0_widened_7 (by decide +kernel) ?_
  refine wt_icmp_ge (tgt := 37) hx hb (by omega) (by omega) dX0_widened_9 (by decide) (fun c_9_2 => ?_) (fun c_9_2 => ?_)
  · refine lv_iload_n hx hb dX0_widened_37 rfl (lv_at hl 1 rfl) ?_
    exact wt_ret hx hb hr (by rw [show i = 10 by omega]; rfl) rfl dX0_widened_38 hlocks
  · refine lv_iload_n hx hb dX0_widened_12 rfl (lv_at hl 3 rfl) ?_
    refine lv_iload hx hb dX0_widened_13 (lv_at hl 0 rfl) ?_
    refine wt_ro_go (va_runSN (As := [.int x, .int (nI i)]) (rest := []) ⟨hx, hb, hml, hown, hts⟩ (k_X3_has l x (nI i)) ⟨va_cnB (host := RX3) 2 hts gX0_widened_X3_has_n26 rfl rfl rfl (hN _ (List.mem_of_getElem? (i := 3) rfl)) (hts (.initialized RX3) (List.mem_of_getElem? (i := 2) rfl)) (by decide +kernel) ⟨Nat.le_of_ble_eq_true rfl, Nat.le_of_ble_eq_true rfl⟩, (hts (.static yX3_has) (List.mem_of_getElem? (i := 1) rfl)), trivial⟩ wt_PS rfl rfl hl.1 rfl (lv_room (Nat.le_of_ble_eq_true rfl)) dX0_widened_15 ⟨Nat.zero_le _, Nat.zero_le _⟩) ?_
    refine wt_if_eqB (tgt := 31) hx hb dX0_widened_18 (by decide) (fun c_18_3 => ?_) (fun c_18_3 => ?_)
    · refine lv_iinc (v := nI (i + 1)) (lv' := [(4, .int (nI (i + 1))), (3, .int (wt_fold (wt_wds fp fu x w) i x)), (0, .ref hm), (1, .int x), (2, .int w)]) hx hb dX0_widened_31 hl (k := 0) rfl (nI_1 i) (by decide) rfl (fun ls hl => ?_)
      refine lv_goto (tgt := 5) hx hb dX0_widened_34 (by decide) ?_
      have e4 : (wt_fold (wt_wds fp fu x w) i x) = (wt_fold (wt_wds fp fu x w) (i + 1) x) := (by simp only [wt_fold_s, wt_wds, wt_if_f c_18_3])
      exact ih_5 (i + 1) _ (by omega) ⟨(by omega), Eq.mp (congrArg (fun z9 : Int32 => lv_has ls 5 [(4, .int (nI (i + 1))), (3, .int z9), (0, .ref hm), (1, .int x), (2, .int w)]) e4) (lv_sub hl [0, 1, 2, 3, 4] rfl)⟩
    · refine lv_iload_n hx hb dX0_widened_21 rfl (lv_at hl 1 rfl) ?_
      refine lv_aload_n hx hb dX0_widened_22 rfl (lv_at hl 2 rfl) ?_
      refine lv_iload hx hb dX0_widened_23 (lv_at hl 0 rfl) ?_
      refine lv_iload_n hx hb dX0_widened_25 rfl (lv_at hl 4 rfl) ?_
      refine wt_ro_go (va_runV (As := [.int (nI i), .int w]) (rest := [.int (wt_fold (wt_wds fp fu x w) i x)]) ⟨hx, hb, hml, hown, hts⟩ (k_X0_nextOverOpen l dC dI cI hm pv up fp fu nr (nI i) w) (cwV 2 hts gX0_widened_X0_nextOverOpen rfl rfl rfl (by decide +kernel) ⟨Nat.le_of_ble_eq_true rfl, Nat.le_of_ble_eq_true rfl⟩) (wt_PV (C := RX0) (T := TX0) (N := 3) (ci := 0) (q0 := 0) hK hP hN rfl rfl [0, 1, 2] rfl) rfl rfl hl.1 rfl (lv_room (Nat.le_of_ble_eq_true rfl)) dX0_widened_26 ⟨Nat.zero_le _, Nat.zero_le _⟩) ?_
      refine lv_ior hx hb dX0_widened_29 ?_
      refine lv_istore_n (lv' := [(3, .int ((wt_fold (wt_wds fp fu x w) i x) ||| (wt_nxt fp fu (nI i) w))), (4, .int (nI i)), (0, .ref hm), (1, .int x), (2, .int w)]) hx hb dX0_widened_30 rfl hl (by decide) rfl (fun ls hl => ?_)
      refine lv_iinc (v := nI (i + 1)) (lv' := [(4, .int (nI (i + 1))), (3, .int ((wt_fold (wt_wds fp fu x w) i x) ||| (wt_nxt fp fu (nI i) w))), (0, .ref hm), (1, .int x), (2, .int w)]) hx hb dX0_widened_31 hl (k := 1) rfl (nI_1 i) (by decide) rfl (fun ls hl => ?_)
      refine lv_goto (tgt := 5) hx hb dX0_widened_34 (by decide) ?_
      have e5 : ((wt_fold (wt_wds fp fu x w) i x) ||| (wt_nxt fp fu (nI i) w)) = (wt_fold (wt_wds fp fu x w) (i + 1) x) := (by simp only [wt_fold_s, wt_wds, wt_if_t c_18_3])
      exact ih_5 (i + 1) _ (by omega) ⟨(by omega), Eq.mp (congrArg (fun z9 : Int32 => lv_has ls 5 [(4, .int (nI (i + 1))), (3, .int z9), (0, .ref hm), (1, .int x), (2, .int w)]) e5) (lv_sub hl [0, 1, 2, 3, 4] rfl)⟩
