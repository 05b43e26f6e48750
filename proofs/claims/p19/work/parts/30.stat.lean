set_option maxHeartbeats 4000000 in
set_option maxRecDepth 100000 in
theorem k_X3_belowN (l : Launch) (a : Nat) (b : Nat) (ha : a < 2 ^ 31) (hb2 : b < 2 ^ 31) : Met l yX3_below wsX3_below ({ frames := 0, cells := 0, slots := 0, locals := 0 }) (va_Pc [.int (nI a), .int (nI b)] (fun _ => True)) (wt_ro (wt_b (a < b))) 0 0 wt_no := by
  refine Met.ofW (cc := cX3_below) (maxL := 2) (ret := (some .boolean)) (by decide) rfl ?_
  intro p e s m args below meth c s₁ B hml hv
  obtain ⟨rfl, -⟩ := hv
  have hx := B.exec
  have hb := B.bytes
  have hr := B.returns
  have hts := atoms_spec (ws := wsX3_below) B.pre
  have hown : s.vm.findClass RX3 = some m.cls := findClass_of_methodNamed B.named
  have hlocks := B.notSynchronized
  have hl := lv_entry ([.int (nI a), .int (nI b)]) (n := 2) (Nat.le_of_ble_eq_true rfl)
  rw [lg_entry_eq]
  generalize (lg_sl ([.int (nI a), .int (nI b)]) ++ List.replicate (2 - (lg_sl ([.int (nI a), .int (nI b)])).length) Slot.unset).toArray = ls at hl ⊢
  have hl : lv_has ls 2 [(0, .int (nI a)), (1, .int (nI b))] := hl
  refine lv_iload_n hx hb dX3_below_0 rfl (lv_at hl 0 rfl) ?_
  refine wt_if_lt (tgt := 13) hx hb (by omega) dX3_below_1 (by decide) ?_
  refine lv_iload_n hx hb dX3_below_4 rfl (lv_at hl 0 rfl) ?_
  refine lv_iload_n hx hb dX3_below_5 rfl (lv_at hl 1 rfl) ?_
  refine wt_icmp_ge (tgt := 13) hx hb (by omega) (by omega) dX3_below_6 (by decide) (fun c_6_1 => ?_) (fun c_6_1 => ?_)
  · refine lv_iconst (v := nI 0) hx hb dX3_below_13 (by decide +kernel) ?_
    exact wt_retz hx hb hr (by first | exact wt_bt1 (by omega) | exact wt_bf0 (by omega)) rfl dX3_below_14 hlocks
  · refine lv_iconst (v := nI 1) hx hb dX3_below_9 (by decide +kernel) ?_
    refine lv_goto (tgt := 14) hx hb dX3_below_10 (by decide) ?_
    exact wt_retz hx hb hr (by first | exact wt_bt1 (by omega) | exact wt_bf0 (by omega)) rfl dX3_below_14 hlocks
set_option maxHeartbeats 4000000 in
set_option maxRecDepth 100000 in
theorem k_X3_belowI (l : Launch) (x : Int32) (b : Nat) (hb2 : b < 2 ^ 31) : Met l yX3_below wsX3_below ({ frames := 0, cells := 0, slots := 0, locals := 0 }) (va_Pc [.int x, .int (nI b)] (fun _ => True)) (wt_ro (wt_b (vp_in x b))) 0 0 wt_no := by
  refine Met.ofW (cc := cX3_below) (maxL := 2) (ret := (some .boolean)) (by decide) rfl ?_
  intro p e s m args below meth c s₁ B hml hv
  obtain ⟨rfl, -⟩ := hv
  have hx := B.exec
  have hb := B.bytes
  have hr := B.returns
  have hts := atoms_spec (ws := wsX3_below) B.pre
  have hown : s.vm.findClass RX3 = some m.cls := findClass_of_methodNamed B.named
  have hlocks := B.notSynchronized
  have hl := lv_entry ([.int x, .int (nI b)]) (n := 2) (Nat.le_of_ble_eq_true rfl)
  rw [lg_entry_eq]
  generalize (lg_sl ([.int x, .int (nI b)]) ++ List.replicate (2 - (lg_sl ([.int x, .int (nI b)])).length) Slot.unset).toArray = ls at hl ⊢
  have hl : lv_has ls 2 [(0, .int x), (1, .int (nI b))] := hl
  refine lv_iload_n hx hb dX3_below_0 rfl (lv_at hl 0 rfl) ?_
  refine wt_if_ltI (tgt := 13) hx hb dX3_below_1 (by decide) (fun c_1_1 => ?_) (fun c_1_1 => ?_)
  · refine lv_iconst (v := nI 0) hx hb dX3_below_13 (by decide +kernel) ?_
    exact wt_retz hx hb hr (by first | exact wt_bt1 (wt_in_lt hb2 (by assumption) (by assumption)) | exact wt_bf0 (fun q => q (Or.inl (by assumption))) | exact wt_bf0 (wt_in_ge hb2 (by assumption))) rfl dX3_below_14 hlocks
  · refine lv_iload_n hx hb dX3_below_4 rfl (lv_at hl 0 rfl) ?_
    refine lv_iload_n hx hb dX3_below_5 rfl (lv_at hl 1 rfl) ?_
    refine wt_icmp_geI (tgt := 13) hx hb dX3_below_6 (by decide) (fun c_6_2 => ?_) (fun c_6_2 => ?_)
    · refine lv_iconst (v := nI 0) hx hb dX3_below_13 (by decide +kernel) ?_
      exact wt_retz hx hb hr (by first | exact wt_bt1 (wt_in_lt hb2 (by assumption) (by assumption)) | exact wt_bf0 (fun q => q (Or.inl (by assumption))) | exact wt_bf0 (wt_in_ge hb2 (by assumption))) rfl dX3_below_14 hlocks
    · refine lv_iconst (v := nI 1) hx hb dX3_below_9 (by decide +kernel) ?_
      refine lv_goto (tgt := 14) hx hb dX3_below_10 (by decide) ?_
      exact wt_retz hx hb hr (by first | exact wt_bt1 (wt_in_lt hb2 (by assumption) (by assumption)) | exact wt_bf0 (fun q => q (Or.inl (by assumption))) | exact wt_bf0 (wt_in_ge hb2 (by assumption))) rfl dX3_below_14 hlocks
set_option maxHeartbeats 4000000 in
set_option maxRecDepth 100000 in
theorem k_X3_opponent (l : Launch) (a : Nat) (ha : a ≤ 1) : Met l yX3_opponent wsX3_opponent ({ frames := 0, cells := 0, slots := 0, locals := 0 }) (va_Pc [.int (nI a)] (fun _ => True)) (wt_ro (nI (1 - a))) 0 0 wt_no := by
  refine Met.ofW (cc := cX3_opponent) (maxL := 1) (ret := (some .int)) (by decide) rfl ?_
  intro p e s m args below meth c s₁ B hml hv
  obtain ⟨rfl, -⟩ := hv
  have hx := B.exec
  have hb := B.bytes
  have hr := B.returns
  have hts := atoms_spec (ws := wsX3_opponent) B.pre
  have hown : s.vm.findClass RX3 = some m.cls := findClass_of_methodNamed B.named
  have hlocks := B.notSynchronized
  have hl := lv_entry ([.int (nI a)]) (n := 1) (Nat.le_of_ble_eq_true rfl)
  rw [lg_entry_eq]
  generalize (lg_sl ([.int (nI a)]) ++ List.replicate (1 - (lg_sl ([.int (nI a)])).length) Slot.unset).toArray = ls at hl ⊢
  have hl : lv_has ls 1 [(0, .int (nI a))] := hl
  refine lv_iconst (v := nI 1) hx hb dX3_opponent_0 (by decide +kernel) ?_
  refine lv_iload_n hx hb dX3_opponent_1 rfl (lv_at hl 0 rfl) ?_
  refine wt_isub hx hb (by omega) dX3_opponent_2 ?_
  exact wt_ret hx hb hr rfl rfl dX3_opponent_3 hlocks
set_option maxHeartbeats 4000000 in
set_option maxRecDepth 100000 in
theorem k_X3_bit (l : Launch) (x : Int32) : Met l yX3_bit wsX3_bit ({ frames := 0, cells := 0, slots := 0, locals := 0 }) (va_Pc [.int x] (fun _ => True)) (wt_ro (wt_bit x)) 0 0 wt_no := by
  refine Met.ofW (cc := cX3_bit) (maxL := 1) (ret := (some .int)) (by decide) rfl ?_
  intro p e s m args below meth c s₁ B hml hv
  obtain ⟨rfl, -⟩ := hv
  have hx := B.exec
  have hb := B.bytes
  have hr := B.returns
  have hts := atoms_spec (ws := wsX3_bit) B.pre
  have hown : s.vm.findClass RX3 = some m.cls := findClass_of_methodNamed B.named
  have hlocks := B.notSynchronized
  have hl := lv_entry ([.int x]) (n := 1) (Nat.le_of_ble_eq_true rfl)
  rw [lg_entry_eq]
  generalize (lg_sl ([.int x]) ++ List.replicate (1 - (lg_sl ([.int x])).length) Slot.unset).toArray = ls at hl ⊢
  have hl : lv_has ls 1 [(0, .int x)] := hl
  refine lv_iconst (v := nI 1) hx hb dX3_bit_0 (by decide +kernel) ?_
  refine lv_iload_n hx hb dX3_bit_1 rfl (lv_at hl 0 rfl) ?_
  refine lv_ishl hx hb dX3_bit_2 ?_
  exact wt_ret hx hb hr rfl rfl dX3_bit_3 hlocks
set_option maxHeartbeats 4000000 in
set_option maxRecDepth 100000 in
theorem k_X3_has (l : Launch) (x : Int32) (y : Int32) : Met l yX3_has wsX3_has ({ frames := 1, cells := 0, slots := 0, locals := 20 }) (va_Pc [.int x, .int y] (fun _ => True)) (wt_ro (wt_b (wt_has x y))) 0 0 wt_no := by
  refine Met.ofW (cc := cX3_has) (maxL := 2) (ret := (some .boolean)) (by decide) rfl ?_
  intro p e s m args below meth c s₁ B hml hv
  obtain ⟨rfl, -⟩ := hv
  have hx := B.exec
  have hb := B.bytes
  have hr := B.returns
  have hts := atoms_spec (ws := wsX3_has) B.pre
  have hown : s.vm.findClass RX3 = some m.cls := findClass_of_methodNamed B.named
  have hlocks := B.notSynchronized
  have hl := lv_entry ([.int x, .int y]) (n := 2) (Nat.le_of_ble_eq_true rfl)
  rw [lg_entry_eq]
  generalize (lg_sl ([.int x, .int y]) ++ List.replicate (2 - (lg_sl ([.int x, .int y])).length) Slot.unset).toArray = ls at hl ⊢
  have hl : lv_has ls 2 [(0, .int x), (1, .int y)] := hl
  refine lv_iload_n hx hb dX3_has_0 rfl (lv_at hl 1 rfl) ?_
  refine wt_if_ltI (tgt := 23) hx hb dX3_has_1 (by decide) (fun c_1_1 => ?_) (fun c_1_1 => ?_)
  · refine lv_iconst (v := nI 0) hx hb dX3_has_23 (by decide +kernel) ?_
    exact wt_retz hx hb hr (wt_bf0 (by simp [c_1_1, wt_has])) rfl dX3_has_24 hlocks
  · refine lv_iload_n hx hb dX3_has_4 rfl (lv_at hl 1 rfl) ?_
    refine lv_bipush (v := nI 32) hx hb dX3_has_5 (by decide +kernel) ?_
    refine wt_icmp_geI (tgt := 23) hx hb dX3_has_7 (by decide) (fun c_7_2 => ?_) (fun c_7_2 => ?_)
    · refine lv_iconst (v := nI 0) hx hb dX3_has_23 (by decide +kernel) ?_
      exact wt_retz hx hb hr (wt_bf0 (by simp [c_1_1, c_7_2, wt_has])) rfl dX3_has_24 hlocks
    · refine lv_iload_n hx hb dX3_has_10 rfl (lv_at hl 0 rfl) ?_
      refine lv_iload_n hx hb dX3_has_11 rfl (lv_at hl 1 rfl) ?_
      refine wt_ro_go (va_runS (As := [.int y]) (rest := [.int x]) ⟨hx, hb, hml, hown, hts⟩ (k_X3_bit l y) (va_cwS 1 hts gX3_has_X3_bit rfl rfl rfl (by decide +kernel) ⟨Nat.le_of_ble_eq_true rfl, Nat.le_of_ble_eq_true rfl⟩) wt_PS rfl rfl hl.1 rfl (lv_room (Nat.le_of_ble_eq_true rfl)) dX3_has_12 ⟨Nat.zero_le _, Nat.zero_le _⟩) ?_
      refine lv_iand hx hb dX3_has_15 ?_
      refine wt_if_eqI (tgt := 23) hx hb dX3_has_16 (by decide) (fun c_16_3 => ?_) (fun c_16_3 => ?_)
      · refine lv_iconst (v := nI 0) hx hb dX3_has_23 (by decide +kernel) ?_
        exact wt_retz hx hb hr (wt_bf0 (by simp [c_1_1, c_7_2, c_16_3, wt_has])) rfl dX3_has_24 hlocks
      · refine lv_iconst (v := nI 1) hx hb dX3_has_19 (by decide +kernel) ?_
        refine lv_goto (tgt := 24) hx hb dX3_has_20 (by decide) ?_
        exact wt_retz hx hb hr (wt_bt1 (by simp [c_1_1, c_7_2, c_16_3, wt_has])) rfl dX3_has_24 hlocks
set_option maxHeartbeats 4000000 in
set_option maxRecDepth 100000 in
theorem k_X3_loss (l : Launch) (x : Int32) (y : Int32) : Met l yX3_loss wsX3_loss ({ frames := 0, cells := 0, slots := 0, locals := 0 }) (va_Pc [.int x, .int y] (fun _ => True)) (wt_ro (wt_loss x y)) 0 0 wt_no := by
  refine Met.ofW (cc := cX3_loss) (maxL := 2) (ret := (some .int)) (by decide) rfl ?_
  intro p e s m args below meth c s₁ B hml hv
  obtain ⟨rfl, -⟩ := hv
  have hx := B.exec
  have hb := B.bytes
  have hr := B.returns
  have hts := atoms_spec (ws := wsX3_loss) B.pre
  have hown : s.vm.findClass RX3 = some m.cls := findClass_of_methodNamed B.named
  have hlocks := B.notSynchronized
  have hl := lv_entry ([.int x, .int y]) (n := 2) (Nat.le_of_ble_eq_true rfl)
  rw [lg_entry_eq]
  generalize (lg_sl ([.int x, .int y]) ++ List.replicate (2 - (lg_sl ([.int x, .int y])).length) Slot.unset).toArray = ls at hl ⊢
  have hl : lv_has ls 2 [(0, .int x), (1, .int y)] := hl
  refine lv_iload_n hx hb dX3_loss_0 rfl (lv_at hl 0 rfl) ?_
  refine lv_iload_n hx hb dX3_loss_1 rfl (lv_at hl 1 rfl) ?_
  refine wt_icmp_geI (tgt := 7) hx hb dX3_loss_2 (by decide) (fun c_2_1 => ?_) (fun c_2_1 => ?_)
  · refine lv_iload_n hx hb dX3_loss_7 rfl (lv_at hl 0 rfl) ?_
    refine lv_iload_n hx hb dX3_loss_8 rfl (lv_at hl 1 rfl) ?_
    refine wt_icmp_neI (tgt := 14) hx hb dX3_loss_9 (by decide) (fun c_9_2 => ?_) (fun c_9_2 => ?_)
    · refine lv_iconst (v := nI 2) hx hb dX3_loss_14 (by decide +kernel) ?_
      refine lv_iload_n hx hb dX3_loss_15 rfl (lv_at hl 1 rfl) ?_
      refine lv_imul hx hb dX3_loss_16 ?_
      refine lv_iload_n hx hb dX3_loss_17 rfl (lv_at hl 0 rfl) ?_
      refine wt_icmp_leI (tgt := 25) hx hb dX3_loss_18 (by decide) (fun c_18_3 => ?_) (fun c_18_3 => ?_)
      · refine lv_iconst (v := nI 0) hx hb dX3_loss_25 (by decide +kernel) ?_
        exact wt_ret hx hb hr (by simp only [wt_fold_s, wt_loss, wt_if_f c_2_1, wt_if_f c_9_2, wt_if_f c_18_3]) rfl dX3_loss_26 hlocks
      · refine lv_iconst (v := nI 1) hx hb dX3_loss_21 (by decide +kernel) ?_
        refine lv_goto (tgt := 26) hx hb dX3_loss_22 (by decide) ?_
        exact wt_ret hx hb hr (by simp only [wt_fold_s, wt_loss, wt_if_f c_2_1, wt_if_f c_9_2, wt_if_t c_18_3]) rfl dX3_loss_26 hlocks
    · refine lv_iconst (v := nI 1) hx hb dX3_loss_12 (by decide +kernel) ?_
      exact wt_ret hx hb hr (by simp only [wt_fold_s, wt_loss, wt_if_f c_2_1, wt_if_t c_9_2]) rfl dX3_loss_13 hlocks
  · refine lv_iconst (v := nI 2) hx hb dX3_loss_5 (by decide +kernel) ?_
    exact wt_ret hx hb hr (by simp only [wt_fold_s, wt_loss, wt_if_t c_2_1]) rfl dX3_loss_6 hlocks
set_option maxHeartbeats 4000000 in
set_option maxRecDepth 100000 in
theorem k_X2_isKept (l : Launch) (k : Nat) (u : Nat) (hk : k < 2 ^ 31) (hu2 : u < 2 ^ 31) : Met l yX2_isKept wsX2_isKept ({ frames := 0, cells := 0, slots := 0, locals := 0 }) (va_Pc [.int (nI k), .int (nI u)] (fun _ => True)) (wt_ro (wt_b (k < 22 ∧ u < 12))) 0 0 wt_no := by
  refine Met.ofW (cc := cX2_isKept) (maxL := 2) (ret := (some .boolean)) (by decide) rfl ?_
  intro p e s m args below meth c s₁ B hml hv
  obtain ⟨rfl, -⟩ := hv
  have hx := B.exec
  have hb := B.bytes
  have hr := B.returns
  have hts := atoms_spec (ws := wsX2_isKept) B.pre
  have hown : s.vm.findClass RX2 = some m.cls := findClass_of_methodNamed B.named
  have hlocks := B.notSynchronized
  have hl := lv_entry ([.int (nI k), .int (nI u)]) (n := 2) (Nat.le_of_ble_eq_true rfl)
  rw [lg_entry_eq]
  generalize (lg_sl ([.int (nI k), .int (nI u)]) ++ List.replicate (2 - (lg_sl ([.int (nI k), .int (nI u)])).length) Slot.unset).toArray = ls at hl ⊢
  have hl : lv_has ls 2 [(0, .int (nI k)), (1, .int (nI u))] := hl
  refine lv_iload_n hx hb dX2_isKept_0 rfl (lv_at hl 0 rfl) ?_
  refine wt_if_lt (tgt := 24) hx hb (by omega) dX2_isKept_1 (by decide) ?_
  refine lv_iload_n hx hb dX2_isKept_4 rfl (lv_at hl 0 rfl) ?_
  refine lv_bipush (v := nI 22) hx hb dX2_isKept_5 (by decide +kernel) ?_
  refine wt_icmp_ge (tgt := 24) hx hb (by omega) (by omega) dX2_isKept_7 (by decide) (fun c_7_1 => ?_) (fun c_7_1 => ?_)
  · refine lv_iconst (v := nI 0) hx hb dX2_isKept_24 (by decide +kernel) ?_
    exact wt_retz hx hb hr (by first | exact wt_bt1 (by omega) | exact wt_bf0 (by omega)) rfl dX2_isKept_25 hlocks
  · refine lv_iload_n hx hb dX2_isKept_10 rfl (lv_at hl 1 rfl) ?_
    refine wt_if_lt (tgt := 24) hx hb (by omega) dX2_isKept_11 (by decide) ?_
    refine lv_iload_n hx hb dX2_isKept_14 rfl (lv_at hl 1 rfl) ?_
    refine lv_bipush (v := nI 12) hx hb dX2_isKept_15 (by decide +kernel) ?_
    refine wt_icmp_ge (tgt := 24) hx hb (by omega) (by omega) dX2_isKept_17 (by decide) (fun c_17_2 => ?_) (fun c_17_2 => ?_)
    · refine lv_iconst (v := nI 0) hx hb dX2_isKept_24 (by decide +kernel) ?_
      exact wt_retz hx hb hr (by first | exact wt_bt1 (by omega) | exact wt_bf0 (by omega)) rfl dX2_isKept_25 hlocks
    · refine lv_iconst (v := nI 1) hx hb dX2_isKept_20 (by decide +kernel) ?_
      refine lv_goto (tgt := 25) hx hb dX2_isKept_21 (by decide) ?_
      exact wt_retz hx hb hr (by first | exact wt_bt1 (by omega) | exact wt_bf0 (by omega)) rfl dX2_isKept_25 hlocks
set_option maxHeartbeats 4000000 in
set_option maxRecDepth 100000 in
theorem k_X2_index (l : Launch) (k : Nat) (u : Nat) : Met l yX2_index wsX2_index ({ frames := 0, cells := 0, slots := 0, locals := 0 }) (va_Pc [.int (nI k), .int (nI u)] (fun _ => True)) (wt_ro (nI (k * 12 + u))) 0 0 wt_no := by
  refine Met.ofW (cc := cX2_index) (maxL := 2) (ret := (some .int)) (by decide) rfl ?_
  intro p e s m args below meth c s₁ B hml hv
  obtain ⟨rfl, -⟩ := hv
  have hx := B.exec
  have hb := B.bytes
  have hr := B.returns
  have hts := atoms_spec (ws := wsX2_index) B.pre
  have hown : s.vm.findClass RX2 = some m.cls := findClass_of_methodNamed B.named
  have hlocks := B.notSynchronized
  have hl := lv_entry ([.int (nI k), .int (nI u)]) (n := 2) (Nat.le_of_ble_eq_true rfl)
  rw [lg_entry_eq]
  generalize (lg_sl ([.int (nI k), .int (nI u)]) ++ List.replicate (2 - (lg_sl ([.int (nI k), .int (nI u)])).length) Slot.unset).toArray = ls at hl ⊢
  have hl : lv_has ls 2 [(0, .int (nI k)), (1, .int (nI u))] := hl
  refine lv_iload_n hx hb dX2_index_0 rfl (lv_at hl 0 rfl) ?_
  refine lv_bipush (v := nI 12) hx hb dX2_index_1 (by decide +kernel) ?_
  refine wt_imul hx hb dX2_index_3 ?_
  refine lv_iload_n hx hb dX2_index_4 rfl (lv_at hl 1 rfl) ?_
  refine wt_iadd hx hb dX2_index_5 ?_
  exact wt_ret hx hb hr rfl rfl dX2_index_6 hlocks
