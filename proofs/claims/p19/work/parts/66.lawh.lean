set_option maxHeartbeats 4000000 in
set_option maxRecDepth 100000 in
theorem k_L_at (l : Launch) (x : Int32) (n : Nat) (h0 : 0 < n) (hn9 : n < 1000) : Met l yL_at wsL_at ({ frames := 0, cells := 0, slots := 0, locals := 0 }) (va_Pc [.int x, .int (nI n)] (fun _ => True)) (wt_ro (nI (wt_atN x n))) 0 0 wt_no := by
  refine Met.ofW (cc := cL_at) (maxL := 2) (ret := (some .int)) (by decide) rfl ?_
  intro p e s m args below meth c s₁ B hml hv
  obtain ⟨rfl, -⟩ := hv
  have hx := B.exec
  have hb := B.bytes
  have hr := B.returns
  have hts := atoms_spec (ws := wsL_at) B.pre
  have hown : s.vm.findClass RL = some m.cls := findClass_of_methodNamed B.named
  have hlocks := B.notSynchronized
  have hl := lv_entry ([.int x, .int (nI n)]) (n := 2) (Nat.le_of_ble_eq_true rfl)
  rw [lg_entry_eq]
  generalize (lg_sl ([.int x, .int (nI n)]) ++ List.replicate (2 - (lg_sl ([.int x, .int (nI n)])).length) Slot.unset).toArray = ls at hl ⊢
  have hl : lv_has ls 2 [(0, .int x), (1, .int (nI n))] := hl
  refine lv_iload_n hx hb dL_at_0 rfl (lv_at hl 0 rfl) ?_
  refine lv_iconst (v := nI 1) hx hb dL_at_1 (by decide +kernel) ?_
  refine lv_iushr (v := nI (x.toUInt32.toNat / 2)) hx hb dL_at_2 (wt_ushr1 x) ?_
  refine lv_iload_n hx hb dL_at_3 rfl (lv_at hl 1 rfl) ?_
  refine lv_irem hx hb dL_at_4 (nI_ne0 (by omega) (by omega)) ?_
  refine wt_top (y := nI (wt_atN x n)) (wt_rem (wt_half_lt x) h0 (by omega)) ?_
  exact wt_ret hx hb hr rfl rfl dL_at_5 hlocks
set_option maxHeartbeats 4000000 in
set_option maxRecDepth 100000 in
theorem k_L_cell (l : Launch) (b : Nat) (L : Nat) (xs : Nat → Int32) (i : Nat) (hi9 : i < 1000) (hL9 : L ≤ 260) : Met l yL_cell wsL_cell ({ frames := 0, cells := 0, slots := 0, locals := 0 }) (va_Pc [.ref b, .int (nI i)] (fun U => va_X b L xs U U.heap ∧ b < U.heap.size)) (wt_ro (wt_cel L xs i)) 0 0 wt_no := by
  refine Met.ofW (cc := cL_cell) (maxL := 2) (ret := (some .int)) (by decide) rfl ?_
  intro p e s m args below meth c s₁ B hml hv
  obtain ⟨rfl, hX, hbl⟩ := hv
  have hx := B.exec
  have hb := B.bytes
  have hr := B.returns
  have hts := atoms_spec (ws := wsL_cell) B.pre
  have hown : s.vm.findClass RL = some m.cls := findClass_of_methodNamed B.named
  have hlocks := B.notSynchronized
  have hl := lv_entry ([.ref b, .int (nI i)]) (n := 2) (Nat.le_of_ble_eq_true rfl)
  rw [lg_entry_eq]
  generalize (lg_sl ([.ref b, .int (nI i)]) ++ List.replicate (2 - (lg_sl ([.ref b, .int (nI i)])).length) Slot.unset).toArray = ls at hl ⊢
  have hl : lv_has ls 2 [(0, .ref b), (1, .int (nI i))] := hl
  refine lv_iload_n hx hb dL_cell_0 rfl (lv_at hl 1 rfl) ?_
  refine lv_aload_n hx hb dL_cell_1 rfl (lv_at hl 0 rfl) ?_
  refine va_slen hx hb hX hbl (fun h => h) (va_S.rf (A := fun _ => False)) dL_cell_2 ?_
  refine wt_top (y := nI L) rfl ?_
  refine wt_icmp_ge (tgt := 12) hx hb (by omega) (by omega) dL_cell_3 (by decide) (fun c_3_1 => ?_) (fun c_3_1 => ?_)
  · refine lv_ldc (v := 936751593) hx hb hown (hts (.constant RL 7 (936751593)) (List.mem_of_getElem? (i := 1) rfl)) dL_cell_12 ?_
    refine lv_iload_n hx hb dL_cell_14 rfl (lv_at hl 1 rfl) ?_
    refine lv_iconst (v := nI 1) hx hb dL_cell_15 (by decide +kernel) ?_
    refine wt_iadd hx hb dL_cell_16 ?_
    refine lv_imul hx hb dL_cell_17 ?_
    exact wt_ret hx hb hr (by first | exact Eq.symm (wt_if_t (by omega)) | exact Eq.symm (wt_if_f (by omega))) rfl dL_cell_18 hlocks
  · refine lv_aload_n hx hb dL_cell_6 rfl (lv_at hl 0 rfl) ?_
    refine lv_iload_n hx hb dL_cell_7 rfl (lv_at hl 1 rfl) ?_
    refine va_sld hx hb hX hbl (fun h => h) (va_S.rf (A := fun _ => False)) (vp_in_nI (by omega) (by omega)) dL_cell_8 ?_
    refine wt_top (y := xs i) (by rw [nI_clamp (by omega)]) ?_
    refine lv_goto (tgt := 18) hx hb dL_cell_9 (by decide) ?_
    exact wt_ret hx hb hr (by first | exact Eq.symm (wt_if_t (by omega)) | exact Eq.symm (wt_if_f (by omega))) rfl dL_cell_18 hlocks
