set_option maxHeartbeats 4000000 in
set_option maxRecDepth 100000 in
theorem k_L_moved (l : Launch) (dC : Nat → ClassId) (dI : Nat → Nat → Nat) (cI : ClassId) (h : Nat) (dp : Nat) (we : Nat) (se : Nat) (fd : Nat → Int32) (fw : Nat → Int32) (fe : Nat → Int32) (nt : Nat) (hm : Nat) (pv : Nat) (up : Nat) (fp : Nat → Int32) (fu : Nat → Int32) (nr : Nat) (hu : Nat) (sd : Nat) (tw : Nat) (st : Nat) (od : Nat) (fs : Nat → Int32) (ft : Nat → Int32) (ff : Nat → Int32) (fo : Nat → Int32) (cn : Nat) (hq : Nat) (ka : Nat) (gk : Nat → Int32) (ha : Nat) (gh : Nat → Int32) (oa : Nat) (gq : Nat → Int32) (aa : Nat) (ga : Nat → Int32) (za : Nat) (gz : Nat → Int32) (w : Nat) (hnt : nt ≤ 20) (hn1 : 1 ≤ nt) (hcn0 : cn = 10) (hfk : ∀ u : Nat, u < 10 → fs u = gk u) (hs : ∀ u : Nat, u < 10 → gk u = nI 0 ∨ gk u = nI 1) (hw3 : w < 3) (hmv : ∀ u : Nat, u < 10 → wt_mv nt ft ff gh gq ga gz w u) (hall : ∀ k : Nat, k ≤ nt → ∀ u : Nat, u < 10 → wt_ok (ft (k * 12 + u))) : Met l yL_moved wsL_moved ({ frames := 8, cells := 0, slots := 0, locals := 134 }) (va_Pc [.ref h, .int (nI w), .int (nI 10), .ref ka, .ref ha, .ref oa, .ref aa, .ref za] (wt_pre (dC, dI) cI [(h, .inr (3, [.ref hm, .ref dp, .ref hu, .ref we, .ref se, .ref hq, .int (nI nt)])), (dp, .inl (cI, 2, .inl fd)), (we, .inl (cI, 20, .inl fw)), (se, .inl (cI, 20, .inl fe)), (hm, .inr (0, [.ref pv, .ref up, .int (nI nr)])), (pv, .inl (cI, 10, .inl fp)), (up, .inl (cI, 10, .inl fu)), (hu, .inr (2, [.ref sd, .ref tw, .ref st, .ref od, .int (nI cn)])), (sd, .inl (cI, 12, .inl fs)), (tw, .inl (cI, 264, .inl ft)), (st, .inl (cI, 264, .inl ff)), (od, .inl (cI, 264, .inl fo)), (ka, .inl (cI, 12, .inl gk)), (ha, .inl (cI, 24, .inl gh)), (oa, .inl (cI, 12, .inl gq)), (aa, .inl (cI, 10, .inl ga)), (za, .inl (cI, 12, .inl gz))])) (wt_ro (wt_b True)) 0 0 wt_no := by
  refine Met.ofW (cc := cL_moved) (maxL := 13) (ret := (some .boolean)) (by decide) rfl ?_
  intro p e s m args below meth c s₁ B hml hv
  obtain ⟨rfl, hP, hK, hN⟩ := hv
  have hx := B.exec
  have hb := B.bytes
  have hr := B.returns
  have hts := atoms_spec (ws := wsL_moved) B.pre
  have hown : s.vm.findClass RL = some m.cls := findClass_of_methodNamed B.named
  have hlocks := B.notSynchronized
  have inX2 : ∀ w ∈ wsX20, w ∈ wsL_moved := wt_in [87, 88, 89, 90, 91] (by decide +kernel)
  have inX3 : ∀ w ∈ wsX30, w ∈ wsL_moved := wt_in [80, 81, 82, 83, 84, 85, 86] (by decide +kernel)
  have hl := lv_entry ([.ref h, .int (nI w), .int (nI 10), .ref ka, .ref ha, .ref oa, .ref aa, .ref za]) (n := 13) (Nat.le_of_ble_eq_true rfl)
  rw [lg_entry_eq]
  generalize (lg_sl ([.ref h, .int (nI w), .int (nI 10), .ref ka, .ref ha, .ref oa, .ref aa, .ref za]) ++ List.replicate (13 - (lg_sl ([.ref h, .int (nI w), .int (nI 10), .ref ka, .ref ha, .ref oa, .ref aa, .ref za])).length) Slot.unset).toArray = ls at hl ⊢
  have hl : lv_has ls 13 [(0, .ref h), (1, .int (nI w)), (2, .int (nI 10)), (3, .ref ka), (4, .ref ha), (5, .ref oa), (6, .ref aa), (7, .ref za)] := hl
  refine lv_iconst (v := nI 0) hx hb dL_moved_0 (by decide +kernel) ?_
  refine lv_istore (lv' := [(8, .int (nI 0)), (0, .ref h), (1, .int (nI w)), (2, .int (nI 10)), (3, .ref ka), (4, .ref ha), (5, .ref oa), (6, .ref aa), (7, .ref za)]) hx hb dL_moved_1 hl (by decide) rfl (fun ls hl => ?_)
  refine wt_lp (σ := Nat) 0 (fun i => 10 - i) (fun i ls => (i ≤ 10) ∧ lv_has ls 13 [(8, .int (nI i)), (0, .ref h), (1, .int (nI w)), (2, .int (nI 10)), (3, .ref ka), (4, .ref ha), (5, .ref oa), (6, .ref aa), (7, .ref za)]) ⟨(by omega), lv_sub hl [0, 1, 2, 3, 4, 5, 6, 7, 8] rfl⟩ (fun i ls h9 ih_3 => ?_)
  obtain ⟨h_3_0, hl⟩ := h9
  refine lv_iload hx hb dL_moved_3 (lv_at hl 0 rfl) ?_
  refine lv_iload_n hx hb dL_moved_5 rfl (lv_at hl 3 rfl) ?_
  refine wt_icmp_ge (tgt := 209) hx hb (by omega) (by omega) dL_moved_6 (by decide) (fun c_6_1 => ?_) (fun c_6_1 => ?_)
  · refine lv_iconst (v := nI 1) hx hb dL_moved_209 (by decide +kernel) ?_
    exact wt_retz hx hb hr (wt_bt1 trivial) rfl dL_moved_210 hlocks
  · have hv := hmv i (by omega)
    refine lv_aload hx hb dL_moved_9 (lv_at hl 5 rfl) ?_
    refine lv_iload hx hb dL_moved_11 (lv_at hl 0 rfl) ?_
    refine wt_iald hx hb hK hP 13 rfl (by omega) (by omega) dL_moved_13 ?_
    refine lv_istore (lv' := [(9, .int (gh i)), (8, .int (nI i)), (0, .ref h), (1, .int (nI w)), (2, .int (nI 10)), (3, .ref ka), (4, .ref ha), (5, .ref oa), (6, .ref aa), (7, .ref za)]) hx hb dL_moved_14 hl (by decide) rfl (fun ls hl => ?_)
    refine lv_aload_n hx hb dL_moved_16 rfl (lv_at hl 2 rfl) ?_
    refine lv_iload hx hb dL_moved_17 (lv_at hl 1 rfl) ?_
    refine wt_ro_go (va_runV (As := [.int (nI i)]) (rest := []) ⟨hx, hb, hml, hown, hts⟩ (k_X3_townOfS l dC dI cI h dp we se fd fw fe nt hm pv up fp fu nr hu sd tw st od fs ft ff fo cn hq i (by omega) (by omega) (by omega)) (cwV 1 hts gL_moved_X3_townOf rfl rfl rfl (by decide +kernel) ⟨Nat.le_of_ble_eq_true rfl, Nat.le_of_ble_eq_true rfl⟩) (wt_PV (C := RX3) (T := TX3) (N := 7) (ci := 3) (q0 := 0) hK hP hN rfl rfl [0, 1, 2, 3, 4, 5, 6, 7, 8, 9, 10, 11] rfl) rfl rfl hl.1 rfl (lv_room (Nat.le_of_ble_eq_true rfl)) dL_moved_19 ⟨Nat.zero_le _, Nat.zero_le _⟩) ?_
    refine lv_istore (lv' := [(10, .int (ft (nt * 12 + i))), (9, .int (gh i)), (8, .int (nI i)), (0, .ref h), (1, .int (nI w)), (2, .int (nI 10)), (3, .ref ka), (4, .ref ha), (5, .ref oa), (6, .ref aa), (7, .ref za)]) hx hb dL_moved_22 hl (by decide) rfl (fun ls hl => ?_)
    refine lv_aload hx hb dL_moved_24 (lv_at hl 7 rfl) ?_
    refine lv_bipush (v := nI 12) hx hb dL_moved_26 (by decide +kernel) ?_
    refine lv_iload hx hb dL_moved_28 (lv_at hl 2 rfl) ?_
    refine wt_iadd hx hb dL_moved_30 ?_
    refine wt_iald hx hb hK hP 13 rfl (by omega) (by omega) dL_moved_31 ?_
    refine lv_aload_n hx hb dL_moved_32 rfl (lv_at hl 3 rfl) ?_
    refine lv_iload hx hb dL_moved_33 (lv_at hl 2 rfl) ?_
    refine wt_ro_go (va_runV (As := [.int (nI i)]) (rest := [.int (gh (12 + i))]) ⟨hx, hb, hml, hown, hts⟩ (k_X3_strengthS l dC dI cI h dp we se fd fw fe nt hm pv up fp fu nr hu sd tw st od fs ft ff fo cn hq i (by omega) (by omega) (by omega)) (cwV 1 hts gL_moved_X3_strength rfl rfl rfl (by decide +kernel) ⟨Nat.le_of_ble_eq_true rfl, Nat.le_of_ble_eq_true rfl⟩) (wt_PV (C := RX3) (T := TX3) (N := 7) (ci := 3) (q0 := 0) hK hP hN rfl rfl [0, 1, 2, 3, 4, 5, 6, 7, 8, 9, 10, 11] rfl) rfl rfl hl.1 rfl (lv_room (Nat.le_of_ble_eq_true rfl)) dL_moved_35 ⟨Nat.zero_le _, Nat.zero_le _⟩) ?_
    refine lv_isub hx hb dL_moved_38 ?_
    refine lv_istore (lv' := [(11, .int ((gh (12 + i)) - (ff (nt * 12 + i)))), (10, .int (ft (nt * 12 + i))), (9, .int (gh i)), (8, .int (nI i)), (0, .ref h), (1, .int (nI w)), (2, .int (nI 10)), (3, .ref ka), (4, .ref ha), (5, .ref oa), (6, .ref aa), (7, .ref za)]) hx hb dL_moved_39 hl (by decide) rfl (fun ls hl => ?_)
    refine lv_iload hx hb dL_moved_41 (lv_at hl 0 rfl) ?_
    refine wt_if_ltI (tgt := 89) hx hb dL_moved_43 (by decide) (fun c_43_2 => ?_) (fun c_43_2 => ?_)
    · exact absurd c_43_2 hv.1.1
    · refine lv_iload hx hb dL_moved_46 (lv_at hl 0 rfl) ?_
      refine lv_iconst (v := nI 2) hx hb dL_moved_48 (by decide +kernel) ?_
      refine wt_icmp_gtI (tgt := 89) hx hb dL_moved_49 (by decide) (fun c_49_3 => ?_) (fun c_49_3 => ?_)
      · exact absurd c_49_3 hv.1.2
      · refine wt_join (v0 := wt_b (ft (nt * 12 + i) < 0)) (tgt := 62) (st1 := []) ?_ (fun j_62 => ?_)
        · refine lv_aload_n hx hb dL_moved_62 rfl (lv_at hl 4 rfl) ?_
          refine lv_iload hx hb dL_moved_63 (lv_at hl 3 rfl) ?_
          refine wt_ro_go (va_runV (As := [.int (nI i)]) (rest := [.int (wt_b (ft (nt * 12 + i) < 0))]) ⟨hx, hb, hml, hown, hts⟩ (k_X3_strengthS l dC dI cI h dp we se fd fw fe nt hm pv up fp fu nr hu sd tw st od fs ft ff fo cn hq i (by omega) (by omega) (by omega)) (cwV 1 hts gL_moved_X3_strength rfl rfl rfl (by decide +kernel) ⟨Nat.le_of_ble_eq_true rfl, Nat.le_of_ble_eq_true rfl⟩) (wt_PV (C := RX3) (T := TX3) (N := 7) (ci := 3) (q0 := 0) hK hP hN rfl rfl [0, 1, 2, 3, 4, 5, 6, 7, 8, 9, 10, 11] rfl) rfl rfl hl.1 rfl (lv_room (Nat.le_of_ble_eq_true rfl)) dL_moved_65 ⟨Nat.zero_le _, Nat.zero_le _⟩) ?_
          refine wt_join (v0 := wt_b (ff (nt * 12 + i) = 0)) (tgt := 76) (st1 := [.int (wt_b (ft (nt * 12 + i) < 0))]) ?_ (fun j_76 => ?_)
          · refine wt_icmp_neI (tgt := 89) hx hb dL_moved_76 (by decide) (fun c_76_4 => ?_) (fun c_76_4 => ?_)
            · exact absurd (wt_b_c hv.2.1) c_76_4
            · refine lv_iload hx hb dL_moved_79 (lv_at hl 2 rfl) ?_
              refine wt_if_geI (tgt := 91) hx hb dL_moved_81 (by decide) (fun c_81_5 => ?_) (fun c_81_5 => ?_)
              · refine lv_iload hx hb dL_moved_91 (lv_at hl 1 rfl) ?_
                refine wt_if_ltI (tgt := 141) hx hb dL_moved_93 (by decide) (fun c_93_6 => ?_) (fun c_93_6 => ?_)
                · refine lv_aload_n hx hb dL_moved_141 rfl (lv_at hl 4 rfl) ?_
                  refine lv_iload hx hb dL_moved_142 (lv_at hl 3 rfl) ?_
                  refine lv_aload_n hx hb dL_moved_144 rfl (lv_at hl 4 rfl) ?_
                  refine wt_ro_go (va_runV (As := []) (rest := [.int (nI i), .ref h]) ⟨hx, hb, hml, hown, hts⟩ (k_X3_played l dC dI cI h dp we se fd fw fe nt hm pv up fp fu nr hu sd tw st od fs ft ff fo cn hq) (cwV 0 hts gL_moved_X3_played rfl rfl rfl (by decide +kernel) ⟨Nat.le_of_ble_eq_true rfl, Nat.le_of_ble_eq_true rfl⟩) (wt_PV (C := RX3) (T := TX3) (N := 7) (ci := 3) (q0 := 0) hK hP hN rfl rfl [0, 1, 2, 3, 4, 5, 6, 7, 8, 9, 10, 11] rfl) rfl rfl hl.1 rfl (lv_room (Nat.le_of_ble_eq_true rfl)) dL_moved_145 ⟨Nat.zero_le _, Nat.zero_le _⟩) ?_
                  refine lv_iconst (v := nI 1) hx hb dL_moved_148 (by decide +kernel) ?_
                  refine wt_isub hx hb (by omega) dL_moved_149 ?_
                  refine wt_ro_go (va_runV (As := [.int (nI i), .int (nI (nt - 1))]) (rest := []) ⟨hx, hb, hml, hown, hts⟩ (k_X3_townAfterS l dC dI cI h dp we se fd fw fe nt hm pv up fp fu nr hu sd tw st od fs ft ff fo cn hq i (nt - 1) (by omega) (by omega) (by omega) (by omega)) (cwV 2 hts gL_moved_X3_townAfter rfl rfl rfl (by decide +kernel) ⟨Nat.le_of_ble_eq_true rfl, Nat.le_of_ble_eq_true rfl⟩) (wt_PV (C := RX3) (T := TX3) (N := 7) (ci := 3) (q0 := 0) hK hP hN rfl rfl [0, 1, 2, 3, 4, 5, 6, 7, 8, 9, 10, 11] rfl) rfl rfl hl.1 rfl (lv_room (Nat.le_of_ble_eq_true rfl)) dL_moved_150 ⟨Nat.zero_le _, Nat.zero_le _⟩) ?_
                  refine wt_top (y := ft (nt * 12 + i)) (by rw [show nt - 1 + 1 = nt by omega]) ?_
                  refine lv_iload hx hb dL_moved_153 (lv_at hl 1 rfl) ?_
                  refine wt_icmp_eqI (tgt := 160) hx hb dL_moved_155 (by decide) (fun c_155_7 => ?_) (fun c_155_7 => ?_)
                  · refine lv_aload_n hx hb dL_moved_160 rfl (lv_at hl 4 rfl) ?_
                    refine lv_iconst (v := nI 1) hx hb dL_moved_161 (by decide +kernel) ?_
                    refine lv_aload_n hx hb dL_moved_162 rfl (lv_at hl 7 rfl) ?_
                    refine lv_iload hx hb dL_moved_163 (lv_at hl 3 rfl) ?_
                    refine wt_iald hx hb hK hP 12 rfl (by omega) (by omega) dL_moved_165 ?_
                    refine lv_isub hx hb dL_moved_166 ?_
                    obtain ⟨d9, hd9l, hd9, hd9f⟩ := wt_opp (hfk i (by omega)) (hs i (by omega))
                    refine wt_top (y := nI d9) hd9 ?_
                    refine lv_iload hx hb dL_moved_167 (lv_at hl 3 rfl) ?_
                    refine wt_ro_go (va_runV (As := [.int (nI d9), .int (nI i)]) (rest := []) ⟨hx, hb, hml, hown, hts⟩ (k_X3_reportedA l dC dI cI h dp we se fd fw fe nt hm pv up fp fu nr hu sd tw st od fs ft ff fo cn hq d9 i (by omega) (by omega) (by omega) (by omega) hd9f) (cwV 2 hts gL_moved_X3_reported rfl rfl rfl (by decide +kernel) ⟨Nat.le_of_ble_eq_true rfl, Nat.le_of_ble_eq_true rfl⟩) (wt_PV (C := RX3) (T := TX3) (N := 7) (ci := 3) (q0 := 0) hK hP hN rfl rfl [0, 1, 2, 3, 4, 5, 6, 7, 8, 9, 10, 11] rfl) rfl rfl hl.1 rfl (lv_room (Nat.le_of_ble_eq_true rfl)) dL_moved_169 ⟨Nat.zero_le _, Nat.zero_le _⟩) ?_
                    have hra : wt_ok (wt_last (fun t => wt_has (fe t) (nI i)) (fun t => ft ((t + 1) * 12 + i)) (nt - 2)) := wt_last_ok (fun q hq9 => hall (q + 1) (by omega) i (by omega))
                    have hrb : nt < 3 → (wt_last (fun t => wt_has (fe t) (nI i)) (fun t => ft ((t + 1) * 12 + i)) (nt - 2)) = -1 := fun z => by rw [show nt - 2 = 0 by omega]; rfl
                    generalize hr9 : (wt_last (fun t => wt_has (fe t) (nI i)) (fun t => ft ((t + 1) * 12 + i)) (nt - 2)) = r9 at hra hrb
                    refine wt_top (y := r9) rfl ?_
                    refine lv_istore (lv' := [(12, .int r9), (11, .int ((gh (12 + i)) - (ff (nt * 12 + i)))), (10, .int (ft (nt * 12 + i))), (9, .int (gh i)), (8, .int (nI i)), (0, .ref h), (1, .int (nI w)), (2, .int (nI 10)), (3, .ref ka), (4, .ref ha), (5, .ref oa), (6, .ref aa), (7, .ref za)]) hx hb dL_moved_172 hl (by decide) rfl (fun ls hl => ?_)
                    refine lv_aload_n hx hb dL_moved_174 rfl (lv_at hl 5 rfl) ?_
                    refine wt_ro_go (va_runV (As := []) (rest := []) ⟨hx, hb, hml, hown, hts⟩ (k_X3_played l dC dI cI h dp we se fd fw fe nt hm pv up fp fu nr hu sd tw st od fs ft ff fo cn hq) (cwV 0 hts gL_moved_X3_played rfl rfl rfl (by decide +kernel) ⟨Nat.le_of_ble_eq_true rfl, Nat.le_of_ble_eq_true rfl⟩) (wt_PV (C := RX3) (T := TX3) (N := 7) (ci := 3) (q0 := 0) hK hP hN rfl rfl [0, 1, 2, 3, 4, 5, 6, 7, 8, 9, 10, 11] rfl) rfl rfl hl.1 rfl (lv_room (Nat.le_of_ble_eq_true rfl)) dL_moved_175 ⟨Nat.zero_le _, Nat.zero_le _⟩) ?_
                    refine lv_iconst (v := nI 3) hx hb dL_moved_178 (by decide +kernel) ?_
                    refine wt_icmp_ge (tgt := 188) hx hb (by omega) (by omega) dL_moved_179 (by decide) (fun c_179_8 => ?_) (fun c_179_8 => ?_)
                    · refine lv_iload hx hb dL_moved_188 (lv_at hl 0 rfl) ?_
                      refine lv_iconst (v := (-1)) hx hb dL_moved_190 (by decide +kernel) ?_
                      refine wt_icmp_ltI (tgt := 201) hx hb dL_moved_191 (by decide) (fun c_191_9 => ?_) (fun c_191_9 => ?_)
                      · exact absurd c_191_9 (wt_ok_iff.mpr hra).1
                      · refine lv_iload hx hb dL_moved_194 (lv_at hl 0 rfl) ?_
                        refine lv_bipush (v := nI 9) hx hb dL_moved_196 (by decide +kernel) ?_
                        refine wt_icmp_leI (tgt := 203) hx hb dL_moved_198 (by decide) (fun c_198_10 => ?_) (fun c_198_10 => ?_)
                        · refine lv_iinc (v := nI (i + 1)) (lv' := [(8, .int (nI (i + 1))), (12, .int r9), (11, .int ((gh (12 + i)) - (ff (nt * 12 + i)))), (10, .int (ft (nt * 12 + i))), (9, .int (gh i)), (0, .ref h), (1, .int (nI w)), (2, .int (nI 10)), (3, .ref ka), (4, .ref ha), (5, .ref oa), (6, .ref aa), (7, .ref za)]) hx hb dL_moved_203 hl (k := 4) rfl (nI_1 i) (by decide) rfl (fun ls hl => ?_)
                          refine lv_goto (tgt := 3) hx hb dL_moved_206 (by decide) ?_
                          exact ih_3 (i + 1) _ (by omega) ⟨(by omega), lv_sub hl [0, 5, 6, 7, 8, 9, 10, 11, 12] rfl⟩
                        · exact absurd c_198_10 (wt_ok_iff.mpr hra).2
                    · refine lv_iload hx hb dL_moved_182 (lv_at hl 0 rfl) ?_
                      refine lv_iconst (v := (-1)) hx hb dL_moved_184 (by decide +kernel) ?_
                      refine wt_icmp_neI (tgt := 201) hx hb dL_moved_185 (by decide) (fun c_185_11 => ?_) (fun c_185_11 => ?_)
                      · exact absurd (hrb c_179_8) c_185_11
                      · refine lv_iload hx hb dL_moved_188 (lv_at hl 0 rfl) ?_
                        refine lv_iconst (v := (-1)) hx hb dL_moved_190 (by decide +kernel) ?_
                        refine wt_icmp_ltI (tgt := 201) hx hb dL_moved_191 (by decide) (fun c_191_12 => ?_) (fun c_191_12 => ?_)
                        · exact absurd c_191_12 (wt_ok_iff.mpr hra).1
                        · refine lv_iload hx hb dL_moved_194 (lv_at hl 0 rfl) ?_
                          refine lv_bipush (v := nI 9) hx hb dL_moved_196 (by decide +kernel) ?_
                          refine wt_icmp_leI (tgt := 203) hx hb dL_moved_198 (by decide) (fun c_198_13 => ?_) (fun c_198_13 => ?_)
                          · refine lv_iinc (v := nI (i + 1)) (lv' := [(8, .int (nI (i + 1))), (12, .int r9), (11, .int ((gh (12 + i)) - (ff (nt * 12 + i)))), (10, .int (ft (nt * 12 + i))), (9, .int (gh i)), (0, .ref h), (1, .int (nI w)), (2, .int (nI 10)), (3, .ref ka), (4, .ref ha), (5, .ref oa), (6, .ref aa), (7, .ref za)]) hx hb dL_moved_203 hl (k := 4) rfl (nI_1 i) (by decide) rfl (fun ls hl => ?_)
                            refine lv_goto (tgt := 3) hx hb dL_moved_206 (by decide) ?_
                            exact ih_3 (i + 1) _ (by omega) ⟨(by omega), lv_sub hl [0, 5, 6, 7, 8, 9, 10, 11, 12] rfl⟩
                          · exact absurd c_198_13 (wt_ok_iff.mpr hra).2
                  · exact absurd rfl c_155_7
                · refine lv_iload hx hb dL_moved_96 (lv_at hl 1 rfl) ?_
                  refine lv_iload hx hb dL_moved_98 (lv_at hl 2 rfl) ?_
                  refine wt_icmp_eqI (tgt := 141) hx hb dL_moved_100 (by decide) (fun c_100_14 => ?_) (fun c_100_14 => ?_)
                  · refine lv_aload_n hx hb dL_moved_141 rfl (lv_at hl 4 rfl) ?_
                    refine lv_iload hx hb dL_moved_142 (lv_at hl 3 rfl) ?_
                    refine lv_aload_n hx hb dL_moved_144 rfl (lv_at hl 4 rfl) ?_
                    refine wt_ro_go (va_runV (As := []) (rest := [.int (nI i), .ref h]) ⟨hx, hb, hml, hown, hts⟩ (k_X3_played l dC dI cI h dp we se fd fw fe nt hm pv up fp fu nr hu sd tw st od fs ft ff fo cn hq) (cwV 0 hts gL_moved_X3_played rfl rfl rfl (by decide +kernel) ⟨Nat.le_of_ble_eq_true rfl, Nat.le_of_ble_eq_true rfl⟩) (wt_PV (C := RX3) (T := TX3) (N := 7) (ci := 3) (q0 := 0) hK hP hN rfl rfl [0, 1, 2, 3, 4, 5, 6, 7, 8, 9, 10, 11] rfl) rfl rfl hl.1 rfl (lv_room (Nat.le_of_ble_eq_true rfl)) dL_moved_145 ⟨Nat.zero_le _, Nat.zero_le _⟩) ?_
                    refine lv_iconst (v := nI 1) hx hb dL_moved_148 (by decide +kernel) ?_
                    refine wt_isub hx hb (by omega) dL_moved_149 ?_
                    refine wt_ro_go (va_runV (As := [.int (nI i), .int (nI (nt - 1))]) (rest := []) ⟨hx, hb, hml, hown, hts⟩ (k_X3_townAfterS l dC dI cI h dp we se fd fw fe nt hm pv up fp fu nr hu sd tw st od fs ft ff fo cn hq i (nt - 1) (by omega) (by omega) (by omega) (by omega)) (cwV 2 hts gL_moved_X3_townAfter rfl rfl rfl (by decide +kernel) ⟨Nat.le_of_ble_eq_true rfl, Nat.le_of_ble_eq_true rfl⟩) (wt_PV (C := RX3) (T := TX3) (N := 7) (ci := 3) (q0 := 0) hK hP hN rfl rfl [0, 1, 2, 3, 4, 5, 6, 7, 8, 9, 10, 11] rfl) rfl rfl hl.1 rfl (lv_room (Nat.le_of_ble_eq_true rfl)) dL_moved_150 ⟨Nat.zero_le _, Nat.zero_le _⟩) ?_
                    refine wt_top (y := ft (nt * 12 + i)) (by rw [show nt - 1 + 1 = nt by omega]) ?_
                    refine lv_iload hx hb dL_moved_153 (lv_at hl 1 rfl) ?_
                    refine wt_icmp_eqI (tgt := 160) hx hb dL_moved_155 (by decide) (fun c_155_15 => ?_) (fun c_155_15 => ?_)
                    · refine lv_aload_n hx hb dL_moved_160 rfl (lv_at hl 4 rfl) ?_
                      refine lv_iconst (v := nI 1) hx hb dL_moved_161 (by decide +kernel) ?_
                      refine lv_aload_n hx hb dL_moved_162 rfl (lv_at hl 7 rfl) ?_
                      refine lv_iload hx hb dL_moved_163 (lv_at hl 3 rfl) ?_
                      refine wt_iald hx hb hK hP 12 rfl (by omega) (by omega) dL_moved_165 ?_
                      refine lv_isub hx hb dL_moved_166 ?_
                      obtain ⟨d9, hd9l, hd9, hd9f⟩ := wt_opp (hfk i (by omega)) (hs i (by omega))
                      refine wt_top (y := nI d9) hd9 ?_
                      refine lv_iload hx hb dL_moved_167 (lv_at hl 3 rfl) ?_
                      refine wt_ro_go (va_runV (As := [.int (nI d9), .int (nI i)]) (rest := []) ⟨hx, hb, hml, hown, hts⟩ (k_X3_reportedA l dC dI cI h dp we se fd fw fe nt hm pv up fp fu nr hu sd tw st od fs ft ff fo cn hq d9 i (by omega) (by omega) (by omega) (by omega) hd9f) (cwV 2 hts gL_moved_X3_reported rfl rfl rfl (by decide +kernel) ⟨Nat.le_of_ble_eq_true rfl, Nat.le_of_ble_eq_true rfl⟩) (wt_PV (C := RX3) (T := TX3) (N := 7) (ci := 3) (q0 := 0) hK hP hN rfl rfl [0, 1, 2, 3, 4, 5, 6, 7, 8, 9, 10, 11] rfl) rfl rfl hl.1 rfl (lv_room (Nat.le_of_ble_eq_true rfl)) dL_moved_169 ⟨Nat.zero_le _, Nat.zero_le _⟩) ?_
                      have hra : wt_ok (wt_last (fun t => wt_has (fe t) (nI i)) (fun t => ft ((t + 1) * 12 + i)) (nt - 2)) := wt_last_ok (fun q hq9 => hall (q + 1) (by omega) i (by omega))
                      have hrb : nt < 3 → (wt_last (fun t => wt_has (fe t) (nI i)) (fun t => ft ((t + 1) * 12 + i)) (nt - 2)) = -1 := fun z => by rw [show nt - 2 = 0 by omega]; rfl
                      generalize hr9 : (wt_last (fun t => wt_has (fe t) (nI i)) (fun t => ft ((t + 1) * 12 + i)) (nt - 2)) = r9 at hra hrb
                      refine wt_top (y := r9) rfl ?_
                      refine lv_istore (lv' := [(12, .int r9), (11, .int ((gh (12 + i)) - (ff (nt * 12 + i)))), (10, .int (ft (nt * 12 + i))), (9, .int (gh i)), (8, .int (nI i)), (0, .ref h), (1, .int (nI w)), (2, .int (nI 10)), (3, .ref ka), (4, .ref ha), (5, .ref oa), (6, .ref aa), (7, .ref za)]) hx hb dL_moved_172 hl (by decide) rfl (fun ls hl => ?_)
                      refine lv_aload_n hx hb dL_moved_174 rfl (lv_at hl 5 rfl) ?_
                      refine wt_ro_go (va_runV (As := []) (rest := []) ⟨hx, hb, hml, hown, hts⟩ (k_X3_played l dC dI cI h dp we se fd fw fe nt hm pv up fp fu nr hu sd tw st od fs ft ff fo cn hq) (cwV 0 hts gL_moved_X3_played rfl rfl rfl (by decide +kernel) ⟨Nat.le_of_ble_eq_true rfl, Nat.le_of_ble_eq_true rfl⟩) (wt_PV (C := RX3) (T := TX3) (N := 7) (ci := 3) (q0 := 0) hK hP hN rfl rfl [0, 1, 2, 3, 4, 5, 6, 7, 8, 9, 10, 11] rfl) rfl rfl hl.1 rfl (lv_room (Nat.le_of_ble_eq_true rfl)) dL_moved_175 ⟨Nat.zero_le _, Nat.zero_le _⟩) ?_
                      refine lv_iconst (v := nI 3) hx hb dL_moved_178 (by decide +kernel) ?_
                      refine wt_icmp_ge (tgt := 188) hx hb (by omega) (by omega) dL_moved_179 (by decide) (fun c_179_16 => ?_) (fun c_179_16 => ?_)
                      · refine lv_iload hx hb dL_moved_188 (lv_at hl 0 rfl) ?_
                        refine lv_iconst (v := (-1)) hx hb dL_moved_190 (by decide +kernel) ?_
                        refine wt_icmp_ltI (tgt := 201) hx hb dL_moved_191 (by decide) (fun c_191_17 => ?_) (fun c_191_17 => ?_)
                        · exact absurd c_191_17 (wt_ok_iff.mpr hra).1
                        · refine lv_iload hx hb dL_moved_194 (lv_at hl 0 rfl) ?_
                          refine lv_bipush (v := nI 9) hx hb dL_moved_196 (by decide +kernel) ?_
                          refine wt_icmp_leI (tgt := 203) hx hb dL_moved_198 (by decide) (fun c_198_18 => ?_) (fun c_198_18 => ?_)
                          · refine lv_iinc (v := nI (i + 1)) (lv' := [(8, .int (nI (i + 1))), (12, .int r9), (11, .int ((gh (12 + i)) - (ff (nt * 12 + i)))), (10, .int (ft (nt * 12 + i))), (9, .int (gh i)), (0, .ref h), (1, .int (nI w)), (2, .int (nI 10)), (3, .ref ka), (4, .ref ha), (5, .ref oa), (6, .ref aa), (7, .ref za)]) hx hb dL_moved_203 hl (k := 4) rfl (nI_1 i) (by decide) rfl (fun ls hl => ?_)
                            refine lv_goto (tgt := 3) hx hb dL_moved_206 (by decide) ?_
                            exact ih_3 (i + 1) _ (by omega) ⟨(by omega), lv_sub hl [0, 5, 6, 7, 8, 9, 10, 11, 12] rfl⟩
                          · exact absurd c_198_18 (wt_ok_iff.mpr hra).2
                      · refine lv_iload hx hb dL_moved_182 (lv_at hl 0 rfl) ?_
                        refine lv_iconst (v := (-1)) hx hb dL_moved_184 (by decide +kernel) ?_
                        refine wt_icmp_neI (tgt := 201) hx hb dL_moved_185 (by decide) (fun c_185_19 => ?_) (fun c_185_19 => ?_)
                        · exact absurd (hrb c_179_16) c_185_19
                        · refine lv_iload hx hb dL_moved_188 (lv_at hl 0 rfl) ?_
                          refine lv_iconst (v := (-1)) hx hb dL_moved_190 (by decide +kernel) ?_
                          refine wt_icmp_ltI (tgt := 201) hx hb dL_moved_191 (by decide) (fun c_191_20 => ?_) (fun c_191_20 => ?_)
                          · exact absurd c_191_20 (wt_ok_iff.mpr hra).1
                          · refine lv_iload hx hb dL_moved_194 (lv_at hl 0 rfl) ?_
                            refine lv_bipush (v := nI 9) hx hb dL_moved_196 (by decide +kernel) ?_
                            refine wt_icmp_leI (tgt := 203) hx hb dL_moved_198 (by decide) (fun c_198_21 => ?_) (fun c_198_21 => ?_)
                            · refine lv_iinc (v := nI (i + 1)) (lv' := [(8, .int (nI (i + 1))), (12, .int r9), (11, .int ((gh (12 + i)) - (ff (nt * 12 + i)))), (10, .int (ft (nt * 12 + i))), (9, .int (gh i)), (0, .ref h), (1, .int (nI w)), (2, .int (nI 10)), (3, .ref ka), (4, .ref ha), (5, .ref oa), (6, .ref aa), (7, .ref za)]) hx hb dL_moved_203 hl (k := 4) rfl (nI_1 i) (by decide) rfl (fun ls hl => ?_)
                              refine lv_goto (tgt := 3) hx hb dL_moved_206 (by decide) ?_
                              exact ih_3 (i + 1) _ (by omega) ⟨(by omega), lv_sub hl [0, 5, 6, 7, 8, 9, 10, 11, 12] rfl⟩
                            · exact absurd c_198_21 (wt_ok_iff.mpr hra).2
                    · exact absurd rfl c_155_15
                  · refine lv_iload hx hb dL_moved_103 (lv_at hl 1 rfl) ?_
                    refine lv_aload hx hb dL_moved_105 (lv_at hl 9 rfl) ?_
                    refine lv_iload hx hb dL_moved_107 (lv_at hl 3 rfl) ?_
                    refine wt_iald hx hb hK hP 14 rfl (by omega) (by omega) dL_moved_109 ?_
                    refine wt_icmp_neI (tgt := 139) hx hb dL_moved_110 (by decide) (fun c_110_22 => ?_) (fun c_110_22 => ?_)
                    · exact absurd (hv.2.2.2 c_93_6 c_100_14).1 c_110_22
                    · refine lv_aload hx hb dL_moved_113 (lv_at hl 11 rfl) ?_
                      refine lv_iload hx hb dL_moved_115 (lv_at hl 3 rfl) ?_
                      refine wt_iald hx hb hK hP 16 rfl (by omega) (by omega) dL_moved_117 ?_
                      refine wt_if_ltI (tgt := 139) hx hb dL_moved_118 (by decide) (fun c_118_23 => ?_) (fun c_118_23 => ?_)
                      · exact absurd c_118_23 (hv.2.2.2 c_93_6 c_100_14).2.1
                      · refine lv_iload_n hx hb dL_moved_121 rfl (lv_at hl 5 rfl) ?_
                        refine lv_iconst (v := nI 2) hx hb dL_moved_122 (by decide +kernel) ?_
                        refine wt_icmp_eq (tgt := 139) hx hb (by omega) (by omega) dL_moved_123 (by decide) (fun c_123_24 => ?_) (fun c_123_24 => ?_)
                        · exact absurd c_123_24 (hv.2.2.2 c_93_6 c_100_14).2.2.1
                        · refine lv_aload hx hb dL_moved_126 (lv_at hl 10 rfl) ?_
                          refine lv_iload hx hb dL_moved_128 (lv_at hl 2 rfl) ?_
                          refine va_iald hx hb hK hP 15 0 rfl rfl (hv.2.2.2 c_93_6 c_100_14).2.2.2.1 dL_moved_130 ?_
                          refine lv_iload hx hb dL_moved_131 (lv_at hl 1 rfl) ?_
                          refine lv_ishr hx hb dL_moved_133 ?_
                          refine lv_iconst (v := nI 1) hx hb dL_moved_134 (by decide +kernel) ?_
                          refine lv_iand hx hb dL_moved_135 ?_
                          refine wt_if_neI (tgt := 141) hx hb dL_moved_136 (by decide) (fun c_136_25 => ?_) (fun c_136_25 => ?_)
                          · refine lv_aload_n hx hb dL_moved_141 rfl (lv_at hl 4 rfl) ?_
                            refine lv_iload hx hb dL_moved_142 (lv_at hl 3 rfl) ?_
                            refine lv_aload_n hx hb dL_moved_144 rfl (lv_at hl 4 rfl) ?_
                            refine wt_ro_go (va_runV (As := []) (rest := [.int (nI i), .ref h]) ⟨hx, hb, hml, hown, hts⟩ (k_X3_played l dC dI cI h dp we se fd fw fe nt hm pv up fp fu nr hu sd tw st od fs ft ff fo cn hq) (cwV 0 hts gL_moved_X3_played rfl rfl rfl (by decide +kernel) ⟨Nat.le_of_ble_eq_true rfl, Nat.le_of_ble_eq_true rfl⟩) (wt_PV (C := RX3) (T := TX3) (N := 7) (ci := 3) (q0 := 0) hK hP hN rfl rfl [0, 1, 2, 3, 4, 5, 6, 7, 8, 9, 10, 11] rfl) rfl rfl hl.1 rfl (lv_room (Nat.le_of_ble_eq_true rfl)) dL_moved_145 ⟨Nat.zero_le _, Nat.zero_le _⟩) ?_
                            refine lv_iconst (v := nI 1) hx hb dL_moved_148 (by decide +kernel) ?_
                            refine wt_isub hx hb (by omega) dL_moved_149 ?_
                            refine wt_ro_go (va_runV (As := [.int (nI i), .int (nI (nt - 1))]) (rest := []) ⟨hx, hb, hml, hown, hts⟩ (k_X3_townAfterS l dC dI cI h dp we se fd fw fe nt hm pv up fp fu nr hu sd tw st od fs ft ff fo cn hq i (nt - 1) (by omega) (by omega) (by omega) (by omega)) (cwV 2 hts gL_moved_X3_townAfter rfl rfl rfl (by decide +kernel) ⟨Nat.le_of_ble_eq_true rfl, Nat.le_of_ble_eq_true rfl⟩) (wt_PV (C := RX3) (T := TX3) (N := 7) (ci := 3) (q0 := 0) hK hP hN rfl rfl [0, 1, 2, 3, 4, 5, 6, 7, 8, 9, 10, 11] rfl) rfl rfl hl.1 rfl (lv_room (Nat.le_of_ble_eq_true rfl)) dL_moved_150 ⟨Nat.zero_le _, Nat.zero_le _⟩) ?_
                            refine wt_top (y := ft (nt * 12 + i)) (by rw [show nt - 1 + 1 = nt by omega]) ?_
                            refine lv_iload hx hb dL_moved_153 (lv_at hl 1 rfl) ?_
                            refine wt_icmp_eqI (tgt := 160) hx hb dL_moved_155 (by decide) (fun c_155_26 => ?_) (fun c_155_26 => ?_)
                            · refine lv_aload_n hx hb dL_moved_160 rfl (lv_at hl 4 rfl) ?_
                              refine lv_iconst (v := nI 1) hx hb dL_moved_161 (by decide +kernel) ?_
                              refine lv_aload_n hx hb dL_moved_162 rfl (lv_at hl 7 rfl) ?_
                              refine lv_iload hx hb dL_moved_163 (lv_at hl 3 rfl) ?_
                              refine wt_iald hx hb hK hP 12 rfl (by omega) (by omega) dL_moved_165 ?_
                              refine lv_isub hx hb dL_moved_166 ?_
                              obtain ⟨d9, hd9l, hd9, hd9f⟩ := wt_opp (hfk i (by omega)) (hs i (by omega))
                              refine wt_top (y := nI d9) hd9 ?_
                              refine lv_iload hx hb dL_moved_167 (lv_at hl 3 rfl) ?_
                              refine wt_ro_go (va_runV (As := [.int (nI d9), .int (nI i)]) (rest := []) ⟨hx, hb, hml, hown, hts⟩ (k_X3_reportedA l dC dI cI h dp we se fd fw fe nt hm pv up fp fu nr hu sd tw st od fs ft ff fo cn hq d9 i (by omega) (by omega) (by omega) (by omega) hd9f) (cwV 2 hts gL_moved_X3_reported rfl rfl rfl (by decide +kernel) ⟨Nat.le_of_ble_eq_true rfl, Nat.le_of_ble_eq_true rfl⟩) (wt_PV (C := RX3) (T := TX3) (N := 7) (ci := 3) (q0 := 0) hK hP hN rfl rfl [0, 1, 2, 3, 4, 5, 6, 7, 8, 9, 10, 11] rfl) rfl rfl hl.1 rfl (lv_room (Nat.le_of_ble_eq_true rfl)) dL_moved_169 ⟨Nat.zero_le _, Nat.zero_le _⟩) ?_
                              have hra : wt_ok (wt_last (fun t => wt_has (fe t) (nI i)) (fun t => ft ((t + 1) * 12 + i)) (nt - 2)) := wt_last_ok (fun q hq9 => hall (q + 1) (by omega) i (by omega))
                              have hrb : nt < 3 → (wt_last (fun t => wt_has (fe t) (nI i)) (fun t => ft ((t + 1) * 12 + i)) (nt - 2)) = -1 := fun z => by rw [show nt - 2 = 0 by omega]; rfl
                              generalize hr9 : (wt_last (fun t => wt_has (fe t) (nI i)) (fun t => ft ((t + 1) * 12 + i)) (nt - 2)) = r9 at hra hrb
                              refine wt_top (y := r9) rfl ?_
                              refine lv_istore (lv' := [(12, .int r9), (11, .int ((gh (12 + i)) - (ff (nt * 12 + i)))), (10, .int (ft (nt * 12 + i))), (9, .int (gh i)), (8, .int (nI i)), (0, .ref h), (1, .int (nI w)), (2, .int (nI 10)), (3, .ref ka), (4, .ref ha), (5, .ref oa), (6, .ref aa), (7, .ref za)]) hx hb dL_moved_172 hl (by decide) rfl (fun ls hl => ?_)
                              refine lv_aload_n hx hb dL_moved_174 rfl (lv_at hl 5 rfl) ?_
                              refine wt_ro_go (va_runV (As := []) (rest := []) ⟨hx, hb, hml, hown, hts⟩ (k_X3_played l dC dI cI h dp we se fd fw fe nt hm pv up fp fu nr hu sd tw st od fs ft ff fo cn hq) (cwV 0 hts gL_moved_X3_played rfl rfl rfl (by decide +kernel) ⟨Nat.le_of_ble_eq_true rfl, Nat.le_of_ble_eq_true rfl⟩) (wt_PV (C := RX3) (T := TX3) (N := 7) (ci := 3) (q0 := 0) hK hP hN rfl rfl [0, 1, 2, 3, 4, 5, 6, 7, 8, 9, 10, 11] rfl) rfl rfl hl.1 rfl (lv_room (Nat.le_of_ble_eq_true rfl)) dL_moved_175 ⟨Nat.zero_le _, Nat.zero_le _⟩) ?_
                              refine lv_iconst (v := nI 3) hx hb dL_moved_178 (by decide +kernel) ?_
                              refine wt_icmp_ge (tgt := 188) hx hb (by omega) (by omega) dL_moved_179 (by decide) (fun c_179_27 => ?_) (fun c_179_27 => ?_)
                              · refine lv_iload hx hb dL_moved_188 (lv_at hl 0 rfl) ?_
                                refine lv_iconst (v := (-1)) hx hb dL_moved_190 (by decide +kernel) ?_
                                refine wt_icmp_ltI (tgt := 201) hx hb dL_moved_191 (by decide) (fun c_191_28 => ?_) (fun c_191_28 => ?_)
                                · exact absurd c_191_28 (wt_ok_iff.mpr hra).1
                                · refine lv_iload hx hb dL_moved_194 (lv_at hl 0 rfl) ?_
                                  refine lv_bipush (v := nI 9) hx hb dL_moved_196 (by decide +kernel) ?_
                                  refine wt_icmp_leI (tgt := 203) hx hb dL_moved_198 (by decide) (fun c_198_29 => ?_) (fun c_198_29 => ?_)
                                  · refine lv_iinc (v := nI (i + 1)) (lv' := [(8, .int (nI (i + 1))), (12, .int r9), (11, .int ((gh (12 + i)) - (ff (nt * 12 + i)))), (10, .int (ft (nt * 12 + i))), (9, .int (gh i)), (0, .ref h), (1, .int (nI w)), (2, .int (nI 10)), (3, .ref ka), (4, .ref ha), (5, .ref oa), (6, .ref aa), (7, .ref za)]) hx hb dL_moved_203 hl (k := 4) rfl (nI_1 i) (by decide) rfl (fun ls hl => ?_)
                                    refine lv_goto (tgt := 3) hx hb dL_moved_206 (by decide) ?_
                                    exact ih_3 (i + 1) _ (by omega) ⟨(by omega), lv_sub hl [0, 5, 6, 7, 8, 9, 10, 11, 12] rfl⟩
                                  · exact absurd c_198_29 (wt_ok_iff.mpr hra).2
                              · refine lv_iload hx hb dL_moved_182 (lv_at hl 0 rfl) ?_
                                refine lv_iconst (v := (-1)) hx hb dL_moved_184 (by decide +kernel) ?_
                                refine wt_icmp_neI (tgt := 201) hx hb dL_moved_185 (by decide) (fun c_185_30 => ?_) (fun c_185_30 => ?_)
                                · exact absurd (hrb c_179_27) c_185_30
                                · refine lv_iload hx hb dL_moved_188 (lv_at hl 0 rfl) ?_
                                  refine lv_iconst (v := (-1)) hx hb dL_moved_190 (by decide +kernel) ?_
                                  refine wt_icmp_ltI (tgt := 201) hx hb dL_moved_191 (by decide) (fun c_191_31 => ?_) (fun c_191_31 => ?_)
                                  · exact absurd c_191_31 (wt_ok_iff.mpr hra).1
                                  · refine lv_iload hx hb dL_moved_194 (lv_at hl 0 rfl) ?_
                                    refine lv_bipush (v := nI 9) hx hb dL_moved_196 (by decide +kernel) ?_
                                    refine wt_icmp_leI (tgt := 203) hx hb dL_moved_198 (by decide) (fun c_198_32 => ?_) (fun c_198_32 => ?_)
                                    · refine lv_iinc (v := nI (i + 1)) (lv' := [(8, .int (nI (i + 1))), (12, .int r9), (11, .int ((gh (12 + i)) - (ff (nt * 12 + i)))), (10, .int (ft (nt * 12 + i))), (9, .int (gh i)), (0, .ref h), (1, .int (nI w)), (2, .int (nI 10)), (3, .ref ka), (4, .ref ha), (5, .ref oa), (6, .ref aa), (7, .ref za)]) hx hb dL_moved_203 hl (k := 4) rfl (nI_1 i) (by decide) rfl (fun ls hl => ?_)
                                      refine lv_goto (tgt := 3) hx hb dL_moved_206 (by decide) ?_
                                      exact ih_3 (i + 1) _ (by omega) ⟨(by omega), lv_sub hl [0, 5, 6, 7, 8, 9, 10, 11, 12] rfl⟩
                                    · exact absurd c_198_32 (wt_ok_iff.mpr hra).2
                            · exact absurd rfl c_155_26
                          · exact absurd c_136_25 (hv.2.2.2 c_93_6 c_100_14).2.2.2.2
              · refine lv_iload hx hb dL_moved_84 (lv_at hl 1 rfl) ?_
                refine wt_if_ltI (tgt := 91) hx hb dL_moved_86 (by decide) (fun c_86_33 => ?_) (fun c_86_33 => ?_)
                · refine lv_iload hx hb dL_moved_91 (lv_at hl 1 rfl) ?_
                  refine wt_if_ltI (tgt := 141) hx hb dL_moved_93 (by decide) (fun c_93_34 => ?_) (fun c_93_34 => ?_)
                  · refine lv_aload_n hx hb dL_moved_141 rfl (lv_at hl 4 rfl) ?_
                    refine lv_iload hx hb dL_moved_142 (lv_at hl 3 rfl) ?_
                    refine lv_aload_n hx hb dL_moved_144 rfl (lv_at hl 4 rfl) ?_
                    refine wt_ro_go (va_runV (As := []) (rest := [.int (nI i), .ref h]) ⟨hx, hb, hml, hown, hts⟩ (k_X3_played l dC dI cI h dp we se fd fw fe nt hm pv up fp fu nr hu sd tw st od fs ft ff fo cn hq) (cwV 0 hts gL_moved_X3_played rfl rfl rfl (by decide +kernel) ⟨Nat.le_of_ble_eq_true rfl, Nat.le_of_ble_eq_true rfl⟩) (wt_PV (C := RX3) (T := TX3) (N := 7) (ci := 3) (q0 := 0) hK hP hN rfl rfl [0, 1, 2, 3, 4, 5, 6, 7, 8, 9, 10, 11] rfl) rfl rfl hl.1 rfl (lv_room (Nat.le_of_ble_eq_true rfl)) dL_moved_145 ⟨Nat.zero_le _, Nat.zero_le _⟩) ?_
                    refine lv_iconst (v := nI 1) hx hb dL_moved_148 (by decide +kernel) ?_
                    refine wt_isub hx hb (by omega) dL_moved_149 ?_
                    refine wt_ro_go (va_runV (As := [.int (nI i), .int (nI (nt - 1))]) (rest := []) ⟨hx, hb, hml, hown, hts⟩ (k_X3_townAfterS l dC dI cI h dp we se fd fw fe nt hm pv up fp fu nr hu sd tw st od fs ft ff fo cn hq i (nt - 1) (by omega) (by omega) (by omega) (by omega)) (cwV 2 hts gL_moved_X3_townAfter rfl rfl rfl (by decide +kernel) ⟨Nat.le_of_ble_eq_true rfl, Nat.le_of_ble_eq_true rfl⟩) (wt_PV (C := RX3) (T := TX3) (N := 7) (ci := 3) (q0 := 0) hK hP hN rfl rfl [0, 1, 2, 3, 4, 5, 6, 7, 8, 9, 10, 11] rfl) rfl rfl hl.1 rfl (lv_room (Nat.le_of_ble_eq_true rfl)) dL_moved_150 ⟨Nat.zero_le _, Nat.zero_le _⟩) ?_
                    refine wt_top (y := ft (nt * 12 + i)) (by rw [show nt - 1 + 1 = nt by omega]) ?_
                    refine lv_iload hx hb dL_moved_153 (lv_at hl 1 rfl) ?_
                    refine wt_icmp_eqI (tgt := 160) hx hb dL_moved_155 (by decide) (fun c_155_35 => ?_) (fun c_155_35 => ?_)
                    · refine lv_aload_n hx hb dL_moved_160 rfl (lv_at hl 4 rfl) ?_
                      refine lv_iconst (v := nI 1) hx hb dL_moved_161 (by decide +kernel) ?_
                      refine lv_aload_n hx hb dL_moved_162 rfl (lv_at hl 7 rfl) ?_
                      refine lv_iload hx hb dL_moved_163 (lv_at hl 3 rfl) ?_
                      refine wt_iald hx hb hK hP 12 rfl (by omega) (by omega) dL_moved_165 ?_
                      refine lv_isub hx hb dL_moved_166 ?_
                      obtain ⟨d9, hd9l, hd9, hd9f⟩ := wt_opp (hfk i (by omega)) (hs i (by omega))
                      refine wt_top (y := nI d9) hd9 ?_
                      refine lv_iload hx hb dL_moved_167 (lv_at hl 3 rfl) ?_
                      refine wt_ro_go (va_runV (As := [.int (nI d9), .int (nI i)]) (rest := []) ⟨hx, hb, hml, hown, hts⟩ (k_X3_reportedA l dC dI cI h dp we se fd fw fe nt hm pv up fp fu nr hu sd tw st od fs ft ff fo cn hq d9 i (by omega) (by omega) (by omega) (by omega) hd9f) (cwV 2 hts gL_moved_X3_reported rfl rfl rfl (by decide +kernel) ⟨Nat.le_of_ble_eq_true rfl, Nat.le_of_ble_eq_true rfl⟩) (wt_PV (C := RX3) (T := TX3) (N := 7) (ci := 3) (q0 := 0) hK hP hN rfl rfl [0, 1, 2, 3, 4, 5, 6, 7, 8, 9, 10, 11] rfl) rfl rfl hl.1 rfl (lv_room (Nat.le_of_ble_eq_true rfl)) dL_moved_169 ⟨Nat.zero_le _, Nat.zero_le _⟩) ?_
                      have hra : wt_ok (wt_last (fun t => wt_has (fe t) (nI i)) (fun t => ft ((t + 1) * 12 + i)) (nt - 2)) := wt_last_ok (fun q hq9 => hall (q + 1) (by omega) i (by omega))
                      have hrb : nt < 3 → (wt_last (fun t => wt_has (fe t) (nI i)) (fun t => ft ((t + 1) * 12 + i)) (nt - 2)) = -1 := fun z => by rw [show nt - 2 = 0 by omega]; rfl
                      generalize hr9 : (wt_last (fun t => wt_has (fe t) (nI i)) (fun t => ft ((t + 1) * 12 + i)) (nt - 2)) = r9 at hra hrb
                      refine wt_top (y := r9) rfl ?_
                      refine lv_istore (lv' := [(12, .int r9), (11, .int ((gh (12 + i)) - (ff (nt * 12 + i)))), (10, .int (ft (nt * 12 + i))), (9, .int (gh i)), (8, .int (nI i)), (0, .ref h), (1, .int (nI w)), (2, .int (nI 10)), (3, .ref ka), (4, .ref ha), (5, .ref oa), (6, .ref aa), (7, .ref za)]) hx hb dL_moved_172 hl (by decide) rfl (fun ls hl => ?_)
                      refine lv_aload_n hx hb dL_moved_174 rfl (lv_at hl 5 rfl) ?_
                      refine wt_ro_go (va_runV (As := []) (rest := []) ⟨hx, hb, hml, hown, hts⟩ (k_X3_played l dC dI cI h dp we se fd fw fe nt hm pv up fp fu nr hu sd tw st od fs ft ff fo cn hq) (cwV 0 hts gL_moved_X3_played rfl rfl rfl (by decide +kernel) ⟨Nat.le_of_ble_eq_true rfl, Nat.le_of_ble_eq_true rfl⟩) (wt_PV (C := RX3) (T := TX3) (N := 7) (ci := 3) (q0 := 0) hK hP hN rfl rfl [0, 1, 2, 3, 4, 5, 6, 7, 8, 9, 10, 11] rfl) rfl rfl hl.1 rfl (lv_room (Nat.le_of_ble_eq_true rfl)) dL_moved_175 ⟨Nat.zero_le _, Nat.zero_le _⟩) ?_
                      refine lv_iconst (v := nI 3) hx hb dL_moved_178 (by decide +kernel) ?_
                      refine wt_icmp_ge (tgt := 188) hx hb (by omega) (by omega) dL_moved_179 (by decide) (fun c_179_36 => ?_) (fun c_179_36 => ?_)
                      · refine lv_iload hx hb dL_moved_188 (lv_at hl 0 rfl) ?_
                        refine lv_iconst (v := (-1)) hx hb dL_moved_190 (by decide +kernel) ?_
                        refine wt_icmp_ltI (tgt := 201) hx hb dL_moved_191 (by decide) (fun c_191_37 => ?_) (fun c_191_37 => ?_)
                        · exact absurd c_191_37 (wt_ok_iff.mpr hra).1
                        · refine lv_iload hx hb dL_moved_194 (lv_at hl 0 rfl) ?_
                          refine lv_bipush (v := nI 9) hx hb dL_moved_196 (by decide +kernel) ?_
                          refine wt_icmp_leI (tgt := 203) hx hb dL_moved_198 (by decide) (fun c_198_38 => ?_) (fun c_198_38 => ?_)
                          · refine lv_iinc (v := nI (i + 1)) (lv' := [(8, .int (nI (i + 1))), (12, .int r9), (11, .int ((gh (12 + i)) - (ff (nt * 12 + i)))), (10, .int (ft (nt * 12 + i))), (9, .int (gh i)), (0, .ref h), (1, .int (nI w)), (2, .int (nI 10)), (3, .ref ka), (4, .ref ha), (5, .ref oa), (6, .ref aa), (7, .ref za)]) hx hb dL_moved_203 hl (k := 4) rfl (nI_1 i) (by decide) rfl (fun ls hl => ?_)
                            refine lv_goto (tgt := 3) hx hb dL_moved_206 (by decide) ?_
                            exact ih_3 (i + 1) _ (by omega) ⟨(by omega), lv_sub hl [0, 5, 6, 7, 8, 9, 10, 11, 12] rfl⟩
                          · exact absurd c_198_38 (wt_ok_iff.mpr hra).2
                      · refine lv_iload hx hb dL_moved_182 (lv_at hl 0 rfl) ?_
                        refine lv_iconst (v := (-1)) hx hb dL_moved_184 (by decide +kernel) ?_
                        refine wt_icmp_neI (tgt := 201) hx hb dL_moved_185 (by decide) (fun c_185_39 => ?_) (fun c_185_39 => ?_)
                        · exact absurd (hrb c_179_36) c_185_39
                        · refine lv_iload hx hb dL_moved_188 (lv_at hl 0 rfl) ?_
                          refine lv_iconst (v := (-1)) hx hb dL_moved_190 (by decide +kernel) ?_
                          refine wt_icmp_ltI (tgt := 201) hx hb dL_moved_191 (by decide) (fun c_191_40 => ?_) (fun c_191_40 => ?_)
                          · exact absurd c_191_40 (wt_ok_iff.mpr hra).1
                          · refine lv_iload hx hb dL_moved_194 (lv_at hl 0 rfl) ?_
                            refine lv_bipush (v := nI 9) hx hb dL_moved_196 (by decide +kernel) ?_
                            refine wt_icmp_leI (tgt := 203) hx hb dL_moved_198 (by decide) (fun c_198_41 => ?_) (fun c_198_41 => ?_)
                            · refine lv_iinc (v := nI (i + 1)) (lv' := [(8, .int (nI (i + 1))), (12, .int r9), (11, .int ((gh (12 + i)) - (ff (nt * 12 + i)))), (10, .int (ft (nt * 12 + i))), (9, .int (gh i)), (0, .ref h), (1, .int (nI w)), (2, .int (nI 10)), (3, .ref ka), (4, .ref ha), (5, .ref oa), (6, .ref aa), (7, .ref za)]) hx hb dL_moved_203 hl (k := 4) rfl (nI_1 i) (by decide) rfl (fun ls hl => ?_)
                              refine lv_goto (tgt := 3) hx hb dL_moved_206 (by decide) ?_
                              exact ih_3 (i + 1) _ (by omega) ⟨(by omega), lv_sub hl [0, 5, 6, 7, 8, 9, 10, 11, 12] rfl⟩
                            · exact absurd c_198_41 (wt_ok_iff.mpr hra).2
                    · exact absurd rfl c_155_35
                  · exact absurd c_86_33 c_93_34
                · exact absurd (hv.2.2.1 c_81_5) c_86_33
          · refine wt_if_neI (tgt := 75) hx hb dL_moved_68 (by decide) (fun c_68_42 => ?_) (fun c_68_42 => ?_)
            · refine lv_iconst (v := nI 0) hx hb dL_moved_75 (by decide +kernel) ?_
              exact j_76 _ (by first | exact wt_bt1 (by assumption) | exact wt_bf0 (by assumption))
            · refine lv_iconst (v := nI 1) hx hb dL_moved_71 (by decide +kernel) ?_
              refine lv_goto (tgt := 76) hx hb dL_moved_72 (by decide) ?_
              exact j_76 _ (by first | exact wt_bt1 (by assumption) | exact wt_bf0 (by assumption))
        · refine lv_iload hx hb dL_moved_52 (lv_at hl 1 rfl) ?_
          refine wt_if_geI (tgt := 61) hx hb dL_moved_54 (by decide) (fun c_54_43 => ?_) (fun c_54_43 => ?_)
          · refine lv_iconst (v := nI 0) hx hb dL_moved_61 (by decide +kernel) ?_
            exact j_62 _ (by first | exact wt_bt1 (by assumption) | exact wt_bf0 (by assumption))
          · refine lv_iconst (v := nI 1) hx hb dL_moved_57 (by decide +kernel) ?_
            refine lv_goto (tgt := 62) hx hb dL_moved_58 (by decide) ?_
            exact j_62 _ (by first | exact wt_bt1 (by assumption) | exact wt_bf0 (by assumption))
