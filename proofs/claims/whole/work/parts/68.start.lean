/-! The law's start, its loop, its end -/
theorem wt_str1 {b : Nat} {s : State} {k : Nat} {tx : String} (h1 : (Cond.stringRef RX3 k tx).before #[Value.ref b] s = true) (h2 : (Cond.exactly (.string RX3 k) "java/lang/String").before #[Value.ref b] s = true) : ∃ sa : Nat, vk_R RX3 k tx sa s := by
  obtain ⟨a, c, cA, kA, q1, -⟩ := Cond.exactly_spec (args := #[Value.ref b]) (first := s) (o := none) (s := s) (idx := []) (t := .string RX3 k) (cls := "java/lang/String") h2
  exact ⟨a, vk_R.of h1 q1⟩
theorem wt_and15 (x : Int32) : ∃ r : Nat, r < 16 ∧ x &&& nI 15 = nI r := by
  refine ⟨x.toBitVec.toNat % 16, Nat.mod_lt _ (by decide), ?_⟩
  apply Int32.toBitVec_inj.mp
  apply BitVec.eq_of_toNat_eq
  show (x.toBitVec &&& (nI 15).toBitVec).toNat = (BitVec.ofNat 32 (x.toBitVec.toNat % 16)).toNat
  rw [BitVec.toNat_and, show (nI 15).toBitVec.toNat = 2 ^ 4 - 1 by decide, Nat.and_two_pow_sub_one_eq_mod, BitVec.toNat_ofNat, Nat.mod_eq_of_lt (b := 2 ^ 32) (by have := Nat.mod_lt x.toBitVec.toNat (show 0 < 16 by decide); omega)]
theorem wt_neg4 {L it : Nat} (h : L < 4) (hi : 4 * it ≤ L) : (nI L - nI 4) < nI (4 * it) := by
  have e : it = 0 := by omega
  subst e
  have : L = 0 ∨ L = 1 ∨ L = 2 ∨ L = 3 := by omega
  rcases this with rfl | rfl | rfl | rfl <;> decide
set_option maxHeartbeats 8000000 in
set_option maxRecDepth 100000 in
theorem wt_LC_of {p : Program} {s : State} {m : MethodId} {meth : Method} {c : Code} {b L : Nat} {xs : Nat → Int32} (l : Launch) (hflags : l.flags = flags0) (hL : L ≤ 2048) (C0 : lw_At p s m meth c b L xs) : ∃ (dC : Nat → ClassId) (dI : Nat → Nat → Nat) (cI cL : ClassId), wt_LC p l s m meth c b L xs dC dI cI cL := by
  obtain ⟨hx, hb, hr, hml, hown, htb, hX, hbl, hlocks, hgv⟩ := id C0
  have hts : ∀ w ∈ wsL_law, w.before #[Value.ref b] s = true := fun w h => htb w (wsL_law_in w h)
  have ht1 : ∀ w ∈ tables_1, w.before #[Value.ref b] s = true := fun w h => htb w (List.mem_append_right _ h)
  have hfl := flat_of_before _ hgv
  have hA : ∀ a : Nat, a < s.heap.size → ¬ wt_LA s a := fun a h => wt_LA_b h
  obtain ⟨c0, i0, k0⟩ := u_known (C := RX0) (T := TX0) (N := 3) (n := 3) hts inlX0 (ht1 (.instantiable RX0 3) (List.mem_of_getElem? (i := 22) (by decide +kernel)))
  obtain ⟨c1, i1, k1⟩ := u_known (C := RX1) (T := TX1) (N := 3) (n := 3) hts inlX1 (ht1 (.instantiable RX1 3) (List.mem_of_getElem? (i := 61) (by decide +kernel)))
  obtain ⟨c2, i2, k2⟩ := u_known (C := RX2) (T := TX2) (N := 5) (n := 5) hts inlX2 (ht1 (.instantiable RX2 5) (List.mem_of_getElem? (i := 39) (by decide +kernel)))
  obtain ⟨c3, i3, k3⟩ := u_known (C := RX3) (T := TX3) (N := 7) (n := 7) hts inlX3 (ht1 (.instantiable RX3 7) (List.mem_of_getElem? (i := 14) (by decide +kernel)))
  obtain ⟨c4, i4, k4⟩ := u_known (C := RX4) (T := TX4) (N := 22) (n := 22) hts inlX4 (ht1 (.instantiable RX4 22) (List.mem_of_getElem? (i := 504) (by decide +kernel)))
  obtain ⟨cI, kI, oI, f1, f2, f3⟩ := Cond.arrayClass_spec (args := #[Value.ref b]) (first := s) (o := none) (s := s) (idx := []) (show (Cond.arrayClass .int).before #[Value.ref b] s = true from ht1 (.arrayClass .int) (List.mem_of_getElem? (i := 37) (by decide +kernel)))
  obtain ⟨cL, kL, oL, g1, g2, g3⟩ := Cond.arrayClass_spec (args := #[Value.ref b]) (first := s) (o := none) (s := s) (idx := []) (show (Cond.arrayClass .long).before #[Value.ref b] s = true from ht1 (.arrayClass .long) (List.mem_of_getElem? (i := 702) (by decide +kernel)))
  refine ⟨fun k => if k = 0 then c0 else if k = 1 then c1 else if k = 2 then c2 else if k = 3 then c3 else c4, fun k => if k = 0 then i0 else if k = 1 then i1 else if k = 2 then i2 else if k = 3 then i3 else i4, cI, cL, hx, hb, hml, hown, hts, hX, hbl, ⟨?_, ?_⟩, ?_, ⟨?_, ?_⟩, ⟨?_, ?_, ?_, ?_⟩, ?_, hL⟩
  · intro k q hq
    match k, hq with
    | 0, hq => cases hq; exact k0
    | 1, hq => cases hq; exact k1
    | 2, hq => cases hq; exact k2
    | 3, hq => cases hq; exact k3
    | 4, hq => cases hq; exact k4
    | k + 5, hq => simp [vwCl] at hq
  · intro k q hq
    match k, hq with
    | 0, hq => cases hq; exact ⟨fun n z => ⟨fun k h => (by cases h), kI, f2, oI, f3⟩, f1⟩
    | 1, hq => cases hq; exact ⟨fun n z => ⟨fun k h => (by cases h), kL, g2, oL, g3⟩, g1⟩
    | k + 2, hq => simp at hq
  · intro w hw
    simp only [wt_nsW, List.mem_cons, List.not_mem_nil, or_false] at hw
    rcases hw with rfl | rfl | rfl | rfl | rfl | rfl | rfl | rfl | rfl
    · exact va_Nw.of rfl (ht1 _ (List.mem_of_getElem? (i := 23) (by decide +kernel)))
    · exact va_Nw.of rfl (ht1 _ (List.mem_of_getElem? (i := 40) (by decide +kernel)))
    · exact va_Nw.of rfl (ht1 _ (List.mem_of_getElem? (i := 62) (by decide +kernel)))
    · exact va_Nw.of rfl (ht1 _ (List.mem_of_getElem? (i := 199) (by decide +kernel)))
    · exact va_Nw.of rfl (ht1 _ (List.mem_of_getElem? (i := 198) (by decide +kernel)))
    · exact va_Nw.of rfl (ht1 _ (List.mem_of_getElem? (i := 229) (by decide +kernel)))
    · exact va_Nw.of rfl (ht1 _ (List.mem_of_getElem? (i := 419) (by decide +kernel)))
    · exact va_Nw.of rfl (ht1 _ (List.mem_of_getElem? (i := 268) (by decide +kernel)))
    · exact va_Nw.of rfl (ht1 _ (List.mem_of_getElem? (i := 269) (by decide +kernel)))
  · exact vx_Zqof (ht1 _ (List.mem_of_getElem? (i := 149) (by decide +kernel))) (ht1 _ (List.mem_of_getElem? (i := 6) (by decide +kernel))) (hfl _ (List.mem_of_getElem? (i := 4) (by decide +kernel))) hA
  · exact vx_Zqof (ht1 _ (List.mem_of_getElem? (i := 151) (by decide +kernel))) (ht1 _ (List.mem_of_getElem? (i := 6) (by decide +kernel))) (hfl _ (List.mem_of_getElem? (i := 5) (by decide +kernel))) hA
  · intro q hq
    simp only [wt_strs, List.mem_cons, List.not_mem_nil, or_false] at hq
    rcases hq with rfl | rfl | rfl | rfl | rfl | rfl | rfl | rfl | rfl | rfl | rfl | rfl | rfl | rfl
    · exact wt_str1 (ht1 _ (List.mem_of_getElem? (i := 163) (by decide +kernel))) (hfl _ (List.mem_of_getElem? (i := 27) (by decide +kernel)))
    · exact wt_str1 (ht1 _ (List.mem_of_getElem? (i := 218) (by decide +kernel))) (hfl _ (List.mem_of_getElem? (i := 75) (by decide +kernel)))
    · exact wt_str1 (ht1 _ (List.mem_of_getElem? (i := 237) (by decide +kernel))) (hfl _ (List.mem_of_getElem? (i := 114) (by decide +kernel)))
    · exact wt_str1 (ht1 _ (List.mem_of_getElem? (i := 238) (by decide +kernel))) (hfl _ (List.mem_of_getElem? (i := 151) (by decide +kernel)))
    · exact wt_str1 (ht1 _ (List.mem_of_getElem? (i := 246) (by decide +kernel))) (hfl _ (List.mem_of_getElem? (i := 175) (by decide +kernel)))
    · exact wt_str1 (ht1 _ (List.mem_of_getElem? (i := 275) (by decide +kernel))) (hfl _ (List.mem_of_getElem? (i := 233) (by decide +kernel)))
    · exact wt_str1 (ht1 _ (List.mem_of_getElem? (i := 315) (by decide +kernel))) (hfl _ (List.mem_of_getElem? (i := 307) (by decide +kernel)))
    · exact wt_str1 (ht1 _ (List.mem_of_getElem? (i := 335) (by decide +kernel))) (hfl _ (List.mem_of_getElem? (i := 385) (by decide +kernel)))
    · exact wt_str1 (ht1 _ (List.mem_of_getElem? (i := 440) (by decide +kernel))) (hfl _ (List.mem_of_getElem? (i := 455) (by decide +kernel)))
    · exact wt_str1 (ht1 _ (List.mem_of_getElem? (i := 488) (by decide +kernel))) (hfl _ (List.mem_of_getElem? (i := 518) (by decide +kernel)))
    · exact wt_str1 (ht1 _ (List.mem_of_getElem? (i := 487) (by decide +kernel))) (hfl _ (List.mem_of_getElem? (i := 486) (by decide +kernel)))
    · exact wt_str1 (ht1 _ (List.mem_of_getElem? (i := 334) (by decide +kernel))) (hfl _ (List.mem_of_getElem? (i := 354) (by decide +kernel)))
    · exact wt_str1 (ht1 _ (List.mem_of_getElem? (i := 308) (by decide +kernel))) (hfl _ (List.mem_of_getElem? (i := 276) (by decide +kernel)))
    · exact wt_str1 (ht1 _ (List.mem_of_getElem? (i := 410) (by decide +kernel))) (hfl _ (List.mem_of_getElem? (i := 418) (by decide +kernel)))
  · intro x hx
    simp only [wt_xwD, List.mem_cons, List.not_mem_nil, or_false] at hx
    rcases hx with rfl | rfl | rfl
    · exact va_Nw.of rfl (ht1 _ (List.mem_of_getElem? (i := 126) (by decide +kernel)))
    · exact va_Nw.of rfl (ht1 _ (List.mem_of_getElem? (i := 128) (by decide +kernel)))
    · exact va_Nw.of rfl (ht1 _ (List.mem_of_getElem? (i := 130) (by decide +kernel)))
  · intro q hq
    simp only [wt_xwC, List.mem_cons, List.not_mem_nil, or_false] at hq
    rcases hq with rfl | rfl | rfl
    · exact va_Nw.of rfl (ht1 _ (List.mem_of_getElem? (i := 124) (by decide +kernel)))
    · exact va_Nw.of rfl (ht1 _ (List.mem_of_getElem? (i := 211) (by decide +kernel)))
    · exact va_Nw.of rfl (ht1 _ (List.mem_of_getElem? (i := 301) (by decide +kernel)))
  · intro q hq
    simp only [wt_xwN, List.mem_cons, List.not_mem_nil, or_false] at hq
    rcases hq with rfl | rfl | rfl
    · exact va_Nc.of (args := #[Value.ref b]) (hfl _ (List.mem_of_getElem? (i := 11) (by decide +kernel)))
    · exact va_Nc.of (args := #[Value.ref b]) (hfl _ (List.mem_of_getElem? (i := 25) (by decide +kernel)))
    · exact va_Nc.of (args := #[Value.ref b]) (hfl _ (List.mem_of_getElem? (i := 12) (by decide +kernel)))
  · show (!l.flags.contains noTraceFlag) = false
    rw [hflags]
    decide +kernel
set_option maxHeartbeats 8000000 in
set_option maxRecDepth 100000 in
theorem wt_loop {p : Program} {l : Launch} {e : Env} {s : State} {m : MethodId} {below : List Frame} {meth : Method} {c : Code} {Q : State → Prop} {b L : Nat} {xs : Nat → Int32} {dC : Nat → ClassId} {dI : Nat → Nat → Nat} {cI cL : ClassId} {ad : Nat → Nat} (C : wt_LC p l s m meth c b L xs dC dI cI cL)
    (kend : ∀ (ls : Array Slot) (H : Heap) (locs : List Loc) (cells slots : Nat), cells ≤ 1072 → slots ≤ 19407 → va_S (wt_LA s) s.heap H locs → W p l e room_1 s m #[Value.ref b] below meth c H locs cells slots Q (F0 m 1056 ls [])) :
    ∀ (n it : Nat) (H : Heap) (locs : List Loc) (ls : Array Slot) (cells slots : Nat), L + 4 ≤ 4 * (it + n) → 4 * it ≤ L → cells = 34 + it → slots = 11131 + 6 * it → lv_has ls 7 [(0, .ref b), (1, .ref (ad 0)), (2, .ref (ad 16)), (3, .ref (ad 15)), (4, .int (nI (4 * it)))] → wt_LI s dC dI cI cL ad it H locs → W p l e room_1 s m #[Value.ref b] below meth c H locs cells slots Q (F0 m 23 ls []) := by
  intro n
  induction n with
  | zero => intro it H locs ls cells slots h1 h2; omega
  | succ n ih =>
    intro it H locs ls cells slots h1 h2 hce hsl hl hI
    obtain ⟨hx, hb, hml, hown, hts, hX, hbl, hKL, hN, hZ, hXX, hfl, hL⟩ := id C
    have hI0 := hI
    obtain ⟨fd, fw, fe, nt, fp, fu, nr, fs, ft, ff, fo, cn, gt, gw, rc, f9, pa, de, si, to, sr, od, ne, mw, sn, ru, be, pl, mf, su, go, fa, xh, th, hP, hD, hS, hR⟩ := hI
    refine lv_iload hx hb dL_law_23 (lv_at hl 4 rfl) ?_
    refine lv_aload_n hx hb dL_law_25 rfl (lv_at hl 0 rfl) ?_
    refine va_slen hx hb hX hbl (wt_LA_b hbl) hS dL_law_26 ?_
    refine wt_top (y := nI L) rfl ?_
    refine lv_iconst (v := nI 4) hx hb dL_law_27 (by decide +kernel) ?_
    by_cases h4 : L < 4
    · refine lv_isub hx hb dL_law_28 ?_
      exact wt_icmp_gtI (tgt := 1056) hx hb dL_law_29 (by decide) (fun _ => kend ls H locs cells slots (by omega) (by omega) hS) (fun h => absurd (wt_neg4 h4 h2) h)
    · refine wt_isub hx hb (by omega) dL_law_28 ?_
      refine wt_icmp_gt (tgt := 1056) hx hb (by omega) (by omega) dL_law_29 (by decide) (fun _ => kend ls H locs cells slots (by omega) (by omega) hS) (fun h5 => ?_)
      refine lv_aload_n hx hb dL_law_32 rfl (lv_at hl 0 rfl) ?_
      refine lv_iload hx hb dL_law_33 (lv_at hl 4 rfl) ?_
      refine va_sld hx hb hX hbl (wt_LA_b hbl) hS (vp_in_nI (by omega) (by omega)) dL_law_35 ?_
      refine lv_bipush (v := nI 15) hx hb dL_law_36 (by decide +kernel) ?_
      refine lv_iand hx hb dL_law_38 ?_
      obtain ⟨r, hr16, er⟩ := wt_and15 (xs (nI (4 * it)).toNatClampNeg)
      refine wt_top er ?_
      have hi : 4 * it + 4 ≤ L := by omega
      have hit : it < 512 := by omega
      have hroom : cells + 1 ≤ room_1.cells ∧ slots + 6 ≤ room_1.slots := ⟨by show cells + 1 ≤ 1072; omega, by show slots + 6 ≤ 19407; omega⟩
      have kont : ∀ (ls : Array Slot) (H : Heap) (locs : List Loc), lv_has ls 7 [(0, .ref b), (1, .ref (ad 0)), (2, .ref (ad 16)), (3, .ref (ad 15)), (4, .int (nI (4 * it)))] → wt_LI s dC dI cI cL ad (it + 1) H locs → W p l e room_1 s m #[Value.ref b] below meth c H locs (cells + 1) (slots + 6) Q (F0 m 1050 ls []) := by
        intro ls H locs hl hI
        refine lv_iinc (v := nI (4 * (it + 1))) (lv' := [(4, .int (nI (4 * (it + 1)))), (0, .ref b), (1, .ref (ad 0)), (2, .ref (ad 16)), (3, .ref (ad 15))]) hx hb dL_law_1050 hl (k := 4) rfl (by rw [show Int32.ofInt 4 = nI 4 by decide, nI_add, show 4 * it + 4 = 4 * (it + 1) by omega]) (by decide) rfl (fun ls hl => ?_)
        refine lv_goto (tgt := 23) hx hb dL_law_1053 (by decide) ?_
        exact ih (it + 1) H locs ls _ _ (by omega) (by omega) (by omega) (by omega) (lv_sub hl [1, 2, 3, 4, 0] rfl) hI
      clear ih
      rcases (show r = 0 ∨ r = 1 ∨ r = 2 ∨ r = 3 ∨ r = 4 ∨ r = 5 ∨ r = 6 ∨ r = 7 ∨ r = 8 ∨ r = 9 ∨ r = 10 ∨ r = 11 ∨ r = 12 ∨ r = 13 ∨ r = 14 ∨ r = 15 by omega) with rfl | rfl | rfl | rfl | rfl | rfl | rfl | rfl | rfl | rfl | rfl | rfl | rfl | rfl | rfl | rfl
      · exact lv_tableIn (off := 77) (tgt := 116) hx hb dL_law_39 (by decide) (by decide) (by decide) (by decide) (q_addRoad C hi hit hI0 hl hroom kont)
      · exact lv_tableIn (off := 173) (tgt := 212) hx hb dL_law_39 (by decide) (by decide) (by decide) (by decide) (q_setDepot C hi hit hI0 hl hroom kont)
      · exact lv_tableIn (off := 241) (tgt := 280) hx hb dL_law_39 (by decide) (by decide) (by decide) (by decide) (q_addUnit C hi hit hI0 hl hroom kont)
      · exact lv_tableIn (off := 321) (tgt := 360) hx hb dL_law_39 (by decide) (by decide) (by decide) (by decide) (q_order C hi hit hI0 hl hroom kont)
      · exact lv_tableIn (off := 389) (tgt := 428) hx hb dL_law_39 (by decide) (by decide) (by decide) (by decide) (q_play C hi hit hI0 hl hroom kont)
      · exact lv_tableIn (off := 445) (tgt := 484) hx hb dL_law_39 (by decide) (by decide) (by decide) (by decide) (q_played C hi hit hI0 hl hroom kont)
      · exact lv_tableIn (off := 458) (tgt := 497) hx hb dL_law_39 (by decide) (by decide) (by decide) (by decide) (q_rule C hi hit hI0 hl hroom kont)
      · exact lv_tableIn (off := 526) (tgt := 565) hx hb dL_law_39 (by decide) (by decide) (by decide) (by decide) (q_appeal C hi hit hI0 hl hroom kont)
      · exact lv_tableIn (off := 570) (tgt := 609) hx hb dL_law_39 (by decide) (by decide) (by decide) (by decide) (q_townOf C hi hit hI0 hl hroom kont)
      · exact lv_tableIn (off := 626) (tgt := 665) hx hb dL_law_39 (by decide) (by decide) (by decide) (by decide) (q_strength C hi hit hI0 hl hroom kont)
      · exact lv_tableIn (off := 682) (tgt := 721) hx hb dL_law_39 (by decide) (by decide) (by decide) (by decide) (q_supply C hi hit hI0 hl hroom kont)
      · exact lv_tableIn (off := 750) (tgt := 789) hx hb dL_law_39 (by decide) (by decide) (by decide) (by decide) (q_townAfter C hi hit hI0 hl hroom kont)
      · exact lv_tableIn (off := 818) (tgt := 857) hx hb dL_law_39 (by decide) (by decide) (by decide) (by decide) (q_reported C hi hit hI0 hl hroom kont)
      · exact lv_tableIn (off := 886) (tgt := 925) hx hb dL_law_39 (by decide) (by decide) (by decide) (by decide) (q_force C hi hit hI0 hl hroom kont)
      · exact lv_tableIn (off := 942) (tgt := 981) hx hb dL_law_39 (by decide) (by decide) (by decide) (by decide) (q_weather C hi hit hI0 hl hroom kont)
      · exact lv_tableIn (off := 998) (tgt := 1037) hx hb dL_law_39 (by decide) (by decide) (by decide) (by decide) (q_rulings C hi hit hI0 hl hroom kont)
set_option maxHeartbeats 8000000 in
set_option maxRecDepth 100000 in
/-- YOUR PART: from the entry, for every script of at most 2048 ints, the law comes to its end with true ('hflags': the launch's flags, for a law that throws: no stack traces) -/
theorem whole_start {p : Program} {e : Env} {s : State} {m : MethodId} {below : List Frame} {meth : Method} {c : Code} (l : Launch) (hflags : l.flags = flags0) {b L : Nat} {xs : Nat → Int32} (hL : L ≤ 2048) (C0 : lw_At p s m meth c b L xs) : W p l e room_1 s m #[Value.ref b] below meth c s.heap [] 0 0 (lw_Z below #[Value.ref b] s) (entryFrame m ([Value.ref b] : List Value).toArray 7) := by
  obtain ⟨dC, dI, cI, cL, C⟩ := wt_LC_of l hflags hL C0
  obtain ⟨-, -, hr, -, -, htb, -, -, hlocks, -⟩ := id C0
  have ht1 : ∀ w ∈ tables_1, w.before #[Value.ref b] s = true := fun w h => htb w (List.mem_append_right _ h)
  obtain ⟨hx, hb, hml, hown, hts, hX, hbl, hKL, hN, hZ, hXX, hfl, -⟩ := id C
  have hK := hKL.sub (tys' := [(cI, .int)]) [0] rfl
  have hA : ∀ q : Nat, s.heap.size ≤ q → wt_LA s q := fun _ h => h
  have hS : va_S (wt_LA s) s.heap s.heap [] := va_S.rf
  have hP : va_P (dC, dI) vwCl [] s.heap := fun k q h => by simp at h
  have hD : va_D (wt_LA s) [] := ⟨fun i j p q h => by simp at h, fun k q h => by simp at h⟩
  have hl := lv_entry ([.ref b]) (n := 7) (Nat.le_of_ble_eq_true rfl)
  rw [lg_entry_eq]
  generalize (lg_sl ([.ref b]) ++ List.replicate (7 - (lg_sl ([.ref b])).length) Slot.unset).toArray = ls at hl ⊢
  have hl : lv_has ls 7 [(0, .ref b)] := hl
  refine va_new (ci := 3) (fs := [.null, .null, .null, .null, .null, .null, .int 0]) (C := RX3) (T := TX3) (N := 7) hx hb hts inlX3 tyX3 tyX3_ok hown (ht1 _ (List.mem_of_getElem? (i := 13) (by decide +kernel))) (ht1 (.instantiable RX3 7) (List.mem_of_getElem? (i := 14) (by decide +kernel))) (ht1 _ (List.mem_of_getElem? (i := 1) (by decide +kernel))) hK hP hD hS hA rfl (fun j hj => by rcases (show j = 0 ∨ j = 1 ∨ j = 2 ∨ j = 3 ∨ j = 4 ∨ j = 5 ∨ j = 6 by omega) with rfl | rfl | rfl | rfl | rfl | rfl | rfl <;> rfl) (Nat.le_of_ble_eq_true rfl) (Nat.le_of_ble_eq_true rfl) dL_law_0 (fun h H hP hD hS => ?_)
  have hP : va_P (dC, dI) vwCl [(h, .inr (3, [.null, .null, .null, .null, .null, .null, .int 0]))] H := hP
  have hD : va_D (wt_LA s) [(h, .inr (3, [.null, .null, .null, .null, .null, .null, .int 0]))] := hD
  refine W.widen (k := 1) (n := 7) (by omega) (by omega) ?_
  refine lv_dup hx hb dL_law_3 rfl ?_
  have hFc := va_free (wc := [(h, .inr (3, [.null, .null, .null, .null, .null, .null, .int 0]))]) hD hS hA [0] rfl
  refine va_callv (va_runI (As := []) (rest := [.ref h]) ⟨hx, hb, hml, hown, hts⟩ (k_X3_init l dC dI cI h H.size) (cwI 0 hts gL_law_X3_init rfl rfl rfl (ht1 _ (List.mem_of_getElem? (i := 1) (by decide +kernel))) (ht1 (.methodLink RL 62 yX3_init) (List.mem_of_getElem? (i := 15) (by decide +kernel))) (ht1 (.instanceMethod yX3_init) (List.mem_of_getElem? (i := 16) (by decide +kernel))) rfl (by decide +kernel) ⟨Nat.le_of_ble_eq_true rfl, Nat.le_of_ble_eq_true rfl⟩) (wt_PI hK hP hN hD [0] rfl rfl) rfl rfl hl.1 rfl (lv_room (Nat.le_of_ble_eq_true rfl)) dL_law_4 ⟨Nat.le_of_ble_eq_true rfl, Nat.le_of_ble_eq_true rfl⟩) hS (fun q _ h => hFc q h) hFc (fun u t9 H1 locs ht9 hvm9 hw9 hB9 hz9 hk9 hS => ?_)
  obtain ⟨dp, we, se, hm, pv, up, hu, sd, tw, st, od, hq, rt, rv, hP9, hD9⟩ := hB9
  rw [ht9] at hP9
  obtain ⟨hP, hD⟩ := va_join (wr := []) (w1 := [(h, .inr (3, [.ref hm, .ref dp, .ref hu, .ref we, .ref se, .ref hq, .int (nI 0)])), (dp, .inl (cI, 2, .inl (upd (fun _ => 0) 1 (nI 9)))), (we, .inl (cI, 20, .inl (fun _ => 0))), (se, .inl (cI, 20, .inl (fun _ => 0))), (hm, .inr (0, [.ref pv, .ref up, .int (nI 0)])), (pv, .inl (cI, 10, .inl (fun _ => 0))), (up, .inl (cI, 10, .inl (fun _ => 0))), (hu, .inr (2, [.ref sd, .ref tw, .ref st, .ref od, .int (nI 0)])), (sd, .inl (cI, 12, .inl (fun _ => 0))), (tw, .inl (cI, 264, .inl (fun _ => 0))), (st, .inl (cI, 264, .inl (fun _ => 0))), (od, .inl (cI, 264, .inl (fun _ => 0))), (hq, .inr (1, [.ref rt, .ref rv, .int (nI 0)])), (rt, .inl (cI, 512, .inl (fun _ => 0))), (rv, .inl (cI, 512, .inl (fun _ => 0)))]) hP hD [0] [] rfl rfl (by decide) (by decide) hk9 hFc hP9 hD9
  clear hFc hk9 hP9 hD9
  generalize H1 = H at hP hS hz9 ⊢
  have hP : va_P (dC, dI) vwCl [(h, .inr (3, [.ref hm, .ref dp, .ref hu, .ref we, .ref se, .ref hq, .int (nI 0)])), (dp, .inl (cI, 2, .inl (upd (fun _ => 0) 1 (nI 9)))), (we, .inl (cI, 20, .inl (fun _ => 0))), (se, .inl (cI, 20, .inl (fun _ => 0))), (hm, .inr (0, [.ref pv, .ref up, .int (nI 0)])), (pv, .inl (cI, 10, .inl (fun _ => 0))), (up, .inl (cI, 10, .inl (fun _ => 0))), (hu, .inr (2, [.ref sd, .ref tw, .ref st, .ref od, .int (nI 0)])), (sd, .inl (cI, 12, .inl (fun _ => 0))), (tw, .inl (cI, 264, .inl (fun _ => 0))), (st, .inl (cI, 264, .inl (fun _ => 0))), (od, .inl (cI, 264, .inl (fun _ => 0))), (hq, .inr (1, [.ref rt, .ref rv, .int (nI 0)])), (rt, .inl (cI, 512, .inl (fun _ => 0))), (rv, .inl (cI, 512, .inl (fun _ => 0)))] H := hP
  have hD : va_D (wt_LA s) [(h, .inr (3, [.ref hm, .ref dp, .ref hu, .ref we, .ref se, .ref hq, .int (nI 0)])), (dp, .inl (cI, 2, .inl (upd (fun _ => 0) 1 (nI 9)))), (we, .inl (cI, 20, .inl (fun _ => 0))), (se, .inl (cI, 20, .inl (fun _ => 0))), (hm, .inr (0, [.ref pv, .ref up, .int (nI 0)])), (pv, .inl (cI, 10, .inl (fun _ => 0))), (up, .inl (cI, 10, .inl (fun _ => 0))), (hu, .inr (2, [.ref sd, .ref tw, .ref st, .ref od, .int (nI 0)])), (sd, .inl (cI, 12, .inl (fun _ => 0))), (tw, .inl (cI, 264, .inl (fun _ => 0))), (st, .inl (cI, 264, .inl (fun _ => 0))), (od, .inl (cI, 264, .inl (fun _ => 0))), (hq, .inr (1, [.ref rt, .ref rv, .int (nI 0)])), (rt, .inl (cI, 512, .inl (fun _ => 0))), (rv, .inl (cI, 512, .inl (fun _ => 0)))] := hD
  refine W.widen (k := 15) (n := 1908) (by omega) (by omega) ?_
  refine lv_astore_n (lv' := [(1, .ref h), (0, .ref b)]) hx hb dL_law_7 rfl hl (by decide) rfl (fun ls hl => ?_)
  refine va_new (ci := 4) (fs := [.null, .int 0, .null, .null, .int 0, .null, .null, .null, .null, .null, .null, .int 0, .null, .null, .int 0, .null, .null, .null, .null, .null, .null, .int 0]) (C := RX4) (T := TX4) (N := 22) hx hb hts inlX4 tyX4 tyX4_ok hown (ht1 _ (List.mem_of_getElem? (i := 503) (by decide +kernel))) (ht1 (.instantiable RX4 22) (List.mem_of_getElem? (i := 504) (by decide +kernel))) (ht1 _ (List.mem_of_getElem? (i := 5) (by decide +kernel))) hK hP hD hS hA rfl (fun j hj => by rcases (show j = 0 ∨ j = 1 ∨ j = 2 ∨ j = 3 ∨ j = 4 ∨ j = 5 ∨ j = 6 ∨ j = 7 ∨ j = 8 ∨ j = 9 ∨ j = 10 ∨ j = 11 ∨ j = 12 ∨ j = 13 ∨ j = 14 ∨ j = 15 ∨ j = 16 ∨ j = 17 ∨ j = 18 ∨ j = 19 ∨ j = 20 ∨ j = 21 by omega) with rfl | rfl | rfl | rfl | rfl | rfl | rfl | rfl | rfl | rfl | rfl | rfl | rfl | rfl | rfl | rfl | rfl | rfl | rfl | rfl | rfl | rfl <;> rfl) (Nat.le_of_ble_eq_true rfl) (Nat.le_of_ble_eq_true rfl) dL_law_8 (fun mo H hP hD hS => ?_)
  have hP : va_P (dC, dI) vwCl [(h, .inr (3, [.ref hm, .ref dp, .ref hu, .ref we, .ref se, .ref hq, .int (nI 0)])), (dp, .inl (cI, 2, .inl (upd (fun _ => 0) 1 (nI 9)))), (we, .inl (cI, 20, .inl (fun _ => 0))), (se, .inl (cI, 20, .inl (fun _ => 0))), (hm, .inr (0, [.ref pv, .ref up, .int (nI 0)])), (pv, .inl (cI, 10, .inl (fun _ => 0))), (up, .inl (cI, 10, .inl (fun _ => 0))), (hu, .inr (2, [.ref sd, .ref tw, .ref st, .ref od, .int (nI 0)])), (sd, .inl (cI, 12, .inl (fun _ => 0))), (tw, .inl (cI, 264, .inl (fun _ => 0))), (st, .inl (cI, 264, .inl (fun _ => 0))), (od, .inl (cI, 264, .inl (fun _ => 0))), (hq, .inr (1, [.ref rt, .ref rv, .int (nI 0)])), (rt, .inl (cI, 512, .inl (fun _ => 0))), (rv, .inl (cI, 512, .inl (fun _ => 0))), (mo, .inr (4, [.null, .int 0, .null, .null, .int 0, .null, .null, .null, .null, .null, .null, .int 0, .null, .null, .int 0, .null, .null, .null, .null, .null, .null, .int 0]))] H := hP
  have hD : va_D (wt_LA s) [(h, .inr (3, [.ref hm, .ref dp, .ref hu, .ref we, .ref se, .ref hq, .int (nI 0)])), (dp, .inl (cI, 2, .inl (upd (fun _ => 0) 1 (nI 9)))), (we, .inl (cI, 20, .inl (fun _ => 0))), (se, .inl (cI, 20, .inl (fun _ => 0))), (hm, .inr (0, [.ref pv, .ref up, .int (nI 0)])), (pv, .inl (cI, 10, .inl (fun _ => 0))), (up, .inl (cI, 10, .inl (fun _ => 0))), (hu, .inr (2, [.ref sd, .ref tw, .ref st, .ref od, .int (nI 0)])), (sd, .inl (cI, 12, .inl (fun _ => 0))), (tw, .inl (cI, 264, .inl (fun _ => 0))), (st, .inl (cI, 264, .inl (fun _ => 0))), (od, .inl (cI, 264, .inl (fun _ => 0))), (hq, .inr (1, [.ref rt, .ref rv, .int (nI 0)])), (rt, .inl (cI, 512, .inl (fun _ => 0))), (rv, .inl (cI, 512, .inl (fun _ => 0))), (mo, .inr (4, [.null, .int 0, .null, .null, .int 0, .null, .null, .null, .null, .null, .null, .int 0, .null, .null, .int 0, .null, .null, .null, .null, .null, .null, .int 0]))] := hD
  refine W.widen (k := 16) (n := 1930) (by omega) (by omega) ?_
  refine lv_dup hx hb dL_law_11 rfl ?_
  have hFc := va_free (wc := [(mo, .inr (4, [.null, .int 0, .null, .null, .int 0, .null, .null, .null, .null, .null, .null, .int 0, .null, .null, .int 0, .null, .null, .null, .null, .null, .null, .int 0]))]) hD hS hA [15] rfl
  refine va_callv (va_runI (As := []) (rest := [.ref mo]) ⟨hx, hb, hml, hown, hts⟩ (k_X4_init l dC dI cI mo H.size) (cwI 0 hts gL_law_X4_init rfl rfl rfl (ht1 _ (List.mem_of_getElem? (i := 5) (by decide +kernel))) (ht1 (.methodLink RL 65 yX4_init) (List.mem_of_getElem? (i := 505) (by decide +kernel))) (ht1 (.instanceMethod yX4_init) (List.mem_of_getElem? (i := 506) (by decide +kernel))) rfl (by decide +kernel) ⟨Nat.le_of_ble_eq_true rfl, Nat.le_of_ble_eq_true rfl⟩) (wt_PI hK hP hN hD [15] rfl rfl) rfl rfl hl.1 rfl (lv_room (Nat.le_of_ble_eq_true rfl)) dL_law_12 ⟨Nat.le_of_ble_eq_true rfl, Nat.le_of_ble_eq_true rfl⟩) hS (fun q _ h => hFc q h) hFc (fun u t9 H1 locs ht9 hvm9 hw9 hB9 hz9 hk9 hS => ?_)
  obtain ⟨zpa, zde, zsi, zto, zsr, zod, zne, zmw, zsn, zru, zbe, zpl, zfo, zsu, zgo, zfa, zha, hP9, hD9⟩ := hB9
  rw [ht9] at hP9
  obtain ⟨hP, hD⟩ := va_join (wr := [(h, .inr (3, [.ref hm, .ref dp, .ref hu, .ref we, .ref se, .ref hq, .int (nI 0)])), (dp, .inl (cI, 2, .inl (upd (fun _ => 0) 1 (nI 9)))), (we, .inl (cI, 20, .inl (fun _ => 0))), (se, .inl (cI, 20, .inl (fun _ => 0))), (hm, .inr (0, [.ref pv, .ref up, .int (nI 0)])), (pv, .inl (cI, 10, .inl (fun _ => 0))), (up, .inl (cI, 10, .inl (fun _ => 0))), (hu, .inr (2, [.ref sd, .ref tw, .ref st, .ref od, .int (nI 0)])), (sd, .inl (cI, 12, .inl (fun _ => 0))), (tw, .inl (cI, 264, .inl (fun _ => 0))), (st, .inl (cI, 264, .inl (fun _ => 0))), (od, .inl (cI, 264, .inl (fun _ => 0))), (hq, .inr (1, [.ref rt, .ref rv, .int (nI 0)])), (rt, .inl (cI, 512, .inl (fun _ => 0))), (rv, .inl (cI, 512, .inl (fun _ => 0)))]) (w1 := [(mo, .inr (4, [.ref zpa, .int (nI 0), .ref zde, .ref zsi, .int (nI 0), .ref zto, .ref zsr, .ref zod, .ref zne, .ref zmw, .ref zsn, .int (nI 0), .ref zru, .ref zbe, .int (nI 0), .ref zpl, .ref zfo, .ref zsu, .ref zgo, .ref zfa, .ref zha, .int (nI 0)])), (zpa, .inl (cI, 100, .inl (fun _ => 0))), (zde, .inl (cI, 2, .inl (upd (fun _ => 0) 1 (nI 9)))), (zsi, .inl (cI, 12, .inl (fun _ => 0))), (zto, .inl (cI, 252, .inl (fun _ => 0))), (zsr, .inl (cI, 252, .inl (fun _ => 0))), (zod, .inl (cI, 240, .inl (fun _ => 0))), (zne, .inl (cI, 12, .inl (wt_fold wt_nx1 12 (fun _ => 0)))), (zmw, .inl (cI, 20, .inl (fun _ => 0))), (zsn, .inl (cI, 240, .inl (fun _ => 0))), (zru, .inl (cI, 4000, .inl (fun _ => 0))), (zbe, .inl (cI, 4000, .inl (fun _ => 0))), (zpl, .inl (cI, 12, .inl (fun _ => 0))), (zfo, .inl (cI, 12, .inl (fun _ => 0))), (zsu, .inl (cI, 12, .inl (fun _ => 0))), (zgo, .inl (cI, 12, .inl (fun _ => 0))), (zfa, .inl (cI, 10, .inl (fun _ => 0))), (zha, .inl (cI, 12, .inl (fun _ => 0)))]) hP hD [15] [0, 1, 2, 3, 4, 5, 6, 7, 8, 9, 10, 11, 12, 13, 14] rfl rfl (by decide) (by decide) hk9 hFc hP9 hD9
  clear hFc hk9 hP9 hD9
  generalize H1 = H at hP hS hz9 ⊢
  have hP : va_P (dC, dI) vwCl [(h, .inr (3, [.ref hm, .ref dp, .ref hu, .ref we, .ref se, .ref hq, .int (nI 0)])), (dp, .inl (cI, 2, .inl (upd (fun _ => 0) 1 (nI 9)))), (we, .inl (cI, 20, .inl (fun _ => 0))), (se, .inl (cI, 20, .inl (fun _ => 0))), (hm, .inr (0, [.ref pv, .ref up, .int (nI 0)])), (pv, .inl (cI, 10, .inl (fun _ => 0))), (up, .inl (cI, 10, .inl (fun _ => 0))), (hu, .inr (2, [.ref sd, .ref tw, .ref st, .ref od, .int (nI 0)])), (sd, .inl (cI, 12, .inl (fun _ => 0))), (tw, .inl (cI, 264, .inl (fun _ => 0))), (st, .inl (cI, 264, .inl (fun _ => 0))), (od, .inl (cI, 264, .inl (fun _ => 0))), (hq, .inr (1, [.ref rt, .ref rv, .int (nI 0)])), (rt, .inl (cI, 512, .inl (fun _ => 0))), (rv, .inl (cI, 512, .inl (fun _ => 0))), (mo, .inr (4, [.ref zpa, .int (nI 0), .ref zde, .ref zsi, .int (nI 0), .ref zto, .ref zsr, .ref zod, .ref zne, .ref zmw, .ref zsn, .int (nI 0), .ref zru, .ref zbe, .int (nI 0), .ref zpl, .ref zfo, .ref zsu, .ref zgo, .ref zfa, .ref zha, .int (nI 0)])), (zpa, .inl (cI, 100, .inl (fun _ => 0))), (zde, .inl (cI, 2, .inl (upd (fun _ => 0) 1 (nI 9)))), (zsi, .inl (cI, 12, .inl (fun _ => 0))), (zto, .inl (cI, 252, .inl (fun _ => 0))), (zsr, .inl (cI, 252, .inl (fun _ => 0))), (zod, .inl (cI, 240, .inl (fun _ => 0))), (zne, .inl (cI, 12, .inl (wt_fold wt_nx1 12 (fun _ => 0)))), (zmw, .inl (cI, 20, .inl (fun _ => 0))), (zsn, .inl (cI, 240, .inl (fun _ => 0))), (zru, .inl (cI, 4000, .inl (fun _ => 0))), (zbe, .inl (cI, 4000, .inl (fun _ => 0))), (zpl, .inl (cI, 12, .inl (fun _ => 0))), (zfo, .inl (cI, 12, .inl (fun _ => 0))), (zsu, .inl (cI, 12, .inl (fun _ => 0))), (zgo, .inl (cI, 12, .inl (fun _ => 0))), (zfa, .inl (cI, 10, .inl (fun _ => 0))), (zha, .inl (cI, 12, .inl (fun _ => 0)))] H := hP
  have hD : va_D (wt_LA s) [(h, .inr (3, [.ref hm, .ref dp, .ref hu, .ref we, .ref se, .ref hq, .int (nI 0)])), (dp, .inl (cI, 2, .inl (upd (fun _ => 0) 1 (nI 9)))), (we, .inl (cI, 20, .inl (fun _ => 0))), (se, .inl (cI, 20, .inl (fun _ => 0))), (hm, .inr (0, [.ref pv, .ref up, .int (nI 0)])), (pv, .inl (cI, 10, .inl (fun _ => 0))), (up, .inl (cI, 10, .inl (fun _ => 0))), (hu, .inr (2, [.ref sd, .ref tw, .ref st, .ref od, .int (nI 0)])), (sd, .inl (cI, 12, .inl (fun _ => 0))), (tw, .inl (cI, 264, .inl (fun _ => 0))), (st, .inl (cI, 264, .inl (fun _ => 0))), (od, .inl (cI, 264, .inl (fun _ => 0))), (hq, .inr (1, [.ref rt, .ref rv, .int (nI 0)])), (rt, .inl (cI, 512, .inl (fun _ => 0))), (rv, .inl (cI, 512, .inl (fun _ => 0))), (mo, .inr (4, [.ref zpa, .int (nI 0), .ref zde, .ref zsi, .int (nI 0), .ref zto, .ref zsr, .ref zod, .ref zne, .ref zmw, .ref zsn, .int (nI 0), .ref zru, .ref zbe, .int (nI 0), .ref zpl, .ref zfo, .ref zsu, .ref zgo, .ref zfa, .ref zha, .int (nI 0)])), (zpa, .inl (cI, 100, .inl (fun _ => 0))), (zde, .inl (cI, 2, .inl (upd (fun _ => 0) 1 (nI 9)))), (zsi, .inl (cI, 12, .inl (fun _ => 0))), (zto, .inl (cI, 252, .inl (fun _ => 0))), (zsr, .inl (cI, 252, .inl (fun _ => 0))), (zod, .inl (cI, 240, .inl (fun _ => 0))), (zne, .inl (cI, 12, .inl (wt_fold wt_nx1 12 (fun _ => 0)))), (zmw, .inl (cI, 20, .inl (fun _ => 0))), (zsn, .inl (cI, 240, .inl (fun _ => 0))), (zru, .inl (cI, 4000, .inl (fun _ => 0))), (zbe, .inl (cI, 4000, .inl (fun _ => 0))), (zpl, .inl (cI, 12, .inl (fun _ => 0))), (zfo, .inl (cI, 12, .inl (fun _ => 0))), (zsu, .inl (cI, 12, .inl (fun _ => 0))), (zgo, .inl (cI, 12, .inl (fun _ => 0))), (zfa, .inl (cI, 10, .inl (fun _ => 0))), (zha, .inl (cI, 12, .inl (fun _ => 0)))] := hD
  refine W.widen (k := 33) (n := 11130) (by omega) (by omega) ?_
  refine lv_astore_n (lv' := [(2, .ref mo), (1, .ref h), (0, .ref b)]) hx hb dL_law_15 rfl hl (by decide) rfl (fun ls hl => ?_)
  refine lv_iconst (v := nI 1) hx hb dL_law_16 (by decide +kernel) ?_
  refine va_newa (atype := .long) (ty := .long) (a0 := (1, .inr (.inl (fun _ => 0)))) (N' := 1) hx hb (ht1 (.arrayClass .long) (List.mem_of_getElem? (i := 702) (by decide +kernel))) rfl hKL hP hD hS hA (fun _ => rfl) (by decide) (by decide) (by decide) (Nat.le_of_ble_eq_true rfl) (Nat.le_of_ble_eq_true rfl) dL_law_17 (fun zo cA H hK1 hP hD hS => ?_)
  have e1 : s.vm.findClass "[J" = some cA := (hK1.2 2 (cA, .long) rfl).2
  have e2 : s.vm.findClass "[J" = some cL := (hKL.2 1 (cL, .long) rfl).2
  have e3 : cA = cL := Option.some.inj (e1.symm.trans e2)
  subst e3
  have hP : va_P (dC, dI) vwCl [(h, .inr (3, [.ref hm, .ref dp, .ref hu, .ref we, .ref se, .ref hq, .int (nI 0)])), (dp, .inl (cI, 2, .inl (upd (fun _ => 0) 1 (nI 9)))), (we, .inl (cI, 20, .inl (fun _ => 0))), (se, .inl (cI, 20, .inl (fun _ => 0))), (hm, .inr (0, [.ref pv, .ref up, .int (nI 0)])), (pv, .inl (cI, 10, .inl (fun _ => 0))), (up, .inl (cI, 10, .inl (fun _ => 0))), (hu, .inr (2, [.ref sd, .ref tw, .ref st, .ref od, .int (nI 0)])), (sd, .inl (cI, 12, .inl (fun _ => 0))), (tw, .inl (cI, 264, .inl (fun _ => 0))), (st, .inl (cI, 264, .inl (fun _ => 0))), (od, .inl (cI, 264, .inl (fun _ => 0))), (hq, .inr (1, [.ref rt, .ref rv, .int (nI 0)])), (rt, .inl (cI, 512, .inl (fun _ => 0))), (rv, .inl (cI, 512, .inl (fun _ => 0))), (mo, .inr (4, [.ref zpa, .int (nI 0), .ref zde, .ref zsi, .int (nI 0), .ref zto, .ref zsr, .ref zod, .ref zne, .ref zmw, .ref zsn, .int (nI 0), .ref zru, .ref zbe, .int (nI 0), .ref zpl, .ref zfo, .ref zsu, .ref zgo, .ref zfa, .ref zha, .int (nI 0)])), (zpa, .inl (cI, 100, .inl (fun _ => 0))), (zde, .inl (cI, 2, .inl (upd (fun _ => 0) 1 (nI 9)))), (zsi, .inl (cI, 12, .inl (fun _ => 0))), (zto, .inl (cI, 252, .inl (fun _ => 0))), (zsr, .inl (cI, 252, .inl (fun _ => 0))), (zod, .inl (cI, 240, .inl (fun _ => 0))), (zne, .inl (cI, 12, .inl (wt_fold wt_nx1 12 (fun _ => 0)))), (zmw, .inl (cI, 20, .inl (fun _ => 0))), (zsn, .inl (cI, 240, .inl (fun _ => 0))), (zru, .inl (cI, 4000, .inl (fun _ => 0))), (zbe, .inl (cI, 4000, .inl (fun _ => 0))), (zpl, .inl (cI, 12, .inl (fun _ => 0))), (zfo, .inl (cI, 12, .inl (fun _ => 0))), (zsu, .inl (cI, 12, .inl (fun _ => 0))), (zgo, .inl (cI, 12, .inl (fun _ => 0))), (zfa, .inl (cI, 10, .inl (fun _ => 0))), (zha, .inl (cI, 12, .inl (fun _ => 0))), (zo, .inl (cA, 1, .inr (.inl (fun _ => 0))))] H := hP
  have hD : va_D (wt_LA s) [(h, .inr (3, [.ref hm, .ref dp, .ref hu, .ref we, .ref se, .ref hq, .int (nI 0)])), (dp, .inl (cI, 2, .inl (upd (fun _ => 0) 1 (nI 9)))), (we, .inl (cI, 20, .inl (fun _ => 0))), (se, .inl (cI, 20, .inl (fun _ => 0))), (hm, .inr (0, [.ref pv, .ref up, .int (nI 0)])), (pv, .inl (cI, 10, .inl (fun _ => 0))), (up, .inl (cI, 10, .inl (fun _ => 0))), (hu, .inr (2, [.ref sd, .ref tw, .ref st, .ref od, .int (nI 0)])), (sd, .inl (cI, 12, .inl (fun _ => 0))), (tw, .inl (cI, 264, .inl (fun _ => 0))), (st, .inl (cI, 264, .inl (fun _ => 0))), (od, .inl (cI, 264, .inl (fun _ => 0))), (hq, .inr (1, [.ref rt, .ref rv, .int (nI 0)])), (rt, .inl (cI, 512, .inl (fun _ => 0))), (rv, .inl (cI, 512, .inl (fun _ => 0))), (mo, .inr (4, [.ref zpa, .int (nI 0), .ref zde, .ref zsi, .int (nI 0), .ref zto, .ref zsr, .ref zod, .ref zne, .ref zmw, .ref zsn, .int (nI 0), .ref zru, .ref zbe, .int (nI 0), .ref zpl, .ref zfo, .ref zsu, .ref zgo, .ref zfa, .ref zha, .int (nI 0)])), (zpa, .inl (cI, 100, .inl (fun _ => 0))), (zde, .inl (cI, 2, .inl (upd (fun _ => 0) 1 (nI 9)))), (zsi, .inl (cI, 12, .inl (fun _ => 0))), (zto, .inl (cI, 252, .inl (fun _ => 0))), (zsr, .inl (cI, 252, .inl (fun _ => 0))), (zod, .inl (cI, 240, .inl (fun _ => 0))), (zne, .inl (cI, 12, .inl (wt_fold wt_nx1 12 (fun _ => 0)))), (zmw, .inl (cI, 20, .inl (fun _ => 0))), (zsn, .inl (cI, 240, .inl (fun _ => 0))), (zru, .inl (cI, 4000, .inl (fun _ => 0))), (zbe, .inl (cI, 4000, .inl (fun _ => 0))), (zpl, .inl (cI, 12, .inl (fun _ => 0))), (zfo, .inl (cI, 12, .inl (fun _ => 0))), (zsu, .inl (cI, 12, .inl (fun _ => 0))), (zgo, .inl (cI, 12, .inl (fun _ => 0))), (zfa, .inl (cI, 10, .inl (fun _ => 0))), (zha, .inl (cI, 12, .inl (fun _ => 0))), (zo, .inl (cA, 1, .inr (.inl (fun _ => 0))))] := hD
  refine W.widen (k := 34) (n := 11131) (by omega) (by omega) ?_
  refine lv_astore_n (lv' := [(3, .ref zo), (2, .ref mo), (1, .ref h), (0, .ref b)]) hx hb dL_law_19 rfl hl (by decide) rfl (fun ls hl => ?_)
  refine lv_iconst (v := nI 0) hx hb dL_law_20 (by decide +kernel) ?_
  refine lv_istore (lv' := [(4, .int (nI 0)), (3, .ref zo), (2, .ref mo), (1, .ref h), (0, .ref b)]) hx hb dL_law_21 hl (by decide) rfl (fun ls hl => ?_)
  obtain ⟨ad, had⟩ : ∃ ad : Nat → Nat, ad = (fun k => ([h, dp, we, se, hm, pv, up, hu, sd, tw, st, od, hq, rt, rv, zo, mo, zpa, zde, zsi, zto, zsr, zod, zne, zmw, zsn, zru, zbe, zpl, zfo, zsu, zgo, zfa, zha] : List Nat).getD k 0) := ⟨_, rfl⟩
  have hP : va_P (dC, dI) vwCl [(h, .inr (3, [.ref hm, .ref dp, .ref hu, .ref we, .ref se, .ref hq, .int (nI 0)])), (dp, .inl (cI, 2, .inl (upd (fun _ => 0) 1 (nI 9)))), (we, .inl (cI, 20, .inl (fun _ => 0))), (se, .inl (cI, 20, .inl (fun _ => 0))), (hm, .inr (0, [.ref pv, .ref up, .int (nI 0)])), (pv, .inl (cI, 10, .inl (fun _ => 0))), (up, .inl (cI, 10, .inl (fun _ => 0))), (hu, .inr (2, [.ref sd, .ref tw, .ref st, .ref od, .int (nI 0)])), (sd, .inl (cI, 12, .inl (fun _ => 0))), (tw, .inl (cI, 264, .inl (fun _ => 0))), (st, .inl (cI, 264, .inl (fun _ => 0))), (od, .inl (cI, 264, .inl (fun _ => 0))), (hq, .inr (1, [.ref rt, .ref rv, .int (nI 0)])), (rt, .inl (cI, 512, .inl (fun _ => 0))), (rv, .inl (cI, 512, .inl (fun _ => 0))), (zo, .inl (cA, 1, .inr (.inl (fun _ => 0)))), (mo, .inr (4, [.ref zpa, .int (nI 0), .ref zde, .ref zsi, .int (nI 0), .ref zto, .ref zsr, .ref zod, .ref zne, .ref zmw, .ref zsn, .int (nI 0), .ref zru, .ref zbe, .int (nI 0), .ref zpl, .ref zfo, .ref zsu, .ref zgo, .ref zfa, .ref zha, .int (nI 0)])), (zpa, .inl (cI, 100, .inl (fun _ => 0))), (zde, .inl (cI, 2, .inl (upd (fun _ => 0) 1 (nI 9)))), (zsi, .inl (cI, 12, .inl (fun _ => 0))), (zto, .inl (cI, 252, .inl (fun _ => 0))), (zsr, .inl (cI, 252, .inl (fun _ => 0))), (zod, .inl (cI, 240, .inl (fun _ => 0))), (zne, .inl (cI, 12, .inl (wt_fold wt_nx1 12 (fun _ => 0)))), (zmw, .inl (cI, 20, .inl (fun _ => 0))), (zsn, .inl (cI, 240, .inl (fun _ => 0))), (zru, .inl (cI, 4000, .inl (fun _ => 0))), (zbe, .inl (cI, 4000, .inl (fun _ => 0))), (zpl, .inl (cI, 12, .inl (fun _ => 0))), (zfo, .inl (cI, 12, .inl (fun _ => 0))), (zsu, .inl (cI, 12, .inl (fun _ => 0))), (zgo, .inl (cI, 12, .inl (fun _ => 0))), (zfa, .inl (cI, 10, .inl (fun _ => 0))), (zha, .inl (cI, 12, .inl (fun _ => 0)))] H := hP.sub [0, 1, 2, 3, 4, 5, 6, 7, 8, 9, 10, 11, 12, 13, 14, 33, 15, 16, 17, 18, 19, 20, 21, 22, 23, 24, 25, 26, 27, 28, 29, 30, 31, 32] rfl
  have hD : va_D (wt_LA s) [(h, .inr (3, [.ref hm, .ref dp, .ref hu, .ref we, .ref se, .ref hq, .int (nI 0)])), (dp, .inl (cI, 2, .inl (upd (fun _ => 0) 1 (nI 9)))), (we, .inl (cI, 20, .inl (fun _ => 0))), (se, .inl (cI, 20, .inl (fun _ => 0))), (hm, .inr (0, [.ref pv, .ref up, .int (nI 0)])), (pv, .inl (cI, 10, .inl (fun _ => 0))), (up, .inl (cI, 10, .inl (fun _ => 0))), (hu, .inr (2, [.ref sd, .ref tw, .ref st, .ref od, .int (nI 0)])), (sd, .inl (cI, 12, .inl (fun _ => 0))), (tw, .inl (cI, 264, .inl (fun _ => 0))), (st, .inl (cI, 264, .inl (fun _ => 0))), (od, .inl (cI, 264, .inl (fun _ => 0))), (hq, .inr (1, [.ref rt, .ref rv, .int (nI 0)])), (rt, .inl (cI, 512, .inl (fun _ => 0))), (rv, .inl (cI, 512, .inl (fun _ => 0))), (zo, .inl (cA, 1, .inr (.inl (fun _ => 0)))), (mo, .inr (4, [.ref zpa, .int (nI 0), .ref zde, .ref zsi, .int (nI 0), .ref zto, .ref zsr, .ref zod, .ref zne, .ref zmw, .ref zsn, .int (nI 0), .ref zru, .ref zbe, .int (nI 0), .ref zpl, .ref zfo, .ref zsu, .ref zgo, .ref zfa, .ref zha, .int (nI 0)])), (zpa, .inl (cI, 100, .inl (fun _ => 0))), (zde, .inl (cI, 2, .inl (upd (fun _ => 0) 1 (nI 9)))), (zsi, .inl (cI, 12, .inl (fun _ => 0))), (zto, .inl (cI, 252, .inl (fun _ => 0))), (zsr, .inl (cI, 252, .inl (fun _ => 0))), (zod, .inl (cI, 240, .inl (fun _ => 0))), (zne, .inl (cI, 12, .inl (wt_fold wt_nx1 12 (fun _ => 0)))), (zmw, .inl (cI, 20, .inl (fun _ => 0))), (zsn, .inl (cI, 240, .inl (fun _ => 0))), (zru, .inl (cI, 4000, .inl (fun _ => 0))), (zbe, .inl (cI, 4000, .inl (fun _ => 0))), (zpl, .inl (cI, 12, .inl (fun _ => 0))), (zfo, .inl (cI, 12, .inl (fun _ => 0))), (zsu, .inl (cI, 12, .inl (fun _ => 0))), (zgo, .inl (cI, 12, .inl (fun _ => 0))), (zfa, .inl (cI, 10, .inl (fun _ => 0))), (zha, .inl (cI, 12, .inl (fun _ => 0)))] := hD.sub [0, 1, 2, 3, 4, 5, 6, 7, 8, 9, 10, 11, 12, 13, 14, 33, 15, 16, 17, 18, 19, 20, 21, 22, 23, 24, 25, 26, 27, 28, 29, 30, 31, 32] rfl rfl
  have hI : wt_LI s dC dI cI cA ad 0 H locs := by
    rw [had]
    exact ⟨(upd (fun _ => 0) 1 (nI 9)), (fun _ => 0), (fun _ => 0), 0, (fun _ => 0), (fun _ => 0), 0, (fun _ => 0), (fun _ => 0), (fun _ => 0), (fun _ => 0), 0, (fun _ => 0), (fun _ => 0), 0, (fun _ => 0), (fun _ => 0), (upd (fun _ => 0) 1 (nI 9)), (fun _ => 0), (fun _ => 0), (fun _ => 0), (fun _ => 0), (wt_fold wt_nx1 12 (fun _ => 0)), (fun _ => 0), (fun _ => 0), (fun _ => 0), (fun _ => 0), (fun _ => 0), (fun _ => 0), (fun _ => 0), (fun _ => 0), (fun _ => 0), (fun _ => 0), (nI 0), hP, hD, hS, wt_R_0⟩
  have hl : lv_has ls 7 [(0, .ref b), (1, .ref (ad 0)), (2, .ref (ad 16)), (3, .ref (ad 15)), (4, .int (nI (4 * 0)))] := by
    rw [had]
    exact lv_sub hl [4, 3, 2, 1, 0] rfl
  exact wt_loop C (fun ls H locs cells slots hc hsl hS => by
    refine lv_iconst (v := 1) hx hb dL_law_1056 (by decide +kernel) ?_
    refine va_forget hS.2.2 ?_
    refine W.widen (k := 1072) (n := 19407) hc hsl ?_
    exact lw_ret hx hb hr hlocks dL_law_1057) (L + 1) 0 H locs ls _ _ (by omega) (by omega) rfl rfl hl hI
