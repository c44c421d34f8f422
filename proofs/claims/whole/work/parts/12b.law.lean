/-! THE LAW: its loop -/
set_option maxHeartbeats 4000000 in
theorem law_step {pp : Program} {ee : Env} {sx : State} {mm : MethodId} {bb : List Frame} {me : Method} {cd : Code} {AA : Nat → Prop} {Q9 : State → Prop} {H : Heap} {locs : List Loc} {ls : Array Slot} (l : Launch) (hfl : l.stackTraces = false) (E : kE) (L : Nat) (i : Nat) (cc : Nat) (ss : Nat) (d0 : Nat) (m0 : Nat) (o0 : Nat) (sb : Nat) (xs : Nat → Int32) (C0 : CallFix pp mm cd cL_law 9 sx #[Value.ref sb] wsL_law RL) (hX : va_X sb L xs sx sx.heap) (hbl : sb < sx.heap.size) (hbA : ¬ AA sb) (hZ : kZ AA sx) (hL : L ≤ 2048) (hi : 4 * i ≤ L + 3) (hcc : cc + 1 ≤ 601024 ∧ ss + 6 ≤ 7293034)
    (hend : ∀ (H : Heap) (locs : List Loc) (ls : Array Slot), va_S AA sx.heap H locs → ls.size = 9 → W pp l ee room_1 sx mm #[Value.ref sb] bb me cd H locs cc ss Q9 (F0 mm 1509 ls []))
    (K23 : 4 * i + 3 < L → ∀ (H : Heap) (locs : List Loc) (ls : Array Slot), lwS E AA sx d0 m0 o0 (i + 1) H locs → lv_has ls 9 [(0, .ref sb), (1, .ref d0), (2, .ref m0), (3, .ref o0), (4, .int (nI (4 * (i + 1))))] → W pp l ee room_1 sx mm #[Value.ref sb] bb me cd H locs (cc + 1) (ss + 6) Q9 (F0 mm 23 ls []))
    (hl : lv_has ls 9 [(0, .ref sb), (1, .ref d0), (2, .ref m0), (3, .ref o0), (4, .int (nI (4 * i)))]) (hS : lwS E AA sx d0 m0 o0 i H locs) : W pp l ee room_1 sx mm #[Value.ref sb] bb me cd H locs cc ss Q9 (F0 mm 23 ls []) := by
  obtain ⟨hx, hb, hml, hown, hts⟩ := id C0
  have hSS : va_S AA sx.heap H locs := by
    refine lwS_elim hS (fun q1 q2 a e m t q n b G o k9 h w d n0 hp z st he ke tu ca tr co la R1 C1 wd1 s1 z1 st1 he1 ke1 tu1 ca1 tr1 co1 la1 dn sz sm qu f0 by0 m9 r9 c9 A0 V0 Z0 D0 W0 T0 th pl hz tw tc V Y D Q f hinv hw => ?_)
    exact hw.2.2.2.1
  refine lv_iload hx hb dL_law_23 (lv_at hl 4 rfl) ?_
  refine lv_aload_n hx hb dL_law_25 rfl (lv_at hl 0 rfl) ?_
  refine va_slen hx hb hX hbl hbA hSS dL_law_26 ?_
  refine lv_iconst (v := 4) hx hb dL_law_27 (by decide) ?_
  refine lv_isub hx hb dL_law_28 ?_
  refine lv_icmp_gt (tgt := 1509) hx hb dL_law_29 (by decide) (fun c29 => ?_) (fun c29 => ?_)
  · exact hend H locs ls hSS hl.1
  have hiL : 4 * i + 3 < L := by
    refine Classical.byContradiction fun h9 => c29 ?_
    show nI L - nI 4 < nI (4 * i)
    rw [Int32.lt_iff_toInt_lt, pk_sub_toInt (by omega) (by omega), nI_toInt (by omega)]
    omega
  have K : ∀ (H : Heap) (locs : List Loc) (ls : Array Slot), lwS E AA sx d0 m0 o0 (i + 1) H locs → lv_has ls 9 [(0, .ref sb), (1, .ref d0), (2, .ref m0), (3, .ref o0), (4, .int (nI (4 * i)))] → W pp l ee room_1 sx mm #[Value.ref sb] bb me cd H locs (cc + 1) (ss + 6) Q9 (F0 mm 1503 ls []) := by
    intro H locs ls hS hl
    refine lv_iinc (v := nI (4 * (i + 1))) (lv' := [(4, .int (nI (4 * (i + 1)))), (0, .ref sb), (1, .ref d0), (2, .ref m0), (3, .ref o0)]) hx hb dL_law_1503 hl (k := 4) rfl (nI_add (4 * i) 4) (by decide) rfl (fun ls hl => ?_)
    refine lv_goto (tgt := 23) hx hb dL_law_1506 (by decide) ?_
    exact K23 hiL H locs ls hS (lv_sub hl [1, 2, 3, 4, 0] rfl)
  refine lv_aload_n hx hb dL_law_32 rfl (lv_at hl 0 rfl) ?_
  refine lv_iload hx hb dL_law_33 (lv_at hl 4 rfl) ?_
  refine va_sld hx hb hX hbl hbA hSS (i := nI (4 * i)) (kinN (by omega) (by omega)) dL_law_35 ?_
  refine lv_bipush (v := 31) hx hb dL_law_36 (by decide) ?_
  refine lv_iand hx hb dL_law_38 ?_
  obtain ⟨j, hj, ej⟩ := pk_andE (xs (Int32.toNatClampNeg (nI (4 * i)))) (m := 31) 5 rfl
  refine W.eq (g2 := F0 mm 39 ls [.int (nI j)]) (by rw [ej]) ?_
  rcases Nat.lt_or_ge j 26 with hj6 | hj6
  · rcases (show j = 0 ∨ j = 1 ∨ j = 2 ∨ j = 3 ∨ j = 4 ∨ j = 5 ∨ j = 6 ∨ j = 7 ∨ j = 8 ∨ j = 9 ∨ j = 10 ∨ j = 11 ∨ j = 12 ∨ j = 13 ∨ j = 14 ∨ j = 15 ∨ j = 16 ∨ j = 17 ∨ j = 18 ∨ j = 19 ∨ j = 20 ∨ j = 21 ∨ j = 22 ∨ j = 23 ∨ j = 24 ∨ j = 25 by omega) with rfl | rfl | rfl | rfl | rfl | rfl | rfl | rfl | rfl | rfl | rfl | rfl | rfl | rfl | rfl | rfl | rfl | rfl | rfl | rfl | rfl | rfl | rfl | rfl | rfl | rfl
    · refine lv_tableIn (tgt := 156) (off := 117) hx hb dL_law_39 (by decide) (by decide) rfl (by decide) ?_
      exact lm_begin l hfl E L i cc ss d0 m0 o0 sb xs C0 hX hbl hbA hZ hiL hL hcc K hl hS
    · refine lv_tableIn (tgt := 236) (off := 197) hx hb dL_law_39 (by decide) (by decide) rfl (by decide) ?_
      exact lm_setHeight l hfl E L i cc ss d0 m0 o0 sb xs C0 hX hbl hbA hZ hiL hL hcc K hl hS
    · refine lv_tableIn (tgt := 304) (off := 265) hx hb dL_law_39 (by decide) (by decide) rfl (by decide) ?_
      exact lm_setTuft l hfl E L i cc ss d0 m0 o0 sb xs C0 hX hbl hbA hZ hiL hL hcc K hl hS
    · refine lv_tableIn (tgt := 372) (off := 333) hx hb dL_law_39 (by decide) (by decide) rfl (by decide) ?_
      exact lm_setFence l hfl E L i cc ss d0 m0 o0 sb xs C0 hX hbl hbA hZ hiL hL hcc K hl hS
    · refine lv_tableIn (tgt := 440) (off := 401) hx hb dL_law_39 (by decide) (by decide) rfl (by decide) ?_
      exact lm_set l hfl E L i cc ss d0 m0 o0 sb xs C0 hX hbl hbA hZ hiL hL hcc K hl hS
    · refine lv_tableIn (tgt := 508) (off := 469) hx hb dL_law_39 (by decide) (by decide) rfl (by decide) ?_
      exact lm_setWind l hfl E L i cc ss d0 m0 o0 sb xs C0 hX hbl hbA hZ hiL hL hcc K hl hS
    · refine lv_tableIn (tgt := 576) (off := 537) hx hb dL_law_39 (by decide) (by decide) rfl (by decide) ?_
      exact lm_run l hfl E L i cc ss d0 m0 o0 sb xs C0 hX hbl hbA hZ hiL hL hcc K hl hS
    · refine lv_tableIn (tgt := 632) (off := 593) hx hb dL_law_39 (by decide) (by decide) rfl (by decide) ?_
      exact lm_season l hfl E L i cc ss d0 m0 o0 sb xs C0 hX hbl hbA hZ hiL hL hcc K hl hS
    · refine lv_tableIn (tgt := 645) (off := 606) hx hb dL_law_39 (by decide) (by decide) rfl (by decide) ?_
      exact lm_value l hfl E L i cc ss d0 m0 o0 sb xs C0 hX hbl hbA hZ hiL hL hcc K hl hS
    · refine lv_tableIn (tgt := 701) (off := 662) hx hb dL_law_39 (by decide) (by decide) rfl (by decide) ?_
      exact lm_cell l hfl E L i cc ss d0 m0 o0 sb xs C0 hX hbl hbA hZ hiL hL hcc K hl hS
    · refine lv_tableIn (tgt := 769) (off := 730) hx hb dL_law_39 (by decide) (by decide) rfl (by decide) ?_
      exact lm_count l hfl E L i cc ss d0 m0 o0 sb xs C0 hX hbl hbA hZ hiL hL hcc K hl hS
    · refine lv_tableIn (tgt := 825) (off := 786) hx hb dL_law_39 (by decide) (by decide) rfl (by decide) ?_
      exact lm_latest l hfl E L i cc ss d0 m0 o0 sb xs C0 hX hbl hbA hZ hiL hL hcc K hl hS
    · refine lv_tableIn (tgt := 881) (off := 842) hx hb dL_law_39 (by decide) (by decide) rfl (by decide) ?_
      exact lm_slabs l hfl E L i cc ss d0 m0 o0 sb xs C0 hX hbl hbA hZ hiL hL hcc K hl hS
    · refine lv_tableIn (tgt := 894) (off := 855) hx hb dL_law_39 (by decide) (by decide) rfl (by decide) ?_
      exact lm_relief l hfl E L i cc ss d0 m0 o0 sb xs C0 hX hbl hbA hZ hiL hL hcc K hl hS
    · refine lv_tableIn (tgt := 950) (off := 911) hx hb dL_law_39 (by decide) (by decide) rfl (by decide) ?_
      exact lm_shadowHeight l hfl E L i cc ss d0 m0 o0 sb xs C0 hX hbl hbA hZ hiL hL hcc K hl hS
    · refine lv_tableIn (tgt := 991) (off := 952) hx hb dL_law_39 (by decide) (by decide) rfl (by decide) ?_
      exact lm_dunes l hfl E L i cc ss d0 m0 o0 sb xs C0 hX hbl hbA hZ hiL hL hcc K hl hS
    · refine lv_tableIn (tgt := 1047) (off := 1008) hx hb dL_law_39 (by decide) (by decide) rfl (by decide) ?_
      exact lm_greatestDune l hfl E L i cc ss d0 m0 o0 sb xs C0 hX hbl hbA hZ hiL hL hcc K hl hS
    · refine lv_tableIn (tgt := 1103) (off := 1064) hx hb dL_law_39 (by decide) (by decide) rfl (by decide) ?_
      exact lm_duneOf l hfl E L i cc ss d0 m0 o0 sb xs C0 hX hbl hbA hZ hiL hL hcc K hl hS
    · refine lv_tableIn (tgt := 1171) (off := 1132) hx hb dL_law_39 (by decide) (by decide) rfl (by decide) ?_
      exact lm_dunesAfter l hfl E L i cc ss d0 m0 o0 sb xs C0 hX hbl hbA hZ hiL hL hcc K hl hS
    · refine lv_tableIn (tgt := 1239) (off := 1200) hx hb dL_law_39 (by decide) (by decide) rfl (by decide) ?_
      exact lm_bestFence l hfl E L i cc ss d0 m0 o0 sb xs C0 hX hbl hbA hZ hiL hL hcc K hl hS
    · refine lv_tableIn (tgt := 1307) (off := 1268) hx hb dL_law_39 (by decide) (by decide) rfl (by decide) ?_
      exact lm_liveliestWind l hfl E L i cc ss d0 m0 o0 sb xs C0 hX hbl hbA hZ hiL hL hcc K hl hS
    · refine lv_tableIn (tgt := 1363) (off := 1324) hx hb dL_law_39 (by decide) (by decide) rfl (by decide) ?_
      exact lm_append l hfl E L i cc ss d0 m0 o0 sb xs C0 hX hbl hbA hZ hiL hL hcc K hl hS
    · refine lv_tableIn (tgt := 1419) (off := 1380) hx hb dL_law_39 (by decide) (by decide) rfl (by decide) ?_
      exact lm_clearText l hfl E L i cc ss d0 m0 o0 sb xs C0 hX hbl hbA hZ hiL hL hcc K hl hS
    · refine lv_tableIn (tgt := 1432) (off := 1393) hx hb dL_law_39 (by decide) (by decide) rfl (by decide) ?_
      exact lm_parse l hfl E L i cc ss d0 m0 o0 sb xs C0 hX hbl hbA hZ hiL hL hcc K hl hS
    · refine lv_tableIn (tgt := 1445) (off := 1406) hx hb dL_law_39 (by decide) (by decide) rfl (by decide) ?_
      exact lm_undo l hfl E L i cc ss d0 m0 o0 sb xs C0 hX hbl hbA hZ hiL hL hcc K hl hS
    · refine lv_tableIn (tgt := 1489) (off := 1450) hx hb dL_law_39 (by decide) (by decide) rfl (by decide) ?_
      exact lm_digest l hfl E L i cc ss d0 m0 o0 sb xs C0 hX hbl hbA hZ hiL hL hcc K hl hS
  · refine lv_tableOut (tgt := 1503) hx hb dL_law_39 (Or.inr (by rw [nI_toInt (by omega)]; omega)) (by decide) ?_
    refine W.widen (k := cc + 1) (n := ss + 6) (by omega) (by omega) ?_
    exact K H locs ls (lwS_up hS) hl
theorem law_loop {pp : Program} {ee : Env} {sx : State} {mm : MethodId} {bb : List Frame} {me : Method} {cd : Code} {AA : Nat → Prop} {Q9 : State → Prop} (l : Launch) (hfl : l.stackTraces = false) (E : kE) (L d0 m0 o0 sb : Nat) (xs : Nat → Int32) (C0 : CallFix pp mm cd cL_law 9 sx #[Value.ref sb] wsL_law RL) (hX : va_X sb L xs sx sx.heap) (hbl : sb < sx.heap.size) (hbA : ¬ AA sb) (hZ : kZ AA sx) (hL : L ≤ 2048)
    (hend : ∀ (cc ss : Nat) (H : Heap) (locs : List Loc) (ls : Array Slot), cc ≤ 601024 → ss ≤ 7293034 → va_S AA sx.heap H locs → ls.size = 9 → W pp l ee room_1 sx mm #[Value.ref sb] bb me cd H locs cc ss Q9 (F0 mm 1509 ls [])) :
    ∀ (n i : Nat), L ≤ 4 * i + n → 4 * i ≤ L + 3 → ∀ (H : Heap) (locs : List Loc) (ls : Array Slot), lwS E AA sx d0 m0 o0 i H locs → lv_has ls 9 [(0, .ref sb), (1, .ref d0), (2, .ref m0), (3, .ref o0), (4, .int (nI (4 * i)))] → W pp l ee room_1 sx mm #[Value.ref sb] bb me cd H locs (200 + i) (30000 + 6 * i) Q9 (F0 mm 23 ls []) := by
  intro n
  induction n with
  | zero =>
    intro i h1 h2 H locs ls hS hl
    exact law_step l hfl E L i (200 + i) (30000 + 6 * i) d0 m0 o0 sb xs C0 hX hbl hbA hZ hL (by omega) (by omega) (fun H locs ls hS hl => hend _ _ H locs ls (by omega) (by omega) hS hl) (fun h => absurd h (by omega)) hl hS
  | succ n ih =>
    intro i h1 h2 H locs ls hS hl
    exact law_step l hfl E L i (200 + i) (30000 + 6 * i) d0 m0 o0 sb xs C0 hX hbl hbA hZ hL (by omega) (by omega) (fun H locs ls hS hl => hend _ _ H locs ls (by omega) (by omega) hS hl) (fun h H locs ls hS hl => ih (i + 1) (by omega) (by omega) H locs ls hS hl) hl hS
