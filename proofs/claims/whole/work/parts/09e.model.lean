/-! THE MODEL: flights and steps -/
theorem crC_mv {h w d k : Nat} {co : Nat → Int32} (hG : kG h w) (hk : k < h * w) (hd : d < 4) : ∀ j, crC w d co k (nbr h w k ((d + 1) % 4)) j = mvC h w d co k j := by
  intro j
  have hw3 := hG.2.2.1
  have e1 := kpos_e w k
  have e3 : k % w < w := Nat.mod_lt _ (by omega)
  have z0 : ∀ (f : Nat → Int32) (i : Nat), upd f i (f i + 0) = f := fun f i => by
    funext x
    unfold upd
    split
    · rename_i hx; rw [hx, Int32.add_zero]
    · rfl
  unfold crC mvC
  rcases (show d = 0 ∨ d = 2 ∨ (d = 1 ∨ d = 3) by omega) with rfl | rfl | hd2
  · have f1 : nbr h w k ((0 + 1) % 4) = if k % w < w - 1 then k + 1 else k - k % w := rfl
    rw [show crV2 w 0 k (nbr h w k ((0 + 1) % 4)) = 0 from if_neg (by omega), z0]
    by_cases h1 : k % w < w - 1
    · rw [f1, if_pos h1, show crV1 w 0 k (k + 1) = 0 from if_neg (by omega), z0, if_neg (by omega), if_neg (by omega)]
    · have e4 : (k - k % w) % w = 0 := by rw [show k - k % w = k / w * w by omega, Nat.mul_mod_left]
      rw [f1, if_neg h1, show crV1 w 0 k (k - k % w) = 1 from if_pos ⟨rfl, by omega, e4⟩, if_pos ⟨rfl, by omega⟩]
  · have f3 : nbr h w k ((2 + 1) % 4) = if 0 < k % w then k - 1 else k + w - 1 := rfl
    rw [show crV1 w 2 k (nbr h w k ((2 + 1) % 4)) = 0 from if_neg (by omega), z0]
    by_cases h1 : 0 < k % w
    · rw [f3, if_pos h1, show crV2 w 2 k (k - 1) = 0 from if_neg (by omega), z0, if_neg (by omega), if_neg (by omega)]
    · have e4 : (k + w - 1) % w = w - 1 := by rw [show k + w - 1 = k / w * w + (w - 1) by omega]; exact kpos_m (by omega)
      rw [f3, if_neg h1, show crV2 w 2 k (k + w - 1) = 1 from if_pos ⟨rfl, by omega, e4⟩, if_neg (by omega), if_pos ⟨rfl, by omega⟩]
  · rw [show crV1 w d k (nbr h w k ((d + 1) % 4)) = 0 from if_neg (by omega), z0, show crV2 w d k (nbr h w k ((d + 1) % 4)) = 0 from if_neg (by omega), z0, if_neg (by omega), if_neg (by omega)]
theorem opn_y {ca tr : Nat → Int32} {c : Nat} (h1 : ¬ ca c ≤ trpN ca tr c) : opnB ca tr c = true ∧ ¬ ca c = -1 := by
  unfold trpN at h1
  by_cases h2 : ca c = -1
  · rw [if_pos h2, h2] at h1; exact absurd (by decide) h1
  · rw [if_neg h2] at h1
    refine ⟨?_, h2⟩
    unfold opnB
    rw [decide_eq_true h2, decide_eq_true (Int32.not_le.mp h1)]
    rfl
theorem opn_n {ca tr : Nat → Int32} {c : Nat} (h1 : ca c ≤ trpN ca tr c) : ¬ opnB ca tr c = true := by
  unfold trpN at h1
  unfold opnB
  by_cases h2 : ca c = -1
  · rw [decide_eq_false (fun h9 => h9 h2), Bool.false_and]; decide
  · rw [if_neg h2] at h1
    rw [decide_eq_false (Int32.not_lt.mpr h1), Bool.and_false]; decide
def trO (ca tr : Nat → Int32) (p : Nat) : Nat → Int32 := if opnB ca tr p then upd tr p (tr p + 1) else tr
theorem rsS_12 {h w d : Nat} {st he tu ca tr : Nat → Int32} {c k n0 : Nat} (hk : k = 12) : ¬ (rsS h w d st he tu ca tr c k n0).1 = 0 := by
  unfold rsS
  by_cases h1 : opnB ca tr c = true
  · rw [if_pos h1]; exact fun h9 => absurd (show (5 : Nat) = 0 from h9) (by decide)
  · rw [if_neg h1]
    by_cases h2 : shd h w d he c = true
    · rw [if_pos h2]; exact fun h9 => absurd (show (6 : Nat) = 0 from h9) (by decide)
    · rw [if_neg h2]
      by_cases h3 : gnd st he c + tu c ≤ nI (d100 n0)
      · rw [if_pos h3]
        show ¬ hop12 k = 0
        rw [hk]; decide
      · rw [if_neg h3]; exact fun h9 => absurd (show (7 : Nat) = 0 from h9) (by decide)
theorem rsS_5 {h w d : Nat} {st he tu ca tr : Nat → Int32} {c k n0 : Nat} : trO ca tr c = if (rsS h w d st he tu ca tr c k n0).1 = 5 then upd tr c (tr c + 1) else tr := by
  unfold trO
  by_cases h1 : opnB ca tr c = true
  · rw [if_pos h1, if_pos]
    unfold rsS
    rw [if_pos h1]
  · rw [if_neg h1, if_neg]
    unfold rsS
    rw [if_neg h1]
    by_cases h2 : shd h w d he c = true
    · rw [if_pos h2]; exact fun h9 => absurd (show (6 : Nat) = 5 from h9) (by decide)
    · rw [if_neg h2]
      by_cases h3 : gnd st he c + tu c ≤ nI (d100 n0)
      · rw [if_pos h3]
        show ¬ hop12 k = 5
        unfold hop12
        split <;> decide
      · rw [if_neg h3]; exact fun h9 => absurd (show (7 : Nat) = 5 from h9) (by decide)
theorem rlS_0 {h w d : Nat} {he tu ca : Nat → Int32} {c n0 : Nat} (h1 : (rlS h w d he tu ca c n0).1 = 0) : ¬ he c = 0 := by
  intro h2
  unfold rlS at h1
  rw [if_pos h2] at h1
  exact absurd (show (1 : Nat) = 0 from h1) (by decide)
theorem fly_lt {h w d hp : Nat} {st he tu ca tr : Nat → Int32} (hG : kG h w) : ∀ (m c k : Nat) (co : Nat → Int32) (n0 : Nat), c < h * w → (fly h w d hp st he tu ca tr m c k co n0).2.1 < h * w
  | 0, _, _, _, _, hc => hc
  | m + 1, c, k, co, n0, hc => by
    rw [fly_s]
    split
    · exact fly_lt hG m _ _ _ _ (hopF_lt hG _ _ _ hc)
    · exact hopF_lt hG _ _ _ hc
/-- sums of heights stay -/
theorem slF_H {h w B : Nat} {sl : Int32} (hG : kG h w) (hB : B < 1000000) (hsl : 1 ≤ sl.toInt) : ∀ (n : Nat) (he co : Nat → Int32) (c : Nat), c < h * w → hI (h * w) he B → hI (h * w) (slF h w sl n he co c).1 B
  | 0, _, _, _, _, hH => hH
  | n + 1, he, co, c, hc, hH => by
    rw [slF_s]
    split
    · exact hH
    · obtain ⟨v, hv, ev⟩ := hI_v hH hc
      obtain ⟨_, _, _, h9⟩ := sld_dn hc (lowN_lt (he := he) hG hc 3) hH hB ev (by assumption) hsl
      exact slF_H hG hB hsl n _ _ _ (lowN_lt hG hc 3) h9
theorem slI_H {h w B : Nat} {sl : Int32} (hG : kG h w) (hB : B < 1000000) (hsl : 1 ≤ sl.toInt) : ∀ (n : Nat) (he co : Nat → Int32) (c : Nat), c < h * w → hI (h * w) he B → hI (h * w) (slI h w sl n he co c).1 B
  | 0, _, _, _, _, hH => hH
  | n + 1, he, co, c, hc, hH => by
    rw [slI_s]
    split
    · exact hH
    · obtain ⟨v, hv, ev⟩ := hI_v hH hc
      obtain ⟨_, _, _, _, h9⟩ := sld_ri hc (higN_lt (he := he) hG hc 3) hH hB ev hv (by assumption) hsl
      exact slI_H hG hB hsl n _ _ _ (higN_lt hG hc 3) h9
theorem hI_dec {n B c : Nat} {he : Nat → Int32} (hH : hI n he B) (hB : B < 1000000) (hc : c < n) (h0 : ¬ he c = 0) : ∃ B1, B1 + 1 = B ∧ hI n (upd he c (he c + (-1))) B1 := by
  obtain ⟨v, hv, ev⟩ := hI_v hH hc
  rcases Nat.eq_zero_or_pos v with h9 | h9
  · rw [h9] at ev; exact absurd ev h0
  · obtain ⟨u, rfl⟩ : ∃ u, v = u + 1 := ⟨v - 1, by omega⟩
    refine ⟨B - 1, by omega, ?_⟩
    rw [ev, pk_m1]
    exact hI_le (hI_up (v := u) hH hc ev (by omega) hB) (by omega)
theorem hI_inc {n B c : Nat} {he : Nat → Int32} (hH : hI n he B) (hB : B + 1 < 1000000) (hc : c < n) : hI n (upd he c (he c + 1)) (B + 1) := by
  obtain ⟨v, hv, ev⟩ := hI_v hH hc
  rw [ev, nI_1]
  exact hI_le (hI_up (v := v + 1) hH hc ev (by omega) (by omega)) (by omega)
theorem stp_H {h w d hp B : Nat} {st tu ca : Nat → Int32} {S : stT} (hG : kG h w) (hB : B < 1000000) (hsl : 1 ≤ (st 3).toInt) (hH : hI (h * w) S.2.1 B) : hI (h * w) (stp h w d hp st tu ca S).2.2.1 B := by
  have hn := kG_n hG
  have hc : drwS S.1 / 65536 % (h * w) < h * w := Nat.mod_lt _ (by omega)
  unfold stp stpA
  by_cases h0 : (rlS h w d S.2.1 tu ca (drwS S.1 / 65536 % (h * w)) (drwS S.1)).1 = 0
  · rw [if_pos h0]
    obtain ⟨B1, hB1, hH1⟩ := hI_dec hH hB hc (rlS_0 h0)
    show hI (h * w) (slF h w (st 3) 1000000 (upd _ _ (_ + 1)) _ _).1 B
    rw [← hB1]
    have hp9 := fly_lt (d := d) (hp := hp) (st := st) (he := (slI h w (st 3) 1000000 (upd S.2.1 (drwS S.1 / 65536 % (h * w)) (S.2.1 (drwS S.1 / 65536 % (h * w)) + (-1))) S.2.2.2.1 (drwS S.1 / 65536 % (h * w))).1) (tu := tu) (ca := ca) (tr := S.2.2.1) hG 12 (drwS S.1 / 65536 % (h * w)) 0 (slI h w (st 3) 1000000 (upd S.2.1 (drwS S.1 / 65536 % (h * w)) (S.2.1 (drwS S.1 / 65536 % (h * w)) + (-1))) S.2.2.2.1 (drwS S.1 / 65536 % (h * w))).2 (rlS h w d S.2.1 tu ca (drwS S.1 / 65536 % (h * w)) (drwS S.1)).2 hc
    exact slF_H hG (by omega) hsl _ _ _ _ hp9 (hI_inc (slI_H hG (by omega) hsl _ _ _ _ hc hH1) (by omega) hp9)
  · rw [if_neg h0]; exact hH
theorem blo_H {h w d hp B : Nat} {st tu ca : Nat → Int32} {S : stT} (hG : kG h w) (hB : B < 1000000) (hsl : 1 ≤ (st 3).toInt) (hH : hI (h * w) S.2.1 B) : ∀ n, hI (h * w) (blo h w d hp st tu ca n S).2.2.1 B
  | 0 => hH
  | n + 1 => by rw [blo_s]; exact stp_H hG hB hsl (blo_H hG hB hsl hH n)
/-- counts that are noted before the slides -/
theorem nco_9 {co co' : Nat → Int32} {r : Nat} (hr : r < 9) (h1 : ∀ j, co' j = nco co r j) : ∀ j, c9 co' j = nco (c9 co) r j := by
  have e9 : co' 9 = co 9 := by rw [h1 9]; unfold nco; rw [pk_un (by omega), pk_un (by omega)]
  intro j
  unfold c9
  by_cases h9 : j = 9
  · rw [h9, pk_us, e9]; unfold nco; rw [pk_un (by omega), pk_un (by omega), pk_us]
  · rw [pk_un h9, h1 j]
    unfold nco
    by_cases h0 : j = r
    · rw [h0, pk_us, pk_us]
      have e1 : upd (upd co 9 (co 9 + 1)) 0 (upd co 9 (co 9 + 1) 0 + 1) r = upd co 0 (co 0 + 1) r := by
        rw [pk_un (show (0 : Nat) ≠ 9 by decide)]
        unfold upd
        split
        · rfl
        · rw [if_neg (by omega)]
      rw [e1]
    · rw [pk_un h0, pk_un h0, pk_un (show (0 : Nat) ≠ 9 by decide)]
      unfold upd
      split
      · rfl
      · rfl
theorem slF_nco {h w r : Nat} {sl : Int32} (hr : r < 9) : ∀ (n : Nat) (he co co' : Nat → Int32) (c : Nat), (∀ j, co' j = nco co r j) → (slF h w sl n he co' c).1 = (slF h w sl n he co c).1 ∧ ∀ j, (slF h w sl n he co' c).2 j = nco (slF h w sl n he co c).2 r j
  | 0, _, _, _, _, h1 => ⟨rfl, h1⟩
  | n + 1, he, co, co', c, h1 => by
    rw [slF_s, slF_s]
    split
    · exact ⟨rfl, h1⟩
    · exact slF_nco hr n _ _ _ _ (nco_9 hr h1)
theorem stp_b {h w d hp : Nat} {st tu ca : Nat → Int32} {S : stT} {r : Int32} (h1 : r = nI (stp h w d hp st tu ca S).1) : (r = 0 → (stp h w d hp st tu ca S).1 = 0) ∧ (¬ r = 0 → (stp h w d hp st tu ca S).1 = 1) := by
  have h2 := stp_1 h w d hp st tu ca S
  rcases (show (stp h w d hp st tu ca S).1 = 0 ∨ (stp h w d hp st tu ca S).1 = 1 by omega) with e | e
  · exact ⟨fun _ => e, fun h9 => absurd (by rw [h1, e]; rfl) h9⟩
  · exact ⟨fun h9 => by rw [h1, e] at h9; exact absurd h9 (by decide), fun _ => e⟩
abbrev rmX7_isTrapped : Room := { frames := 2, cells := 0, slots := 0, locals := 50 }
set_option maxHeartbeats 4000000 in
set_option maxRecDepth 100000 in
theorem c_X7_isTrapped (l : Launch) (E : kE) (m0 : Nat) (A0 : Nat) (V0 : Nat) (Z0 : Nat) (D0 : Nat) (W0 : Nat) (T0 : Nat) (sm : Int32) (th : Int32) (tl : Int32) (tw : Int32) (tc : Int32) (h : Nat) (w : Nat) (d : Nat) (s0 : Int32) (z : Int32) (st : Nat → Int32) (he : Nat → Int32) (ke : Nat → Int32) (tu : Nat → Int32) (ca : Nat → Int32) (tr : Nat → Int32) (co : Nat → Int32) (la : Nat → Int32) (k : Nat) (kk : Nat) (hp : Nat) (hG : kG h w) (hc : k < h * w) (hd : d < 4) (hst0 : st 0 = nI hp) (hp8 : hp ≤ 8) (hp1 : 1 ≤ hp) (hkk : kk ≤ 12) : kC E l yX7_isTrapped wsX7_isTrapped rmX7_isTrapped [.ref m0] (List.flatten [oc m0 7 [.ref A0, .ref V0, .ref Z0, .int sm, .int th, .int (nI k), .int (nI kk), .ref D0, .ref W0, .ref T0, .int tl, .int tw, .int tc], ac E A0 985 (mA h w (nI d) s0 z st he ke tu ca tr co la)]) kI (fun (r : Int32) (_ : Unit) => r = if opnB ca tr (hopF h w d ca tr hp k co).1 then 1 else 0) (fun _ => List.flatten [oc m0 7 [.ref A0, .ref V0, .ref Z0, .int sm, .int th, .int (nI (hopF h w d ca tr hp k co).1), .int (nI (kk + 1)), .ref D0, .ref W0, .ref T0, .int tl, .int tw, .int tc], ac E A0 985 (mA h w (nI d) s0 z st he ke tu ca (trO ca tr (hopF h w d ca tr hp k co).1) ((hopF h w d ca tr hp k co).2) la)]) 0 0 := by
  refine k_body (cc := cX7_isTrapped) (maxL := 3) (ret := (some .boolean)) (by decide) rfl (Nat.le_of_ble_eq_true rfl) ?_
  intro pp ee sx mm aa bb me cd H locs AA ls C0 hr hlk hnm hl hw
  obtain ⟨hx, hb, hml, hown, hts⟩ := id C0
  have hl : lv_has ls 3 [(0, .ref m0)] := hl
  have hw : kW E AA sx (List.flatten [oc m0 7 [.ref A0, .ref V0, .ref Z0, .int sm, .int th, .int (nI k), .int (nI kk), .ref D0, .ref W0, .ref T0, .int tl, .int tw, .int tc], ac E A0 985 (mA h w (nI d) s0 z st he ke tu ca tr co la)]) H locs := hw
  have hn9 := kG_n hG
  have hG9 := id hG
  obtain ⟨hG1, hG2, hG3, hG4⟩ := hG9
  have hinX7 : ∀ w ∈ u_ws RX7 TX7 13, w ∈ wsX7_isTrapped := by decide +kernel
  refine lv_aload_n hx hb dX7_isTrapped_0 rfl (lv_at hl 0 rfl) ?_
  refine lv_dup hx hb dX7_isTrapped_1 rfl ?_
  refine k_get (pre := []) C0 hw hinX7 rfl 6 (by decide) (hts (.fieldLink RX7 134 "SlabDunesModel" "hops" "I") (by decide +kernel)) rfl rfl dX7_isTrapped_2 ?_
  refine lv_iconst (v := 1) hx hb dX7_isTrapped_5 (by decide) ?_
  refine lv_iadd hx hb dX7_isTrapped_6 ?_
  refine W.eq (g2 := F0 mm 7 ls [.int (nI (kk + 1)), .ref m0]) (congrArg (fun z9 => F0 mm 7 ls [.int z9, .ref m0]) (show ((nI kk) + 1 : Int32) = nI (kk + 1) from nI_1 _)) ?_
  refine k_put (pre := []) C0 hw hinX7 tyX7 tyX7_ok nmX7 rfl 6 (by decide) (hts (.fieldLink RX7 134 "SlabDunesModel" "hops" "I") (by decide +kernel)) rfl rfl (ty := .int) (by decide +kernel) rfl rfl (Nat.le_of_ble_eq_true rfl) dX7_isTrapped_7 (fun H locs hw => ?_)
  have hw : kW E AA sx (List.flatten [oc m0 7 [.ref A0, .ref V0, .ref Z0, .int sm, .int th, .int (nI k), .int (nI (kk + 1)), .ref D0, .ref W0, .ref T0, .int tl, .int tw, .int tc], ac E A0 985 (mA h w (nI d) s0 z st he ke tu ca tr co la)]) H locs := hw
  refine lv_iconst (v := 0) hx hb dX7_isTrapped_10 (by decide) ?_
  refine lv_istore_n (lv' := [(1, .int 0), (0, .ref m0)]) hx hb dX7_isTrapped_11 rfl hl (by decide) rfl (fun ls hl => ?_)
  have loop12 : ∀ (nn : Nat) (i : Nat) (c9x : Nat) (o9 : Nat → Int32), (i ≤ hp) → (c9x < h * w) → (hopF h w d ca tr (hp - i) c9x o9 = hopF h w d ca tr hp k co) → (i = 0 ∨ ¬ opnB ca tr c9x = true) → hp - i < nn → ∀ (H : Heap) (locs : List Loc) (ls : Array Slot), lv_has ls 3 [(1, .int (nI i)), (0, .ref m0)] → kW E AA sx (List.flatten [oc m0 7 [.ref A0, .ref V0, .ref Z0, .int sm, .int th, .int (nI c9x), .int (nI (kk + 1)), .ref D0, .ref W0, .ref T0, .int tl, .int tw, .int tc], ac E A0 985 (mA h w (nI d) s0 z st he ke tu ca tr o9 la)]) H locs → W pp l ee rmX7_isTrapped sx mm aa bb me cd H locs 0 0 (kEnd E kI (fun (r : Int32) (_ : Unit) => r = if opnB ca tr (hopF h w d ca tr hp k co).1 then 1 else 0) (fun _ => List.flatten [oc m0 7 [.ref A0, .ref V0, .ref Z0, .int sm, .int th, .int (nI (hopF h w d ca tr hp k co).1), .int (nI (kk + 1)), .ref D0, .ref W0, .ref T0, .int tl, .int tw, .int tc], ac E A0 985 (mA h w (nI d) s0 z st he ke tu ca (trO ca tr (hopF h w d ca tr hp k co).1) ((hopF h w d ca tr hp k co).2) la)]) bb aa sx AA 0 0) (F0 mm 12 ls []) := by
    intro nn
    induction nn with
    | zero => intro i c9x o9 hi hcx hF hno hm12; exact absurd hm12 (Nat.not_lt_zero _)
    | succ nn ih12 =>
      intro i c9x o9 hi hcx hF hno hm12 H locs ls hl hw
      refine lv_iload_n hx hb dX7_isTrapped_12 rfl (lv_at hl 0 rfl) ?_
      refine lv_aload_n hx hb dX7_isTrapped_13 rfl (lv_at hl 1 rfl) ?_
      refine k_get (pre := []) C0 hw hinX7 rfl 0 (by decide) (hts (.fieldLink RX7 7 "SlabDunesModel" "all" "[I") (by decide +kernel)) rfl rfl dX7_isTrapped_14 ?_
      refine lv_iconst (v := 0) hx hb dX7_isTrapped_17 (by decide) ?_
      refine k_iald (pre := [oc m0 7 [.ref A0, .ref V0, .ref Z0, .int sm, .int th, .int (nI c9x), .int (nI (kk + 1)), .ref D0, .ref W0, .ref T0, .int tl, .int tw, .int tc]]) (l1 := []) C0 hw (i := 0) (kinN (n := 0) (by decide) (by decide)) dX7_isTrapped_18 ?_
      refine W.eq (g2 := F0 mm 19 ls [.int (nI hp), .int (nI i)]) (congrArg (fun z9 => F0 mm 19 ls [.int z9, .int (nI i)]) (show ((mA h w (nI d) s0 z st he ke tu ca tr o9 la) (Int32.toNatClampNeg 0) : Int32) = nI hp from hst0)) ?_
      refine lv_icmp_ge (tgt := 92) hx hb dX7_isTrapped_19 (by decide) (fun c19 => ?_) (fun c19 => ?_)
      · have c19 : hp ≤ i := (nI_leI (a := hp) (b := i) (by omega) (by omega)).mp c19
        rw [show hp - i = 0 by omega] at hF
        have hno2 := hno.resolve_left (by omega)
        have e8 : trO ca tr (hopF h w d ca tr hp k co).1 = tr := by rw [← kpair1 hF]; exact if_neg hno2
        have hw : kW E AA sx (List.flatten [oc m0 7 [.ref A0, .ref V0, .ref Z0, .int sm, .int th, .int (nI (hopF h w d ca tr hp k co).1), .int (nI (kk + 1)), .ref D0, .ref W0, .ref T0, .int tl, .int tw, .int tc], ac E A0 985 (mA h w (nI d) s0 z st he ke tu ca tr o9 la)]) H locs := by have h99 := congrArg (fun z9 : Int32 => (List.flatten [oc m0 7 [.ref A0, .ref V0, .ref Z0, .int sm, .int th, .int z9, .int (nI (kk + 1)), .ref D0, .ref W0, .ref T0, .int tl, .int tw, .int tc], ac E A0 985 (mA h w (nI d) s0 z st he ke tu ca tr o9 la)] : va_W)) (show (nI c9x : Int32) = nI (hopF h w d ca tr hp k co).1 from congrArg nI (kpair1 hF)); rw [← h99]; exact hw
        have hw : kW E AA sx (List.flatten [oc m0 7 [.ref A0, .ref V0, .ref Z0, .int sm, .int th, .int (nI (hopF h w d ca tr hp k co).1), .int (nI (kk + 1)), .ref D0, .ref W0, .ref T0, .int tl, .int tw, .int tc], ac E A0 985 (mA h w (nI d) s0 z st he ke tu ca (trO ca tr (hopF h w d ca tr hp k co).1) ((hopF h w d ca tr hp k co).2) la)]) H locs := kW.arr (pre := [oc m0 7 [.ref A0, .ref V0, .ref Z0, .int sm, .int th, .int (nI (hopF h w d ca tr hp k co).1), .int (nI (kk + 1)), .ref D0, .ref W0, .ref T0, .int tl, .int tw, .int tc]]) (l1 := []) hw (fun j9 _ => by rw [e8, ← kpair2 hF])
        refine lv_iconst (v := 0) hx hb dX7_isTrapped_92 (by decide) ?_
        -- leaf 0
        exact k_zret C0 hr hlk hw () (rfl) ((if_neg (by rw [← kpair1 hF]; exact hno2)).symm) (rfl) (Nat.le_of_ble_eq_true rfl) (Nat.le_of_ble_eq_true rfl) dX7_isTrapped_93
      · have c19 : ¬ hp ≤ i := fun h99 => c19 ((nI_leI (a := hp) (b := i) (by omega) (by omega)).mpr h99)
        obtain ⟨m9, hm9⟩ : ∃ m9, hp - i = m9 + 1 := ⟨hp - i - 1, by omega⟩
        rw [hm9, hopF_s] at hF
        have hnb9 := nbr_lt ((d + 1) % 4) hG hcx
        refine lv_aload_n hx hb dX7_isTrapped_22 rfl (lv_at hl 1 rfl) ?_
        refine lv_aload_n hx hb dX7_isTrapped_23 rfl (lv_at hl 1 rfl) ?_
        refine k_get (pre := []) C0 hw hinX7 rfl 5 (by decide) (hts (.fieldLink RX7 137 "SlabDunesModel" "place" "I") (by decide +kernel)) rfl rfl dX7_isTrapped_24 ?_
        refine lv_iconst (v := 1) hx hb dX7_isTrapped_27 (by decide) ?_
        refine k_V (As := [.int (nI c9x), .int 1]) (rest := []) (pre := []) (mid := [oc m0 7 [.ref A0, .ref V0, .ref Z0, .int sm, .int th, .int (nI c9x), .int (nI (kk + 1)), .ref D0, .ref W0, .ref T0, .int tl, .int tw, .int tc], ac E A0 985 (mA h w (nI d) s0 z st he ke tu ca tr o9 la)]) C0 (c_X7_downwind1 l E m0 A0 V0 Z0 D0 W0 T0 sm th (nI c9x) (nI (kk + 1)) tl tw tc h w d s0 z st he ke tu ca tr o9 la c9x (by first | assumption | omega) (hcx) (by first | assumption | omega)) (cwV 2 hts gX7_isTrapped_X7_downwind rfl rfl rfl (by decide +kernel) ⟨Nat.le_of_ble_eq_true rfl, Nat.le_of_ble_eq_true rfl⟩) hw rfl (fun _ => [oc m0 7 [.ref A0, .ref V0, .ref Z0, .int sm, .int th, .int (nI c9x), .int (nI (kk + 1)), .ref D0, .ref W0, .ref T0, .int tl, .int tw, .int tc], ac E A0 985 (mA h w (nI d) s0 z st he ke tu ca tr o9 la)]) (fun _ => rfl) 0 7 rfl rfl rfl rfl hl.1 rfl (Nat.le_of_ble_eq_true rfl) dX7_isTrapped_28 ⟨Nat.le_of_ble_eq_true rfl, Nat.le_of_ble_eq_true rfl⟩ (fun r u H locs hq99 hw => ?_)
        subst hq99
        have hw : kW E AA sx (List.flatten [oc m0 7 [.ref A0, .ref V0, .ref Z0, .int sm, .int th, .int (nI c9x), .int (nI (kk + 1)), .ref D0, .ref W0, .ref T0, .int tl, .int tw, .int tc], ac E A0 985 (mA h w (nI d) s0 z st he ke tu ca tr o9 la)]) H locs := hw
        refine W.eq (g2 := F0 mm 31 ls [.int (nI (nbr h w c9x ((d + 1) % 4)))]) rfl ?_
        refine lv_istore_n (lv' := [(2, .int (nI (nbr h w c9x ((d + 1) % 4)))), (1, .int (nI i)), (0, .ref m0)]) hx hb dX7_isTrapped_31 rfl hl (by decide) rfl (fun ls hl => ?_)
        refine lv_aload_n hx hb dX7_isTrapped_32 rfl (lv_at hl 2 rfl) ?_
        refine lv_aload_n hx hb dX7_isTrapped_33 rfl (lv_at hl 2 rfl) ?_
        refine k_get (pre := []) C0 hw hinX7 rfl 5 (by decide) (hts (.fieldLink RX7 137 "SlabDunesModel" "place" "I") (by decide +kernel)) rfl rfl dX7_isTrapped_34 ?_
        refine lv_iload_n hx hb dX7_isTrapped_37 rfl (lv_at hl 0 rfl) ?_
        refine k_V (As := [.int (nI c9x), .int (nI (nbr h w c9x ((d + 1) % 4)))]) (rest := []) (pre := []) (mid := [oc m0 7 [.ref A0, .ref V0, .ref Z0, .int sm, .int th, .int (nI c9x), .int (nI (kk + 1)), .ref D0, .ref W0, .ref T0, .int tl, .int tw, .int tc], ac E A0 985 (mA h w (nI d) s0 z st he ke tu ca tr o9 la)]) C0 (c_X7_crosses l E m0 A0 V0 Z0 D0 W0 T0 sm th (nI c9x) (nI (kk + 1)) tl tw tc h w d s0 z st he ke tu ca tr o9 la c9x (nbr h w c9x ((d + 1) % 4)) (by first | assumption | omega) (hcx) (by first | assumption | omega) (hnb9)) (cwV 2 hts gX7_isTrapped_X7_crosses rfl rfl rfl (by decide +kernel) ⟨Nat.le_of_ble_eq_true rfl, Nat.le_of_ble_eq_true rfl⟩) hw rfl (fun _ => [oc m0 7 [.ref A0, .ref V0, .ref Z0, .int sm, .int th, .int (nI c9x), .int (nI (kk + 1)), .ref D0, .ref W0, .ref T0, .int tl, .int tw, .int tc], ac E A0 985 (mA h w (nI d) s0 z st he ke tu ca tr (crC w d o9 c9x (nbr h w c9x ((d + 1) % 4))) la)]) (fun _ => rfl) 0 7 rfl rfl rfl rfl hl.1 rfl (Nat.le_of_ble_eq_true rfl) dX7_isTrapped_38 ⟨Nat.le_of_ble_eq_true rfl, Nat.le_of_ble_eq_true rfl⟩ (fun r u H locs hq99 hw => ?_)
        have hw : kW E AA sx (List.flatten [oc m0 7 [.ref A0, .ref V0, .ref Z0, .int sm, .int th, .int (nI c9x), .int (nI (kk + 1)), .ref D0, .ref W0, .ref T0, .int tl, .int tw, .int tc], ac E A0 985 (mA h w (nI d) s0 z st he ke tu ca tr (crC w d o9 c9x (nbr h w c9x ((d + 1) % 4))) la)]) H locs := hw
        refine W.eq (g2 := F0 mm 41 ls []) rfl ?_
        refine lv_aload_n hx hb dX7_isTrapped_41 rfl (lv_at hl 2 rfl) ?_
        refine lv_iload_n hx hb dX7_isTrapped_42 rfl (lv_at hl 0 rfl) ?_
        refine k_put (pre := []) C0 hw hinX7 tyX7 tyX7_ok nmX7 rfl 5 (by decide) (hts (.fieldLink RX7 137 "SlabDunesModel" "place" "I") (by decide +kernel)) rfl rfl (ty := .int) (by decide +kernel) rfl rfl (Nat.le_of_ble_eq_true rfl) dX7_isTrapped_43 (fun H locs hw => ?_)
        have hw : kW E AA sx (List.flatten [oc m0 7 [.ref A0, .ref V0, .ref Z0, .int sm, .int th, .int (nI (nbr h w c9x ((d + 1) % 4))), .int (nI (kk + 1)), .ref D0, .ref W0, .ref T0, .int tl, .int tw, .int tc], ac E A0 985 (mA h w (nI d) s0 z st he ke tu ca tr (crC w d o9 c9x (nbr h w c9x ((d + 1) % 4))) la)]) H locs := hw
        have hw : kW E AA sx (List.flatten [oc m0 7 [.ref A0, .ref V0, .ref Z0, .int sm, .int th, .int (nI (nbr h w c9x ((d + 1) % 4))), .int (nI (kk + 1)), .ref D0, .ref W0, .ref T0, .int tl, .int tw, .int tc], ac E A0 985 (mA h w (nI d) s0 z st he ke tu ca tr (mvC h w d o9 c9x) la)]) H locs := kW.arr (pre := [oc m0 7 [.ref A0, .ref V0, .ref Z0, .int sm, .int th, .int (nI (nbr h w c9x ((d + 1) % 4))), .int (nI (kk + 1)), .ref D0, .ref W0, .ref T0, .int tl, .int tw, .int tc]]) (l1 := []) hw (fun j99 _ => mA_eq (fun _ _ => rfl) (fun _ _ => ⟨rfl, rfl, rfl, rfl, rfl⟩) (fun j8 _ => crC_mv hG hcx hd j8) (fun _ _ => rfl) j99)
        refine lv_aload_n hx hb dX7_isTrapped_46 rfl (lv_at hl 2 rfl) ?_
        refine lv_aload_n hx hb dX7_isTrapped_47 rfl (lv_at hl 2 rfl) ?_
        refine k_get (pre := []) C0 hw hinX7 rfl 5 (by decide) (hts (.fieldLink RX7 137 "SlabDunesModel" "place" "I") (by decide +kernel)) rfl rfl dX7_isTrapped_48 ?_
        refine lv_iconst (v := 3) hx hb dX7_isTrapped_51 (by decide) ?_
        refine k_V (As := [.int (nI (nbr h w c9x ((d + 1) % 4))), .int 3]) (rest := []) (pre := []) (mid := [oc m0 7 [.ref A0, .ref V0, .ref Z0, .int sm, .int th, .int (nI (nbr h w c9x ((d + 1) % 4))), .int (nI (kk + 1)), .ref D0, .ref W0, .ref T0, .int tl, .int tw, .int tc], ac E A0 985 (mA h w (nI d) s0 z st he ke tu ca tr (mvC h w d o9 c9x) la)]) C0 (c_X7_of3 l E m0 A0 V0 Z0 D0 W0 T0 sm th (nI (nbr h w c9x ((d + 1) % 4))) (nI (kk + 1)) tl tw tc h w (nI d) s0 z st he ke tu ca tr (mvC h w d o9 c9x) la (nbr h w c9x ((d + 1) % 4)) (by first | assumption | omega) (hnb9)) (cwV 2 hts gX7_isTrapped_X7_of rfl rfl rfl (by decide +kernel) ⟨Nat.le_of_ble_eq_true rfl, Nat.le_of_ble_eq_true rfl⟩) hw rfl (fun _ => [oc m0 7 [.ref A0, .ref V0, .ref Z0, .int sm, .int th, .int (nI (nbr h w c9x ((d + 1) % 4))), .int (nI (kk + 1)), .ref D0, .ref W0, .ref T0, .int tl, .int tw, .int tc], ac E A0 985 (mA h w (nI d) s0 z st he ke tu ca tr (mvC h w d o9 c9x) la)]) (fun _ => rfl) 0 7 rfl rfl rfl rfl hl.1 rfl (Nat.le_of_ble_eq_true rfl) dX7_isTrapped_52 ⟨Nat.le_of_ble_eq_true rfl, Nat.le_of_ble_eq_true rfl⟩ (fun r u H locs hq99 hw => ?_)
        subst hq99
        have hw : kW E AA sx (List.flatten [oc m0 7 [.ref A0, .ref V0, .ref Z0, .int sm, .int th, .int (nI (nbr h w c9x ((d + 1) % 4))), .int (nI (kk + 1)), .ref D0, .ref W0, .ref T0, .int tl, .int tw, .int tc], ac E A0 985 (mA h w (nI d) s0 z st he ke tu ca tr (mvC h w d o9 c9x) la)]) H locs := hw
        refine W.eq (g2 := F0 mm 55 ls [.int (trpN ca tr (nbr h w c9x ((d + 1) % 4)))]) rfl ?_
        refine lv_aload_n hx hb dX7_isTrapped_55 rfl (lv_at hl 2 rfl) ?_
        refine lv_aload_n hx hb dX7_isTrapped_56 rfl (lv_at hl 2 rfl) ?_
        refine k_get (pre := []) C0 hw hinX7 rfl 5 (by decide) (hts (.fieldLink RX7 137 "SlabDunesModel" "place" "I") (by decide +kernel)) rfl rfl dX7_isTrapped_57 ?_
        refine lv_iconst (v := 2) hx hb dX7_isTrapped_60 (by decide) ?_
        refine k_V (As := [.int (nI (nbr h w c9x ((d + 1) % 4))), .int 2]) (rest := [.int (trpN ca tr (nbr h w c9x ((d + 1) % 4)))]) (pre := []) (mid := [oc m0 7 [.ref A0, .ref V0, .ref Z0, .int sm, .int th, .int (nI (nbr h w c9x ((d + 1) % 4))), .int (nI (kk + 1)), .ref D0, .ref W0, .ref T0, .int tl, .int tw, .int tc], ac E A0 985 (mA h w (nI d) s0 z st he ke tu ca tr (mvC h w d o9 c9x) la)]) C0 (c_X7_of2 l E m0 A0 V0 Z0 D0 W0 T0 sm th (nI (nbr h w c9x ((d + 1) % 4))) (nI (kk + 1)) tl tw tc h w (nI d) s0 z st he ke tu ca tr (mvC h w d o9 c9x) la (nbr h w c9x ((d + 1) % 4)) (by first | assumption | omega) (hnb9)) (cwV 2 hts gX7_isTrapped_X7_of rfl rfl rfl (by decide +kernel) ⟨Nat.le_of_ble_eq_true rfl, Nat.le_of_ble_eq_true rfl⟩) hw rfl (fun _ => [oc m0 7 [.ref A0, .ref V0, .ref Z0, .int sm, .int th, .int (nI (nbr h w c9x ((d + 1) % 4))), .int (nI (kk + 1)), .ref D0, .ref W0, .ref T0, .int tl, .int tw, .int tc], ac E A0 985 (mA h w (nI d) s0 z st he ke tu ca tr (mvC h w d o9 c9x) la)]) (fun _ => rfl) 0 7 rfl rfl rfl rfl hl.1 rfl (Nat.le_of_ble_eq_true rfl) dX7_isTrapped_61 ⟨Nat.le_of_ble_eq_true rfl, Nat.le_of_ble_eq_true rfl⟩ (fun r u H locs hq99 hw => ?_)
        subst hq99
        have hw : kW E AA sx (List.flatten [oc m0 7 [.ref A0, .ref V0, .ref Z0, .int sm, .int th, .int (nI (nbr h w c9x ((d + 1) % 4))), .int (nI (kk + 1)), .ref D0, .ref W0, .ref T0, .int tl, .int tw, .int tc], ac E A0 985 (mA h w (nI d) s0 z st he ke tu ca tr (mvC h w d o9 c9x) la)]) H locs := hw
        refine W.eq (g2 := F0 mm 64 ls [.int (ca (nbr h w c9x ((d + 1) % 4))), .int (trpN ca tr (nbr h w c9x ((d + 1) % 4)))]) rfl ?_
        refine lv_icmp_ge (tgt := 86) hx hb dX7_isTrapped_64 (by decide) (fun c64 => ?_) (fun c64 => ?_)
        · refine lv_iinc (v := nI (i + 1)) (lv' := [(1, .int (nI (i + 1))), (2, .int (nI (nbr h w c9x ((d + 1) % 4)))), (0, .ref m0)]) hx hb dX7_isTrapped_86 hl (k := 1) rfl (nI_1 _) (by decide) rfl (fun ls hl => ?_)
          refine lv_goto (tgt := 12) hx hb dX7_isTrapped_89 (by decide) ?_
          -- back 0
          exact ih12 (i + 1) (nbr h w c9x ((d + 1) % 4)) (mvC h w d o9 c9x) (by first | assumption | omega) (hnb9) (by rw [show hp - (i + 1) = m9 by omega]; rw [if_neg (opn_n c64)] at hF; exact hF) (Or.inr (opn_n c64)) (by omega) H _ ls (lv_sub hl [0, 2] rfl) hw
        · have hop := opn_y c64
          rw [if_pos hop.1] at hF
          refine lv_aload_n hx hb dX7_isTrapped_67 rfl (lv_at hl 2 rfl) ?_
          refine k_get (pre := []) C0 hw hinX7 rfl 0 (by decide) (hts (.fieldLink RX7 7 "SlabDunesModel" "all" "[I") (by decide +kernel)) rfl rfl dX7_isTrapped_68 ?_
          refine lv_aload_n hx hb dX7_isTrapped_71 rfl (lv_at hl 2 rfl) ?_
          refine k_get (pre := []) C0 hw hinX7 rfl 5 (by decide) (hts (.fieldLink RX7 137 "SlabDunesModel" "place" "I") (by decide +kernel)) rfl rfl dX7_isTrapped_72 ?_
          refine lv_iconst (v := 3) hx hb dX7_isTrapped_75 (by decide) ?_
          refine k_S (As := [.int (nI (nbr h w c9x ((d + 1) % 4))), .int 3]) (rest := [.ref A0]) (pre := []) (mid := []) C0 (c_X7_at l E (nbr h w c9x ((d + 1) % 4)) 3 ) (va_cwS 2 hts gX7_isTrapped_X7_at rfl rfl rfl (by decide +kernel) ⟨Nat.le_of_ble_eq_true rfl, Nat.le_of_ble_eq_true rfl⟩) hw rfl (fun _ => []) (fun _ => rfl) rfl hl.1 rfl (Nat.le_of_ble_eq_true rfl) dX7_isTrapped_76 ⟨Nat.le_of_ble_eq_true rfl, Nat.le_of_ble_eq_true rfl⟩ (fun r u H locs hq99 hw => ?_)
          subst hq99
          have hw : kW E AA sx (List.flatten [oc m0 7 [.ref A0, .ref V0, .ref Z0, .int sm, .int th, .int (nI (nbr h w c9x ((d + 1) % 4))), .int (nI (kk + 1)), .ref D0, .ref W0, .ref T0, .int tl, .int tw, .int tc], ac E A0 985 (mA h w (nI d) s0 z st he ke tu ca tr (mvC h w d o9 c9x) la)]) H locs := hw
          refine W.eq (g2 := F0 mm 79 ls [.int (nI (25 + 5 * (nbr h w c9x ((d + 1) % 4)) + 3)), .ref A0]) rfl ?_
          refine lv_dup2_11 hx hb dX7_isTrapped_79 rfl rfl ?_
          refine k_iald (pre := [oc m0 7 [.ref A0, .ref V0, .ref Z0, .int sm, .int th, .int (nI (nbr h w c9x ((d + 1) % 4))), .int (nI (kk + 1)), .ref D0, .ref W0, .ref T0, .int tl, .int tw, .int tc]]) (l1 := []) C0 hw (i := nI (25 + 5 * (nbr h w c9x ((d + 1) % 4)) + 3)) (kinN (by omega) (by decide)) dX7_isTrapped_80 ?_
          refine W.eq (g2 := F0 mm 81 ls [.int (trpN ca tr (nbr h w c9x ((d + 1) % 4))), .int (nI (25 + 5 * (nbr h w c9x ((d + 1) % 4)) + 3)), .ref A0]) (congrArg (fun z9 => F0 mm 81 ls [.int z9, .int (nI (25 + 5 * (nbr h w c9x ((d + 1) % 4)) + 3)), .ref A0]) (show ((mA h w (nI d) s0 z st he ke tu ca tr (mvC h w d o9 c9x) la) (Int32.toNatClampNeg (nI (25 + 5 * (nbr h w c9x ((d + 1) % 4)) + 3))) : Int32) = trpN ca tr (nbr h w c9x ((d + 1) % 4)) from mA_ld (i := 3) hnb9 hn9.1 (by decide))) ?_
          refine lv_iconst (v := 1) hx hb dX7_isTrapped_81 (by decide) ?_
          refine lv_iadd hx hb dX7_isTrapped_82 ?_
          refine k_iast (pre := [oc m0 7 [.ref A0, .ref V0, .ref Z0, .int sm, .int th, .int (nI (nbr h w c9x ((d + 1) % 4))), .int (nI (kk + 1)), .ref D0, .ref W0, .ref T0, .int tl, .int tw, .int tc]]) (l1 := []) C0 hw (i := nI (25 + 5 * (nbr h w c9x ((d + 1) % 4)) + 3)) (kinN (by omega) (by decide)) dX7_isTrapped_83 (fun H locs hw => ?_)
          have hw : kW E AA sx (List.flatten [oc m0 7 [.ref A0, .ref V0, .ref Z0, .int sm, .int th, .int (nI (nbr h w c9x ((d + 1) % 4))), .int (nI (kk + 1)), .ref D0, .ref W0, .ref T0, .int tl, .int tw, .int tc], ac E A0 985 (upd (mA h w (nI d) s0 z st he ke tu ca tr (mvC h w d o9 c9x) la) (Int32.toNatClampNeg (nI (25 + 5 * (nbr h w c9x ((d + 1) % 4)) + 3))) ((trpN ca tr (nbr h w c9x ((d + 1) % 4))) + 1))]) H locs := hw
          have e8 : trO ca tr (hopF h w d ca tr hp k co).1 = upd tr (nbr h w c9x ((d + 1) % 4)) (tr (nbr h w c9x ((d + 1) % 4)) + 1) := by rw [← kpair1 hF]; exact if_pos hop.1
          have hw : kW E AA sx (List.flatten [oc m0 7 [.ref A0, .ref V0, .ref Z0, .int sm, .int th, .int (nI (hopF h w d ca tr hp k co).1), .int (nI (kk + 1)), .ref D0, .ref W0, .ref T0, .int tl, .int tw, .int tc], ac E A0 985 (upd (mA h w (nI d) s0 z st he ke tu ca tr (mvC h w d o9 c9x) la) (Int32.toNatClampNeg (nI (25 + 5 * (nbr h w c9x ((d + 1) % 4)) + 3))) ((trpN ca tr (nbr h w c9x ((d + 1) % 4))) + 1))]) H locs := by have h99 := congrArg (fun z9 : Int32 => (List.flatten [oc m0 7 [.ref A0, .ref V0, .ref Z0, .int sm, .int th, .int z9, .int (nI (kk + 1)), .ref D0, .ref W0, .ref T0, .int tl, .int tw, .int tc], ac E A0 985 (upd (mA h w (nI d) s0 z st he ke tu ca tr (mvC h w d o9 c9x) la) (Int32.toNatClampNeg (nI (25 + 5 * (nbr h w c9x ((d + 1) % 4)) + 3))) ((trpN ca tr (nbr h w c9x ((d + 1) % 4))) + 1))] : va_W)) (show ((nI (nbr h w c9x ((d + 1) % 4))) : Int32) = nI (hopF h w d ca tr hp k co).1 from congrArg nI (kpair1 hF)); rw [← h99]; exact hw
          have hw : kW E AA sx (List.flatten [oc m0 7 [.ref A0, .ref V0, .ref Z0, .int sm, .int th, .int (nI (hopF h w d ca tr hp k co).1), .int (nI (kk + 1)), .ref D0, .ref W0, .ref T0, .int tl, .int tw, .int tc], ac E A0 985 (mA h w (nI d) s0 z st he ke tu ca (upd tr (nbr h w c9x ((d + 1) % 4)) (tr (nbr h w c9x ((d + 1) % 4)) + 1)) (mvC h w d o9 c9x) la)]) H locs := kW.arr (pre := [oc m0 7 [.ref A0, .ref V0, .ref Z0, .int sm, .int th, .int (nI (hopF h w d ca tr hp k co).1), .int (nI (kk + 1)), .ref D0, .ref W0, .ref T0, .int tl, .int tw, .int tc]]) (l1 := []) hw (fun j9 _ => mA_tp hnb9 hn9.1 hop.2 j9)
          have hw : kW E AA sx (List.flatten [oc m0 7 [.ref A0, .ref V0, .ref Z0, .int sm, .int th, .int (nI (hopF h w d ca tr hp k co).1), .int (nI (kk + 1)), .ref D0, .ref W0, .ref T0, .int tl, .int tw, .int tc], ac E A0 985 (mA h w (nI d) s0 z st he ke tu ca (trO ca tr (hopF h w d ca tr hp k co).1) ((hopF h w d ca tr hp k co).2) la)]) H locs := kW.arr (pre := [oc m0 7 [.ref A0, .ref V0, .ref Z0, .int sm, .int th, .int (nI (hopF h w d ca tr hp k co).1), .int (nI (kk + 1)), .ref D0, .ref W0, .ref T0, .int tl, .int tw, .int tc]]) (l1 := []) hw (fun j9 _ => by rw [e8, ← kpair2 hF])
          refine lv_iconst (v := 1) hx hb dX7_isTrapped_84 (by decide) ?_
          -- leaf 1
          exact k_zret C0 hr hlk hw () (rfl) ((if_pos (by rw [← kpair1 hF]; exact hop.1)).symm) (rfl) (Nat.le_of_ble_eq_true rfl) (Nat.le_of_ble_eq_true rfl) dX7_isTrapped_85
  exact loop12 ((hp - 0) + 1) 0 k co (by first | assumption | omega) (by first | assumption | omega) (rfl) (Or.inl rfl) (Nat.lt_succ_self _) H _ ls (lv_sub hl [0, 1] rfl) hw

abbrev rmX7_reasonToStay : Room := { frames := 3, cells := 0, slots := 0, locals := 74 }
set_option maxHeartbeats 4000000 in
set_option maxRecDepth 100000 in
theorem c_X7_reasonToStay (l : Launch) (E : kE) (m0 : Nat) (A0 : Nat) (V0 : Nat) (Z0 : Nat) (D0 : Nat) (W0 : Nat) (T0 : Nat) (sm : Int32) (th : Int32) (tl : Int32) (tw : Int32) (tc : Int32) (h : Nat) (w : Nat) (d : Nat) (n0 : Nat) (z : Int32) (st : Nat → Int32) (he : Nat → Int32) (ke : Nat → Int32) (tu : Nat → Int32) (ca : Nat → Int32) (tr : Nat → Int32) (co : Nat → Int32) (la : Nat → Int32) (k : Nat) (kk : Nat) (hp : Nat) (hG : kG h w) (hc : k < h * w) (hd : d < 4) (hn0 : n0 < 2147483648) (hst0 : st 0 = nI hp) (hp8 : hp ≤ 8) (hp1 : 1 ≤ hp) (hkk : kk < 12) : kC E l yX7_reasonToStay wsX7_reasonToStay rmX7_reasonToStay [.ref m0] (List.flatten [oc m0 7 [.ref A0, .ref V0, .ref Z0, .int sm, .int th, .int (nI k), .int (nI kk), .ref D0, .ref W0, .ref T0, .int tl, .int tw, .int tc], ac E A0 985 (mA h w (nI d) (nI n0) z st he ke tu ca tr co la)]) kI (fun (r : Int32) (_ : Unit) => r = nI (rsS h w d st he tu ca tr (hopF h w d ca tr hp k co).1 (kk + 1) n0).1) (fun _ => List.flatten [oc m0 7 [.ref A0, .ref V0, .ref Z0, .int sm, .int th, .int (nI (hopF h w d ca tr hp k co).1), .int (nI (kk + 1)), .ref D0, .ref W0, .ref T0, .int tl, .int tw, .int tc], ac E A0 985 (mA h w (nI d) (nI (rsS h w d st he tu ca tr (hopF h w d ca tr hp k co).1 (kk + 1) n0).2) z st he ke tu ca (trO ca tr (hopF h w d ca tr hp k co).1) ((hopF h w d ca tr hp k co).2) la)]) 0 0 := by
  refine k_body (cc := cX7_reasonToStay) (maxL := 2) (ret := (some .int)) (by decide) rfl (Nat.le_of_ble_eq_true rfl) ?_
  intro pp ee sx mm aa bb me cd H locs AA ls C0 hr hlk hnm hl hw
  obtain ⟨hx, hb, hml, hown, hts⟩ := id C0
  have hl : lv_has ls 2 [(0, .ref m0)] := hl
  have hw : kW E AA sx (List.flatten [oc m0 7 [.ref A0, .ref V0, .ref Z0, .int sm, .int th, .int (nI k), .int (nI kk), .ref D0, .ref W0, .ref T0, .int tl, .int tw, .int tc], ac E A0 985 (mA h w (nI d) (nI n0) z st he ke tu ca tr co la)]) H locs := hw
  have hn9 := kG_n hG
  have hG9 := id hG
  obtain ⟨hG1, hG2, hG3, hG4⟩ := hG9
  have hinX7 : ∀ w ∈ u_ws RX7 TX7 13, w ∈ wsX7_reasonToStay := by decide +kernel
  have hhl9 := hopF_lt (d := d) (ca := ca) (tr := tr) hG hp k co hc
  refine lv_aload_n hx hb dX7_reasonToStay_0 rfl (lv_at hl 0 rfl) ?_
  refine k_V (As := []) (rest := []) (pre := []) (mid := [oc m0 7 [.ref A0, .ref V0, .ref Z0, .int sm, .int th, .int (nI k), .int (nI kk), .ref D0, .ref W0, .ref T0, .int tl, .int tw, .int tc], ac E A0 985 (mA h w (nI d) (nI n0) z st he ke tu ca tr co la)]) C0 (c_X7_isTrapped l E m0 A0 V0 Z0 D0 W0 T0 sm th tl tw tc h w d (nI n0) z st he ke tu ca tr co la k kk hp (by first | assumption | omega) (by first | assumption | omega) (by first | assumption | omega) (by first | assumption | omega) (by first | assumption | omega) (by first | assumption | omega) (by omega)) (cwV 0 hts gX7_reasonToStay_X7_isTrapped rfl rfl rfl (by decide +kernel) ⟨Nat.le_of_ble_eq_true rfl, Nat.le_of_ble_eq_true rfl⟩) hw rfl (fun _ => [oc m0 7 [.ref A0, .ref V0, .ref Z0, .int sm, .int th, .int (nI (hopF h w d ca tr hp k co).1), .int (nI (kk + 1)), .ref D0, .ref W0, .ref T0, .int tl, .int tw, .int tc], ac E A0 985 (mA h w (nI d) (nI n0) z st he ke tu ca (trO ca tr (hopF h w d ca tr hp k co).1) ((hopF h w d ca tr hp k co).2) la)]) (fun _ => rfl) 0 7 rfl rfl rfl rfl hl.1 rfl (Nat.le_of_ble_eq_true rfl) dX7_reasonToStay_1 ⟨Nat.le_of_ble_eq_true rfl, Nat.le_of_ble_eq_true rfl⟩ (fun r u H locs hq99 hw => ?_)
  subst hq99
  have hw : kW E AA sx (List.flatten [oc m0 7 [.ref A0, .ref V0, .ref Z0, .int sm, .int th, .int (nI (hopF h w d ca tr hp k co).1), .int (nI (kk + 1)), .ref D0, .ref W0, .ref T0, .int tl, .int tw, .int tc], ac E A0 985 (mA h w (nI d) (nI n0) z st he ke tu ca (trO ca tr (hopF h w d ca tr hp k co).1) ((hopF h w d ca tr hp k co).2) la)]) H locs := hw
  refine W.eq (g2 := F0 mm 4 ls [.int (if opnB ca tr (hopF h w d ca tr hp k co).1 then 1 else 0)]) rfl ?_
  refine lv_if_eq (tgt := 9) hx hb dX7_reasonToStay_4 (by decide) (fun c4 => ?_) (fun c4 => ?_)
  · have c4 := kb10t c4
    refine lv_aload_n hx hb dX7_reasonToStay_9 rfl (lv_at hl 0 rfl) ?_
    refine lv_aload_n hx hb dX7_reasonToStay_10 rfl (lv_at hl 0 rfl) ?_
    refine k_get (pre := []) C0 hw hinX7 rfl 5 (by decide) (hts (.fieldLink RX7 137 "SlabDunesModel" "place" "I") (by decide +kernel)) rfl rfl dX7_reasonToStay_11 ?_
    refine k_V (As := [.int (nI (hopF h w d ca tr hp k co).1)]) (rest := []) (pre := []) (mid := [oc m0 7 [.ref A0, .ref V0, .ref Z0, .int sm, .int th, .int (nI (hopF h w d ca tr hp k co).1), .int (nI (kk + 1)), .ref D0, .ref W0, .ref T0, .int tl, .int tw, .int tc], ac E A0 985 (mA h w (nI d) (nI n0) z st he ke tu ca (trO ca tr (hopF h w d ca tr hp k co).1) ((hopF h w d ca tr hp k co).2) la)]) C0 (c_X7_isInShadow l E m0 A0 V0 Z0 D0 W0 T0 sm th (nI (hopF h w d ca tr hp k co).1) (nI (kk + 1)) tl tw tc h w d (nI n0) z st he ke tu ca (trO ca tr (hopF h w d ca tr hp k co).1) ((hopF h w d ca tr hp k co).2) la ((hopF h w d ca tr hp k co).1) (by first | assumption | omega) (hhl9) (by first | assumption | omega)) (cwV 1 hts gX7_reasonToStay_X7_isInShadow rfl rfl rfl (by decide +kernel) ⟨Nat.le_of_ble_eq_true rfl, Nat.le_of_ble_eq_true rfl⟩) hw rfl (fun _ => [oc m0 7 [.ref A0, .ref V0, .ref Z0, .int sm, .int th, .int (nI (hopF h w d ca tr hp k co).1), .int (nI (kk + 1)), .ref D0, .ref W0, .ref T0, .int tl, .int tw, .int tc], ac E A0 985 (mA h w (nI d) (nI n0) z st he ke tu ca (trO ca tr (hopF h w d ca tr hp k co).1) ((hopF h w d ca tr hp k co).2) la)]) (fun _ => rfl) 0 7 rfl rfl rfl rfl hl.1 rfl (Nat.le_of_ble_eq_true rfl) dX7_reasonToStay_14 ⟨Nat.le_of_ble_eq_true rfl, Nat.le_of_ble_eq_true rfl⟩ (fun r u H locs hq99 hw => ?_)
    subst hq99
    have hw : kW E AA sx (List.flatten [oc m0 7 [.ref A0, .ref V0, .ref Z0, .int sm, .int th, .int (nI (hopF h w d ca tr hp k co).1), .int (nI (kk + 1)), .ref D0, .ref W0, .ref T0, .int tl, .int tw, .int tc], ac E A0 985 (mA h w (nI d) (nI n0) z st he ke tu ca (trO ca tr (hopF h w d ca tr hp k co).1) ((hopF h w d ca tr hp k co).2) la)]) H locs := hw
    refine W.eq (g2 := F0 mm 17 ls [.int (if shd h w d he ((hopF h w d ca tr hp k co).1) then 1 else 0)]) rfl ?_
    refine lv_if_eq (tgt := 23) hx hb dX7_reasonToStay_17 (by decide) (fun c17 => ?_) (fun c17 => ?_)
    · have c17 := kb10t c17
      refine lv_aload_n hx hb dX7_reasonToStay_23 rfl (lv_at hl 0 rfl) ?_
      refine k_get (pre := []) C0 hw hinX7 rfl 0 (by decide) (hts (.fieldLink RX7 7 "SlabDunesModel" "all" "[I") (by decide +kernel)) rfl rfl dX7_reasonToStay_24 ?_
      refine lv_aload_n hx hb dX7_reasonToStay_27 rfl (lv_at hl 0 rfl) ?_
      refine lv_aload_n hx hb dX7_reasonToStay_28 rfl (lv_at hl 0 rfl) ?_
      refine k_get (pre := []) C0 hw hinX7 rfl 5 (by decide) (hts (.fieldLink RX7 137 "SlabDunesModel" "place" "I") (by decide +kernel)) rfl rfl dX7_reasonToStay_29 ?_
      refine lv_iconst (v := 0) hx hb dX7_reasonToStay_32 (by decide) ?_
      refine k_V (As := [.int (nI (hopF h w d ca tr hp k co).1), .int 0]) (rest := [.ref A0]) (pre := []) (mid := [oc m0 7 [.ref A0, .ref V0, .ref Z0, .int sm, .int th, .int (nI (hopF h w d ca tr hp k co).1), .int (nI (kk + 1)), .ref D0, .ref W0, .ref T0, .int tl, .int tw, .int tc], ac E A0 985 (mA h w (nI d) (nI n0) z st he ke tu ca (trO ca tr (hopF h w d ca tr hp k co).1) ((hopF h w d ca tr hp k co).2) la)]) C0 (c_X7_of0 l E m0 A0 V0 Z0 D0 W0 T0 sm th (nI (hopF h w d ca tr hp k co).1) (nI (kk + 1)) tl tw tc h w (nI d) (nI n0) z st he ke tu ca (trO ca tr (hopF h w d ca tr hp k co).1) ((hopF h w d ca tr hp k co).2) la ((hopF h w d ca tr hp k co).1) (by first | assumption | omega) (hhl9)) (cwV 2 hts gX7_reasonToStay_X7_of rfl rfl rfl (by decide +kernel) ⟨Nat.le_of_ble_eq_true rfl, Nat.le_of_ble_eq_true rfl⟩) hw rfl (fun _ => [oc m0 7 [.ref A0, .ref V0, .ref Z0, .int sm, .int th, .int (nI (hopF h w d ca tr hp k co).1), .int (nI (kk + 1)), .ref D0, .ref W0, .ref T0, .int tl, .int tw, .int tc], ac E A0 985 (mA h w (nI d) (nI n0) z st he ke tu ca (trO ca tr (hopF h w d ca tr hp k co).1) ((hopF h w d ca tr hp k co).2) la)]) (fun _ => rfl) 0 7 rfl rfl rfl rfl hl.1 rfl (Nat.le_of_ble_eq_true rfl) dX7_reasonToStay_33 ⟨Nat.le_of_ble_eq_true rfl, Nat.le_of_ble_eq_true rfl⟩ (fun r u H locs hq99 hw => ?_)
      subst hq99
      have hw : kW E AA sx (List.flatten [oc m0 7 [.ref A0, .ref V0, .ref Z0, .int sm, .int th, .int (nI (hopF h w d ca tr hp k co).1), .int (nI (kk + 1)), .ref D0, .ref W0, .ref T0, .int tl, .int tw, .int tc], ac E A0 985 (mA h w (nI d) (nI n0) z st he ke tu ca (trO ca tr (hopF h w d ca tr hp k co).1) ((hopF h w d ca tr hp k co).2) la)]) H locs := hw
      refine W.eq (g2 := F0 mm 36 ls [.int (he ((hopF h w d ca tr hp k co).1)), .ref A0]) rfl ?_
      have join36 : ∀ (H : Heap) (locs : List Loc) (ls : Array Slot), lv_has ls 2 [(0, .ref m0)] → kW E AA sx (List.flatten [oc m0 7 [.ref A0, .ref V0, .ref Z0, .int sm, .int th, .int (nI (hopF h w d ca tr hp k co).1), .int (nI (kk + 1)), .ref D0, .ref W0, .ref T0, .int tl, .int tw, .int tc], ac E A0 985 (mA h w (nI d) (nI n0) z st he ke tu ca (trO ca tr (hopF h w d ca tr hp k co).1) ((hopF h w d ca tr hp k co).2) la)]) H locs → W pp l ee rmX7_reasonToStay sx mm aa bb me cd H locs 0 0 (kEnd E kI (fun (r : Int32) (_ : Unit) => r = nI (rsS h w d st he tu ca tr (hopF h w d ca tr hp k co).1 (kk + 1) n0).1) (fun _ => List.flatten [oc m0 7 [.ref A0, .ref V0, .ref Z0, .int sm, .int th, .int (nI (hopF h w d ca tr hp k co).1), .int (nI (kk + 1)), .ref D0, .ref W0, .ref T0, .int tl, .int tw, .int tc], ac E A0 985 (mA h w (nI d) (nI (rsS h w d st he tu ca tr (hopF h w d ca tr hp k co).1 (kk + 1) n0).2) z st he ke tu ca (trO ca tr (hopF h w d ca tr hp k co).1) ((hopF h w d ca tr hp k co).2) la)]) bb aa sx AA 0 0) (F0 mm 44 ls [.int (if he (hopF h w d ca tr hp k co).1 = 0 then 2 else 1), .ref A0]) := by
        intro H locs ls hl hw
        refine k_iald (pre := [oc m0 7 [.ref A0, .ref V0, .ref Z0, .int sm, .int th, .int (nI (hopF h w d ca tr hp k co).1), .int (nI (kk + 1)), .ref D0, .ref W0, .ref T0, .int tl, .int tw, .int tc]]) (l1 := []) C0 hw (i := if he (hopF h w d ca tr hp k co).1 = 0 then 2 else 1) (by split; exact kinN (n := 2) (by decide) (by decide); exact kinN (n := 1) (by decide) (by decide)) dX7_reasonToStay_44 ?_
        refine W.eq (g2 := F0 mm 45 ls [.int (gnd st he (hopF h w d ca tr hp k co).1)]) (congrArg (fun z9 => F0 mm 45 ls [.int z9]) (show ((mA h w (nI d) (nI n0) z st he ke tu ca (trO ca tr (hopF h w d ca tr hp k co).1) ((hopF h w d ca tr hp k co).2) la) (Int32.toNatClampNeg (if he (hopF h w d ca tr hp k co).1 = 0 then 2 else 1)) : Int32) = gnd st he (hopF h w d ca tr hp k co).1 from by unfold gnd; by_cases h99 : he (hopF h w d ca tr hp k co).1 = 0 <;> simp only [h99, if_true, if_false] <;> rfl)) ?_
        refine lv_aload_n hx hb dX7_reasonToStay_45 rfl (lv_at hl 0 rfl) ?_
        refine lv_aload_n hx hb dX7_reasonToStay_46 rfl (lv_at hl 0 rfl) ?_
        refine k_get (pre := []) C0 hw hinX7 rfl 5 (by decide) (hts (.fieldLink RX7 137 "SlabDunesModel" "place" "I") (by decide +kernel)) rfl rfl dX7_reasonToStay_47 ?_
        refine lv_iconst (v := 1) hx hb dX7_reasonToStay_50 (by decide) ?_
        refine k_V (As := [.int (nI (hopF h w d ca tr hp k co).1), .int 1]) (rest := [.int (gnd st he (hopF h w d ca tr hp k co).1)]) (pre := []) (mid := [oc m0 7 [.ref A0, .ref V0, .ref Z0, .int sm, .int th, .int (nI (hopF h w d ca tr hp k co).1), .int (nI (kk + 1)), .ref D0, .ref W0, .ref T0, .int tl, .int tw, .int tc], ac E A0 985 (mA h w (nI d) (nI n0) z st he ke tu ca (trO ca tr (hopF h w d ca tr hp k co).1) ((hopF h w d ca tr hp k co).2) la)]) C0 (c_X7_of1 l E m0 A0 V0 Z0 D0 W0 T0 sm th (nI (hopF h w d ca tr hp k co).1) (nI (kk + 1)) tl tw tc h w (nI d) (nI n0) z st he ke tu ca (trO ca tr (hopF h w d ca tr hp k co).1) ((hopF h w d ca tr hp k co).2) la ((hopF h w d ca tr hp k co).1) (by first | assumption | omega) (hhl9)) (cwV 2 hts gX7_reasonToStay_X7_of rfl rfl rfl (by decide +kernel) ⟨Nat.le_of_ble_eq_true rfl, Nat.le_of_ble_eq_true rfl⟩) hw rfl (fun _ => [oc m0 7 [.ref A0, .ref V0, .ref Z0, .int sm, .int th, .int (nI (hopF h w d ca tr hp k co).1), .int (nI (kk + 1)), .ref D0, .ref W0, .ref T0, .int tl, .int tw, .int tc], ac E A0 985 (mA h w (nI d) (nI n0) z st he ke tu ca (trO ca tr (hopF h w d ca tr hp k co).1) ((hopF h w d ca tr hp k co).2) la)]) (fun _ => rfl) 0 7 rfl rfl rfl rfl hl.1 rfl (Nat.le_of_ble_eq_true rfl) dX7_reasonToStay_51 ⟨Nat.le_of_ble_eq_true rfl, Nat.le_of_ble_eq_true rfl⟩ (fun r u H locs hq99 hw => ?_)
        subst hq99
        have hw : kW E AA sx (List.flatten [oc m0 7 [.ref A0, .ref V0, .ref Z0, .int sm, .int th, .int (nI (hopF h w d ca tr hp k co).1), .int (nI (kk + 1)), .ref D0, .ref W0, .ref T0, .int tl, .int tw, .int tc], ac E A0 985 (mA h w (nI d) (nI n0) z st he ke tu ca (trO ca tr (hopF h w d ca tr hp k co).1) ((hopF h w d ca tr hp k co).2) la)]) H locs := hw
        refine W.eq (g2 := F0 mm 54 ls [.int (tu ((hopF h w d ca tr hp k co).1)), .int (gnd st he (hopF h w d ca tr hp k co).1)]) rfl ?_
        refine lv_iadd hx hb dX7_reasonToStay_54 ?_
        refine lv_istore_n (lv' := [(1, .int ((gnd st he (hopF h w d ca tr hp k co).1) + (tu ((hopF h w d ca tr hp k co).1)))), (0, .ref m0)]) hx hb dX7_reasonToStay_55 rfl hl (by decide) rfl (fun ls hl => ?_)
        refine lv_aload_n hx hb dX7_reasonToStay_56 rfl (lv_at hl 1 rfl) ?_
        refine lv_bipush (v := 100) hx hb dX7_reasonToStay_57 (by decide) ?_
        refine k_V (As := [.int 100]) (rest := []) (pre := []) (mid := [oc m0 7 [.ref A0, .ref V0, .ref Z0, .int sm, .int th, .int (nI (hopF h w d ca tr hp k co).1), .int (nI (kk + 1)), .ref D0, .ref W0, .ref T0, .int tl, .int tw, .int tc], ac E A0 985 (mA h w (nI d) (nI n0) z st he ke tu ca (trO ca tr (hopF h w d ca tr hp k co).1) ((hopF h w d ca tr hp k co).2) la)]) C0 (c_X7_draws l E m0 A0 V0 Z0 D0 W0 T0 sm th (nI (hopF h w d ca tr hp k co).1) (nI (kk + 1)) tl tw tc h w n0 (nI d) z st he ke tu ca (trO ca tr (hopF h w d ca tr hp k co).1) ((hopF h w d ca tr hp k co).2) la 100 (by first | assumption | omega) (by first | assumption | omega) (by first | assumption | omega)) (cwV 1 hts gX7_reasonToStay_X7_draws rfl rfl rfl (by decide +kernel) ⟨Nat.le_of_ble_eq_true rfl, Nat.le_of_ble_eq_true rfl⟩) hw rfl (fun _ => [oc m0 7 [.ref A0, .ref V0, .ref Z0, .int sm, .int th, .int (nI (hopF h w d ca tr hp k co).1), .int (nI (kk + 1)), .ref D0, .ref W0, .ref T0, .int tl, .int tw, .int tc], ac E A0 985 (mA h w (nI d) (nI (drwS n0)) z st he ke tu ca (trO ca tr (hopF h w d ca tr hp k co).1) ((hopF h w d ca tr hp k co).2) la)]) (fun _ => rfl) 0 7 rfl rfl rfl rfl hl.1 rfl (Nat.le_of_ble_eq_true rfl) dX7_reasonToStay_59 ⟨Nat.le_of_ble_eq_true rfl, Nat.le_of_ble_eq_true rfl⟩ (fun r u H locs hq99 hw => ?_)
        subst hq99
        have hw : kW E AA sx (List.flatten [oc m0 7 [.ref A0, .ref V0, .ref Z0, .int sm, .int th, .int (nI (hopF h w d ca tr hp k co).1), .int (nI (kk + 1)), .ref D0, .ref W0, .ref T0, .int tl, .int tw, .int tc], ac E A0 985 (mA h w (nI d) (nI (drwS n0)) z st he ke tu ca (trO ca tr (hopF h w d ca tr hp k co).1) ((hopF h w d ca tr hp k co).2) la)]) H locs := hw
        refine W.eq (g2 := F0 mm 62 ls [.int (nI (drwS n0 / 65536 % 100))]) rfl ?_
        refine W.eq (g2 := F0 mm 62 ls [.int (nI (d100 n0))]) (congrArg (fun z9 => F0 mm 62 ls [.int z9]) (show (nI (drwS n0 / 65536 % 100) : Int32) = nI (d100 n0) from d100_eq n0)) ?_
        refine lv_iload_n hx hb dX7_reasonToStay_62 rfl (lv_at hl 0 rfl) ?_
        refine lv_icmp_ge (tgt := 71) hx hb dX7_reasonToStay_63 (by decide) (fun c63 => ?_) (fun c63 => ?_)
        · have hR : rsS h w d st he tu ca tr (hopF h w d ca tr hp k co).1 (kk + 1) n0 = (hop12 (kk + 1), drwS n0) := by unfold rsS; rw [if_neg c4, if_neg c17, if_pos c63]
          refine lv_aload_n hx hb dX7_reasonToStay_71 rfl (lv_at hl 1 rfl) ?_
          refine k_get (pre := []) C0 hw hinX7 rfl 6 (by decide) (hts (.fieldLink RX7 134 "SlabDunesModel" "hops" "I") (by decide +kernel)) rfl rfl dX7_reasonToStay_72 ?_
          refine lv_bipush (v := 12) hx hb dX7_reasonToStay_75 (by decide) ?_
          refine lv_icmp_ne (tgt := 85) hx hb dX7_reasonToStay_77 (by decide) (fun c77 => ?_) (fun c77 => ?_)
          · have c77 : ¬ (kk + 1) = 12 := fun h99 => c77 ((nI_eq (a := (kk + 1)) (b := 12) (by omega) (by omega)).mpr h99)
            refine lv_iconst (v := 0) hx hb dX7_reasonToStay_85 (by decide) ?_
            have hw : kW E AA sx (List.flatten [oc m0 7 [.ref A0, .ref V0, .ref Z0, .int sm, .int th, .int (nI (hopF h w d ca tr hp k co).1), .int (nI (kk + 1)), .ref D0, .ref W0, .ref T0, .int tl, .int tw, .int tc], ac E A0 985 (mA h w (nI d) (nI (rsS h w d st he tu ca tr (hopF h w d ca tr hp k co).1 (kk + 1) n0).2) z st he ke tu ca (trO ca tr (hopF h w d ca tr hp k co).1) ((hopF h w d ca tr hp k co).2) la)]) H locs := kW.arr (pre := [oc m0 7 [.ref A0, .ref V0, .ref Z0, .int sm, .int th, .int (nI (hopF h w d ca tr hp k co).1), .int (nI (kk + 1)), .ref D0, .ref W0, .ref T0, .int tl, .int tw, .int tc]]) (l1 := []) hw (fun j9 _ => by rw [hR])
            -- leaf 0
            exact k_iret C0 hr hlk hw () (rfl) (by rw [hR]; show (0 : Int32) = nI (hop12 (kk + 1)); rw [show hop12 (kk + 1) = 0 from if_pos (by omega)]; rfl) (Nat.le_of_ble_eq_true rfl) (Nat.le_of_ble_eq_true rfl) dX7_reasonToStay_86
          · have c77 : (kk + 1) = 12 := (nI_eq (a := (kk + 1)) (b := 12) (by omega) (by omega)).mp c77
            refine lv_bipush (v := 8) hx hb dX7_reasonToStay_80 (by decide) ?_
            refine lv_goto (tgt := 86) hx hb dX7_reasonToStay_82 (by decide) ?_
            have hw : kW E AA sx (List.flatten [oc m0 7 [.ref A0, .ref V0, .ref Z0, .int sm, .int th, .int (nI (hopF h w d ca tr hp k co).1), .int (nI (kk + 1)), .ref D0, .ref W0, .ref T0, .int tl, .int tw, .int tc], ac E A0 985 (mA h w (nI d) (nI (rsS h w d st he tu ca tr (hopF h w d ca tr hp k co).1 (kk + 1) n0).2) z st he ke tu ca (trO ca tr (hopF h w d ca tr hp k co).1) ((hopF h w d ca tr hp k co).2) la)]) H locs := kW.arr (pre := [oc m0 7 [.ref A0, .ref V0, .ref Z0, .int sm, .int th, .int (nI (hopF h w d ca tr hp k co).1), .int (nI (kk + 1)), .ref D0, .ref W0, .ref T0, .int tl, .int tw, .int tc]]) (l1 := []) hw (fun j9 _ => by rw [hR])
            -- leaf 1
            exact k_iret C0 hr hlk hw () (rfl) (by rw [hR]; show (8 : Int32) = nI (hop12 (kk + 1)); rw [show hop12 (kk + 1) = 8 from if_neg (by omega)]; rfl) (Nat.le_of_ble_eq_true rfl) (Nat.le_of_ble_eq_true rfl) dX7_reasonToStay_86
        · have hR : rsS h w d st he tu ca tr (hopF h w d ca tr hp k co).1 (kk + 1) n0 = (7, drwS n0) := by unfold rsS; rw [if_neg c4, if_neg c17, if_neg c63]
          refine lv_bipush (v := 7) hx hb dX7_reasonToStay_66 (by decide) ?_
          refine lv_goto (tgt := 86) hx hb dX7_reasonToStay_68 (by decide) ?_
          have hw : kW E AA sx (List.flatten [oc m0 7 [.ref A0, .ref V0, .ref Z0, .int sm, .int th, .int (nI (hopF h w d ca tr hp k co).1), .int (nI (kk + 1)), .ref D0, .ref W0, .ref T0, .int tl, .int tw, .int tc], ac E A0 985 (mA h w (nI d) (nI (rsS h w d st he tu ca tr (hopF h w d ca tr hp k co).1 (kk + 1) n0).2) z st he ke tu ca (trO ca tr (hopF h w d ca tr hp k co).1) ((hopF h w d ca tr hp k co).2) la)]) H locs := kW.arr (pre := [oc m0 7 [.ref A0, .ref V0, .ref Z0, .int sm, .int th, .int (nI (hopF h w d ca tr hp k co).1), .int (nI (kk + 1)), .ref D0, .ref W0, .ref T0, .int tl, .int tw, .int tc]]) (l1 := []) hw (fun j9 _ => by rw [hR])
          -- leaf 2
          exact k_iret C0 hr hlk hw () (rfl) (by have h99 := congrArg (fun x : Nat × Nat => nI x.1) hR; exact h99.symm) (Nat.le_of_ble_eq_true rfl) (Nat.le_of_ble_eq_true rfl) dX7_reasonToStay_86
      refine lv_if_ne (tgt := 43) hx hb dX7_reasonToStay_36 (by decide) (fun c36 => ?_) (fun c36 => ?_)
      · refine lv_iconst (v := 1) hx hb dX7_reasonToStay_43 (by decide) ?_
        refine W.eq (g2 := F0 mm 44 ls [.int (if he (hopF h w d ca tr hp k co).1 = 0 then 2 else 1), .ref A0]) (congrArg (fun z9 => F0 mm 44 ls [.int z9, .ref A0]) (show (1 : Int32) = if he (hopF h w d ca tr hp k co).1 = 0 then 2 else 1 from (if_neg c36).symm)) ?_
        exact join36 H _ ls (lv_sub hl [0] rfl) hw
      · refine lv_iconst (v := 2) hx hb dX7_reasonToStay_39 (by decide) ?_
        refine lv_goto (tgt := 44) hx hb dX7_reasonToStay_40 (by decide) ?_
        refine W.eq (g2 := F0 mm 44 ls [.int (if he (hopF h w d ca tr hp k co).1 = 0 then 2 else 1), .ref A0]) (congrArg (fun z9 => F0 mm 44 ls [.int z9, .ref A0]) (show (2 : Int32) = if he (hopF h w d ca tr hp k co).1 = 0 then 2 else 1 from (if_pos c36).symm)) ?_
        exact join36 H _ ls (lv_sub hl [0] rfl) hw
    · have c17 := kb10f c17
      have hR : rsS h w d st he tu ca tr (hopF h w d ca tr hp k co).1 (kk + 1) n0 = (6, n0) := by unfold rsS; rw [if_neg c4, if_pos c17]
      refine lv_bipush (v := 6) hx hb dX7_reasonToStay_20 (by decide) ?_
      have hw : kW E AA sx (List.flatten [oc m0 7 [.ref A0, .ref V0, .ref Z0, .int sm, .int th, .int (nI (hopF h w d ca tr hp k co).1), .int (nI (kk + 1)), .ref D0, .ref W0, .ref T0, .int tl, .int tw, .int tc], ac E A0 985 (mA h w (nI d) (nI (rsS h w d st he tu ca tr (hopF h w d ca tr hp k co).1 (kk + 1) n0).2) z st he ke tu ca (trO ca tr (hopF h w d ca tr hp k co).1) ((hopF h w d ca tr hp k co).2) la)]) H locs := kW.arr (pre := [oc m0 7 [.ref A0, .ref V0, .ref Z0, .int sm, .int th, .int (nI (hopF h w d ca tr hp k co).1), .int (nI (kk + 1)), .ref D0, .ref W0, .ref T0, .int tl, .int tw, .int tc]]) (l1 := []) hw (fun j9 _ => by rw [hR])
      -- leaf 3
      exact k_iret C0 hr hlk hw () (rfl) (by have h99 := congrArg (fun x : Nat × Nat => nI x.1) hR; exact h99.symm) (Nat.le_of_ble_eq_true rfl) (Nat.le_of_ble_eq_true rfl) dX7_reasonToStay_22
  · have c4 := kb10f c4
    have hR : rsS h w d st he tu ca tr (hopF h w d ca tr hp k co).1 (kk + 1) n0 = (5, n0) := by unfold rsS; rw [if_pos c4]
    refine lv_iconst (v := 5) hx hb dX7_reasonToStay_7 (by decide) ?_
    have hw : kW E AA sx (List.flatten [oc m0 7 [.ref A0, .ref V0, .ref Z0, .int sm, .int th, .int (nI (hopF h w d ca tr hp k co).1), .int (nI (kk + 1)), .ref D0, .ref W0, .ref T0, .int tl, .int tw, .int tc], ac E A0 985 (mA h w (nI d) (nI (rsS h w d st he tu ca tr (hopF h w d ca tr hp k co).1 (kk + 1) n0).2) z st he ke tu ca (trO ca tr (hopF h w d ca tr hp k co).1) ((hopF h w d ca tr hp k co).2) la)]) H locs := kW.arr (pre := [oc m0 7 [.ref A0, .ref V0, .ref Z0, .int sm, .int th, .int (nI (hopF h w d ca tr hp k co).1), .int (nI (kk + 1)), .ref D0, .ref W0, .ref T0, .int tl, .int tw, .int tc]]) (l1 := []) hw (fun j9 _ => by rw [hR])
    -- leaf 4
    exact k_iret C0 hr hlk hw () (rfl) (by have h99 := congrArg (fun x : Nat × Nat => nI x.1) hR; exact h99.symm) (Nat.le_of_ble_eq_true rfl) (Nat.le_of_ble_eq_true rfl) dX7_reasonToStay_8
