/-! THE MODEL: what its public methods answer -/
theorem kwv {v : Int32} (h1 : ¬ v < -1 ∧ ¬ 999999 < v) (h2 : ¬ v = -1) : ¬ v < 0 ∧ ¬ 999999 < v := by
  refine ⟨fun h9 => ?_, h1.2⟩
  have h3 := h1.1
  rw [Int32.lt_iff_toInt_lt] at h3 h9
  have e0 : (0 : Int32).toInt = 0 := rfl
  have e1 : (-1 : Int32).toInt = -1 := rfl
  rw [e0] at h9
  rw [e1] at h3
  exact h2 (Int32.toInt_inj.mp (by rw [e1]; omega))
theorem kvw {v : Int32} (h1 : ¬ v < 0 ∧ ¬ 999999 < v) : ¬ v < -1 ∧ ¬ 999999 < v := by
  refine ⟨fun h9 => ?_, h1.2⟩
  have h3 := h1.1
  rw [Int32.lt_iff_toInt_lt] at h3 h9
  have e0 : (0 : Int32).toInt = 0 := rfl
  have e1 : (-1 : Int32).toInt = -1 := rfl
  rw [e0] at h3
  rw [e1] at h9
  omega
theorem kx12 {x : Int32} (h : ¬ x < 1 ∧ ¬ 2 < x) : x = 1 ∨ x = 2 := by
  obtain ⟨h1, h2⟩ := h
  rw [Int32.lt_iff_toInt_lt] at h1 h2
  have e1 : (1 : Int32).toInt = 1 := rfl
  have e2 : (2 : Int32).toInt = 2 := rfl
  rw [e1] at h1
  rw [e2] at h2
  rcases (show x.toInt = 1 ∨ x.toInt = 2 by omega) with e | e
  · exact Or.inl (Int32.toInt_inj.mp (by rw [e1, e]))
  · exact Or.inr (Int32.toInt_inj.mp (by rw [e2, e]))
theorem stV_0 {x v : Int32} (h0 : x = 0) : (if ¬ v < 1 ∧ ¬ 8 < v then (1 : Int32) else 0) = if stB x v then 1 else 0 := by
  have h1 : stB x v = decide (¬ v < 1 ∧ ¬ 8 < v) := by unfold stB; rw [if_pos h0]
  rw [h1]
  by_cases h : ¬ v < 1 ∧ ¬ 8 < v
  · rw [if_pos h, if_pos (decide_eq_true h)]
  · rw [if_neg h, if_neg (by rw [decide_eq_false h]; decide)]
theorem stV_3 {x v : Int32} (h0 : x = 3) : (if ¬ v < 1 ∧ ¬ 5 < v then (1 : Int32) else 0) = if stB x v then 1 else 0 := by
  have h1 : stB x v = decide (¬ v < 1 ∧ ¬ 5 < v) := by unfold stB; rw [h0, if_neg (by decide), if_neg (by decide), if_pos rfl]
  rw [h1]
  by_cases h : ¬ v < 1 ∧ ¬ 5 < v
  · rw [if_pos h, if_pos (decide_eq_true h)]
  · rw [if_neg h, if_neg (by rw [decide_eq_false h]; decide)]
theorem stV_12 {x v : Int32} (h0 : ¬ x = 0) (h9 : ¬ x < 1 ∧ ¬ 2 < x) : stB x v = decide (¬ v < 0 ∧ ¬ 100 < v) := by unfold stB; rw [if_neg h0, if_pos (kx12 h9)]
theorem stV_y {x v : Int32} (h0 : ¬ x = 0) (h9 : ¬ x < 1 ∧ ¬ 2 < x) (h : ¬ v < 0 ∧ ¬ 100 < v) : (1 : Int32) = if stB x v then 1 else 0 := by rw [stV_12 h0 h9, if_pos (decide_eq_true h)]
theorem stV_n {x v : Int32} (h0 : ¬ x = 0) (h9 : ¬ x < 1 ∧ ¬ 2 < x) (h : ¬ (¬ v < 0 ∧ ¬ 100 < v)) : (0 : Int32) = if stB x v then 1 else 0 := by rw [stV_12 h0 h9, if_neg (by rw [decide_eq_false h]; decide)]
theorem stV_o {x v : Int32} (h0 : ¬ x = 0) (h3 : ¬ x = 3) (h9 : ¬ (¬ x < 1 ∧ ¬ 2 < x)) : (0 : Int32) = if stB x v then 1 else 0 := by
  have h1 : stB x v = false := by
    unfold stB
    rw [if_neg h0, if_neg, if_neg h3]
    intro h
    rcases h with h | h <;> (rw [h] at h9; exact h9 ⟨by decide, by decide⟩)
  rw [h1]
  rfl
/-- a season's end, as the model reckons -/
abbrev snP (g t : Int32) : Prop := ¬ t ≤ 0 ∧ ¬ (¬ g < -2 ∧ ¬ 2 < g)
def snF (g t : Int32) : Int32 := if snP g t then 1 else 0
def sn1 (g t : Int32) : Int32 := if snP g t then t - 30 else if t ≤ 0 then 0 else t + 10
def sn2 (v : Int32) : Int32 := if v < 0 then 0 else if 100 < v then 100 else v
theorem snP_e {g t : Int32} (ht : ¬ t ≤ 0) : snP g t ↔ esB g = true := by
  unfold snP esB
  rw [Bool.or_eq_true, decide_eq_true_eq, decide_eq_true_eq]
  by_cases h1 : g < -2
  · exact ⟨fun _ => Or.inr (Int32.not_le.mpr h1), fun _ => ⟨ht, fun h => h.1 h1⟩⟩
  · by_cases h2 : 2 < g
    · exact ⟨fun _ => Or.inl h2, fun _ => ⟨ht, fun h => h.2 h2⟩⟩
    · exact ⟨fun h => absurd ⟨h1, h2⟩ h.2, fun h => h.elim (fun z => absurd z h2) (fun z => absurd (Int32.not_le.mp z) h1)⟩
theorem sn_es {he ke tu : Nat → Int32} {c t : Nat} (ht : t ≤ 100) (e : tu c = nI t) : sn2 (sn1 (he c - ke c) (tu c)) = es1 he ke tu c := by
  unfold es1
  by_cases h0 : tu c ≤ 0
  · have h1 : t = 0 := by
      rw [e] at h0
      have := (nI_leI (a := t) (b := 0) (by omega) (by omega)).mp h0
      omega
    have e0 : tu c = 0 := by rw [e, h1]; rfl
    rw [if_pos h0, sn1, if_neg (fun h => h.1 h0), if_pos h0, e0]
    rfl
  · rw [if_neg h0]
    have h1 : 1 ≤ t := by
      rcases Nat.eq_zero_or_pos t with h9 | h9
      · rw [e, h9] at h0; exact absurd (by decide) h0
      · exact h9
    unfold sn1 esT
    by_cases hb : esB (he c - ke c) = true
    · rw [if_pos ((snP_e h0).mpr hb), if_pos hb]
      unfold sn2
      by_cases h2 : tu c - 30 < 0
      · rw [if_pos h2, if_pos h2]
      · rw [if_neg h2, if_neg h2, if_neg]
        intro h3
        rw [Int32.lt_iff_toInt_lt] at h3
        rw [e, show (nI t - 30 : Int32) = nI t - nI 30 from rfl, pk_sub_toInt (by omega) (by omega)] at h3
        have e1 : (100 : Int32).toInt = 100 := rfl
        rw [e1] at h3
        omega
    · rw [if_neg (fun h => hb ((snP_e h0).mp h)), if_neg hb, if_neg h0]
      unfold sn2
      have e1 : tu c + 10 = nI (t + 10) := by rw [e]; exact nI_add t 10
      rw [e1, if_neg (nI_pos (by omega))]
theorem snF_n {he ke tu : Nat → Int32} {i n : Nat} (hn : n = esN he ke tu i) : (snF (he i - ke i) (tu i) = 0 → n = esN he ke tu (i + 1)) ∧ (¬ snF (he i - ke i) (tu i) = 0 → n + 1 = esN he ke tu (i + 1)) := by
  have e0 : esN he ke tu (i + 1) = esN he ke tu i + (if tu i ≤ 0 then 0 else if esB (he i - ke i) then 1 else 0) := rfl
  rw [e0, ← hn]
  unfold snF
  by_cases h0 : tu i ≤ 0
  · rw [if_pos h0, if_neg (fun h => h.1 h0)]
    exact ⟨fun _ => rfl, fun h => absurd rfl h⟩
  · rw [if_neg h0]
    by_cases hb : esB (he i - ke i) = true
    · rw [if_pos hb, if_pos ((snP_e h0).mpr hb)]
      exact ⟨fun h => absurd h (by decide), fun _ => rfl⟩
    · rw [if_neg hb, if_neg (fun h => hb ((snP_e h0).mp h))]
      exact ⟨fun _ => rfl, fun h => absurd rfl h⟩
theorem kup_lo {f g : Nat → Int32} {i : Nat} {v : Int32} (h1 : ∀ j, j < i → f j = g j) (hv : v = g i) : ∀ j, j < i + 1 → upd f i v j = g j := by
  intro j hj
  by_cases h9 : j = i
  · rw [h9, pk_us, hv]
  · rw [pk_un h9]; exact h1 j (by omega)
theorem kup_hi {f g : Nat → Int32} {i : Nat} {v : Int32} (h1 : ∀ j, i ≤ j → f j = g j) : ∀ j, i + 1 ≤ j → upd f i v j = g j := by
  intro j hj
  rw [pk_un (by omega)]
  exact h1 j (by omega)
def svG (V : Nat → Int32) (k : Nat) : Nat → Int32 := fun j => V (985 * k + j)
abbrev rmX7_begins : Room := { frames := 2, cells := 0, slots := 0, locals := 44 }
set_option maxHeartbeats 4000000 in
set_option maxRecDepth 100000 in
theorem c_X7_begins (l : Launch) (E : kE) (m0 : Nat) (A0 : Nat) (V0 : Nat) (Z0 : Nat) (D0 : Nat) (W0 : Nat) (T0 : Nat) (sm : Int32) (th : Int32) (pl : Int32) (hz : Int32) (tl : Int32) (tw : Int32) (tc : Int32) (M : Nat → Int32) (r2 : Nat) (c2 : Nat) (v : Int32) (hG : kG r2 c2) : kC E l yX7_begins wsX7_begins rmX7_begins [.ref m0, .int (nI r2), .int (nI c2), .int v] (List.flatten [oc m0 7 [.ref A0, .ref V0, .ref Z0, .int sm, .int th, .int pl, .int hz, .ref D0, .ref W0, .ref T0, .int tl, .int tw, .int tc], ac E A0 985 M]) kV (fun (_ : Unit) (_ : Unit) => True) (fun _ => List.flatten [oc m0 7 [.ref A0, .ref V0, .ref Z0, .int sm, .int th, .int pl, .int hz, .ref D0, .ref W0, .ref T0, .int tl, .int tw, .int tc], ac E A0 985 (mA r2 c2 0 1 0 st0F (fun _ => v) (fun _ => v) (fun _ => 0) (fun _ => (-1)) (fun _ => 0) (fun _ => 0) (fun _ => (-1)))]) 0 0 := by
  refine k_body (cc := cX7_begins) (maxL := 5) (ret := none) (by decide) rfl (Nat.le_of_ble_eq_true rfl) ?_
  intro pp ee sx mm aa bb me cd H locs AA ls C0 hr hlk hnm hl hw
  obtain ⟨hx, hb, hml, hown, hts⟩ := id C0
  have hl : lv_has ls 5 [(0, .ref m0), (1, .int (nI r2)), (2, .int (nI c2)), (3, .int v)] := hl
  have hw : kW E AA sx (List.flatten [oc m0 7 [.ref A0, .ref V0, .ref Z0, .int sm, .int th, .int pl, .int hz, .ref D0, .ref W0, .ref T0, .int tl, .int tw, .int tc], ac E A0 985 M]) H locs := hw
  have hn9 := kG_n hG
  have hinX7 : ∀ w ∈ u_ws RX7 TX7 13, w ∈ wsX7_begins := by decide +kernel
  refine lv_aload_n hx hb dX7_begins_0 rfl (lv_at hl 0 rfl) ?_
  refine lv_iload_n hx hb dX7_begins_1 rfl (lv_at hl 1 rfl) ?_
  refine lv_iload_n hx hb dX7_begins_2 rfl (lv_at hl 2 rfl) ?_
  refine k_V (As := [.int (nI r2), .int (nI c2)]) (rest := []) (pre := []) (mid := [oc m0 7 [.ref A0, .ref V0, .ref Z0, .int sm, .int th, .int pl, .int hz, .ref D0, .ref W0, .ref T0, .int tl, .int tw, .int tc], ac E A0 985 M]) C0 (c_X7_clears l E m0 A0 V0 Z0 D0 W0 T0 sm th pl hz tl tw tc M r2 c2 (hG)) (cwV 2 hts gX7_begins_X7_clears rfl rfl rfl (by decide +kernel) ⟨Nat.le_of_ble_eq_true rfl, Nat.le_of_ble_eq_true rfl⟩) hw rfl (fun _ => [oc m0 7 [.ref A0, .ref V0, .ref Z0, .int sm, .int th, .int pl, .int hz, .ref D0, .ref W0, .ref T0, .int tl, .int tw, .int tc], ac E A0 985 (mA r2 c2 (M 6) (M 7) 0 M (fun _ => 0) (fun _ => 0) (fun _ => 0) (fun _ => (-1)) (fun _ => 0) (fun _ => 0) (fun _ => (-1)))]) (fun _ => rfl) 0 7 rfl rfl rfl rfl hl.1 rfl (Nat.le_of_ble_eq_true rfl) dX7_begins_3 ⟨Nat.le_of_ble_eq_true rfl, Nat.le_of_ble_eq_true rfl⟩ (fun r u H locs hq99 hw => ?_)
  have hw : kW E AA sx (List.flatten [oc m0 7 [.ref A0, .ref V0, .ref Z0, .int sm, .int th, .int pl, .int hz, .ref D0, .ref W0, .ref T0, .int tl, .int tw, .int tc], ac E A0 985 (mA r2 c2 (M 6) (M 7) 0 M (fun _ => 0) (fun _ => 0) (fun _ => 0) (fun _ => (-1)) (fun _ => 0) (fun _ => 0) (fun _ => (-1)))]) H locs := hw
  refine W.eq (g2 := F0 mm 6 ls []) rfl ?_
  refine lv_aload_n hx hb dX7_begins_6 rfl (lv_at hl 0 rfl) ?_
  refine k_get (pre := []) C0 hw hinX7 rfl 0 (by decide) (hts (.fieldLink RX7 7 "SlabDunesModel" "all" "[I") (by decide +kernel)) rfl rfl dX7_begins_7 ?_
  refine lv_iconst (v := 0) hx hb dX7_begins_10 (by decide) ?_
  refine lv_iconst (v := 3) hx hb dX7_begins_11 (by decide) ?_
  refine k_iast (pre := [oc m0 7 [.ref A0, .ref V0, .ref Z0, .int sm, .int th, .int pl, .int hz, .ref D0, .ref W0, .ref T0, .int tl, .int tw, .int tc]]) (l1 := []) C0 hw (i := 0) (kinN (n := 0) (by decide) (by decide)) dX7_begins_12 (fun H locs hw => ?_)
  have hw : kW E AA sx (List.flatten [oc m0 7 [.ref A0, .ref V0, .ref Z0, .int sm, .int th, .int pl, .int hz, .ref D0, .ref W0, .ref T0, .int tl, .int tw, .int tc], ac E A0 985 (upd (mA r2 c2 (M 6) (M 7) 0 M (fun _ => 0) (fun _ => 0) (fun _ => 0) (fun _ => (-1)) (fun _ => 0) (fun _ => 0) (fun _ => (-1))) (Int32.toNatClampNeg 0) 3)]) H locs := hw
  have hw : kW E AA sx (List.flatten [oc m0 7 [.ref A0, .ref V0, .ref Z0, .int sm, .int th, .int pl, .int hz, .ref D0, .ref W0, .ref T0, .int tl, .int tw, .int tc], ac E A0 985 (mA r2 c2 (M 6) (M 7) 0 (upd M 0 3) (fun _ => 0) (fun _ => 0) (fun _ => 0) (fun _ => (-1)) (fun _ => 0) (fun _ => 0) (fun _ => (-1)))]) H locs := kW.arr (pre := [oc m0 7 [.ref A0, .ref V0, .ref Z0, .int sm, .int th, .int pl, .int hz, .ref D0, .ref W0, .ref T0, .int tl, .int tw, .int tc]]) (l1 := []) hw (fun j9 _ => mA_wst (k := 0) (by decide) j9)
  refine lv_aload_n hx hb dX7_begins_13 rfl (lv_at hl 0 rfl) ?_
  refine k_get (pre := []) C0 hw hinX7 rfl 0 (by decide) (hts (.fieldLink RX7 7 "SlabDunesModel" "all" "[I") (by decide +kernel)) rfl rfl dX7_begins_14 ?_
  refine lv_iconst (v := 1) hx hb dX7_begins_17 (by decide) ?_
  refine lv_bipush (v := 60) hx hb dX7_begins_18 (by decide) ?_
  refine k_iast (pre := [oc m0 7 [.ref A0, .ref V0, .ref Z0, .int sm, .int th, .int pl, .int hz, .ref D0, .ref W0, .ref T0, .int tl, .int tw, .int tc]]) (l1 := []) C0 hw (i := 1) (kinN (n := 1) (by decide) (by decide)) dX7_begins_20 (fun H locs hw => ?_)
  have hw : kW E AA sx (List.flatten [oc m0 7 [.ref A0, .ref V0, .ref Z0, .int sm, .int th, .int pl, .int hz, .ref D0, .ref W0, .ref T0, .int tl, .int tw, .int tc], ac E A0 985 (upd (mA r2 c2 (M 6) (M 7) 0 (upd M 0 3) (fun _ => 0) (fun _ => 0) (fun _ => 0) (fun _ => (-1)) (fun _ => 0) (fun _ => 0) (fun _ => (-1))) (Int32.toNatClampNeg 1) 60)]) H locs := hw
  have hw : kW E AA sx (List.flatten [oc m0 7 [.ref A0, .ref V0, .ref Z0, .int sm, .int th, .int pl, .int hz, .ref D0, .ref W0, .ref T0, .int tl, .int tw, .int tc], ac E A0 985 (mA r2 c2 (M 6) (M 7) 0 (upd (upd M 0 3) 1 60) (fun _ => 0) (fun _ => 0) (fun _ => 0) (fun _ => (-1)) (fun _ => 0) (fun _ => 0) (fun _ => (-1)))]) H locs := kW.arr (pre := [oc m0 7 [.ref A0, .ref V0, .ref Z0, .int sm, .int th, .int pl, .int hz, .ref D0, .ref W0, .ref T0, .int tl, .int tw, .int tc]]) (l1 := []) hw (fun j9 _ => mA_wst (k := 1) (by decide) j9)
  refine lv_aload_n hx hb dX7_begins_21 rfl (lv_at hl 0 rfl) ?_
  refine k_get (pre := []) C0 hw hinX7 rfl 0 (by decide) (hts (.fieldLink RX7 7 "SlabDunesModel" "all" "[I") (by decide +kernel)) rfl rfl dX7_begins_22 ?_
  refine lv_iconst (v := 2) hx hb dX7_begins_25 (by decide) ?_
  refine lv_bipush (v := 40) hx hb dX7_begins_26 (by decide) ?_
  refine k_iast (pre := [oc m0 7 [.ref A0, .ref V0, .ref Z0, .int sm, .int th, .int pl, .int hz, .ref D0, .ref W0, .ref T0, .int tl, .int tw, .int tc]]) (l1 := []) C0 hw (i := 2) (kinN (n := 2) (by decide) (by decide)) dX7_begins_28 (fun H locs hw => ?_)
  have hw : kW E AA sx (List.flatten [oc m0 7 [.ref A0, .ref V0, .ref Z0, .int sm, .int th, .int pl, .int hz, .ref D0, .ref W0, .ref T0, .int tl, .int tw, .int tc], ac E A0 985 (upd (mA r2 c2 (M 6) (M 7) 0 (upd (upd M 0 3) 1 60) (fun _ => 0) (fun _ => 0) (fun _ => 0) (fun _ => (-1)) (fun _ => 0) (fun _ => 0) (fun _ => (-1))) (Int32.toNatClampNeg 2) 40)]) H locs := hw
  have hw : kW E AA sx (List.flatten [oc m0 7 [.ref A0, .ref V0, .ref Z0, .int sm, .int th, .int pl, .int hz, .ref D0, .ref W0, .ref T0, .int tl, .int tw, .int tc], ac E A0 985 (mA r2 c2 (M 6) (M 7) 0 (upd (upd (upd M 0 3) 1 60) 2 40) (fun _ => 0) (fun _ => 0) (fun _ => 0) (fun _ => (-1)) (fun _ => 0) (fun _ => 0) (fun _ => (-1)))]) H locs := kW.arr (pre := [oc m0 7 [.ref A0, .ref V0, .ref Z0, .int sm, .int th, .int pl, .int hz, .ref D0, .ref W0, .ref T0, .int tl, .int tw, .int tc]]) (l1 := []) hw (fun j9 _ => mA_wst (k := 2) (by decide) j9)
  refine lv_aload_n hx hb dX7_begins_29 rfl (lv_at hl 0 rfl) ?_
  refine k_get (pre := []) C0 hw hinX7 rfl 0 (by decide) (hts (.fieldLink RX7 7 "SlabDunesModel" "all" "[I") (by decide +kernel)) rfl rfl dX7_begins_30 ?_
  refine lv_iconst (v := 3) hx hb dX7_begins_33 (by decide) ?_
  refine lv_iconst (v := 2) hx hb dX7_begins_34 (by decide) ?_
  refine k_iast (pre := [oc m0 7 [.ref A0, .ref V0, .ref Z0, .int sm, .int th, .int pl, .int hz, .ref D0, .ref W0, .ref T0, .int tl, .int tw, .int tc]]) (l1 := []) C0 hw (i := 3) (kinN (n := 3) (by decide) (by decide)) dX7_begins_35 (fun H locs hw => ?_)
  have hw : kW E AA sx (List.flatten [oc m0 7 [.ref A0, .ref V0, .ref Z0, .int sm, .int th, .int pl, .int hz, .ref D0, .ref W0, .ref T0, .int tl, .int tw, .int tc], ac E A0 985 (upd (mA r2 c2 (M 6) (M 7) 0 (upd (upd (upd M 0 3) 1 60) 2 40) (fun _ => 0) (fun _ => 0) (fun _ => 0) (fun _ => (-1)) (fun _ => 0) (fun _ => 0) (fun _ => (-1))) (Int32.toNatClampNeg 3) 2)]) H locs := hw
  have hw : kW E AA sx (List.flatten [oc m0 7 [.ref A0, .ref V0, .ref Z0, .int sm, .int th, .int pl, .int hz, .ref D0, .ref W0, .ref T0, .int tl, .int tw, .int tc], ac E A0 985 (mA r2 c2 (M 6) (M 7) 0 (upd (upd (upd (upd M 0 3) 1 60) 2 40) 3 2) (fun _ => 0) (fun _ => 0) (fun _ => 0) (fun _ => (-1)) (fun _ => 0) (fun _ => 0) (fun _ => (-1)))]) H locs := kW.arr (pre := [oc m0 7 [.ref A0, .ref V0, .ref Z0, .int sm, .int th, .int pl, .int hz, .ref D0, .ref W0, .ref T0, .int tl, .int tw, .int tc]]) (l1 := []) hw (fun j9 _ => mA_wst (k := 3) (by decide) j9)
  refine lv_aload_n hx hb dX7_begins_36 rfl (lv_at hl 0 rfl) ?_
  refine k_get (pre := []) C0 hw hinX7 rfl 0 (by decide) (hts (.fieldLink RX7 7 "SlabDunesModel" "all" "[I") (by decide +kernel)) rfl rfl dX7_begins_37 ?_
  refine lv_bipush (v := 6) hx hb dX7_begins_40 (by decide) ?_
  refine lv_iconst (v := 0) hx hb dX7_begins_42 (by decide) ?_
  refine k_iast (pre := [oc m0 7 [.ref A0, .ref V0, .ref Z0, .int sm, .int th, .int pl, .int hz, .ref D0, .ref W0, .ref T0, .int tl, .int tw, .int tc]]) (l1 := []) C0 hw (i := 6) (kinN (n := 6) (by decide) (by decide)) dX7_begins_43 (fun H locs hw => ?_)
  have hw : kW E AA sx (List.flatten [oc m0 7 [.ref A0, .ref V0, .ref Z0, .int sm, .int th, .int pl, .int hz, .ref D0, .ref W0, .ref T0, .int tl, .int tw, .int tc], ac E A0 985 (upd (mA r2 c2 (M 6) (M 7) 0 (upd (upd (upd (upd M 0 3) 1 60) 2 40) 3 2) (fun _ => 0) (fun _ => 0) (fun _ => 0) (fun _ => (-1)) (fun _ => 0) (fun _ => 0) (fun _ => (-1))) (Int32.toNatClampNeg 6) 0)]) H locs := hw
  have hw : kW E AA sx (List.flatten [oc m0 7 [.ref A0, .ref V0, .ref Z0, .int sm, .int th, .int pl, .int hz, .ref D0, .ref W0, .ref T0, .int tl, .int tw, .int tc], ac E A0 985 (mA r2 c2 0 (M 7) 0 (upd (upd (upd (upd M 0 3) 1 60) 2 40) 3 2) (fun _ => 0) (fun _ => 0) (fun _ => 0) (fun _ => (-1)) (fun _ => 0) (fun _ => 0) (fun _ => (-1)))]) H locs := kW.arr (pre := [oc m0 7 [.ref A0, .ref V0, .ref Z0, .int sm, .int th, .int pl, .int hz, .ref D0, .ref W0, .ref T0, .int tl, .int tw, .int tc]]) (l1 := []) hw (fun j9 _ => mA_ww j9)
  refine lv_aload_n hx hb dX7_begins_44 rfl (lv_at hl 0 rfl) ?_
  refine k_get (pre := []) C0 hw hinX7 rfl 0 (by decide) (hts (.fieldLink RX7 7 "SlabDunesModel" "all" "[I") (by decide +kernel)) rfl rfl dX7_begins_45 ?_
  refine lv_bipush (v := 7) hx hb dX7_begins_48 (by decide) ?_
  refine lv_iconst (v := 1) hx hb dX7_begins_50 (by decide) ?_
  refine k_iast (pre := [oc m0 7 [.ref A0, .ref V0, .ref Z0, .int sm, .int th, .int pl, .int hz, .ref D0, .ref W0, .ref T0, .int tl, .int tw, .int tc]]) (l1 := []) C0 hw (i := 7) (kinN (n := 7) (by decide) (by decide)) dX7_begins_51 (fun H locs hw => ?_)
  have hw : kW E AA sx (List.flatten [oc m0 7 [.ref A0, .ref V0, .ref Z0, .int sm, .int th, .int pl, .int hz, .ref D0, .ref W0, .ref T0, .int tl, .int tw, .int tc], ac E A0 985 (upd (mA r2 c2 0 (M 7) 0 (upd (upd (upd (upd M 0 3) 1 60) 2 40) 3 2) (fun _ => 0) (fun _ => 0) (fun _ => 0) (fun _ => (-1)) (fun _ => 0) (fun _ => 0) (fun _ => (-1))) (Int32.toNatClampNeg 7) 1)]) H locs := hw
  have hw : kW E AA sx (List.flatten [oc m0 7 [.ref A0, .ref V0, .ref Z0, .int sm, .int th, .int pl, .int hz, .ref D0, .ref W0, .ref T0, .int tl, .int tw, .int tc], ac E A0 985 (mA r2 c2 0 1 0 (upd (upd (upd (upd M 0 3) 1 60) 2 40) 3 2) (fun _ => 0) (fun _ => 0) (fun _ => 0) (fun _ => (-1)) (fun _ => 0) (fun _ => 0) (fun _ => (-1)))]) H locs := kW.arr (pre := [oc m0 7 [.ref A0, .ref V0, .ref Z0, .int sm, .int th, .int pl, .int hz, .ref D0, .ref W0, .ref T0, .int tl, .int tw, .int tc]]) (l1 := []) hw (fun j9 _ => mA_ws j9)
  have hw : kW E AA sx (List.flatten [oc m0 7 [.ref A0, .ref V0, .ref Z0, .int sm, .int th, .int pl, .int hz, .ref D0, .ref W0, .ref T0, .int tl, .int tw, .int tc], ac E A0 985 (mA r2 c2 0 1 0 st0F (fun _ => 0) (fun _ => 0) (fun _ => 0) (fun _ => (-1)) (fun _ => 0) (fun _ => 0) (fun _ => (-1)))]) H locs := kW.arr (pre := [oc m0 7 [.ref A0, .ref V0, .ref Z0, .int sm, .int th, .int pl, .int hz, .ref D0, .ref W0, .ref T0, .int tl, .int tw, .int tc]]) (l1 := []) hw (fun j9 _ => mA_eq (fun j hj => by rcases (show j = 0 ∨ j = 1 ∨ j = 2 ∨ j = 3 by omega) with rfl | rfl | rfl | rfl <;> rfl) (fun _ _ => ⟨rfl, rfl, rfl, rfl, rfl⟩) (fun _ _ => rfl) (fun _ _ => rfl) j9)
  refine lv_iconst (v := 0) hx hb dX7_begins_52 (by decide) ?_
  refine lv_istore (lv' := [(4, .int 0), (0, .ref m0), (1, .int (nI r2)), (2, .int (nI c2)), (3, .int v)]) hx hb dX7_begins_53 hl (by decide) rfl (fun ls hl => ?_)
  have loop55 : ∀ (nn : Nat) (i : Nat) (e9 : Nat → Int32) (f9 : Nat → Int32), (i ≤ r2 * c2) → (∀ j, j < i → e9 j = v) → (∀ j, j < i → f9 j = v) → r2 * c2 - i < nn → ∀ (H : Heap) (locs : List Loc) (ls : Array Slot), lv_has ls 5 [(4, .int (nI i)), (0, .ref m0), (1, .int (nI r2)), (2, .int (nI c2)), (3, .int v)] → kW E AA sx (List.flatten [oc m0 7 [.ref A0, .ref V0, .ref Z0, .int sm, .int th, .int pl, .int hz, .ref D0, .ref W0, .ref T0, .int tl, .int tw, .int tc], ac E A0 985 (mA r2 c2 0 1 0 st0F e9 f9 (fun _ => 0) (fun _ => (-1)) (fun _ => 0) (fun _ => 0) (fun _ => (-1)))]) H locs → W pp l ee rmX7_begins sx mm aa bb me cd H locs 0 0 (kEnd E kV (fun (_ : Unit) (_ : Unit) => True) (fun _ => List.flatten [oc m0 7 [.ref A0, .ref V0, .ref Z0, .int sm, .int th, .int pl, .int hz, .ref D0, .ref W0, .ref T0, .int tl, .int tw, .int tc], ac E A0 985 (mA r2 c2 0 1 0 st0F (fun _ => v) (fun _ => v) (fun _ => 0) (fun _ => (-1)) (fun _ => 0) (fun _ => 0) (fun _ => (-1)))]) bb aa sx AA 0 0) (F0 mm 55 ls []) := by
    intro nn
    induction nn with
    | zero => intro i e9 f9 hi he9 hf9 hm55; exact absurd hm55 (Nat.not_lt_zero _)
    | succ nn ih55 =>
      intro i e9 f9 hi he9 hf9 hm55 H locs ls hl hw
      refine lv_iload hx hb dX7_begins_55 (lv_at hl 0 rfl) ?_
      refine lv_aload_n hx hb dX7_begins_57 rfl (lv_at hl 1 rfl) ?_
      refine k_V (As := []) (rest := [.int (nI i)]) (pre := []) (mid := [oc m0 7 [.ref A0, .ref V0, .ref Z0, .int sm, .int th, .int pl, .int hz, .ref D0, .ref W0, .ref T0, .int tl, .int tw, .int tc], ac E A0 985 (mA r2 c2 0 1 0 st0F e9 f9 (fun _ => 0) (fun _ => (-1)) (fun _ => 0) (fun _ => 0) (fun _ => (-1)))]) C0 (c_X7_cells l E m0 A0 V0 Z0 D0 W0 T0 sm th pl hz tl tw tc r2 c2 0 1 0 st0F e9 f9 (fun _ => 0) (fun _ => (-1)) (fun _ => 0) (fun _ => 0) (fun _ => (-1)) ) (cwV 0 hts gX7_begins_X7_cells rfl rfl rfl (by decide +kernel) ⟨Nat.le_of_ble_eq_true rfl, Nat.le_of_ble_eq_true rfl⟩) hw rfl (fun _ => [oc m0 7 [.ref A0, .ref V0, .ref Z0, .int sm, .int th, .int pl, .int hz, .ref D0, .ref W0, .ref T0, .int tl, .int tw, .int tc], ac E A0 985 (mA r2 c2 0 1 0 st0F e9 f9 (fun _ => 0) (fun _ => (-1)) (fun _ => 0) (fun _ => 0) (fun _ => (-1)))]) (fun _ => rfl) 0 7 rfl rfl rfl rfl hl.1 rfl (Nat.le_of_ble_eq_true rfl) dX7_begins_58 ⟨Nat.le_of_ble_eq_true rfl, Nat.le_of_ble_eq_true rfl⟩ (fun r u H locs hq99 hw => ?_)
      subst hq99
      have hw : kW E AA sx (List.flatten [oc m0 7 [.ref A0, .ref V0, .ref Z0, .int sm, .int th, .int pl, .int hz, .ref D0, .ref W0, .ref T0, .int tl, .int tw, .int tc], ac E A0 985 (mA r2 c2 0 1 0 st0F e9 f9 (fun _ => 0) (fun _ => (-1)) (fun _ => 0) (fun _ => 0) (fun _ => (-1)))]) H locs := hw
      refine W.eq (g2 := F0 mm 61 ls [.int (nI (r2 * c2)), .int (nI i)]) rfl ?_
      refine lv_icmp_ge (tgt := 77) hx hb dX7_begins_61 (by decide) (fun c61 => ?_) (fun c61 => ?_)
      · have c61 : (r2 * c2) ≤ i := (nI_leI (a := (r2 * c2)) (b := i) (by omega) (by omega)).mp c61
        have hw : kW E AA sx (List.flatten [oc m0 7 [.ref A0, .ref V0, .ref Z0, .int sm, .int th, .int pl, .int hz, .ref D0, .ref W0, .ref T0, .int tl, .int tw, .int tc], ac E A0 985 (mA r2 c2 0 1 0 st0F (fun _ => v) (fun _ => v) (fun _ => 0) (fun _ => (-1)) (fun _ => 0) (fun _ => 0) (fun _ => (-1)))]) H locs := kW.arr (pre := [oc m0 7 [.ref A0, .ref V0, .ref Z0, .int sm, .int th, .int pl, .int hz, .ref D0, .ref W0, .ref T0, .int tl, .int tw, .int tc]]) (l1 := []) hw (fun j9 _ => mA_eq (fun _ _ => rfl) (fun c9 h99 => ⟨he9 c9 (by omega), hf9 c9 (by omega), rfl, rfl, rfl⟩) (fun _ _ => rfl) (fun _ _ => rfl) j9)
        -- leaf 0
        exact k_vret C0 hr hlk hw () (rfl) (trivial) (Nat.le_of_ble_eq_true rfl) (Nat.le_of_ble_eq_true rfl) dX7_begins_77
      · have c61 : ¬ (r2 * c2) ≤ i := fun h99 => c61 ((nI_leI (a := (r2 * c2)) (b := i) (by omega) (by omega)).mpr h99)
        refine lv_aload_n hx hb dX7_begins_64 rfl (lv_at hl 1 rfl) ?_
        refine lv_iload hx hb dX7_begins_65 (lv_at hl 0 rfl) ?_
        refine lv_iload_n hx hb dX7_begins_67 rfl (lv_at hl 4 rfl) ?_
        refine k_V (As := [.int (nI i), .int v]) (rest := []) (pre := []) (mid := [oc m0 7 [.ref A0, .ref V0, .ref Z0, .int sm, .int th, .int pl, .int hz, .ref D0, .ref W0, .ref T0, .int tl, .int tw, .int tc], ac E A0 985 (mA r2 c2 0 1 0 st0F e9 f9 (fun _ => 0) (fun _ => (-1)) (fun _ => 0) (fun _ => 0) (fun _ => (-1)))]) C0 (c_X7_heightens l E m0 A0 V0 Z0 D0 W0 T0 sm th pl hz tl tw tc r2 c2 0 1 0 st0F e9 f9 (fun _ => 0) (fun _ => (-1)) (fun _ => 0) (fun _ => 0) (fun _ => (-1)) i v (hG) (by omega)) (cwV 2 hts gX7_begins_X7_heightens rfl rfl rfl (by decide +kernel) ⟨Nat.le_of_ble_eq_true rfl, Nat.le_of_ble_eq_true rfl⟩) hw rfl (fun _ => [oc m0 7 [.ref A0, .ref V0, .ref Z0, .int sm, .int th, .int pl, .int hz, .ref D0, .ref W0, .ref T0, .int tl, .int tw, .int tc], ac E A0 985 (mA r2 c2 0 1 0 st0F (upd e9 i v) (upd f9 i v) (fun _ => 0) (fun _ => (-1)) (fun _ => 0) (fun _ => 0) (fun _ => (-1)))]) (fun _ => rfl) 0 7 rfl rfl rfl rfl hl.1 rfl (Nat.le_of_ble_eq_true rfl) dX7_begins_68 ⟨Nat.le_of_ble_eq_true rfl, Nat.le_of_ble_eq_true rfl⟩ (fun r u H locs hq99 hw => ?_)
        have hw : kW E AA sx (List.flatten [oc m0 7 [.ref A0, .ref V0, .ref Z0, .int sm, .int th, .int pl, .int hz, .ref D0, .ref W0, .ref T0, .int tl, .int tw, .int tc], ac E A0 985 (mA r2 c2 0 1 0 st0F (upd e9 i v) (upd f9 i v) (fun _ => 0) (fun _ => (-1)) (fun _ => 0) (fun _ => 0) (fun _ => (-1)))]) H locs := hw
        refine W.eq (g2 := F0 mm 71 ls []) rfl ?_
        refine lv_iinc (v := nI (i + 1)) (lv' := [(4, .int (nI (i + 1))), (0, .ref m0), (1, .int (nI r2)), (2, .int (nI c2)), (3, .int v)]) hx hb dX7_begins_71 hl (k := 0) rfl (nI_1 _) (by decide) rfl (fun ls hl => ?_)
        refine lv_goto (tgt := 55) hx hb dX7_begins_74 (by decide) ?_
        -- back 0
        exact ih55 (i + 1) (upd e9 i v) (upd f9 i v) (by first | assumption | omega) (kup_lo (g := fun _ => v) he9 rfl) (kup_lo (g := fun _ => v) hf9 rfl) (by omega) H _ ls (lv_sub hl [0, 1, 2, 3, 4] rfl) hw
  exact loop55 ((r2 * c2 - 0) + 1) 0 (fun _ => 0) (fun _ => 0) (by first | assumption | omega) (fun j h99 => absurd h99 (Nat.not_lt_zero _)) (fun j h99 => absurd h99 (Nat.not_lt_zero _)) (Nat.lt_succ_self _) H _ ls (lv_sub hl [0, 1, 2, 3, 4] rfl) hw

abbrev rmX7_begin : Room := { frames := 3, cells := 0, slots := 0, locals := 68 }
set_option maxHeartbeats 4000000 in
set_option maxRecDepth 100000 in
theorem c_X7_begin_ok (l : Launch) (E : kE) (m0 : Nat) (A0 : Nat) (V0 : Nat) (Z0 : Nat) (D0 : Nat) (W0 : Nat) (T0 : Nat) (th : Int32) (pl : Int32) (hz : Int32) (tl : Int32) (tw : Int32) (tc : Int32) (h : Nat) (w : Nat) (k9 : Nat) (wd : Int32) (s0 : Int32) (z : Int32) (st : Nat → Int32) (he : Nat → Int32) (ke : Nat → Int32) (tu : Nat → Int32) (ca : Nat → Int32) (tr : Nat → Int32) (co : Nat → Int32) (la : Nat → Int32) (V : Nat → Int32) (r2 : Nat) (c2 : Nat) (v : Int32) (hG8 : kG r2 c2) (hv : ¬ v < 0 ∧ ¬ 20 < v) (hk9 : k9 ≤ 4) : kC E l yX7_begin wsX7_begin rmX7_begin [.ref m0, .int (nI r2), .int (nI c2), .int v] (List.flatten [oc m0 7 [.ref A0, .ref V0, .ref Z0, .int (nI k9), .int th, .int pl, .int hz, .ref D0, .ref W0, .ref T0, .int tl, .int tw, .int tc], ac E A0 985 (mA h w wd s0 z st he ke tu ca tr co la), ac E V0 3940 V]) kI (fun (r : Int32) (_ : Unit) => r = nI (r2 * c2)) (fun _ => List.flatten [oc m0 7 [.ref A0, .ref V0, .ref Z0, .int (nI (svK k9)), .int 0, .int pl, .int hz, .ref D0, .ref W0, .ref T0, .int tl, .int tw, .int tc], ac E A0 985 (mA r2 c2 0 1 0 st0F (fun _ => v) (fun _ => v) (fun _ => 0) (fun _ => (-1)) (fun _ => 0) (fun _ => 0) (fun _ => (-1))), ac E V0 3940 (svA V (mA h w wd s0 z st he ke tu ca tr co la) k9)]) 0 0 := by
  refine k_body (cc := cX7_begin) (maxL := 4) (ret := (some .int)) (by decide) rfl (Nat.le_of_ble_eq_true rfl) ?_
  intro pp ee sx mm aa bb me cd H locs AA ls C0 hr hlk hnm hl hw
  obtain ⟨hx, hb, hml, hown, hts⟩ := id C0
  have hl : lv_has ls 4 [(0, .ref m0), (1, .int (nI r2)), (2, .int (nI c2)), (3, .int v)] := hl
  have hw : kW E AA sx (List.flatten [oc m0 7 [.ref A0, .ref V0, .ref Z0, .int (nI k9), .int th, .int pl, .int hz, .ref D0, .ref W0, .ref T0, .int tl, .int tw, .int tc], ac E A0 985 (mA h w wd s0 z st he ke tu ca tr co la), ac E V0 3940 V]) H locs := hw
  obtain ⟨hG81, hG82, hG83, hG84⟩ := id hG8
  refine lv_aload_n hx hb dX7_begin_0 rfl (lv_at hl 0 rfl) ?_
  refine lv_iload_n hx hb dX7_begin_1 rfl (lv_at hl 1 rfl) ?_
  refine lv_i2l (v := Int32.toInt64 (nI r2)) hx hb dX7_begin_2 rfl ?_
  refine lv_ldc2 (v := 3) hx hb hown (hts (.constantLong RX7 58 3) (by decide +kernel)) dX7_begin_3 ?_
  refine lv_ldc2 (v := 12) hx hb hown (hts (.constantLong RX7 60 12) (by decide +kernel)) dX7_begin_6 ?_
  refine k_S (As := [.long (Int32.toInt64 (nI r2)), .long 3, .long 12]) (rest := [.ref m0]) (pre := []) (mid := []) C0 (c_X7_in_3_12 l E (nI r2) ) (va_cwS 3 hts gX7_begin_X7_in rfl rfl rfl (by decide +kernel) ⟨Nat.le_of_ble_eq_true rfl, Nat.le_of_ble_eq_true rfl⟩) hw rfl (fun _ => []) (fun _ => rfl) rfl hl.1 rfl (Nat.le_of_ble_eq_true rfl) dX7_begin_9 ⟨Nat.le_of_ble_eq_true rfl, Nat.le_of_ble_eq_true rfl⟩ (fun r u H locs hq99 hw => ?_)
  subst hq99
  have hw : kW E AA sx (List.flatten [oc m0 7 [.ref A0, .ref V0, .ref Z0, .int (nI k9), .int th, .int pl, .int hz, .ref D0, .ref W0, .ref T0, .int tl, .int tw, .int tc], ac E A0 985 (mA h w wd s0 z st he ke tu ca tr co la), ac E V0 3940 V]) H locs := hw
  refine W.eq (g2 := F0 mm 12 ls [.int (if ¬ (nI r2) < 3 ∧ ¬ 12 < (nI r2) then 1 else 0), .ref m0]) rfl ?_
  refine lv_if_eq (tgt := 45) hx hb dX7_begin_12 (by decide) (fun c12 => absurd c12 (kp10 (⟨nI_nlt (a := r2) (b := 3) (by omega) (by omega), nI_nlt (a := 12) (b := r2) (by omega) (by omega)⟩))) (fun c12 => ?_)
  have c12 := kb10f c12
  refine lv_iload_n hx hb dX7_begin_15 rfl (lv_at hl 2 rfl) ?_
  refine lv_i2l (v := Int32.toInt64 (nI c2)) hx hb dX7_begin_16 rfl ?_
  refine lv_ldc2 (v := 3) hx hb hown (hts (.constantLong RX7 58 3) (by decide +kernel)) dX7_begin_17 ?_
  refine lv_ldc2 (v := 16) hx hb hown (hts (.constantLong RX7 62 16) (by decide +kernel)) dX7_begin_20 ?_
  refine k_S (As := [.long (Int32.toInt64 (nI c2)), .long 3, .long 16]) (rest := [.ref m0]) (pre := []) (mid := []) C0 (c_X7_in_3_16 l E (nI c2) ) (va_cwS 3 hts gX7_begin_X7_in rfl rfl rfl (by decide +kernel) ⟨Nat.le_of_ble_eq_true rfl, Nat.le_of_ble_eq_true rfl⟩) hw rfl (fun _ => []) (fun _ => rfl) rfl hl.1 rfl (Nat.le_of_ble_eq_true rfl) dX7_begin_23 ⟨Nat.le_of_ble_eq_true rfl, Nat.le_of_ble_eq_true rfl⟩ (fun r u H locs hq99 hw => ?_)
  subst hq99
  have hw : kW E AA sx (List.flatten [oc m0 7 [.ref A0, .ref V0, .ref Z0, .int (nI k9), .int th, .int pl, .int hz, .ref D0, .ref W0, .ref T0, .int tl, .int tw, .int tc], ac E A0 985 (mA h w wd s0 z st he ke tu ca tr co la), ac E V0 3940 V]) H locs := hw
  refine W.eq (g2 := F0 mm 26 ls [.int (if ¬ (nI c2) < 3 ∧ ¬ 16 < (nI c2) then 1 else 0), .ref m0]) rfl ?_
  refine lv_if_eq (tgt := 45) hx hb dX7_begin_26 (by decide) (fun c26 => absurd c26 (kp10 (⟨nI_nlt (a := c2) (b := 3) (by omega) (by omega), nI_nlt (a := 16) (b := c2) (by omega) (by omega)⟩))) (fun c26 => ?_)
  have c26 := kb10f c26
  refine lv_iload_n hx hb dX7_begin_29 rfl (lv_at hl 3 rfl) ?_
  refine lv_i2l (v := Int32.toInt64 v) hx hb dX7_begin_30 rfl ?_
  refine lv_lconst (v := 0) hx hb dX7_begin_31 (by decide) ?_
  refine lv_ldc2 (v := 20) hx hb hown (hts (.constantLong RX7 64 20) (by decide +kernel)) dX7_begin_32 ?_
  refine k_S (As := [.long (Int32.toInt64 v), .long 0, .long 20]) (rest := [.ref m0]) (pre := []) (mid := []) C0 (c_X7_in_0_20 l E v ) (va_cwS 3 hts gX7_begin_X7_in rfl rfl rfl (by decide +kernel) ⟨Nat.le_of_ble_eq_true rfl, Nat.le_of_ble_eq_true rfl⟩) hw rfl (fun _ => []) (fun _ => rfl) rfl hl.1 rfl (Nat.le_of_ble_eq_true rfl) dX7_begin_35 ⟨Nat.le_of_ble_eq_true rfl, Nat.le_of_ble_eq_true rfl⟩ (fun r u H locs hq99 hw => ?_)
  subst hq99
  have hw : kW E AA sx (List.flatten [oc m0 7 [.ref A0, .ref V0, .ref Z0, .int (nI k9), .int th, .int pl, .int hz, .ref D0, .ref W0, .ref T0, .int tl, .int tw, .int tc], ac E A0 985 (mA h w wd s0 z st he ke tu ca tr co la), ac E V0 3940 V]) H locs := hw
  refine W.eq (g2 := F0 mm 38 ls [.int (if ¬ v < 0 ∧ ¬ 20 < v then 1 else 0), .ref m0]) rfl ?_
  refine lv_if_eq (tgt := 45) hx hb dX7_begin_38 (by decide) (fun c38 => absurd c38 (kp10 (hv))) (fun c38 => ?_)
  have c38 := kb10f c38
  refine lv_iconst (v := 1) hx hb dX7_begin_41 (by decide) ?_
  refine lv_goto (tgt := 46) hx hb dX7_begin_42 (by decide) ?_
  refine lv_iconst (v := 1) hx hb dX7_begin_46 (by decide) ?_
  refine k_V (As := [.int 1, .int 1]) (rest := []) (pre := []) (mid := [oc m0 7 [.ref A0, .ref V0, .ref Z0, .int (nI k9), .int th, .int pl, .int hz, .ref D0, .ref W0, .ref T0, .int tl, .int tw, .int tc]]) C0 (c_X7_goes_ok l E m0 A0 V0 Z0 D0 W0 T0 (nI k9) th pl hz tl tw tc 1 1 (by decide) (by decide)) (cwV 2 hts gX7_begin_X7_goes rfl rfl rfl (by decide +kernel) ⟨Nat.le_of_ble_eq_true rfl, Nat.le_of_ble_eq_true rfl⟩) hw rfl (fun _ => [oc m0 7 [.ref A0, .ref V0, .ref Z0, .int (nI k9), .int 0, .int pl, .int hz, .ref D0, .ref W0, .ref T0, .int tl, .int tw, .int tc]]) (fun _ => rfl) 0 7 rfl rfl rfl rfl hl.1 rfl (Nat.le_of_ble_eq_true rfl) dX7_begin_47 ⟨Nat.le_of_ble_eq_true rfl, Nat.le_of_ble_eq_true rfl⟩ (fun r u H locs hq99 hw => ?_)
  subst r
  have hw : kW E AA sx (List.flatten [oc m0 7 [.ref A0, .ref V0, .ref Z0, .int (nI k9), .int 0, .int pl, .int hz, .ref D0, .ref W0, .ref T0, .int tl, .int tw, .int tc], ac E A0 985 (mA h w wd s0 z st he ke tu ca tr co la), ac E V0 3940 V]) H locs := hw
  refine W.eq (g2 := F0 mm 50 ls [.int 1]) rfl ?_
  refine lv_if_ne (tgt := 55) hx hb dX7_begin_50 (by decide) (fun c50 => ?_) (fun c50 => absurd c50 (by decide))
  refine lv_aload_n hx hb dX7_begin_55 rfl (lv_at hl 0 rfl) ?_
  refine k_V (As := []) (rest := []) (pre := []) (mid := [oc m0 7 [.ref A0, .ref V0, .ref Z0, .int (nI k9), .int 0, .int pl, .int hz, .ref D0, .ref W0, .ref T0, .int tl, .int tw, .int tc], ac E A0 985 (mA h w wd s0 z st he ke tu ca tr co la), ac E V0 3940 V]) C0 (c_X7_save l E m0 A0 V0 Z0 D0 W0 T0 0 pl hz tl tw tc k9 (mA h w wd s0 z st he ke tu ca tr co la) V (by first | assumption | omega)) (cwV 0 hts gX7_begin_X7_save rfl rfl rfl (by decide +kernel) ⟨Nat.le_of_ble_eq_true rfl, Nat.le_of_ble_eq_true rfl⟩) hw rfl (fun _ => [oc m0 7 [.ref A0, .ref V0, .ref Z0, .int (nI (svK k9)), .int 0, .int pl, .int hz, .ref D0, .ref W0, .ref T0, .int tl, .int tw, .int tc], ac E A0 985 (mA h w wd s0 z st he ke tu ca tr co la), ac E V0 3940 (svA V (mA h w wd s0 z st he ke tu ca tr co la) k9)]) (fun _ => rfl) 0 7 rfl rfl rfl rfl hl.1 rfl (Nat.le_of_ble_eq_true rfl) dX7_begin_56 ⟨Nat.le_of_ble_eq_true rfl, Nat.le_of_ble_eq_true rfl⟩ (fun r u H locs hq99 hw => ?_)
  have hw : kW E AA sx (List.flatten [oc m0 7 [.ref A0, .ref V0, .ref Z0, .int (nI (svK k9)), .int 0, .int pl, .int hz, .ref D0, .ref W0, .ref T0, .int tl, .int tw, .int tc], ac E A0 985 (mA h w wd s0 z st he ke tu ca tr co la), ac E V0 3940 (svA V (mA h w wd s0 z st he ke tu ca tr co la) k9)]) H locs := hw
  refine W.eq (g2 := F0 mm 59 ls []) rfl ?_
  refine lv_aload_n hx hb dX7_begin_59 rfl (lv_at hl 0 rfl) ?_
  refine lv_iload_n hx hb dX7_begin_60 rfl (lv_at hl 1 rfl) ?_
  refine lv_iload_n hx hb dX7_begin_61 rfl (lv_at hl 2 rfl) ?_
  refine lv_iload_n hx hb dX7_begin_62 rfl (lv_at hl 3 rfl) ?_
  refine k_V (As := [.int (nI r2), .int (nI c2), .int v]) (rest := []) (pre := []) (mid := [oc m0 7 [.ref A0, .ref V0, .ref Z0, .int (nI (svK k9)), .int 0, .int pl, .int hz, .ref D0, .ref W0, .ref T0, .int tl, .int tw, .int tc], ac E A0 985 (mA h w wd s0 z st he ke tu ca tr co la)]) C0 (c_X7_begins l E m0 A0 V0 Z0 D0 W0 T0 (nI (svK k9)) 0 pl hz tl tw tc (mA h w wd s0 z st he ke tu ca tr co la) r2 c2 v (hG8)) (cwV 3 hts gX7_begin_X7_begins rfl rfl rfl (by decide +kernel) ⟨Nat.le_of_ble_eq_true rfl, Nat.le_of_ble_eq_true rfl⟩) hw rfl (fun _ => [oc m0 7 [.ref A0, .ref V0, .ref Z0, .int (nI (svK k9)), .int 0, .int pl, .int hz, .ref D0, .ref W0, .ref T0, .int tl, .int tw, .int tc], ac E A0 985 (mA r2 c2 0 1 0 st0F (fun _ => v) (fun _ => v) (fun _ => 0) (fun _ => (-1)) (fun _ => 0) (fun _ => 0) (fun _ => (-1)))]) (fun _ => rfl) 0 7 rfl rfl rfl rfl hl.1 rfl (Nat.le_of_ble_eq_true rfl) dX7_begin_63 ⟨Nat.le_of_ble_eq_true rfl, Nat.le_of_ble_eq_true rfl⟩ (fun r u H locs hq99 hw => ?_)
  have hw : kW E AA sx (List.flatten [oc m0 7 [.ref A0, .ref V0, .ref Z0, .int (nI (svK k9)), .int 0, .int pl, .int hz, .ref D0, .ref W0, .ref T0, .int tl, .int tw, .int tc], ac E A0 985 (mA r2 c2 0 1 0 st0F (fun _ => v) (fun _ => v) (fun _ => 0) (fun _ => (-1)) (fun _ => 0) (fun _ => 0) (fun _ => (-1))), ac E V0 3940 (svA V (mA h w wd s0 z st he ke tu ca tr co la) k9)]) H locs := hw
  refine W.eq (g2 := F0 mm 66 ls []) rfl ?_
  refine lv_aload_n hx hb dX7_begin_66 rfl (lv_at hl 0 rfl) ?_
  refine k_V (As := []) (rest := []) (pre := []) (mid := [oc m0 7 [.ref A0, .ref V0, .ref Z0, .int (nI (svK k9)), .int 0, .int pl, .int hz, .ref D0, .ref W0, .ref T0, .int tl, .int tw, .int tc], ac E A0 985 (mA r2 c2 0 1 0 st0F (fun _ => v) (fun _ => v) (fun _ => 0) (fun _ => (-1)) (fun _ => 0) (fun _ => 0) (fun _ => (-1)))]) C0 (c_X7_cells l E m0 A0 V0 Z0 D0 W0 T0 (nI (svK k9)) 0 pl hz tl tw tc r2 c2 0 1 0 st0F (fun _ => v) (fun _ => v) (fun _ => 0) (fun _ => (-1)) (fun _ => 0) (fun _ => 0) (fun _ => (-1)) ) (cwV 0 hts gX7_begin_X7_cells rfl rfl rfl (by decide +kernel) ⟨Nat.le_of_ble_eq_true rfl, Nat.le_of_ble_eq_true rfl⟩) hw rfl (fun _ => [oc m0 7 [.ref A0, .ref V0, .ref Z0, .int (nI (svK k9)), .int 0, .int pl, .int hz, .ref D0, .ref W0, .ref T0, .int tl, .int tw, .int tc], ac E A0 985 (mA r2 c2 0 1 0 st0F (fun _ => v) (fun _ => v) (fun _ => 0) (fun _ => (-1)) (fun _ => 0) (fun _ => 0) (fun _ => (-1)))]) (fun _ => rfl) 0 7 rfl rfl rfl rfl hl.1 rfl (Nat.le_of_ble_eq_true rfl) dX7_begin_67 ⟨Nat.le_of_ble_eq_true rfl, Nat.le_of_ble_eq_true rfl⟩ (fun r u H locs hq99 hw => ?_)
  subst hq99
  have hw : kW E AA sx (List.flatten [oc m0 7 [.ref A0, .ref V0, .ref Z0, .int (nI (svK k9)), .int 0, .int pl, .int hz, .ref D0, .ref W0, .ref T0, .int tl, .int tw, .int tc], ac E A0 985 (mA r2 c2 0 1 0 st0F (fun _ => v) (fun _ => v) (fun _ => 0) (fun _ => (-1)) (fun _ => 0) (fun _ => 0) (fun _ => (-1))), ac E V0 3940 (svA V (mA h w wd s0 z st he ke tu ca tr co la) k9)]) H locs := hw
  refine W.eq (g2 := F0 mm 70 ls [.int (nI (r2 * c2))]) rfl ?_
  -- leaf 0
  exact k_iret C0 hr hlk hw () (rfl) (rfl) (Nat.le_of_ble_eq_true rfl) (Nat.le_of_ble_eq_true rfl) dX7_begin_70

set_option maxHeartbeats 4000000 in
set_option maxRecDepth 100000 in
theorem c_X7_begin_x1 (l : Launch) (E : kE) (m0 : Nat) (A0 : Nat) (V0 : Nat) (Z0 : Nat) (D0 : Nat) (W0 : Nat) (T0 : Nat) (sm : Int32) (th : Int32) (pl : Int32) (hz : Int32) (tl : Int32) (tw : Int32) (tc : Int32) (h : Nat) (w : Nat) (wd : Int32) (s0 : Int32) (z : Int32) (st : Nat → Int32) (he : Nat → Int32) (ke : Nat → Int32) (tu : Nat → Int32) (ca : Nat → Int32) (tr : Nat → Int32) (co : Nat → Int32) (la : Nat → Int32) (x : Int32) (y : Int32) (v : Int32) (hv : ¬ ((¬ x < 3 ∧ ¬ 12 < x) ∧ (¬ y < 3 ∧ ¬ 16 < y))) : kC E l yX7_begin wsX7_begin rmX7_begin [.ref m0, .int x, .int y, .int v] (List.flatten [oc m0 7 [.ref A0, .ref V0, .ref Z0, .int sm, .int th, .int pl, .int hz, .ref D0, .ref W0, .ref T0, .int tl, .int tw, .int tc], ac E A0 985 (mA h w wd s0 z st he ke tu ca tr co la)]) kI (fun (r : Int32) (_ : Unit) => r = 0) (fun _ => List.flatten [oc m0 7 [.ref A0, .ref V0, .ref Z0, .int sm, .int 1, .int pl, .int hz, .ref D0, .ref W0, .ref T0, .int tl, .int tw, .int tc], ac E A0 985 (mA h w wd s0 z st he ke tu ca tr co la)]) 0 0 := by
  refine k_body (cc := cX7_begin) (maxL := 4) (ret := (some .int)) (by decide) rfl (Nat.le_of_ble_eq_true rfl) ?_
  intro pp ee sx mm aa bb me cd H locs AA ls C0 hr hlk hnm hl hw
  obtain ⟨hx, hb, hml, hown, hts⟩ := id C0
  have hl : lv_has ls 4 [(0, .ref m0), (1, .int x), (2, .int y), (3, .int v)] := hl
  have hw : kW E AA sx (List.flatten [oc m0 7 [.ref A0, .ref V0, .ref Z0, .int sm, .int th, .int pl, .int hz, .ref D0, .ref W0, .ref T0, .int tl, .int tw, .int tc], ac E A0 985 (mA h w wd s0 z st he ke tu ca tr co la)]) H locs := hw
  refine lv_aload_n hx hb dX7_begin_0 rfl (lv_at hl 0 rfl) ?_
  refine lv_iload_n hx hb dX7_begin_1 rfl (lv_at hl 1 rfl) ?_
  refine lv_i2l (v := Int32.toInt64 x) hx hb dX7_begin_2 rfl ?_
  refine lv_ldc2 (v := 3) hx hb hown (hts (.constantLong RX7 58 3) (by decide +kernel)) dX7_begin_3 ?_
  refine lv_ldc2 (v := 12) hx hb hown (hts (.constantLong RX7 60 12) (by decide +kernel)) dX7_begin_6 ?_
  refine k_S (As := [.long (Int32.toInt64 x), .long 3, .long 12]) (rest := [.ref m0]) (pre := []) (mid := []) C0 (c_X7_in_3_12 l E x ) (va_cwS 3 hts gX7_begin_X7_in rfl rfl rfl (by decide +kernel) ⟨Nat.le_of_ble_eq_true rfl, Nat.le_of_ble_eq_true rfl⟩) hw rfl (fun _ => []) (fun _ => rfl) rfl hl.1 rfl (Nat.le_of_ble_eq_true rfl) dX7_begin_9 ⟨Nat.le_of_ble_eq_true rfl, Nat.le_of_ble_eq_true rfl⟩ (fun r u H locs hq99 hw => ?_)
  subst hq99
  have hw : kW E AA sx (List.flatten [oc m0 7 [.ref A0, .ref V0, .ref Z0, .int sm, .int th, .int pl, .int hz, .ref D0, .ref W0, .ref T0, .int tl, .int tw, .int tc], ac E A0 985 (mA h w wd s0 z st he ke tu ca tr co la)]) H locs := hw
  refine W.eq (g2 := F0 mm 12 ls [.int (if ¬ x < 3 ∧ ¬ 12 < x then 1 else 0), .ref m0]) rfl ?_
  refine lv_if_eq (tgt := 45) hx hb dX7_begin_12 (by decide) (fun c12 => ?_) (fun c12 => ?_)
  · have c12 := kb10t c12
    refine lv_iconst (v := 0) hx hb dX7_begin_45 (by decide) ?_
    refine lv_iconst (v := 1) hx hb dX7_begin_46 (by decide) ?_
    refine k_V (As := [.int 0, .int 1]) (rest := []) (pre := []) (mid := [oc m0 7 [.ref A0, .ref V0, .ref Z0, .int sm, .int th, .int pl, .int hz, .ref D0, .ref W0, .ref T0, .int tl, .int tw, .int tc]]) C0 (c_X7_goes_1 l E m0 A0 V0 Z0 D0 W0 T0 sm th pl hz tl tw tc 0 1 (rfl)) (cwV 2 hts gX7_begin_X7_goes rfl rfl rfl (by decide +kernel) ⟨Nat.le_of_ble_eq_true rfl, Nat.le_of_ble_eq_true rfl⟩) hw rfl (fun _ => [oc m0 7 [.ref A0, .ref V0, .ref Z0, .int sm, .int 1, .int pl, .int hz, .ref D0, .ref W0, .ref T0, .int tl, .int tw, .int tc]]) (fun _ => rfl) 0 7 rfl rfl rfl rfl hl.1 rfl (Nat.le_of_ble_eq_true rfl) dX7_begin_47 ⟨Nat.le_of_ble_eq_true rfl, Nat.le_of_ble_eq_true rfl⟩ (fun r u H locs hq99 hw => ?_)
    subst r
    have hw : kW E AA sx (List.flatten [oc m0 7 [.ref A0, .ref V0, .ref Z0, .int sm, .int 1, .int pl, .int hz, .ref D0, .ref W0, .ref T0, .int tl, .int tw, .int tc], ac E A0 985 (mA h w wd s0 z st he ke tu ca tr co la)]) H locs := hw
    refine W.eq (g2 := F0 mm 50 ls [.int 0]) rfl ?_
    refine lv_if_ne (tgt := 55) hx hb dX7_begin_50 (by decide) (fun c50 => absurd c50 (by decide)) (fun c50 => ?_)
    refine lv_iconst (v := 0) hx hb dX7_begin_53 (by decide) ?_
    -- leaf 0
    exact k_iret C0 hr hlk hw () (rfl) (rfl) (Nat.le_of_ble_eq_true rfl) (Nat.le_of_ble_eq_true rfl) dX7_begin_54
  · have c12 := kb10f c12
    refine lv_iload_n hx hb dX7_begin_15 rfl (lv_at hl 2 rfl) ?_
    refine lv_i2l (v := Int32.toInt64 y) hx hb dX7_begin_16 rfl ?_
    refine lv_ldc2 (v := 3) hx hb hown (hts (.constantLong RX7 58 3) (by decide +kernel)) dX7_begin_17 ?_
    refine lv_ldc2 (v := 16) hx hb hown (hts (.constantLong RX7 62 16) (by decide +kernel)) dX7_begin_20 ?_
    refine k_S (As := [.long (Int32.toInt64 y), .long 3, .long 16]) (rest := [.ref m0]) (pre := []) (mid := []) C0 (c_X7_in_3_16 l E y ) (va_cwS 3 hts gX7_begin_X7_in rfl rfl rfl (by decide +kernel) ⟨Nat.le_of_ble_eq_true rfl, Nat.le_of_ble_eq_true rfl⟩) hw rfl (fun _ => []) (fun _ => rfl) rfl hl.1 rfl (Nat.le_of_ble_eq_true rfl) dX7_begin_23 ⟨Nat.le_of_ble_eq_true rfl, Nat.le_of_ble_eq_true rfl⟩ (fun r u H locs hq99 hw => ?_)
    subst hq99
    have hw : kW E AA sx (List.flatten [oc m0 7 [.ref A0, .ref V0, .ref Z0, .int sm, .int th, .int pl, .int hz, .ref D0, .ref W0, .ref T0, .int tl, .int tw, .int tc], ac E A0 985 (mA h w wd s0 z st he ke tu ca tr co la)]) H locs := hw
    refine W.eq (g2 := F0 mm 26 ls [.int (if ¬ y < 3 ∧ ¬ 16 < y then 1 else 0), .ref m0]) rfl ?_
    refine lv_if_eq (tgt := 45) hx hb dX7_begin_26 (by decide) (fun c26 => ?_) (fun c26 => False.elim (hv ⟨c12, kb10f c26⟩))
    have c26 := kb10t c26
    refine lv_iconst (v := 0) hx hb dX7_begin_45 (by decide) ?_
    refine lv_iconst (v := 1) hx hb dX7_begin_46 (by decide) ?_
    refine k_V (As := [.int 0, .int 1]) (rest := []) (pre := []) (mid := [oc m0 7 [.ref A0, .ref V0, .ref Z0, .int sm, .int th, .int pl, .int hz, .ref D0, .ref W0, .ref T0, .int tl, .int tw, .int tc]]) C0 (c_X7_goes_1 l E m0 A0 V0 Z0 D0 W0 T0 sm th pl hz tl tw tc 0 1 (rfl)) (cwV 2 hts gX7_begin_X7_goes rfl rfl rfl (by decide +kernel) ⟨Nat.le_of_ble_eq_true rfl, Nat.le_of_ble_eq_true rfl⟩) hw rfl (fun _ => [oc m0 7 [.ref A0, .ref V0, .ref Z0, .int sm, .int 1, .int pl, .int hz, .ref D0, .ref W0, .ref T0, .int tl, .int tw, .int tc]]) (fun _ => rfl) 0 7 rfl rfl rfl rfl hl.1 rfl (Nat.le_of_ble_eq_true rfl) dX7_begin_47 ⟨Nat.le_of_ble_eq_true rfl, Nat.le_of_ble_eq_true rfl⟩ (fun r u H locs hq99 hw => ?_)
    subst r
    have hw : kW E AA sx (List.flatten [oc m0 7 [.ref A0, .ref V0, .ref Z0, .int sm, .int 1, .int pl, .int hz, .ref D0, .ref W0, .ref T0, .int tl, .int tw, .int tc], ac E A0 985 (mA h w wd s0 z st he ke tu ca tr co la)]) H locs := hw
    refine W.eq (g2 := F0 mm 50 ls [.int 0]) rfl ?_
    refine lv_if_ne (tgt := 55) hx hb dX7_begin_50 (by decide) (fun c50 => absurd c50 (by decide)) (fun c50 => ?_)
    refine lv_iconst (v := 0) hx hb dX7_begin_53 (by decide) ?_
    -- leaf 1
    exact k_iret C0 hr hlk hw () (rfl) (rfl) (Nat.le_of_ble_eq_true rfl) (Nat.le_of_ble_eq_true rfl) dX7_begin_54

set_option maxHeartbeats 4000000 in
set_option maxRecDepth 100000 in
theorem c_X7_begin_x2 (l : Launch) (E : kE) (m0 : Nat) (A0 : Nat) (V0 : Nat) (Z0 : Nat) (D0 : Nat) (W0 : Nat) (T0 : Nat) (sm : Int32) (th : Int32) (pl : Int32) (hz : Int32) (tl : Int32) (tw : Int32) (tc : Int32) (h : Nat) (w : Nat) (wd : Int32) (s0 : Int32) (z : Int32) (st : Nat → Int32) (he : Nat → Int32) (ke : Nat → Int32) (tu : Nat → Int32) (ca : Nat → Int32) (tr : Nat → Int32) (co : Nat → Int32) (la : Nat → Int32) (r2 : Nat) (c2 : Nat) (v : Int32) (hG8 : kG r2 c2) (hv : ¬ (¬ v < 0 ∧ ¬ 20 < v)) : kC E l yX7_begin wsX7_begin rmX7_begin [.ref m0, .int (nI r2), .int (nI c2), .int v] (List.flatten [oc m0 7 [.ref A0, .ref V0, .ref Z0, .int sm, .int th, .int pl, .int hz, .ref D0, .ref W0, .ref T0, .int tl, .int tw, .int tc], ac E A0 985 (mA h w wd s0 z st he ke tu ca tr co la)]) kI (fun (r : Int32) (_ : Unit) => r = 0) (fun _ => List.flatten [oc m0 7 [.ref A0, .ref V0, .ref Z0, .int sm, .int 1, .int pl, .int hz, .ref D0, .ref W0, .ref T0, .int tl, .int tw, .int tc], ac E A0 985 (mA h w wd s0 z st he ke tu ca tr co la)]) 0 0 := by
  refine k_body (cc := cX7_begin) (maxL := 4) (ret := (some .int)) (by decide) rfl (Nat.le_of_ble_eq_true rfl) ?_
  intro pp ee sx mm aa bb me cd H locs AA ls C0 hr hlk hnm hl hw
  obtain ⟨hx, hb, hml, hown, hts⟩ := id C0
  have hl : lv_has ls 4 [(0, .ref m0), (1, .int (nI r2)), (2, .int (nI c2)), (3, .int v)] := hl
  have hw : kW E AA sx (List.flatten [oc m0 7 [.ref A0, .ref V0, .ref Z0, .int sm, .int th, .int pl, .int hz, .ref D0, .ref W0, .ref T0, .int tl, .int tw, .int tc], ac E A0 985 (mA h w wd s0 z st he ke tu ca tr co la)]) H locs := hw
  obtain ⟨hG81, hG82, hG83, hG84⟩ := id hG8
  refine lv_aload_n hx hb dX7_begin_0 rfl (lv_at hl 0 rfl) ?_
  refine lv_iload_n hx hb dX7_begin_1 rfl (lv_at hl 1 rfl) ?_
  refine lv_i2l (v := Int32.toInt64 (nI r2)) hx hb dX7_begin_2 rfl ?_
  refine lv_ldc2 (v := 3) hx hb hown (hts (.constantLong RX7 58 3) (by decide +kernel)) dX7_begin_3 ?_
  refine lv_ldc2 (v := 12) hx hb hown (hts (.constantLong RX7 60 12) (by decide +kernel)) dX7_begin_6 ?_
  refine k_S (As := [.long (Int32.toInt64 (nI r2)), .long 3, .long 12]) (rest := [.ref m0]) (pre := []) (mid := []) C0 (c_X7_in_3_12 l E (nI r2) ) (va_cwS 3 hts gX7_begin_X7_in rfl rfl rfl (by decide +kernel) ⟨Nat.le_of_ble_eq_true rfl, Nat.le_of_ble_eq_true rfl⟩) hw rfl (fun _ => []) (fun _ => rfl) rfl hl.1 rfl (Nat.le_of_ble_eq_true rfl) dX7_begin_9 ⟨Nat.le_of_ble_eq_true rfl, Nat.le_of_ble_eq_true rfl⟩ (fun r u H locs hq99 hw => ?_)
  subst hq99
  have hw : kW E AA sx (List.flatten [oc m0 7 [.ref A0, .ref V0, .ref Z0, .int sm, .int th, .int pl, .int hz, .ref D0, .ref W0, .ref T0, .int tl, .int tw, .int tc], ac E A0 985 (mA h w wd s0 z st he ke tu ca tr co la)]) H locs := hw
  refine W.eq (g2 := F0 mm 12 ls [.int (if ¬ (nI r2) < 3 ∧ ¬ 12 < (nI r2) then 1 else 0), .ref m0]) rfl ?_
  refine lv_if_eq (tgt := 45) hx hb dX7_begin_12 (by decide) (fun c12 => absurd c12 (kp10 (⟨nI_nlt (a := r2) (b := 3) (by omega) (by omega), nI_nlt (a := 12) (b := r2) (by omega) (by omega)⟩))) (fun c12 => ?_)
  have c12 := kb10f c12
  refine lv_iload_n hx hb dX7_begin_15 rfl (lv_at hl 2 rfl) ?_
  refine lv_i2l (v := Int32.toInt64 (nI c2)) hx hb dX7_begin_16 rfl ?_
  refine lv_ldc2 (v := 3) hx hb hown (hts (.constantLong RX7 58 3) (by decide +kernel)) dX7_begin_17 ?_
  refine lv_ldc2 (v := 16) hx hb hown (hts (.constantLong RX7 62 16) (by decide +kernel)) dX7_begin_20 ?_
  refine k_S (As := [.long (Int32.toInt64 (nI c2)), .long 3, .long 16]) (rest := [.ref m0]) (pre := []) (mid := []) C0 (c_X7_in_3_16 l E (nI c2) ) (va_cwS 3 hts gX7_begin_X7_in rfl rfl rfl (by decide +kernel) ⟨Nat.le_of_ble_eq_true rfl, Nat.le_of_ble_eq_true rfl⟩) hw rfl (fun _ => []) (fun _ => rfl) rfl hl.1 rfl (Nat.le_of_ble_eq_true rfl) dX7_begin_23 ⟨Nat.le_of_ble_eq_true rfl, Nat.le_of_ble_eq_true rfl⟩ (fun r u H locs hq99 hw => ?_)
  subst hq99
  have hw : kW E AA sx (List.flatten [oc m0 7 [.ref A0, .ref V0, .ref Z0, .int sm, .int th, .int pl, .int hz, .ref D0, .ref W0, .ref T0, .int tl, .int tw, .int tc], ac E A0 985 (mA h w wd s0 z st he ke tu ca tr co la)]) H locs := hw
  refine W.eq (g2 := F0 mm 26 ls [.int (if ¬ (nI c2) < 3 ∧ ¬ 16 < (nI c2) then 1 else 0), .ref m0]) rfl ?_
  refine lv_if_eq (tgt := 45) hx hb dX7_begin_26 (by decide) (fun c26 => absurd c26 (kp10 (⟨nI_nlt (a := c2) (b := 3) (by omega) (by omega), nI_nlt (a := 16) (b := c2) (by omega) (by omega)⟩))) (fun c26 => ?_)
  have c26 := kb10f c26
  refine lv_iload_n hx hb dX7_begin_29 rfl (lv_at hl 3 rfl) ?_
  refine lv_i2l (v := Int32.toInt64 v) hx hb dX7_begin_30 rfl ?_
  refine lv_lconst (v := 0) hx hb dX7_begin_31 (by decide) ?_
  refine lv_ldc2 (v := 20) hx hb hown (hts (.constantLong RX7 64 20) (by decide +kernel)) dX7_begin_32 ?_
  refine k_S (As := [.long (Int32.toInt64 v), .long 0, .long 20]) (rest := [.ref m0]) (pre := []) (mid := []) C0 (c_X7_in_0_20 l E v ) (va_cwS 3 hts gX7_begin_X7_in rfl rfl rfl (by decide +kernel) ⟨Nat.le_of_ble_eq_true rfl, Nat.le_of_ble_eq_true rfl⟩) hw rfl (fun _ => []) (fun _ => rfl) rfl hl.1 rfl (Nat.le_of_ble_eq_true rfl) dX7_begin_35 ⟨Nat.le_of_ble_eq_true rfl, Nat.le_of_ble_eq_true rfl⟩ (fun r u H locs hq99 hw => ?_)
  subst hq99
  have hw : kW E AA sx (List.flatten [oc m0 7 [.ref A0, .ref V0, .ref Z0, .int sm, .int th, .int pl, .int hz, .ref D0, .ref W0, .ref T0, .int tl, .int tw, .int tc], ac E A0 985 (mA h w wd s0 z st he ke tu ca tr co la)]) H locs := hw
  refine W.eq (g2 := F0 mm 38 ls [.int (if ¬ v < 0 ∧ ¬ 20 < v then 1 else 0), .ref m0]) rfl ?_
  refine lv_if_eq (tgt := 45) hx hb dX7_begin_38 (by decide) (fun c38 => ?_) (fun c38 => False.elim (hv (kb10f c38)))
  have c38 := kb10t c38
  refine lv_iconst (v := 0) hx hb dX7_begin_45 (by decide) ?_
  refine lv_iconst (v := 1) hx hb dX7_begin_46 (by decide) ?_
  refine k_V (As := [.int 0, .int 1]) (rest := []) (pre := []) (mid := [oc m0 7 [.ref A0, .ref V0, .ref Z0, .int sm, .int th, .int pl, .int hz, .ref D0, .ref W0, .ref T0, .int tl, .int tw, .int tc]]) C0 (c_X7_goes_1 l E m0 A0 V0 Z0 D0 W0 T0 sm th pl hz tl tw tc 0 1 (rfl)) (cwV 2 hts gX7_begin_X7_goes rfl rfl rfl (by decide +kernel) ⟨Nat.le_of_ble_eq_true rfl, Nat.le_of_ble_eq_true rfl⟩) hw rfl (fun _ => [oc m0 7 [.ref A0, .ref V0, .ref Z0, .int sm, .int 1, .int pl, .int hz, .ref D0, .ref W0, .ref T0, .int tl, .int tw, .int tc]]) (fun _ => rfl) 0 7 rfl rfl rfl rfl hl.1 rfl (Nat.le_of_ble_eq_true rfl) dX7_begin_47 ⟨Nat.le_of_ble_eq_true rfl, Nat.le_of_ble_eq_true rfl⟩ (fun r u H locs hq99 hw => ?_)
  subst r
  have hw : kW E AA sx (List.flatten [oc m0 7 [.ref A0, .ref V0, .ref Z0, .int sm, .int 1, .int pl, .int hz, .ref D0, .ref W0, .ref T0, .int tl, .int tw, .int tc], ac E A0 985 (mA h w wd s0 z st he ke tu ca tr co la)]) H locs := hw
  refine W.eq (g2 := F0 mm 50 ls [.int 0]) rfl ?_
  refine lv_if_ne (tgt := 55) hx hb dX7_begin_50 (by decide) (fun c50 => absurd c50 (by decide)) (fun c50 => ?_)
  refine lv_iconst (v := 0) hx hb dX7_begin_53 (by decide) ?_
  -- leaf 0
  exact k_iret C0 hr hlk hw () (rfl) (rfl) (Nat.le_of_ble_eq_true rfl) (Nat.le_of_ble_eq_true rfl) dX7_begin_54

abbrev rmX7_setHeight : Room := { frames := 2, cells := 0, slots := 0, locals := 46 }
set_option maxHeartbeats 4000000 in
set_option maxRecDepth 100000 in
theorem c_X7_setHeight_ok (l : Launch) (E : kE) (m0 : Nat) (A0 : Nat) (V0 : Nat) (Z0 : Nat) (D0 : Nat) (W0 : Nat) (T0 : Nat) (th : Int32) (pl : Int32) (hz : Int32) (tl : Int32) (tw : Int32) (tc : Int32) (h : Nat) (w : Nat) (k9 : Nat) (wd : Int32) (s0 : Int32) (z : Int32) (st : Nat → Int32) (he : Nat → Int32) (ke : Nat → Int32) (tu : Nat → Int32) (ca : Nat → Int32) (tr : Nat → Int32) (co : Nat → Int32) (la : Nat → Int32) (V : Nat → Int32) (k : Nat) (v : Int32) (hG : kG h w) (hc : k < h * w) (hv : ¬ v < 0 ∧ ¬ 99 < v) (hk9 : k9 ≤ 4) : kC E l yX7_setHeight wsX7_setHeight rmX7_setHeight [.ref m0, .int (nI k), .int v] (List.flatten [oc m0 7 [.ref A0, .ref V0, .ref Z0, .int (nI k9), .int th, .int pl, .int hz, .ref D0, .ref W0, .ref T0, .int tl, .int tw, .int tc], ac E A0 985 (mA h w wd s0 z st he ke tu ca tr co la), ac E V0 3940 V]) kI (fun (r : Int32) (_ : Unit) => r = he k) (fun _ => List.flatten [oc m0 7 [.ref A0, .ref V0, .ref Z0, .int (nI (svK k9)), .int 0, .int pl, .int hz, .ref D0, .ref W0, .ref T0, .int tl, .int tw, .int tc], ac E A0 985 (mA h w wd s0 z st (upd he k v) (upd ke k v) tu ca tr co la), ac E V0 3940 (svA V (mA h w wd s0 z st he ke tu ca tr co la) k9)]) 0 0 := by
  refine k_body (cc := cX7_setHeight) (maxL := 4) (ret := (some .int)) (by decide) rfl (Nat.le_of_ble_eq_true rfl) ?_
  intro pp ee sx mm aa bb me cd H locs AA ls C0 hr hlk hnm hl hw
  obtain ⟨hx, hb, hml, hown, hts⟩ := id C0
  have hl : lv_has ls 4 [(0, .ref m0), (1, .int (nI k)), (2, .int v)] := hl
  have hw : kW E AA sx (List.flatten [oc m0 7 [.ref A0, .ref V0, .ref Z0, .int (nI k9), .int th, .int pl, .int hz, .ref D0, .ref W0, .ref T0, .int tl, .int tw, .int tc], ac E A0 985 (mA h w wd s0 z st he ke tu ca tr co la), ac E V0 3940 V]) H locs := hw
  have hn9 := kG_n hG
  have hG9 := id hG
  obtain ⟨hG1, hG2, hG3, hG4⟩ := hG9
  refine lv_aload_n hx hb dX7_setHeight_0 rfl (lv_at hl 0 rfl) ?_
  refine lv_aload_n hx hb dX7_setHeight_1 rfl (lv_at hl 0 rfl) ?_
  refine lv_iload_n hx hb dX7_setHeight_2 rfl (lv_at hl 1 rfl) ?_
  refine k_V (As := [.int (nI k)]) (rest := [.ref m0]) (pre := []) (mid := [oc m0 7 [.ref A0, .ref V0, .ref Z0, .int (nI k9), .int th, .int pl, .int hz, .ref D0, .ref W0, .ref T0, .int tl, .int tw, .int tc], ac E A0 985 (mA h w wd s0 z st he ke tu ca tr co la)]) C0 (c_X7_isCell l E m0 A0 V0 Z0 D0 W0 T0 (nI k9) th pl hz tl tw tc h w wd s0 z st he ke tu ca tr co la (nI k) (by first | assumption | omega)) (cwV 1 hts gX7_setHeight_X7_isCell rfl rfl rfl (by decide +kernel) ⟨Nat.le_of_ble_eq_true rfl, Nat.le_of_ble_eq_true rfl⟩) hw rfl (fun _ => [oc m0 7 [.ref A0, .ref V0, .ref Z0, .int (nI k9), .int th, .int pl, .int hz, .ref D0, .ref W0, .ref T0, .int tl, .int tw, .int tc], ac E A0 985 (mA h w wd s0 z st he ke tu ca tr co la)]) (fun _ => rfl) 0 7 rfl rfl rfl rfl hl.1 rfl (Nat.le_of_ble_eq_true rfl) dX7_setHeight_3 ⟨Nat.le_of_ble_eq_true rfl, Nat.le_of_ble_eq_true rfl⟩ (fun r u H locs hq99 hw => ?_)
  subst hq99
  have hw : kW E AA sx (List.flatten [oc m0 7 [.ref A0, .ref V0, .ref Z0, .int (nI k9), .int th, .int pl, .int hz, .ref D0, .ref W0, .ref T0, .int tl, .int tw, .int tc], ac E A0 985 (mA h w wd s0 z st he ke tu ca tr co la), ac E V0 3940 V]) H locs := hw
  refine W.eq (g2 := F0 mm 6 ls [.int (if ¬ (nI k) < 0 ∧ ¬ nI (h * w - 1) < (nI k) then 1 else 0), .ref m0]) rfl ?_
  refine lv_iload_n hx hb dX7_setHeight_6 rfl (lv_at hl 2 rfl) ?_
  refine lv_i2l (v := Int32.toInt64 v) hx hb dX7_setHeight_7 rfl ?_
  refine lv_lconst (v := 0) hx hb dX7_setHeight_8 (by decide) ?_
  refine lv_ldc2 (v := 99) hx hb hown (hts (.constantLong RX7 77 99) (by decide +kernel)) dX7_setHeight_9 ?_
  refine k_S (As := [.long (Int32.toInt64 v), .long 0, .long 99]) (rest := [.int (if ¬ (nI k) < 0 ∧ ¬ nI (h * w - 1) < (nI k) then 1 else 0), .ref m0]) (pre := []) (mid := []) C0 (c_X7_in_0_99 l E v ) (va_cwS 3 hts gX7_setHeight_X7_in rfl rfl rfl (by decide +kernel) ⟨Nat.le_of_ble_eq_true rfl, Nat.le_of_ble_eq_true rfl⟩) hw rfl (fun _ => []) (fun _ => rfl) rfl hl.1 rfl (Nat.le_of_ble_eq_true rfl) dX7_setHeight_12 ⟨Nat.le_of_ble_eq_true rfl, Nat.le_of_ble_eq_true rfl⟩ (fun r u H locs hq99 hw => ?_)
  subst hq99
  have hw : kW E AA sx (List.flatten [oc m0 7 [.ref A0, .ref V0, .ref Z0, .int (nI k9), .int th, .int pl, .int hz, .ref D0, .ref W0, .ref T0, .int tl, .int tw, .int tc], ac E A0 985 (mA h w wd s0 z st he ke tu ca tr co la), ac E V0 3940 V]) H locs := hw
  refine W.eq (g2 := F0 mm 15 ls [.int (if ¬ v < 0 ∧ ¬ 99 < v then 1 else 0), .int (if ¬ (nI k) < 0 ∧ ¬ nI (h * w - 1) < (nI k) then 1 else 0), .ref m0]) rfl ?_
  refine k_V (As := [.int (if ¬ (nI k) < 0 ∧ ¬ nI (h * w - 1) < (nI k) then 1 else 0), .int (if ¬ v < 0 ∧ ¬ 99 < v then 1 else 0)]) (rest := []) (pre := []) (mid := [oc m0 7 [.ref A0, .ref V0, .ref Z0, .int (nI k9), .int th, .int pl, .int hz, .ref D0, .ref W0, .ref T0, .int tl, .int tw, .int tc]]) C0 (c_X7_goes_ok l E m0 A0 V0 Z0 D0 W0 T0 (nI k9) th pl hz tl tw tc (if ¬ (nI k) < 0 ∧ ¬ nI (h * w - 1) < (nI k) then 1 else 0) (if ¬ v < 0 ∧ ¬ 99 < v then 1 else 0) (kp10 (⟨nI_pos (by omega), nI_nlt (a := h * w - 1) (b := k) (by omega) (by omega)⟩)) (kp10 (hv))) (cwV 2 hts gX7_setHeight_X7_goes rfl rfl rfl (by decide +kernel) ⟨Nat.le_of_ble_eq_true rfl, Nat.le_of_ble_eq_true rfl⟩) hw rfl (fun _ => [oc m0 7 [.ref A0, .ref V0, .ref Z0, .int (nI k9), .int 0, .int pl, .int hz, .ref D0, .ref W0, .ref T0, .int tl, .int tw, .int tc]]) (fun _ => rfl) 0 7 rfl rfl rfl rfl hl.1 rfl (Nat.le_of_ble_eq_true rfl) dX7_setHeight_15 ⟨Nat.le_of_ble_eq_true rfl, Nat.le_of_ble_eq_true rfl⟩ (fun r u H locs hq99 hw => ?_)
  subst r
  have hw : kW E AA sx (List.flatten [oc m0 7 [.ref A0, .ref V0, .ref Z0, .int (nI k9), .int 0, .int pl, .int hz, .ref D0, .ref W0, .ref T0, .int tl, .int tw, .int tc], ac E A0 985 (mA h w wd s0 z st he ke tu ca tr co la), ac E V0 3940 V]) H locs := hw
  refine W.eq (g2 := F0 mm 18 ls [.int 1]) rfl ?_
  refine lv_if_ne (tgt := 23) hx hb dX7_setHeight_18 (by decide) (fun c18 => ?_) (fun c18 => absurd c18 (by decide))
  refine lv_aload_n hx hb dX7_setHeight_23 rfl (lv_at hl 0 rfl) ?_
  refine k_V (As := []) (rest := []) (pre := []) (mid := [oc m0 7 [.ref A0, .ref V0, .ref Z0, .int (nI k9), .int 0, .int pl, .int hz, .ref D0, .ref W0, .ref T0, .int tl, .int tw, .int tc], ac E A0 985 (mA h w wd s0 z st he ke tu ca tr co la), ac E V0 3940 V]) C0 (c_X7_save l E m0 A0 V0 Z0 D0 W0 T0 0 pl hz tl tw tc k9 (mA h w wd s0 z st he ke tu ca tr co la) V (by first | assumption | omega)) (cwV 0 hts gX7_setHeight_X7_save rfl rfl rfl (by decide +kernel) ⟨Nat.le_of_ble_eq_true rfl, Nat.le_of_ble_eq_true rfl⟩) hw rfl (fun _ => [oc m0 7 [.ref A0, .ref V0, .ref Z0, .int (nI (svK k9)), .int 0, .int pl, .int hz, .ref D0, .ref W0, .ref T0, .int tl, .int tw, .int tc], ac E A0 985 (mA h w wd s0 z st he ke tu ca tr co la), ac E V0 3940 (svA V (mA h w wd s0 z st he ke tu ca tr co la) k9)]) (fun _ => rfl) 0 7 rfl rfl rfl rfl hl.1 rfl (Nat.le_of_ble_eq_true rfl) dX7_setHeight_24 ⟨Nat.le_of_ble_eq_true rfl, Nat.le_of_ble_eq_true rfl⟩ (fun r u H locs hq99 hw => ?_)
  have hw : kW E AA sx (List.flatten [oc m0 7 [.ref A0, .ref V0, .ref Z0, .int (nI (svK k9)), .int 0, .int pl, .int hz, .ref D0, .ref W0, .ref T0, .int tl, .int tw, .int tc], ac E A0 985 (mA h w wd s0 z st he ke tu ca tr co la), ac E V0 3940 (svA V (mA h w wd s0 z st he ke tu ca tr co la) k9)]) H locs := hw
  refine W.eq (g2 := F0 mm 27 ls []) rfl ?_
  refine lv_aload_n hx hb dX7_setHeight_27 rfl (lv_at hl 0 rfl) ?_
  refine lv_iload_n hx hb dX7_setHeight_28 rfl (lv_at hl 1 rfl) ?_
  refine lv_iconst (v := 0) hx hb dX7_setHeight_29 (by decide) ?_
  refine k_V (As := [.int (nI k), .int 0]) (rest := []) (pre := []) (mid := [oc m0 7 [.ref A0, .ref V0, .ref Z0, .int (nI (svK k9)), .int 0, .int pl, .int hz, .ref D0, .ref W0, .ref T0, .int tl, .int tw, .int tc], ac E A0 985 (mA h w wd s0 z st he ke tu ca tr co la)]) C0 (c_X7_of0 l E m0 A0 V0 Z0 D0 W0 T0 (nI (svK k9)) 0 pl hz tl tw tc h w wd s0 z st he ke tu ca tr co la k (by first | assumption | omega) (by first | assumption | omega)) (cwV 2 hts gX7_setHeight_X7_of rfl rfl rfl (by decide +kernel) ⟨Nat.le_of_ble_eq_true rfl, Nat.le_of_ble_eq_true rfl⟩) hw rfl (fun _ => [oc m0 7 [.ref A0, .ref V0, .ref Z0, .int (nI (svK k9)), .int 0, .int pl, .int hz, .ref D0, .ref W0, .ref T0, .int tl, .int tw, .int tc], ac E A0 985 (mA h w wd s0 z st he ke tu ca tr co la)]) (fun _ => rfl) 0 7 rfl rfl rfl rfl hl.1 rfl (Nat.le_of_ble_eq_true rfl) dX7_setHeight_30 ⟨Nat.le_of_ble_eq_true rfl, Nat.le_of_ble_eq_true rfl⟩ (fun r u H locs hq99 hw => ?_)
  subst hq99
  have hw : kW E AA sx (List.flatten [oc m0 7 [.ref A0, .ref V0, .ref Z0, .int (nI (svK k9)), .int 0, .int pl, .int hz, .ref D0, .ref W0, .ref T0, .int tl, .int tw, .int tc], ac E A0 985 (mA h w wd s0 z st he ke tu ca tr co la), ac E V0 3940 (svA V (mA h w wd s0 z st he ke tu ca tr co la) k9)]) H locs := hw
  refine W.eq (g2 := F0 mm 33 ls [.int (he k)]) rfl ?_
  refine lv_istore_n (lv' := [(3, .int (he k)), (0, .ref m0), (1, .int (nI k)), (2, .int v)]) hx hb dX7_setHeight_33 rfl hl (by decide) rfl (fun ls hl => ?_)
  refine lv_aload_n hx hb dX7_setHeight_34 rfl (lv_at hl 1 rfl) ?_
  refine lv_iload_n hx hb dX7_setHeight_35 rfl (lv_at hl 2 rfl) ?_
  refine lv_iload_n hx hb dX7_setHeight_36 rfl (lv_at hl 3 rfl) ?_
  refine k_V (As := [.int (nI k), .int v]) (rest := []) (pre := []) (mid := [oc m0 7 [.ref A0, .ref V0, .ref Z0, .int (nI (svK k9)), .int 0, .int pl, .int hz, .ref D0, .ref W0, .ref T0, .int tl, .int tw, .int tc], ac E A0 985 (mA h w wd s0 z st he ke tu ca tr co la)]) C0 (c_X7_heightens l E m0 A0 V0 Z0 D0 W0 T0 (nI (svK k9)) 0 pl hz tl tw tc h w wd s0 z st he ke tu ca tr co la k v (by first | assumption | omega) (by first | assumption | omega)) (cwV 2 hts gX7_setHeight_X7_heightens rfl rfl rfl (by decide +kernel) ⟨Nat.le_of_ble_eq_true rfl, Nat.le_of_ble_eq_true rfl⟩) hw rfl (fun _ => [oc m0 7 [.ref A0, .ref V0, .ref Z0, .int (nI (svK k9)), .int 0, .int pl, .int hz, .ref D0, .ref W0, .ref T0, .int tl, .int tw, .int tc], ac E A0 985 (mA h w wd s0 z st (upd he k v) (upd ke k v) tu ca tr co la)]) (fun _ => rfl) 0 7 rfl rfl rfl rfl hl.1 rfl (Nat.le_of_ble_eq_true rfl) dX7_setHeight_37 ⟨Nat.le_of_ble_eq_true rfl, Nat.le_of_ble_eq_true rfl⟩ (fun r u H locs hq99 hw => ?_)
  have hw : kW E AA sx (List.flatten [oc m0 7 [.ref A0, .ref V0, .ref Z0, .int (nI (svK k9)), .int 0, .int pl, .int hz, .ref D0, .ref W0, .ref T0, .int tl, .int tw, .int tc], ac E A0 985 (mA h w wd s0 z st (upd he k v) (upd ke k v) tu ca tr co la), ac E V0 3940 (svA V (mA h w wd s0 z st he ke tu ca tr co la) k9)]) H locs := hw
  refine W.eq (g2 := F0 mm 40 ls []) rfl ?_
  refine lv_iload_n hx hb dX7_setHeight_40 rfl (lv_at hl 0 rfl) ?_
  -- leaf 0
  exact k_iret C0 hr hlk hw () (rfl) (rfl) (Nat.le_of_ble_eq_true rfl) (Nat.le_of_ble_eq_true rfl) dX7_setHeight_41

set_option maxHeartbeats 4000000 in
set_option maxRecDepth 100000 in
theorem c_X7_setHeight_x1 (l : Launch) (E : kE) (m0 : Nat) (A0 : Nat) (V0 : Nat) (Z0 : Nat) (D0 : Nat) (W0 : Nat) (T0 : Nat) (sm : Int32) (th : Int32) (pl : Int32) (hz : Int32) (tl : Int32) (tw : Int32) (tc : Int32) (h : Nat) (w : Nat) (wd : Int32) (s0 : Int32) (z : Int32) (st : Nat → Int32) (he : Nat → Int32) (ke : Nat → Int32) (tu : Nat → Int32) (ca : Nat → Int32) (tr : Nat → Int32) (co : Nat → Int32) (la : Nat → Int32) (x : Int32) (v : Int32) (hG : kG h w) (hv : ¬ (¬ x < 0 ∧ ¬ nI (h * w - 1) < x)) : kC E l yX7_setHeight wsX7_setHeight rmX7_setHeight [.ref m0, .int x, .int v] (List.flatten [oc m0 7 [.ref A0, .ref V0, .ref Z0, .int sm, .int th, .int pl, .int hz, .ref D0, .ref W0, .ref T0, .int tl, .int tw, .int tc], ac E A0 985 (mA h w wd s0 z st he ke tu ca tr co la)]) kI (fun (r : Int32) (_ : Unit) => r = 0) (fun _ => List.flatten [oc m0 7 [.ref A0, .ref V0, .ref Z0, .int sm, .int 1, .int pl, .int hz, .ref D0, .ref W0, .ref T0, .int tl, .int tw, .int tc], ac E A0 985 (mA h w wd s0 z st he ke tu ca tr co la)]) 0 0 := by
  refine k_body (cc := cX7_setHeight) (maxL := 4) (ret := (some .int)) (by decide) rfl (Nat.le_of_ble_eq_true rfl) ?_
  intro pp ee sx mm aa bb me cd H locs AA ls C0 hr hlk hnm hl hw
  obtain ⟨hx, hb, hml, hown, hts⟩ := id C0
  have hl : lv_has ls 4 [(0, .ref m0), (1, .int x), (2, .int v)] := hl
  have hw : kW E AA sx (List.flatten [oc m0 7 [.ref A0, .ref V0, .ref Z0, .int sm, .int th, .int pl, .int hz, .ref D0, .ref W0, .ref T0, .int tl, .int tw, .int tc], ac E A0 985 (mA h w wd s0 z st he ke tu ca tr co la)]) H locs := hw
  have hn9 := kG_n hG
  have hG9 := id hG
  obtain ⟨hG1, hG2, hG3, hG4⟩ := hG9
  refine lv_aload_n hx hb dX7_setHeight_0 rfl (lv_at hl 0 rfl) ?_
  refine lv_aload_n hx hb dX7_setHeight_1 rfl (lv_at hl 0 rfl) ?_
  refine lv_iload_n hx hb dX7_setHeight_2 rfl (lv_at hl 1 rfl) ?_
  refine k_V (As := [.int x]) (rest := [.ref m0]) (pre := []) (mid := [oc m0 7 [.ref A0, .ref V0, .ref Z0, .int sm, .int th, .int pl, .int hz, .ref D0, .ref W0, .ref T0, .int tl, .int tw, .int tc], ac E A0 985 (mA h w wd s0 z st he ke tu ca tr co la)]) C0 (c_X7_isCell l E m0 A0 V0 Z0 D0 W0 T0 sm th pl hz tl tw tc h w wd s0 z st he ke tu ca tr co la x (by first | assumption | omega)) (cwV 1 hts gX7_setHeight_X7_isCell rfl rfl rfl (by decide +kernel) ⟨Nat.le_of_ble_eq_true rfl, Nat.le_of_ble_eq_true rfl⟩) hw rfl (fun _ => [oc m0 7 [.ref A0, .ref V0, .ref Z0, .int sm, .int th, .int pl, .int hz, .ref D0, .ref W0, .ref T0, .int tl, .int tw, .int tc], ac E A0 985 (mA h w wd s0 z st he ke tu ca tr co la)]) (fun _ => rfl) 0 7 rfl rfl rfl rfl hl.1 rfl (Nat.le_of_ble_eq_true rfl) dX7_setHeight_3 ⟨Nat.le_of_ble_eq_true rfl, Nat.le_of_ble_eq_true rfl⟩ (fun r u H locs hq99 hw => ?_)
  subst hq99
  have hw : kW E AA sx (List.flatten [oc m0 7 [.ref A0, .ref V0, .ref Z0, .int sm, .int th, .int pl, .int hz, .ref D0, .ref W0, .ref T0, .int tl, .int tw, .int tc], ac E A0 985 (mA h w wd s0 z st he ke tu ca tr co la)]) H locs := hw
  refine W.eq (g2 := F0 mm 6 ls [.int (if ¬ x < 0 ∧ ¬ nI (h * w - 1) < x then 1 else 0), .ref m0]) rfl ?_
  refine lv_iload_n hx hb dX7_setHeight_6 rfl (lv_at hl 2 rfl) ?_
  refine lv_i2l (v := Int32.toInt64 v) hx hb dX7_setHeight_7 rfl ?_
  refine lv_lconst (v := 0) hx hb dX7_setHeight_8 (by decide) ?_
  refine lv_ldc2 (v := 99) hx hb hown (hts (.constantLong RX7 77 99) (by decide +kernel)) dX7_setHeight_9 ?_
  refine k_S (As := [.long (Int32.toInt64 v), .long 0, .long 99]) (rest := [.int (if ¬ x < 0 ∧ ¬ nI (h * w - 1) < x then 1 else 0), .ref m0]) (pre := []) (mid := []) C0 (c_X7_in_0_99 l E v ) (va_cwS 3 hts gX7_setHeight_X7_in rfl rfl rfl (by decide +kernel) ⟨Nat.le_of_ble_eq_true rfl, Nat.le_of_ble_eq_true rfl⟩) hw rfl (fun _ => []) (fun _ => rfl) rfl hl.1 rfl (Nat.le_of_ble_eq_true rfl) dX7_setHeight_12 ⟨Nat.le_of_ble_eq_true rfl, Nat.le_of_ble_eq_true rfl⟩ (fun r u H locs hq99 hw => ?_)
  subst hq99
  have hw : kW E AA sx (List.flatten [oc m0 7 [.ref A0, .ref V0, .ref Z0, .int sm, .int th, .int pl, .int hz, .ref D0, .ref W0, .ref T0, .int tl, .int tw, .int tc], ac E A0 985 (mA h w wd s0 z st he ke tu ca tr co la)]) H locs := hw
  refine W.eq (g2 := F0 mm 15 ls [.int (if ¬ v < 0 ∧ ¬ 99 < v then 1 else 0), .int (if ¬ x < 0 ∧ ¬ nI (h * w - 1) < x then 1 else 0), .ref m0]) rfl ?_
  refine k_V (As := [.int (if ¬ x < 0 ∧ ¬ nI (h * w - 1) < x then 1 else 0), .int (if ¬ v < 0 ∧ ¬ 99 < v then 1 else 0)]) (rest := []) (pre := []) (mid := [oc m0 7 [.ref A0, .ref V0, .ref Z0, .int sm, .int th, .int pl, .int hz, .ref D0, .ref W0, .ref T0, .int tl, .int tw, .int tc]]) C0 (c_X7_goes_1 l E m0 A0 V0 Z0 D0 W0 T0 sm th pl hz tl tw tc (if ¬ x < 0 ∧ ¬ nI (h * w - 1) < x then 1 else 0) (if ¬ v < 0 ∧ ¬ 99 < v then 1 else 0) (kn10 (hv))) (cwV 2 hts gX7_setHeight_X7_goes rfl rfl rfl (by decide +kernel) ⟨Nat.le_of_ble_eq_true rfl, Nat.le_of_ble_eq_true rfl⟩) hw rfl (fun _ => [oc m0 7 [.ref A0, .ref V0, .ref Z0, .int sm, .int 1, .int pl, .int hz, .ref D0, .ref W0, .ref T0, .int tl, .int tw, .int tc]]) (fun _ => rfl) 0 7 rfl rfl rfl rfl hl.1 rfl (Nat.le_of_ble_eq_true rfl) dX7_setHeight_15 ⟨Nat.le_of_ble_eq_true rfl, Nat.le_of_ble_eq_true rfl⟩ (fun r u H locs hq99 hw => ?_)
  subst r
  have hw : kW E AA sx (List.flatten [oc m0 7 [.ref A0, .ref V0, .ref Z0, .int sm, .int 1, .int pl, .int hz, .ref D0, .ref W0, .ref T0, .int tl, .int tw, .int tc], ac E A0 985 (mA h w wd s0 z st he ke tu ca tr co la)]) H locs := hw
  refine W.eq (g2 := F0 mm 18 ls [.int 0]) rfl ?_
  refine lv_if_ne (tgt := 23) hx hb dX7_setHeight_18 (by decide) (fun c18 => absurd c18 (by decide)) (fun c18 => ?_)
  refine lv_iconst (v := 0) hx hb dX7_setHeight_21 (by decide) ?_
  -- leaf 0
  exact k_iret C0 hr hlk hw () (rfl) (rfl) (Nat.le_of_ble_eq_true rfl) (Nat.le_of_ble_eq_true rfl) dX7_setHeight_22

set_option maxHeartbeats 4000000 in
set_option maxRecDepth 100000 in
theorem c_X7_setHeight_x2 (l : Launch) (E : kE) (m0 : Nat) (A0 : Nat) (V0 : Nat) (Z0 : Nat) (D0 : Nat) (W0 : Nat) (T0 : Nat) (sm : Int32) (th : Int32) (pl : Int32) (hz : Int32) (tl : Int32) (tw : Int32) (tc : Int32) (h : Nat) (w : Nat) (wd : Int32) (s0 : Int32) (z : Int32) (st : Nat → Int32) (he : Nat → Int32) (ke : Nat → Int32) (tu : Nat → Int32) (ca : Nat → Int32) (tr : Nat → Int32) (co : Nat → Int32) (la : Nat → Int32) (k : Nat) (v : Int32) (hG : kG h w) (hc : k < h * w) (hv : ¬ (¬ v < 0 ∧ ¬ 99 < v)) : kC E l yX7_setHeight wsX7_setHeight rmX7_setHeight [.ref m0, .int (nI k), .int v] (List.flatten [oc m0 7 [.ref A0, .ref V0, .ref Z0, .int sm, .int th, .int pl, .int hz, .ref D0, .ref W0, .ref T0, .int tl, .int tw, .int tc], ac E A0 985 (mA h w wd s0 z st he ke tu ca tr co la)]) kI (fun (r : Int32) (_ : Unit) => r = 0) (fun _ => List.flatten [oc m0 7 [.ref A0, .ref V0, .ref Z0, .int sm, .int 2, .int pl, .int hz, .ref D0, .ref W0, .ref T0, .int tl, .int tw, .int tc], ac E A0 985 (mA h w wd s0 z st he ke tu ca tr co la)]) 0 0 := by
  refine k_body (cc := cX7_setHeight) (maxL := 4) (ret := (some .int)) (by decide) rfl (Nat.le_of_ble_eq_true rfl) ?_
  intro pp ee sx mm aa bb me cd H locs AA ls C0 hr hlk hnm hl hw
  obtain ⟨hx, hb, hml, hown, hts⟩ := id C0
  have hl : lv_has ls 4 [(0, .ref m0), (1, .int (nI k)), (2, .int v)] := hl
  have hw : kW E AA sx (List.flatten [oc m0 7 [.ref A0, .ref V0, .ref Z0, .int sm, .int th, .int pl, .int hz, .ref D0, .ref W0, .ref T0, .int tl, .int tw, .int tc], ac E A0 985 (mA h w wd s0 z st he ke tu ca tr co la)]) H locs := hw
  have hn9 := kG_n hG
  have hG9 := id hG
  obtain ⟨hG1, hG2, hG3, hG4⟩ := hG9
  refine lv_aload_n hx hb dX7_setHeight_0 rfl (lv_at hl 0 rfl) ?_
  refine lv_aload_n hx hb dX7_setHeight_1 rfl (lv_at hl 0 rfl) ?_
  refine lv_iload_n hx hb dX7_setHeight_2 rfl (lv_at hl 1 rfl) ?_
  refine k_V (As := [.int (nI k)]) (rest := [.ref m0]) (pre := []) (mid := [oc m0 7 [.ref A0, .ref V0, .ref Z0, .int sm, .int th, .int pl, .int hz, .ref D0, .ref W0, .ref T0, .int tl, .int tw, .int tc], ac E A0 985 (mA h w wd s0 z st he ke tu ca tr co la)]) C0 (c_X7_isCell l E m0 A0 V0 Z0 D0 W0 T0 sm th pl hz tl tw tc h w wd s0 z st he ke tu ca tr co la (nI k) (by first | assumption | omega)) (cwV 1 hts gX7_setHeight_X7_isCell rfl rfl rfl (by decide +kernel) ⟨Nat.le_of_ble_eq_true rfl, Nat.le_of_ble_eq_true rfl⟩) hw rfl (fun _ => [oc m0 7 [.ref A0, .ref V0, .ref Z0, .int sm, .int th, .int pl, .int hz, .ref D0, .ref W0, .ref T0, .int tl, .int tw, .int tc], ac E A0 985 (mA h w wd s0 z st he ke tu ca tr co la)]) (fun _ => rfl) 0 7 rfl rfl rfl rfl hl.1 rfl (Nat.le_of_ble_eq_true rfl) dX7_setHeight_3 ⟨Nat.le_of_ble_eq_true rfl, Nat.le_of_ble_eq_true rfl⟩ (fun r u H locs hq99 hw => ?_)
  subst hq99
  have hw : kW E AA sx (List.flatten [oc m0 7 [.ref A0, .ref V0, .ref Z0, .int sm, .int th, .int pl, .int hz, .ref D0, .ref W0, .ref T0, .int tl, .int tw, .int tc], ac E A0 985 (mA h w wd s0 z st he ke tu ca tr co la)]) H locs := hw
  refine W.eq (g2 := F0 mm 6 ls [.int (if ¬ (nI k) < 0 ∧ ¬ nI (h * w - 1) < (nI k) then 1 else 0), .ref m0]) rfl ?_
  refine lv_iload_n hx hb dX7_setHeight_6 rfl (lv_at hl 2 rfl) ?_
  refine lv_i2l (v := Int32.toInt64 v) hx hb dX7_setHeight_7 rfl ?_
  refine lv_lconst (v := 0) hx hb dX7_setHeight_8 (by decide) ?_
  refine lv_ldc2 (v := 99) hx hb hown (hts (.constantLong RX7 77 99) (by decide +kernel)) dX7_setHeight_9 ?_
  refine k_S (As := [.long (Int32.toInt64 v), .long 0, .long 99]) (rest := [.int (if ¬ (nI k) < 0 ∧ ¬ nI (h * w - 1) < (nI k) then 1 else 0), .ref m0]) (pre := []) (mid := []) C0 (c_X7_in_0_99 l E v ) (va_cwS 3 hts gX7_setHeight_X7_in rfl rfl rfl (by decide +kernel) ⟨Nat.le_of_ble_eq_true rfl, Nat.le_of_ble_eq_true rfl⟩) hw rfl (fun _ => []) (fun _ => rfl) rfl hl.1 rfl (Nat.le_of_ble_eq_true rfl) dX7_setHeight_12 ⟨Nat.le_of_ble_eq_true rfl, Nat.le_of_ble_eq_true rfl⟩ (fun r u H locs hq99 hw => ?_)
  subst hq99
  have hw : kW E AA sx (List.flatten [oc m0 7 [.ref A0, .ref V0, .ref Z0, .int sm, .int th, .int pl, .int hz, .ref D0, .ref W0, .ref T0, .int tl, .int tw, .int tc], ac E A0 985 (mA h w wd s0 z st he ke tu ca tr co la)]) H locs := hw
  refine W.eq (g2 := F0 mm 15 ls [.int (if ¬ v < 0 ∧ ¬ 99 < v then 1 else 0), .int (if ¬ (nI k) < 0 ∧ ¬ nI (h * w - 1) < (nI k) then 1 else 0), .ref m0]) rfl ?_
  refine k_V (As := [.int (if ¬ (nI k) < 0 ∧ ¬ nI (h * w - 1) < (nI k) then 1 else 0), .int (if ¬ v < 0 ∧ ¬ 99 < v then 1 else 0)]) (rest := []) (pre := []) (mid := [oc m0 7 [.ref A0, .ref V0, .ref Z0, .int sm, .int th, .int pl, .int hz, .ref D0, .ref W0, .ref T0, .int tl, .int tw, .int tc]]) C0 (c_X7_goes_2 l E m0 A0 V0 Z0 D0 W0 T0 sm th pl hz tl tw tc (if ¬ (nI k) < 0 ∧ ¬ nI (h * w - 1) < (nI k) then 1 else 0) (if ¬ v < 0 ∧ ¬ 99 < v then 1 else 0) (kp10 (⟨nI_pos (by omega), nI_nlt (a := h * w - 1) (b := k) (by omega) (by omega)⟩)) (kn10 (hv))) (cwV 2 hts gX7_setHeight_X7_goes rfl rfl rfl (by decide +kernel) ⟨Nat.le_of_ble_eq_true rfl, Nat.le_of_ble_eq_true rfl⟩) hw rfl (fun _ => [oc m0 7 [.ref A0, .ref V0, .ref Z0, .int sm, .int 2, .int pl, .int hz, .ref D0, .ref W0, .ref T0, .int tl, .int tw, .int tc]]) (fun _ => rfl) 0 7 rfl rfl rfl rfl hl.1 rfl (Nat.le_of_ble_eq_true rfl) dX7_setHeight_15 ⟨Nat.le_of_ble_eq_true rfl, Nat.le_of_ble_eq_true rfl⟩ (fun r u H locs hq99 hw => ?_)
  subst r
  have hw : kW E AA sx (List.flatten [oc m0 7 [.ref A0, .ref V0, .ref Z0, .int sm, .int 2, .int pl, .int hz, .ref D0, .ref W0, .ref T0, .int tl, .int tw, .int tc], ac E A0 985 (mA h w wd s0 z st he ke tu ca tr co la)]) H locs := hw
  refine W.eq (g2 := F0 mm 18 ls [.int 0]) rfl ?_
  refine lv_if_ne (tgt := 23) hx hb dX7_setHeight_18 (by decide) (fun c18 => absurd c18 (by decide)) (fun c18 => ?_)
  refine lv_iconst (v := 0) hx hb dX7_setHeight_21 (by decide) ?_
  -- leaf 0
  exact k_iret C0 hr hlk hw () (rfl) (rfl) (Nat.le_of_ble_eq_true rfl) (Nat.le_of_ble_eq_true rfl) dX7_setHeight_22

abbrev rmX7_setTuft : Room := { frames := 2, cells := 0, slots := 0, locals := 46 }
set_option maxHeartbeats 4000000 in
set_option maxRecDepth 100000 in
theorem c_X7_setTuft_ok (l : Launch) (E : kE) (m0 : Nat) (A0 : Nat) (V0 : Nat) (Z0 : Nat) (D0 : Nat) (W0 : Nat) (T0 : Nat) (th : Int32) (pl : Int32) (hz : Int32) (tl : Int32) (tw : Int32) (tc : Int32) (h : Nat) (w : Nat) (k9 : Nat) (wd : Int32) (s0 : Int32) (z : Int32) (st : Nat → Int32) (he : Nat → Int32) (ke : Nat → Int32) (tu : Nat → Int32) (ca : Nat → Int32) (tr : Nat → Int32) (co : Nat → Int32) (la : Nat → Int32) (V : Nat → Int32) (k : Nat) (v : Int32) (hG : kG h w) (hc : k < h * w) (hv : ¬ v < 0 ∧ ¬ 100 < v) (hk9 : k9 ≤ 4) : kC E l yX7_setTuft wsX7_setTuft rmX7_setTuft [.ref m0, .int (nI k), .int v] (List.flatten [oc m0 7 [.ref A0, .ref V0, .ref Z0, .int (nI k9), .int th, .int pl, .int hz, .ref D0, .ref W0, .ref T0, .int tl, .int tw, .int tc], ac E A0 985 (mA h w wd s0 z st he ke tu ca tr co la), ac E V0 3940 V]) kI (fun (r : Int32) (_ : Unit) => r = tu k) (fun _ => List.flatten [oc m0 7 [.ref A0, .ref V0, .ref Z0, .int (nI (svK k9)), .int 0, .int pl, .int hz, .ref D0, .ref W0, .ref T0, .int tl, .int tw, .int tc], ac E A0 985 (mA h w wd s0 z st he ke (upd tu k v) ca tr co la), ac E V0 3940 (svA V (mA h w wd s0 z st he ke tu ca tr co la) k9)]) 0 0 := by
  refine k_body (cc := cX7_setTuft) (maxL := 4) (ret := (some .int)) (by decide) rfl (Nat.le_of_ble_eq_true rfl) ?_
  intro pp ee sx mm aa bb me cd H locs AA ls C0 hr hlk hnm hl hw
  obtain ⟨hx, hb, hml, hown, hts⟩ := id C0
  have hl : lv_has ls 4 [(0, .ref m0), (1, .int (nI k)), (2, .int v)] := hl
  have hw : kW E AA sx (List.flatten [oc m0 7 [.ref A0, .ref V0, .ref Z0, .int (nI k9), .int th, .int pl, .int hz, .ref D0, .ref W0, .ref T0, .int tl, .int tw, .int tc], ac E A0 985 (mA h w wd s0 z st he ke tu ca tr co la), ac E V0 3940 V]) H locs := hw
  have hn9 := kG_n hG
  have hG9 := id hG
  obtain ⟨hG1, hG2, hG3, hG4⟩ := hG9
  have hinX7 : ∀ w ∈ u_ws RX7 TX7 13, w ∈ wsX7_setTuft := by decide +kernel
  refine lv_aload_n hx hb dX7_setTuft_0 rfl (lv_at hl 0 rfl) ?_
  refine lv_aload_n hx hb dX7_setTuft_1 rfl (lv_at hl 0 rfl) ?_
  refine lv_iload_n hx hb dX7_setTuft_2 rfl (lv_at hl 1 rfl) ?_
  refine k_V (As := [.int (nI k)]) (rest := [.ref m0]) (pre := []) (mid := [oc m0 7 [.ref A0, .ref V0, .ref Z0, .int (nI k9), .int th, .int pl, .int hz, .ref D0, .ref W0, .ref T0, .int tl, .int tw, .int tc], ac E A0 985 (mA h w wd s0 z st he ke tu ca tr co la)]) C0 (c_X7_isCell l E m0 A0 V0 Z0 D0 W0 T0 (nI k9) th pl hz tl tw tc h w wd s0 z st he ke tu ca tr co la (nI k) (by first | assumption | omega)) (cwV 1 hts gX7_setTuft_X7_isCell rfl rfl rfl (by decide +kernel) ⟨Nat.le_of_ble_eq_true rfl, Nat.le_of_ble_eq_true rfl⟩) hw rfl (fun _ => [oc m0 7 [.ref A0, .ref V0, .ref Z0, .int (nI k9), .int th, .int pl, .int hz, .ref D0, .ref W0, .ref T0, .int tl, .int tw, .int tc], ac E A0 985 (mA h w wd s0 z st he ke tu ca tr co la)]) (fun _ => rfl) 0 7 rfl rfl rfl rfl hl.1 rfl (Nat.le_of_ble_eq_true rfl) dX7_setTuft_3 ⟨Nat.le_of_ble_eq_true rfl, Nat.le_of_ble_eq_true rfl⟩ (fun r u H locs hq99 hw => ?_)
  subst hq99
  have hw : kW E AA sx (List.flatten [oc m0 7 [.ref A0, .ref V0, .ref Z0, .int (nI k9), .int th, .int pl, .int hz, .ref D0, .ref W0, .ref T0, .int tl, .int tw, .int tc], ac E A0 985 (mA h w wd s0 z st he ke tu ca tr co la), ac E V0 3940 V]) H locs := hw
  refine W.eq (g2 := F0 mm 6 ls [.int (if ¬ (nI k) < 0 ∧ ¬ nI (h * w - 1) < (nI k) then 1 else 0), .ref m0]) rfl ?_
  refine lv_iload_n hx hb dX7_setTuft_6 rfl (lv_at hl 2 rfl) ?_
  refine lv_i2l (v := Int32.toInt64 v) hx hb dX7_setTuft_7 rfl ?_
  refine lv_lconst (v := 0) hx hb dX7_setTuft_8 (by decide) ?_
  refine lv_ldc2 (v := 100) hx hb hown (hts (.constantLong RX7 82 100) (by decide +kernel)) dX7_setTuft_9 ?_
  refine k_S (As := [.long (Int32.toInt64 v), .long 0, .long 100]) (rest := [.int (if ¬ (nI k) < 0 ∧ ¬ nI (h * w - 1) < (nI k) then 1 else 0), .ref m0]) (pre := []) (mid := []) C0 (c_X7_in_0_100 l E v ) (va_cwS 3 hts gX7_setTuft_X7_in rfl rfl rfl (by decide +kernel) ⟨Nat.le_of_ble_eq_true rfl, Nat.le_of_ble_eq_true rfl⟩) hw rfl (fun _ => []) (fun _ => rfl) rfl hl.1 rfl (Nat.le_of_ble_eq_true rfl) dX7_setTuft_12 ⟨Nat.le_of_ble_eq_true rfl, Nat.le_of_ble_eq_true rfl⟩ (fun r u H locs hq99 hw => ?_)
  subst hq99
  have hw : kW E AA sx (List.flatten [oc m0 7 [.ref A0, .ref V0, .ref Z0, .int (nI k9), .int th, .int pl, .int hz, .ref D0, .ref W0, .ref T0, .int tl, .int tw, .int tc], ac E A0 985 (mA h w wd s0 z st he ke tu ca tr co la), ac E V0 3940 V]) H locs := hw
  refine W.eq (g2 := F0 mm 15 ls [.int (if ¬ v < 0 ∧ ¬ 100 < v then 1 else 0), .int (if ¬ (nI k) < 0 ∧ ¬ nI (h * w - 1) < (nI k) then 1 else 0), .ref m0]) rfl ?_
  refine k_V (As := [.int (if ¬ (nI k) < 0 ∧ ¬ nI (h * w - 1) < (nI k) then 1 else 0), .int (if ¬ v < 0 ∧ ¬ 100 < v then 1 else 0)]) (rest := []) (pre := []) (mid := [oc m0 7 [.ref A0, .ref V0, .ref Z0, .int (nI k9), .int th, .int pl, .int hz, .ref D0, .ref W0, .ref T0, .int tl, .int tw, .int tc]]) C0 (c_X7_goes_ok l E m0 A0 V0 Z0 D0 W0 T0 (nI k9) th pl hz tl tw tc (if ¬ (nI k) < 0 ∧ ¬ nI (h * w - 1) < (nI k) then 1 else 0) (if ¬ v < 0 ∧ ¬ 100 < v then 1 else 0) (kp10 (⟨nI_pos (by omega), nI_nlt (a := h * w - 1) (b := k) (by omega) (by omega)⟩)) (kp10 (hv))) (cwV 2 hts gX7_setTuft_X7_goes rfl rfl rfl (by decide +kernel) ⟨Nat.le_of_ble_eq_true rfl, Nat.le_of_ble_eq_true rfl⟩) hw rfl (fun _ => [oc m0 7 [.ref A0, .ref V0, .ref Z0, .int (nI k9), .int 0, .int pl, .int hz, .ref D0, .ref W0, .ref T0, .int tl, .int tw, .int tc]]) (fun _ => rfl) 0 7 rfl rfl rfl rfl hl.1 rfl (Nat.le_of_ble_eq_true rfl) dX7_setTuft_15 ⟨Nat.le_of_ble_eq_true rfl, Nat.le_of_ble_eq_true rfl⟩ (fun r u H locs hq99 hw => ?_)
  subst r
  have hw : kW E AA sx (List.flatten [oc m0 7 [.ref A0, .ref V0, .ref Z0, .int (nI k9), .int 0, .int pl, .int hz, .ref D0, .ref W0, .ref T0, .int tl, .int tw, .int tc], ac E A0 985 (mA h w wd s0 z st he ke tu ca tr co la), ac E V0 3940 V]) H locs := hw
  refine W.eq (g2 := F0 mm 18 ls [.int 1]) rfl ?_
  refine lv_if_ne (tgt := 23) hx hb dX7_setTuft_18 (by decide) (fun c18 => ?_) (fun c18 => absurd c18 (by decide))
  refine lv_aload_n hx hb dX7_setTuft_23 rfl (lv_at hl 0 rfl) ?_
  refine k_V (As := []) (rest := []) (pre := []) (mid := [oc m0 7 [.ref A0, .ref V0, .ref Z0, .int (nI k9), .int 0, .int pl, .int hz, .ref D0, .ref W0, .ref T0, .int tl, .int tw, .int tc], ac E A0 985 (mA h w wd s0 z st he ke tu ca tr co la), ac E V0 3940 V]) C0 (c_X7_save l E m0 A0 V0 Z0 D0 W0 T0 0 pl hz tl tw tc k9 (mA h w wd s0 z st he ke tu ca tr co la) V (by first | assumption | omega)) (cwV 0 hts gX7_setTuft_X7_save rfl rfl rfl (by decide +kernel) ⟨Nat.le_of_ble_eq_true rfl, Nat.le_of_ble_eq_true rfl⟩) hw rfl (fun _ => [oc m0 7 [.ref A0, .ref V0, .ref Z0, .int (nI (svK k9)), .int 0, .int pl, .int hz, .ref D0, .ref W0, .ref T0, .int tl, .int tw, .int tc], ac E A0 985 (mA h w wd s0 z st he ke tu ca tr co la), ac E V0 3940 (svA V (mA h w wd s0 z st he ke tu ca tr co la) k9)]) (fun _ => rfl) 0 7 rfl rfl rfl rfl hl.1 rfl (Nat.le_of_ble_eq_true rfl) dX7_setTuft_24 ⟨Nat.le_of_ble_eq_true rfl, Nat.le_of_ble_eq_true rfl⟩ (fun r u H locs hq99 hw => ?_)
  have hw : kW E AA sx (List.flatten [oc m0 7 [.ref A0, .ref V0, .ref Z0, .int (nI (svK k9)), .int 0, .int pl, .int hz, .ref D0, .ref W0, .ref T0, .int tl, .int tw, .int tc], ac E A0 985 (mA h w wd s0 z st he ke tu ca tr co la), ac E V0 3940 (svA V (mA h w wd s0 z st he ke tu ca tr co la) k9)]) H locs := hw
  refine W.eq (g2 := F0 mm 27 ls []) rfl ?_
  refine lv_aload_n hx hb dX7_setTuft_27 rfl (lv_at hl 0 rfl) ?_
  refine lv_iload_n hx hb dX7_setTuft_28 rfl (lv_at hl 1 rfl) ?_
  refine lv_iconst (v := 1) hx hb dX7_setTuft_29 (by decide) ?_
  refine k_V (As := [.int (nI k), .int 1]) (rest := []) (pre := []) (mid := [oc m0 7 [.ref A0, .ref V0, .ref Z0, .int (nI (svK k9)), .int 0, .int pl, .int hz, .ref D0, .ref W0, .ref T0, .int tl, .int tw, .int tc], ac E A0 985 (mA h w wd s0 z st he ke tu ca tr co la)]) C0 (c_X7_of1 l E m0 A0 V0 Z0 D0 W0 T0 (nI (svK k9)) 0 pl hz tl tw tc h w wd s0 z st he ke tu ca tr co la k (by first | assumption | omega) (by first | assumption | omega)) (cwV 2 hts gX7_setTuft_X7_of rfl rfl rfl (by decide +kernel) ⟨Nat.le_of_ble_eq_true rfl, Nat.le_of_ble_eq_true rfl⟩) hw rfl (fun _ => [oc m0 7 [.ref A0, .ref V0, .ref Z0, .int (nI (svK k9)), .int 0, .int pl, .int hz, .ref D0, .ref W0, .ref T0, .int tl, .int tw, .int tc], ac E A0 985 (mA h w wd s0 z st he ke tu ca tr co la)]) (fun _ => rfl) 0 7 rfl rfl rfl rfl hl.1 rfl (Nat.le_of_ble_eq_true rfl) dX7_setTuft_30 ⟨Nat.le_of_ble_eq_true rfl, Nat.le_of_ble_eq_true rfl⟩ (fun r u H locs hq99 hw => ?_)
  subst hq99
  have hw : kW E AA sx (List.flatten [oc m0 7 [.ref A0, .ref V0, .ref Z0, .int (nI (svK k9)), .int 0, .int pl, .int hz, .ref D0, .ref W0, .ref T0, .int tl, .int tw, .int tc], ac E A0 985 (mA h w wd s0 z st he ke tu ca tr co la), ac E V0 3940 (svA V (mA h w wd s0 z st he ke tu ca tr co la) k9)]) H locs := hw
  refine W.eq (g2 := F0 mm 33 ls [.int (tu k)]) rfl ?_
  refine lv_istore_n (lv' := [(3, .int (tu k)), (0, .ref m0), (1, .int (nI k)), (2, .int v)]) hx hb dX7_setTuft_33 rfl hl (by decide) rfl (fun ls hl => ?_)
  refine lv_aload_n hx hb dX7_setTuft_34 rfl (lv_at hl 1 rfl) ?_
  refine k_get (pre := []) C0 hw hinX7 rfl 0 (by decide) (hts (.fieldLink RX7 7 "SlabDunesModel" "all" "[I") (by decide +kernel)) rfl rfl dX7_setTuft_35 ?_
  refine lv_iload_n hx hb dX7_setTuft_38 rfl (lv_at hl 2 rfl) ?_
  refine lv_iconst (v := 1) hx hb dX7_setTuft_39 (by decide) ?_
  refine k_S (As := [.int (nI k), .int 1]) (rest := [.ref A0]) (pre := []) (mid := []) C0 (c_X7_at l E k 1 ) (va_cwS 2 hts gX7_setTuft_X7_at rfl rfl rfl (by decide +kernel) ⟨Nat.le_of_ble_eq_true rfl, Nat.le_of_ble_eq_true rfl⟩) hw rfl (fun _ => []) (fun _ => rfl) rfl hl.1 rfl (Nat.le_of_ble_eq_true rfl) dX7_setTuft_40 ⟨Nat.le_of_ble_eq_true rfl, Nat.le_of_ble_eq_true rfl⟩ (fun r u H locs hq99 hw => ?_)
  subst hq99
  have hw : kW E AA sx (List.flatten [oc m0 7 [.ref A0, .ref V0, .ref Z0, .int (nI (svK k9)), .int 0, .int pl, .int hz, .ref D0, .ref W0, .ref T0, .int tl, .int tw, .int tc], ac E A0 985 (mA h w wd s0 z st he ke tu ca tr co la), ac E V0 3940 (svA V (mA h w wd s0 z st he ke tu ca tr co la) k9)]) H locs := hw
  refine W.eq (g2 := F0 mm 43 ls [.int (nI (25 + 5 * k + 1)), .ref A0]) rfl ?_
  refine lv_iload_n hx hb dX7_setTuft_43 rfl (lv_at hl 3 rfl) ?_
  refine k_iast (pre := [oc m0 7 [.ref A0, .ref V0, .ref Z0, .int (nI (svK k9)), .int 0, .int pl, .int hz, .ref D0, .ref W0, .ref T0, .int tl, .int tw, .int tc]]) (l1 := []) C0 hw (i := nI (25 + 5 * k + 1)) (kinN (by omega) (by decide)) dX7_setTuft_44 (fun H locs hw => ?_)
  have hw : kW E AA sx (List.flatten [oc m0 7 [.ref A0, .ref V0, .ref Z0, .int (nI (svK k9)), .int 0, .int pl, .int hz, .ref D0, .ref W0, .ref T0, .int tl, .int tw, .int tc], ac E A0 985 (upd (mA h w wd s0 z st he ke tu ca tr co la) (Int32.toNatClampNeg (nI (25 + 5 * k + 1))) v), ac E V0 3940 (svA V (mA h w wd s0 z st he ke tu ca tr co la) k9)]) H locs := hw
  have hw : kW E AA sx (List.flatten [oc m0 7 [.ref A0, .ref V0, .ref Z0, .int (nI (svK k9)), .int 0, .int pl, .int hz, .ref D0, .ref W0, .ref T0, .int tl, .int tw, .int tc], ac E A0 985 (mA h w wd s0 z st he ke (upd tu k v) ca tr co la), ac E V0 3940 (svA V (mA h w wd s0 z st he ke tu ca tr co la) k9)]) H locs := kW.arr (pre := [oc m0 7 [.ref A0, .ref V0, .ref Z0, .int (nI (svK k9)), .int 0, .int pl, .int hz, .ref D0, .ref W0, .ref T0, .int tl, .int tw, .int tc]]) (l1 := []) hw (fun j9 _ => mA_wt hc hn9.1 j9)
  refine lv_iload_n hx hb dX7_setTuft_45 rfl (lv_at hl 0 rfl) ?_
  -- leaf 0
  exact k_iret C0 hr hlk hw () (rfl) (rfl) (Nat.le_of_ble_eq_true rfl) (Nat.le_of_ble_eq_true rfl) dX7_setTuft_46

set_option maxHeartbeats 4000000 in
set_option maxRecDepth 100000 in
theorem c_X7_setTuft_x1 (l : Launch) (E : kE) (m0 : Nat) (A0 : Nat) (V0 : Nat) (Z0 : Nat) (D0 : Nat) (W0 : Nat) (T0 : Nat) (sm : Int32) (th : Int32) (pl : Int32) (hz : Int32) (tl : Int32) (tw : Int32) (tc : Int32) (h : Nat) (w : Nat) (wd : Int32) (s0 : Int32) (z : Int32) (st : Nat → Int32) (he : Nat → Int32) (ke : Nat → Int32) (tu : Nat → Int32) (ca : Nat → Int32) (tr : Nat → Int32) (co : Nat → Int32) (la : Nat → Int32) (x : Int32) (v : Int32) (hG : kG h w) (hv : ¬ (¬ x < 0 ∧ ¬ nI (h * w - 1) < x)) : kC E l yX7_setTuft wsX7_setTuft rmX7_setTuft [.ref m0, .int x, .int v] (List.flatten [oc m0 7 [.ref A0, .ref V0, .ref Z0, .int sm, .int th, .int pl, .int hz, .ref D0, .ref W0, .ref T0, .int tl, .int tw, .int tc], ac E A0 985 (mA h w wd s0 z st he ke tu ca tr co la)]) kI (fun (r : Int32) (_ : Unit) => r = 0) (fun _ => List.flatten [oc m0 7 [.ref A0, .ref V0, .ref Z0, .int sm, .int 1, .int pl, .int hz, .ref D0, .ref W0, .ref T0, .int tl, .int tw, .int tc], ac E A0 985 (mA h w wd s0 z st he ke tu ca tr co la)]) 0 0 := by
  refine k_body (cc := cX7_setTuft) (maxL := 4) (ret := (some .int)) (by decide) rfl (Nat.le_of_ble_eq_true rfl) ?_
  intro pp ee sx mm aa bb me cd H locs AA ls C0 hr hlk hnm hl hw
  obtain ⟨hx, hb, hml, hown, hts⟩ := id C0
  have hl : lv_has ls 4 [(0, .ref m0), (1, .int x), (2, .int v)] := hl
  have hw : kW E AA sx (List.flatten [oc m0 7 [.ref A0, .ref V0, .ref Z0, .int sm, .int th, .int pl, .int hz, .ref D0, .ref W0, .ref T0, .int tl, .int tw, .int tc], ac E A0 985 (mA h w wd s0 z st he ke tu ca tr co la)]) H locs := hw
  have hn9 := kG_n hG
  have hG9 := id hG
  obtain ⟨hG1, hG2, hG3, hG4⟩ := hG9
  refine lv_aload_n hx hb dX7_setTuft_0 rfl (lv_at hl 0 rfl) ?_
  refine lv_aload_n hx hb dX7_setTuft_1 rfl (lv_at hl 0 rfl) ?_
  refine lv_iload_n hx hb dX7_setTuft_2 rfl (lv_at hl 1 rfl) ?_
  refine k_V (As := [.int x]) (rest := [.ref m0]) (pre := []) (mid := [oc m0 7 [.ref A0, .ref V0, .ref Z0, .int sm, .int th, .int pl, .int hz, .ref D0, .ref W0, .ref T0, .int tl, .int tw, .int tc], ac E A0 985 (mA h w wd s0 z st he ke tu ca tr co la)]) C0 (c_X7_isCell l E m0 A0 V0 Z0 D0 W0 T0 sm th pl hz tl tw tc h w wd s0 z st he ke tu ca tr co la x (by first | assumption | omega)) (cwV 1 hts gX7_setTuft_X7_isCell rfl rfl rfl (by decide +kernel) ⟨Nat.le_of_ble_eq_true rfl, Nat.le_of_ble_eq_true rfl⟩) hw rfl (fun _ => [oc m0 7 [.ref A0, .ref V0, .ref Z0, .int sm, .int th, .int pl, .int hz, .ref D0, .ref W0, .ref T0, .int tl, .int tw, .int tc], ac E A0 985 (mA h w wd s0 z st he ke tu ca tr co la)]) (fun _ => rfl) 0 7 rfl rfl rfl rfl hl.1 rfl (Nat.le_of_ble_eq_true rfl) dX7_setTuft_3 ⟨Nat.le_of_ble_eq_true rfl, Nat.le_of_ble_eq_true rfl⟩ (fun r u H locs hq99 hw => ?_)
  subst hq99
  have hw : kW E AA sx (List.flatten [oc m0 7 [.ref A0, .ref V0, .ref Z0, .int sm, .int th, .int pl, .int hz, .ref D0, .ref W0, .ref T0, .int tl, .int tw, .int tc], ac E A0 985 (mA h w wd s0 z st he ke tu ca tr co la)]) H locs := hw
  refine W.eq (g2 := F0 mm 6 ls [.int (if ¬ x < 0 ∧ ¬ nI (h * w - 1) < x then 1 else 0), .ref m0]) rfl ?_
  refine lv_iload_n hx hb dX7_setTuft_6 rfl (lv_at hl 2 rfl) ?_
  refine lv_i2l (v := Int32.toInt64 v) hx hb dX7_setTuft_7 rfl ?_
  refine lv_lconst (v := 0) hx hb dX7_setTuft_8 (by decide) ?_
  refine lv_ldc2 (v := 100) hx hb hown (hts (.constantLong RX7 82 100) (by decide +kernel)) dX7_setTuft_9 ?_
  refine k_S (As := [.long (Int32.toInt64 v), .long 0, .long 100]) (rest := [.int (if ¬ x < 0 ∧ ¬ nI (h * w - 1) < x then 1 else 0), .ref m0]) (pre := []) (mid := []) C0 (c_X7_in_0_100 l E v ) (va_cwS 3 hts gX7_setTuft_X7_in rfl rfl rfl (by decide +kernel) ⟨Nat.le_of_ble_eq_true rfl, Nat.le_of_ble_eq_true rfl⟩) hw rfl (fun _ => []) (fun _ => rfl) rfl hl.1 rfl (Nat.le_of_ble_eq_true rfl) dX7_setTuft_12 ⟨Nat.le_of_ble_eq_true rfl, Nat.le_of_ble_eq_true rfl⟩ (fun r u H locs hq99 hw => ?_)
  subst hq99
  have hw : kW E AA sx (List.flatten [oc m0 7 [.ref A0, .ref V0, .ref Z0, .int sm, .int th, .int pl, .int hz, .ref D0, .ref W0, .ref T0, .int tl, .int tw, .int tc], ac E A0 985 (mA h w wd s0 z st he ke tu ca tr co la)]) H locs := hw
  refine W.eq (g2 := F0 mm 15 ls [.int (if ¬ v < 0 ∧ ¬ 100 < v then 1 else 0), .int (if ¬ x < 0 ∧ ¬ nI (h * w - 1) < x then 1 else 0), .ref m0]) rfl ?_
  refine k_V (As := [.int (if ¬ x < 0 ∧ ¬ nI (h * w - 1) < x then 1 else 0), .int (if ¬ v < 0 ∧ ¬ 100 < v then 1 else 0)]) (rest := []) (pre := []) (mid := [oc m0 7 [.ref A0, .ref V0, .ref Z0, .int sm, .int th, .int pl, .int hz, .ref D0, .ref W0, .ref T0, .int tl, .int tw, .int tc]]) C0 (c_X7_goes_1 l E m0 A0 V0 Z0 D0 W0 T0 sm th pl hz tl tw tc (if ¬ x < 0 ∧ ¬ nI (h * w - 1) < x then 1 else 0) (if ¬ v < 0 ∧ ¬ 100 < v then 1 else 0) (kn10 (hv))) (cwV 2 hts gX7_setTuft_X7_goes rfl rfl rfl (by decide +kernel) ⟨Nat.le_of_ble_eq_true rfl, Nat.le_of_ble_eq_true rfl⟩) hw rfl (fun _ => [oc m0 7 [.ref A0, .ref V0, .ref Z0, .int sm, .int 1, .int pl, .int hz, .ref D0, .ref W0, .ref T0, .int tl, .int tw, .int tc]]) (fun _ => rfl) 0 7 rfl rfl rfl rfl hl.1 rfl (Nat.le_of_ble_eq_true rfl) dX7_setTuft_15 ⟨Nat.le_of_ble_eq_true rfl, Nat.le_of_ble_eq_true rfl⟩ (fun r u H locs hq99 hw => ?_)
  subst r
  have hw : kW E AA sx (List.flatten [oc m0 7 [.ref A0, .ref V0, .ref Z0, .int sm, .int 1, .int pl, .int hz, .ref D0, .ref W0, .ref T0, .int tl, .int tw, .int tc], ac E A0 985 (mA h w wd s0 z st he ke tu ca tr co la)]) H locs := hw
  refine W.eq (g2 := F0 mm 18 ls [.int 0]) rfl ?_
  refine lv_if_ne (tgt := 23) hx hb dX7_setTuft_18 (by decide) (fun c18 => absurd c18 (by decide)) (fun c18 => ?_)
  refine lv_iconst (v := 0) hx hb dX7_setTuft_21 (by decide) ?_
  -- leaf 0
  exact k_iret C0 hr hlk hw () (rfl) (rfl) (Nat.le_of_ble_eq_true rfl) (Nat.le_of_ble_eq_true rfl) dX7_setTuft_22

set_option maxHeartbeats 4000000 in
set_option maxRecDepth 100000 in
theorem c_X7_setTuft_x2 (l : Launch) (E : kE) (m0 : Nat) (A0 : Nat) (V0 : Nat) (Z0 : Nat) (D0 : Nat) (W0 : Nat) (T0 : Nat) (sm : Int32) (th : Int32) (pl : Int32) (hz : Int32) (tl : Int32) (tw : Int32) (tc : Int32) (h : Nat) (w : Nat) (wd : Int32) (s0 : Int32) (z : Int32) (st : Nat → Int32) (he : Nat → Int32) (ke : Nat → Int32) (tu : Nat → Int32) (ca : Nat → Int32) (tr : Nat → Int32) (co : Nat → Int32) (la : Nat → Int32) (k : Nat) (v : Int32) (hG : kG h w) (hc : k < h * w) (hv : ¬ (¬ v < 0 ∧ ¬ 100 < v)) : kC E l yX7_setTuft wsX7_setTuft rmX7_setTuft [.ref m0, .int (nI k), .int v] (List.flatten [oc m0 7 [.ref A0, .ref V0, .ref Z0, .int sm, .int th, .int pl, .int hz, .ref D0, .ref W0, .ref T0, .int tl, .int tw, .int tc], ac E A0 985 (mA h w wd s0 z st he ke tu ca tr co la)]) kI (fun (r : Int32) (_ : Unit) => r = 0) (fun _ => List.flatten [oc m0 7 [.ref A0, .ref V0, .ref Z0, .int sm, .int 2, .int pl, .int hz, .ref D0, .ref W0, .ref T0, .int tl, .int tw, .int tc], ac E A0 985 (mA h w wd s0 z st he ke tu ca tr co la)]) 0 0 := by
  refine k_body (cc := cX7_setTuft) (maxL := 4) (ret := (some .int)) (by decide) rfl (Nat.le_of_ble_eq_true rfl) ?_
  intro pp ee sx mm aa bb me cd H locs AA ls C0 hr hlk hnm hl hw
  obtain ⟨hx, hb, hml, hown, hts⟩ := id C0
  have hl : lv_has ls 4 [(0, .ref m0), (1, .int (nI k)), (2, .int v)] := hl
  have hw : kW E AA sx (List.flatten [oc m0 7 [.ref A0, .ref V0, .ref Z0, .int sm, .int th, .int pl, .int hz, .ref D0, .ref W0, .ref T0, .int tl, .int tw, .int tc], ac E A0 985 (mA h w wd s0 z st he ke tu ca tr co la)]) H locs := hw
  have hn9 := kG_n hG
  have hG9 := id hG
  obtain ⟨hG1, hG2, hG3, hG4⟩ := hG9
  refine lv_aload_n hx hb dX7_setTuft_0 rfl (lv_at hl 0 rfl) ?_
  refine lv_aload_n hx hb dX7_setTuft_1 rfl (lv_at hl 0 rfl) ?_
  refine lv_iload_n hx hb dX7_setTuft_2 rfl (lv_at hl 1 rfl) ?_
  refine k_V (As := [.int (nI k)]) (rest := [.ref m0]) (pre := []) (mid := [oc m0 7 [.ref A0, .ref V0, .ref Z0, .int sm, .int th, .int pl, .int hz, .ref D0, .ref W0, .ref T0, .int tl, .int tw, .int tc], ac E A0 985 (mA h w wd s0 z st he ke tu ca tr co la)]) C0 (c_X7_isCell l E m0 A0 V0 Z0 D0 W0 T0 sm th pl hz tl tw tc h w wd s0 z st he ke tu ca tr co la (nI k) (by first | assumption | omega)) (cwV 1 hts gX7_setTuft_X7_isCell rfl rfl rfl (by decide +kernel) ⟨Nat.le_of_ble_eq_true rfl, Nat.le_of_ble_eq_true rfl⟩) hw rfl (fun _ => [oc m0 7 [.ref A0, .ref V0, .ref Z0, .int sm, .int th, .int pl, .int hz, .ref D0, .ref W0, .ref T0, .int tl, .int tw, .int tc], ac E A0 985 (mA h w wd s0 z st he ke tu ca tr co la)]) (fun _ => rfl) 0 7 rfl rfl rfl rfl hl.1 rfl (Nat.le_of_ble_eq_true rfl) dX7_setTuft_3 ⟨Nat.le_of_ble_eq_true rfl, Nat.le_of_ble_eq_true rfl⟩ (fun r u H locs hq99 hw => ?_)
  subst hq99
  have hw : kW E AA sx (List.flatten [oc m0 7 [.ref A0, .ref V0, .ref Z0, .int sm, .int th, .int pl, .int hz, .ref D0, .ref W0, .ref T0, .int tl, .int tw, .int tc], ac E A0 985 (mA h w wd s0 z st he ke tu ca tr co la)]) H locs := hw
  refine W.eq (g2 := F0 mm 6 ls [.int (if ¬ (nI k) < 0 ∧ ¬ nI (h * w - 1) < (nI k) then 1 else 0), .ref m0]) rfl ?_
  refine lv_iload_n hx hb dX7_setTuft_6 rfl (lv_at hl 2 rfl) ?_
  refine lv_i2l (v := Int32.toInt64 v) hx hb dX7_setTuft_7 rfl ?_
  refine lv_lconst (v := 0) hx hb dX7_setTuft_8 (by decide) ?_
  refine lv_ldc2 (v := 100) hx hb hown (hts (.constantLong RX7 82 100) (by decide +kernel)) dX7_setTuft_9 ?_
  refine k_S (As := [.long (Int32.toInt64 v), .long 0, .long 100]) (rest := [.int (if ¬ (nI k) < 0 ∧ ¬ nI (h * w - 1) < (nI k) then 1 else 0), .ref m0]) (pre := []) (mid := []) C0 (c_X7_in_0_100 l E v ) (va_cwS 3 hts gX7_setTuft_X7_in rfl rfl rfl (by decide +kernel) ⟨Nat.le_of_ble_eq_true rfl, Nat.le_of_ble_eq_true rfl⟩) hw rfl (fun _ => []) (fun _ => rfl) rfl hl.1 rfl (Nat.le_of_ble_eq_true rfl) dX7_setTuft_12 ⟨Nat.le_of_ble_eq_true rfl, Nat.le_of_ble_eq_true rfl⟩ (fun r u H locs hq99 hw => ?_)
  subst hq99
  have hw : kW E AA sx (List.flatten [oc m0 7 [.ref A0, .ref V0, .ref Z0, .int sm, .int th, .int pl, .int hz, .ref D0, .ref W0, .ref T0, .int tl, .int tw, .int tc], ac E A0 985 (mA h w wd s0 z st he ke tu ca tr co la)]) H locs := hw
  refine W.eq (g2 := F0 mm 15 ls [.int (if ¬ v < 0 ∧ ¬ 100 < v then 1 else 0), .int (if ¬ (nI k) < 0 ∧ ¬ nI (h * w - 1) < (nI k) then 1 else 0), .ref m0]) rfl ?_
  refine k_V (As := [.int (if ¬ (nI k) < 0 ∧ ¬ nI (h * w - 1) < (nI k) then 1 else 0), .int (if ¬ v < 0 ∧ ¬ 100 < v then 1 else 0)]) (rest := []) (pre := []) (mid := [oc m0 7 [.ref A0, .ref V0, .ref Z0, .int sm, .int th, .int pl, .int hz, .ref D0, .ref W0, .ref T0, .int tl, .int tw, .int tc]]) C0 (c_X7_goes_2 l E m0 A0 V0 Z0 D0 W0 T0 sm th pl hz tl tw tc (if ¬ (nI k) < 0 ∧ ¬ nI (h * w - 1) < (nI k) then 1 else 0) (if ¬ v < 0 ∧ ¬ 100 < v then 1 else 0) (kp10 (⟨nI_pos (by omega), nI_nlt (a := h * w - 1) (b := k) (by omega) (by omega)⟩)) (kn10 (hv))) (cwV 2 hts gX7_setTuft_X7_goes rfl rfl rfl (by decide +kernel) ⟨Nat.le_of_ble_eq_true rfl, Nat.le_of_ble_eq_true rfl⟩) hw rfl (fun _ => [oc m0 7 [.ref A0, .ref V0, .ref Z0, .int sm, .int 2, .int pl, .int hz, .ref D0, .ref W0, .ref T0, .int tl, .int tw, .int tc]]) (fun _ => rfl) 0 7 rfl rfl rfl rfl hl.1 rfl (Nat.le_of_ble_eq_true rfl) dX7_setTuft_15 ⟨Nat.le_of_ble_eq_true rfl, Nat.le_of_ble_eq_true rfl⟩ (fun r u H locs hq99 hw => ?_)
  subst r
  have hw : kW E AA sx (List.flatten [oc m0 7 [.ref A0, .ref V0, .ref Z0, .int sm, .int 2, .int pl, .int hz, .ref D0, .ref W0, .ref T0, .int tl, .int tw, .int tc], ac E A0 985 (mA h w wd s0 z st he ke tu ca tr co la)]) H locs := hw
  refine W.eq (g2 := F0 mm 18 ls [.int 0]) rfl ?_
  refine lv_if_ne (tgt := 23) hx hb dX7_setTuft_18 (by decide) (fun c18 => absurd c18 (by decide)) (fun c18 => ?_)
  refine lv_iconst (v := 0) hx hb dX7_setTuft_21 (by decide) ?_
  -- leaf 0
  exact k_iret C0 hr hlk hw () (rfl) (rfl) (Nat.le_of_ble_eq_true rfl) (Nat.le_of_ble_eq_true rfl) dX7_setTuft_22

abbrev rmX7_setFence : Room := { frames := 2, cells := 0, slots := 0, locals := 46 }
set_option maxHeartbeats 4000000 in
set_option maxRecDepth 100000 in
theorem c_X7_setFence_ok (l : Launch) (E : kE) (m0 : Nat) (A0 : Nat) (V0 : Nat) (Z0 : Nat) (D0 : Nat) (W0 : Nat) (T0 : Nat) (th : Int32) (pl : Int32) (hz : Int32) (tl : Int32) (tw : Int32) (tc : Int32) (h : Nat) (w : Nat) (k9 : Nat) (wd : Int32) (s0 : Int32) (z : Int32) (st : Nat → Int32) (he : Nat → Int32) (ke : Nat → Int32) (tu : Nat → Int32) (ca : Nat → Int32) (tr : Nat → Int32) (co : Nat → Int32) (la : Nat → Int32) (V : Nat → Int32) (k : Nat) (v : Int32) (hG : kG h w) (hc : k < h * w) (hv : v = -1 ∨ (¬ v < 1 ∧ ¬ 50 < v)) (hk9 : k9 ≤ 4) : kC E l yX7_setFence wsX7_setFence rmX7_setFence [.ref m0, .int (nI k), .int v] (List.flatten [oc m0 7 [.ref A0, .ref V0, .ref Z0, .int (nI k9), .int th, .int pl, .int hz, .ref D0, .ref W0, .ref T0, .int tl, .int tw, .int tc], ac E A0 985 (mA h w wd s0 z st he ke tu ca tr co la), ac E V0 3940 V]) kI (fun (r : Int32) (_ : Unit) => r = trpN ca tr k) (fun _ => List.flatten [oc m0 7 [.ref A0, .ref V0, .ref Z0, .int (nI (svK k9)), .int 0, .int pl, .int hz, .ref D0, .ref W0, .ref T0, .int tl, .int tw, .int tc], ac E A0 985 (mA h w wd s0 z st he ke tu (upd ca k v) (upd tr k 0) co la), ac E V0 3940 (svA V (mA h w wd s0 z st he ke tu ca tr co la) k9)]) 0 0 := by
  refine k_body (cc := cX7_setFence) (maxL := 4) (ret := (some .int)) (by decide) rfl (Nat.le_of_ble_eq_true rfl) ?_
  intro pp ee sx mm aa bb me cd H locs AA ls C0 hr hlk hnm hl hw
  obtain ⟨hx, hb, hml, hown, hts⟩ := id C0
  have hl : lv_has ls 4 [(0, .ref m0), (1, .int (nI k)), (2, .int v)] := hl
  have hw : kW E AA sx (List.flatten [oc m0 7 [.ref A0, .ref V0, .ref Z0, .int (nI k9), .int th, .int pl, .int hz, .ref D0, .ref W0, .ref T0, .int tl, .int tw, .int tc], ac E A0 985 (mA h w wd s0 z st he ke tu ca tr co la), ac E V0 3940 V]) H locs := hw
  have hn9 := kG_n hG
  have hG9 := id hG
  obtain ⟨hG1, hG2, hG3, hG4⟩ := hG9
  refine lv_aload_n hx hb dX7_setFence_0 rfl (lv_at hl 0 rfl) ?_
  refine lv_aload_n hx hb dX7_setFence_1 rfl (lv_at hl 0 rfl) ?_
  refine lv_iload_n hx hb dX7_setFence_2 rfl (lv_at hl 1 rfl) ?_
  refine k_V (As := [.int (nI k)]) (rest := [.ref m0]) (pre := []) (mid := [oc m0 7 [.ref A0, .ref V0, .ref Z0, .int (nI k9), .int th, .int pl, .int hz, .ref D0, .ref W0, .ref T0, .int tl, .int tw, .int tc], ac E A0 985 (mA h w wd s0 z st he ke tu ca tr co la)]) C0 (c_X7_isCell l E m0 A0 V0 Z0 D0 W0 T0 (nI k9) th pl hz tl tw tc h w wd s0 z st he ke tu ca tr co la (nI k) (by first | assumption | omega)) (cwV 1 hts gX7_setFence_X7_isCell rfl rfl rfl (by decide +kernel) ⟨Nat.le_of_ble_eq_true rfl, Nat.le_of_ble_eq_true rfl⟩) hw rfl (fun _ => [oc m0 7 [.ref A0, .ref V0, .ref Z0, .int (nI k9), .int th, .int pl, .int hz, .ref D0, .ref W0, .ref T0, .int tl, .int tw, .int tc], ac E A0 985 (mA h w wd s0 z st he ke tu ca tr co la)]) (fun _ => rfl) 0 7 rfl rfl rfl rfl hl.1 rfl (Nat.le_of_ble_eq_true rfl) dX7_setFence_3 ⟨Nat.le_of_ble_eq_true rfl, Nat.le_of_ble_eq_true rfl⟩ (fun r u H locs hq99 hw => ?_)
  subst hq99
  have hw : kW E AA sx (List.flatten [oc m0 7 [.ref A0, .ref V0, .ref Z0, .int (nI k9), .int th, .int pl, .int hz, .ref D0, .ref W0, .ref T0, .int tl, .int tw, .int tc], ac E A0 985 (mA h w wd s0 z st he ke tu ca tr co la), ac E V0 3940 V]) H locs := hw
  refine W.eq (g2 := F0 mm 6 ls [.int (if ¬ (nI k) < 0 ∧ ¬ nI (h * w - 1) < (nI k) then 1 else 0), .ref m0]) rfl ?_
  refine lv_iload_n hx hb dX7_setFence_6 rfl (lv_at hl 2 rfl) ?_
  refine lv_iconst (v := (-1)) hx hb dX7_setFence_7 (by decide) ?_
  refine lv_icmp_eq (tgt := 23) hx hb dX7_setFence_8 (by decide) (fun c8 => ?_) (fun c8 => ?_)
  · refine lv_iconst (v := 1) hx hb dX7_setFence_23 (by decide) ?_
    refine lv_goto (tgt := 28) hx hb dX7_setFence_24 (by decide) ?_
    refine k_V (As := [.int (if ¬ (nI k) < 0 ∧ ¬ nI (h * w - 1) < (nI k) then 1 else 0), .int 1]) (rest := []) (pre := []) (mid := [oc m0 7 [.ref A0, .ref V0, .ref Z0, .int (nI k9), .int th, .int pl, .int hz, .ref D0, .ref W0, .ref T0, .int tl, .int tw, .int tc]]) C0 (c_X7_goes_ok l E m0 A0 V0 Z0 D0 W0 T0 (nI k9) th pl hz tl tw tc (if ¬ (nI k) < 0 ∧ ¬ nI (h * w - 1) < (nI k) then 1 else 0) 1 (kp10 (⟨nI_pos (by omega), nI_nlt (a := h * w - 1) (b := k) (by omega) (by omega)⟩)) (by decide)) (cwV 2 hts gX7_setFence_X7_goes rfl rfl rfl (by decide +kernel) ⟨Nat.le_of_ble_eq_true rfl, Nat.le_of_ble_eq_true rfl⟩) hw rfl (fun _ => [oc m0 7 [.ref A0, .ref V0, .ref Z0, .int (nI k9), .int 0, .int pl, .int hz, .ref D0, .ref W0, .ref T0, .int tl, .int tw, .int tc]]) (fun _ => rfl) 0 7 rfl rfl rfl rfl hl.1 rfl (Nat.le_of_ble_eq_true rfl) dX7_setFence_28 ⟨Nat.le_of_ble_eq_true rfl, Nat.le_of_ble_eq_true rfl⟩ (fun r u H locs hq99 hw => ?_)
    subst r
    have hw : kW E AA sx (List.flatten [oc m0 7 [.ref A0, .ref V0, .ref Z0, .int (nI k9), .int 0, .int pl, .int hz, .ref D0, .ref W0, .ref T0, .int tl, .int tw, .int tc], ac E A0 985 (mA h w wd s0 z st he ke tu ca tr co la), ac E V0 3940 V]) H locs := hw
    refine W.eq (g2 := F0 mm 31 ls [.int 1]) rfl ?_
    refine lv_if_ne (tgt := 36) hx hb dX7_setFence_31 (by decide) (fun c31 => ?_) (fun c31 => absurd c31 (by decide))
    refine lv_aload_n hx hb dX7_setFence_36 rfl (lv_at hl 0 rfl) ?_
    refine k_V (As := []) (rest := []) (pre := []) (mid := [oc m0 7 [.ref A0, .ref V0, .ref Z0, .int (nI k9), .int 0, .int pl, .int hz, .ref D0, .ref W0, .ref T0, .int tl, .int tw, .int tc], ac E A0 985 (mA h w wd s0 z st he ke tu ca tr co la), ac E V0 3940 V]) C0 (c_X7_save l E m0 A0 V0 Z0 D0 W0 T0 0 pl hz tl tw tc k9 (mA h w wd s0 z st he ke tu ca tr co la) V (by first | assumption | omega)) (cwV 0 hts gX7_setFence_X7_save rfl rfl rfl (by decide +kernel) ⟨Nat.le_of_ble_eq_true rfl, Nat.le_of_ble_eq_true rfl⟩) hw rfl (fun _ => [oc m0 7 [.ref A0, .ref V0, .ref Z0, .int (nI (svK k9)), .int 0, .int pl, .int hz, .ref D0, .ref W0, .ref T0, .int tl, .int tw, .int tc], ac E A0 985 (mA h w wd s0 z st he ke tu ca tr co la), ac E V0 3940 (svA V (mA h w wd s0 z st he ke tu ca tr co la) k9)]) (fun _ => rfl) 0 7 rfl rfl rfl rfl hl.1 rfl (Nat.le_of_ble_eq_true rfl) dX7_setFence_37 ⟨Nat.le_of_ble_eq_true rfl, Nat.le_of_ble_eq_true rfl⟩ (fun r u H locs hq99 hw => ?_)
    have hw : kW E AA sx (List.flatten [oc m0 7 [.ref A0, .ref V0, .ref Z0, .int (nI (svK k9)), .int 0, .int pl, .int hz, .ref D0, .ref W0, .ref T0, .int tl, .int tw, .int tc], ac E A0 985 (mA h w wd s0 z st he ke tu ca tr co la), ac E V0 3940 (svA V (mA h w wd s0 z st he ke tu ca tr co la) k9)]) H locs := hw
    refine W.eq (g2 := F0 mm 40 ls []) rfl ?_
    refine lv_aload_n hx hb dX7_setFence_40 rfl (lv_at hl 0 rfl) ?_
    refine lv_iload_n hx hb dX7_setFence_41 rfl (lv_at hl 1 rfl) ?_
    refine lv_iconst (v := 3) hx hb dX7_setFence_42 (by decide) ?_
    refine k_V (As := [.int (nI k), .int 3]) (rest := []) (pre := []) (mid := [oc m0 7 [.ref A0, .ref V0, .ref Z0, .int (nI (svK k9)), .int 0, .int pl, .int hz, .ref D0, .ref W0, .ref T0, .int tl, .int tw, .int tc], ac E A0 985 (mA h w wd s0 z st he ke tu ca tr co la)]) C0 (c_X7_of3 l E m0 A0 V0 Z0 D0 W0 T0 (nI (svK k9)) 0 pl hz tl tw tc h w wd s0 z st he ke tu ca tr co la k (by first | assumption | omega) (by first | assumption | omega)) (cwV 2 hts gX7_setFence_X7_of rfl rfl rfl (by decide +kernel) ⟨Nat.le_of_ble_eq_true rfl, Nat.le_of_ble_eq_true rfl⟩) hw rfl (fun _ => [oc m0 7 [.ref A0, .ref V0, .ref Z0, .int (nI (svK k9)), .int 0, .int pl, .int hz, .ref D0, .ref W0, .ref T0, .int tl, .int tw, .int tc], ac E A0 985 (mA h w wd s0 z st he ke tu ca tr co la)]) (fun _ => rfl) 0 7 rfl rfl rfl rfl hl.1 rfl (Nat.le_of_ble_eq_true rfl) dX7_setFence_43 ⟨Nat.le_of_ble_eq_true rfl, Nat.le_of_ble_eq_true rfl⟩ (fun r u H locs hq99 hw => ?_)
    subst hq99
    have hw : kW E AA sx (List.flatten [oc m0 7 [.ref A0, .ref V0, .ref Z0, .int (nI (svK k9)), .int 0, .int pl, .int hz, .ref D0, .ref W0, .ref T0, .int tl, .int tw, .int tc], ac E A0 985 (mA h w wd s0 z st he ke tu ca tr co la), ac E V0 3940 (svA V (mA h w wd s0 z st he ke tu ca tr co la) k9)]) H locs := hw
    refine W.eq (g2 := F0 mm 46 ls [.int (trpN ca tr k)]) rfl ?_
    refine lv_istore_n (lv' := [(3, .int (trpN ca tr k)), (0, .ref m0), (1, .int (nI k)), (2, .int v)]) hx hb dX7_setFence_46 rfl hl (by decide) rfl (fun ls hl => ?_)
    refine lv_aload_n hx hb dX7_setFence_47 rfl (lv_at hl 1 rfl) ?_
    refine lv_iload_n hx hb dX7_setFence_48 rfl (lv_at hl 2 rfl) ?_
    refine lv_iload_n hx hb dX7_setFence_49 rfl (lv_at hl 3 rfl) ?_
    refine k_V (As := [.int (nI k), .int v]) (rest := []) (pre := []) (mid := [oc m0 7 [.ref A0, .ref V0, .ref Z0, .int (nI (svK k9)), .int 0, .int pl, .int hz, .ref D0, .ref W0, .ref T0, .int tl, .int tw, .int tc], ac E A0 985 (mA h w wd s0 z st he ke tu ca tr co la)]) C0 (c_X7_fences l E m0 A0 V0 Z0 D0 W0 T0 (nI (svK k9)) 0 pl hz tl tw tc h w wd s0 z st he ke tu ca tr co la k v (by first | assumption | omega) (by first | assumption | omega)) (cwV 2 hts gX7_setFence_X7_fences rfl rfl rfl (by decide +kernel) ⟨Nat.le_of_ble_eq_true rfl, Nat.le_of_ble_eq_true rfl⟩) hw rfl (fun _ => [oc m0 7 [.ref A0, .ref V0, .ref Z0, .int (nI (svK k9)), .int 0, .int pl, .int hz, .ref D0, .ref W0, .ref T0, .int tl, .int tw, .int tc], ac E A0 985 (mA h w wd s0 z st he ke tu (upd ca k v) (upd tr k 0) co la)]) (fun _ => rfl) 0 7 rfl rfl rfl rfl hl.1 rfl (Nat.le_of_ble_eq_true rfl) dX7_setFence_50 ⟨Nat.le_of_ble_eq_true rfl, Nat.le_of_ble_eq_true rfl⟩ (fun r u H locs hq99 hw => ?_)
    have hw : kW E AA sx (List.flatten [oc m0 7 [.ref A0, .ref V0, .ref Z0, .int (nI (svK k9)), .int 0, .int pl, .int hz, .ref D0, .ref W0, .ref T0, .int tl, .int tw, .int tc], ac E A0 985 (mA h w wd s0 z st he ke tu (upd ca k v) (upd tr k 0) co la), ac E V0 3940 (svA V (mA h w wd s0 z st he ke tu ca tr co la) k9)]) H locs := hw
    refine W.eq (g2 := F0 mm 53 ls []) rfl ?_
    refine lv_iload_n hx hb dX7_setFence_53 rfl (lv_at hl 0 rfl) ?_
    -- leaf 0
    exact k_iret C0 hr hlk hw () (rfl) (rfl) (Nat.le_of_ble_eq_true rfl) (Nat.le_of_ble_eq_true rfl) dX7_setFence_54
  · refine lv_iload_n hx hb dX7_setFence_11 rfl (lv_at hl 2 rfl) ?_
    refine lv_i2l (v := Int32.toInt64 v) hx hb dX7_setFence_12 rfl ?_
    refine lv_lconst (v := 1) hx hb dX7_setFence_13 (by decide) ?_
    refine lv_ldc2 (v := 50) hx hb hown (hts (.constantLong RX7 84 50) (by decide +kernel)) dX7_setFence_14 ?_
    refine k_S (As := [.long (Int32.toInt64 v), .long 1, .long 50]) (rest := [.int (if ¬ (nI k) < 0 ∧ ¬ nI (h * w - 1) < (nI k) then 1 else 0), .ref m0]) (pre := []) (mid := []) C0 (c_X7_in_1_50 l E v ) (va_cwS 3 hts gX7_setFence_X7_in rfl rfl rfl (by decide +kernel) ⟨Nat.le_of_ble_eq_true rfl, Nat.le_of_ble_eq_true rfl⟩) hw rfl (fun _ => []) (fun _ => rfl) rfl hl.1 rfl (Nat.le_of_ble_eq_true rfl) dX7_setFence_17 ⟨Nat.le_of_ble_eq_true rfl, Nat.le_of_ble_eq_true rfl⟩ (fun r u H locs hq99 hw => ?_)
    subst hq99
    have hw : kW E AA sx (List.flatten [oc m0 7 [.ref A0, .ref V0, .ref Z0, .int (nI k9), .int th, .int pl, .int hz, .ref D0, .ref W0, .ref T0, .int tl, .int tw, .int tc], ac E A0 985 (mA h w wd s0 z st he ke tu ca tr co la), ac E V0 3940 V]) H locs := hw
    refine W.eq (g2 := F0 mm 20 ls [.int (if ¬ v < 1 ∧ ¬ 50 < v then 1 else 0), .int (if ¬ (nI k) < 0 ∧ ¬ nI (h * w - 1) < (nI k) then 1 else 0), .ref m0]) rfl ?_
    refine lv_if_eq (tgt := 27) hx hb dX7_setFence_20 (by decide) (fun c20 => absurd c20 (kp10 (hv.resolve_left c8))) (fun c20 => ?_)
    have c20 := kb10f c20
    refine lv_iconst (v := 1) hx hb dX7_setFence_23 (by decide) ?_
    refine lv_goto (tgt := 28) hx hb dX7_setFence_24 (by decide) ?_
    refine k_V (As := [.int (if ¬ (nI k) < 0 ∧ ¬ nI (h * w - 1) < (nI k) then 1 else 0), .int 1]) (rest := []) (pre := []) (mid := [oc m0 7 [.ref A0, .ref V0, .ref Z0, .int (nI k9), .int th, .int pl, .int hz, .ref D0, .ref W0, .ref T0, .int tl, .int tw, .int tc]]) C0 (c_X7_goes_ok l E m0 A0 V0 Z0 D0 W0 T0 (nI k9) th pl hz tl tw tc (if ¬ (nI k) < 0 ∧ ¬ nI (h * w - 1) < (nI k) then 1 else 0) 1 (kp10 (⟨nI_pos (by omega), nI_nlt (a := h * w - 1) (b := k) (by omega) (by omega)⟩)) (by decide)) (cwV 2 hts gX7_setFence_X7_goes rfl rfl rfl (by decide +kernel) ⟨Nat.le_of_ble_eq_true rfl, Nat.le_of_ble_eq_true rfl⟩) hw rfl (fun _ => [oc m0 7 [.ref A0, .ref V0, .ref Z0, .int (nI k9), .int 0, .int pl, .int hz, .ref D0, .ref W0, .ref T0, .int tl, .int tw, .int tc]]) (fun _ => rfl) 0 7 rfl rfl rfl rfl hl.1 rfl (Nat.le_of_ble_eq_true rfl) dX7_setFence_28 ⟨Nat.le_of_ble_eq_true rfl, Nat.le_of_ble_eq_true rfl⟩ (fun r u H locs hq99 hw => ?_)
    subst r
    have hw : kW E AA sx (List.flatten [oc m0 7 [.ref A0, .ref V0, .ref Z0, .int (nI k9), .int 0, .int pl, .int hz, .ref D0, .ref W0, .ref T0, .int tl, .int tw, .int tc], ac E A0 985 (mA h w wd s0 z st he ke tu ca tr co la), ac E V0 3940 V]) H locs := hw
    refine W.eq (g2 := F0 mm 31 ls [.int 1]) rfl ?_
    refine lv_if_ne (tgt := 36) hx hb dX7_setFence_31 (by decide) (fun c31 => ?_) (fun c31 => absurd c31 (by decide))
    refine lv_aload_n hx hb dX7_setFence_36 rfl (lv_at hl 0 rfl) ?_
    refine k_V (As := []) (rest := []) (pre := []) (mid := [oc m0 7 [.ref A0, .ref V0, .ref Z0, .int (nI k9), .int 0, .int pl, .int hz, .ref D0, .ref W0, .ref T0, .int tl, .int tw, .int tc], ac E A0 985 (mA h w wd s0 z st he ke tu ca tr co la), ac E V0 3940 V]) C0 (c_X7_save l E m0 A0 V0 Z0 D0 W0 T0 0 pl hz tl tw tc k9 (mA h w wd s0 z st he ke tu ca tr co la) V (by first | assumption | omega)) (cwV 0 hts gX7_setFence_X7_save rfl rfl rfl (by decide +kernel) ⟨Nat.le_of_ble_eq_true rfl, Nat.le_of_ble_eq_true rfl⟩) hw rfl (fun _ => [oc m0 7 [.ref A0, .ref V0, .ref Z0, .int (nI (svK k9)), .int 0, .int pl, .int hz, .ref D0, .ref W0, .ref T0, .int tl, .int tw, .int tc], ac E A0 985 (mA h w wd s0 z st he ke tu ca tr co la), ac E V0 3940 (svA V (mA h w wd s0 z st he ke tu ca tr co la) k9)]) (fun _ => rfl) 0 7 rfl rfl rfl rfl hl.1 rfl (Nat.le_of_ble_eq_true rfl) dX7_setFence_37 ⟨Nat.le_of_ble_eq_true rfl, Nat.le_of_ble_eq_true rfl⟩ (fun r u H locs hq99 hw => ?_)
    have hw : kW E AA sx (List.flatten [oc m0 7 [.ref A0, .ref V0, .ref Z0, .int (nI (svK k9)), .int 0, .int pl, .int hz, .ref D0, .ref W0, .ref T0, .int tl, .int tw, .int tc], ac E A0 985 (mA h w wd s0 z st he ke tu ca tr co la), ac E V0 3940 (svA V (mA h w wd s0 z st he ke tu ca tr co la) k9)]) H locs := hw
    refine W.eq (g2 := F0 mm 40 ls []) rfl ?_
    refine lv_aload_n hx hb dX7_setFence_40 rfl (lv_at hl 0 rfl) ?_
    refine lv_iload_n hx hb dX7_setFence_41 rfl (lv_at hl 1 rfl) ?_
    refine lv_iconst (v := 3) hx hb dX7_setFence_42 (by decide) ?_
    refine k_V (As := [.int (nI k), .int 3]) (rest := []) (pre := []) (mid := [oc m0 7 [.ref A0, .ref V0, .ref Z0, .int (nI (svK k9)), .int 0, .int pl, .int hz, .ref D0, .ref W0, .ref T0, .int tl, .int tw, .int tc], ac E A0 985 (mA h w wd s0 z st he ke tu ca tr co la)]) C0 (c_X7_of3 l E m0 A0 V0 Z0 D0 W0 T0 (nI (svK k9)) 0 pl hz tl tw tc h w wd s0 z st he ke tu ca tr co la k (by first | assumption | omega) (by first | assumption | omega)) (cwV 2 hts gX7_setFence_X7_of rfl rfl rfl (by decide +kernel) ⟨Nat.le_of_ble_eq_true rfl, Nat.le_of_ble_eq_true rfl⟩) hw rfl (fun _ => [oc m0 7 [.ref A0, .ref V0, .ref Z0, .int (nI (svK k9)), .int 0, .int pl, .int hz, .ref D0, .ref W0, .ref T0, .int tl, .int tw, .int tc], ac E A0 985 (mA h w wd s0 z st he ke tu ca tr co la)]) (fun _ => rfl) 0 7 rfl rfl rfl rfl hl.1 rfl (Nat.le_of_ble_eq_true rfl) dX7_setFence_43 ⟨Nat.le_of_ble_eq_true rfl, Nat.le_of_ble_eq_true rfl⟩ (fun r u H locs hq99 hw => ?_)
    subst hq99
    have hw : kW E AA sx (List.flatten [oc m0 7 [.ref A0, .ref V0, .ref Z0, .int (nI (svK k9)), .int 0, .int pl, .int hz, .ref D0, .ref W0, .ref T0, .int tl, .int tw, .int tc], ac E A0 985 (mA h w wd s0 z st he ke tu ca tr co la), ac E V0 3940 (svA V (mA h w wd s0 z st he ke tu ca tr co la) k9)]) H locs := hw
    refine W.eq (g2 := F0 mm 46 ls [.int (trpN ca tr k)]) rfl ?_
    refine lv_istore_n (lv' := [(3, .int (trpN ca tr k)), (0, .ref m0), (1, .int (nI k)), (2, .int v)]) hx hb dX7_setFence_46 rfl hl (by decide) rfl (fun ls hl => ?_)
    refine lv_aload_n hx hb dX7_setFence_47 rfl (lv_at hl 1 rfl) ?_
    refine lv_iload_n hx hb dX7_setFence_48 rfl (lv_at hl 2 rfl) ?_
    refine lv_iload_n hx hb dX7_setFence_49 rfl (lv_at hl 3 rfl) ?_
    refine k_V (As := [.int (nI k), .int v]) (rest := []) (pre := []) (mid := [oc m0 7 [.ref A0, .ref V0, .ref Z0, .int (nI (svK k9)), .int 0, .int pl, .int hz, .ref D0, .ref W0, .ref T0, .int tl, .int tw, .int tc], ac E A0 985 (mA h w wd s0 z st he ke tu ca tr co la)]) C0 (c_X7_fences l E m0 A0 V0 Z0 D0 W0 T0 (nI (svK k9)) 0 pl hz tl tw tc h w wd s0 z st he ke tu ca tr co la k v (by first | assumption | omega) (by first | assumption | omega)) (cwV 2 hts gX7_setFence_X7_fences rfl rfl rfl (by decide +kernel) ⟨Nat.le_of_ble_eq_true rfl, Nat.le_of_ble_eq_true rfl⟩) hw rfl (fun _ => [oc m0 7 [.ref A0, .ref V0, .ref Z0, .int (nI (svK k9)), .int 0, .int pl, .int hz, .ref D0, .ref W0, .ref T0, .int tl, .int tw, .int tc], ac E A0 985 (mA h w wd s0 z st he ke tu (upd ca k v) (upd tr k 0) co la)]) (fun _ => rfl) 0 7 rfl rfl rfl rfl hl.1 rfl (Nat.le_of_ble_eq_true rfl) dX7_setFence_50 ⟨Nat.le_of_ble_eq_true rfl, Nat.le_of_ble_eq_true rfl⟩ (fun r u H locs hq99 hw => ?_)
    have hw : kW E AA sx (List.flatten [oc m0 7 [.ref A0, .ref V0, .ref Z0, .int (nI (svK k9)), .int 0, .int pl, .int hz, .ref D0, .ref W0, .ref T0, .int tl, .int tw, .int tc], ac E A0 985 (mA h w wd s0 z st he ke tu (upd ca k v) (upd tr k 0) co la), ac E V0 3940 (svA V (mA h w wd s0 z st he ke tu ca tr co la) k9)]) H locs := hw
    refine W.eq (g2 := F0 mm 53 ls []) rfl ?_
    refine lv_iload_n hx hb dX7_setFence_53 rfl (lv_at hl 0 rfl) ?_
    -- leaf 1
    exact k_iret C0 hr hlk hw () (rfl) (rfl) (Nat.le_of_ble_eq_true rfl) (Nat.le_of_ble_eq_true rfl) dX7_setFence_54

set_option maxHeartbeats 4000000 in
set_option maxRecDepth 100000 in
theorem c_X7_setFence_x1 (l : Launch) (E : kE) (m0 : Nat) (A0 : Nat) (V0 : Nat) (Z0 : Nat) (D0 : Nat) (W0 : Nat) (T0 : Nat) (sm : Int32) (th : Int32) (pl : Int32) (hz : Int32) (tl : Int32) (tw : Int32) (tc : Int32) (h : Nat) (w : Nat) (wd : Int32) (s0 : Int32) (z : Int32) (st : Nat → Int32) (he : Nat → Int32) (ke : Nat → Int32) (tu : Nat → Int32) (ca : Nat → Int32) (tr : Nat → Int32) (co : Nat → Int32) (la : Nat → Int32) (x : Int32) (v : Int32) (hG : kG h w) (hv : ¬ (¬ x < 0 ∧ ¬ nI (h * w - 1) < x)) : kC E l yX7_setFence wsX7_setFence rmX7_setFence [.ref m0, .int x, .int v] (List.flatten [oc m0 7 [.ref A0, .ref V0, .ref Z0, .int sm, .int th, .int pl, .int hz, .ref D0, .ref W0, .ref T0, .int tl, .int tw, .int tc], ac E A0 985 (mA h w wd s0 z st he ke tu ca tr co la)]) kI (fun (r : Int32) (_ : Unit) => r = 0) (fun _ => List.flatten [oc m0 7 [.ref A0, .ref V0, .ref Z0, .int sm, .int 1, .int pl, .int hz, .ref D0, .ref W0, .ref T0, .int tl, .int tw, .int tc], ac E A0 985 (mA h w wd s0 z st he ke tu ca tr co la)]) 0 0 := by
  refine k_body (cc := cX7_setFence) (maxL := 4) (ret := (some .int)) (by decide) rfl (Nat.le_of_ble_eq_true rfl) ?_
  intro pp ee sx mm aa bb me cd H locs AA ls C0 hr hlk hnm hl hw
  obtain ⟨hx, hb, hml, hown, hts⟩ := id C0
  have hl : lv_has ls 4 [(0, .ref m0), (1, .int x), (2, .int v)] := hl
  have hw : kW E AA sx (List.flatten [oc m0 7 [.ref A0, .ref V0, .ref Z0, .int sm, .int th, .int pl, .int hz, .ref D0, .ref W0, .ref T0, .int tl, .int tw, .int tc], ac E A0 985 (mA h w wd s0 z st he ke tu ca tr co la)]) H locs := hw
  have hn9 := kG_n hG
  have hG9 := id hG
  obtain ⟨hG1, hG2, hG3, hG4⟩ := hG9
  refine lv_aload_n hx hb dX7_setFence_0 rfl (lv_at hl 0 rfl) ?_
  refine lv_aload_n hx hb dX7_setFence_1 rfl (lv_at hl 0 rfl) ?_
  refine lv_iload_n hx hb dX7_setFence_2 rfl (lv_at hl 1 rfl) ?_
  refine k_V (As := [.int x]) (rest := [.ref m0]) (pre := []) (mid := [oc m0 7 [.ref A0, .ref V0, .ref Z0, .int sm, .int th, .int pl, .int hz, .ref D0, .ref W0, .ref T0, .int tl, .int tw, .int tc], ac E A0 985 (mA h w wd s0 z st he ke tu ca tr co la)]) C0 (c_X7_isCell l E m0 A0 V0 Z0 D0 W0 T0 sm th pl hz tl tw tc h w wd s0 z st he ke tu ca tr co la x (by first | assumption | omega)) (cwV 1 hts gX7_setFence_X7_isCell rfl rfl rfl (by decide +kernel) ⟨Nat.le_of_ble_eq_true rfl, Nat.le_of_ble_eq_true rfl⟩) hw rfl (fun _ => [oc m0 7 [.ref A0, .ref V0, .ref Z0, .int sm, .int th, .int pl, .int hz, .ref D0, .ref W0, .ref T0, .int tl, .int tw, .int tc], ac E A0 985 (mA h w wd s0 z st he ke tu ca tr co la)]) (fun _ => rfl) 0 7 rfl rfl rfl rfl hl.1 rfl (Nat.le_of_ble_eq_true rfl) dX7_setFence_3 ⟨Nat.le_of_ble_eq_true rfl, Nat.le_of_ble_eq_true rfl⟩ (fun r u H locs hq99 hw => ?_)
  subst hq99
  have hw : kW E AA sx (List.flatten [oc m0 7 [.ref A0, .ref V0, .ref Z0, .int sm, .int th, .int pl, .int hz, .ref D0, .ref W0, .ref T0, .int tl, .int tw, .int tc], ac E A0 985 (mA h w wd s0 z st he ke tu ca tr co la)]) H locs := hw
  refine W.eq (g2 := F0 mm 6 ls [.int (if ¬ x < 0 ∧ ¬ nI (h * w - 1) < x then 1 else 0), .ref m0]) rfl ?_
  refine lv_iload_n hx hb dX7_setFence_6 rfl (lv_at hl 2 rfl) ?_
  refine lv_iconst (v := (-1)) hx hb dX7_setFence_7 (by decide) ?_
  refine lv_icmp_eq (tgt := 23) hx hb dX7_setFence_8 (by decide) (fun c8 => ?_) (fun c8 => ?_)
  · refine lv_iconst (v := 1) hx hb dX7_setFence_23 (by decide) ?_
    refine lv_goto (tgt := 28) hx hb dX7_setFence_24 (by decide) ?_
    refine k_V (As := [.int (if ¬ x < 0 ∧ ¬ nI (h * w - 1) < x then 1 else 0), .int 1]) (rest := []) (pre := []) (mid := [oc m0 7 [.ref A0, .ref V0, .ref Z0, .int sm, .int th, .int pl, .int hz, .ref D0, .ref W0, .ref T0, .int tl, .int tw, .int tc]]) C0 (c_X7_goes_1 l E m0 A0 V0 Z0 D0 W0 T0 sm th pl hz tl tw tc (if ¬ x < 0 ∧ ¬ nI (h * w - 1) < x then 1 else 0) 1 (kn10 (hv))) (cwV 2 hts gX7_setFence_X7_goes rfl rfl rfl (by decide +kernel) ⟨Nat.le_of_ble_eq_true rfl, Nat.le_of_ble_eq_true rfl⟩) hw rfl (fun _ => [oc m0 7 [.ref A0, .ref V0, .ref Z0, .int sm, .int 1, .int pl, .int hz, .ref D0, .ref W0, .ref T0, .int tl, .int tw, .int tc]]) (fun _ => rfl) 0 7 rfl rfl rfl rfl hl.1 rfl (Nat.le_of_ble_eq_true rfl) dX7_setFence_28 ⟨Nat.le_of_ble_eq_true rfl, Nat.le_of_ble_eq_true rfl⟩ (fun r u H locs hq99 hw => ?_)
    subst r
    have hw : kW E AA sx (List.flatten [oc m0 7 [.ref A0, .ref V0, .ref Z0, .int sm, .int 1, .int pl, .int hz, .ref D0, .ref W0, .ref T0, .int tl, .int tw, .int tc], ac E A0 985 (mA h w wd s0 z st he ke tu ca tr co la)]) H locs := hw
    refine W.eq (g2 := F0 mm 31 ls [.int 0]) rfl ?_
    refine lv_if_ne (tgt := 36) hx hb dX7_setFence_31 (by decide) (fun c31 => absurd c31 (by decide)) (fun c31 => ?_)
    refine lv_iconst (v := 0) hx hb dX7_setFence_34 (by decide) ?_
    -- leaf 0
    exact k_iret C0 hr hlk hw () (rfl) (rfl) (Nat.le_of_ble_eq_true rfl) (Nat.le_of_ble_eq_true rfl) dX7_setFence_35
  · refine lv_iload_n hx hb dX7_setFence_11 rfl (lv_at hl 2 rfl) ?_
    refine lv_i2l (v := Int32.toInt64 v) hx hb dX7_setFence_12 rfl ?_
    refine lv_lconst (v := 1) hx hb dX7_setFence_13 (by decide) ?_
    refine lv_ldc2 (v := 50) hx hb hown (hts (.constantLong RX7 84 50) (by decide +kernel)) dX7_setFence_14 ?_
    refine k_S (As := [.long (Int32.toInt64 v), .long 1, .long 50]) (rest := [.int (if ¬ x < 0 ∧ ¬ nI (h * w - 1) < x then 1 else 0), .ref m0]) (pre := []) (mid := []) C0 (c_X7_in_1_50 l E v ) (va_cwS 3 hts gX7_setFence_X7_in rfl rfl rfl (by decide +kernel) ⟨Nat.le_of_ble_eq_true rfl, Nat.le_of_ble_eq_true rfl⟩) hw rfl (fun _ => []) (fun _ => rfl) rfl hl.1 rfl (Nat.le_of_ble_eq_true rfl) dX7_setFence_17 ⟨Nat.le_of_ble_eq_true rfl, Nat.le_of_ble_eq_true rfl⟩ (fun r u H locs hq99 hw => ?_)
    subst hq99
    have hw : kW E AA sx (List.flatten [oc m0 7 [.ref A0, .ref V0, .ref Z0, .int sm, .int th, .int pl, .int hz, .ref D0, .ref W0, .ref T0, .int tl, .int tw, .int tc], ac E A0 985 (mA h w wd s0 z st he ke tu ca tr co la)]) H locs := hw
    refine W.eq (g2 := F0 mm 20 ls [.int (if ¬ v < 1 ∧ ¬ 50 < v then 1 else 0), .int (if ¬ x < 0 ∧ ¬ nI (h * w - 1) < x then 1 else 0), .ref m0]) rfl ?_
    refine lv_if_eq (tgt := 27) hx hb dX7_setFence_20 (by decide) (fun c20 => ?_) (fun c20 => ?_)
    · have c20 := kb10t c20
      refine lv_iconst (v := 0) hx hb dX7_setFence_27 (by decide) ?_
      refine k_V (As := [.int (if ¬ x < 0 ∧ ¬ nI (h * w - 1) < x then 1 else 0), .int 0]) (rest := []) (pre := []) (mid := [oc m0 7 [.ref A0, .ref V0, .ref Z0, .int sm, .int th, .int pl, .int hz, .ref D0, .ref W0, .ref T0, .int tl, .int tw, .int tc]]) C0 (c_X7_goes_1 l E m0 A0 V0 Z0 D0 W0 T0 sm th pl hz tl tw tc (if ¬ x < 0 ∧ ¬ nI (h * w - 1) < x then 1 else 0) 0 (kn10 (hv))) (cwV 2 hts gX7_setFence_X7_goes rfl rfl rfl (by decide +kernel) ⟨Nat.le_of_ble_eq_true rfl, Nat.le_of_ble_eq_true rfl⟩) hw rfl (fun _ => [oc m0 7 [.ref A0, .ref V0, .ref Z0, .int sm, .int 1, .int pl, .int hz, .ref D0, .ref W0, .ref T0, .int tl, .int tw, .int tc]]) (fun _ => rfl) 0 7 rfl rfl rfl rfl hl.1 rfl (Nat.le_of_ble_eq_true rfl) dX7_setFence_28 ⟨Nat.le_of_ble_eq_true rfl, Nat.le_of_ble_eq_true rfl⟩ (fun r u H locs hq99 hw => ?_)
      subst r
      have hw : kW E AA sx (List.flatten [oc m0 7 [.ref A0, .ref V0, .ref Z0, .int sm, .int 1, .int pl, .int hz, .ref D0, .ref W0, .ref T0, .int tl, .int tw, .int tc], ac E A0 985 (mA h w wd s0 z st he ke tu ca tr co la)]) H locs := hw
      refine W.eq (g2 := F0 mm 31 ls [.int 0]) rfl ?_
      refine lv_if_ne (tgt := 36) hx hb dX7_setFence_31 (by decide) (fun c31 => absurd c31 (by decide)) (fun c31 => ?_)
      refine lv_iconst (v := 0) hx hb dX7_setFence_34 (by decide) ?_
      -- leaf 1
      exact k_iret C0 hr hlk hw () (rfl) (rfl) (Nat.le_of_ble_eq_true rfl) (Nat.le_of_ble_eq_true rfl) dX7_setFence_35
    · have c20 := kb10f c20
      refine lv_iconst (v := 1) hx hb dX7_setFence_23 (by decide) ?_
      refine lv_goto (tgt := 28) hx hb dX7_setFence_24 (by decide) ?_
      refine k_V (As := [.int (if ¬ x < 0 ∧ ¬ nI (h * w - 1) < x then 1 else 0), .int 1]) (rest := []) (pre := []) (mid := [oc m0 7 [.ref A0, .ref V0, .ref Z0, .int sm, .int th, .int pl, .int hz, .ref D0, .ref W0, .ref T0, .int tl, .int tw, .int tc]]) C0 (c_X7_goes_1 l E m0 A0 V0 Z0 D0 W0 T0 sm th pl hz tl tw tc (if ¬ x < 0 ∧ ¬ nI (h * w - 1) < x then 1 else 0) 1 (kn10 (hv))) (cwV 2 hts gX7_setFence_X7_goes rfl rfl rfl (by decide +kernel) ⟨Nat.le_of_ble_eq_true rfl, Nat.le_of_ble_eq_true rfl⟩) hw rfl (fun _ => [oc m0 7 [.ref A0, .ref V0, .ref Z0, .int sm, .int 1, .int pl, .int hz, .ref D0, .ref W0, .ref T0, .int tl, .int tw, .int tc]]) (fun _ => rfl) 0 7 rfl rfl rfl rfl hl.1 rfl (Nat.le_of_ble_eq_true rfl) dX7_setFence_28 ⟨Nat.le_of_ble_eq_true rfl, Nat.le_of_ble_eq_true rfl⟩ (fun r u H locs hq99 hw => ?_)
      subst r
      have hw : kW E AA sx (List.flatten [oc m0 7 [.ref A0, .ref V0, .ref Z0, .int sm, .int 1, .int pl, .int hz, .ref D0, .ref W0, .ref T0, .int tl, .int tw, .int tc], ac E A0 985 (mA h w wd s0 z st he ke tu ca tr co la)]) H locs := hw
      refine W.eq (g2 := F0 mm 31 ls [.int 0]) rfl ?_
      refine lv_if_ne (tgt := 36) hx hb dX7_setFence_31 (by decide) (fun c31 => absurd c31 (by decide)) (fun c31 => ?_)
      refine lv_iconst (v := 0) hx hb dX7_setFence_34 (by decide) ?_
      -- leaf 2
      exact k_iret C0 hr hlk hw () (rfl) (rfl) (Nat.le_of_ble_eq_true rfl) (Nat.le_of_ble_eq_true rfl) dX7_setFence_35

set_option maxHeartbeats 4000000 in
set_option maxRecDepth 100000 in
theorem c_X7_setFence_x2 (l : Launch) (E : kE) (m0 : Nat) (A0 : Nat) (V0 : Nat) (Z0 : Nat) (D0 : Nat) (W0 : Nat) (T0 : Nat) (sm : Int32) (th : Int32) (pl : Int32) (hz : Int32) (tl : Int32) (tw : Int32) (tc : Int32) (h : Nat) (w : Nat) (wd : Int32) (s0 : Int32) (z : Int32) (st : Nat → Int32) (he : Nat → Int32) (ke : Nat → Int32) (tu : Nat → Int32) (ca : Nat → Int32) (tr : Nat → Int32) (co : Nat → Int32) (la : Nat → Int32) (k : Nat) (v : Int32) (hG : kG h w) (hc : k < h * w) (hv : ¬ (v = -1 ∨ (¬ v < 1 ∧ ¬ 50 < v))) : kC E l yX7_setFence wsX7_setFence rmX7_setFence [.ref m0, .int (nI k), .int v] (List.flatten [oc m0 7 [.ref A0, .ref V0, .ref Z0, .int sm, .int th, .int pl, .int hz, .ref D0, .ref W0, .ref T0, .int tl, .int tw, .int tc], ac E A0 985 (mA h w wd s0 z st he ke tu ca tr co la)]) kI (fun (r : Int32) (_ : Unit) => r = 0) (fun _ => List.flatten [oc m0 7 [.ref A0, .ref V0, .ref Z0, .int sm, .int 2, .int pl, .int hz, .ref D0, .ref W0, .ref T0, .int tl, .int tw, .int tc], ac E A0 985 (mA h w wd s0 z st he ke tu ca tr co la)]) 0 0 := by
  refine k_body (cc := cX7_setFence) (maxL := 4) (ret := (some .int)) (by decide) rfl (Nat.le_of_ble_eq_true rfl) ?_
  intro pp ee sx mm aa bb me cd H locs AA ls C0 hr hlk hnm hl hw
  obtain ⟨hx, hb, hml, hown, hts⟩ := id C0
  have hl : lv_has ls 4 [(0, .ref m0), (1, .int (nI k)), (2, .int v)] := hl
  have hw : kW E AA sx (List.flatten [oc m0 7 [.ref A0, .ref V0, .ref Z0, .int sm, .int th, .int pl, .int hz, .ref D0, .ref W0, .ref T0, .int tl, .int tw, .int tc], ac E A0 985 (mA h w wd s0 z st he ke tu ca tr co la)]) H locs := hw
  have hn9 := kG_n hG
  have hG9 := id hG
  obtain ⟨hG1, hG2, hG3, hG4⟩ := hG9
  refine lv_aload_n hx hb dX7_setFence_0 rfl (lv_at hl 0 rfl) ?_
  refine lv_aload_n hx hb dX7_setFence_1 rfl (lv_at hl 0 rfl) ?_
  refine lv_iload_n hx hb dX7_setFence_2 rfl (lv_at hl 1 rfl) ?_
  refine k_V (As := [.int (nI k)]) (rest := [.ref m0]) (pre := []) (mid := [oc m0 7 [.ref A0, .ref V0, .ref Z0, .int sm, .int th, .int pl, .int hz, .ref D0, .ref W0, .ref T0, .int tl, .int tw, .int tc], ac E A0 985 (mA h w wd s0 z st he ke tu ca tr co la)]) C0 (c_X7_isCell l E m0 A0 V0 Z0 D0 W0 T0 sm th pl hz tl tw tc h w wd s0 z st he ke tu ca tr co la (nI k) (by first | assumption | omega)) (cwV 1 hts gX7_setFence_X7_isCell rfl rfl rfl (by decide +kernel) ⟨Nat.le_of_ble_eq_true rfl, Nat.le_of_ble_eq_true rfl⟩) hw rfl (fun _ => [oc m0 7 [.ref A0, .ref V0, .ref Z0, .int sm, .int th, .int pl, .int hz, .ref D0, .ref W0, .ref T0, .int tl, .int tw, .int tc], ac E A0 985 (mA h w wd s0 z st he ke tu ca tr co la)]) (fun _ => rfl) 0 7 rfl rfl rfl rfl hl.1 rfl (Nat.le_of_ble_eq_true rfl) dX7_setFence_3 ⟨Nat.le_of_ble_eq_true rfl, Nat.le_of_ble_eq_true rfl⟩ (fun r u H locs hq99 hw => ?_)
  subst hq99
  have hw : kW E AA sx (List.flatten [oc m0 7 [.ref A0, .ref V0, .ref Z0, .int sm, .int th, .int pl, .int hz, .ref D0, .ref W0, .ref T0, .int tl, .int tw, .int tc], ac E A0 985 (mA h w wd s0 z st he ke tu ca tr co la)]) H locs := hw
  refine W.eq (g2 := F0 mm 6 ls [.int (if ¬ (nI k) < 0 ∧ ¬ nI (h * w - 1) < (nI k) then 1 else 0), .ref m0]) rfl ?_
  refine lv_iload_n hx hb dX7_setFence_6 rfl (lv_at hl 2 rfl) ?_
  refine lv_iconst (v := (-1)) hx hb dX7_setFence_7 (by decide) ?_
  refine lv_icmp_eq (tgt := 23) hx hb dX7_setFence_8 (by decide) (fun c8 => absurd c8 (fun h99 => hv (Or.inl h99))) (fun c8 => ?_)
  refine lv_iload_n hx hb dX7_setFence_11 rfl (lv_at hl 2 rfl) ?_
  refine lv_i2l (v := Int32.toInt64 v) hx hb dX7_setFence_12 rfl ?_
  refine lv_lconst (v := 1) hx hb dX7_setFence_13 (by decide) ?_
  refine lv_ldc2 (v := 50) hx hb hown (hts (.constantLong RX7 84 50) (by decide +kernel)) dX7_setFence_14 ?_
  refine k_S (As := [.long (Int32.toInt64 v), .long 1, .long 50]) (rest := [.int (if ¬ (nI k) < 0 ∧ ¬ nI (h * w - 1) < (nI k) then 1 else 0), .ref m0]) (pre := []) (mid := []) C0 (c_X7_in_1_50 l E v ) (va_cwS 3 hts gX7_setFence_X7_in rfl rfl rfl (by decide +kernel) ⟨Nat.le_of_ble_eq_true rfl, Nat.le_of_ble_eq_true rfl⟩) hw rfl (fun _ => []) (fun _ => rfl) rfl hl.1 rfl (Nat.le_of_ble_eq_true rfl) dX7_setFence_17 ⟨Nat.le_of_ble_eq_true rfl, Nat.le_of_ble_eq_true rfl⟩ (fun r u H locs hq99 hw => ?_)
  subst hq99
  have hw : kW E AA sx (List.flatten [oc m0 7 [.ref A0, .ref V0, .ref Z0, .int sm, .int th, .int pl, .int hz, .ref D0, .ref W0, .ref T0, .int tl, .int tw, .int tc], ac E A0 985 (mA h w wd s0 z st he ke tu ca tr co la)]) H locs := hw
  refine W.eq (g2 := F0 mm 20 ls [.int (if ¬ v < 1 ∧ ¬ 50 < v then 1 else 0), .int (if ¬ (nI k) < 0 ∧ ¬ nI (h * w - 1) < (nI k) then 1 else 0), .ref m0]) rfl ?_
  refine lv_if_eq (tgt := 27) hx hb dX7_setFence_20 (by decide) (fun c20 => ?_) (fun c20 => False.elim (hv (Or.inr (kb10f c20))))
  have c20 := kb10t c20
  refine lv_iconst (v := 0) hx hb dX7_setFence_27 (by decide) ?_
  refine k_V (As := [.int (if ¬ (nI k) < 0 ∧ ¬ nI (h * w - 1) < (nI k) then 1 else 0), .int 0]) (rest := []) (pre := []) (mid := [oc m0 7 [.ref A0, .ref V0, .ref Z0, .int sm, .int th, .int pl, .int hz, .ref D0, .ref W0, .ref T0, .int tl, .int tw, .int tc]]) C0 (c_X7_goes_2 l E m0 A0 V0 Z0 D0 W0 T0 sm th pl hz tl tw tc (if ¬ (nI k) < 0 ∧ ¬ nI (h * w - 1) < (nI k) then 1 else 0) 0 (kp10 (⟨nI_pos (by omega), nI_nlt (a := h * w - 1) (b := k) (by omega) (by omega)⟩)) (rfl)) (cwV 2 hts gX7_setFence_X7_goes rfl rfl rfl (by decide +kernel) ⟨Nat.le_of_ble_eq_true rfl, Nat.le_of_ble_eq_true rfl⟩) hw rfl (fun _ => [oc m0 7 [.ref A0, .ref V0, .ref Z0, .int sm, .int 2, .int pl, .int hz, .ref D0, .ref W0, .ref T0, .int tl, .int tw, .int tc]]) (fun _ => rfl) 0 7 rfl rfl rfl rfl hl.1 rfl (Nat.le_of_ble_eq_true rfl) dX7_setFence_28 ⟨Nat.le_of_ble_eq_true rfl, Nat.le_of_ble_eq_true rfl⟩ (fun r u H locs hq99 hw => ?_)
  subst r
  have hw : kW E AA sx (List.flatten [oc m0 7 [.ref A0, .ref V0, .ref Z0, .int sm, .int 2, .int pl, .int hz, .ref D0, .ref W0, .ref T0, .int tl, .int tw, .int tc], ac E A0 985 (mA h w wd s0 z st he ke tu ca tr co la)]) H locs := hw
  refine W.eq (g2 := F0 mm 31 ls [.int 0]) rfl ?_
  refine lv_if_ne (tgt := 36) hx hb dX7_setFence_31 (by decide) (fun c31 => absurd c31 (by decide)) (fun c31 => ?_)
  refine lv_iconst (v := 0) hx hb dX7_setFence_34 (by decide) ?_
  -- leaf 0
  exact k_iret C0 hr hlk hw () (rfl) (rfl) (Nat.le_of_ble_eq_true rfl) (Nat.le_of_ble_eq_true rfl) dX7_setFence_35

abbrev rmX7_isValue : Room := { frames := 1, cells := 0, slots := 0, locals := 25 }
set_option maxHeartbeats 4000000 in
set_option maxRecDepth 100000 in
theorem c_X7_isValue (l : Launch) (E : kE) (x : Int32) (v : Int32)  : kC E l yX7_isValue wsX7_isValue rmX7_isValue [.int x, .int v] (([] : va_W)) kI (fun (r : Int32) (_ : Unit) => r = if stB x v then 1 else 0) (fun _ => ([] : va_W)) 0 0 := by
  refine k_body (cc := cX7_isValue) (maxL := 2) (ret := (some .boolean)) (by decide) rfl (Nat.le_of_ble_eq_true rfl) ?_
  intro pp ee sx mm aa bb me cd H locs AA ls C0 hr hlk hnm hl hw
  obtain ⟨hx, hb, hml, hown, hts⟩ := id C0
  have hl : lv_has ls 2 [(0, .int x), (1, .int v)] := hl
  have hw : kW E AA sx (List.flatten []) H locs := hw
  refine lv_iload_n hx hb dX7_isValue_0 rfl (lv_at hl 0 rfl) ?_
  refine lv_if_ne (tgt := 16) hx hb dX7_isValue_1 (by decide) (fun c1 => ?_) (fun c1 => ?_)
  · refine lv_iload_n hx hb dX7_isValue_16 rfl (lv_at hl 0 rfl) ?_
    refine lv_iconst (v := 3) hx hb dX7_isValue_17 (by decide) ?_
    refine lv_icmp_ne (tgt := 33) hx hb dX7_isValue_18 (by decide) (fun c18 => ?_) (fun c18 => ?_)
    · refine lv_iload_n hx hb dX7_isValue_33 rfl (lv_at hl 0 rfl) ?_
      refine lv_i2l (v := Int32.toInt64 x) hx hb dX7_isValue_34 rfl ?_
      refine lv_lconst (v := 1) hx hb dX7_isValue_35 (by decide) ?_
      refine lv_ldc2 (v := 2) hx hb hown (hts (.constantLong RX7 93 2) (by decide +kernel)) dX7_isValue_36 ?_
      refine k_S (As := [.long (Int32.toInt64 x), .long 1, .long 2]) (rest := []) (pre := []) (mid := []) C0 (c_X7_in_1_2 l E x ) (va_cwS 3 hts gX7_isValue_X7_in rfl rfl rfl (by decide +kernel) ⟨Nat.le_of_ble_eq_true rfl, Nat.le_of_ble_eq_true rfl⟩) hw rfl (fun _ => []) (fun _ => rfl) rfl hl.1 rfl (Nat.le_of_ble_eq_true rfl) dX7_isValue_39 ⟨Nat.le_of_ble_eq_true rfl, Nat.le_of_ble_eq_true rfl⟩ (fun r u H locs hq99 hw => ?_)
      subst hq99
      have hw : kW E AA sx (List.flatten []) H locs := hw
      refine W.eq (g2 := F0 mm 42 ls [.int (if ¬ x < 1 ∧ ¬ 2 < x then 1 else 0)]) rfl ?_
      refine lv_if_eq (tgt := 61) hx hb dX7_isValue_42 (by decide) (fun c42 => ?_) (fun c42 => ?_)
      · have c42 := kb10t c42
        refine lv_iconst (v := 0) hx hb dX7_isValue_61 (by decide) ?_
        -- leaf 0
        exact k_zret C0 hr hlk hw () (rfl) (stV_o c1 c18 c42) (by first | rfl | exact knar) (Nat.le_of_ble_eq_true rfl) (Nat.le_of_ble_eq_true rfl) dX7_isValue_62
      · have c42 := kb10f c42
        refine lv_iload_n hx hb dX7_isValue_45 rfl (lv_at hl 1 rfl) ?_
        refine lv_i2l (v := Int32.toInt64 v) hx hb dX7_isValue_46 rfl ?_
        refine lv_lconst (v := 0) hx hb dX7_isValue_47 (by decide) ?_
        refine lv_ldc2 (v := 100) hx hb hown (hts (.constantLong RX7 82 100) (by decide +kernel)) dX7_isValue_48 ?_
        refine k_S (As := [.long (Int32.toInt64 v), .long 0, .long 100]) (rest := []) (pre := []) (mid := []) C0 (c_X7_in_0_100 l E v ) (va_cwS 3 hts gX7_isValue_X7_in rfl rfl rfl (by decide +kernel) ⟨Nat.le_of_ble_eq_true rfl, Nat.le_of_ble_eq_true rfl⟩) hw rfl (fun _ => []) (fun _ => rfl) rfl hl.1 rfl (Nat.le_of_ble_eq_true rfl) dX7_isValue_51 ⟨Nat.le_of_ble_eq_true rfl, Nat.le_of_ble_eq_true rfl⟩ (fun r u H locs hq99 hw => ?_)
        subst hq99
        have hw : kW E AA sx (List.flatten []) H locs := hw
        refine W.eq (g2 := F0 mm 54 ls [.int (if ¬ v < 0 ∧ ¬ 100 < v then 1 else 0)]) rfl ?_
        refine lv_if_eq (tgt := 61) hx hb dX7_isValue_54 (by decide) (fun c54 => ?_) (fun c54 => ?_)
        · have c54 := kb10t c54
          refine lv_iconst (v := 0) hx hb dX7_isValue_61 (by decide) ?_
          -- leaf 1
          exact k_zret C0 hr hlk hw () (rfl) (stV_n c1 c42 c54) (by first | rfl | exact knar) (Nat.le_of_ble_eq_true rfl) (Nat.le_of_ble_eq_true rfl) dX7_isValue_62
        · have c54 := kb10f c54
          refine lv_iconst (v := 1) hx hb dX7_isValue_57 (by decide) ?_
          refine lv_goto (tgt := 62) hx hb dX7_isValue_58 (by decide) ?_
          -- leaf 2
          exact k_zret C0 hr hlk hw () (rfl) (stV_y c1 c42 c54) (by first | rfl | exact knar) (Nat.le_of_ble_eq_true rfl) (Nat.le_of_ble_eq_true rfl) dX7_isValue_62
    · refine lv_iload_n hx hb dX7_isValue_21 rfl (lv_at hl 1 rfl) ?_
      refine lv_i2l (v := Int32.toInt64 v) hx hb dX7_isValue_22 rfl ?_
      refine lv_lconst (v := 1) hx hb dX7_isValue_23 (by decide) ?_
      refine lv_ldc2 (v := 5) hx hb hown (hts (.constantLong RX7 91 5) (by decide +kernel)) dX7_isValue_24 ?_
      refine k_S (As := [.long (Int32.toInt64 v), .long 1, .long 5]) (rest := []) (pre := []) (mid := []) C0 (c_X7_in_1_5 l E v ) (va_cwS 3 hts gX7_isValue_X7_in rfl rfl rfl (by decide +kernel) ⟨Nat.le_of_ble_eq_true rfl, Nat.le_of_ble_eq_true rfl⟩) hw rfl (fun _ => []) (fun _ => rfl) rfl hl.1 rfl (Nat.le_of_ble_eq_true rfl) dX7_isValue_27 ⟨Nat.le_of_ble_eq_true rfl, Nat.le_of_ble_eq_true rfl⟩ (fun r u H locs hq99 hw => ?_)
      subst hq99
      have hw : kW E AA sx (List.flatten []) H locs := hw
      refine W.eq (g2 := F0 mm 30 ls [.int (if ¬ v < 1 ∧ ¬ 5 < v then 1 else 0)]) rfl ?_
      refine lv_goto (tgt := 62) hx hb dX7_isValue_30 (by decide) ?_
      -- leaf 3
      exact k_zret C0 hr hlk hw () (rfl) (stV_3 c18) (by first | rfl | exact knar) (Nat.le_of_ble_eq_true rfl) (Nat.le_of_ble_eq_true rfl) dX7_isValue_62
  · refine lv_iload_n hx hb dX7_isValue_4 rfl (lv_at hl 1 rfl) ?_
    refine lv_i2l (v := Int32.toInt64 v) hx hb dX7_isValue_5 rfl ?_
    refine lv_lconst (v := 1) hx hb dX7_isValue_6 (by decide) ?_
    refine lv_ldc2 (v := 8) hx hb hown (hts (.constantLong RX7 89 8) (by decide +kernel)) dX7_isValue_7 ?_
    refine k_S (As := [.long (Int32.toInt64 v), .long 1, .long 8]) (rest := []) (pre := []) (mid := []) C0 (c_X7_in_1_8 l E v ) (va_cwS 3 hts gX7_isValue_X7_in rfl rfl rfl (by decide +kernel) ⟨Nat.le_of_ble_eq_true rfl, Nat.le_of_ble_eq_true rfl⟩) hw rfl (fun _ => []) (fun _ => rfl) rfl hl.1 rfl (Nat.le_of_ble_eq_true rfl) dX7_isValue_10 ⟨Nat.le_of_ble_eq_true rfl, Nat.le_of_ble_eq_true rfl⟩ (fun r u H locs hq99 hw => ?_)
    subst hq99
    have hw : kW E AA sx (List.flatten []) H locs := hw
    refine W.eq (g2 := F0 mm 13 ls [.int (if ¬ v < 1 ∧ ¬ 8 < v then 1 else 0)]) rfl ?_
    refine lv_goto (tgt := 62) hx hb dX7_isValue_13 (by decide) ?_
    -- leaf 4
    exact k_zret C0 hr hlk hw () (rfl) (stV_0 c1) (by first | rfl | exact knar) (Nat.le_of_ble_eq_true rfl) (Nat.le_of_ble_eq_true rfl) dX7_isValue_62

abbrev rmX7_set : Room := { frames := 2, cells := 0, slots := 0, locals := 46 }
set_option maxHeartbeats 4000000 in
set_option maxRecDepth 100000 in
theorem c_X7_set_ok (l : Launch) (E : kE) (m0 : Nat) (A0 : Nat) (V0 : Nat) (Z0 : Nat) (D0 : Nat) (W0 : Nat) (T0 : Nat) (th : Int32) (pl : Int32) (hz : Int32) (tl : Int32) (tw : Int32) (tc : Int32) (h : Nat) (w : Nat) (k9 : Nat) (wd : Int32) (s0 : Int32) (z : Int32) (st : Nat → Int32) (he : Nat → Int32) (ke : Nat → Int32) (tu : Nat → Int32) (ca : Nat → Int32) (tr : Nat → Int32) (co : Nat → Int32) (la : Nat → Int32) (V : Nat → Int32) (j9 : Nat) (v : Int32) (hj9 : j9 < 4) (hv : stB (nI j9) v = true) (hk9 : k9 ≤ 4) : kC E l yX7_set wsX7_set rmX7_set [.ref m0, .int (nI j9), .int v] (List.flatten [oc m0 7 [.ref A0, .ref V0, .ref Z0, .int (nI k9), .int th, .int pl, .int hz, .ref D0, .ref W0, .ref T0, .int tl, .int tw, .int tc], ac E A0 985 (mA h w wd s0 z st he ke tu ca tr co la), ac E V0 3940 V]) kI (fun (r : Int32) (_ : Unit) => r = st j9) (fun _ => List.flatten [oc m0 7 [.ref A0, .ref V0, .ref Z0, .int (nI (svK k9)), .int 0, .int pl, .int hz, .ref D0, .ref W0, .ref T0, .int tl, .int tw, .int tc], ac E A0 985 (mA h w wd s0 z (upd st j9 v) he ke tu ca tr co la), ac E V0 3940 (svA V (mA h w wd s0 z st he ke tu ca tr co la) k9)]) 0 0 := by
  refine k_body (cc := cX7_set) (maxL := 4) (ret := (some .int)) (by decide) rfl (Nat.le_of_ble_eq_true rfl) ?_
  intro pp ee sx mm aa bb me cd H locs AA ls C0 hr hlk hnm hl hw
  obtain ⟨hx, hb, hml, hown, hts⟩ := id C0
  have hl : lv_has ls 4 [(0, .ref m0), (1, .int (nI j9)), (2, .int v)] := hl
  have hw : kW E AA sx (List.flatten [oc m0 7 [.ref A0, .ref V0, .ref Z0, .int (nI k9), .int th, .int pl, .int hz, .ref D0, .ref W0, .ref T0, .int tl, .int tw, .int tc], ac E A0 985 (mA h w wd s0 z st he ke tu ca tr co la), ac E V0 3940 V]) H locs := hw
  have hinX7 : ∀ w ∈ u_ws RX7 TX7 13, w ∈ wsX7_set := by decide +kernel
  refine lv_aload_n hx hb dX7_set_0 rfl (lv_at hl 0 rfl) ?_
  refine lv_iload_n hx hb dX7_set_1 rfl (lv_at hl 1 rfl) ?_
  refine lv_iload_n hx hb dX7_set_2 rfl (lv_at hl 2 rfl) ?_
  refine k_S (As := [.int (nI j9), .int v]) (rest := [.ref m0]) (pre := []) (mid := []) C0 (c_X7_isValue l E (nI j9) v ) (va_cwS 2 hts gX7_set_X7_isValue rfl rfl rfl (by decide +kernel) ⟨Nat.le_of_ble_eq_true rfl, Nat.le_of_ble_eq_true rfl⟩) hw rfl (fun _ => []) (fun _ => rfl) rfl hl.1 rfl (Nat.le_of_ble_eq_true rfl) dX7_set_3 ⟨Nat.le_of_ble_eq_true rfl, Nat.le_of_ble_eq_true rfl⟩ (fun r u H locs hq99 hw => ?_)
  subst hq99
  have hw : kW E AA sx (List.flatten [oc m0 7 [.ref A0, .ref V0, .ref Z0, .int (nI k9), .int th, .int pl, .int hz, .ref D0, .ref W0, .ref T0, .int tl, .int tw, .int tc], ac E A0 985 (mA h w wd s0 z st he ke tu ca tr co la), ac E V0 3940 V]) H locs := hw
  refine W.eq (g2 := F0 mm 6 ls [.int (if stB (nI j9) v then 1 else 0), .ref m0]) rfl ?_
  refine lv_iconst (v := 1) hx hb dX7_set_6 (by decide) ?_
  refine k_V (As := [.int (if stB (nI j9) v then 1 else 0), .int 1]) (rest := []) (pre := []) (mid := [oc m0 7 [.ref A0, .ref V0, .ref Z0, .int (nI k9), .int th, .int pl, .int hz, .ref D0, .ref W0, .ref T0, .int tl, .int tw, .int tc]]) C0 (c_X7_goes_ok l E m0 A0 V0 Z0 D0 W0 T0 (nI k9) th pl hz tl tw tc (if stB (nI j9) v then 1 else 0) 1 (kp10 (hv)) (by decide)) (cwV 2 hts gX7_set_X7_goes rfl rfl rfl (by decide +kernel) ⟨Nat.le_of_ble_eq_true rfl, Nat.le_of_ble_eq_true rfl⟩) hw rfl (fun _ => [oc m0 7 [.ref A0, .ref V0, .ref Z0, .int (nI k9), .int 0, .int pl, .int hz, .ref D0, .ref W0, .ref T0, .int tl, .int tw, .int tc]]) (fun _ => rfl) 0 7 rfl rfl rfl rfl hl.1 rfl (Nat.le_of_ble_eq_true rfl) dX7_set_7 ⟨Nat.le_of_ble_eq_true rfl, Nat.le_of_ble_eq_true rfl⟩ (fun r u H locs hq99 hw => ?_)
  subst r
  have hw : kW E AA sx (List.flatten [oc m0 7 [.ref A0, .ref V0, .ref Z0, .int (nI k9), .int 0, .int pl, .int hz, .ref D0, .ref W0, .ref T0, .int tl, .int tw, .int tc], ac E A0 985 (mA h w wd s0 z st he ke tu ca tr co la), ac E V0 3940 V]) H locs := hw
  refine W.eq (g2 := F0 mm 10 ls [.int 1]) rfl ?_
  refine lv_if_ne (tgt := 15) hx hb dX7_set_10 (by decide) (fun c10 => ?_) (fun c10 => absurd c10 (by decide))
  refine lv_aload_n hx hb dX7_set_15 rfl (lv_at hl 0 rfl) ?_
  refine k_V (As := []) (rest := []) (pre := []) (mid := [oc m0 7 [.ref A0, .ref V0, .ref Z0, .int (nI k9), .int 0, .int pl, .int hz, .ref D0, .ref W0, .ref T0, .int tl, .int tw, .int tc], ac E A0 985 (mA h w wd s0 z st he ke tu ca tr co la), ac E V0 3940 V]) C0 (c_X7_save l E m0 A0 V0 Z0 D0 W0 T0 0 pl hz tl tw tc k9 (mA h w wd s0 z st he ke tu ca tr co la) V (by first | assumption | omega)) (cwV 0 hts gX7_set_X7_save rfl rfl rfl (by decide +kernel) ⟨Nat.le_of_ble_eq_true rfl, Nat.le_of_ble_eq_true rfl⟩) hw rfl (fun _ => [oc m0 7 [.ref A0, .ref V0, .ref Z0, .int (nI (svK k9)), .int 0, .int pl, .int hz, .ref D0, .ref W0, .ref T0, .int tl, .int tw, .int tc], ac E A0 985 (mA h w wd s0 z st he ke tu ca tr co la), ac E V0 3940 (svA V (mA h w wd s0 z st he ke tu ca tr co la) k9)]) (fun _ => rfl) 0 7 rfl rfl rfl rfl hl.1 rfl (Nat.le_of_ble_eq_true rfl) dX7_set_16 ⟨Nat.le_of_ble_eq_true rfl, Nat.le_of_ble_eq_true rfl⟩ (fun r u H locs hq99 hw => ?_)
  have hw : kW E AA sx (List.flatten [oc m0 7 [.ref A0, .ref V0, .ref Z0, .int (nI (svK k9)), .int 0, .int pl, .int hz, .ref D0, .ref W0, .ref T0, .int tl, .int tw, .int tc], ac E A0 985 (mA h w wd s0 z st he ke tu ca tr co la), ac E V0 3940 (svA V (mA h w wd s0 z st he ke tu ca tr co la) k9)]) H locs := hw
  refine W.eq (g2 := F0 mm 19 ls []) rfl ?_
  refine lv_aload_n hx hb dX7_set_19 rfl (lv_at hl 0 rfl) ?_
  refine k_get (pre := []) C0 hw hinX7 rfl 0 (by decide) (hts (.fieldLink RX7 7 "SlabDunesModel" "all" "[I") (by decide +kernel)) rfl rfl dX7_set_20 ?_
  refine lv_iload_n hx hb dX7_set_23 rfl (lv_at hl 1 rfl) ?_
  refine k_iald (pre := [oc m0 7 [.ref A0, .ref V0, .ref Z0, .int (nI (svK k9)), .int 0, .int pl, .int hz, .ref D0, .ref W0, .ref T0, .int tl, .int tw, .int tc]]) (l1 := []) C0 hw (i := nI j9) (kinN (by omega) (by decide)) dX7_set_24 ?_
  refine W.eq (g2 := F0 mm 25 ls [.int (st j9)]) (congrArg (fun z9 => F0 mm 25 ls [.int z9]) (show ((mA h w wd s0 z st he ke tu ca tr co la) (Int32.toNatClampNeg (nI j9)) : Int32) = st j9 from mA_st hj9)) ?_
  refine lv_istore_n (lv' := [(3, .int (st j9)), (0, .ref m0), (1, .int (nI j9)), (2, .int v)]) hx hb dX7_set_25 rfl hl (by decide) rfl (fun ls hl => ?_)
  refine lv_aload_n hx hb dX7_set_26 rfl (lv_at hl 1 rfl) ?_
  refine k_get (pre := []) C0 hw hinX7 rfl 0 (by decide) (hts (.fieldLink RX7 7 "SlabDunesModel" "all" "[I") (by decide +kernel)) rfl rfl dX7_set_27 ?_
  refine lv_iload_n hx hb dX7_set_30 rfl (lv_at hl 2 rfl) ?_
  refine lv_iload_n hx hb dX7_set_31 rfl (lv_at hl 3 rfl) ?_
  refine k_iast (pre := [oc m0 7 [.ref A0, .ref V0, .ref Z0, .int (nI (svK k9)), .int 0, .int pl, .int hz, .ref D0, .ref W0, .ref T0, .int tl, .int tw, .int tc]]) (l1 := []) C0 hw (i := nI j9) (kinN (by omega) (by decide)) dX7_set_32 (fun H locs hw => ?_)
  have hw : kW E AA sx (List.flatten [oc m0 7 [.ref A0, .ref V0, .ref Z0, .int (nI (svK k9)), .int 0, .int pl, .int hz, .ref D0, .ref W0, .ref T0, .int tl, .int tw, .int tc], ac E A0 985 (upd (mA h w wd s0 z st he ke tu ca tr co la) (Int32.toNatClampNeg (nI j9)) v), ac E V0 3940 (svA V (mA h w wd s0 z st he ke tu ca tr co la) k9)]) H locs := hw
  have hw : kW E AA sx (List.flatten [oc m0 7 [.ref A0, .ref V0, .ref Z0, .int (nI (svK k9)), .int 0, .int pl, .int hz, .ref D0, .ref W0, .ref T0, .int tl, .int tw, .int tc], ac E A0 985 (mA h w wd s0 z (upd st j9 v) he ke tu ca tr co la), ac E V0 3940 (svA V (mA h w wd s0 z st he ke tu ca tr co la) k9)]) H locs := kW.arr (pre := [oc m0 7 [.ref A0, .ref V0, .ref Z0, .int (nI (svK k9)), .int 0, .int pl, .int hz, .ref D0, .ref W0, .ref T0, .int tl, .int tw, .int tc]]) (l1 := []) hw (fun j _ => mA_wst hj9 j)
  refine lv_iload_n hx hb dX7_set_33 rfl (lv_at hl 0 rfl) ?_
  -- leaf 0
  exact k_iret C0 hr hlk hw () (rfl) (rfl) (Nat.le_of_ble_eq_true rfl) (Nat.le_of_ble_eq_true rfl) dX7_set_34

set_option maxHeartbeats 4000000 in
set_option maxRecDepth 100000 in
theorem c_X7_set_x1 (l : Launch) (E : kE) (m0 : Nat) (A0 : Nat) (V0 : Nat) (Z0 : Nat) (D0 : Nat) (W0 : Nat) (T0 : Nat) (sm : Int32) (th : Int32) (pl : Int32) (hz : Int32) (tl : Int32) (tw : Int32) (tc : Int32) (h : Nat) (w : Nat) (wd : Int32) (s0 : Int32) (z : Int32) (st : Nat → Int32) (he : Nat → Int32) (ke : Nat → Int32) (tu : Nat → Int32) (ca : Nat → Int32) (tr : Nat → Int32) (co : Nat → Int32) (la : Nat → Int32) (x : Int32) (v : Int32) (hv : ¬ stB x v = true) : kC E l yX7_set wsX7_set rmX7_set [.ref m0, .int x, .int v] (List.flatten [oc m0 7 [.ref A0, .ref V0, .ref Z0, .int sm, .int th, .int pl, .int hz, .ref D0, .ref W0, .ref T0, .int tl, .int tw, .int tc], ac E A0 985 (mA h w wd s0 z st he ke tu ca tr co la)]) kI (fun (r : Int32) (_ : Unit) => r = 0) (fun _ => List.flatten [oc m0 7 [.ref A0, .ref V0, .ref Z0, .int sm, .int 1, .int pl, .int hz, .ref D0, .ref W0, .ref T0, .int tl, .int tw, .int tc], ac E A0 985 (mA h w wd s0 z st he ke tu ca tr co la)]) 0 0 := by
  refine k_body (cc := cX7_set) (maxL := 4) (ret := (some .int)) (by decide) rfl (Nat.le_of_ble_eq_true rfl) ?_
  intro pp ee sx mm aa bb me cd H locs AA ls C0 hr hlk hnm hl hw
  obtain ⟨hx, hb, hml, hown, hts⟩ := id C0
  have hl : lv_has ls 4 [(0, .ref m0), (1, .int x), (2, .int v)] := hl
  have hw : kW E AA sx (List.flatten [oc m0 7 [.ref A0, .ref V0, .ref Z0, .int sm, .int th, .int pl, .int hz, .ref D0, .ref W0, .ref T0, .int tl, .int tw, .int tc], ac E A0 985 (mA h w wd s0 z st he ke tu ca tr co la)]) H locs := hw
  refine lv_aload_n hx hb dX7_set_0 rfl (lv_at hl 0 rfl) ?_
  refine lv_iload_n hx hb dX7_set_1 rfl (lv_at hl 1 rfl) ?_
  refine lv_iload_n hx hb dX7_set_2 rfl (lv_at hl 2 rfl) ?_
  refine k_S (As := [.int x, .int v]) (rest := [.ref m0]) (pre := []) (mid := []) C0 (c_X7_isValue l E x v ) (va_cwS 2 hts gX7_set_X7_isValue rfl rfl rfl (by decide +kernel) ⟨Nat.le_of_ble_eq_true rfl, Nat.le_of_ble_eq_true rfl⟩) hw rfl (fun _ => []) (fun _ => rfl) rfl hl.1 rfl (Nat.le_of_ble_eq_true rfl) dX7_set_3 ⟨Nat.le_of_ble_eq_true rfl, Nat.le_of_ble_eq_true rfl⟩ (fun r u H locs hq99 hw => ?_)
  subst hq99
  have hw : kW E AA sx (List.flatten [oc m0 7 [.ref A0, .ref V0, .ref Z0, .int sm, .int th, .int pl, .int hz, .ref D0, .ref W0, .ref T0, .int tl, .int tw, .int tc], ac E A0 985 (mA h w wd s0 z st he ke tu ca tr co la)]) H locs := hw
  refine W.eq (g2 := F0 mm 6 ls [.int (if stB x v then 1 else 0), .ref m0]) rfl ?_
  refine lv_iconst (v := 1) hx hb dX7_set_6 (by decide) ?_
  refine k_V (As := [.int (if stB x v then 1 else 0), .int 1]) (rest := []) (pre := []) (mid := [oc m0 7 [.ref A0, .ref V0, .ref Z0, .int sm, .int th, .int pl, .int hz, .ref D0, .ref W0, .ref T0, .int tl, .int tw, .int tc]]) C0 (c_X7_goes_1 l E m0 A0 V0 Z0 D0 W0 T0 sm th pl hz tl tw tc (if stB x v then 1 else 0) 1 (kn10 (hv))) (cwV 2 hts gX7_set_X7_goes rfl rfl rfl (by decide +kernel) ⟨Nat.le_of_ble_eq_true rfl, Nat.le_of_ble_eq_true rfl⟩) hw rfl (fun _ => [oc m0 7 [.ref A0, .ref V0, .ref Z0, .int sm, .int 1, .int pl, .int hz, .ref D0, .ref W0, .ref T0, .int tl, .int tw, .int tc]]) (fun _ => rfl) 0 7 rfl rfl rfl rfl hl.1 rfl (Nat.le_of_ble_eq_true rfl) dX7_set_7 ⟨Nat.le_of_ble_eq_true rfl, Nat.le_of_ble_eq_true rfl⟩ (fun r u H locs hq99 hw => ?_)
  subst r
  have hw : kW E AA sx (List.flatten [oc m0 7 [.ref A0, .ref V0, .ref Z0, .int sm, .int 1, .int pl, .int hz, .ref D0, .ref W0, .ref T0, .int tl, .int tw, .int tc], ac E A0 985 (mA h w wd s0 z st he ke tu ca tr co la)]) H locs := hw
  refine W.eq (g2 := F0 mm 10 ls [.int 0]) rfl ?_
  refine lv_if_ne (tgt := 15) hx hb dX7_set_10 (by decide) (fun c10 => absurd c10 (by decide)) (fun c10 => ?_)
  refine lv_iconst (v := 0) hx hb dX7_set_13 (by decide) ?_
  -- leaf 0
  exact k_iret C0 hr hlk hw () (rfl) (rfl) (Nat.le_of_ble_eq_true rfl) (Nat.le_of_ble_eq_true rfl) dX7_set_14

abbrev rmX7_setWind : Room := { frames := 1, cells := 0, slots := 0, locals := 25 }
set_option maxHeartbeats 4000000 in
set_option maxRecDepth 100000 in
theorem c_X7_setWind_ok1 (l : Launch) (E : kE) (m0 : Nat) (A0 : Nat) (V0 : Nat) (Z0 : Nat) (D0 : Nat) (W0 : Nat) (T0 : Nat) (th : Int32) (pl : Int32) (hz : Int32) (tl : Int32) (tw : Int32) (tc : Int32) (h : Nat) (w : Nat) (k9 : Nat) (wd : Int32) (s0 : Int32) (z : Int32) (st : Nat → Int32) (he : Nat → Int32) (ke : Nat → Int32) (tu : Nat → Int32) (ca : Nat → Int32) (tr : Nat → Int32) (co : Nat → Int32) (la : Nat → Int32) (V : Nat → Int32) (d2 : Nat) (v : Int32) (hd2 : d2 < 4) (hv : v = -1) (hk9 : k9 ≤ 4) : kC E l yX7_setWind wsX7_setWind rmX7_setWind [.ref m0, .int (nI d2), .int v] (List.flatten [oc m0 7 [.ref A0, .ref V0, .ref Z0, .int (nI k9), .int th, .int pl, .int hz, .ref D0, .ref W0, .ref T0, .int tl, .int tw, .int tc], ac E A0 985 (mA h w wd s0 z st he ke tu ca tr co la), ac E V0 3940 V]) kI (fun (r : Int32) (_ : Unit) => r = wd) (fun _ => List.flatten [oc m0 7 [.ref A0, .ref V0, .ref Z0, .int (nI (svK k9)), .int 0, .int pl, .int hz, .ref D0, .ref W0, .ref T0, .int tl, .int tw, .int tc], ac E A0 985 (mA h w (nI d2) s0 z st he ke tu ca tr co la), ac E V0 3940 (svA V (mA h w wd s0 z st he ke tu ca tr co la) k9)]) 0 0 := by
  refine k_body (cc := cX7_setWind) (maxL := 4) (ret := (some .int)) (by decide) rfl (Nat.le_of_ble_eq_true rfl) ?_
  intro pp ee sx mm aa bb me cd H locs AA ls C0 hr hlk hnm hl hw
  obtain ⟨hx, hb, hml, hown, hts⟩ := id C0
  have hl : lv_has ls 4 [(0, .ref m0), (1, .int (nI d2)), (2, .int v)] := hl
  have hw : kW E AA sx (List.flatten [oc m0 7 [.ref A0, .ref V0, .ref Z0, .int (nI k9), .int th, .int pl, .int hz, .ref D0, .ref W0, .ref T0, .int tl, .int tw, .int tc], ac E A0 985 (mA h w wd s0 z st he ke tu ca tr co la), ac E V0 3940 V]) H locs := hw
  have hinX7 : ∀ w ∈ u_ws RX7 TX7 13, w ∈ wsX7_setWind := by decide +kernel
  refine lv_aload_n hx hb dX7_setWind_0 rfl (lv_at hl 0 rfl) ?_
  refine lv_iload_n hx hb dX7_setWind_1 rfl (lv_at hl 1 rfl) ?_
  refine lv_i2l (v := Int32.toInt64 (nI d2)) hx hb dX7_setWind_2 rfl ?_
  refine lv_lconst (v := 0) hx hb dX7_setWind_3 (by decide) ?_
  refine lv_ldc2 (v := 3) hx hb hown (hts (.constantLong RX7 58 3) (by decide +kernel)) dX7_setWind_4 ?_
  refine k_S (As := [.long (Int32.toInt64 (nI d2)), .long 0, .long 3]) (rest := [.ref m0]) (pre := []) (mid := []) C0 (c_X7_in_0_3 l E (nI d2) ) (va_cwS 3 hts gX7_setWind_X7_in rfl rfl rfl (by decide +kernel) ⟨Nat.le_of_ble_eq_true rfl, Nat.le_of_ble_eq_true rfl⟩) hw rfl (fun _ => []) (fun _ => rfl) rfl hl.1 rfl (Nat.le_of_ble_eq_true rfl) dX7_setWind_7 ⟨Nat.le_of_ble_eq_true rfl, Nat.le_of_ble_eq_true rfl⟩ (fun r u H locs hq99 hw => ?_)
  subst hq99
  have hw : kW E AA sx (List.flatten [oc m0 7 [.ref A0, .ref V0, .ref Z0, .int (nI k9), .int th, .int pl, .int hz, .ref D0, .ref W0, .ref T0, .int tl, .int tw, .int tc], ac E A0 985 (mA h w wd s0 z st he ke tu ca tr co la), ac E V0 3940 V]) H locs := hw
  refine W.eq (g2 := F0 mm 10 ls [.int (if ¬ (nI d2) < 0 ∧ ¬ 3 < (nI d2) then 1 else 0), .ref m0]) rfl ?_
  refine lv_if_eq (tgt := 31) hx hb dX7_setWind_10 (by decide) (fun c10 => absurd c10 (kp10 (⟨nI_pos (by omega), nI_nlt (a := 3) (b := d2) (by omega) (by omega)⟩))) (fun c10 => ?_)
  have c10 := kb10f c10
  refine lv_iload_n hx hb dX7_setWind_13 rfl (lv_at hl 2 rfl) ?_
  refine lv_i2l (v := Int32.toInt64 v) hx hb dX7_setWind_14 rfl ?_
  refine lv_ldc2 (v := (-1)) hx hb hown (hts (.constantLong RX7 99 (-1)) (by decide +kernel)) dX7_setWind_15 ?_
  refine lv_ldc2 (v := 999999) hx hb hown (hts (.constantLong RX7 101 999999) (by decide +kernel)) dX7_setWind_18 ?_
  refine k_S (As := [.long (Int32.toInt64 v), .long (-1), .long 999999]) (rest := [.ref m0]) (pre := []) (mid := []) C0 (c_X7_in_m1_999999 l E v ) (va_cwS 3 hts gX7_setWind_X7_in rfl rfl rfl (by decide +kernel) ⟨Nat.le_of_ble_eq_true rfl, Nat.le_of_ble_eq_true rfl⟩) hw rfl (fun _ => []) (fun _ => rfl) rfl hl.1 rfl (Nat.le_of_ble_eq_true rfl) dX7_setWind_21 ⟨Nat.le_of_ble_eq_true rfl, Nat.le_of_ble_eq_true rfl⟩ (fun r u H locs hq99 hw => ?_)
  subst hq99
  have hw : kW E AA sx (List.flatten [oc m0 7 [.ref A0, .ref V0, .ref Z0, .int (nI k9), .int th, .int pl, .int hz, .ref D0, .ref W0, .ref T0, .int tl, .int tw, .int tc], ac E A0 985 (mA h w wd s0 z st he ke tu ca tr co la), ac E V0 3940 V]) H locs := hw
  refine W.eq (g2 := F0 mm 24 ls [.int (if ¬ v < (-1) ∧ ¬ 999999 < v then 1 else 0), .ref m0]) rfl ?_
  refine lv_if_eq (tgt := 31) hx hb dX7_setWind_24 (by decide) (fun c24 => absurd c24 (kp10 (by rw [hv]; decide))) (fun c24 => ?_)
  have c24 := kb10f c24
  refine lv_iconst (v := 1) hx hb dX7_setWind_27 (by decide) ?_
  refine lv_goto (tgt := 32) hx hb dX7_setWind_28 (by decide) ?_
  refine lv_iconst (v := 1) hx hb dX7_setWind_32 (by decide) ?_
  refine k_V (As := [.int 1, .int 1]) (rest := []) (pre := []) (mid := [oc m0 7 [.ref A0, .ref V0, .ref Z0, .int (nI k9), .int th, .int pl, .int hz, .ref D0, .ref W0, .ref T0, .int tl, .int tw, .int tc]]) C0 (c_X7_goes_ok l E m0 A0 V0 Z0 D0 W0 T0 (nI k9) th pl hz tl tw tc 1 1 (by decide) (by decide)) (cwV 2 hts gX7_setWind_X7_goes rfl rfl rfl (by decide +kernel) ⟨Nat.le_of_ble_eq_true rfl, Nat.le_of_ble_eq_true rfl⟩) hw rfl (fun _ => [oc m0 7 [.ref A0, .ref V0, .ref Z0, .int (nI k9), .int 0, .int pl, .int hz, .ref D0, .ref W0, .ref T0, .int tl, .int tw, .int tc]]) (fun _ => rfl) 0 7 rfl rfl rfl rfl hl.1 rfl (Nat.le_of_ble_eq_true rfl) dX7_setWind_33 ⟨Nat.le_of_ble_eq_true rfl, Nat.le_of_ble_eq_true rfl⟩ (fun r u H locs hq99 hw => ?_)
  subst r
  have hw : kW E AA sx (List.flatten [oc m0 7 [.ref A0, .ref V0, .ref Z0, .int (nI k9), .int 0, .int pl, .int hz, .ref D0, .ref W0, .ref T0, .int tl, .int tw, .int tc], ac E A0 985 (mA h w wd s0 z st he ke tu ca tr co la), ac E V0 3940 V]) H locs := hw
  refine W.eq (g2 := F0 mm 36 ls [.int 1]) rfl ?_
  refine lv_if_ne (tgt := 41) hx hb dX7_setWind_36 (by decide) (fun c36 => ?_) (fun c36 => absurd c36 (by decide))
  refine lv_aload_n hx hb dX7_setWind_41 rfl (lv_at hl 0 rfl) ?_
  refine k_V (As := []) (rest := []) (pre := []) (mid := [oc m0 7 [.ref A0, .ref V0, .ref Z0, .int (nI k9), .int 0, .int pl, .int hz, .ref D0, .ref W0, .ref T0, .int tl, .int tw, .int tc], ac E A0 985 (mA h w wd s0 z st he ke tu ca tr co la), ac E V0 3940 V]) C0 (c_X7_save l E m0 A0 V0 Z0 D0 W0 T0 0 pl hz tl tw tc k9 (mA h w wd s0 z st he ke tu ca tr co la) V (by first | assumption | omega)) (cwV 0 hts gX7_setWind_X7_save rfl rfl rfl (by decide +kernel) ⟨Nat.le_of_ble_eq_true rfl, Nat.le_of_ble_eq_true rfl⟩) hw rfl (fun _ => [oc m0 7 [.ref A0, .ref V0, .ref Z0, .int (nI (svK k9)), .int 0, .int pl, .int hz, .ref D0, .ref W0, .ref T0, .int tl, .int tw, .int tc], ac E A0 985 (mA h w wd s0 z st he ke tu ca tr co la), ac E V0 3940 (svA V (mA h w wd s0 z st he ke tu ca tr co la) k9)]) (fun _ => rfl) 0 7 rfl rfl rfl rfl hl.1 rfl (Nat.le_of_ble_eq_true rfl) dX7_setWind_42 ⟨Nat.le_of_ble_eq_true rfl, Nat.le_of_ble_eq_true rfl⟩ (fun r u H locs hq99 hw => ?_)
  have hw : kW E AA sx (List.flatten [oc m0 7 [.ref A0, .ref V0, .ref Z0, .int (nI (svK k9)), .int 0, .int pl, .int hz, .ref D0, .ref W0, .ref T0, .int tl, .int tw, .int tc], ac E A0 985 (mA h w wd s0 z st he ke tu ca tr co la), ac E V0 3940 (svA V (mA h w wd s0 z st he ke tu ca tr co la) k9)]) H locs := hw
  refine W.eq (g2 := F0 mm 45 ls []) rfl ?_
  refine lv_aload_n hx hb dX7_setWind_45 rfl (lv_at hl 0 rfl) ?_
  refine k_get (pre := []) C0 hw hinX7 rfl 0 (by decide) (hts (.fieldLink RX7 7 "SlabDunesModel" "all" "[I") (by decide +kernel)) rfl rfl dX7_setWind_46 ?_
  refine lv_bipush (v := 6) hx hb dX7_setWind_49 (by decide) ?_
  refine k_iald (pre := [oc m0 7 [.ref A0, .ref V0, .ref Z0, .int (nI (svK k9)), .int 0, .int pl, .int hz, .ref D0, .ref W0, .ref T0, .int tl, .int tw, .int tc]]) (l1 := []) C0 hw (i := 6) (kinN (n := 6) (by decide) (by decide)) dX7_setWind_51 ?_
  refine W.eq (g2 := F0 mm 52 ls [.int wd]) (congrArg (fun z9 => F0 mm 52 ls [.int z9]) (show ((mA h w wd s0 z st he ke tu ca tr co la) (Int32.toNatClampNeg 6) : Int32) = wd from rfl)) ?_
  refine lv_istore_n (lv' := [(3, .int wd), (0, .ref m0), (1, .int (nI d2)), (2, .int v)]) hx hb dX7_setWind_52 rfl hl (by decide) rfl (fun ls hl => ?_)
  refine lv_aload_n hx hb dX7_setWind_53 rfl (lv_at hl 1 rfl) ?_
  refine k_get (pre := []) C0 hw hinX7 rfl 0 (by decide) (hts (.fieldLink RX7 7 "SlabDunesModel" "all" "[I") (by decide +kernel)) rfl rfl dX7_setWind_54 ?_
  refine lv_bipush (v := 6) hx hb dX7_setWind_57 (by decide) ?_
  refine lv_iload_n hx hb dX7_setWind_59 rfl (lv_at hl 2 rfl) ?_
  refine k_iast (pre := [oc m0 7 [.ref A0, .ref V0, .ref Z0, .int (nI (svK k9)), .int 0, .int pl, .int hz, .ref D0, .ref W0, .ref T0, .int tl, .int tw, .int tc]]) (l1 := []) C0 hw (i := 6) (kinN (n := 6) (by decide) (by decide)) dX7_setWind_60 (fun H locs hw => ?_)
  have hw : kW E AA sx (List.flatten [oc m0 7 [.ref A0, .ref V0, .ref Z0, .int (nI (svK k9)), .int 0, .int pl, .int hz, .ref D0, .ref W0, .ref T0, .int tl, .int tw, .int tc], ac E A0 985 (upd (mA h w wd s0 z st he ke tu ca tr co la) (Int32.toNatClampNeg 6) (nI d2)), ac E V0 3940 (svA V (mA h w wd s0 z st he ke tu ca tr co la) k9)]) H locs := hw
  have hw : kW E AA sx (List.flatten [oc m0 7 [.ref A0, .ref V0, .ref Z0, .int (nI (svK k9)), .int 0, .int pl, .int hz, .ref D0, .ref W0, .ref T0, .int tl, .int tw, .int tc], ac E A0 985 (mA h w (nI d2) s0 z st he ke tu ca tr co la), ac E V0 3940 (svA V (mA h w wd s0 z st he ke tu ca tr co la) k9)]) H locs := kW.arr (pre := [oc m0 7 [.ref A0, .ref V0, .ref Z0, .int (nI (svK k9)), .int 0, .int pl, .int hz, .ref D0, .ref W0, .ref T0, .int tl, .int tw, .int tc]]) (l1 := []) hw (fun j9 _ => mA_ww j9)
  refine lv_aload_n hx hb dX7_setWind_61 rfl (lv_at hl 1 rfl) ?_
  refine k_get (pre := []) C0 hw hinX7 rfl 0 (by decide) (hts (.fieldLink RX7 7 "SlabDunesModel" "all" "[I") (by decide +kernel)) rfl rfl dX7_setWind_62 ?_
  refine lv_bipush (v := 7) hx hb dX7_setWind_65 (by decide) ?_
  refine lv_iload_n hx hb dX7_setWind_67 rfl (lv_at hl 3 rfl) ?_
  refine lv_iconst (v := (-1)) hx hb dX7_setWind_68 (by decide) ?_
  refine lv_icmp_ne (tgt := 82) hx hb dX7_setWind_69 (by decide) (fun c69 => absurd c69 (fun h99 => h99 hv)) (fun c69 => ?_)
  refine lv_aload_n hx hb dX7_setWind_72 rfl (lv_at hl 1 rfl) ?_
  refine k_get (pre := []) C0 hw hinX7 rfl 0 (by decide) (hts (.fieldLink RX7 7 "SlabDunesModel" "all" "[I") (by decide +kernel)) rfl rfl dX7_setWind_73 ?_
  refine lv_bipush (v := 7) hx hb dX7_setWind_76 (by decide) ?_
  refine k_iald (pre := [oc m0 7 [.ref A0, .ref V0, .ref Z0, .int (nI (svK k9)), .int 0, .int pl, .int hz, .ref D0, .ref W0, .ref T0, .int tl, .int tw, .int tc]]) (l1 := []) C0 hw (i := 7) (kinN (n := 7) (by decide) (by decide)) dX7_setWind_78 ?_
  refine W.eq (g2 := F0 mm 79 ls [.int s0, .int 7, .ref A0]) (congrArg (fun z9 => F0 mm 79 ls [.int z9, .int 7, .ref A0]) (show ((mA h w (nI d2) s0 z st he ke tu ca tr co la) (Int32.toNatClampNeg 7) : Int32) = s0 from rfl)) ?_
  refine lv_goto (tgt := 83) hx hb dX7_setWind_79 (by decide) ?_
  refine k_iast (pre := [oc m0 7 [.ref A0, .ref V0, .ref Z0, .int (nI (svK k9)), .int 0, .int pl, .int hz, .ref D0, .ref W0, .ref T0, .int tl, .int tw, .int tc]]) (l1 := []) C0 hw (i := 7) (kinN (n := 7) (by decide) (by decide)) dX7_setWind_83 (fun H locs hw => ?_)
  have hw : kW E AA sx (List.flatten [oc m0 7 [.ref A0, .ref V0, .ref Z0, .int (nI (svK k9)), .int 0, .int pl, .int hz, .ref D0, .ref W0, .ref T0, .int tl, .int tw, .int tc], ac E A0 985 (upd (mA h w (nI d2) s0 z st he ke tu ca tr co la) (Int32.toNatClampNeg 7) s0), ac E V0 3940 (svA V (mA h w wd s0 z st he ke tu ca tr co la) k9)]) H locs := hw
  have hw : kW E AA sx (List.flatten [oc m0 7 [.ref A0, .ref V0, .ref Z0, .int (nI (svK k9)), .int 0, .int pl, .int hz, .ref D0, .ref W0, .ref T0, .int tl, .int tw, .int tc], ac E A0 985 (mA h w (nI d2) s0 z st he ke tu ca tr co la), ac E V0 3940 (svA V (mA h w wd s0 z st he ke tu ca tr co la) k9)]) H locs := kW.arr (pre := [oc m0 7 [.ref A0, .ref V0, .ref Z0, .int (nI (svK k9)), .int 0, .int pl, .int hz, .ref D0, .ref W0, .ref T0, .int tl, .int tw, .int tc]]) (l1 := []) hw (fun j9 _ => mA_ws j9)
  refine lv_iload_n hx hb dX7_setWind_84 rfl (lv_at hl 0 rfl) ?_
  -- leaf 0
  exact k_iret C0 hr hlk hw () (rfl) (rfl) (Nat.le_of_ble_eq_true rfl) (Nat.le_of_ble_eq_true rfl) dX7_setWind_85

set_option maxHeartbeats 4000000 in
set_option maxRecDepth 100000 in
theorem c_X7_setWind_ok2 (l : Launch) (E : kE) (m0 : Nat) (A0 : Nat) (V0 : Nat) (Z0 : Nat) (D0 : Nat) (W0 : Nat) (T0 : Nat) (th : Int32) (pl : Int32) (hz : Int32) (tl : Int32) (tw : Int32) (tc : Int32) (h : Nat) (w : Nat) (k9 : Nat) (wd : Int32) (s0 : Int32) (z : Int32) (st : Nat → Int32) (he : Nat → Int32) (ke : Nat → Int32) (tu : Nat → Int32) (ca : Nat → Int32) (tr : Nat → Int32) (co : Nat → Int32) (la : Nat → Int32) (V : Nat → Int32) (d2 : Nat) (v : Int32) (hd2 : d2 < 4) (hv1 : ¬ v = -1) (hv : ¬ v < 0 ∧ ¬ 999999 < v) (hk9 : k9 ≤ 4) : kC E l yX7_setWind wsX7_setWind rmX7_setWind [.ref m0, .int (nI d2), .int v] (List.flatten [oc m0 7 [.ref A0, .ref V0, .ref Z0, .int (nI k9), .int th, .int pl, .int hz, .ref D0, .ref W0, .ref T0, .int tl, .int tw, .int tc], ac E A0 985 (mA h w wd s0 z st he ke tu ca tr co la), ac E V0 3940 V]) kI (fun (r : Int32) (_ : Unit) => r = wd) (fun _ => List.flatten [oc m0 7 [.ref A0, .ref V0, .ref Z0, .int (nI (svK k9)), .int 0, .int pl, .int hz, .ref D0, .ref W0, .ref T0, .int tl, .int tw, .int tc], ac E A0 985 (mA h w (nI d2) v z st he ke tu ca tr co la), ac E V0 3940 (svA V (mA h w wd s0 z st he ke tu ca tr co la) k9)]) 0 0 := by
  refine k_body (cc := cX7_setWind) (maxL := 4) (ret := (some .int)) (by decide) rfl (Nat.le_of_ble_eq_true rfl) ?_
  intro pp ee sx mm aa bb me cd H locs AA ls C0 hr hlk hnm hl hw
  obtain ⟨hx, hb, hml, hown, hts⟩ := id C0
  have hl : lv_has ls 4 [(0, .ref m0), (1, .int (nI d2)), (2, .int v)] := hl
  have hw : kW E AA sx (List.flatten [oc m0 7 [.ref A0, .ref V0, .ref Z0, .int (nI k9), .int th, .int pl, .int hz, .ref D0, .ref W0, .ref T0, .int tl, .int tw, .int tc], ac E A0 985 (mA h w wd s0 z st he ke tu ca tr co la), ac E V0 3940 V]) H locs := hw
  have hinX7 : ∀ w ∈ u_ws RX7 TX7 13, w ∈ wsX7_setWind := by decide +kernel
  refine lv_aload_n hx hb dX7_setWind_0 rfl (lv_at hl 0 rfl) ?_
  refine lv_iload_n hx hb dX7_setWind_1 rfl (lv_at hl 1 rfl) ?_
  refine lv_i2l (v := Int32.toInt64 (nI d2)) hx hb dX7_setWind_2 rfl ?_
  refine lv_lconst (v := 0) hx hb dX7_setWind_3 (by decide) ?_
  refine lv_ldc2 (v := 3) hx hb hown (hts (.constantLong RX7 58 3) (by decide +kernel)) dX7_setWind_4 ?_
  refine k_S (As := [.long (Int32.toInt64 (nI d2)), .long 0, .long 3]) (rest := [.ref m0]) (pre := []) (mid := []) C0 (c_X7_in_0_3 l E (nI d2) ) (va_cwS 3 hts gX7_setWind_X7_in rfl rfl rfl (by decide +kernel) ⟨Nat.le_of_ble_eq_true rfl, Nat.le_of_ble_eq_true rfl⟩) hw rfl (fun _ => []) (fun _ => rfl) rfl hl.1 rfl (Nat.le_of_ble_eq_true rfl) dX7_setWind_7 ⟨Nat.le_of_ble_eq_true rfl, Nat.le_of_ble_eq_true rfl⟩ (fun r u H locs hq99 hw => ?_)
  subst hq99
  have hw : kW E AA sx (List.flatten [oc m0 7 [.ref A0, .ref V0, .ref Z0, .int (nI k9), .int th, .int pl, .int hz, .ref D0, .ref W0, .ref T0, .int tl, .int tw, .int tc], ac E A0 985 (mA h w wd s0 z st he ke tu ca tr co la), ac E V0 3940 V]) H locs := hw
  refine W.eq (g2 := F0 mm 10 ls [.int (if ¬ (nI d2) < 0 ∧ ¬ 3 < (nI d2) then 1 else 0), .ref m0]) rfl ?_
  refine lv_if_eq (tgt := 31) hx hb dX7_setWind_10 (by decide) (fun c10 => absurd c10 (kp10 (⟨nI_pos (by omega), nI_nlt (a := 3) (b := d2) (by omega) (by omega)⟩))) (fun c10 => ?_)
  have c10 := kb10f c10
  refine lv_iload_n hx hb dX7_setWind_13 rfl (lv_at hl 2 rfl) ?_
  refine lv_i2l (v := Int32.toInt64 v) hx hb dX7_setWind_14 rfl ?_
  refine lv_ldc2 (v := (-1)) hx hb hown (hts (.constantLong RX7 99 (-1)) (by decide +kernel)) dX7_setWind_15 ?_
  refine lv_ldc2 (v := 999999) hx hb hown (hts (.constantLong RX7 101 999999) (by decide +kernel)) dX7_setWind_18 ?_
  refine k_S (As := [.long (Int32.toInt64 v), .long (-1), .long 999999]) (rest := [.ref m0]) (pre := []) (mid := []) C0 (c_X7_in_m1_999999 l E v ) (va_cwS 3 hts gX7_setWind_X7_in rfl rfl rfl (by decide +kernel) ⟨Nat.le_of_ble_eq_true rfl, Nat.le_of_ble_eq_true rfl⟩) hw rfl (fun _ => []) (fun _ => rfl) rfl hl.1 rfl (Nat.le_of_ble_eq_true rfl) dX7_setWind_21 ⟨Nat.le_of_ble_eq_true rfl, Nat.le_of_ble_eq_true rfl⟩ (fun r u H locs hq99 hw => ?_)
  subst hq99
  have hw : kW E AA sx (List.flatten [oc m0 7 [.ref A0, .ref V0, .ref Z0, .int (nI k9), .int th, .int pl, .int hz, .ref D0, .ref W0, .ref T0, .int tl, .int tw, .int tc], ac E A0 985 (mA h w wd s0 z st he ke tu ca tr co la), ac E V0 3940 V]) H locs := hw
  refine W.eq (g2 := F0 mm 24 ls [.int (if ¬ v < (-1) ∧ ¬ 999999 < v then 1 else 0), .ref m0]) rfl ?_
  refine lv_if_eq (tgt := 31) hx hb dX7_setWind_24 (by decide) (fun c24 => absurd c24 (kp10 (kvw hv))) (fun c24 => ?_)
  have c24 := kb10f c24
  refine lv_iconst (v := 1) hx hb dX7_setWind_27 (by decide) ?_
  refine lv_goto (tgt := 32) hx hb dX7_setWind_28 (by decide) ?_
  refine lv_iconst (v := 1) hx hb dX7_setWind_32 (by decide) ?_
  refine k_V (As := [.int 1, .int 1]) (rest := []) (pre := []) (mid := [oc m0 7 [.ref A0, .ref V0, .ref Z0, .int (nI k9), .int th, .int pl, .int hz, .ref D0, .ref W0, .ref T0, .int tl, .int tw, .int tc]]) C0 (c_X7_goes_ok l E m0 A0 V0 Z0 D0 W0 T0 (nI k9) th pl hz tl tw tc 1 1 (by decide) (by decide)) (cwV 2 hts gX7_setWind_X7_goes rfl rfl rfl (by decide +kernel) ⟨Nat.le_of_ble_eq_true rfl, Nat.le_of_ble_eq_true rfl⟩) hw rfl (fun _ => [oc m0 7 [.ref A0, .ref V0, .ref Z0, .int (nI k9), .int 0, .int pl, .int hz, .ref D0, .ref W0, .ref T0, .int tl, .int tw, .int tc]]) (fun _ => rfl) 0 7 rfl rfl rfl rfl hl.1 rfl (Nat.le_of_ble_eq_true rfl) dX7_setWind_33 ⟨Nat.le_of_ble_eq_true rfl, Nat.le_of_ble_eq_true rfl⟩ (fun r u H locs hq99 hw => ?_)
  subst r
  have hw : kW E AA sx (List.flatten [oc m0 7 [.ref A0, .ref V0, .ref Z0, .int (nI k9), .int 0, .int pl, .int hz, .ref D0, .ref W0, .ref T0, .int tl, .int tw, .int tc], ac E A0 985 (mA h w wd s0 z st he ke tu ca tr co la), ac E V0 3940 V]) H locs := hw
  refine W.eq (g2 := F0 mm 36 ls [.int 1]) rfl ?_
  refine lv_if_ne (tgt := 41) hx hb dX7_setWind_36 (by decide) (fun c36 => ?_) (fun c36 => absurd c36 (by decide))
  refine lv_aload_n hx hb dX7_setWind_41 rfl (lv_at hl 0 rfl) ?_
  refine k_V (As := []) (rest := []) (pre := []) (mid := [oc m0 7 [.ref A0, .ref V0, .ref Z0, .int (nI k9), .int 0, .int pl, .int hz, .ref D0, .ref W0, .ref T0, .int tl, .int tw, .int tc], ac E A0 985 (mA h w wd s0 z st he ke tu ca tr co la), ac E V0 3940 V]) C0 (c_X7_save l E m0 A0 V0 Z0 D0 W0 T0 0 pl hz tl tw tc k9 (mA h w wd s0 z st he ke tu ca tr co la) V (by first | assumption | omega)) (cwV 0 hts gX7_setWind_X7_save rfl rfl rfl (by decide +kernel) ⟨Nat.le_of_ble_eq_true rfl, Nat.le_of_ble_eq_true rfl⟩) hw rfl (fun _ => [oc m0 7 [.ref A0, .ref V0, .ref Z0, .int (nI (svK k9)), .int 0, .int pl, .int hz, .ref D0, .ref W0, .ref T0, .int tl, .int tw, .int tc], ac E A0 985 (mA h w wd s0 z st he ke tu ca tr co la), ac E V0 3940 (svA V (mA h w wd s0 z st he ke tu ca tr co la) k9)]) (fun _ => rfl) 0 7 rfl rfl rfl rfl hl.1 rfl (Nat.le_of_ble_eq_true rfl) dX7_setWind_42 ⟨Nat.le_of_ble_eq_true rfl, Nat.le_of_ble_eq_true rfl⟩ (fun r u H locs hq99 hw => ?_)
  have hw : kW E AA sx (List.flatten [oc m0 7 [.ref A0, .ref V0, .ref Z0, .int (nI (svK k9)), .int 0, .int pl, .int hz, .ref D0, .ref W0, .ref T0, .int tl, .int tw, .int tc], ac E A0 985 (mA h w wd s0 z st he ke tu ca tr co la), ac E V0 3940 (svA V (mA h w wd s0 z st he ke tu ca tr co la) k9)]) H locs := hw
  refine W.eq (g2 := F0 mm 45 ls []) rfl ?_
  refine lv_aload_n hx hb dX7_setWind_45 rfl (lv_at hl 0 rfl) ?_
  refine k_get (pre := []) C0 hw hinX7 rfl 0 (by decide) (hts (.fieldLink RX7 7 "SlabDunesModel" "all" "[I") (by decide +kernel)) rfl rfl dX7_setWind_46 ?_
  refine lv_bipush (v := 6) hx hb dX7_setWind_49 (by decide) ?_
  refine k_iald (pre := [oc m0 7 [.ref A0, .ref V0, .ref Z0, .int (nI (svK k9)), .int 0, .int pl, .int hz, .ref D0, .ref W0, .ref T0, .int tl, .int tw, .int tc]]) (l1 := []) C0 hw (i := 6) (kinN (n := 6) (by decide) (by decide)) dX7_setWind_51 ?_
  refine W.eq (g2 := F0 mm 52 ls [.int wd]) (congrArg (fun z9 => F0 mm 52 ls [.int z9]) (show ((mA h w wd s0 z st he ke tu ca tr co la) (Int32.toNatClampNeg 6) : Int32) = wd from rfl)) ?_
  refine lv_istore_n (lv' := [(3, .int wd), (0, .ref m0), (1, .int (nI d2)), (2, .int v)]) hx hb dX7_setWind_52 rfl hl (by decide) rfl (fun ls hl => ?_)
  refine lv_aload_n hx hb dX7_setWind_53 rfl (lv_at hl 1 rfl) ?_
  refine k_get (pre := []) C0 hw hinX7 rfl 0 (by decide) (hts (.fieldLink RX7 7 "SlabDunesModel" "all" "[I") (by decide +kernel)) rfl rfl dX7_setWind_54 ?_
  refine lv_bipush (v := 6) hx hb dX7_setWind_57 (by decide) ?_
  refine lv_iload_n hx hb dX7_setWind_59 rfl (lv_at hl 2 rfl) ?_
  refine k_iast (pre := [oc m0 7 [.ref A0, .ref V0, .ref Z0, .int (nI (svK k9)), .int 0, .int pl, .int hz, .ref D0, .ref W0, .ref T0, .int tl, .int tw, .int tc]]) (l1 := []) C0 hw (i := 6) (kinN (n := 6) (by decide) (by decide)) dX7_setWind_60 (fun H locs hw => ?_)
  have hw : kW E AA sx (List.flatten [oc m0 7 [.ref A0, .ref V0, .ref Z0, .int (nI (svK k9)), .int 0, .int pl, .int hz, .ref D0, .ref W0, .ref T0, .int tl, .int tw, .int tc], ac E A0 985 (upd (mA h w wd s0 z st he ke tu ca tr co la) (Int32.toNatClampNeg 6) (nI d2)), ac E V0 3940 (svA V (mA h w wd s0 z st he ke tu ca tr co la) k9)]) H locs := hw
  have hw : kW E AA sx (List.flatten [oc m0 7 [.ref A0, .ref V0, .ref Z0, .int (nI (svK k9)), .int 0, .int pl, .int hz, .ref D0, .ref W0, .ref T0, .int tl, .int tw, .int tc], ac E A0 985 (mA h w (nI d2) s0 z st he ke tu ca tr co la), ac E V0 3940 (svA V (mA h w wd s0 z st he ke tu ca tr co la) k9)]) H locs := kW.arr (pre := [oc m0 7 [.ref A0, .ref V0, .ref Z0, .int (nI (svK k9)), .int 0, .int pl, .int hz, .ref D0, .ref W0, .ref T0, .int tl, .int tw, .int tc]]) (l1 := []) hw (fun j9 _ => mA_ww j9)
  refine lv_aload_n hx hb dX7_setWind_61 rfl (lv_at hl 1 rfl) ?_
  refine k_get (pre := []) C0 hw hinX7 rfl 0 (by decide) (hts (.fieldLink RX7 7 "SlabDunesModel" "all" "[I") (by decide +kernel)) rfl rfl dX7_setWind_62 ?_
  refine lv_bipush (v := 7) hx hb dX7_setWind_65 (by decide) ?_
  refine lv_iload_n hx hb dX7_setWind_67 rfl (lv_at hl 3 rfl) ?_
  refine lv_iconst (v := (-1)) hx hb dX7_setWind_68 (by decide) ?_
  refine lv_icmp_ne (tgt := 82) hx hb dX7_setWind_69 (by decide) (fun c69 => ?_) (fun c69 => False.elim (hv1 c69))
  refine lv_iload_n hx hb dX7_setWind_82 rfl (lv_at hl 3 rfl) ?_
  refine k_iast (pre := [oc m0 7 [.ref A0, .ref V0, .ref Z0, .int (nI (svK k9)), .int 0, .int pl, .int hz, .ref D0, .ref W0, .ref T0, .int tl, .int tw, .int tc]]) (l1 := []) C0 hw (i := 7) (kinN (n := 7) (by decide) (by decide)) dX7_setWind_83 (fun H locs hw => ?_)
  have hw : kW E AA sx (List.flatten [oc m0 7 [.ref A0, .ref V0, .ref Z0, .int (nI (svK k9)), .int 0, .int pl, .int hz, .ref D0, .ref W0, .ref T0, .int tl, .int tw, .int tc], ac E A0 985 (upd (mA h w (nI d2) s0 z st he ke tu ca tr co la) (Int32.toNatClampNeg 7) v), ac E V0 3940 (svA V (mA h w wd s0 z st he ke tu ca tr co la) k9)]) H locs := hw
  have hw : kW E AA sx (List.flatten [oc m0 7 [.ref A0, .ref V0, .ref Z0, .int (nI (svK k9)), .int 0, .int pl, .int hz, .ref D0, .ref W0, .ref T0, .int tl, .int tw, .int tc], ac E A0 985 (mA h w (nI d2) v z st he ke tu ca tr co la), ac E V0 3940 (svA V (mA h w wd s0 z st he ke tu ca tr co la) k9)]) H locs := kW.arr (pre := [oc m0 7 [.ref A0, .ref V0, .ref Z0, .int (nI (svK k9)), .int 0, .int pl, .int hz, .ref D0, .ref W0, .ref T0, .int tl, .int tw, .int tc]]) (l1 := []) hw (fun j9 _ => mA_ws j9)
  refine lv_iload_n hx hb dX7_setWind_84 rfl (lv_at hl 0 rfl) ?_
  -- leaf 0
  exact k_iret C0 hr hlk hw () (rfl) (rfl) (Nat.le_of_ble_eq_true rfl) (Nat.le_of_ble_eq_true rfl) dX7_setWind_85

set_option maxHeartbeats 4000000 in
set_option maxRecDepth 100000 in
theorem c_X7_setWind_x1 (l : Launch) (E : kE) (m0 : Nat) (A0 : Nat) (V0 : Nat) (Z0 : Nat) (D0 : Nat) (W0 : Nat) (T0 : Nat) (sm : Int32) (th : Int32) (pl : Int32) (hz : Int32) (tl : Int32) (tw : Int32) (tc : Int32) (h : Nat) (w : Nat) (wd : Int32) (s0 : Int32) (z : Int32) (st : Nat → Int32) (he : Nat → Int32) (ke : Nat → Int32) (tu : Nat → Int32) (ca : Nat → Int32) (tr : Nat → Int32) (co : Nat → Int32) (la : Nat → Int32) (x : Int32) (v : Int32) (hv : ¬ (¬ x < 0 ∧ ¬ 3 < x)) : kC E l yX7_setWind wsX7_setWind rmX7_setWind [.ref m0, .int x, .int v] (List.flatten [oc m0 7 [.ref A0, .ref V0, .ref Z0, .int sm, .int th, .int pl, .int hz, .ref D0, .ref W0, .ref T0, .int tl, .int tw, .int tc], ac E A0 985 (mA h w wd s0 z st he ke tu ca tr co la)]) kI (fun (r : Int32) (_ : Unit) => r = 0) (fun _ => List.flatten [oc m0 7 [.ref A0, .ref V0, .ref Z0, .int sm, .int 1, .int pl, .int hz, .ref D0, .ref W0, .ref T0, .int tl, .int tw, .int tc], ac E A0 985 (mA h w wd s0 z st he ke tu ca tr co la)]) 0 0 := by
  refine k_body (cc := cX7_setWind) (maxL := 4) (ret := (some .int)) (by decide) rfl (Nat.le_of_ble_eq_true rfl) ?_
  intro pp ee sx mm aa bb me cd H locs AA ls C0 hr hlk hnm hl hw
  obtain ⟨hx, hb, hml, hown, hts⟩ := id C0
  have hl : lv_has ls 4 [(0, .ref m0), (1, .int x), (2, .int v)] := hl
  have hw : kW E AA sx (List.flatten [oc m0 7 [.ref A0, .ref V0, .ref Z0, .int sm, .int th, .int pl, .int hz, .ref D0, .ref W0, .ref T0, .int tl, .int tw, .int tc], ac E A0 985 (mA h w wd s0 z st he ke tu ca tr co la)]) H locs := hw
  refine lv_aload_n hx hb dX7_setWind_0 rfl (lv_at hl 0 rfl) ?_
  refine lv_iload_n hx hb dX7_setWind_1 rfl (lv_at hl 1 rfl) ?_
  refine lv_i2l (v := Int32.toInt64 x) hx hb dX7_setWind_2 rfl ?_
  refine lv_lconst (v := 0) hx hb dX7_setWind_3 (by decide) ?_
  refine lv_ldc2 (v := 3) hx hb hown (hts (.constantLong RX7 58 3) (by decide +kernel)) dX7_setWind_4 ?_
  refine k_S (As := [.long (Int32.toInt64 x), .long 0, .long 3]) (rest := [.ref m0]) (pre := []) (mid := []) C0 (c_X7_in_0_3 l E x ) (va_cwS 3 hts gX7_setWind_X7_in rfl rfl rfl (by decide +kernel) ⟨Nat.le_of_ble_eq_true rfl, Nat.le_of_ble_eq_true rfl⟩) hw rfl (fun _ => []) (fun _ => rfl) rfl hl.1 rfl (Nat.le_of_ble_eq_true rfl) dX7_setWind_7 ⟨Nat.le_of_ble_eq_true rfl, Nat.le_of_ble_eq_true rfl⟩ (fun r u H locs hq99 hw => ?_)
  subst hq99
  have hw : kW E AA sx (List.flatten [oc m0 7 [.ref A0, .ref V0, .ref Z0, .int sm, .int th, .int pl, .int hz, .ref D0, .ref W0, .ref T0, .int tl, .int tw, .int tc], ac E A0 985 (mA h w wd s0 z st he ke tu ca tr co la)]) H locs := hw
  refine W.eq (g2 := F0 mm 10 ls [.int (if ¬ x < 0 ∧ ¬ 3 < x then 1 else 0), .ref m0]) rfl ?_
  refine lv_if_eq (tgt := 31) hx hb dX7_setWind_10 (by decide) (fun c10 => ?_) (fun c10 => False.elim (hv (kb10f c10)))
  have c10 := kb10t c10
  refine lv_iconst (v := 0) hx hb dX7_setWind_31 (by decide) ?_
  refine lv_iconst (v := 1) hx hb dX7_setWind_32 (by decide) ?_
  refine k_V (As := [.int 0, .int 1]) (rest := []) (pre := []) (mid := [oc m0 7 [.ref A0, .ref V0, .ref Z0, .int sm, .int th, .int pl, .int hz, .ref D0, .ref W0, .ref T0, .int tl, .int tw, .int tc]]) C0 (c_X7_goes_1 l E m0 A0 V0 Z0 D0 W0 T0 sm th pl hz tl tw tc 0 1 (rfl)) (cwV 2 hts gX7_setWind_X7_goes rfl rfl rfl (by decide +kernel) ⟨Nat.le_of_ble_eq_true rfl, Nat.le_of_ble_eq_true rfl⟩) hw rfl (fun _ => [oc m0 7 [.ref A0, .ref V0, .ref Z0, .int sm, .int 1, .int pl, .int hz, .ref D0, .ref W0, .ref T0, .int tl, .int tw, .int tc]]) (fun _ => rfl) 0 7 rfl rfl rfl rfl hl.1 rfl (Nat.le_of_ble_eq_true rfl) dX7_setWind_33 ⟨Nat.le_of_ble_eq_true rfl, Nat.le_of_ble_eq_true rfl⟩ (fun r u H locs hq99 hw => ?_)
  subst r
  have hw : kW E AA sx (List.flatten [oc m0 7 [.ref A0, .ref V0, .ref Z0, .int sm, .int 1, .int pl, .int hz, .ref D0, .ref W0, .ref T0, .int tl, .int tw, .int tc], ac E A0 985 (mA h w wd s0 z st he ke tu ca tr co la)]) H locs := hw
  refine W.eq (g2 := F0 mm 36 ls [.int 0]) rfl ?_
  refine lv_if_ne (tgt := 41) hx hb dX7_setWind_36 (by decide) (fun c36 => absurd c36 (by decide)) (fun c36 => ?_)
  refine lv_iconst (v := 0) hx hb dX7_setWind_39 (by decide) ?_
  -- leaf 0
  exact k_iret C0 hr hlk hw () (rfl) (rfl) (Nat.le_of_ble_eq_true rfl) (Nat.le_of_ble_eq_true rfl) dX7_setWind_40

set_option maxHeartbeats 4000000 in
set_option maxRecDepth 100000 in
theorem c_X7_setWind_x2 (l : Launch) (E : kE) (m0 : Nat) (A0 : Nat) (V0 : Nat) (Z0 : Nat) (D0 : Nat) (W0 : Nat) (T0 : Nat) (sm : Int32) (th : Int32) (pl : Int32) (hz : Int32) (tl : Int32) (tw : Int32) (tc : Int32) (h : Nat) (w : Nat) (wd : Int32) (s0 : Int32) (z : Int32) (st : Nat → Int32) (he : Nat → Int32) (ke : Nat → Int32) (tu : Nat → Int32) (ca : Nat → Int32) (tr : Nat → Int32) (co : Nat → Int32) (la : Nat → Int32) (d2 : Nat) (v : Int32) (hd2 : d2 < 4) (hv1 : ¬ v = -1) (hv : ¬ (¬ v < 0 ∧ ¬ 999999 < v)) : kC E l yX7_setWind wsX7_setWind rmX7_setWind [.ref m0, .int (nI d2), .int v] (List.flatten [oc m0 7 [.ref A0, .ref V0, .ref Z0, .int sm, .int th, .int pl, .int hz, .ref D0, .ref W0, .ref T0, .int tl, .int tw, .int tc], ac E A0 985 (mA h w wd s0 z st he ke tu ca tr co la)]) kI (fun (r : Int32) (_ : Unit) => r = 0) (fun _ => List.flatten [oc m0 7 [.ref A0, .ref V0, .ref Z0, .int sm, .int 1, .int pl, .int hz, .ref D0, .ref W0, .ref T0, .int tl, .int tw, .int tc], ac E A0 985 (mA h w wd s0 z st he ke tu ca tr co la)]) 0 0 := by
  refine k_body (cc := cX7_setWind) (maxL := 4) (ret := (some .int)) (by decide) rfl (Nat.le_of_ble_eq_true rfl) ?_
  intro pp ee sx mm aa bb me cd H locs AA ls C0 hr hlk hnm hl hw
  obtain ⟨hx, hb, hml, hown, hts⟩ := id C0
  have hl : lv_has ls 4 [(0, .ref m0), (1, .int (nI d2)), (2, .int v)] := hl
  have hw : kW E AA sx (List.flatten [oc m0 7 [.ref A0, .ref V0, .ref Z0, .int sm, .int th, .int pl, .int hz, .ref D0, .ref W0, .ref T0, .int tl, .int tw, .int tc], ac E A0 985 (mA h w wd s0 z st he ke tu ca tr co la)]) H locs := hw
  refine lv_aload_n hx hb dX7_setWind_0 rfl (lv_at hl 0 rfl) ?_
  refine lv_iload_n hx hb dX7_setWind_1 rfl (lv_at hl 1 rfl) ?_
  refine lv_i2l (v := Int32.toInt64 (nI d2)) hx hb dX7_setWind_2 rfl ?_
  refine lv_lconst (v := 0) hx hb dX7_setWind_3 (by decide) ?_
  refine lv_ldc2 (v := 3) hx hb hown (hts (.constantLong RX7 58 3) (by decide +kernel)) dX7_setWind_4 ?_
  refine k_S (As := [.long (Int32.toInt64 (nI d2)), .long 0, .long 3]) (rest := [.ref m0]) (pre := []) (mid := []) C0 (c_X7_in_0_3 l E (nI d2) ) (va_cwS 3 hts gX7_setWind_X7_in rfl rfl rfl (by decide +kernel) ⟨Nat.le_of_ble_eq_true rfl, Nat.le_of_ble_eq_true rfl⟩) hw rfl (fun _ => []) (fun _ => rfl) rfl hl.1 rfl (Nat.le_of_ble_eq_true rfl) dX7_setWind_7 ⟨Nat.le_of_ble_eq_true rfl, Nat.le_of_ble_eq_true rfl⟩ (fun r u H locs hq99 hw => ?_)
  subst hq99
  have hw : kW E AA sx (List.flatten [oc m0 7 [.ref A0, .ref V0, .ref Z0, .int sm, .int th, .int pl, .int hz, .ref D0, .ref W0, .ref T0, .int tl, .int tw, .int tc], ac E A0 985 (mA h w wd s0 z st he ke tu ca tr co la)]) H locs := hw
  refine W.eq (g2 := F0 mm 10 ls [.int (if ¬ (nI d2) < 0 ∧ ¬ 3 < (nI d2) then 1 else 0), .ref m0]) rfl ?_
  refine lv_if_eq (tgt := 31) hx hb dX7_setWind_10 (by decide) (fun c10 => absurd c10 (kp10 (⟨nI_pos (by omega), nI_nlt (a := 3) (b := d2) (by omega) (by omega)⟩))) (fun c10 => ?_)
  have c10 := kb10f c10
  refine lv_iload_n hx hb dX7_setWind_13 rfl (lv_at hl 2 rfl) ?_
  refine lv_i2l (v := Int32.toInt64 v) hx hb dX7_setWind_14 rfl ?_
  refine lv_ldc2 (v := (-1)) hx hb hown (hts (.constantLong RX7 99 (-1)) (by decide +kernel)) dX7_setWind_15 ?_
  refine lv_ldc2 (v := 999999) hx hb hown (hts (.constantLong RX7 101 999999) (by decide +kernel)) dX7_setWind_18 ?_
  refine k_S (As := [.long (Int32.toInt64 v), .long (-1), .long 999999]) (rest := [.ref m0]) (pre := []) (mid := []) C0 (c_X7_in_m1_999999 l E v ) (va_cwS 3 hts gX7_setWind_X7_in rfl rfl rfl (by decide +kernel) ⟨Nat.le_of_ble_eq_true rfl, Nat.le_of_ble_eq_true rfl⟩) hw rfl (fun _ => []) (fun _ => rfl) rfl hl.1 rfl (Nat.le_of_ble_eq_true rfl) dX7_setWind_21 ⟨Nat.le_of_ble_eq_true rfl, Nat.le_of_ble_eq_true rfl⟩ (fun r u H locs hq99 hw => ?_)
  subst hq99
  have hw : kW E AA sx (List.flatten [oc m0 7 [.ref A0, .ref V0, .ref Z0, .int sm, .int th, .int pl, .int hz, .ref D0, .ref W0, .ref T0, .int tl, .int tw, .int tc], ac E A0 985 (mA h w wd s0 z st he ke tu ca tr co la)]) H locs := hw
  refine W.eq (g2 := F0 mm 24 ls [.int (if ¬ v < (-1) ∧ ¬ 999999 < v then 1 else 0), .ref m0]) rfl ?_
  refine lv_if_eq (tgt := 31) hx hb dX7_setWind_24 (by decide) (fun c24 => ?_) (fun c24 => False.elim (hv (kwv (kb10f c24) hv1)))
  have c24 := kb10t c24
  refine lv_iconst (v := 0) hx hb dX7_setWind_31 (by decide) ?_
  refine lv_iconst (v := 1) hx hb dX7_setWind_32 (by decide) ?_
  refine k_V (As := [.int 0, .int 1]) (rest := []) (pre := []) (mid := [oc m0 7 [.ref A0, .ref V0, .ref Z0, .int sm, .int th, .int pl, .int hz, .ref D0, .ref W0, .ref T0, .int tl, .int tw, .int tc]]) C0 (c_X7_goes_1 l E m0 A0 V0 Z0 D0 W0 T0 sm th pl hz tl tw tc 0 1 (rfl)) (cwV 2 hts gX7_setWind_X7_goes rfl rfl rfl (by decide +kernel) ⟨Nat.le_of_ble_eq_true rfl, Nat.le_of_ble_eq_true rfl⟩) hw rfl (fun _ => [oc m0 7 [.ref A0, .ref V0, .ref Z0, .int sm, .int 1, .int pl, .int hz, .ref D0, .ref W0, .ref T0, .int tl, .int tw, .int tc]]) (fun _ => rfl) 0 7 rfl rfl rfl rfl hl.1 rfl (Nat.le_of_ble_eq_true rfl) dX7_setWind_33 ⟨Nat.le_of_ble_eq_true rfl, Nat.le_of_ble_eq_true rfl⟩ (fun r u H locs hq99 hw => ?_)
  subst r
  have hw : kW E AA sx (List.flatten [oc m0 7 [.ref A0, .ref V0, .ref Z0, .int sm, .int 1, .int pl, .int hz, .ref D0, .ref W0, .ref T0, .int tl, .int tw, .int tc], ac E A0 985 (mA h w wd s0 z st he ke tu ca tr co la)]) H locs := hw
  refine W.eq (g2 := F0 mm 36 ls [.int 0]) rfl ?_
  refine lv_if_ne (tgt := 41) hx hb dX7_setWind_36 (by decide) (fun c36 => absurd c36 (by decide)) (fun c36 => ?_)
  refine lv_iconst (v := 0) hx hb dX7_setWind_39 (by decide) ?_
  -- leaf 0
  exact k_iret C0 hr hlk hw () (rfl) (rfl) (Nat.le_of_ble_eq_true rfl) (Nat.le_of_ble_eq_true rfl) dX7_setWind_40

abbrev rmX7_run : Room := { frames := 6, cells := 0, slots := 0, locals := 145 }
set_option maxHeartbeats 4000000 in
set_option maxRecDepth 100000 in
theorem c_X7_run_ok (l : Launch) (E : kE) (m0 : Nat) (A0 : Nat) (V0 : Nat) (Z0 : Nat) (D0 : Nat) (W0 : Nat) (T0 : Nat) (th : Int32) (pl : Int32) (hz : Int32) (tl : Int32) (tw : Int32) (tc : Int32) (h : Nat) (w : Nat) (d : Nat) (n0 : Nat) (k9 : Nat) (z : Int32) (st : Nat → Int32) (he : Nat → Int32) (ke : Nat → Int32) (tu : Nat → Int32) (ca : Nat → Int32) (tr : Nat → Int32) (co : Nat → Int32) (la : Nat → Int32) (V : Nat → Int32) (m9 : Nat) (hp : Nat) (B : Nat) (hm9 : m9 ≤ 2000) (hG : kG h w) (hd : d < 4) (hn0 : n0 < 2147483648) (hst0 : st 0 = nI hp) (hp8 : hp ≤ 8) (hp1 : 1 ≤ hp) (hH : hI (h * w) he B) (hB : B < 1000000) (hsl : 1 ≤ (st 3).toInt) (hk9 : k9 ≤ 4) : kC E l yX7_run wsX7_run rmX7_run [.ref m0, .int (nI m9)] (List.flatten [oc m0 7 [.ref A0, .ref V0, .ref Z0, .int (nI k9), .int th, .int pl, .int hz, .ref D0, .ref W0, .ref T0, .int tl, .int tw, .int tc], ac E A0 985 (mA h w (nI d) (nI n0) z st he ke tu ca tr co la), ac E V0 3940 V]) kI (fun (r : Int32) (u : Int32 × Int32) => r = nI (blo h w d hp st tu ca m9 (n0, he, tr, co, la)).1) (fun (u : Int32 × Int32) => List.flatten [oc m0 7 [.ref A0, .ref V0, .ref Z0, .int (nI (svK k9)), .int 0, .int u.1, .int u.2, .ref D0, .ref W0, .ref T0, .int tl, .int tw, .int tc], ac E A0 985 (mA h w (nI d) (nI (blo h w d hp st tu ca m9 (n0, he, tr, co, la)).2.1) z st ((blo h w d hp st tu ca m9 (n0, he, tr, co, la)).2.2.1) ke tu ca ((blo h w d hp st tu ca m9 (n0, he, tr, co, la)).2.2.2.1) ((blo h w d hp st tu ca m9 (n0, he, tr, co, la)).2.2.2.2.1) ((blo h w d hp st tu ca m9 (n0, he, tr, co, la)).2.2.2.2.2)), ac E V0 3940 (svA V (mA h w (nI d) (nI n0) z st he ke tu ca tr co la) k9)]) 0 0 := by
  refine k_body (cc := cX7_run) (maxL := 2) (ret := (some .int)) (by decide) rfl (Nat.le_of_ble_eq_true rfl) ?_
  intro pp ee sx mm aa bb me cd H locs AA ls C0 hr hlk hnm hl hw
  obtain ⟨hx, hb, hml, hown, hts⟩ := id C0
  have hl : lv_has ls 2 [(0, .ref m0), (1, .int (nI m9))] := hl
  have hw : kW E AA sx (List.flatten [oc m0 7 [.ref A0, .ref V0, .ref Z0, .int (nI k9), .int th, .int pl, .int hz, .ref D0, .ref W0, .ref T0, .int tl, .int tw, .int tc], ac E A0 985 (mA h w (nI d) (nI n0) z st he ke tu ca tr co la), ac E V0 3940 V]) H locs := hw
  have hn9 := kG_n hG
  have hG9 := id hG
  obtain ⟨hG1, hG2, hG3, hG4⟩ := hG9
  refine lv_aload_n hx hb dX7_run_0 rfl (lv_at hl 0 rfl) ?_
  refine lv_iload_n hx hb dX7_run_1 rfl (lv_at hl 1 rfl) ?_
  refine lv_i2l (v := Int32.toInt64 (nI m9)) hx hb dX7_run_2 rfl ?_
  refine lv_lconst (v := 0) hx hb dX7_run_3 (by decide) ?_
  refine lv_ldc2 (v := 2000) hx hb hown (hts (.constantLong RX7 163 2000) (by decide +kernel)) dX7_run_4 ?_
  refine k_S (As := [.long (Int32.toInt64 (nI m9)), .long 0, .long 2000]) (rest := [.ref m0]) (pre := []) (mid := []) C0 (c_X7_in_0_2000 l E (nI m9) ) (va_cwS 3 hts gX7_run_X7_in rfl rfl rfl (by decide +kernel) ⟨Nat.le_of_ble_eq_true rfl, Nat.le_of_ble_eq_true rfl⟩) hw rfl (fun _ => []) (fun _ => rfl) rfl hl.1 rfl (Nat.le_of_ble_eq_true rfl) dX7_run_7 ⟨Nat.le_of_ble_eq_true rfl, Nat.le_of_ble_eq_true rfl⟩ (fun r u H locs hq99 hw => ?_)
  subst hq99
  have hw : kW E AA sx (List.flatten [oc m0 7 [.ref A0, .ref V0, .ref Z0, .int (nI k9), .int th, .int pl, .int hz, .ref D0, .ref W0, .ref T0, .int tl, .int tw, .int tc], ac E A0 985 (mA h w (nI d) (nI n0) z st he ke tu ca tr co la), ac E V0 3940 V]) H locs := hw
  refine W.eq (g2 := F0 mm 10 ls [.int (if ¬ (nI m9) < 0 ∧ ¬ 2000 < (nI m9) then 1 else 0), .ref m0]) rfl ?_
  refine lv_iconst (v := 1) hx hb dX7_run_10 (by decide) ?_
  refine k_V (As := [.int (if ¬ (nI m9) < 0 ∧ ¬ 2000 < (nI m9) then 1 else 0), .int 1]) (rest := []) (pre := []) (mid := [oc m0 7 [.ref A0, .ref V0, .ref Z0, .int (nI k9), .int th, .int pl, .int hz, .ref D0, .ref W0, .ref T0, .int tl, .int tw, .int tc]]) C0 (c_X7_goes_ok l E m0 A0 V0 Z0 D0 W0 T0 (nI k9) th pl hz tl tw tc (if ¬ (nI m9) < 0 ∧ ¬ 2000 < (nI m9) then 1 else 0) 1 (kp10 (⟨nI_pos (by omega), nI_nlt (a := 2000) (b := m9) (by omega) (by omega)⟩)) (by decide)) (cwV 2 hts gX7_run_X7_goes rfl rfl rfl (by decide +kernel) ⟨Nat.le_of_ble_eq_true rfl, Nat.le_of_ble_eq_true rfl⟩) hw rfl (fun _ => [oc m0 7 [.ref A0, .ref V0, .ref Z0, .int (nI k9), .int 0, .int pl, .int hz, .ref D0, .ref W0, .ref T0, .int tl, .int tw, .int tc]]) (fun _ => rfl) 0 7 rfl rfl rfl rfl hl.1 rfl (Nat.le_of_ble_eq_true rfl) dX7_run_11 ⟨Nat.le_of_ble_eq_true rfl, Nat.le_of_ble_eq_true rfl⟩ (fun r u H locs hq99 hw => ?_)
  subst r
  have hw : kW E AA sx (List.flatten [oc m0 7 [.ref A0, .ref V0, .ref Z0, .int (nI k9), .int 0, .int pl, .int hz, .ref D0, .ref W0, .ref T0, .int tl, .int tw, .int tc], ac E A0 985 (mA h w (nI d) (nI n0) z st he ke tu ca tr co la), ac E V0 3940 V]) H locs := hw
  refine W.eq (g2 := F0 mm 14 ls [.int 1]) rfl ?_
  refine lv_if_ne (tgt := 19) hx hb dX7_run_14 (by decide) (fun c14 => ?_) (fun c14 => absurd c14 (by decide))
  refine lv_aload_n hx hb dX7_run_19 rfl (lv_at hl 0 rfl) ?_
  refine k_V (As := []) (rest := []) (pre := []) (mid := [oc m0 7 [.ref A0, .ref V0, .ref Z0, .int (nI k9), .int 0, .int pl, .int hz, .ref D0, .ref W0, .ref T0, .int tl, .int tw, .int tc], ac E A0 985 (mA h w (nI d) (nI n0) z st he ke tu ca tr co la), ac E V0 3940 V]) C0 (c_X7_save l E m0 A0 V0 Z0 D0 W0 T0 0 pl hz tl tw tc k9 (mA h w (nI d) (nI n0) z st he ke tu ca tr co la) V (by first | assumption | omega)) (cwV 0 hts gX7_run_X7_save rfl rfl rfl (by decide +kernel) ⟨Nat.le_of_ble_eq_true rfl, Nat.le_of_ble_eq_true rfl⟩) hw rfl (fun _ => [oc m0 7 [.ref A0, .ref V0, .ref Z0, .int (nI (svK k9)), .int 0, .int pl, .int hz, .ref D0, .ref W0, .ref T0, .int tl, .int tw, .int tc], ac E A0 985 (mA h w (nI d) (nI n0) z st he ke tu ca tr co la), ac E V0 3940 (svA V (mA h w (nI d) (nI n0) z st he ke tu ca tr co la) k9)]) (fun _ => rfl) 0 7 rfl rfl rfl rfl hl.1 rfl (Nat.le_of_ble_eq_true rfl) dX7_run_20 ⟨Nat.le_of_ble_eq_true rfl, Nat.le_of_ble_eq_true rfl⟩ (fun r u H locs hq99 hw => ?_)
  have hw : kW E AA sx (List.flatten [oc m0 7 [.ref A0, .ref V0, .ref Z0, .int (nI (svK k9)), .int 0, .int pl, .int hz, .ref D0, .ref W0, .ref T0, .int tl, .int tw, .int tc], ac E A0 985 (mA h w (nI d) (nI n0) z st he ke tu ca tr co la), ac E V0 3940 (svA V (mA h w (nI d) (nI n0) z st he ke tu ca tr co la) k9)]) H locs := hw
  refine W.eq (g2 := F0 mm 23 ls []) rfl ?_
  refine lv_aload_n hx hb dX7_run_23 rfl (lv_at hl 0 rfl) ?_
  refine lv_iload_n hx hb dX7_run_24 rfl (lv_at hl 1 rfl) ?_
  refine k_V (As := [.int (nI m9)]) (rest := []) (pre := []) (mid := [oc m0 7 [.ref A0, .ref V0, .ref Z0, .int (nI (svK k9)), .int 0, .int pl, .int hz, .ref D0, .ref W0, .ref T0, .int tl, .int tw, .int tc], ac E A0 985 (mA h w (nI d) (nI n0) z st he ke tu ca tr co la)]) C0 (c_X7_runs l E m0 A0 V0 Z0 D0 W0 T0 (nI (svK k9)) 0 pl hz tl tw tc h w d n0 z st he ke tu ca tr co la m9 hp B (by first | assumption | omega) (by first | assumption | omega) (by first | assumption | omega) (by first | assumption | omega) (by first | assumption | omega) (by first | assumption | omega) (by first | assumption | omega) (by first | assumption | omega) (by first | assumption | omega) (by first | assumption | omega)) (cwV 1 hts gX7_run_X7_runs rfl rfl rfl (by decide +kernel) ⟨Nat.le_of_ble_eq_true rfl, Nat.le_of_ble_eq_true rfl⟩) hw rfl (fun (u25 : Int32 × Int32) => [oc m0 7 [.ref A0, .ref V0, .ref Z0, .int (nI (svK k9)), .int 0, .int u25.1, .int u25.2, .ref D0, .ref W0, .ref T0, .int tl, .int tw, .int tc], ac E A0 985 (mA h w (nI d) (nI (blo h w d hp st tu ca m9 (n0, he, tr, co, la)).2.1) z st ((blo h w d hp st tu ca m9 (n0, he, tr, co, la)).2.2.1) ke tu ca ((blo h w d hp st tu ca m9 (n0, he, tr, co, la)).2.2.2.1) ((blo h w d hp st tu ca m9 (n0, he, tr, co, la)).2.2.2.2.1) ((blo h w d hp st tu ca m9 (n0, he, tr, co, la)).2.2.2.2.2))]) (fun _ => rfl) 0 7 rfl rfl rfl rfl hl.1 rfl (Nat.le_of_ble_eq_true rfl) dX7_run_25 ⟨Nat.le_of_ble_eq_true rfl, Nat.le_of_ble_eq_true rfl⟩ (fun r u25 H locs hq99 hw => ?_)
  obtain ⟨r25, rfl⟩ : ∃ z, z = r := ⟨_, rfl⟩
  have h25 : r25 = nI (blo h w d hp st tu ca m9 (n0, he, tr, co, la)).1 := hq99
  have hw : kW E AA sx (List.flatten [oc m0 7 [.ref A0, .ref V0, .ref Z0, .int (nI (svK k9)), .int 0, .int u25.1, .int u25.2, .ref D0, .ref W0, .ref T0, .int tl, .int tw, .int tc], ac E A0 985 (mA h w (nI d) (nI (blo h w d hp st tu ca m9 (n0, he, tr, co, la)).2.1) z st ((blo h w d hp st tu ca m9 (n0, he, tr, co, la)).2.2.1) ke tu ca ((blo h w d hp st tu ca m9 (n0, he, tr, co, la)).2.2.2.1) ((blo h w d hp st tu ca m9 (n0, he, tr, co, la)).2.2.2.2.1) ((blo h w d hp st tu ca m9 (n0, he, tr, co, la)).2.2.2.2.2)), ac E V0 3940 (svA V (mA h w (nI d) (nI n0) z st he ke tu ca tr co la) k9)]) H locs := hw
  refine W.eq (g2 := F0 mm 28 ls [.int r25]) rfl ?_
  -- leaf 0
  exact k_iret C0 hr hlk hw (u25.1, u25.2) (rfl) (h25) (Nat.le_of_ble_eq_true rfl) (Nat.le_of_ble_eq_true rfl) dX7_run_28

set_option maxHeartbeats 4000000 in
set_option maxRecDepth 100000 in
theorem c_X7_run_x1 (l : Launch) (E : kE) (m0 : Nat) (A0 : Nat) (V0 : Nat) (Z0 : Nat) (D0 : Nat) (W0 : Nat) (T0 : Nat) (sm : Int32) (th : Int32) (pl : Int32) (hz : Int32) (tl : Int32) (tw : Int32) (tc : Int32) (h : Nat) (w : Nat) (wd : Int32) (s0 : Int32) (z : Int32) (st : Nat → Int32) (he : Nat → Int32) (ke : Nat → Int32) (tu : Nat → Int32) (ca : Nat → Int32) (tr : Nat → Int32) (co : Nat → Int32) (la : Nat → Int32) (x : Int32) (hv : ¬ (¬ x < 0 ∧ ¬ 2000 < x)) : kC E l yX7_run wsX7_run rmX7_run [.ref m0, .int x] (List.flatten [oc m0 7 [.ref A0, .ref V0, .ref Z0, .int sm, .int th, .int pl, .int hz, .ref D0, .ref W0, .ref T0, .int tl, .int tw, .int tc], ac E A0 985 (mA h w wd s0 z st he ke tu ca tr co la)]) kI (fun (r : Int32) (_ : Unit) => r = 0) (fun _ => List.flatten [oc m0 7 [.ref A0, .ref V0, .ref Z0, .int sm, .int 1, .int pl, .int hz, .ref D0, .ref W0, .ref T0, .int tl, .int tw, .int tc], ac E A0 985 (mA h w wd s0 z st he ke tu ca tr co la)]) 0 0 := by
  refine k_body (cc := cX7_run) (maxL := 2) (ret := (some .int)) (by decide) rfl (Nat.le_of_ble_eq_true rfl) ?_
  intro pp ee sx mm aa bb me cd H locs AA ls C0 hr hlk hnm hl hw
  obtain ⟨hx, hb, hml, hown, hts⟩ := id C0
  have hl : lv_has ls 2 [(0, .ref m0), (1, .int x)] := hl
  have hw : kW E AA sx (List.flatten [oc m0 7 [.ref A0, .ref V0, .ref Z0, .int sm, .int th, .int pl, .int hz, .ref D0, .ref W0, .ref T0, .int tl, .int tw, .int tc], ac E A0 985 (mA h w wd s0 z st he ke tu ca tr co la)]) H locs := hw
  refine lv_aload_n hx hb dX7_run_0 rfl (lv_at hl 0 rfl) ?_
  refine lv_iload_n hx hb dX7_run_1 rfl (lv_at hl 1 rfl) ?_
  refine lv_i2l (v := Int32.toInt64 x) hx hb dX7_run_2 rfl ?_
  refine lv_lconst (v := 0) hx hb dX7_run_3 (by decide) ?_
  refine lv_ldc2 (v := 2000) hx hb hown (hts (.constantLong RX7 163 2000) (by decide +kernel)) dX7_run_4 ?_
  refine k_S (As := [.long (Int32.toInt64 x), .long 0, .long 2000]) (rest := [.ref m0]) (pre := []) (mid := []) C0 (c_X7_in_0_2000 l E x ) (va_cwS 3 hts gX7_run_X7_in rfl rfl rfl (by decide +kernel) ⟨Nat.le_of_ble_eq_true rfl, Nat.le_of_ble_eq_true rfl⟩) hw rfl (fun _ => []) (fun _ => rfl) rfl hl.1 rfl (Nat.le_of_ble_eq_true rfl) dX7_run_7 ⟨Nat.le_of_ble_eq_true rfl, Nat.le_of_ble_eq_true rfl⟩ (fun r u H locs hq99 hw => ?_)
  subst hq99
  have hw : kW E AA sx (List.flatten [oc m0 7 [.ref A0, .ref V0, .ref Z0, .int sm, .int th, .int pl, .int hz, .ref D0, .ref W0, .ref T0, .int tl, .int tw, .int tc], ac E A0 985 (mA h w wd s0 z st he ke tu ca tr co la)]) H locs := hw
  refine W.eq (g2 := F0 mm 10 ls [.int (if ¬ x < 0 ∧ ¬ 2000 < x then 1 else 0), .ref m0]) rfl ?_
  refine lv_iconst (v := 1) hx hb dX7_run_10 (by decide) ?_
  refine k_V (As := [.int (if ¬ x < 0 ∧ ¬ 2000 < x then 1 else 0), .int 1]) (rest := []) (pre := []) (mid := [oc m0 7 [.ref A0, .ref V0, .ref Z0, .int sm, .int th, .int pl, .int hz, .ref D0, .ref W0, .ref T0, .int tl, .int tw, .int tc]]) C0 (c_X7_goes_1 l E m0 A0 V0 Z0 D0 W0 T0 sm th pl hz tl tw tc (if ¬ x < 0 ∧ ¬ 2000 < x then 1 else 0) 1 (kn10 (hv))) (cwV 2 hts gX7_run_X7_goes rfl rfl rfl (by decide +kernel) ⟨Nat.le_of_ble_eq_true rfl, Nat.le_of_ble_eq_true rfl⟩) hw rfl (fun _ => [oc m0 7 [.ref A0, .ref V0, .ref Z0, .int sm, .int 1, .int pl, .int hz, .ref D0, .ref W0, .ref T0, .int tl, .int tw, .int tc]]) (fun _ => rfl) 0 7 rfl rfl rfl rfl hl.1 rfl (Nat.le_of_ble_eq_true rfl) dX7_run_11 ⟨Nat.le_of_ble_eq_true rfl, Nat.le_of_ble_eq_true rfl⟩ (fun r u H locs hq99 hw => ?_)
  subst r
  have hw : kW E AA sx (List.flatten [oc m0 7 [.ref A0, .ref V0, .ref Z0, .int sm, .int 1, .int pl, .int hz, .ref D0, .ref W0, .ref T0, .int tl, .int tw, .int tc], ac E A0 985 (mA h w wd s0 z st he ke tu ca tr co la)]) H locs := hw
  refine W.eq (g2 := F0 mm 14 ls [.int 0]) rfl ?_
  refine lv_if_ne (tgt := 19) hx hb dX7_run_14 (by decide) (fun c14 => absurd c14 (by decide)) (fun c14 => ?_)
  refine lv_iconst (v := 0) hx hb dX7_run_17 (by decide) ?_
  -- leaf 0
  exact k_iret C0 hr hlk hw () (rfl) (rfl) (Nat.le_of_ble_eq_true rfl) (Nat.le_of_ble_eq_true rfl) dX7_run_18

abbrev rmX7_season : Room := { frames := 2, cells := 0, slots := 0, locals := 43 }
set_option maxHeartbeats 4000000 in
set_option maxRecDepth 100000 in
theorem c_X7_season_ok (l : Launch) (E : kE) (m0 : Nat) (A0 : Nat) (V0 : Nat) (Z0 : Nat) (D0 : Nat) (W0 : Nat) (T0 : Nat) (th : Int32) (pl : Int32) (hz : Int32) (tl : Int32) (tw : Int32) (tc : Int32) (h : Nat) (w : Nat) (k9 : Nat) (wd : Int32) (s0 : Int32) (z : Int32) (st : Nat → Int32) (he : Nat → Int32) (ke : Nat → Int32) (tu : Nat → Int32) (ca : Nat → Int32) (tr : Nat → Int32) (co : Nat → Int32) (la : Nat → Int32) (V : Nat → Int32) (hG : kG h w) (hTu : ∀ c, c < h * w → ∃ t, t ≤ 100 ∧ tu c = nI t) (hk9 : k9 ≤ 4) : kC E l yX7_season wsX7_season rmX7_season [.ref m0] (List.flatten [oc m0 7 [.ref A0, .ref V0, .ref Z0, .int (nI k9), .int th, .int pl, .int hz, .ref D0, .ref W0, .ref T0, .int tl, .int tw, .int tc], ac E A0 985 (mA h w wd s0 z st he ke tu ca tr co la), ac E V0 3940 V]) kI (fun (r : Int32) (_ : Unit) => r = nI (esN he ke tu (h * w))) (fun _ => List.flatten [oc m0 7 [.ref A0, .ref V0, .ref Z0, .int (nI (svK k9)), .int 0, .int pl, .int hz, .ref D0, .ref W0, .ref T0, .int tl, .int tw, .int tc], ac E A0 985 (mA h w wd s0 (z + 1) st he he (es2 (h * w) he ke tu) ca tr co la), ac E V0 3940 (svA V (mA h w wd s0 z st he ke tu ca tr co la) k9)]) 0 0 := by
  refine k_body (cc := cX7_season) (maxL := 7) (ret := (some .int)) (by decide) rfl (Nat.le_of_ble_eq_true rfl) ?_
  intro pp ee sx mm aa bb me cd H locs AA ls C0 hr hlk hnm hl hw
  obtain ⟨hx, hb, hml, hown, hts⟩ := id C0
  have hl : lv_has ls 7 [(0, .ref m0)] := hl
  have hw : kW E AA sx (List.flatten [oc m0 7 [.ref A0, .ref V0, .ref Z0, .int (nI k9), .int th, .int pl, .int hz, .ref D0, .ref W0, .ref T0, .int tl, .int tw, .int tc], ac E A0 985 (mA h w wd s0 z st he ke tu ca tr co la), ac E V0 3940 V]) H locs := hw
  have hn9 := kG_n hG
  have hG9 := id hG
  obtain ⟨hG1, hG2, hG3, hG4⟩ := hG9
  have hinX7 : ∀ w ∈ u_ws RX7 TX7 13, w ∈ wsX7_season := by decide +kernel
  refine lv_aload_n hx hb dX7_season_0 rfl (lv_at hl 0 rfl) ?_
  refine lv_iconst (v := 0) hx hb dX7_season_1 (by decide) ?_
  refine k_put (pre := []) C0 hw hinX7 tyX7 tyX7_ok nmX7 rfl 4 (by decide) (hts (.fieldLink RX7 32 "SlabDunesModel" "thrown" "I") (by decide +kernel)) rfl rfl (ty := .int) (by decide +kernel) rfl rfl (Nat.le_of_ble_eq_true rfl) dX7_season_2 (fun H locs hw => ?_)
  have hw : kW E AA sx (List.flatten [oc m0 7 [.ref A0, .ref V0, .ref Z0, .int (nI k9), .int 0, .int pl, .int hz, .ref D0, .ref W0, .ref T0, .int tl, .int tw, .int tc], ac E A0 985 (mA h w wd s0 z st he ke tu ca tr co la), ac E V0 3940 V]) H locs := hw
  refine lv_aload_n hx hb dX7_season_5 rfl (lv_at hl 0 rfl) ?_
  refine k_V (As := []) (rest := []) (pre := []) (mid := [oc m0 7 [.ref A0, .ref V0, .ref Z0, .int (nI k9), .int 0, .int pl, .int hz, .ref D0, .ref W0, .ref T0, .int tl, .int tw, .int tc], ac E A0 985 (mA h w wd s0 z st he ke tu ca tr co la), ac E V0 3940 V]) C0 (c_X7_save l E m0 A0 V0 Z0 D0 W0 T0 0 pl hz tl tw tc k9 (mA h w wd s0 z st he ke tu ca tr co la) V (by first | assumption | omega)) (cwV 0 hts gX7_season_X7_save rfl rfl rfl (by decide +kernel) ⟨Nat.le_of_ble_eq_true rfl, Nat.le_of_ble_eq_true rfl⟩) hw rfl (fun _ => [oc m0 7 [.ref A0, .ref V0, .ref Z0, .int (nI (svK k9)), .int 0, .int pl, .int hz, .ref D0, .ref W0, .ref T0, .int tl, .int tw, .int tc], ac E A0 985 (mA h w wd s0 z st he ke tu ca tr co la), ac E V0 3940 (svA V (mA h w wd s0 z st he ke tu ca tr co la) k9)]) (fun _ => rfl) 0 7 rfl rfl rfl rfl hl.1 rfl (Nat.le_of_ble_eq_true rfl) dX7_season_6 ⟨Nat.le_of_ble_eq_true rfl, Nat.le_of_ble_eq_true rfl⟩ (fun r u H locs hq99 hw => ?_)
  have hw : kW E AA sx (List.flatten [oc m0 7 [.ref A0, .ref V0, .ref Z0, .int (nI (svK k9)), .int 0, .int pl, .int hz, .ref D0, .ref W0, .ref T0, .int tl, .int tw, .int tc], ac E A0 985 (mA h w wd s0 z st he ke tu ca tr co la), ac E V0 3940 (svA V (mA h w wd s0 z st he ke tu ca tr co la) k9)]) H locs := hw
  refine W.eq (g2 := F0 mm 9 ls []) rfl ?_
  refine lv_iconst (v := 0) hx hb dX7_season_9 (by decide) ?_
  refine lv_istore_n (lv' := [(1, .int 0), (0, .ref m0)]) hx hb dX7_season_10 rfl hl (by decide) rfl (fun ls hl => ?_)
  refine lv_iconst (v := 0) hx hb dX7_season_11 (by decide) ?_
  refine lv_istore_n (lv' := [(2, .int 0), (1, .int 0), (0, .ref m0)]) hx hb dX7_season_12 rfl hl (by decide) rfl (fun ls hl => ?_)
  have loop13 : ∀ (nn : Nat) (i : Nat) (t9 : Nat → Int32) (k8 : Nat → Int32) (cnt : Nat), (i ≤ h * w) → (∀ j, j < i → t9 j = es1 he ke tu j) → (∀ j, i ≤ j → t9 j = tu j) → (∀ j, j < i → k8 j = he j) → (∀ j, i ≤ j → k8 j = ke j) → (cnt = esN he ke tu i) → h * w - i < nn → ∀ (H : Heap) (locs : List Loc) (ls : Array Slot), lv_has ls 7 [(2, .int (nI i)), (1, .int (nI cnt)), (0, .ref m0)] → kW E AA sx (List.flatten [oc m0 7 [.ref A0, .ref V0, .ref Z0, .int (nI (svK k9)), .int 0, .int pl, .int hz, .ref D0, .ref W0, .ref T0, .int tl, .int tw, .int tc], ac E A0 985 (mA h w wd s0 z st he k8 t9 ca tr co la), ac E V0 3940 (svA V (mA h w wd s0 z st he ke tu ca tr co la) k9)]) H locs → W pp l ee rmX7_season sx mm aa bb me cd H locs 0 0 (kEnd E kI (fun (r : Int32) (_ : Unit) => r = nI (esN he ke tu (h * w))) (fun _ => List.flatten [oc m0 7 [.ref A0, .ref V0, .ref Z0, .int (nI (svK k9)), .int 0, .int pl, .int hz, .ref D0, .ref W0, .ref T0, .int tl, .int tw, .int tc], ac E A0 985 (mA h w wd s0 (z + 1) st he he (es2 (h * w) he ke tu) ca tr co la), ac E V0 3940 (svA V (mA h w wd s0 z st he ke tu ca tr co la) k9)]) bb aa sx AA 0 0) (F0 mm 13 ls []) := by
    intro nn
    induction nn with
    | zero => intro i t9 k8 cnt hi ht1 ht2 hk1 hk2 hcnt hm13; exact absurd hm13 (Nat.not_lt_zero _)
    | succ nn ih13 =>
      intro i t9 k8 cnt hi ht1 ht2 hk1 hk2 hcnt hm13 H locs ls hl hw
      refine lv_iload_n hx hb dX7_season_13 rfl (lv_at hl 0 rfl) ?_
      refine lv_aload_n hx hb dX7_season_14 rfl (lv_at hl 2 rfl) ?_
      refine k_V (As := []) (rest := [.int (nI i)]) (pre := []) (mid := [oc m0 7 [.ref A0, .ref V0, .ref Z0, .int (nI (svK k9)), .int 0, .int pl, .int hz, .ref D0, .ref W0, .ref T0, .int tl, .int tw, .int tc], ac E A0 985 (mA h w wd s0 z st he k8 t9 ca tr co la)]) C0 (c_X7_cells l E m0 A0 V0 Z0 D0 W0 T0 (nI (svK k9)) 0 pl hz tl tw tc h w wd s0 z st he k8 t9 ca tr co la ) (cwV 0 hts gX7_season_X7_cells rfl rfl rfl (by decide +kernel) ⟨Nat.le_of_ble_eq_true rfl, Nat.le_of_ble_eq_true rfl⟩) hw rfl (fun _ => [oc m0 7 [.ref A0, .ref V0, .ref Z0, .int (nI (svK k9)), .int 0, .int pl, .int hz, .ref D0, .ref W0, .ref T0, .int tl, .int tw, .int tc], ac E A0 985 (mA h w wd s0 z st he k8 t9 ca tr co la)]) (fun _ => rfl) 0 7 rfl rfl rfl rfl hl.1 rfl (Nat.le_of_ble_eq_true rfl) dX7_season_15 ⟨Nat.le_of_ble_eq_true rfl, Nat.le_of_ble_eq_true rfl⟩ (fun r u H locs hq99 hw => ?_)
      subst hq99
      have hw : kW E AA sx (List.flatten [oc m0 7 [.ref A0, .ref V0, .ref Z0, .int (nI (svK k9)), .int 0, .int pl, .int hz, .ref D0, .ref W0, .ref T0, .int tl, .int tw, .int tc], ac E A0 985 (mA h w wd s0 z st he k8 t9 ca tr co la), ac E V0 3940 (svA V (mA h w wd s0 z st he ke tu ca tr co la) k9)]) H locs := hw
      refine W.eq (g2 := F0 mm 18 ls [.int (nI (h * w)), .int (nI i)]) rfl ?_
      refine lv_icmp_ge (tgt := 166) hx hb dX7_season_18 (by decide) (fun c18 => ?_) (fun c18 => ?_)
      · have c18 : (h * w) ≤ i := (nI_leI (a := (h * w)) (b := i) (by omega) (by omega)).mp c18
        have hie9 : i = h * w := by omega
        refine lv_aload_n hx hb dX7_season_166 rfl (lv_at hl 2 rfl) ?_
        refine k_get (pre := []) C0 hw hinX7 rfl 0 (by decide) (hts (.fieldLink RX7 7 "SlabDunesModel" "all" "[I") (by decide +kernel)) rfl rfl dX7_season_167 ?_
        refine lv_bipush (v := 8) hx hb dX7_season_170 (by decide) ?_
        refine lv_dup2_11 hx hb dX7_season_172 rfl rfl ?_
        refine k_iald (pre := [oc m0 7 [.ref A0, .ref V0, .ref Z0, .int (nI (svK k9)), .int 0, .int pl, .int hz, .ref D0, .ref W0, .ref T0, .int tl, .int tw, .int tc]]) (l1 := []) C0 hw (i := 8) (kinN (n := 8) (by decide) (by decide)) dX7_season_173 ?_
        refine W.eq (g2 := F0 mm 174 ls [.int z, .int 8, .ref A0]) (congrArg (fun z9 => F0 mm 174 ls [.int z9, .int 8, .ref A0]) (show ((mA h w wd s0 z st he k8 t9 ca tr co la) (Int32.toNatClampNeg 8) : Int32) = z from rfl)) ?_
        refine lv_iconst (v := 1) hx hb dX7_season_174 (by decide) ?_
        refine lv_iadd hx hb dX7_season_175 ?_
        refine k_iast (pre := [oc m0 7 [.ref A0, .ref V0, .ref Z0, .int (nI (svK k9)), .int 0, .int pl, .int hz, .ref D0, .ref W0, .ref T0, .int tl, .int tw, .int tc]]) (l1 := []) C0 hw (i := 8) (kinN (n := 8) (by decide) (by decide)) dX7_season_176 (fun H locs hw => ?_)
        have hw : kW E AA sx (List.flatten [oc m0 7 [.ref A0, .ref V0, .ref Z0, .int (nI (svK k9)), .int 0, .int pl, .int hz, .ref D0, .ref W0, .ref T0, .int tl, .int tw, .int tc], ac E A0 985 (upd (mA h w wd s0 z st he k8 t9 ca tr co la) (Int32.toNatClampNeg 8) (z + 1)), ac E V0 3940 (svA V (mA h w wd s0 z st he ke tu ca tr co la) k9)]) H locs := hw
        have hw : kW E AA sx (List.flatten [oc m0 7 [.ref A0, .ref V0, .ref Z0, .int (nI (svK k9)), .int 0, .int pl, .int hz, .ref D0, .ref W0, .ref T0, .int tl, .int tw, .int tc], ac E A0 985 (mA h w wd s0 (z + 1) st he k8 t9 ca tr co la), ac E V0 3940 (svA V (mA h w wd s0 z st he ke tu ca tr co la) k9)]) H locs := kW.arr (pre := [oc m0 7 [.ref A0, .ref V0, .ref Z0, .int (nI (svK k9)), .int 0, .int pl, .int hz, .ref D0, .ref W0, .ref T0, .int tl, .int tw, .int tc]]) (l1 := []) hw (fun j9 _ => mA_wz j9)
        have hw : kW E AA sx (List.flatten [oc m0 7 [.ref A0, .ref V0, .ref Z0, .int (nI (svK k9)), .int 0, .int pl, .int hz, .ref D0, .ref W0, .ref T0, .int tl, .int tw, .int tc], ac E A0 985 (mA h w wd s0 (z + 1) st he he (es2 (h * w) he ke tu) ca tr co la), ac E V0 3940 (svA V (mA h w wd s0 z st he ke tu ca tr co la) k9)]) H locs := kW.arr (pre := [oc m0 7 [.ref A0, .ref V0, .ref Z0, .int (nI (svK k9)), .int 0, .int pl, .int hz, .ref D0, .ref W0, .ref T0, .int tl, .int tw, .int tc]]) (l1 := []) hw (fun j9 _ => mA_eq (fun _ _ => rfl) (fun c9 h99 => ⟨rfl, hk1 c9 (by omega), by rw [ht1 c9 (by omega)]; exact (if_pos h99).symm, rfl, rfl⟩) (fun _ _ => rfl) (fun _ _ => rfl) j9)
        refine lv_iload_n hx hb dX7_season_177 rfl (lv_at hl 1 rfl) ?_
        -- leaf 0
        exact k_iret C0 hr hlk hw () (rfl) (by rw [hcnt, hie9]) (Nat.le_of_ble_eq_true rfl) (Nat.le_of_ble_eq_true rfl) dX7_season_178
      · have c18 : ¬ (h * w) ≤ i := fun h99 => c18 ((nI_leI (a := (h * w)) (b := i) (by omega) (by omega)).mpr h99)
        obtain ⟨t0, ht0, et0⟩ := hTu i (by omega)
        have hes9 : sn2 (sn1 (he i - ke i) (tu i)) = es1 he ke tu i := sn_es ht0 et0
        refine lv_aload_n hx hb dX7_season_21 rfl (lv_at hl 2 rfl) ?_
        refine lv_iload_n hx hb dX7_season_22 rfl (lv_at hl 0 rfl) ?_
        refine lv_iconst (v := 0) hx hb dX7_season_23 (by decide) ?_
        refine k_V (As := [.int (nI i), .int 0]) (rest := []) (pre := []) (mid := [oc m0 7 [.ref A0, .ref V0, .ref Z0, .int (nI (svK k9)), .int 0, .int pl, .int hz, .ref D0, .ref W0, .ref T0, .int tl, .int tw, .int tc], ac E A0 985 (mA h w wd s0 z st he k8 t9 ca tr co la)]) C0 (c_X7_of0 l E m0 A0 V0 Z0 D0 W0 T0 (nI (svK k9)) 0 pl hz tl tw tc h w wd s0 z st he k8 t9 ca tr co la i (by first | assumption | omega) (by first | assumption | omega)) (cwV 2 hts gX7_season_X7_of rfl rfl rfl (by decide +kernel) ⟨Nat.le_of_ble_eq_true rfl, Nat.le_of_ble_eq_true rfl⟩) hw rfl (fun _ => [oc m0 7 [.ref A0, .ref V0, .ref Z0, .int (nI (svK k9)), .int 0, .int pl, .int hz, .ref D0, .ref W0, .ref T0, .int tl, .int tw, .int tc], ac E A0 985 (mA h w wd s0 z st he k8 t9 ca tr co la)]) (fun _ => rfl) 0 7 rfl rfl rfl rfl hl.1 rfl (Nat.le_of_ble_eq_true rfl) dX7_season_24 ⟨Nat.le_of_ble_eq_true rfl, Nat.le_of_ble_eq_true rfl⟩ (fun r u H locs hq99 hw => ?_)
        subst hq99
        have hw : kW E AA sx (List.flatten [oc m0 7 [.ref A0, .ref V0, .ref Z0, .int (nI (svK k9)), .int 0, .int pl, .int hz, .ref D0, .ref W0, .ref T0, .int tl, .int tw, .int tc], ac E A0 985 (mA h w wd s0 z st he k8 t9 ca tr co la), ac E V0 3940 (svA V (mA h w wd s0 z st he ke tu ca tr co la) k9)]) H locs := hw
        refine W.eq (g2 := F0 mm 27 ls [.int (he i)]) rfl ?_
        refine lv_aload_n hx hb dX7_season_27 rfl (lv_at hl 2 rfl) ?_
        refine lv_iload_n hx hb dX7_season_28 rfl (lv_at hl 0 rfl) ?_
        refine lv_iconst (v := 4) hx hb dX7_season_29 (by decide) ?_
        refine k_V (As := [.int (nI i), .int 4]) (rest := [.int (he i)]) (pre := []) (mid := [oc m0 7 [.ref A0, .ref V0, .ref Z0, .int (nI (svK k9)), .int 0, .int pl, .int hz, .ref D0, .ref W0, .ref T0, .int tl, .int tw, .int tc], ac E A0 985 (mA h w wd s0 z st he k8 t9 ca tr co la)]) C0 (c_X7_of4 l E m0 A0 V0 Z0 D0 W0 T0 (nI (svK k9)) 0 pl hz tl tw tc h w wd s0 z st he k8 t9 ca tr co la i (by first | assumption | omega) (by first | assumption | omega)) (cwV 2 hts gX7_season_X7_of rfl rfl rfl (by decide +kernel) ⟨Nat.le_of_ble_eq_true rfl, Nat.le_of_ble_eq_true rfl⟩) hw rfl (fun _ => [oc m0 7 [.ref A0, .ref V0, .ref Z0, .int (nI (svK k9)), .int 0, .int pl, .int hz, .ref D0, .ref W0, .ref T0, .int tl, .int tw, .int tc], ac E A0 985 (mA h w wd s0 z st he k8 t9 ca tr co la)]) (fun _ => rfl) 0 7 rfl rfl rfl rfl hl.1 rfl (Nat.le_of_ble_eq_true rfl) dX7_season_30 ⟨Nat.le_of_ble_eq_true rfl, Nat.le_of_ble_eq_true rfl⟩ (fun r u H locs hq99 hw => ?_)
        subst hq99
        have hw : kW E AA sx (List.flatten [oc m0 7 [.ref A0, .ref V0, .ref Z0, .int (nI (svK k9)), .int 0, .int pl, .int hz, .ref D0, .ref W0, .ref T0, .int tl, .int tw, .int tc], ac E A0 985 (mA h w wd s0 z st he k8 t9 ca tr co la), ac E V0 3940 (svA V (mA h w wd s0 z st he ke tu ca tr co la) k9)]) H locs := hw
        refine W.eq (g2 := F0 mm 33 ls [.int (k8 i), .int (he i)]) rfl ?_
        refine W.eq (g2 := F0 mm 33 ls [.int (ke i), .int (he i)]) (congrArg (fun z9 => F0 mm 33 ls [.int z9, .int (he i)]) (show (k8 i : Int32) = ke i from hk2 i (Nat.le_refl _))) ?_
        refine lv_isub hx hb dX7_season_33 ?_
        refine lv_istore_n (lv' := [(3, .int ((he i) - (ke i))), (2, .int (nI i)), (1, .int (nI cnt)), (0, .ref m0)]) hx hb dX7_season_34 rfl hl (by decide) rfl (fun ls hl => ?_)
        refine lv_aload_n hx hb dX7_season_35 rfl (lv_at hl 3 rfl) ?_
        refine lv_iload_n hx hb dX7_season_36 rfl (lv_at hl 1 rfl) ?_
        refine lv_iconst (v := 1) hx hb dX7_season_37 (by decide) ?_
        refine k_V (As := [.int (nI i), .int 1]) (rest := []) (pre := []) (mid := [oc m0 7 [.ref A0, .ref V0, .ref Z0, .int (nI (svK k9)), .int 0, .int pl, .int hz, .ref D0, .ref W0, .ref T0, .int tl, .int tw, .int tc], ac E A0 985 (mA h w wd s0 z st he k8 t9 ca tr co la)]) C0 (c_X7_of1 l E m0 A0 V0 Z0 D0 W0 T0 (nI (svK k9)) 0 pl hz tl tw tc h w wd s0 z st he k8 t9 ca tr co la i (by first | assumption | omega) (by first | assumption | omega)) (cwV 2 hts gX7_season_X7_of rfl rfl rfl (by decide +kernel) ⟨Nat.le_of_ble_eq_true rfl, Nat.le_of_ble_eq_true rfl⟩) hw rfl (fun _ => [oc m0 7 [.ref A0, .ref V0, .ref Z0, .int (nI (svK k9)), .int 0, .int pl, .int hz, .ref D0, .ref W0, .ref T0, .int tl, .int tw, .int tc], ac E A0 985 (mA h w wd s0 z st he k8 t9 ca tr co la)]) (fun _ => rfl) 0 7 rfl rfl rfl rfl hl.1 rfl (Nat.le_of_ble_eq_true rfl) dX7_season_38 ⟨Nat.le_of_ble_eq_true rfl, Nat.le_of_ble_eq_true rfl⟩ (fun r u H locs hq99 hw => ?_)
        subst hq99
        have hw : kW E AA sx (List.flatten [oc m0 7 [.ref A0, .ref V0, .ref Z0, .int (nI (svK k9)), .int 0, .int pl, .int hz, .ref D0, .ref W0, .ref T0, .int tl, .int tw, .int tc], ac E A0 985 (mA h w wd s0 z st he k8 t9 ca tr co la), ac E V0 3940 (svA V (mA h w wd s0 z st he ke tu ca tr co la) k9)]) H locs := hw
        refine W.eq (g2 := F0 mm 41 ls [.int (t9 i)]) rfl ?_
        refine W.eq (g2 := F0 mm 41 ls [.int (tu i)]) (congrArg (fun z9 => F0 mm 41 ls [.int z9]) (show (t9 i : Int32) = tu i from ht2 i (Nat.le_refl _))) ?_
        refine lv_istore (lv' := [(4, .int (tu i)), (3, .int ((he i) - (ke i))), (2, .int (nI i)), (1, .int (nI cnt)), (0, .ref m0)]) hx hb dX7_season_41 hl (by decide) rfl (fun ls hl => ?_)
        have join43 : ∀ (H : Heap) (locs : List Loc) (ls : Array Slot), lv_has ls 7 [(4, .int (tu i)), (3, .int ((he i) - (ke i))), (2, .int (nI i)), (1, .int (nI cnt)), (0, .ref m0)] → kW E AA sx (List.flatten [oc m0 7 [.ref A0, .ref V0, .ref Z0, .int (nI (svK k9)), .int 0, .int pl, .int hz, .ref D0, .ref W0, .ref T0, .int tl, .int tw, .int tc], ac E A0 985 (mA h w wd s0 z st he k8 t9 ca tr co la), ac E V0 3940 (svA V (mA h w wd s0 z st he ke tu ca tr co la) k9)]) H locs → W pp l ee rmX7_season sx mm aa bb me cd H locs 0 0 (kEnd E kI (fun (r : Int32) (_ : Unit) => r = nI (esN he ke tu (h * w))) (fun _ => List.flatten [oc m0 7 [.ref A0, .ref V0, .ref Z0, .int (nI (svK k9)), .int 0, .int pl, .int hz, .ref D0, .ref W0, .ref T0, .int tl, .int tw, .int tc], ac E A0 985 (mA h w wd s0 (z + 1) st he he (es2 (h * w) he ke tu) ca tr co la), ac E V0 3940 (svA V (mA h w wd s0 z st he ke tu ca tr co la) k9)]) bb aa sx AA 0 0) (F0 mm 67 ls [.int (snF (he i - ke i) (tu i))]) := by
          intro H locs ls hl hw
          refine lv_istore (lv' := [(5, .int (snF (he i - ke i) (tu i))), (4, .int (tu i)), (3, .int ((he i) - (ke i))), (2, .int (nI i)), (1, .int (nI cnt)), (0, .ref m0)]) hx hb dX7_season_67 hl (by decide) rfl (fun ls hl => ?_)
          have join69 : ∀ (H : Heap) (locs : List Loc) (ls : Array Slot), lv_has ls 7 [(5, .int (snF (he i - ke i) (tu i))), (4, .int (tu i)), (3, .int ((he i) - (ke i))), (2, .int (nI i)), (1, .int (nI cnt)), (0, .ref m0)] → kW E AA sx (List.flatten [oc m0 7 [.ref A0, .ref V0, .ref Z0, .int (nI (svK k9)), .int 0, .int pl, .int hz, .ref D0, .ref W0, .ref T0, .int tl, .int tw, .int tc], ac E A0 985 (mA h w wd s0 z st he k8 t9 ca tr co la), ac E V0 3940 (svA V (mA h w wd s0 z st he ke tu ca tr co la) k9)]) H locs → W pp l ee rmX7_season sx mm aa bb me cd H locs 0 0 (kEnd E kI (fun (r : Int32) (_ : Unit) => r = nI (esN he ke tu (h * w))) (fun _ => List.flatten [oc m0 7 [.ref A0, .ref V0, .ref Z0, .int (nI (svK k9)), .int 0, .int pl, .int hz, .ref D0, .ref W0, .ref T0, .int tl, .int tw, .int tc], ac E A0 985 (mA h w wd s0 (z + 1) st he he (es2 (h * w) he ke tu) ca tr co la), ac E V0 3940 (svA V (mA h w wd s0 z st he ke tu ca tr co la) k9)]) bb aa sx AA 0 0) (F0 mm 96 ls [.int (sn1 (he i - ke i) (tu i))]) := by
            intro H locs ls hl hw
            refine lv_istore (lv' := [(6, .int (sn1 (he i - ke i) (tu i))), (5, .int (snF (he i - ke i) (tu i))), (4, .int (tu i)), (3, .int ((he i) - (ke i))), (2, .int (nI i)), (1, .int (nI cnt)), (0, .ref m0)]) hx hb dX7_season_96 hl (by decide) rfl (fun ls hl => ?_)
            refine lv_aload_n hx hb dX7_season_98 rfl (lv_at hl 6 rfl) ?_
            refine k_get (pre := []) C0 hw hinX7 rfl 0 (by decide) (hts (.fieldLink RX7 7 "SlabDunesModel" "all" "[I") (by decide +kernel)) rfl rfl dX7_season_99 ?_
            refine lv_iload_n hx hb dX7_season_102 rfl (lv_at hl 4 rfl) ?_
            refine lv_iconst (v := 1) hx hb dX7_season_103 (by decide) ?_
            refine k_S (As := [.int (nI i), .int 1]) (rest := [.ref A0]) (pre := []) (mid := []) C0 (c_X7_at l E i 1 ) (va_cwS 2 hts gX7_season_X7_at rfl rfl rfl (by decide +kernel) ⟨Nat.le_of_ble_eq_true rfl, Nat.le_of_ble_eq_true rfl⟩) hw rfl (fun _ => []) (fun _ => rfl) rfl hl.1 rfl (Nat.le_of_ble_eq_true rfl) dX7_season_104 ⟨Nat.le_of_ble_eq_true rfl, Nat.le_of_ble_eq_true rfl⟩ (fun r u H locs hq99 hw => ?_)
            subst hq99
            have hw : kW E AA sx (List.flatten [oc m0 7 [.ref A0, .ref V0, .ref Z0, .int (nI (svK k9)), .int 0, .int pl, .int hz, .ref D0, .ref W0, .ref T0, .int tl, .int tw, .int tc], ac E A0 985 (mA h w wd s0 z st he k8 t9 ca tr co la), ac E V0 3940 (svA V (mA h w wd s0 z st he ke tu ca tr co la) k9)]) H locs := hw
            refine W.eq (g2 := F0 mm 107 ls [.int (nI (25 + 5 * i + 1)), .ref A0]) rfl ?_
            have join107 : ∀ (H : Heap) (locs : List Loc) (ls : Array Slot), lv_has ls 7 [(6, .int (sn1 (he i - ke i) (tu i))), (5, .int (snF (he i - ke i) (tu i))), (4, .int (tu i)), (3, .int ((he i) - (ke i))), (2, .int (nI i)), (1, .int (nI cnt)), (0, .ref m0)] → kW E AA sx (List.flatten [oc m0 7 [.ref A0, .ref V0, .ref Z0, .int (nI (svK k9)), .int 0, .int pl, .int hz, .ref D0, .ref W0, .ref T0, .int tl, .int tw, .int tc], ac E A0 985 (mA h w wd s0 z st he k8 t9 ca tr co la), ac E V0 3940 (svA V (mA h w wd s0 z st he ke tu ca tr co la) k9)]) H locs → W pp l ee rmX7_season sx mm aa bb me cd H locs 0 0 (kEnd E kI (fun (r : Int32) (_ : Unit) => r = nI (esN he ke tu (h * w))) (fun _ => List.flatten [oc m0 7 [.ref A0, .ref V0, .ref Z0, .int (nI (svK k9)), .int 0, .int pl, .int hz, .ref D0, .ref W0, .ref T0, .int tl, .int tw, .int tc], ac E A0 985 (mA h w wd s0 (z + 1) st he he (es2 (h * w) he ke tu) ca tr co la), ac E V0 3940 (svA V (mA h w wd s0 z st he ke tu ca tr co la) k9)]) bb aa sx AA 0 0) (F0 mm 130 ls [.int (es1 he ke tu i), .int (nI (25 + 5 * i + 1)), .ref A0]) := by
              intro H locs ls hl hw
              refine k_iast (pre := [oc m0 7 [.ref A0, .ref V0, .ref Z0, .int (nI (svK k9)), .int 0, .int pl, .int hz, .ref D0, .ref W0, .ref T0, .int tl, .int tw, .int tc]]) (l1 := []) C0 hw (i := nI (25 + 5 * i + 1)) (kinN (by omega) (by decide)) dX7_season_130 (fun H locs hw => ?_)
              have hw : kW E AA sx (List.flatten [oc m0 7 [.ref A0, .ref V0, .ref Z0, .int (nI (svK k9)), .int 0, .int pl, .int hz, .ref D0, .ref W0, .ref T0, .int tl, .int tw, .int tc], ac E A0 985 (upd (mA h w wd s0 z st he k8 t9 ca tr co la) (Int32.toNatClampNeg (nI (25 + 5 * i + 1))) (es1 he ke tu i)), ac E V0 3940 (svA V (mA h w wd s0 z st he ke tu ca tr co la) k9)]) H locs := hw
              have hw : kW E AA sx (List.flatten [oc m0 7 [.ref A0, .ref V0, .ref Z0, .int (nI (svK k9)), .int 0, .int pl, .int hz, .ref D0, .ref W0, .ref T0, .int tl, .int tw, .int tc], ac E A0 985 (mA h w wd s0 z st he k8 (upd t9 i (es1 he ke tu i)) ca tr co la), ac E V0 3940 (svA V (mA h w wd s0 z st he ke tu ca tr co la) k9)]) H locs := kW.arr (pre := [oc m0 7 [.ref A0, .ref V0, .ref Z0, .int (nI (svK k9)), .int 0, .int pl, .int hz, .ref D0, .ref W0, .ref T0, .int tl, .int tw, .int tc]]) (l1 := []) hw (fun j9 _ => mA_wt (show i < h * w by omega) hn9.1 j9)
              refine lv_aload_n hx hb dX7_season_131 rfl (lv_at hl 6 rfl) ?_
              refine k_get (pre := []) C0 hw hinX7 rfl 0 (by decide) (hts (.fieldLink RX7 7 "SlabDunesModel" "all" "[I") (by decide +kernel)) rfl rfl dX7_season_132 ?_
              refine lv_iload_n hx hb dX7_season_135 rfl (lv_at hl 4 rfl) ?_
              refine lv_iconst (v := 4) hx hb dX7_season_136 (by decide) ?_
              refine k_S (As := [.int (nI i), .int 4]) (rest := [.ref A0]) (pre := []) (mid := []) C0 (c_X7_at l E i 4 ) (va_cwS 2 hts gX7_season_X7_at rfl rfl rfl (by decide +kernel) ⟨Nat.le_of_ble_eq_true rfl, Nat.le_of_ble_eq_true rfl⟩) hw rfl (fun _ => []) (fun _ => rfl) rfl hl.1 rfl (Nat.le_of_ble_eq_true rfl) dX7_season_137 ⟨Nat.le_of_ble_eq_true rfl, Nat.le_of_ble_eq_true rfl⟩ (fun r u H locs hq99 hw => ?_)
              subst hq99
              have hw : kW E AA sx (List.flatten [oc m0 7 [.ref A0, .ref V0, .ref Z0, .int (nI (svK k9)), .int 0, .int pl, .int hz, .ref D0, .ref W0, .ref T0, .int tl, .int tw, .int tc], ac E A0 985 (mA h w wd s0 z st he k8 (upd t9 i (es1 he ke tu i)) ca tr co la), ac E V0 3940 (svA V (mA h w wd s0 z st he ke tu ca tr co la) k9)]) H locs := hw
              refine W.eq (g2 := F0 mm 140 ls [.int (nI (25 + 5 * i + 4)), .ref A0]) rfl ?_
              refine lv_aload_n hx hb dX7_season_140 rfl (lv_at hl 6 rfl) ?_
              refine lv_iload_n hx hb dX7_season_141 rfl (lv_at hl 4 rfl) ?_
              refine lv_iconst (v := 0) hx hb dX7_season_142 (by decide) ?_
              refine k_V (As := [.int (nI i), .int 0]) (rest := [.int (nI (25 + 5 * i + 4)), .ref A0]) (pre := []) (mid := [oc m0 7 [.ref A0, .ref V0, .ref Z0, .int (nI (svK k9)), .int 0, .int pl, .int hz, .ref D0, .ref W0, .ref T0, .int tl, .int tw, .int tc], ac E A0 985 (mA h w wd s0 z st he k8 (upd t9 i (es1 he ke tu i)) ca tr co la)]) C0 (c_X7_of0 l E m0 A0 V0 Z0 D0 W0 T0 (nI (svK k9)) 0 pl hz tl tw tc h w wd s0 z st he k8 (upd t9 i (es1 he ke tu i)) ca tr co la i (by first | assumption | omega) (by first | assumption | omega)) (cwV 2 hts gX7_season_X7_of rfl rfl rfl (by decide +kernel) ⟨Nat.le_of_ble_eq_true rfl, Nat.le_of_ble_eq_true rfl⟩) hw rfl (fun _ => [oc m0 7 [.ref A0, .ref V0, .ref Z0, .int (nI (svK k9)), .int 0, .int pl, .int hz, .ref D0, .ref W0, .ref T0, .int tl, .int tw, .int tc], ac E A0 985 (mA h w wd s0 z st he k8 (upd t9 i (es1 he ke tu i)) ca tr co la)]) (fun _ => rfl) 0 7 rfl rfl rfl rfl hl.1 rfl (Nat.le_of_ble_eq_true rfl) dX7_season_143 ⟨Nat.le_of_ble_eq_true rfl, Nat.le_of_ble_eq_true rfl⟩ (fun r u H locs hq99 hw => ?_)
              subst hq99
              have hw : kW E AA sx (List.flatten [oc m0 7 [.ref A0, .ref V0, .ref Z0, .int (nI (svK k9)), .int 0, .int pl, .int hz, .ref D0, .ref W0, .ref T0, .int tl, .int tw, .int tc], ac E A0 985 (mA h w wd s0 z st he k8 (upd t9 i (es1 he ke tu i)) ca tr co la), ac E V0 3940 (svA V (mA h w wd s0 z st he ke tu ca tr co la) k9)]) H locs := hw
              refine W.eq (g2 := F0 mm 146 ls [.int (he i), .int (nI (25 + 5 * i + 4)), .ref A0]) rfl ?_
              refine k_iast (pre := [oc m0 7 [.ref A0, .ref V0, .ref Z0, .int (nI (svK k9)), .int 0, .int pl, .int hz, .ref D0, .ref W0, .ref T0, .int tl, .int tw, .int tc]]) (l1 := []) C0 hw (i := nI (25 + 5 * i + 4)) (kinN (by omega) (by decide)) dX7_season_146 (fun H locs hw => ?_)
              have hw : kW E AA sx (List.flatten [oc m0 7 [.ref A0, .ref V0, .ref Z0, .int (nI (svK k9)), .int 0, .int pl, .int hz, .ref D0, .ref W0, .ref T0, .int tl, .int tw, .int tc], ac E A0 985 (upd (mA h w wd s0 z st he k8 (upd t9 i (es1 he ke tu i)) ca tr co la) (Int32.toNatClampNeg (nI (25 + 5 * i + 4))) (he i)), ac E V0 3940 (svA V (mA h w wd s0 z st he ke tu ca tr co la) k9)]) H locs := hw
              have hw : kW E AA sx (List.flatten [oc m0 7 [.ref A0, .ref V0, .ref Z0, .int (nI (svK k9)), .int 0, .int pl, .int hz, .ref D0, .ref W0, .ref T0, .int tl, .int tw, .int tc], ac E A0 985 (mA h w wd s0 z st he (upd k8 i (he i)) (upd t9 i (es1 he ke tu i)) ca tr co la), ac E V0 3940 (svA V (mA h w wd s0 z st he ke tu ca tr co la) k9)]) H locs := kW.arr (pre := [oc m0 7 [.ref A0, .ref V0, .ref Z0, .int (nI (svK k9)), .int 0, .int pl, .int hz, .ref D0, .ref W0, .ref T0, .int tl, .int tw, .int tc]]) (l1 := []) hw (fun j9 _ => mA_wk (show i < h * w by omega) hn9.1 j9)
              refine lv_iload_n hx hb dX7_season_147 rfl (lv_at hl 5 rfl) ?_
              refine lv_iload hx hb dX7_season_148 (lv_at hl 1 rfl) ?_
              refine lv_if_eq (tgt := 157) hx hb dX7_season_150 (by decide) (fun c150 => ?_) (fun c150 => ?_)
              · refine lv_iconst (v := 0) hx hb dX7_season_157 (by decide) ?_
                refine lv_iadd hx hb dX7_season_158 ?_
                refine W.eq (g2 := F0 mm 159 ls [.int (nI cnt)]) (congrArg (fun z9 => F0 mm 159 ls [.int z9]) (show ((nI cnt) + 0 : Int32) = nI cnt from Int32.add_zero _)) ?_
                refine lv_istore_n (lv' := [(1, .int (nI cnt)), (6, .int (sn1 (he i - ke i) (tu i))), (5, .int (snF (he i - ke i) (tu i))), (4, .int (tu i)), (3, .int ((he i) - (ke i))), (2, .int (nI i)), (0, .ref m0)]) hx hb dX7_season_159 rfl hl (by decide) rfl (fun ls hl => ?_)
                refine lv_iinc (v := nI (i + 1)) (lv' := [(2, .int (nI (i + 1))), (1, .int (nI cnt)), (6, .int (sn1 (he i - ke i) (tu i))), (5, .int (snF (he i - ke i) (tu i))), (4, .int (tu i)), (3, .int ((he i) - (ke i))), (0, .ref m0)]) hx hb dX7_season_160 hl (k := 5) rfl (nI_1 _) (by decide) rfl (fun ls hl => ?_)
                refine lv_goto (tgt := 13) hx hb dX7_season_163 (by decide) ?_
                -- back 0
                exact ih13 (i + 1) (upd t9 i (es1 he ke tu i)) (upd k8 i (he i)) cnt (by first | assumption | omega) (kup_lo ht1 rfl) (kup_hi ht2) (kup_lo hk1 rfl) (kup_hi hk2) ((snF_n hcnt).1 c150) (by omega) H _ ls (lv_sub hl [0, 1, 6] rfl) hw
              · refine lv_iconst (v := 1) hx hb dX7_season_153 (by decide) ?_
                refine lv_goto (tgt := 158) hx hb dX7_season_154 (by decide) ?_
                refine lv_iadd hx hb dX7_season_158 ?_
                refine W.eq (g2 := F0 mm 159 ls [.int (nI (cnt + 1))]) (congrArg (fun z9 => F0 mm 159 ls [.int z9]) (show ((nI cnt) + 1 : Int32) = nI (cnt + 1) from nI_1 _)) ?_
                refine lv_istore_n (lv' := [(1, .int (nI (cnt + 1))), (6, .int (sn1 (he i - ke i) (tu i))), (5, .int (snF (he i - ke i) (tu i))), (4, .int (tu i)), (3, .int ((he i) - (ke i))), (2, .int (nI i)), (0, .ref m0)]) hx hb dX7_season_159 rfl hl (by decide) rfl (fun ls hl => ?_)
                refine lv_iinc (v := nI (i + 1)) (lv' := [(2, .int (nI (i + 1))), (1, .int (nI (cnt + 1))), (6, .int (sn1 (he i - ke i) (tu i))), (5, .int (snF (he i - ke i) (tu i))), (4, .int (tu i)), (3, .int ((he i) - (ke i))), (0, .ref m0)]) hx hb dX7_season_160 hl (k := 5) rfl (nI_1 _) (by decide) rfl (fun ls hl => ?_)
                refine lv_goto (tgt := 13) hx hb dX7_season_163 (by decide) ?_
                -- back 1
                exact ih13 (i + 1) (upd t9 i (es1 he ke tu i)) (upd k8 i (he i)) (cnt + 1) (by first | assumption | omega) (kup_lo ht1 rfl) (kup_hi ht2) (kup_lo hk1 rfl) (kup_hi hk2) ((snF_n hcnt).2 c150) (by omega) H _ ls (lv_sub hl [0, 1, 6] rfl) hw
            refine lv_iload hx hb dX7_season_107 (lv_at hl 0 rfl) ?_
            refine lv_if_ge (tgt := 116) hx hb dX7_season_109 (by decide) (fun c109 => ?_) (fun c109 => ?_)
            · refine lv_iload hx hb dX7_season_116 (lv_at hl 0 rfl) ?_
              refine lv_bipush (v := 100) hx hb dX7_season_118 (by decide) ?_
              refine lv_icmp_le (tgt := 128) hx hb dX7_season_120 (by decide) (fun c120 => ?_) (fun c120 => ?_)
              · refine lv_iload hx hb dX7_season_128 (lv_at hl 0 rfl) ?_
                refine W.eq (g2 := F0 mm 130 ls [.int (es1 he ke tu i), .int (nI (25 + 5 * i + 1)), .ref A0]) (congrArg (fun z9 => F0 mm 130 ls [.int z9, .int (nI (25 + 5 * i + 1)), .ref A0]) (show (sn1 (he i - ke i) (tu i) : Int32) = es1 he ke tu i from by rw [← hes9, sn2, if_neg (Int32.not_lt.mpr c109), if_neg (Int32.not_lt.mpr c120)])) ?_
                exact join107 H _ ls (lv_sub hl [0, 1, 2, 3, 4, 5, 6] rfl) hw
              · refine lv_bipush (v := 100) hx hb dX7_season_123 (by decide) ?_
                refine lv_goto (tgt := 130) hx hb dX7_season_125 (by decide) ?_
                refine W.eq (g2 := F0 mm 130 ls [.int (es1 he ke tu i), .int (nI (25 + 5 * i + 1)), .ref A0]) (congrArg (fun z9 => F0 mm 130 ls [.int z9, .int (nI (25 + 5 * i + 1)), .ref A0]) (show (100 : Int32) = es1 he ke tu i from by rw [← hes9, sn2, if_neg (Int32.not_lt.mpr c109), if_pos (Int32.not_le.mp c120)])) ?_
                exact join107 H _ ls (lv_sub hl [0, 1, 2, 3, 4, 5, 6] rfl) hw
            · refine lv_iconst (v := 0) hx hb dX7_season_112 (by decide) ?_
              refine lv_goto (tgt := 130) hx hb dX7_season_113 (by decide) ?_
              refine W.eq (g2 := F0 mm 130 ls [.int (es1 he ke tu i), .int (nI (25 + 5 * i + 1)), .ref A0]) (congrArg (fun z9 => F0 mm 130 ls [.int z9, .int (nI (25 + 5 * i + 1)), .ref A0]) (show (0 : Int32) = es1 he ke tu i from by rw [← hes9, sn2, if_pos (Int32.not_le.mp c109)])) ?_
              exact join107 H _ ls (lv_sub hl [0, 1, 2, 3, 4, 5, 6] rfl) hw
          refine lv_iload hx hb dX7_season_69 (lv_at hl 0 rfl) ?_
          refine lv_if_eq (tgt := 82) hx hb dX7_season_71 (by decide) (fun c71 => ?_) (fun c71 => ?_)
          · refine lv_iload hx hb dX7_season_82 (lv_at hl 1 rfl) ?_
            refine lv_if_le (tgt := 95) hx hb dX7_season_84 (by decide) (fun c84 => ?_) (fun c84 => ?_)
            · refine lv_iconst (v := 0) hx hb dX7_season_95 (by decide) ?_
              refine W.eq (g2 := F0 mm 96 ls [.int (sn1 (he i - ke i) (tu i))]) (congrArg (fun z9 => F0 mm 96 ls [.int z9]) (show (0 : Int32) = sn1 (he i - ke i) (tu i) from by rw [sn1, if_neg (kb10t c71), if_pos c84])) ?_
              exact join69 H _ ls (lv_sub hl [0, 1, 2, 3, 4, 5] rfl) hw
            · refine lv_iload hx hb dX7_season_87 (lv_at hl 1 rfl) ?_
              refine lv_bipush (v := 10) hx hb dX7_season_89 (by decide) ?_
              refine lv_iadd hx hb dX7_season_91 ?_
              refine lv_goto (tgt := 96) hx hb dX7_season_92 (by decide) ?_
              refine W.eq (g2 := F0 mm 96 ls [.int (sn1 (he i - ke i) (tu i))]) (congrArg (fun z9 => F0 mm 96 ls [.int z9]) (show ((tu i) + 10 : Int32) = sn1 (he i - ke i) (tu i) from by rw [sn1, if_neg (kb10t c71), if_neg c84])) ?_
              exact join69 H _ ls (lv_sub hl [0, 1, 2, 3, 4, 5] rfl) hw
          · refine lv_iload hx hb dX7_season_74 (lv_at hl 1 rfl) ?_
            refine lv_bipush (v := 30) hx hb dX7_season_76 (by decide) ?_
            refine lv_isub hx hb dX7_season_78 ?_
            refine lv_goto (tgt := 96) hx hb dX7_season_79 (by decide) ?_
            refine W.eq (g2 := F0 mm 96 ls [.int (sn1 (he i - ke i) (tu i))]) (congrArg (fun z9 => F0 mm 96 ls [.int z9]) (show ((tu i) - 30 : Int32) = sn1 (he i - ke i) (tu i) from by rw [sn1, if_pos (kb10f c71)])) ?_
            exact join69 H _ ls (lv_sub hl [0, 1, 2, 3, 4, 5] rfl) hw
        refine lv_iload hx hb dX7_season_43 (lv_at hl 0 rfl) ?_
        refine lv_if_le (tgt := 66) hx hb dX7_season_45 (by decide) (fun c45 => ?_) (fun c45 => ?_)
        · refine lv_iconst (v := 0) hx hb dX7_season_66 (by decide) ?_
          refine W.eq (g2 := F0 mm 67 ls [.int (snF (he i - ke i) (tu i))]) (congrArg (fun z9 => F0 mm 67 ls [.int z9]) (show (0 : Int32) = snF (he i - ke i) (tu i) from (if_neg (fun h => h.1 c45)).symm)) ?_
          exact join43 H _ ls (lv_sub hl [0, 1, 2, 3, 4] rfl) hw
        · refine lv_iload_n hx hb dX7_season_48 rfl (lv_at hl 1 rfl) ?_
          refine lv_i2l (v := Int32.toInt64 ((he i) - (ke i))) hx hb dX7_season_49 rfl ?_
          refine lv_ldc2 (v := (-2)) hx hb hown (hts (.constantLong RX7 168 (-2)) (by decide +kernel)) dX7_season_50 ?_
          refine lv_ldc2 (v := 2) hx hb hown (hts (.constantLong RX7 93 2) (by decide +kernel)) dX7_season_53 ?_
          refine k_S (As := [.long (Int32.toInt64 ((he i) - (ke i))), .long (-2), .long 2]) (rest := []) (pre := []) (mid := []) C0 (c_X7_in_m2_2 l E ((he i) - (ke i)) ) (va_cwS 3 hts gX7_season_X7_in rfl rfl rfl (by decide +kernel) ⟨Nat.le_of_ble_eq_true rfl, Nat.le_of_ble_eq_true rfl⟩) hw rfl (fun _ => []) (fun _ => rfl) rfl hl.1 rfl (Nat.le_of_ble_eq_true rfl) dX7_season_56 ⟨Nat.le_of_ble_eq_true rfl, Nat.le_of_ble_eq_true rfl⟩ (fun r u H locs hq99 hw => ?_)
          subst hq99
          have hw : kW E AA sx (List.flatten [oc m0 7 [.ref A0, .ref V0, .ref Z0, .int (nI (svK k9)), .int 0, .int pl, .int hz, .ref D0, .ref W0, .ref T0, .int tl, .int tw, .int tc], ac E A0 985 (mA h w wd s0 z st he k8 t9 ca tr co la), ac E V0 3940 (svA V (mA h w wd s0 z st he ke tu ca tr co la) k9)]) H locs := hw
          refine W.eq (g2 := F0 mm 59 ls [.int (if ¬ ((he i) - (ke i)) < (-2) ∧ ¬ 2 < ((he i) - (ke i)) then 1 else 0)]) rfl ?_
          refine lv_if_ne (tgt := 66) hx hb dX7_season_59 (by decide) (fun c59 => ?_) (fun c59 => ?_)
          · have c59 := kb10f c59
            refine lv_iconst (v := 0) hx hb dX7_season_66 (by decide) ?_
            refine W.eq (g2 := F0 mm 67 ls [.int (snF (he i - ke i) (tu i))]) (congrArg (fun z9 => F0 mm 67 ls [.int z9]) (show (0 : Int32) = snF (he i - ke i) (tu i) from (if_neg (fun h => h.2 c59)).symm)) ?_
            exact join43 H _ ls (lv_sub hl [0, 1, 2, 3, 4] rfl) hw
          · have c59 := kb10t c59
            refine lv_iconst (v := 1) hx hb dX7_season_62 (by decide) ?_
            refine lv_goto (tgt := 67) hx hb dX7_season_63 (by decide) ?_
            refine W.eq (g2 := F0 mm 67 ls [.int (snF (he i - ke i) (tu i))]) (congrArg (fun z9 => F0 mm 67 ls [.int z9]) (show (1 : Int32) = snF (he i - ke i) (tu i) from (if_pos ⟨c45, c59⟩).symm)) ?_
            exact join43 H _ ls (lv_sub hl [0, 1, 2, 3, 4] rfl) hw
  exact loop13 ((h * w - 0) + 1) 0 tu ke 0 (by first | assumption | omega) (fun j h99 => absurd h99 (Nat.not_lt_zero _)) (fun j _ => rfl) (fun j h99 => absurd h99 (Nat.not_lt_zero _)) (fun j _ => rfl) (rfl) (Nat.lt_succ_self _) H _ ls (lv_sub hl [0, 1, 2] rfl) hw

abbrev rmX7_value : Room := { frames := 1, cells := 0, slots := 0, locals := 25 }
set_option maxHeartbeats 4000000 in
set_option maxRecDepth 100000 in
theorem c_X7_value_ok (l : Launch) (E : kE) (m0 : Nat) (A0 : Nat) (V0 : Nat) (Z0 : Nat) (D0 : Nat) (W0 : Nat) (T0 : Nat) (sm : Int32) (th : Int32) (pl : Int32) (hz : Int32) (tl : Int32) (tw : Int32) (tc : Int32) (h : Nat) (w : Nat) (wd : Int32) (s0 : Int32) (z : Int32) (st : Nat → Int32) (he : Nat → Int32) (ke : Nat → Int32) (tu : Nat → Int32) (ca : Nat → Int32) (tr : Nat → Int32) (co : Nat → Int32) (la : Nat → Int32) (j9 : Nat) (hj9 : j9 < 9) : kC E l yX7_value wsX7_value rmX7_value [.ref m0, .int (nI j9)] (List.flatten [oc m0 7 [.ref A0, .ref V0, .ref Z0, .int sm, .int th, .int pl, .int hz, .ref D0, .ref W0, .ref T0, .int tl, .int tw, .int tc], ac E A0 985 (mA h w wd s0 z st he ke tu ca tr co la)]) kI (fun (r : Int32) (_ : Unit) => r = valN (nI h) (nI w) wd s0 z st j9) (fun _ => List.flatten [oc m0 7 [.ref A0, .ref V0, .ref Z0, .int sm, .int 0, .int pl, .int hz, .ref D0, .ref W0, .ref T0, .int tl, .int tw, .int tc], ac E A0 985 (mA h w wd s0 z st he ke tu ca tr co la)]) 0 0 := by
  refine k_body (cc := cX7_value) (maxL := 2) (ret := (some .int)) (by decide) rfl (Nat.le_of_ble_eq_true rfl) ?_
  intro pp ee sx mm aa bb me cd H locs AA ls C0 hr hlk hnm hl hw
  obtain ⟨hx, hb, hml, hown, hts⟩ := id C0
  have hl : lv_has ls 2 [(0, .ref m0), (1, .int (nI j9))] := hl
  have hw : kW E AA sx (List.flatten [oc m0 7 [.ref A0, .ref V0, .ref Z0, .int sm, .int th, .int pl, .int hz, .ref D0, .ref W0, .ref T0, .int tl, .int tw, .int tc], ac E A0 985 (mA h w wd s0 z st he ke tu ca tr co la)]) H locs := hw
  have hinX7 : ∀ w ∈ u_ws RX7 TX7 13, w ∈ wsX7_value := by decide +kernel
  refine lv_aload_n hx hb dX7_value_0 rfl (lv_at hl 0 rfl) ?_
  refine lv_iload_n hx hb dX7_value_1 rfl (lv_at hl 1 rfl) ?_
  refine lv_i2l (v := Int32.toInt64 (nI j9)) hx hb dX7_value_2 rfl ?_
  refine lv_lconst (v := 0) hx hb dX7_value_3 (by decide) ?_
  refine lv_ldc2 (v := 8) hx hb hown (hts (.constantLong RX7 89 8) (by decide +kernel)) dX7_value_4 ?_
  refine k_S (As := [.long (Int32.toInt64 (nI j9)), .long 0, .long 8]) (rest := [.ref m0]) (pre := []) (mid := []) C0 (c_X7_in_0_8 l E (nI j9) ) (va_cwS 3 hts gX7_value_X7_in rfl rfl rfl (by decide +kernel) ⟨Nat.le_of_ble_eq_true rfl, Nat.le_of_ble_eq_true rfl⟩) hw rfl (fun _ => []) (fun _ => rfl) rfl hl.1 rfl (Nat.le_of_ble_eq_true rfl) dX7_value_7 ⟨Nat.le_of_ble_eq_true rfl, Nat.le_of_ble_eq_true rfl⟩ (fun r u H locs hq99 hw => ?_)
  subst hq99
  have hw : kW E AA sx (List.flatten [oc m0 7 [.ref A0, .ref V0, .ref Z0, .int sm, .int th, .int pl, .int hz, .ref D0, .ref W0, .ref T0, .int tl, .int tw, .int tc], ac E A0 985 (mA h w wd s0 z st he ke tu ca tr co la)]) H locs := hw
  refine W.eq (g2 := F0 mm 10 ls [.int (if ¬ (nI j9) < 0 ∧ ¬ 8 < (nI j9) then 1 else 0), .ref m0]) rfl ?_
  refine lv_iconst (v := 1) hx hb dX7_value_10 (by decide) ?_
  refine k_V (As := [.int (if ¬ (nI j9) < 0 ∧ ¬ 8 < (nI j9) then 1 else 0), .int 1]) (rest := []) (pre := []) (mid := [oc m0 7 [.ref A0, .ref V0, .ref Z0, .int sm, .int th, .int pl, .int hz, .ref D0, .ref W0, .ref T0, .int tl, .int tw, .int tc]]) C0 (c_X7_goes_ok l E m0 A0 V0 Z0 D0 W0 T0 sm th pl hz tl tw tc (if ¬ (nI j9) < 0 ∧ ¬ 8 < (nI j9) then 1 else 0) 1 (kp10 (⟨nI_pos (by omega), nI_nlt (a := 8) (b := j9) (by omega) (by omega)⟩)) (by decide)) (cwV 2 hts gX7_value_X7_goes rfl rfl rfl (by decide +kernel) ⟨Nat.le_of_ble_eq_true rfl, Nat.le_of_ble_eq_true rfl⟩) hw rfl (fun _ => [oc m0 7 [.ref A0, .ref V0, .ref Z0, .int sm, .int 0, .int pl, .int hz, .ref D0, .ref W0, .ref T0, .int tl, .int tw, .int tc]]) (fun _ => rfl) 0 7 rfl rfl rfl rfl hl.1 rfl (Nat.le_of_ble_eq_true rfl) dX7_value_11 ⟨Nat.le_of_ble_eq_true rfl, Nat.le_of_ble_eq_true rfl⟩ (fun r u H locs hq99 hw => ?_)
  subst r
  have hw : kW E AA sx (List.flatten [oc m0 7 [.ref A0, .ref V0, .ref Z0, .int sm, .int 0, .int pl, .int hz, .ref D0, .ref W0, .ref T0, .int tl, .int tw, .int tc], ac E A0 985 (mA h w wd s0 z st he ke tu ca tr co la)]) H locs := hw
  refine W.eq (g2 := F0 mm 14 ls [.int 1]) rfl ?_
  refine lv_if_eq (tgt := 26) hx hb dX7_value_14 (by decide) (fun c14 => absurd c14 (by decide)) (fun c14 => ?_)
  refine lv_aload_n hx hb dX7_value_17 rfl (lv_at hl 0 rfl) ?_
  refine k_get (pre := []) C0 hw hinX7 rfl 0 (by decide) (hts (.fieldLink RX7 7 "SlabDunesModel" "all" "[I") (by decide +kernel)) rfl rfl dX7_value_18 ?_
  refine lv_iload_n hx hb dX7_value_21 rfl (lv_at hl 1 rfl) ?_
  refine k_iald (pre := [oc m0 7 [.ref A0, .ref V0, .ref Z0, .int sm, .int 0, .int pl, .int hz, .ref D0, .ref W0, .ref T0, .int tl, .int tw, .int tc]]) (l1 := []) C0 hw (i := nI j9) (kinN (by omega) (by decide)) dX7_value_22 ?_
  refine W.eq (g2 := F0 mm 23 ls [.int (valN (nI h) (nI w) wd s0 z st j9)]) (congrArg (fun z9 => F0 mm 23 ls [.int z9]) (show ((mA h w wd s0 z st he ke tu ca tr co la) (Int32.toNatClampNeg (nI j9)) : Int32) = valN (nI h) (nI w) wd s0 z st j9 from mA_val hj9)) ?_
  refine lv_goto (tgt := 27) hx hb dX7_value_23 (by decide) ?_
  -- leaf 0
  exact k_iret C0 hr hlk hw () (rfl) (rfl) (Nat.le_of_ble_eq_true rfl) (Nat.le_of_ble_eq_true rfl) dX7_value_27

set_option maxHeartbeats 4000000 in
set_option maxRecDepth 100000 in
theorem c_X7_value_x1 (l : Launch) (E : kE) (m0 : Nat) (A0 : Nat) (V0 : Nat) (Z0 : Nat) (D0 : Nat) (W0 : Nat) (T0 : Nat) (sm : Int32) (th : Int32) (pl : Int32) (hz : Int32) (tl : Int32) (tw : Int32) (tc : Int32) (h : Nat) (w : Nat) (wd : Int32) (s0 : Int32) (z : Int32) (st : Nat → Int32) (he : Nat → Int32) (ke : Nat → Int32) (tu : Nat → Int32) (ca : Nat → Int32) (tr : Nat → Int32) (co : Nat → Int32) (la : Nat → Int32) (x : Int32) (hv : ¬ (¬ x < 0 ∧ ¬ 8 < x)) : kC E l yX7_value wsX7_value rmX7_value [.ref m0, .int x] (List.flatten [oc m0 7 [.ref A0, .ref V0, .ref Z0, .int sm, .int th, .int pl, .int hz, .ref D0, .ref W0, .ref T0, .int tl, .int tw, .int tc], ac E A0 985 (mA h w wd s0 z st he ke tu ca tr co la)]) kI (fun (r : Int32) (_ : Unit) => r = 0) (fun _ => List.flatten [oc m0 7 [.ref A0, .ref V0, .ref Z0, .int sm, .int 1, .int pl, .int hz, .ref D0, .ref W0, .ref T0, .int tl, .int tw, .int tc], ac E A0 985 (mA h w wd s0 z st he ke tu ca tr co la)]) 0 0 := by
  refine k_body (cc := cX7_value) (maxL := 2) (ret := (some .int)) (by decide) rfl (Nat.le_of_ble_eq_true rfl) ?_
  intro pp ee sx mm aa bb me cd H locs AA ls C0 hr hlk hnm hl hw
  obtain ⟨hx, hb, hml, hown, hts⟩ := id C0
  have hl : lv_has ls 2 [(0, .ref m0), (1, .int x)] := hl
  have hw : kW E AA sx (List.flatten [oc m0 7 [.ref A0, .ref V0, .ref Z0, .int sm, .int th, .int pl, .int hz, .ref D0, .ref W0, .ref T0, .int tl, .int tw, .int tc], ac E A0 985 (mA h w wd s0 z st he ke tu ca tr co la)]) H locs := hw
  refine lv_aload_n hx hb dX7_value_0 rfl (lv_at hl 0 rfl) ?_
  refine lv_iload_n hx hb dX7_value_1 rfl (lv_at hl 1 rfl) ?_
  refine lv_i2l (v := Int32.toInt64 x) hx hb dX7_value_2 rfl ?_
  refine lv_lconst (v := 0) hx hb dX7_value_3 (by decide) ?_
  refine lv_ldc2 (v := 8) hx hb hown (hts (.constantLong RX7 89 8) (by decide +kernel)) dX7_value_4 ?_
  refine k_S (As := [.long (Int32.toInt64 x), .long 0, .long 8]) (rest := [.ref m0]) (pre := []) (mid := []) C0 (c_X7_in_0_8 l E x ) (va_cwS 3 hts gX7_value_X7_in rfl rfl rfl (by decide +kernel) ⟨Nat.le_of_ble_eq_true rfl, Nat.le_of_ble_eq_true rfl⟩) hw rfl (fun _ => []) (fun _ => rfl) rfl hl.1 rfl (Nat.le_of_ble_eq_true rfl) dX7_value_7 ⟨Nat.le_of_ble_eq_true rfl, Nat.le_of_ble_eq_true rfl⟩ (fun r u H locs hq99 hw => ?_)
  subst hq99
  have hw : kW E AA sx (List.flatten [oc m0 7 [.ref A0, .ref V0, .ref Z0, .int sm, .int th, .int pl, .int hz, .ref D0, .ref W0, .ref T0, .int tl, .int tw, .int tc], ac E A0 985 (mA h w wd s0 z st he ke tu ca tr co la)]) H locs := hw
  refine W.eq (g2 := F0 mm 10 ls [.int (if ¬ x < 0 ∧ ¬ 8 < x then 1 else 0), .ref m0]) rfl ?_
  refine lv_iconst (v := 1) hx hb dX7_value_10 (by decide) ?_
  refine k_V (As := [.int (if ¬ x < 0 ∧ ¬ 8 < x then 1 else 0), .int 1]) (rest := []) (pre := []) (mid := [oc m0 7 [.ref A0, .ref V0, .ref Z0, .int sm, .int th, .int pl, .int hz, .ref D0, .ref W0, .ref T0, .int tl, .int tw, .int tc]]) C0 (c_X7_goes_1 l E m0 A0 V0 Z0 D0 W0 T0 sm th pl hz tl tw tc (if ¬ x < 0 ∧ ¬ 8 < x then 1 else 0) 1 (kn10 (hv))) (cwV 2 hts gX7_value_X7_goes rfl rfl rfl (by decide +kernel) ⟨Nat.le_of_ble_eq_true rfl, Nat.le_of_ble_eq_true rfl⟩) hw rfl (fun _ => [oc m0 7 [.ref A0, .ref V0, .ref Z0, .int sm, .int 1, .int pl, .int hz, .ref D0, .ref W0, .ref T0, .int tl, .int tw, .int tc]]) (fun _ => rfl) 0 7 rfl rfl rfl rfl hl.1 rfl (Nat.le_of_ble_eq_true rfl) dX7_value_11 ⟨Nat.le_of_ble_eq_true rfl, Nat.le_of_ble_eq_true rfl⟩ (fun r u H locs hq99 hw => ?_)
  subst r
  have hw : kW E AA sx (List.flatten [oc m0 7 [.ref A0, .ref V0, .ref Z0, .int sm, .int 1, .int pl, .int hz, .ref D0, .ref W0, .ref T0, .int tl, .int tw, .int tc], ac E A0 985 (mA h w wd s0 z st he ke tu ca tr co la)]) H locs := hw
  refine W.eq (g2 := F0 mm 14 ls [.int 0]) rfl ?_
  refine lv_if_eq (tgt := 26) hx hb dX7_value_14 (by decide) (fun c14 => ?_) (fun c14 => absurd c14 (by decide))
  refine lv_iconst (v := 0) hx hb dX7_value_26 (by decide) ?_
  -- leaf 0
  exact k_iret C0 hr hlk hw () (rfl) (rfl) (Nat.le_of_ble_eq_true rfl) (Nat.le_of_ble_eq_true rfl) dX7_value_27

abbrev rmX7_cellValue : Room := { frames := 3, cells := 0, slots := 0, locals := 74 }
set_option maxHeartbeats 4000000 in
set_option maxRecDepth 100000 in
theorem c_X7_cellValue (l : Launch) (E : kE) (m0 : Nat) (A0 : Nat) (V0 : Nat) (Z0 : Nat) (D0 : Nat) (W0 : Nat) (T0 : Nat) (sm : Int32) (th : Int32) (pl : Int32) (hz : Int32) (tl : Int32) (tw : Int32) (tc : Int32) (h : Nat) (w : Nat) (d : Nat) (s0 : Int32) (z : Int32) (st : Nat → Int32) (he : Nat → Int32) (ke : Nat → Int32) (tu : Nat → Int32) (ca : Nat → Int32) (tr : Nat → Int32) (co : Nat → Int32) (la : Nat → Int32) (k : Nat) (j9 : Nat) (hG : kG h w) (hc : k < h * w) (hd : d < 4) (hj9 : j9 < 6) : kC E l yX7_cellValue wsX7_cellValue rmX7_cellValue [.ref m0, .int (nI k), .int (nI j9)] (List.flatten [oc m0 7 [.ref A0, .ref V0, .ref Z0, .int sm, .int th, .int pl, .int hz, .ref D0, .ref W0, .ref T0, .int tl, .int tw, .int tc], ac E A0 985 (mA h w (nI d) s0 z st he ke tu ca tr co la)]) kI (fun (r : Int32) (_ : Unit) => r = cvN h w d he ke tu ca tr k j9) (fun _ => List.flatten [oc m0 7 [.ref A0, .ref V0, .ref Z0, .int sm, .int th, .int pl, .int hz, .ref D0, .ref W0, .ref T0, .int tl, .int tw, .int tc], ac E A0 985 (mA h w (nI d) s0 z st he ke tu ca tr co la)]) 0 0 := by
  refine k_body (cc := cX7_cellValue) (maxL := 3) (ret := (some .int)) (by decide) rfl (Nat.le_of_ble_eq_true rfl) ?_
  intro pp ee sx mm aa bb me cd H locs AA ls C0 hr hlk hnm hl hw
  obtain ⟨hx, hb, hml, hown, hts⟩ := id C0
  have hl : lv_has ls 3 [(0, .ref m0), (1, .int (nI k)), (2, .int (nI j9))] := hl
  have hw : kW E AA sx (List.flatten [oc m0 7 [.ref A0, .ref V0, .ref Z0, .int sm, .int th, .int pl, .int hz, .ref D0, .ref W0, .ref T0, .int tl, .int tw, .int tc], ac E A0 985 (mA h w (nI d) s0 z st he ke tu ca tr co la)]) H locs := hw
  have hn9 := kG_n hG
  have hG9 := id hG
  obtain ⟨hG1, hG2, hG3, hG4⟩ := hG9
  refine lv_iload_n hx hb dX7_cellValue_0 rfl (lv_at hl 2 rfl) ?_
  rcases (show j9 = 4 ∨ j9 = 5 ∨ (¬ j9 = 4 ∧ ¬ j9 = 5) by omega) with hk1 | hk1 | hk1
  · refine lv_lookup (tgt := 28) (off := 27) hx hb dX7_cellValue_1 (by decide) (by rw [hk1]; decide) (by decide) ?_
    refine lv_aload_n hx hb dX7_cellValue_28 rfl (lv_at hl 0 rfl) ?_
    refine lv_iload_n hx hb dX7_cellValue_29 rfl (lv_at hl 1 rfl) ?_
    refine k_V (As := [.int (nI k)]) (rest := []) (pre := []) (mid := [oc m0 7 [.ref A0, .ref V0, .ref Z0, .int sm, .int th, .int pl, .int hz, .ref D0, .ref W0, .ref T0, .int tl, .int tw, .int tc], ac E A0 985 (mA h w (nI d) s0 z st he ke tu ca tr co la)]) C0 (c_X7_isInShadow l E m0 A0 V0 Z0 D0 W0 T0 sm th pl hz tl tw tc h w d s0 z st he ke tu ca tr co la k (by first | assumption | omega) (by first | assumption | omega) (by first | assumption | omega)) (cwV 1 hts gX7_cellValue_X7_isInShadow rfl rfl rfl (by decide +kernel) ⟨Nat.le_of_ble_eq_true rfl, Nat.le_of_ble_eq_true rfl⟩) hw rfl (fun _ => [oc m0 7 [.ref A0, .ref V0, .ref Z0, .int sm, .int th, .int pl, .int hz, .ref D0, .ref W0, .ref T0, .int tl, .int tw, .int tc], ac E A0 985 (mA h w (nI d) s0 z st he ke tu ca tr co la)]) (fun _ => rfl) 0 7 rfl rfl rfl rfl hl.1 rfl (Nat.le_of_ble_eq_true rfl) dX7_cellValue_30 ⟨Nat.le_of_ble_eq_true rfl, Nat.le_of_ble_eq_true rfl⟩ (fun r u H locs hq99 hw => ?_)
    subst hq99
    have hw : kW E AA sx (List.flatten [oc m0 7 [.ref A0, .ref V0, .ref Z0, .int sm, .int th, .int pl, .int hz, .ref D0, .ref W0, .ref T0, .int tl, .int tw, .int tc], ac E A0 985 (mA h w (nI d) s0 z st he ke tu ca tr co la)]) H locs := hw
    refine W.eq (g2 := F0 mm 33 ls [.int (if shd h w d he k then 1 else 0)]) rfl ?_
    refine lv_if_eq (tgt := 40) hx hb dX7_cellValue_33 (by decide) (fun c33 => ?_) (fun c33 => ?_)
    · have c33 := kb10t c33
      refine lv_iconst (v := 0) hx hb dX7_cellValue_40 (by decide) ?_
      -- leaf 0
      exact k_iret C0 hr hlk hw () (rfl) (by rw [hk1]; exact (if_neg c33).symm) (Nat.le_of_ble_eq_true rfl) (Nat.le_of_ble_eq_true rfl) dX7_cellValue_41
    · have c33 := kb10f c33
      refine lv_iconst (v := 1) hx hb dX7_cellValue_36 (by decide) ?_
      refine lv_goto (tgt := 41) hx hb dX7_cellValue_37 (by decide) ?_
      -- leaf 1
      exact k_iret C0 hr hlk hw () (rfl) (by rw [hk1]; exact (if_pos c33).symm) (Nat.le_of_ble_eq_true rfl) (Nat.le_of_ble_eq_true rfl) dX7_cellValue_41
  · refine lv_lookup (tgt := 42) (off := 41) hx hb dX7_cellValue_1 (by decide) (by rw [hk1]; decide) (by decide) ?_
    refine lv_aload_n hx hb dX7_cellValue_42 rfl (lv_at hl 0 rfl) ?_
    refine lv_iload_n hx hb dX7_cellValue_43 rfl (lv_at hl 1 rfl) ?_
    refine lv_iconst (v := 0) hx hb dX7_cellValue_44 (by decide) ?_
    refine k_V (As := [.int (nI k), .int 0]) (rest := []) (pre := []) (mid := [oc m0 7 [.ref A0, .ref V0, .ref Z0, .int sm, .int th, .int pl, .int hz, .ref D0, .ref W0, .ref T0, .int tl, .int tw, .int tc], ac E A0 985 (mA h w (nI d) s0 z st he ke tu ca tr co la)]) C0 (c_X7_of0 l E m0 A0 V0 Z0 D0 W0 T0 sm th pl hz tl tw tc h w (nI d) s0 z st he ke tu ca tr co la k (by first | assumption | omega) (by first | assumption | omega)) (cwV 2 hts gX7_cellValue_X7_of rfl rfl rfl (by decide +kernel) ⟨Nat.le_of_ble_eq_true rfl, Nat.le_of_ble_eq_true rfl⟩) hw rfl (fun _ => [oc m0 7 [.ref A0, .ref V0, .ref Z0, .int sm, .int th, .int pl, .int hz, .ref D0, .ref W0, .ref T0, .int tl, .int tw, .int tc], ac E A0 985 (mA h w (nI d) s0 z st he ke tu ca tr co la)]) (fun _ => rfl) 0 7 rfl rfl rfl rfl hl.1 rfl (Nat.le_of_ble_eq_true rfl) dX7_cellValue_45 ⟨Nat.le_of_ble_eq_true rfl, Nat.le_of_ble_eq_true rfl⟩ (fun r u H locs hq99 hw => ?_)
    subst hq99
    have hw : kW E AA sx (List.flatten [oc m0 7 [.ref A0, .ref V0, .ref Z0, .int sm, .int th, .int pl, .int hz, .ref D0, .ref W0, .ref T0, .int tl, .int tw, .int tc], ac E A0 985 (mA h w (nI d) s0 z st he ke tu ca tr co la)]) H locs := hw
    refine W.eq (g2 := F0 mm 48 ls [.int (he k)]) rfl ?_
    refine lv_aload_n hx hb dX7_cellValue_48 rfl (lv_at hl 0 rfl) ?_
    refine lv_iload_n hx hb dX7_cellValue_49 rfl (lv_at hl 1 rfl) ?_
    refine lv_iconst (v := 4) hx hb dX7_cellValue_50 (by decide) ?_
    refine k_V (As := [.int (nI k), .int 4]) (rest := [.int (he k)]) (pre := []) (mid := [oc m0 7 [.ref A0, .ref V0, .ref Z0, .int sm, .int th, .int pl, .int hz, .ref D0, .ref W0, .ref T0, .int tl, .int tw, .int tc], ac E A0 985 (mA h w (nI d) s0 z st he ke tu ca tr co la)]) C0 (c_X7_of4 l E m0 A0 V0 Z0 D0 W0 T0 sm th pl hz tl tw tc h w (nI d) s0 z st he ke tu ca tr co la k (by first | assumption | omega) (by first | assumption | omega)) (cwV 2 hts gX7_cellValue_X7_of rfl rfl rfl (by decide +kernel) ⟨Nat.le_of_ble_eq_true rfl, Nat.le_of_ble_eq_true rfl⟩) hw rfl (fun _ => [oc m0 7 [.ref A0, .ref V0, .ref Z0, .int sm, .int th, .int pl, .int hz, .ref D0, .ref W0, .ref T0, .int tl, .int tw, .int tc], ac E A0 985 (mA h w (nI d) s0 z st he ke tu ca tr co la)]) (fun _ => rfl) 0 7 rfl rfl rfl rfl hl.1 rfl (Nat.le_of_ble_eq_true rfl) dX7_cellValue_51 ⟨Nat.le_of_ble_eq_true rfl, Nat.le_of_ble_eq_true rfl⟩ (fun r u H locs hq99 hw => ?_)
    subst hq99
    have hw : kW E AA sx (List.flatten [oc m0 7 [.ref A0, .ref V0, .ref Z0, .int sm, .int th, .int pl, .int hz, .ref D0, .ref W0, .ref T0, .int tl, .int tw, .int tc], ac E A0 985 (mA h w (nI d) s0 z st he ke tu ca tr co la)]) H locs := hw
    refine W.eq (g2 := F0 mm 54 ls [.int (ke k), .int (he k)]) rfl ?_
    refine lv_isub hx hb dX7_cellValue_54 ?_
    -- leaf 2
    exact k_iret C0 hr hlk hw () (rfl) (by rw [hk1]; rfl) (Nat.le_of_ble_eq_true rfl) (Nat.le_of_ble_eq_true rfl) dX7_cellValue_55
  · refine lv_lookup (tgt := 56) (off := 55) hx hb dX7_cellValue_1 (by decide) ((lv_osw (k := 4) (fun h99 => hk1.1 ((nI_eq (b := 4) (by omega) (by omega)).mp h99)) rfl).trans ((lv_osw (k := 5) (fun h99 => hk1.2 ((nI_eq (b := 5) (by omega) (by omega)).mp h99)) rfl).trans rfl)) (by decide) ?_
    refine lv_aload_n hx hb dX7_cellValue_56 rfl (lv_at hl 0 rfl) ?_
    refine lv_iload_n hx hb dX7_cellValue_57 rfl (lv_at hl 1 rfl) ?_
    refine lv_iload_n hx hb dX7_cellValue_58 rfl (lv_at hl 2 rfl) ?_
    refine k_V (As := [.int (nI k), .int (nI j9)]) (rest := []) (pre := []) (mid := [oc m0 7 [.ref A0, .ref V0, .ref Z0, .int sm, .int th, .int pl, .int hz, .ref D0, .ref W0, .ref T0, .int tl, .int tw, .int tc], ac E A0 985 (mA h w (nI d) s0 z st he ke tu ca tr co la)]) C0 (c_X7_of l E m0 A0 V0 Z0 D0 W0 T0 sm th pl hz tl tw tc h w (nI d) s0 z st he ke tu ca tr co la k j9 (by first | assumption | omega) (by first | assumption | omega) (by first | assumption | omega)) (cwV 2 hts gX7_cellValue_X7_of rfl rfl rfl (by decide +kernel) ⟨Nat.le_of_ble_eq_true rfl, Nat.le_of_ble_eq_true rfl⟩) hw rfl (fun _ => [oc m0 7 [.ref A0, .ref V0, .ref Z0, .int sm, .int th, .int pl, .int hz, .ref D0, .ref W0, .ref T0, .int tl, .int tw, .int tc], ac E A0 985 (mA h w (nI d) s0 z st he ke tu ca tr co la)]) (fun _ => rfl) 0 7 rfl rfl rfl rfl hl.1 rfl (Nat.le_of_ble_eq_true rfl) dX7_cellValue_59 ⟨Nat.le_of_ble_eq_true rfl, Nat.le_of_ble_eq_true rfl⟩ (fun r u H locs hq99 hw => ?_)
    subst hq99
    have hw : kW E AA sx (List.flatten [oc m0 7 [.ref A0, .ref V0, .ref Z0, .int sm, .int th, .int pl, .int hz, .ref D0, .ref W0, .ref T0, .int tl, .int tw, .int tc], ac E A0 985 (mA h w (nI d) s0 z st he ke tu ca tr co la)]) H locs := hw
    refine W.eq (g2 := F0 mm 62 ls [.int (cm he ke tu ca tr k j9)]) rfl ?_
    -- leaf 3
    exact k_iret C0 hr hlk hw () (rfl) (by rcases (show j9 = 0 ∨ j9 = 1 ∨ j9 = 2 ∨ j9 = 3 by omega) with rfl | rfl | rfl | rfl <;> rfl) (Nat.le_of_ble_eq_true rfl) (Nat.le_of_ble_eq_true rfl) dX7_cellValue_62

abbrev rmX7_cell : Room := { frames := 4, cells := 0, slots := 0, locals := 96 }
set_option maxHeartbeats 4000000 in
set_option maxRecDepth 100000 in
theorem c_X7_cell_ok (l : Launch) (E : kE) (m0 : Nat) (A0 : Nat) (V0 : Nat) (Z0 : Nat) (D0 : Nat) (W0 : Nat) (T0 : Nat) (sm : Int32) (th : Int32) (pl : Int32) (hz : Int32) (tl : Int32) (tw : Int32) (tc : Int32) (h : Nat) (w : Nat) (d : Nat) (s0 : Int32) (z : Int32) (st : Nat → Int32) (he : Nat → Int32) (ke : Nat → Int32) (tu : Nat → Int32) (ca : Nat → Int32) (tr : Nat → Int32) (co : Nat → Int32) (la : Nat → Int32) (k : Nat) (j9 : Nat) (hG : kG h w) (hc : k < h * w) (hd : d < 4) (hj9 : j9 < 6) : kC E l yX7_cell wsX7_cell rmX7_cell [.ref m0, .int (nI k), .int (nI j9)] (List.flatten [oc m0 7 [.ref A0, .ref V0, .ref Z0, .int sm, .int th, .int pl, .int hz, .ref D0, .ref W0, .ref T0, .int tl, .int tw, .int tc], ac E A0 985 (mA h w (nI d) s0 z st he ke tu ca tr co la)]) kI (fun (r : Int32) (_ : Unit) => r = cvN h w d he ke tu ca tr k j9) (fun _ => List.flatten [oc m0 7 [.ref A0, .ref V0, .ref Z0, .int sm, .int 0, .int pl, .int hz, .ref D0, .ref W0, .ref T0, .int tl, .int tw, .int tc], ac E A0 985 (mA h w (nI d) s0 z st he ke tu ca tr co la)]) 0 0 := by
  refine k_body (cc := cX7_cell) (maxL := 3) (ret := (some .int)) (by decide) rfl (Nat.le_of_ble_eq_true rfl) ?_
  intro pp ee sx mm aa bb me cd H locs AA ls C0 hr hlk hnm hl hw
  obtain ⟨hx, hb, hml, hown, hts⟩ := id C0
  have hl : lv_has ls 3 [(0, .ref m0), (1, .int (nI k)), (2, .int (nI j9))] := hl
  have hw : kW E AA sx (List.flatten [oc m0 7 [.ref A0, .ref V0, .ref Z0, .int sm, .int th, .int pl, .int hz, .ref D0, .ref W0, .ref T0, .int tl, .int tw, .int tc], ac E A0 985 (mA h w (nI d) s0 z st he ke tu ca tr co la)]) H locs := hw
  have hn9 := kG_n hG
  have hG9 := id hG
  obtain ⟨hG1, hG2, hG3, hG4⟩ := hG9
  refine lv_aload_n hx hb dX7_cell_0 rfl (lv_at hl 0 rfl) ?_
  refine lv_aload_n hx hb dX7_cell_1 rfl (lv_at hl 0 rfl) ?_
  refine lv_iload_n hx hb dX7_cell_2 rfl (lv_at hl 1 rfl) ?_
  refine k_V (As := [.int (nI k)]) (rest := [.ref m0]) (pre := []) (mid := [oc m0 7 [.ref A0, .ref V0, .ref Z0, .int sm, .int th, .int pl, .int hz, .ref D0, .ref W0, .ref T0, .int tl, .int tw, .int tc], ac E A0 985 (mA h w (nI d) s0 z st he ke tu ca tr co la)]) C0 (c_X7_isCell l E m0 A0 V0 Z0 D0 W0 T0 sm th pl hz tl tw tc h w (nI d) s0 z st he ke tu ca tr co la (nI k) (by first | assumption | omega)) (cwV 1 hts gX7_cell_X7_isCell rfl rfl rfl (by decide +kernel) ⟨Nat.le_of_ble_eq_true rfl, Nat.le_of_ble_eq_true rfl⟩) hw rfl (fun _ => [oc m0 7 [.ref A0, .ref V0, .ref Z0, .int sm, .int th, .int pl, .int hz, .ref D0, .ref W0, .ref T0, .int tl, .int tw, .int tc], ac E A0 985 (mA h w (nI d) s0 z st he ke tu ca tr co la)]) (fun _ => rfl) 0 7 rfl rfl rfl rfl hl.1 rfl (Nat.le_of_ble_eq_true rfl) dX7_cell_3 ⟨Nat.le_of_ble_eq_true rfl, Nat.le_of_ble_eq_true rfl⟩ (fun r u H locs hq99 hw => ?_)
  subst hq99
  have hw : kW E AA sx (List.flatten [oc m0 7 [.ref A0, .ref V0, .ref Z0, .int sm, .int th, .int pl, .int hz, .ref D0, .ref W0, .ref T0, .int tl, .int tw, .int tc], ac E A0 985 (mA h w (nI d) s0 z st he ke tu ca tr co la)]) H locs := hw
  refine W.eq (g2 := F0 mm 6 ls [.int (if ¬ (nI k) < 0 ∧ ¬ nI (h * w - 1) < (nI k) then 1 else 0), .ref m0]) rfl ?_
  refine lv_iload_n hx hb dX7_cell_6 rfl (lv_at hl 2 rfl) ?_
  refine lv_i2l (v := Int32.toInt64 (nI j9)) hx hb dX7_cell_7 rfl ?_
  refine lv_lconst (v := 0) hx hb dX7_cell_8 (by decide) ?_
  refine lv_ldc2 (v := 5) hx hb hown (hts (.constantLong RX7 91 5) (by decide +kernel)) dX7_cell_9 ?_
  refine k_S (As := [.long (Int32.toInt64 (nI j9)), .long 0, .long 5]) (rest := [.int (if ¬ (nI k) < 0 ∧ ¬ nI (h * w - 1) < (nI k) then 1 else 0), .ref m0]) (pre := []) (mid := []) C0 (c_X7_in_0_5 l E (nI j9) ) (va_cwS 3 hts gX7_cell_X7_in rfl rfl rfl (by decide +kernel) ⟨Nat.le_of_ble_eq_true rfl, Nat.le_of_ble_eq_true rfl⟩) hw rfl (fun _ => []) (fun _ => rfl) rfl hl.1 rfl (Nat.le_of_ble_eq_true rfl) dX7_cell_12 ⟨Nat.le_of_ble_eq_true rfl, Nat.le_of_ble_eq_true rfl⟩ (fun r u H locs hq99 hw => ?_)
  subst hq99
  have hw : kW E AA sx (List.flatten [oc m0 7 [.ref A0, .ref V0, .ref Z0, .int sm, .int th, .int pl, .int hz, .ref D0, .ref W0, .ref T0, .int tl, .int tw, .int tc], ac E A0 985 (mA h w (nI d) s0 z st he ke tu ca tr co la)]) H locs := hw
  refine W.eq (g2 := F0 mm 15 ls [.int (if ¬ (nI j9) < 0 ∧ ¬ 5 < (nI j9) then 1 else 0), .int (if ¬ (nI k) < 0 ∧ ¬ nI (h * w - 1) < (nI k) then 1 else 0), .ref m0]) rfl ?_
  refine k_V (As := [.int (if ¬ (nI k) < 0 ∧ ¬ nI (h * w - 1) < (nI k) then 1 else 0), .int (if ¬ (nI j9) < 0 ∧ ¬ 5 < (nI j9) then 1 else 0)]) (rest := []) (pre := []) (mid := [oc m0 7 [.ref A0, .ref V0, .ref Z0, .int sm, .int th, .int pl, .int hz, .ref D0, .ref W0, .ref T0, .int tl, .int tw, .int tc]]) C0 (c_X7_goes_ok l E m0 A0 V0 Z0 D0 W0 T0 sm th pl hz tl tw tc (if ¬ (nI k) < 0 ∧ ¬ nI (h * w - 1) < (nI k) then 1 else 0) (if ¬ (nI j9) < 0 ∧ ¬ 5 < (nI j9) then 1 else 0) (kp10 (⟨nI_pos (by omega), nI_nlt (a := h * w - 1) (b := k) (by omega) (by omega)⟩)) (kp10 (⟨nI_pos (by omega), nI_nlt (a := 5) (b := j9) (by omega) (by omega)⟩))) (cwV 2 hts gX7_cell_X7_goes rfl rfl rfl (by decide +kernel) ⟨Nat.le_of_ble_eq_true rfl, Nat.le_of_ble_eq_true rfl⟩) hw rfl (fun _ => [oc m0 7 [.ref A0, .ref V0, .ref Z0, .int sm, .int 0, .int pl, .int hz, .ref D0, .ref W0, .ref T0, .int tl, .int tw, .int tc]]) (fun _ => rfl) 0 7 rfl rfl rfl rfl hl.1 rfl (Nat.le_of_ble_eq_true rfl) dX7_cell_15 ⟨Nat.le_of_ble_eq_true rfl, Nat.le_of_ble_eq_true rfl⟩ (fun r u H locs hq99 hw => ?_)
  subst r
  have hw : kW E AA sx (List.flatten [oc m0 7 [.ref A0, .ref V0, .ref Z0, .int sm, .int 0, .int pl, .int hz, .ref D0, .ref W0, .ref T0, .int tl, .int tw, .int tc], ac E A0 985 (mA h w (nI d) s0 z st he ke tu ca tr co la)]) H locs := hw
  refine W.eq (g2 := F0 mm 18 ls [.int 1]) rfl ?_
  refine lv_if_eq (tgt := 30) hx hb dX7_cell_18 (by decide) (fun c18 => absurd c18 (by decide)) (fun c18 => ?_)
  refine lv_aload_n hx hb dX7_cell_21 rfl (lv_at hl 0 rfl) ?_
  refine lv_iload_n hx hb dX7_cell_22 rfl (lv_at hl 1 rfl) ?_
  refine lv_iload_n hx hb dX7_cell_23 rfl (lv_at hl 2 rfl) ?_
  refine k_V (As := [.int (nI k), .int (nI j9)]) (rest := []) (pre := []) (mid := [oc m0 7 [.ref A0, .ref V0, .ref Z0, .int sm, .int 0, .int pl, .int hz, .ref D0, .ref W0, .ref T0, .int tl, .int tw, .int tc], ac E A0 985 (mA h w (nI d) s0 z st he ke tu ca tr co la)]) C0 (c_X7_cellValue l E m0 A0 V0 Z0 D0 W0 T0 sm 0 pl hz tl tw tc h w d s0 z st he ke tu ca tr co la k j9 (by first | assumption | omega) (by first | assumption | omega) (by first | assumption | omega) (by first | assumption | omega)) (cwV 2 hts gX7_cell_X7_cellValue rfl rfl rfl (by decide +kernel) ⟨Nat.le_of_ble_eq_true rfl, Nat.le_of_ble_eq_true rfl⟩) hw rfl (fun _ => [oc m0 7 [.ref A0, .ref V0, .ref Z0, .int sm, .int 0, .int pl, .int hz, .ref D0, .ref W0, .ref T0, .int tl, .int tw, .int tc], ac E A0 985 (mA h w (nI d) s0 z st he ke tu ca tr co la)]) (fun _ => rfl) 0 7 rfl rfl rfl rfl hl.1 rfl (Nat.le_of_ble_eq_true rfl) dX7_cell_24 ⟨Nat.le_of_ble_eq_true rfl, Nat.le_of_ble_eq_true rfl⟩ (fun r u H locs hq99 hw => ?_)
  subst hq99
  have hw : kW E AA sx (List.flatten [oc m0 7 [.ref A0, .ref V0, .ref Z0, .int sm, .int 0, .int pl, .int hz, .ref D0, .ref W0, .ref T0, .int tl, .int tw, .int tc], ac E A0 985 (mA h w (nI d) s0 z st he ke tu ca tr co la)]) H locs := hw
  refine W.eq (g2 := F0 mm 27 ls [.int (cvN h w d he ke tu ca tr k j9)]) rfl ?_
  refine lv_goto (tgt := 31) hx hb dX7_cell_27 (by decide) ?_
  -- leaf 0
  exact k_iret C0 hr hlk hw () (rfl) (rfl) (Nat.le_of_ble_eq_true rfl) (Nat.le_of_ble_eq_true rfl) dX7_cell_31

set_option maxHeartbeats 4000000 in
set_option maxRecDepth 100000 in
theorem c_X7_cell_x1 (l : Launch) (E : kE) (m0 : Nat) (A0 : Nat) (V0 : Nat) (Z0 : Nat) (D0 : Nat) (W0 : Nat) (T0 : Nat) (sm : Int32) (th : Int32) (pl : Int32) (hz : Int32) (tl : Int32) (tw : Int32) (tc : Int32) (h : Nat) (w : Nat) (wd : Int32) (s0 : Int32) (z : Int32) (st : Nat → Int32) (he : Nat → Int32) (ke : Nat → Int32) (tu : Nat → Int32) (ca : Nat → Int32) (tr : Nat → Int32) (co : Nat → Int32) (la : Nat → Int32) (x : Int32) (v : Int32) (hG : kG h w) (hv : ¬ (¬ x < 0 ∧ ¬ nI (h * w - 1) < x)) : kC E l yX7_cell wsX7_cell rmX7_cell [.ref m0, .int x, .int v] (List.flatten [oc m0 7 [.ref A0, .ref V0, .ref Z0, .int sm, .int th, .int pl, .int hz, .ref D0, .ref W0, .ref T0, .int tl, .int tw, .int tc], ac E A0 985 (mA h w wd s0 z st he ke tu ca tr co la)]) kI (fun (r : Int32) (_ : Unit) => r = 0) (fun _ => List.flatten [oc m0 7 [.ref A0, .ref V0, .ref Z0, .int sm, .int 1, .int pl, .int hz, .ref D0, .ref W0, .ref T0, .int tl, .int tw, .int tc], ac E A0 985 (mA h w wd s0 z st he ke tu ca tr co la)]) 0 0 := by
  refine k_body (cc := cX7_cell) (maxL := 3) (ret := (some .int)) (by decide) rfl (Nat.le_of_ble_eq_true rfl) ?_
  intro pp ee sx mm aa bb me cd H locs AA ls C0 hr hlk hnm hl hw
  obtain ⟨hx, hb, hml, hown, hts⟩ := id C0
  have hl : lv_has ls 3 [(0, .ref m0), (1, .int x), (2, .int v)] := hl
  have hw : kW E AA sx (List.flatten [oc m0 7 [.ref A0, .ref V0, .ref Z0, .int sm, .int th, .int pl, .int hz, .ref D0, .ref W0, .ref T0, .int tl, .int tw, .int tc], ac E A0 985 (mA h w wd s0 z st he ke tu ca tr co la)]) H locs := hw
  have hn9 := kG_n hG
  have hG9 := id hG
  obtain ⟨hG1, hG2, hG3, hG4⟩ := hG9
  refine lv_aload_n hx hb dX7_cell_0 rfl (lv_at hl 0 rfl) ?_
  refine lv_aload_n hx hb dX7_cell_1 rfl (lv_at hl 0 rfl) ?_
  refine lv_iload_n hx hb dX7_cell_2 rfl (lv_at hl 1 rfl) ?_
  refine k_V (As := [.int x]) (rest := [.ref m0]) (pre := []) (mid := [oc m0 7 [.ref A0, .ref V0, .ref Z0, .int sm, .int th, .int pl, .int hz, .ref D0, .ref W0, .ref T0, .int tl, .int tw, .int tc], ac E A0 985 (mA h w wd s0 z st he ke tu ca tr co la)]) C0 (c_X7_isCell l E m0 A0 V0 Z0 D0 W0 T0 sm th pl hz tl tw tc h w wd s0 z st he ke tu ca tr co la x (by first | assumption | omega)) (cwV 1 hts gX7_cell_X7_isCell rfl rfl rfl (by decide +kernel) ⟨Nat.le_of_ble_eq_true rfl, Nat.le_of_ble_eq_true rfl⟩) hw rfl (fun _ => [oc m0 7 [.ref A0, .ref V0, .ref Z0, .int sm, .int th, .int pl, .int hz, .ref D0, .ref W0, .ref T0, .int tl, .int tw, .int tc], ac E A0 985 (mA h w wd s0 z st he ke tu ca tr co la)]) (fun _ => rfl) 0 7 rfl rfl rfl rfl hl.1 rfl (Nat.le_of_ble_eq_true rfl) dX7_cell_3 ⟨Nat.le_of_ble_eq_true rfl, Nat.le_of_ble_eq_true rfl⟩ (fun r u H locs hq99 hw => ?_)
  subst hq99
  have hw : kW E AA sx (List.flatten [oc m0 7 [.ref A0, .ref V0, .ref Z0, .int sm, .int th, .int pl, .int hz, .ref D0, .ref W0, .ref T0, .int tl, .int tw, .int tc], ac E A0 985 (mA h w wd s0 z st he ke tu ca tr co la)]) H locs := hw
  refine W.eq (g2 := F0 mm 6 ls [.int (if ¬ x < 0 ∧ ¬ nI (h * w - 1) < x then 1 else 0), .ref m0]) rfl ?_
  refine lv_iload_n hx hb dX7_cell_6 rfl (lv_at hl 2 rfl) ?_
  refine lv_i2l (v := Int32.toInt64 v) hx hb dX7_cell_7 rfl ?_
  refine lv_lconst (v := 0) hx hb dX7_cell_8 (by decide) ?_
  refine lv_ldc2 (v := 5) hx hb hown (hts (.constantLong RX7 91 5) (by decide +kernel)) dX7_cell_9 ?_
  refine k_S (As := [.long (Int32.toInt64 v), .long 0, .long 5]) (rest := [.int (if ¬ x < 0 ∧ ¬ nI (h * w - 1) < x then 1 else 0), .ref m0]) (pre := []) (mid := []) C0 (c_X7_in_0_5 l E v ) (va_cwS 3 hts gX7_cell_X7_in rfl rfl rfl (by decide +kernel) ⟨Nat.le_of_ble_eq_true rfl, Nat.le_of_ble_eq_true rfl⟩) hw rfl (fun _ => []) (fun _ => rfl) rfl hl.1 rfl (Nat.le_of_ble_eq_true rfl) dX7_cell_12 ⟨Nat.le_of_ble_eq_true rfl, Nat.le_of_ble_eq_true rfl⟩ (fun r u H locs hq99 hw => ?_)
  subst hq99
  have hw : kW E AA sx (List.flatten [oc m0 7 [.ref A0, .ref V0, .ref Z0, .int sm, .int th, .int pl, .int hz, .ref D0, .ref W0, .ref T0, .int tl, .int tw, .int tc], ac E A0 985 (mA h w wd s0 z st he ke tu ca tr co la)]) H locs := hw
  refine W.eq (g2 := F0 mm 15 ls [.int (if ¬ v < 0 ∧ ¬ 5 < v then 1 else 0), .int (if ¬ x < 0 ∧ ¬ nI (h * w - 1) < x then 1 else 0), .ref m0]) rfl ?_
  refine k_V (As := [.int (if ¬ x < 0 ∧ ¬ nI (h * w - 1) < x then 1 else 0), .int (if ¬ v < 0 ∧ ¬ 5 < v then 1 else 0)]) (rest := []) (pre := []) (mid := [oc m0 7 [.ref A0, .ref V0, .ref Z0, .int sm, .int th, .int pl, .int hz, .ref D0, .ref W0, .ref T0, .int tl, .int tw, .int tc]]) C0 (c_X7_goes_1 l E m0 A0 V0 Z0 D0 W0 T0 sm th pl hz tl tw tc (if ¬ x < 0 ∧ ¬ nI (h * w - 1) < x then 1 else 0) (if ¬ v < 0 ∧ ¬ 5 < v then 1 else 0) (kn10 (hv))) (cwV 2 hts gX7_cell_X7_goes rfl rfl rfl (by decide +kernel) ⟨Nat.le_of_ble_eq_true rfl, Nat.le_of_ble_eq_true rfl⟩) hw rfl (fun _ => [oc m0 7 [.ref A0, .ref V0, .ref Z0, .int sm, .int 1, .int pl, .int hz, .ref D0, .ref W0, .ref T0, .int tl, .int tw, .int tc]]) (fun _ => rfl) 0 7 rfl rfl rfl rfl hl.1 rfl (Nat.le_of_ble_eq_true rfl) dX7_cell_15 ⟨Nat.le_of_ble_eq_true rfl, Nat.le_of_ble_eq_true rfl⟩ (fun r u H locs hq99 hw => ?_)
  subst r
  have hw : kW E AA sx (List.flatten [oc m0 7 [.ref A0, .ref V0, .ref Z0, .int sm, .int 1, .int pl, .int hz, .ref D0, .ref W0, .ref T0, .int tl, .int tw, .int tc], ac E A0 985 (mA h w wd s0 z st he ke tu ca tr co la)]) H locs := hw
  refine W.eq (g2 := F0 mm 18 ls [.int 0]) rfl ?_
  refine lv_if_eq (tgt := 30) hx hb dX7_cell_18 (by decide) (fun c18 => ?_) (fun c18 => absurd c18 (by decide))
  refine lv_iconst (v := 0) hx hb dX7_cell_30 (by decide) ?_
  -- leaf 0
  exact k_iret C0 hr hlk hw () (rfl) (rfl) (Nat.le_of_ble_eq_true rfl) (Nat.le_of_ble_eq_true rfl) dX7_cell_31

set_option maxHeartbeats 4000000 in
set_option maxRecDepth 100000 in
theorem c_X7_cell_x2 (l : Launch) (E : kE) (m0 : Nat) (A0 : Nat) (V0 : Nat) (Z0 : Nat) (D0 : Nat) (W0 : Nat) (T0 : Nat) (sm : Int32) (th : Int32) (pl : Int32) (hz : Int32) (tl : Int32) (tw : Int32) (tc : Int32) (h : Nat) (w : Nat) (wd : Int32) (s0 : Int32) (z : Int32) (st : Nat → Int32) (he : Nat → Int32) (ke : Nat → Int32) (tu : Nat → Int32) (ca : Nat → Int32) (tr : Nat → Int32) (co : Nat → Int32) (la : Nat → Int32) (k : Nat) (v : Int32) (hG : kG h w) (hc : k < h * w) (hv : ¬ (¬ v < 0 ∧ ¬ 5 < v)) : kC E l yX7_cell wsX7_cell rmX7_cell [.ref m0, .int (nI k), .int v] (List.flatten [oc m0 7 [.ref A0, .ref V0, .ref Z0, .int sm, .int th, .int pl, .int hz, .ref D0, .ref W0, .ref T0, .int tl, .int tw, .int tc], ac E A0 985 (mA h w wd s0 z st he ke tu ca tr co la)]) kI (fun (r : Int32) (_ : Unit) => r = 0) (fun _ => List.flatten [oc m0 7 [.ref A0, .ref V0, .ref Z0, .int sm, .int 2, .int pl, .int hz, .ref D0, .ref W0, .ref T0, .int tl, .int tw, .int tc], ac E A0 985 (mA h w wd s0 z st he ke tu ca tr co la)]) 0 0 := by
  refine k_body (cc := cX7_cell) (maxL := 3) (ret := (some .int)) (by decide) rfl (Nat.le_of_ble_eq_true rfl) ?_
  intro pp ee sx mm aa bb me cd H locs AA ls C0 hr hlk hnm hl hw
  obtain ⟨hx, hb, hml, hown, hts⟩ := id C0
  have hl : lv_has ls 3 [(0, .ref m0), (1, .int (nI k)), (2, .int v)] := hl
  have hw : kW E AA sx (List.flatten [oc m0 7 [.ref A0, .ref V0, .ref Z0, .int sm, .int th, .int pl, .int hz, .ref D0, .ref W0, .ref T0, .int tl, .int tw, .int tc], ac E A0 985 (mA h w wd s0 z st he ke tu ca tr co la)]) H locs := hw
  have hn9 := kG_n hG
  have hG9 := id hG
  obtain ⟨hG1, hG2, hG3, hG4⟩ := hG9
  refine lv_aload_n hx hb dX7_cell_0 rfl (lv_at hl 0 rfl) ?_
  refine lv_aload_n hx hb dX7_cell_1 rfl (lv_at hl 0 rfl) ?_
  refine lv_iload_n hx hb dX7_cell_2 rfl (lv_at hl 1 rfl) ?_
  refine k_V (As := [.int (nI k)]) (rest := [.ref m0]) (pre := []) (mid := [oc m0 7 [.ref A0, .ref V0, .ref Z0, .int sm, .int th, .int pl, .int hz, .ref D0, .ref W0, .ref T0, .int tl, .int tw, .int tc], ac E A0 985 (mA h w wd s0 z st he ke tu ca tr co la)]) C0 (c_X7_isCell l E m0 A0 V0 Z0 D0 W0 T0 sm th pl hz tl tw tc h w wd s0 z st he ke tu ca tr co la (nI k) (by first | assumption | omega)) (cwV 1 hts gX7_cell_X7_isCell rfl rfl rfl (by decide +kernel) ⟨Nat.le_of_ble_eq_true rfl, Nat.le_of_ble_eq_true rfl⟩) hw rfl (fun _ => [oc m0 7 [.ref A0, .ref V0, .ref Z0, .int sm, .int th, .int pl, .int hz, .ref D0, .ref W0, .ref T0, .int tl, .int tw, .int tc], ac E A0 985 (mA h w wd s0 z st he ke tu ca tr co la)]) (fun _ => rfl) 0 7 rfl rfl rfl rfl hl.1 rfl (Nat.le_of_ble_eq_true rfl) dX7_cell_3 ⟨Nat.le_of_ble_eq_true rfl, Nat.le_of_ble_eq_true rfl⟩ (fun r u H locs hq99 hw => ?_)
  subst hq99
  have hw : kW E AA sx (List.flatten [oc m0 7 [.ref A0, .ref V0, .ref Z0, .int sm, .int th, .int pl, .int hz, .ref D0, .ref W0, .ref T0, .int tl, .int tw, .int tc], ac E A0 985 (mA h w wd s0 z st he ke tu ca tr co la)]) H locs := hw
  refine W.eq (g2 := F0 mm 6 ls [.int (if ¬ (nI k) < 0 ∧ ¬ nI (h * w - 1) < (nI k) then 1 else 0), .ref m0]) rfl ?_
  refine lv_iload_n hx hb dX7_cell_6 rfl (lv_at hl 2 rfl) ?_
  refine lv_i2l (v := Int32.toInt64 v) hx hb dX7_cell_7 rfl ?_
  refine lv_lconst (v := 0) hx hb dX7_cell_8 (by decide) ?_
  refine lv_ldc2 (v := 5) hx hb hown (hts (.constantLong RX7 91 5) (by decide +kernel)) dX7_cell_9 ?_
  refine k_S (As := [.long (Int32.toInt64 v), .long 0, .long 5]) (rest := [.int (if ¬ (nI k) < 0 ∧ ¬ nI (h * w - 1) < (nI k) then 1 else 0), .ref m0]) (pre := []) (mid := []) C0 (c_X7_in_0_5 l E v ) (va_cwS 3 hts gX7_cell_X7_in rfl rfl rfl (by decide +kernel) ⟨Nat.le_of_ble_eq_true rfl, Nat.le_of_ble_eq_true rfl⟩) hw rfl (fun _ => []) (fun _ => rfl) rfl hl.1 rfl (Nat.le_of_ble_eq_true rfl) dX7_cell_12 ⟨Nat.le_of_ble_eq_true rfl, Nat.le_of_ble_eq_true rfl⟩ (fun r u H locs hq99 hw => ?_)
  subst hq99
  have hw : kW E AA sx (List.flatten [oc m0 7 [.ref A0, .ref V0, .ref Z0, .int sm, .int th, .int pl, .int hz, .ref D0, .ref W0, .ref T0, .int tl, .int tw, .int tc], ac E A0 985 (mA h w wd s0 z st he ke tu ca tr co la)]) H locs := hw
  refine W.eq (g2 := F0 mm 15 ls [.int (if ¬ v < 0 ∧ ¬ 5 < v then 1 else 0), .int (if ¬ (nI k) < 0 ∧ ¬ nI (h * w - 1) < (nI k) then 1 else 0), .ref m0]) rfl ?_
  refine k_V (As := [.int (if ¬ (nI k) < 0 ∧ ¬ nI (h * w - 1) < (nI k) then 1 else 0), .int (if ¬ v < 0 ∧ ¬ 5 < v then 1 else 0)]) (rest := []) (pre := []) (mid := [oc m0 7 [.ref A0, .ref V0, .ref Z0, .int sm, .int th, .int pl, .int hz, .ref D0, .ref W0, .ref T0, .int tl, .int tw, .int tc]]) C0 (c_X7_goes_2 l E m0 A0 V0 Z0 D0 W0 T0 sm th pl hz tl tw tc (if ¬ (nI k) < 0 ∧ ¬ nI (h * w - 1) < (nI k) then 1 else 0) (if ¬ v < 0 ∧ ¬ 5 < v then 1 else 0) (kp10 (⟨nI_pos (by omega), nI_nlt (a := h * w - 1) (b := k) (by omega) (by omega)⟩)) (kn10 (hv))) (cwV 2 hts gX7_cell_X7_goes rfl rfl rfl (by decide +kernel) ⟨Nat.le_of_ble_eq_true rfl, Nat.le_of_ble_eq_true rfl⟩) hw rfl (fun _ => [oc m0 7 [.ref A0, .ref V0, .ref Z0, .int sm, .int 2, .int pl, .int hz, .ref D0, .ref W0, .ref T0, .int tl, .int tw, .int tc]]) (fun _ => rfl) 0 7 rfl rfl rfl rfl hl.1 rfl (Nat.le_of_ble_eq_true rfl) dX7_cell_15 ⟨Nat.le_of_ble_eq_true rfl, Nat.le_of_ble_eq_true rfl⟩ (fun r u H locs hq99 hw => ?_)
  subst r
  have hw : kW E AA sx (List.flatten [oc m0 7 [.ref A0, .ref V0, .ref Z0, .int sm, .int 2, .int pl, .int hz, .ref D0, .ref W0, .ref T0, .int tl, .int tw, .int tc], ac E A0 985 (mA h w wd s0 z st he ke tu ca tr co la)]) H locs := hw
  refine W.eq (g2 := F0 mm 18 ls [.int 0]) rfl ?_
  refine lv_if_eq (tgt := 30) hx hb dX7_cell_18 (by decide) (fun c18 => ?_) (fun c18 => absurd c18 (by decide))
  refine lv_iconst (v := 0) hx hb dX7_cell_30 (by decide) ?_
  -- leaf 0
  exact k_iret C0 hr hlk hw () (rfl) (rfl) (Nat.le_of_ble_eq_true rfl) (Nat.le_of_ble_eq_true rfl) dX7_cell_31

abbrev rmX7_count : Room := { frames := 1, cells := 0, slots := 0, locals := 25 }
set_option maxHeartbeats 4000000 in
set_option maxRecDepth 100000 in
theorem c_X7_count_ok (l : Launch) (E : kE) (m0 : Nat) (A0 : Nat) (V0 : Nat) (Z0 : Nat) (D0 : Nat) (W0 : Nat) (T0 : Nat) (sm : Int32) (th : Int32) (pl : Int32) (hz : Int32) (tl : Int32) (tw : Int32) (tc : Int32) (h : Nat) (w : Nat) (wd : Int32) (s0 : Int32) (z : Int32) (st : Nat → Int32) (he : Nat → Int32) (ke : Nat → Int32) (tu : Nat → Int32) (ca : Nat → Int32) (tr : Nat → Int32) (co : Nat → Int32) (la : Nat → Int32) (j9 : Nat) (hj9 : j9 < 12) : kC E l yX7_count wsX7_count rmX7_count [.ref m0, .int (nI j9)] (List.flatten [oc m0 7 [.ref A0, .ref V0, .ref Z0, .int sm, .int th, .int pl, .int hz, .ref D0, .ref W0, .ref T0, .int tl, .int tw, .int tc], ac E A0 985 (mA h w wd s0 z st he ke tu ca tr co la)]) kI (fun (r : Int32) (_ : Unit) => r = co j9) (fun _ => List.flatten [oc m0 7 [.ref A0, .ref V0, .ref Z0, .int sm, .int 0, .int pl, .int hz, .ref D0, .ref W0, .ref T0, .int tl, .int tw, .int tc], ac E A0 985 (mA h w wd s0 z st he ke tu ca tr co la)]) 0 0 := by
  refine k_body (cc := cX7_count) (maxL := 2) (ret := (some .int)) (by decide) rfl (Nat.le_of_ble_eq_true rfl) ?_
  intro pp ee sx mm aa bb me cd H locs AA ls C0 hr hlk hnm hl hw
  obtain ⟨hx, hb, hml, hown, hts⟩ := id C0
  have hl : lv_has ls 2 [(0, .ref m0), (1, .int (nI j9))] := hl
  have hw : kW E AA sx (List.flatten [oc m0 7 [.ref A0, .ref V0, .ref Z0, .int sm, .int th, .int pl, .int hz, .ref D0, .ref W0, .ref T0, .int tl, .int tw, .int tc], ac E A0 985 (mA h w wd s0 z st he ke tu ca tr co la)]) H locs := hw
  have hinX7 : ∀ w ∈ u_ws RX7 TX7 13, w ∈ wsX7_count := by decide +kernel
  refine lv_aload_n hx hb dX7_count_0 rfl (lv_at hl 0 rfl) ?_
  refine lv_iload_n hx hb dX7_count_1 rfl (lv_at hl 1 rfl) ?_
  refine lv_i2l (v := Int32.toInt64 (nI j9)) hx hb dX7_count_2 rfl ?_
  refine lv_lconst (v := 0) hx hb dX7_count_3 (by decide) ?_
  refine lv_ldc2 (v := 11) hx hb hown (hts (.constantLong RX7 173 11) (by decide +kernel)) dX7_count_4 ?_
  refine k_S (As := [.long (Int32.toInt64 (nI j9)), .long 0, .long 11]) (rest := [.ref m0]) (pre := []) (mid := []) C0 (c_X7_in_0_11 l E (nI j9) ) (va_cwS 3 hts gX7_count_X7_in rfl rfl rfl (by decide +kernel) ⟨Nat.le_of_ble_eq_true rfl, Nat.le_of_ble_eq_true rfl⟩) hw rfl (fun _ => []) (fun _ => rfl) rfl hl.1 rfl (Nat.le_of_ble_eq_true rfl) dX7_count_7 ⟨Nat.le_of_ble_eq_true rfl, Nat.le_of_ble_eq_true rfl⟩ (fun r u H locs hq99 hw => ?_)
  subst hq99
  have hw : kW E AA sx (List.flatten [oc m0 7 [.ref A0, .ref V0, .ref Z0, .int sm, .int th, .int pl, .int hz, .ref D0, .ref W0, .ref T0, .int tl, .int tw, .int tc], ac E A0 985 (mA h w wd s0 z st he ke tu ca tr co la)]) H locs := hw
  refine W.eq (g2 := F0 mm 10 ls [.int (if ¬ (nI j9) < 0 ∧ ¬ 11 < (nI j9) then 1 else 0), .ref m0]) rfl ?_
  refine lv_iconst (v := 1) hx hb dX7_count_10 (by decide) ?_
  refine k_V (As := [.int (if ¬ (nI j9) < 0 ∧ ¬ 11 < (nI j9) then 1 else 0), .int 1]) (rest := []) (pre := []) (mid := [oc m0 7 [.ref A0, .ref V0, .ref Z0, .int sm, .int th, .int pl, .int hz, .ref D0, .ref W0, .ref T0, .int tl, .int tw, .int tc]]) C0 (c_X7_goes_ok l E m0 A0 V0 Z0 D0 W0 T0 sm th pl hz tl tw tc (if ¬ (nI j9) < 0 ∧ ¬ 11 < (nI j9) then 1 else 0) 1 (kp10 (⟨nI_pos (by omega), nI_nlt (a := 11) (b := j9) (by omega) (by omega)⟩)) (by decide)) (cwV 2 hts gX7_count_X7_goes rfl rfl rfl (by decide +kernel) ⟨Nat.le_of_ble_eq_true rfl, Nat.le_of_ble_eq_true rfl⟩) hw rfl (fun _ => [oc m0 7 [.ref A0, .ref V0, .ref Z0, .int sm, .int 0, .int pl, .int hz, .ref D0, .ref W0, .ref T0, .int tl, .int tw, .int tc]]) (fun _ => rfl) 0 7 rfl rfl rfl rfl hl.1 rfl (Nat.le_of_ble_eq_true rfl) dX7_count_11 ⟨Nat.le_of_ble_eq_true rfl, Nat.le_of_ble_eq_true rfl⟩ (fun r u H locs hq99 hw => ?_)
  subst r
  have hw : kW E AA sx (List.flatten [oc m0 7 [.ref A0, .ref V0, .ref Z0, .int sm, .int 0, .int pl, .int hz, .ref D0, .ref W0, .ref T0, .int tl, .int tw, .int tc], ac E A0 985 (mA h w wd s0 z st he ke tu ca tr co la)]) H locs := hw
  refine W.eq (g2 := F0 mm 14 ls [.int 1]) rfl ?_
  refine lv_if_eq (tgt := 29) hx hb dX7_count_14 (by decide) (fun c14 => absurd c14 (by decide)) (fun c14 => ?_)
  refine lv_aload_n hx hb dX7_count_17 rfl (lv_at hl 0 rfl) ?_
  refine k_get (pre := []) C0 hw hinX7 rfl 0 (by decide) (hts (.fieldLink RX7 7 "SlabDunesModel" "all" "[I") (by decide +kernel)) rfl rfl dX7_count_18 ?_
  refine lv_bipush (v := 9) hx hb dX7_count_21 (by decide) ?_
  refine lv_iload_n hx hb dX7_count_23 rfl (lv_at hl 1 rfl) ?_
  refine lv_iadd hx hb dX7_count_24 ?_
  refine W.eq (g2 := F0 mm 25 ls [.int (nI (9 + j9)), .ref A0]) (congrArg (fun z9 => F0 mm 25 ls [.int z9, .ref A0]) (show (9 + (nI j9) : Int32) = nI (9 + j9) from nI_add 9 _)) ?_
  refine k_iald (pre := [oc m0 7 [.ref A0, .ref V0, .ref Z0, .int sm, .int 0, .int pl, .int hz, .ref D0, .ref W0, .ref T0, .int tl, .int tw, .int tc]]) (l1 := []) C0 hw (i := nI (9 + j9)) (kinN (by omega) (by decide)) dX7_count_25 ?_
  refine W.eq (g2 := F0 mm 26 ls [.int (co j9)]) (congrArg (fun z9 => F0 mm 26 ls [.int z9]) (show ((mA h w wd s0 z st he ke tu ca tr co la) (Int32.toNatClampNeg (nI (9 + j9))) : Int32) = co j9 from mA_cn hj9)) ?_
  refine lv_goto (tgt := 30) hx hb dX7_count_26 (by decide) ?_
  -- leaf 0
  exact k_iret C0 hr hlk hw () (rfl) (rfl) (Nat.le_of_ble_eq_true rfl) (Nat.le_of_ble_eq_true rfl) dX7_count_30

set_option maxHeartbeats 4000000 in
set_option maxRecDepth 100000 in
theorem c_X7_count_x1 (l : Launch) (E : kE) (m0 : Nat) (A0 : Nat) (V0 : Nat) (Z0 : Nat) (D0 : Nat) (W0 : Nat) (T0 : Nat) (sm : Int32) (th : Int32) (pl : Int32) (hz : Int32) (tl : Int32) (tw : Int32) (tc : Int32) (h : Nat) (w : Nat) (wd : Int32) (s0 : Int32) (z : Int32) (st : Nat → Int32) (he : Nat → Int32) (ke : Nat → Int32) (tu : Nat → Int32) (ca : Nat → Int32) (tr : Nat → Int32) (co : Nat → Int32) (la : Nat → Int32) (x : Int32) (hv : ¬ (¬ x < 0 ∧ ¬ 11 < x)) : kC E l yX7_count wsX7_count rmX7_count [.ref m0, .int x] (List.flatten [oc m0 7 [.ref A0, .ref V0, .ref Z0, .int sm, .int th, .int pl, .int hz, .ref D0, .ref W0, .ref T0, .int tl, .int tw, .int tc], ac E A0 985 (mA h w wd s0 z st he ke tu ca tr co la)]) kI (fun (r : Int32) (_ : Unit) => r = 0) (fun _ => List.flatten [oc m0 7 [.ref A0, .ref V0, .ref Z0, .int sm, .int 1, .int pl, .int hz, .ref D0, .ref W0, .ref T0, .int tl, .int tw, .int tc], ac E A0 985 (mA h w wd s0 z st he ke tu ca tr co la)]) 0 0 := by
  refine k_body (cc := cX7_count) (maxL := 2) (ret := (some .int)) (by decide) rfl (Nat.le_of_ble_eq_true rfl) ?_
  intro pp ee sx mm aa bb me cd H locs AA ls C0 hr hlk hnm hl hw
  obtain ⟨hx, hb, hml, hown, hts⟩ := id C0
  have hl : lv_has ls 2 [(0, .ref m0), (1, .int x)] := hl
  have hw : kW E AA sx (List.flatten [oc m0 7 [.ref A0, .ref V0, .ref Z0, .int sm, .int th, .int pl, .int hz, .ref D0, .ref W0, .ref T0, .int tl, .int tw, .int tc], ac E A0 985 (mA h w wd s0 z st he ke tu ca tr co la)]) H locs := hw
  refine lv_aload_n hx hb dX7_count_0 rfl (lv_at hl 0 rfl) ?_
  refine lv_iload_n hx hb dX7_count_1 rfl (lv_at hl 1 rfl) ?_
  refine lv_i2l (v := Int32.toInt64 x) hx hb dX7_count_2 rfl ?_
  refine lv_lconst (v := 0) hx hb dX7_count_3 (by decide) ?_
  refine lv_ldc2 (v := 11) hx hb hown (hts (.constantLong RX7 173 11) (by decide +kernel)) dX7_count_4 ?_
  refine k_S (As := [.long (Int32.toInt64 x), .long 0, .long 11]) (rest := [.ref m0]) (pre := []) (mid := []) C0 (c_X7_in_0_11 l E x ) (va_cwS 3 hts gX7_count_X7_in rfl rfl rfl (by decide +kernel) ⟨Nat.le_of_ble_eq_true rfl, Nat.le_of_ble_eq_true rfl⟩) hw rfl (fun _ => []) (fun _ => rfl) rfl hl.1 rfl (Nat.le_of_ble_eq_true rfl) dX7_count_7 ⟨Nat.le_of_ble_eq_true rfl, Nat.le_of_ble_eq_true rfl⟩ (fun r u H locs hq99 hw => ?_)
  subst hq99
  have hw : kW E AA sx (List.flatten [oc m0 7 [.ref A0, .ref V0, .ref Z0, .int sm, .int th, .int pl, .int hz, .ref D0, .ref W0, .ref T0, .int tl, .int tw, .int tc], ac E A0 985 (mA h w wd s0 z st he ke tu ca tr co la)]) H locs := hw
  refine W.eq (g2 := F0 mm 10 ls [.int (if ¬ x < 0 ∧ ¬ 11 < x then 1 else 0), .ref m0]) rfl ?_
  refine lv_iconst (v := 1) hx hb dX7_count_10 (by decide) ?_
  refine k_V (As := [.int (if ¬ x < 0 ∧ ¬ 11 < x then 1 else 0), .int 1]) (rest := []) (pre := []) (mid := [oc m0 7 [.ref A0, .ref V0, .ref Z0, .int sm, .int th, .int pl, .int hz, .ref D0, .ref W0, .ref T0, .int tl, .int tw, .int tc]]) C0 (c_X7_goes_1 l E m0 A0 V0 Z0 D0 W0 T0 sm th pl hz tl tw tc (if ¬ x < 0 ∧ ¬ 11 < x then 1 else 0) 1 (kn10 (hv))) (cwV 2 hts gX7_count_X7_goes rfl rfl rfl (by decide +kernel) ⟨Nat.le_of_ble_eq_true rfl, Nat.le_of_ble_eq_true rfl⟩) hw rfl (fun _ => [oc m0 7 [.ref A0, .ref V0, .ref Z0, .int sm, .int 1, .int pl, .int hz, .ref D0, .ref W0, .ref T0, .int tl, .int tw, .int tc]]) (fun _ => rfl) 0 7 rfl rfl rfl rfl hl.1 rfl (Nat.le_of_ble_eq_true rfl) dX7_count_11 ⟨Nat.le_of_ble_eq_true rfl, Nat.le_of_ble_eq_true rfl⟩ (fun r u H locs hq99 hw => ?_)
  subst r
  have hw : kW E AA sx (List.flatten [oc m0 7 [.ref A0, .ref V0, .ref Z0, .int sm, .int 1, .int pl, .int hz, .ref D0, .ref W0, .ref T0, .int tl, .int tw, .int tc], ac E A0 985 (mA h w wd s0 z st he ke tu ca tr co la)]) H locs := hw
  refine W.eq (g2 := F0 mm 14 ls [.int 0]) rfl ?_
  refine lv_if_eq (tgt := 29) hx hb dX7_count_14 (by decide) (fun c14 => ?_) (fun c14 => absurd c14 (by decide))
  refine lv_iconst (v := 0) hx hb dX7_count_29 (by decide) ?_
  -- leaf 0
  exact k_iret C0 hr hlk hw () (rfl) (rfl) (Nat.le_of_ble_eq_true rfl) (Nat.le_of_ble_eq_true rfl) dX7_count_30

abbrev rmX7_latest : Room := { frames := 1, cells := 0, slots := 0, locals := 25 }
set_option maxHeartbeats 4000000 in
set_option maxRecDepth 100000 in
theorem c_X7_latest_ok (l : Launch) (E : kE) (m0 : Nat) (A0 : Nat) (V0 : Nat) (Z0 : Nat) (D0 : Nat) (W0 : Nat) (T0 : Nat) (sm : Int32) (th : Int32) (pl : Int32) (hz : Int32) (tl : Int32) (tw : Int32) (tc : Int32) (h : Nat) (w : Nat) (wd : Int32) (s0 : Int32) (z : Int32) (st : Nat → Int32) (he : Nat → Int32) (ke : Nat → Int32) (tu : Nat → Int32) (ca : Nat → Int32) (tr : Nat → Int32) (co : Nat → Int32) (la : Nat → Int32) (j9 : Nat) (hj9 : j9 < 4) : kC E l yX7_latest wsX7_latest rmX7_latest [.ref m0, .int (nI j9)] (List.flatten [oc m0 7 [.ref A0, .ref V0, .ref Z0, .int sm, .int th, .int pl, .int hz, .ref D0, .ref W0, .ref T0, .int tl, .int tw, .int tc], ac E A0 985 (mA h w wd s0 z st he ke tu ca tr co la)]) kI (fun (r : Int32) (_ : Unit) => r = la j9) (fun _ => List.flatten [oc m0 7 [.ref A0, .ref V0, .ref Z0, .int sm, .int 0, .int pl, .int hz, .ref D0, .ref W0, .ref T0, .int tl, .int tw, .int tc], ac E A0 985 (mA h w wd s0 z st he ke tu ca tr co la)]) 0 0 := by
  refine k_body (cc := cX7_latest) (maxL := 2) (ret := (some .int)) (by decide) rfl (Nat.le_of_ble_eq_true rfl) ?_
  intro pp ee sx mm aa bb me cd H locs AA ls C0 hr hlk hnm hl hw
  obtain ⟨hx, hb, hml, hown, hts⟩ := id C0
  have hl : lv_has ls 2 [(0, .ref m0), (1, .int (nI j9))] := hl
  have hw : kW E AA sx (List.flatten [oc m0 7 [.ref A0, .ref V0, .ref Z0, .int sm, .int th, .int pl, .int hz, .ref D0, .ref W0, .ref T0, .int tl, .int tw, .int tc], ac E A0 985 (mA h w wd s0 z st he ke tu ca tr co la)]) H locs := hw
  have hinX7 : ∀ w ∈ u_ws RX7 TX7 13, w ∈ wsX7_latest := by decide +kernel
  refine lv_aload_n hx hb dX7_latest_0 rfl (lv_at hl 0 rfl) ?_
  refine lv_iload_n hx hb dX7_latest_1 rfl (lv_at hl 1 rfl) ?_
  refine lv_i2l (v := Int32.toInt64 (nI j9)) hx hb dX7_latest_2 rfl ?_
  refine lv_lconst (v := 0) hx hb dX7_latest_3 (by decide) ?_
  refine lv_ldc2 (v := 3) hx hb hown (hts (.constantLong RX7 58 3) (by decide +kernel)) dX7_latest_4 ?_
  refine k_S (As := [.long (Int32.toInt64 (nI j9)), .long 0, .long 3]) (rest := [.ref m0]) (pre := []) (mid := []) C0 (c_X7_in_0_3 l E (nI j9) ) (va_cwS 3 hts gX7_latest_X7_in rfl rfl rfl (by decide +kernel) ⟨Nat.le_of_ble_eq_true rfl, Nat.le_of_ble_eq_true rfl⟩) hw rfl (fun _ => []) (fun _ => rfl) rfl hl.1 rfl (Nat.le_of_ble_eq_true rfl) dX7_latest_7 ⟨Nat.le_of_ble_eq_true rfl, Nat.le_of_ble_eq_true rfl⟩ (fun r u H locs hq99 hw => ?_)
  subst hq99
  have hw : kW E AA sx (List.flatten [oc m0 7 [.ref A0, .ref V0, .ref Z0, .int sm, .int th, .int pl, .int hz, .ref D0, .ref W0, .ref T0, .int tl, .int tw, .int tc], ac E A0 985 (mA h w wd s0 z st he ke tu ca tr co la)]) H locs := hw
  refine W.eq (g2 := F0 mm 10 ls [.int (if ¬ (nI j9) < 0 ∧ ¬ 3 < (nI j9) then 1 else 0), .ref m0]) rfl ?_
  refine lv_iconst (v := 1) hx hb dX7_latest_10 (by decide) ?_
  refine k_V (As := [.int (if ¬ (nI j9) < 0 ∧ ¬ 3 < (nI j9) then 1 else 0), .int 1]) (rest := []) (pre := []) (mid := [oc m0 7 [.ref A0, .ref V0, .ref Z0, .int sm, .int th, .int pl, .int hz, .ref D0, .ref W0, .ref T0, .int tl, .int tw, .int tc]]) C0 (c_X7_goes_ok l E m0 A0 V0 Z0 D0 W0 T0 sm th pl hz tl tw tc (if ¬ (nI j9) < 0 ∧ ¬ 3 < (nI j9) then 1 else 0) 1 (kp10 (⟨nI_pos (by omega), nI_nlt (a := 3) (b := j9) (by omega) (by omega)⟩)) (by decide)) (cwV 2 hts gX7_latest_X7_goes rfl rfl rfl (by decide +kernel) ⟨Nat.le_of_ble_eq_true rfl, Nat.le_of_ble_eq_true rfl⟩) hw rfl (fun _ => [oc m0 7 [.ref A0, .ref V0, .ref Z0, .int sm, .int 0, .int pl, .int hz, .ref D0, .ref W0, .ref T0, .int tl, .int tw, .int tc]]) (fun _ => rfl) 0 7 rfl rfl rfl rfl hl.1 rfl (Nat.le_of_ble_eq_true rfl) dX7_latest_11 ⟨Nat.le_of_ble_eq_true rfl, Nat.le_of_ble_eq_true rfl⟩ (fun r u H locs hq99 hw => ?_)
  subst r
  have hw : kW E AA sx (List.flatten [oc m0 7 [.ref A0, .ref V0, .ref Z0, .int sm, .int 0, .int pl, .int hz, .ref D0, .ref W0, .ref T0, .int tl, .int tw, .int tc], ac E A0 985 (mA h w wd s0 z st he ke tu ca tr co la)]) H locs := hw
  refine W.eq (g2 := F0 mm 14 ls [.int 1]) rfl ?_
  refine lv_if_eq (tgt := 29) hx hb dX7_latest_14 (by decide) (fun c14 => absurd c14 (by decide)) (fun c14 => ?_)
  refine lv_aload_n hx hb dX7_latest_17 rfl (lv_at hl 0 rfl) ?_
  refine k_get (pre := []) C0 hw hinX7 rfl 0 (by decide) (hts (.fieldLink RX7 7 "SlabDunesModel" "all" "[I") (by decide +kernel)) rfl rfl dX7_latest_18 ?_
  refine lv_bipush (v := 21) hx hb dX7_latest_21 (by decide) ?_
  refine lv_iload_n hx hb dX7_latest_23 rfl (lv_at hl 1 rfl) ?_
  refine lv_iadd hx hb dX7_latest_24 ?_
  refine W.eq (g2 := F0 mm 25 ls [.int (nI (21 + j9)), .ref A0]) (congrArg (fun z9 => F0 mm 25 ls [.int z9, .ref A0]) (show (21 + (nI j9) : Int32) = nI (21 + j9) from nI_add 21 _)) ?_
  refine k_iald (pre := [oc m0 7 [.ref A0, .ref V0, .ref Z0, .int sm, .int 0, .int pl, .int hz, .ref D0, .ref W0, .ref T0, .int tl, .int tw, .int tc]]) (l1 := []) C0 hw (i := nI (21 + j9)) (kinN (by omega) (by decide)) dX7_latest_25 ?_
  refine W.eq (g2 := F0 mm 26 ls [.int (la j9)]) (congrArg (fun z9 => F0 mm 26 ls [.int z9]) (show ((mA h w wd s0 z st he ke tu ca tr co la) (Int32.toNatClampNeg (nI (21 + j9))) : Int32) = la j9 from mA_ln hj9)) ?_
  refine lv_goto (tgt := 30) hx hb dX7_latest_26 (by decide) ?_
  -- leaf 0
  exact k_iret C0 hr hlk hw () (rfl) (rfl) (Nat.le_of_ble_eq_true rfl) (Nat.le_of_ble_eq_true rfl) dX7_latest_30

set_option maxHeartbeats 4000000 in
set_option maxRecDepth 100000 in
theorem c_X7_latest_x1 (l : Launch) (E : kE) (m0 : Nat) (A0 : Nat) (V0 : Nat) (Z0 : Nat) (D0 : Nat) (W0 : Nat) (T0 : Nat) (sm : Int32) (th : Int32) (pl : Int32) (hz : Int32) (tl : Int32) (tw : Int32) (tc : Int32) (h : Nat) (w : Nat) (wd : Int32) (s0 : Int32) (z : Int32) (st : Nat → Int32) (he : Nat → Int32) (ke : Nat → Int32) (tu : Nat → Int32) (ca : Nat → Int32) (tr : Nat → Int32) (co : Nat → Int32) (la : Nat → Int32) (x : Int32) (hv : ¬ (¬ x < 0 ∧ ¬ 3 < x)) : kC E l yX7_latest wsX7_latest rmX7_latest [.ref m0, .int x] (List.flatten [oc m0 7 [.ref A0, .ref V0, .ref Z0, .int sm, .int th, .int pl, .int hz, .ref D0, .ref W0, .ref T0, .int tl, .int tw, .int tc], ac E A0 985 (mA h w wd s0 z st he ke tu ca tr co la)]) kI (fun (r : Int32) (_ : Unit) => r = 0) (fun _ => List.flatten [oc m0 7 [.ref A0, .ref V0, .ref Z0, .int sm, .int 1, .int pl, .int hz, .ref D0, .ref W0, .ref T0, .int tl, .int tw, .int tc], ac E A0 985 (mA h w wd s0 z st he ke tu ca tr co la)]) 0 0 := by
  refine k_body (cc := cX7_latest) (maxL := 2) (ret := (some .int)) (by decide) rfl (Nat.le_of_ble_eq_true rfl) ?_
  intro pp ee sx mm aa bb me cd H locs AA ls C0 hr hlk hnm hl hw
  obtain ⟨hx, hb, hml, hown, hts⟩ := id C0
  have hl : lv_has ls 2 [(0, .ref m0), (1, .int x)] := hl
  have hw : kW E AA sx (List.flatten [oc m0 7 [.ref A0, .ref V0, .ref Z0, .int sm, .int th, .int pl, .int hz, .ref D0, .ref W0, .ref T0, .int tl, .int tw, .int tc], ac E A0 985 (mA h w wd s0 z st he ke tu ca tr co la)]) H locs := hw
  refine lv_aload_n hx hb dX7_latest_0 rfl (lv_at hl 0 rfl) ?_
  refine lv_iload_n hx hb dX7_latest_1 rfl (lv_at hl 1 rfl) ?_
  refine lv_i2l (v := Int32.toInt64 x) hx hb dX7_latest_2 rfl ?_
  refine lv_lconst (v := 0) hx hb dX7_latest_3 (by decide) ?_
  refine lv_ldc2 (v := 3) hx hb hown (hts (.constantLong RX7 58 3) (by decide +kernel)) dX7_latest_4 ?_
  refine k_S (As := [.long (Int32.toInt64 x), .long 0, .long 3]) (rest := [.ref m0]) (pre := []) (mid := []) C0 (c_X7_in_0_3 l E x ) (va_cwS 3 hts gX7_latest_X7_in rfl rfl rfl (by decide +kernel) ⟨Nat.le_of_ble_eq_true rfl, Nat.le_of_ble_eq_true rfl⟩) hw rfl (fun _ => []) (fun _ => rfl) rfl hl.1 rfl (Nat.le_of_ble_eq_true rfl) dX7_latest_7 ⟨Nat.le_of_ble_eq_true rfl, Nat.le_of_ble_eq_true rfl⟩ (fun r u H locs hq99 hw => ?_)
  subst hq99
  have hw : kW E AA sx (List.flatten [oc m0 7 [.ref A0, .ref V0, .ref Z0, .int sm, .int th, .int pl, .int hz, .ref D0, .ref W0, .ref T0, .int tl, .int tw, .int tc], ac E A0 985 (mA h w wd s0 z st he ke tu ca tr co la)]) H locs := hw
  refine W.eq (g2 := F0 mm 10 ls [.int (if ¬ x < 0 ∧ ¬ 3 < x then 1 else 0), .ref m0]) rfl ?_
  refine lv_iconst (v := 1) hx hb dX7_latest_10 (by decide) ?_
  refine k_V (As := [.int (if ¬ x < 0 ∧ ¬ 3 < x then 1 else 0), .int 1]) (rest := []) (pre := []) (mid := [oc m0 7 [.ref A0, .ref V0, .ref Z0, .int sm, .int th, .int pl, .int hz, .ref D0, .ref W0, .ref T0, .int tl, .int tw, .int tc]]) C0 (c_X7_goes_1 l E m0 A0 V0 Z0 D0 W0 T0 sm th pl hz tl tw tc (if ¬ x < 0 ∧ ¬ 3 < x then 1 else 0) 1 (kn10 (hv))) (cwV 2 hts gX7_latest_X7_goes rfl rfl rfl (by decide +kernel) ⟨Nat.le_of_ble_eq_true rfl, Nat.le_of_ble_eq_true rfl⟩) hw rfl (fun _ => [oc m0 7 [.ref A0, .ref V0, .ref Z0, .int sm, .int 1, .int pl, .int hz, .ref D0, .ref W0, .ref T0, .int tl, .int tw, .int tc]]) (fun _ => rfl) 0 7 rfl rfl rfl rfl hl.1 rfl (Nat.le_of_ble_eq_true rfl) dX7_latest_11 ⟨Nat.le_of_ble_eq_true rfl, Nat.le_of_ble_eq_true rfl⟩ (fun r u H locs hq99 hw => ?_)
  subst r
  have hw : kW E AA sx (List.flatten [oc m0 7 [.ref A0, .ref V0, .ref Z0, .int sm, .int 1, .int pl, .int hz, .ref D0, .ref W0, .ref T0, .int tl, .int tw, .int tc], ac E A0 985 (mA h w wd s0 z st he ke tu ca tr co la)]) H locs := hw
  refine W.eq (g2 := F0 mm 14 ls [.int 0]) rfl ?_
  refine lv_if_eq (tgt := 29) hx hb dX7_latest_14 (by decide) (fun c14 => ?_) (fun c14 => absurd c14 (by decide))
  refine lv_iconst (v := 0) hx hb dX7_latest_29 (by decide) ?_
  -- leaf 0
  exact k_iret C0 hr hlk hw () (rfl) (rfl) (Nat.le_of_ble_eq_true rfl) (Nat.le_of_ble_eq_true rfl) dX7_latest_30

abbrev rmX7_slabs : Room := { frames := 2, cells := 0, slots := 0, locals := 43 }
set_option maxHeartbeats 4000000 in
set_option maxRecDepth 100000 in
theorem c_X7_slabs_ok (l : Launch) (E : kE) (m0 : Nat) (A0 : Nat) (V0 : Nat) (Z0 : Nat) (D0 : Nat) (W0 : Nat) (T0 : Nat) (sm : Int32) (th : Int32) (pl : Int32) (hz : Int32) (tl : Int32) (tw : Int32) (tc : Int32) (h : Nat) (w : Nat) (wd : Int32) (s0 : Int32) (z : Int32) (st : Nat → Int32) (he : Nat → Int32) (ke : Nat → Int32) (tu : Nat → Int32) (ca : Nat → Int32) (tr : Nat → Int32) (co : Nat → Int32) (la : Nat → Int32) (hG : kG h w) : kC E l yX7_slabs wsX7_slabs rmX7_slabs [.ref m0] (List.flatten [oc m0 7 [.ref A0, .ref V0, .ref Z0, .int sm, .int th, .int pl, .int hz, .ref D0, .ref W0, .ref T0, .int tl, .int tw, .int tc], ac E A0 985 (mA h w wd s0 z st he ke tu ca tr co la)]) kI (fun (r : Int32) (_ : Unit) => r = sumI he (h * w)) (fun _ => List.flatten [oc m0 7 [.ref A0, .ref V0, .ref Z0, .int sm, .int 0, .int pl, .int hz, .ref D0, .ref W0, .ref T0, .int tl, .int tw, .int tc], ac E A0 985 (mA h w wd s0 z st he ke tu ca tr co la)]) 0 0 := by
  refine k_body (cc := cX7_slabs) (maxL := 3) (ret := (some .int)) (by decide) rfl (Nat.le_of_ble_eq_true rfl) ?_
  intro pp ee sx mm aa bb me cd H locs AA ls C0 hr hlk hnm hl hw
  obtain ⟨hx, hb, hml, hown, hts⟩ := id C0
  have hl : lv_has ls 3 [(0, .ref m0)] := hl
  have hw : kW E AA sx (List.flatten [oc m0 7 [.ref A0, .ref V0, .ref Z0, .int sm, .int th, .int pl, .int hz, .ref D0, .ref W0, .ref T0, .int tl, .int tw, .int tc], ac E A0 985 (mA h w wd s0 z st he ke tu ca tr co la)]) H locs := hw
  have hn9 := kG_n hG
  have hG9 := id hG
  obtain ⟨hG1, hG2, hG3, hG4⟩ := hG9
  have hinX7 : ∀ w ∈ u_ws RX7 TX7 13, w ∈ wsX7_slabs := by decide +kernel
  refine lv_aload_n hx hb dX7_slabs_0 rfl (lv_at hl 0 rfl) ?_
  refine lv_iconst (v := 0) hx hb dX7_slabs_1 (by decide) ?_
  refine k_put (pre := []) C0 hw hinX7 tyX7 tyX7_ok nmX7 rfl 4 (by decide) (hts (.fieldLink RX7 32 "SlabDunesModel" "thrown" "I") (by decide +kernel)) rfl rfl (ty := .int) (by decide +kernel) rfl rfl (Nat.le_of_ble_eq_true rfl) dX7_slabs_2 (fun H locs hw => ?_)
  have hw : kW E AA sx (List.flatten [oc m0 7 [.ref A0, .ref V0, .ref Z0, .int sm, .int 0, .int pl, .int hz, .ref D0, .ref W0, .ref T0, .int tl, .int tw, .int tc], ac E A0 985 (mA h w wd s0 z st he ke tu ca tr co la)]) H locs := hw
  refine lv_iconst (v := 0) hx hb dX7_slabs_5 (by decide) ?_
  refine lv_istore_n (lv' := [(1, .int 0), (0, .ref m0)]) hx hb dX7_slabs_6 rfl hl (by decide) rfl (fun ls hl => ?_)
  refine lv_iconst (v := 0) hx hb dX7_slabs_7 (by decide) ?_
  refine lv_istore_n (lv' := [(2, .int 0), (1, .int 0), (0, .ref m0)]) hx hb dX7_slabs_8 rfl hl (by decide) rfl (fun ls hl => ?_)
  have loop9 : ∀ (nn : Nat) (i : Nat) (x : Int32), (i ≤ h * w) → (x = sumI he i) → h * w - i < nn → ∀ (H : Heap) (locs : List Loc) (ls : Array Slot), lv_has ls 3 [(2, .int (nI i)), (1, .int x), (0, .ref m0)] → kW E AA sx (List.flatten [oc m0 7 [.ref A0, .ref V0, .ref Z0, .int sm, .int 0, .int pl, .int hz, .ref D0, .ref W0, .ref T0, .int tl, .int tw, .int tc], ac E A0 985 (mA h w wd s0 z st he ke tu ca tr co la)]) H locs → W pp l ee rmX7_slabs sx mm aa bb me cd H locs 0 0 (kEnd E kI (fun (r : Int32) (_ : Unit) => r = sumI he (h * w)) (fun _ => List.flatten [oc m0 7 [.ref A0, .ref V0, .ref Z0, .int sm, .int 0, .int pl, .int hz, .ref D0, .ref W0, .ref T0, .int tl, .int tw, .int tc], ac E A0 985 (mA h w wd s0 z st he ke tu ca tr co la)]) bb aa sx AA 0 0) (F0 mm 9 ls []) := by
    intro nn
    induction nn with
    | zero => intro i x hi hxx hm9; exact absurd hm9 (Nat.not_lt_zero _)
    | succ nn ih9 =>
      intro i x hi hxx hm9 H locs ls hl hw
      refine lv_iload_n hx hb dX7_slabs_9 rfl (lv_at hl 0 rfl) ?_
      refine lv_aload_n hx hb dX7_slabs_10 rfl (lv_at hl 2 rfl) ?_
      refine k_V (As := []) (rest := [.int (nI i)]) (pre := []) (mid := [oc m0 7 [.ref A0, .ref V0, .ref Z0, .int sm, .int 0, .int pl, .int hz, .ref D0, .ref W0, .ref T0, .int tl, .int tw, .int tc], ac E A0 985 (mA h w wd s0 z st he ke tu ca tr co la)]) C0 (c_X7_cells l E m0 A0 V0 Z0 D0 W0 T0 sm 0 pl hz tl tw tc h w wd s0 z st he ke tu ca tr co la ) (cwV 0 hts gX7_slabs_X7_cells rfl rfl rfl (by decide +kernel) ⟨Nat.le_of_ble_eq_true rfl, Nat.le_of_ble_eq_true rfl⟩) hw rfl (fun _ => [oc m0 7 [.ref A0, .ref V0, .ref Z0, .int sm, .int 0, .int pl, .int hz, .ref D0, .ref W0, .ref T0, .int tl, .int tw, .int tc], ac E A0 985 (mA h w wd s0 z st he ke tu ca tr co la)]) (fun _ => rfl) 0 7 rfl rfl rfl rfl hl.1 rfl (Nat.le_of_ble_eq_true rfl) dX7_slabs_11 ⟨Nat.le_of_ble_eq_true rfl, Nat.le_of_ble_eq_true rfl⟩ (fun r u H locs hq99 hw => ?_)
      subst hq99
      have hw : kW E AA sx (List.flatten [oc m0 7 [.ref A0, .ref V0, .ref Z0, .int sm, .int 0, .int pl, .int hz, .ref D0, .ref W0, .ref T0, .int tl, .int tw, .int tc], ac E A0 985 (mA h w wd s0 z st he ke tu ca tr co la)]) H locs := hw
      refine W.eq (g2 := F0 mm 14 ls [.int (nI (h * w)), .int (nI i)]) rfl ?_
      refine lv_icmp_ge (tgt := 32) hx hb dX7_slabs_14 (by decide) (fun c14 => ?_) (fun c14 => ?_)
      · have c14 : (h * w) ≤ i := (nI_leI (a := (h * w)) (b := i) (by omega) (by omega)).mp c14
        refine lv_iload_n hx hb dX7_slabs_32 rfl (lv_at hl 1 rfl) ?_
        -- leaf 0
        exact k_iret C0 hr hlk hw () (rfl) (by rw [hxx, show i = h * w by omega]) (Nat.le_of_ble_eq_true rfl) (Nat.le_of_ble_eq_true rfl) dX7_slabs_33
      · have c14 : ¬ (h * w) ≤ i := fun h99 => c14 ((nI_leI (a := (h * w)) (b := i) (by omega) (by omega)).mpr h99)
        refine lv_iload_n hx hb dX7_slabs_17 rfl (lv_at hl 1 rfl) ?_
        refine lv_aload_n hx hb dX7_slabs_18 rfl (lv_at hl 2 rfl) ?_
        refine lv_iload_n hx hb dX7_slabs_19 rfl (lv_at hl 0 rfl) ?_
        refine lv_iconst (v := 0) hx hb dX7_slabs_20 (by decide) ?_
        refine k_V (As := [.int (nI i), .int 0]) (rest := [.int x]) (pre := []) (mid := [oc m0 7 [.ref A0, .ref V0, .ref Z0, .int sm, .int 0, .int pl, .int hz, .ref D0, .ref W0, .ref T0, .int tl, .int tw, .int tc], ac E A0 985 (mA h w wd s0 z st he ke tu ca tr co la)]) C0 (c_X7_of0 l E m0 A0 V0 Z0 D0 W0 T0 sm 0 pl hz tl tw tc h w wd s0 z st he ke tu ca tr co la i (by first | assumption | omega) (by first | assumption | omega)) (cwV 2 hts gX7_slabs_X7_of rfl rfl rfl (by decide +kernel) ⟨Nat.le_of_ble_eq_true rfl, Nat.le_of_ble_eq_true rfl⟩) hw rfl (fun _ => [oc m0 7 [.ref A0, .ref V0, .ref Z0, .int sm, .int 0, .int pl, .int hz, .ref D0, .ref W0, .ref T0, .int tl, .int tw, .int tc], ac E A0 985 (mA h w wd s0 z st he ke tu ca tr co la)]) (fun _ => rfl) 0 7 rfl rfl rfl rfl hl.1 rfl (Nat.le_of_ble_eq_true rfl) dX7_slabs_21 ⟨Nat.le_of_ble_eq_true rfl, Nat.le_of_ble_eq_true rfl⟩ (fun r u H locs hq99 hw => ?_)
        subst hq99
        have hw : kW E AA sx (List.flatten [oc m0 7 [.ref A0, .ref V0, .ref Z0, .int sm, .int 0, .int pl, .int hz, .ref D0, .ref W0, .ref T0, .int tl, .int tw, .int tc], ac E A0 985 (mA h w wd s0 z st he ke tu ca tr co la)]) H locs := hw
        refine W.eq (g2 := F0 mm 24 ls [.int (he i), .int x]) rfl ?_
        refine lv_iadd hx hb dX7_slabs_24 ?_
        refine lv_istore_n (lv' := [(1, .int (x + (he i))), (2, .int (nI i)), (0, .ref m0)]) hx hb dX7_slabs_25 rfl hl (by decide) rfl (fun ls hl => ?_)
        refine lv_iinc (v := nI (i + 1)) (lv' := [(2, .int (nI (i + 1))), (1, .int (x + (he i))), (0, .ref m0)]) hx hb dX7_slabs_26 hl (k := 1) rfl (nI_1 _) (by decide) rfl (fun ls hl => ?_)
        refine lv_goto (tgt := 9) hx hb dX7_slabs_29 (by decide) ?_
        -- back 0
        exact ih9 (i + 1) (x + (he i)) (by first | assumption | omega) (by rw [hxx]; rfl) (by omega) H _ ls (lv_sub hl [0, 1, 2] rfl) hw
  exact loop9 ((h * w - 0) + 1) 0 0 (by first | assumption | omega) (rfl) (Nat.lt_succ_self _) H _ ls (lv_sub hl [0, 1, 2] rfl) hw

abbrev rmX7_append : Room := { frames := 1, cells := 0, slots := 0, locals := 25 }
set_option maxHeartbeats 4000000 in
set_option maxRecDepth 100000 in
theorem c_X7_append_ok (l : Launch) (E : kE) (m0 : Nat) (A0 : Nat) (V0 : Nat) (Z0 : Nat) (D0 : Nat) (W0 : Nat) (T0 : Nat) (sm : Int32) (th : Int32) (pl : Int32) (hz : Int32) (tw : Int32) (tc : Int32) (tb : Nat → Int32) (m9 : Nat) (v : Int32) (hv : ¬ v < 0 ∧ ¬ 127 < v) (hm9 : m9 < 220) : kC E l yX7_append wsX7_append rmX7_append [.ref m0, .int v] (List.flatten [oc m0 7 [.ref A0, .ref V0, .ref Z0, .int sm, .int th, .int pl, .int hz, .ref D0, .ref W0, .ref T0, .int (nI m9), .int tw, .int tc], ac E T0 220 tb]) kI (fun (r : Int32) (_ : Unit) => r = nI (m9 + 1)) (fun _ => List.flatten [oc m0 7 [.ref A0, .ref V0, .ref Z0, .int sm, .int 0, .int pl, .int hz, .ref D0, .ref W0, .ref T0, .int (nI (m9 + 1)), .int tw, .int tc], ac E T0 220 (upd tb m9 v)]) 0 0 := by
  refine k_body (cc := cX7_append) (maxL := 2) (ret := (some .int)) (by decide) rfl (Nat.le_of_ble_eq_true rfl) ?_
  intro pp ee sx mm aa bb me cd H locs AA ls C0 hr hlk hnm hl hw
  obtain ⟨hx, hb, hml, hown, hts⟩ := id C0
  have hl : lv_has ls 2 [(0, .ref m0), (1, .int v)] := hl
  have hw : kW E AA sx (List.flatten [oc m0 7 [.ref A0, .ref V0, .ref Z0, .int sm, .int th, .int pl, .int hz, .ref D0, .ref W0, .ref T0, .int (nI m9), .int tw, .int tc], ac E T0 220 tb]) H locs := hw
  have hinX7 : ∀ w ∈ u_ws RX7 TX7 13, w ∈ wsX7_append := by decide +kernel
  refine lv_aload_n hx hb dX7_append_0 rfl (lv_at hl 0 rfl) ?_
  refine lv_iload_n hx hb dX7_append_1 rfl (lv_at hl 1 rfl) ?_
  refine lv_i2l (v := Int32.toInt64 v) hx hb dX7_append_2 rfl ?_
  refine lv_lconst (v := 0) hx hb dX7_append_3 (by decide) ?_
  refine lv_ldc2 (v := 127) hx hb hown (hts (.constantLong RX7 200 127) (by decide +kernel)) dX7_append_4 ?_
  refine k_S (As := [.long (Int32.toInt64 v), .long 0, .long 127]) (rest := [.ref m0]) (pre := []) (mid := []) C0 (c_X7_in_0_127 l E v ) (va_cwS 3 hts gX7_append_X7_in rfl rfl rfl (by decide +kernel) ⟨Nat.le_of_ble_eq_true rfl, Nat.le_of_ble_eq_true rfl⟩) hw rfl (fun _ => []) (fun _ => rfl) rfl hl.1 rfl (Nat.le_of_ble_eq_true rfl) dX7_append_7 ⟨Nat.le_of_ble_eq_true rfl, Nat.le_of_ble_eq_true rfl⟩ (fun r u H locs hq99 hw => ?_)
  subst hq99
  have hw : kW E AA sx (List.flatten [oc m0 7 [.ref A0, .ref V0, .ref Z0, .int sm, .int th, .int pl, .int hz, .ref D0, .ref W0, .ref T0, .int (nI m9), .int tw, .int tc], ac E T0 220 tb]) H locs := hw
  refine W.eq (g2 := F0 mm 10 ls [.int (if ¬ v < 0 ∧ ¬ 127 < v then 1 else 0), .ref m0]) rfl ?_
  refine lv_aload_n hx hb dX7_append_10 rfl (lv_at hl 0 rfl) ?_
  refine k_get (pre := []) C0 hw hinX7 rfl 10 (by decide) (hts (.fieldLink RX7 202 "SlabDunesModel" "textLong" "I") (by decide +kernel)) rfl rfl dX7_append_11 ?_
  refine lv_sipush (v := 220) hx hb dX7_append_14 (by decide) ?_
  refine lv_icmp_ge (tgt := 24) hx hb dX7_append_17 (by decide) (fun c17 => absurd c17 (nI_ge (a := m9) (b := 220) (by omega) (by decide))) (fun c17 => ?_)
  have c17 : ¬ 220 ≤ m9 := fun h99 => c17 ((nI_leI (a := 220) (b := m9) (by omega) (by omega)).mpr h99)
  refine lv_iconst (v := 1) hx hb dX7_append_20 (by decide) ?_
  refine lv_goto (tgt := 25) hx hb dX7_append_21 (by decide) ?_
  refine k_V (As := [.int (if ¬ v < 0 ∧ ¬ 127 < v then 1 else 0), .int 1]) (rest := []) (pre := []) (mid := [oc m0 7 [.ref A0, .ref V0, .ref Z0, .int sm, .int th, .int pl, .int hz, .ref D0, .ref W0, .ref T0, .int (nI m9), .int tw, .int tc]]) C0 (c_X7_goes_ok l E m0 A0 V0 Z0 D0 W0 T0 sm th pl hz (nI m9) tw tc (if ¬ v < 0 ∧ ¬ 127 < v then 1 else 0) 1 (kp10 (hv)) (by decide)) (cwV 2 hts gX7_append_X7_goes rfl rfl rfl (by decide +kernel) ⟨Nat.le_of_ble_eq_true rfl, Nat.le_of_ble_eq_true rfl⟩) hw rfl (fun _ => [oc m0 7 [.ref A0, .ref V0, .ref Z0, .int sm, .int 0, .int pl, .int hz, .ref D0, .ref W0, .ref T0, .int (nI m9), .int tw, .int tc]]) (fun _ => rfl) 0 7 rfl rfl rfl rfl hl.1 rfl (Nat.le_of_ble_eq_true rfl) dX7_append_25 ⟨Nat.le_of_ble_eq_true rfl, Nat.le_of_ble_eq_true rfl⟩ (fun r u H locs hq99 hw => ?_)
  subst r
  have hw : kW E AA sx (List.flatten [oc m0 7 [.ref A0, .ref V0, .ref Z0, .int sm, .int 0, .int pl, .int hz, .ref D0, .ref W0, .ref T0, .int (nI m9), .int tw, .int tc], ac E T0 220 tb]) H locs := hw
  refine W.eq (g2 := F0 mm 28 ls [.int 1]) rfl ?_
  refine lv_if_ne (tgt := 33) hx hb dX7_append_28 (by decide) (fun c28 => ?_) (fun c28 => absurd c28 (by decide))
  refine lv_aload_n hx hb dX7_append_33 rfl (lv_at hl 0 rfl) ?_
  refine k_get (pre := []) C0 hw hinX7 rfl 9 (by decide) (hts (.fieldLink RX7 25 "SlabDunesModel" "text" "[I") (by decide +kernel)) rfl rfl dX7_append_34 ?_
  refine lv_aload_n hx hb dX7_append_37 rfl (lv_at hl 0 rfl) ?_
  refine k_get (pre := []) C0 hw hinX7 rfl 10 (by decide) (hts (.fieldLink RX7 202 "SlabDunesModel" "textLong" "I") (by decide +kernel)) rfl rfl dX7_append_38 ?_
  refine lv_iload_n hx hb dX7_append_41 rfl (lv_at hl 1 rfl) ?_
  refine k_iast (pre := [oc m0 7 [.ref A0, .ref V0, .ref Z0, .int sm, .int 0, .int pl, .int hz, .ref D0, .ref W0, .ref T0, .int (nI m9), .int tw, .int tc]]) (l1 := []) C0 hw (i := (nI m9)) (kinN (by omega) (by decide)) dX7_append_42 (fun H locs hw => ?_)
  have hw : kW E AA sx (List.flatten [oc m0 7 [.ref A0, .ref V0, .ref Z0, .int sm, .int 0, .int pl, .int hz, .ref D0, .ref W0, .ref T0, .int (nI m9), .int tw, .int tc], ac E T0 220 (upd tb (Int32.toNatClampNeg (nI m9)) v)]) H locs := hw
  have hw : kW E AA sx (List.flatten [oc m0 7 [.ref A0, .ref V0, .ref Z0, .int sm, .int 0, .int pl, .int hz, .ref D0, .ref W0, .ref T0, .int (nI m9), .int tw, .int tc], ac E T0 220 (upd tb m9 v)]) H locs := kW.arr (pre := [oc m0 7 [.ref A0, .ref V0, .ref Z0, .int sm, .int 0, .int pl, .int hz, .ref D0, .ref W0, .ref T0, .int (nI m9), .int tw, .int tc]]) (l1 := []) hw (fun j9 _ => by rw [nI_clamp (by omega)])
  refine lv_aload_n hx hb dX7_append_43 rfl (lv_at hl 0 rfl) ?_
  refine lv_dup hx hb dX7_append_44 rfl ?_
  refine k_get (pre := []) C0 hw hinX7 rfl 10 (by decide) (hts (.fieldLink RX7 202 "SlabDunesModel" "textLong" "I") (by decide +kernel)) rfl rfl dX7_append_45 ?_
  refine lv_iconst (v := 1) hx hb dX7_append_48 (by decide) ?_
  refine lv_iadd hx hb dX7_append_49 ?_
  refine W.eq (g2 := F0 mm 50 ls [.int (nI (m9 + 1)), .ref m0]) (congrArg (fun z9 => F0 mm 50 ls [.int z9, .ref m0]) (show ((nI m9) + 1 : Int32) = nI (m9 + 1) from nI_1 _)) ?_
  refine k_put (pre := []) C0 hw hinX7 tyX7 tyX7_ok nmX7 rfl 10 (by decide) (hts (.fieldLink RX7 202 "SlabDunesModel" "textLong" "I") (by decide +kernel)) rfl rfl (ty := .int) (by decide +kernel) rfl rfl (Nat.le_of_ble_eq_true rfl) dX7_append_50 (fun H locs hw => ?_)
  have hw : kW E AA sx (List.flatten [oc m0 7 [.ref A0, .ref V0, .ref Z0, .int sm, .int 0, .int pl, .int hz, .ref D0, .ref W0, .ref T0, .int (nI (m9 + 1)), .int tw, .int tc], ac E T0 220 (upd tb m9 v)]) H locs := hw
  refine lv_aload_n hx hb dX7_append_53 rfl (lv_at hl 0 rfl) ?_
  refine k_get (pre := []) C0 hw hinX7 rfl 10 (by decide) (hts (.fieldLink RX7 202 "SlabDunesModel" "textLong" "I") (by decide +kernel)) rfl rfl dX7_append_54 ?_
  -- leaf 0
  exact k_iret C0 hr hlk hw () (rfl) (rfl) (Nat.le_of_ble_eq_true rfl) (Nat.le_of_ble_eq_true rfl) dX7_append_57

set_option maxHeartbeats 4000000 in
set_option maxRecDepth 100000 in
theorem c_X7_append_x1 (l : Launch) (E : kE) (m0 : Nat) (A0 : Nat) (V0 : Nat) (Z0 : Nat) (D0 : Nat) (W0 : Nat) (T0 : Nat) (sm : Int32) (th : Int32) (pl : Int32) (hz : Int32) (tw : Int32) (tc : Int32) (tb : Nat → Int32) (m9 : Nat) (x : Int32) (hv : ¬ (¬ x < 0 ∧ ¬ 127 < x)) (hm9 : m9 ≤ 220) : kC E l yX7_append wsX7_append rmX7_append [.ref m0, .int x] (List.flatten [oc m0 7 [.ref A0, .ref V0, .ref Z0, .int sm, .int th, .int pl, .int hz, .ref D0, .ref W0, .ref T0, .int (nI m9), .int tw, .int tc], ac E T0 220 tb]) kI (fun (r : Int32) (_ : Unit) => r = 0) (fun _ => List.flatten [oc m0 7 [.ref A0, .ref V0, .ref Z0, .int sm, .int 1, .int pl, .int hz, .ref D0, .ref W0, .ref T0, .int (nI m9), .int tw, .int tc], ac E T0 220 tb]) 0 0 := by
  refine k_body (cc := cX7_append) (maxL := 2) (ret := (some .int)) (by decide) rfl (Nat.le_of_ble_eq_true rfl) ?_
  intro pp ee sx mm aa bb me cd H locs AA ls C0 hr hlk hnm hl hw
  obtain ⟨hx, hb, hml, hown, hts⟩ := id C0
  have hl : lv_has ls 2 [(0, .ref m0), (1, .int x)] := hl
  have hw : kW E AA sx (List.flatten [oc m0 7 [.ref A0, .ref V0, .ref Z0, .int sm, .int th, .int pl, .int hz, .ref D0, .ref W0, .ref T0, .int (nI m9), .int tw, .int tc], ac E T0 220 tb]) H locs := hw
  have hinX7 : ∀ w ∈ u_ws RX7 TX7 13, w ∈ wsX7_append := by decide +kernel
  refine lv_aload_n hx hb dX7_append_0 rfl (lv_at hl 0 rfl) ?_
  refine lv_iload_n hx hb dX7_append_1 rfl (lv_at hl 1 rfl) ?_
  refine lv_i2l (v := Int32.toInt64 x) hx hb dX7_append_2 rfl ?_
  refine lv_lconst (v := 0) hx hb dX7_append_3 (by decide) ?_
  refine lv_ldc2 (v := 127) hx hb hown (hts (.constantLong RX7 200 127) (by decide +kernel)) dX7_append_4 ?_
  refine k_S (As := [.long (Int32.toInt64 x), .long 0, .long 127]) (rest := [.ref m0]) (pre := []) (mid := []) C0 (c_X7_in_0_127 l E x ) (va_cwS 3 hts gX7_append_X7_in rfl rfl rfl (by decide +kernel) ⟨Nat.le_of_ble_eq_true rfl, Nat.le_of_ble_eq_true rfl⟩) hw rfl (fun _ => []) (fun _ => rfl) rfl hl.1 rfl (Nat.le_of_ble_eq_true rfl) dX7_append_7 ⟨Nat.le_of_ble_eq_true rfl, Nat.le_of_ble_eq_true rfl⟩ (fun r u H locs hq99 hw => ?_)
  subst hq99
  have hw : kW E AA sx (List.flatten [oc m0 7 [.ref A0, .ref V0, .ref Z0, .int sm, .int th, .int pl, .int hz, .ref D0, .ref W0, .ref T0, .int (nI m9), .int tw, .int tc], ac E T0 220 tb]) H locs := hw
  refine W.eq (g2 := F0 mm 10 ls [.int (if ¬ x < 0 ∧ ¬ 127 < x then 1 else 0), .ref m0]) rfl ?_
  refine lv_aload_n hx hb dX7_append_10 rfl (lv_at hl 0 rfl) ?_
  refine k_get (pre := []) C0 hw hinX7 rfl 10 (by decide) (hts (.fieldLink RX7 202 "SlabDunesModel" "textLong" "I") (by decide +kernel)) rfl rfl dX7_append_11 ?_
  refine lv_sipush (v := 220) hx hb dX7_append_14 (by decide) ?_
  refine lv_icmp_ge (tgt := 24) hx hb dX7_append_17 (by decide) (fun c17 => ?_) (fun c17 => ?_)
  · have c17 : 220 ≤ m9 := (nI_leI (a := 220) (b := m9) (by omega) (by omega)).mp c17
    refine lv_iconst (v := 0) hx hb dX7_append_24 (by decide) ?_
    refine k_V (As := [.int (if ¬ x < 0 ∧ ¬ 127 < x then 1 else 0), .int 0]) (rest := []) (pre := []) (mid := [oc m0 7 [.ref A0, .ref V0, .ref Z0, .int sm, .int th, .int pl, .int hz, .ref D0, .ref W0, .ref T0, .int (nI m9), .int tw, .int tc]]) C0 (c_X7_goes_1 l E m0 A0 V0 Z0 D0 W0 T0 sm th pl hz (nI m9) tw tc (if ¬ x < 0 ∧ ¬ 127 < x then 1 else 0) 0 (kn10 (hv))) (cwV 2 hts gX7_append_X7_goes rfl rfl rfl (by decide +kernel) ⟨Nat.le_of_ble_eq_true rfl, Nat.le_of_ble_eq_true rfl⟩) hw rfl (fun _ => [oc m0 7 [.ref A0, .ref V0, .ref Z0, .int sm, .int 1, .int pl, .int hz, .ref D0, .ref W0, .ref T0, .int (nI m9), .int tw, .int tc]]) (fun _ => rfl) 0 7 rfl rfl rfl rfl hl.1 rfl (Nat.le_of_ble_eq_true rfl) dX7_append_25 ⟨Nat.le_of_ble_eq_true rfl, Nat.le_of_ble_eq_true rfl⟩ (fun r u H locs hq99 hw => ?_)
    subst r
    have hw : kW E AA sx (List.flatten [oc m0 7 [.ref A0, .ref V0, .ref Z0, .int sm, .int 1, .int pl, .int hz, .ref D0, .ref W0, .ref T0, .int (nI m9), .int tw, .int tc], ac E T0 220 tb]) H locs := hw
    refine W.eq (g2 := F0 mm 28 ls [.int 0]) rfl ?_
    refine lv_if_ne (tgt := 33) hx hb dX7_append_28 (by decide) (fun c28 => absurd c28 (by decide)) (fun c28 => ?_)
    refine lv_iconst (v := 0) hx hb dX7_append_31 (by decide) ?_
    -- leaf 0
    exact k_iret C0 hr hlk hw () (rfl) (rfl) (Nat.le_of_ble_eq_true rfl) (Nat.le_of_ble_eq_true rfl) dX7_append_32
  · have c17 : ¬ 220 ≤ m9 := fun h99 => c17 ((nI_leI (a := 220) (b := m9) (by omega) (by omega)).mpr h99)
    refine lv_iconst (v := 1) hx hb dX7_append_20 (by decide) ?_
    refine lv_goto (tgt := 25) hx hb dX7_append_21 (by decide) ?_
    refine k_V (As := [.int (if ¬ x < 0 ∧ ¬ 127 < x then 1 else 0), .int 1]) (rest := []) (pre := []) (mid := [oc m0 7 [.ref A0, .ref V0, .ref Z0, .int sm, .int th, .int pl, .int hz, .ref D0, .ref W0, .ref T0, .int (nI m9), .int tw, .int tc]]) C0 (c_X7_goes_1 l E m0 A0 V0 Z0 D0 W0 T0 sm th pl hz (nI m9) tw tc (if ¬ x < 0 ∧ ¬ 127 < x then 1 else 0) 1 (kn10 (hv))) (cwV 2 hts gX7_append_X7_goes rfl rfl rfl (by decide +kernel) ⟨Nat.le_of_ble_eq_true rfl, Nat.le_of_ble_eq_true rfl⟩) hw rfl (fun _ => [oc m0 7 [.ref A0, .ref V0, .ref Z0, .int sm, .int 1, .int pl, .int hz, .ref D0, .ref W0, .ref T0, .int (nI m9), .int tw, .int tc]]) (fun _ => rfl) 0 7 rfl rfl rfl rfl hl.1 rfl (Nat.le_of_ble_eq_true rfl) dX7_append_25 ⟨Nat.le_of_ble_eq_true rfl, Nat.le_of_ble_eq_true rfl⟩ (fun r u H locs hq99 hw => ?_)
    subst r
    have hw : kW E AA sx (List.flatten [oc m0 7 [.ref A0, .ref V0, .ref Z0, .int sm, .int 1, .int pl, .int hz, .ref D0, .ref W0, .ref T0, .int (nI m9), .int tw, .int tc], ac E T0 220 tb]) H locs := hw
    refine W.eq (g2 := F0 mm 28 ls [.int 0]) rfl ?_
    refine lv_if_ne (tgt := 33) hx hb dX7_append_28 (by decide) (fun c28 => absurd c28 (by decide)) (fun c28 => ?_)
    refine lv_iconst (v := 0) hx hb dX7_append_31 (by decide) ?_
    -- leaf 1
    exact k_iret C0 hr hlk hw () (rfl) (rfl) (Nat.le_of_ble_eq_true rfl) (Nat.le_of_ble_eq_true rfl) dX7_append_32

set_option maxHeartbeats 4000000 in
set_option maxRecDepth 100000 in
theorem c_X7_append_x2 (l : Launch) (E : kE) (m0 : Nat) (A0 : Nat) (V0 : Nat) (Z0 : Nat) (D0 : Nat) (W0 : Nat) (T0 : Nat) (sm : Int32) (th : Int32) (pl : Int32) (hz : Int32) (tw : Int32) (tc : Int32) (tb : Nat → Int32) (m9 : Nat) (v : Int32) (hv : ¬ v < 0 ∧ ¬ 127 < v) (hm9 : m9 = 220) : kC E l yX7_append wsX7_append rmX7_append [.ref m0, .int v] (List.flatten [oc m0 7 [.ref A0, .ref V0, .ref Z0, .int sm, .int th, .int pl, .int hz, .ref D0, .ref W0, .ref T0, .int (nI m9), .int tw, .int tc], ac E T0 220 tb]) kI (fun (r : Int32) (_ : Unit) => r = 0) (fun _ => List.flatten [oc m0 7 [.ref A0, .ref V0, .ref Z0, .int sm, .int 2, .int pl, .int hz, .ref D0, .ref W0, .ref T0, .int (nI m9), .int tw, .int tc], ac E T0 220 tb]) 0 0 := by
  refine k_body (cc := cX7_append) (maxL := 2) (ret := (some .int)) (by decide) rfl (Nat.le_of_ble_eq_true rfl) ?_
  intro pp ee sx mm aa bb me cd H locs AA ls C0 hr hlk hnm hl hw
  obtain ⟨hx, hb, hml, hown, hts⟩ := id C0
  have hl : lv_has ls 2 [(0, .ref m0), (1, .int v)] := hl
  have hw : kW E AA sx (List.flatten [oc m0 7 [.ref A0, .ref V0, .ref Z0, .int sm, .int th, .int pl, .int hz, .ref D0, .ref W0, .ref T0, .int (nI m9), .int tw, .int tc], ac E T0 220 tb]) H locs := hw
  have hinX7 : ∀ w ∈ u_ws RX7 TX7 13, w ∈ wsX7_append := by decide +kernel
  refine lv_aload_n hx hb dX7_append_0 rfl (lv_at hl 0 rfl) ?_
  refine lv_iload_n hx hb dX7_append_1 rfl (lv_at hl 1 rfl) ?_
  refine lv_i2l (v := Int32.toInt64 v) hx hb dX7_append_2 rfl ?_
  refine lv_lconst (v := 0) hx hb dX7_append_3 (by decide) ?_
  refine lv_ldc2 (v := 127) hx hb hown (hts (.constantLong RX7 200 127) (by decide +kernel)) dX7_append_4 ?_
  refine k_S (As := [.long (Int32.toInt64 v), .long 0, .long 127]) (rest := [.ref m0]) (pre := []) (mid := []) C0 (c_X7_in_0_127 l E v ) (va_cwS 3 hts gX7_append_X7_in rfl rfl rfl (by decide +kernel) ⟨Nat.le_of_ble_eq_true rfl, Nat.le_of_ble_eq_true rfl⟩) hw rfl (fun _ => []) (fun _ => rfl) rfl hl.1 rfl (Nat.le_of_ble_eq_true rfl) dX7_append_7 ⟨Nat.le_of_ble_eq_true rfl, Nat.le_of_ble_eq_true rfl⟩ (fun r u H locs hq99 hw => ?_)
  subst hq99
  have hw : kW E AA sx (List.flatten [oc m0 7 [.ref A0, .ref V0, .ref Z0, .int sm, .int th, .int pl, .int hz, .ref D0, .ref W0, .ref T0, .int (nI m9), .int tw, .int tc], ac E T0 220 tb]) H locs := hw
  refine W.eq (g2 := F0 mm 10 ls [.int (if ¬ v < 0 ∧ ¬ 127 < v then 1 else 0), .ref m0]) rfl ?_
  refine lv_aload_n hx hb dX7_append_10 rfl (lv_at hl 0 rfl) ?_
  refine k_get (pre := []) C0 hw hinX7 rfl 10 (by decide) (hts (.fieldLink RX7 202 "SlabDunesModel" "textLong" "I") (by decide +kernel)) rfl rfl dX7_append_11 ?_
  refine lv_sipush (v := 220) hx hb dX7_append_14 (by decide) ?_
  refine lv_icmp_ge (tgt := 24) hx hb dX7_append_17 (by decide) (fun c17 => ?_) (fun c17 => False.elim (c17 (nI_le (a := 220) (b := m9) (by omega) (by omega))))
  have c17 : 220 ≤ m9 := (nI_leI (a := 220) (b := m9) (by omega) (by omega)).mp c17
  refine lv_iconst (v := 0) hx hb dX7_append_24 (by decide) ?_
  refine k_V (As := [.int (if ¬ v < 0 ∧ ¬ 127 < v then 1 else 0), .int 0]) (rest := []) (pre := []) (mid := [oc m0 7 [.ref A0, .ref V0, .ref Z0, .int sm, .int th, .int pl, .int hz, .ref D0, .ref W0, .ref T0, .int (nI m9), .int tw, .int tc]]) C0 (c_X7_goes_2 l E m0 A0 V0 Z0 D0 W0 T0 sm th pl hz (nI m9) tw tc (if ¬ v < 0 ∧ ¬ 127 < v then 1 else 0) 0 (kp10 (hv)) (rfl)) (cwV 2 hts gX7_append_X7_goes rfl rfl rfl (by decide +kernel) ⟨Nat.le_of_ble_eq_true rfl, Nat.le_of_ble_eq_true rfl⟩) hw rfl (fun _ => [oc m0 7 [.ref A0, .ref V0, .ref Z0, .int sm, .int 2, .int pl, .int hz, .ref D0, .ref W0, .ref T0, .int (nI m9), .int tw, .int tc]]) (fun _ => rfl) 0 7 rfl rfl rfl rfl hl.1 rfl (Nat.le_of_ble_eq_true rfl) dX7_append_25 ⟨Nat.le_of_ble_eq_true rfl, Nat.le_of_ble_eq_true rfl⟩ (fun r u H locs hq99 hw => ?_)
  subst r
  have hw : kW E AA sx (List.flatten [oc m0 7 [.ref A0, .ref V0, .ref Z0, .int sm, .int 2, .int pl, .int hz, .ref D0, .ref W0, .ref T0, .int (nI m9), .int tw, .int tc], ac E T0 220 tb]) H locs := hw
  refine W.eq (g2 := F0 mm 28 ls [.int 0]) rfl ?_
  refine lv_if_ne (tgt := 33) hx hb dX7_append_28 (by decide) (fun c28 => absurd c28 (by decide)) (fun c28 => ?_)
  refine lv_iconst (v := 0) hx hb dX7_append_31 (by decide) ?_
  -- leaf 0
  exact k_iret C0 hr hlk hw () (rfl) (rfl) (Nat.le_of_ble_eq_true rfl) (Nat.le_of_ble_eq_true rfl) dX7_append_32

abbrev rmX7_clearText : Room := { frames := 0, cells := 0, slots := 0, locals := 0 }
set_option maxHeartbeats 4000000 in
set_option maxRecDepth 100000 in
theorem c_X7_clearText_ok (l : Launch) (E : kE) (m0 : Nat) (A0 : Nat) (V0 : Nat) (Z0 : Nat) (D0 : Nat) (W0 : Nat) (T0 : Nat) (sm : Int32) (th : Int32) (pl : Int32) (hz : Int32) (tw : Int32) (tc : Int32) (m9 : Nat)  : kC E l yX7_clearText wsX7_clearText rmX7_clearText [.ref m0] (oc m0 7 [.ref A0, .ref V0, .ref Z0, .int sm, .int th, .int pl, .int hz, .ref D0, .ref W0, .ref T0, .int (nI m9), .int tw, .int tc]) kI (fun (r : Int32) (_ : Unit) => r = nI m9) (fun _ => oc m0 7 [.ref A0, .ref V0, .ref Z0, .int sm, .int 0, .int pl, .int hz, .ref D0, .ref W0, .ref T0, .int 0, .int tw, .int tc]) 0 0 := by
  refine k_body (cc := cX7_clearText) (maxL := 2) (ret := (some .int)) (by decide) rfl (Nat.le_of_ble_eq_true rfl) ?_
  intro pp ee sx mm aa bb me cd H locs AA ls C0 hr hlk hnm hl hw
  obtain ⟨hx, hb, hml, hown, hts⟩ := id C0
  have hl : lv_has ls 2 [(0, .ref m0)] := hl
  have hw : kW E AA sx (List.flatten [oc m0 7 [.ref A0, .ref V0, .ref Z0, .int sm, .int th, .int pl, .int hz, .ref D0, .ref W0, .ref T0, .int (nI m9), .int tw, .int tc]]) H locs := hw
  have hinX7 : ∀ w ∈ u_ws RX7 TX7 13, w ∈ wsX7_clearText := by decide +kernel
  refine lv_aload_n hx hb dX7_clearText_0 rfl (lv_at hl 0 rfl) ?_
  refine lv_iconst (v := 0) hx hb dX7_clearText_1 (by decide) ?_
  refine k_put (pre := []) C0 hw hinX7 tyX7 tyX7_ok nmX7 rfl 4 (by decide) (hts (.fieldLink RX7 32 "SlabDunesModel" "thrown" "I") (by decide +kernel)) rfl rfl (ty := .int) (by decide +kernel) rfl rfl (Nat.le_of_ble_eq_true rfl) dX7_clearText_2 (fun H locs hw => ?_)
  have hw : kW E AA sx (List.flatten [oc m0 7 [.ref A0, .ref V0, .ref Z0, .int sm, .int 0, .int pl, .int hz, .ref D0, .ref W0, .ref T0, .int (nI m9), .int tw, .int tc]]) H locs := hw
  refine lv_aload_n hx hb dX7_clearText_5 rfl (lv_at hl 0 rfl) ?_
  refine k_get (pre := []) C0 hw hinX7 rfl 10 (by decide) (hts (.fieldLink RX7 202 "SlabDunesModel" "textLong" "I") (by decide +kernel)) rfl rfl dX7_clearText_6 ?_
  refine lv_istore_n (lv' := [(1, .int (nI m9)), (0, .ref m0)]) hx hb dX7_clearText_9 rfl hl (by decide) rfl (fun ls hl => ?_)
  refine lv_aload_n hx hb dX7_clearText_10 rfl (lv_at hl 1 rfl) ?_
  refine lv_iconst (v := 0) hx hb dX7_clearText_11 (by decide) ?_
  refine k_put (pre := []) C0 hw hinX7 tyX7 tyX7_ok nmX7 rfl 10 (by decide) (hts (.fieldLink RX7 202 "SlabDunesModel" "textLong" "I") (by decide +kernel)) rfl rfl (ty := .int) (by decide +kernel) rfl rfl (Nat.le_of_ble_eq_true rfl) dX7_clearText_12 (fun H locs hw => ?_)
  have hw : kW E AA sx (List.flatten [oc m0 7 [.ref A0, .ref V0, .ref Z0, .int sm, .int 0, .int pl, .int hz, .ref D0, .ref W0, .ref T0, .int 0, .int tw, .int tc]]) H locs := hw
  refine lv_iload_n hx hb dX7_clearText_15 rfl (lv_at hl 0 rfl) ?_
  -- leaf 0
  exact k_iret C0 hr hlk hw () (rfl) (rfl) (Nat.le_of_ble_eq_true rfl) (Nat.le_of_ble_eq_true rfl) dX7_clearText_16

abbrev rmX7_undo : Room := { frames := 1, cells := 0, slots := 0, locals := 22 }
set_option maxHeartbeats 4000000 in
set_option maxRecDepth 100000 in
theorem c_X7_undo_ok (l : Launch) (E : kE) (m0 : Nat) (A0 : Nat) (V0 : Nat) (Z0 : Nat) (D0 : Nat) (W0 : Nat) (T0 : Nat) (th : Int32) (pl : Int32) (hz : Int32) (tl : Int32) (tw : Int32) (tc : Int32) (k9 : Nat) (M : Nat → Int32) (V : Nat → Int32) (hk9 : k9 < 4) : kC E l yX7_undo wsX7_undo rmX7_undo [.ref m0] (List.flatten [oc m0 7 [.ref A0, .ref V0, .ref Z0, .int (nI (k9 + 1)), .int th, .int pl, .int hz, .ref D0, .ref W0, .ref T0, .int tl, .int tw, .int tc], ac E A0 985 M, ac E V0 3940 V]) kI (fun (r : Int32) (_ : Unit) => r = nI k9) (fun _ => List.flatten [oc m0 7 [.ref A0, .ref V0, .ref Z0, .int (nI k9), .int 0, .int pl, .int hz, .ref D0, .ref W0, .ref T0, .int tl, .int tw, .int tc], ac E A0 985 (svG V k9), ac E V0 3940 V]) 0 0 := by
  refine k_body (cc := cX7_undo) (maxL := 2) (ret := (some .int)) (by decide) rfl (Nat.le_of_ble_eq_true rfl) ?_
  intro pp ee sx mm aa bb me cd H locs AA ls C0 hr hlk hnm hl hw
  obtain ⟨hx, hb, hml, hown, hts⟩ := id C0
  have hl : lv_has ls 2 [(0, .ref m0)] := hl
  have hw : kW E AA sx (List.flatten [oc m0 7 [.ref A0, .ref V0, .ref Z0, .int (nI (k9 + 1)), .int th, .int pl, .int hz, .ref D0, .ref W0, .ref T0, .int tl, .int tw, .int tc], ac E A0 985 M, ac E V0 3940 V]) H locs := hw
  have hinX7 : ∀ w ∈ u_ws RX7 TX7 13, w ∈ wsX7_undo := by decide +kernel
  refine lv_aload_n hx hb dX7_undo_0 rfl (lv_at hl 0 rfl) ?_
  refine lv_aload_n hx hb dX7_undo_1 rfl (lv_at hl 0 rfl) ?_
  refine k_get (pre := []) C0 hw hinX7 rfl 3 (by decide) (hts (.fieldLink RX7 36 "SlabDunesModel" "savedMany" "I") (by decide +kernel)) rfl rfl dX7_undo_2 ?_
  refine lv_if_le (tgt := 12) hx hb dX7_undo_5 (by decide) (fun c5 => absurd c5 (nI_nle (by omega) (by omega))) (fun c5 => ?_)
  have c5 : ¬ (k9 + 1) ≤ 0 := fun h99 => c5 ((nI_leI (a := (k9 + 1)) (b := 0) (by omega) (by omega)).mpr h99)
  refine lv_iconst (v := 1) hx hb dX7_undo_8 (by decide) ?_
  refine lv_goto (tgt := 13) hx hb dX7_undo_9 (by decide) ?_
  refine lv_iconst (v := 1) hx hb dX7_undo_13 (by decide) ?_
  refine k_V (As := [.int 1, .int 1]) (rest := []) (pre := []) (mid := [oc m0 7 [.ref A0, .ref V0, .ref Z0, .int (nI (k9 + 1)), .int th, .int pl, .int hz, .ref D0, .ref W0, .ref T0, .int tl, .int tw, .int tc]]) C0 (c_X7_goes_ok l E m0 A0 V0 Z0 D0 W0 T0 (nI (k9 + 1)) th pl hz tl tw tc 1 1 (by decide) (by decide)) (cwV 2 hts gX7_undo_X7_goes rfl rfl rfl (by decide +kernel) ⟨Nat.le_of_ble_eq_true rfl, Nat.le_of_ble_eq_true rfl⟩) hw rfl (fun _ => [oc m0 7 [.ref A0, .ref V0, .ref Z0, .int (nI (k9 + 1)), .int 0, .int pl, .int hz, .ref D0, .ref W0, .ref T0, .int tl, .int tw, .int tc]]) (fun _ => rfl) 0 7 rfl rfl rfl rfl hl.1 rfl (Nat.le_of_ble_eq_true rfl) dX7_undo_14 ⟨Nat.le_of_ble_eq_true rfl, Nat.le_of_ble_eq_true rfl⟩ (fun r u H locs hq99 hw => ?_)
  subst r
  have hw : kW E AA sx (List.flatten [oc m0 7 [.ref A0, .ref V0, .ref Z0, .int (nI (k9 + 1)), .int 0, .int pl, .int hz, .ref D0, .ref W0, .ref T0, .int tl, .int tw, .int tc], ac E A0 985 M, ac E V0 3940 V]) H locs := hw
  refine W.eq (g2 := F0 mm 17 ls [.int 1]) rfl ?_
  refine lv_if_ne (tgt := 22) hx hb dX7_undo_17 (by decide) (fun c17 => ?_) (fun c17 => absurd c17 (by decide))
  refine lv_aload_n hx hb dX7_undo_22 rfl (lv_at hl 0 rfl) ?_
  refine lv_dup hx hb dX7_undo_23 rfl ?_
  refine k_get (pre := []) C0 hw hinX7 rfl 3 (by decide) (hts (.fieldLink RX7 36 "SlabDunesModel" "savedMany" "I") (by decide +kernel)) rfl rfl dX7_undo_24 ?_
  refine lv_iconst (v := 1) hx hb dX7_undo_27 (by decide) ?_
  refine lv_isub hx hb dX7_undo_28 ?_
  refine W.eq (g2 := F0 mm 29 ls [.int (nI k9), .ref m0]) (congrArg (fun z9 => F0 mm 29 ls [.int z9, .ref m0]) (show ((nI (k9 + 1)) - 1 : Int32) = nI k9 from nI_pred k9)) ?_
  refine k_put (pre := []) C0 hw hinX7 tyX7 tyX7_ok nmX7 rfl 3 (by decide) (hts (.fieldLink RX7 36 "SlabDunesModel" "savedMany" "I") (by decide +kernel)) rfl rfl (ty := .int) (by decide +kernel) rfl rfl (Nat.le_of_ble_eq_true rfl) dX7_undo_29 (fun H locs hw => ?_)
  have hw : kW E AA sx (List.flatten [oc m0 7 [.ref A0, .ref V0, .ref Z0, .int (nI k9), .int 0, .int pl, .int hz, .ref D0, .ref W0, .ref T0, .int tl, .int tw, .int tc], ac E A0 985 M, ac E V0 3940 V]) H locs := hw
  refine lv_iconst (v := 0) hx hb dX7_undo_32 (by decide) ?_
  refine lv_istore_n (lv' := [(1, .int 0), (0, .ref m0)]) hx hb dX7_undo_33 rfl hl (by decide) rfl (fun ls hl => ?_)
  have loop34 : ∀ (nn : Nat) (i : Nat) (g : Nat → Int32), (i ≤ 985) → (∀ j, j < i → g j = svG V k9 j) → 985 - i < nn → ∀ (H : Heap) (locs : List Loc) (ls : Array Slot), lv_has ls 2 [(1, .int (nI i)), (0, .ref m0)] → kW E AA sx (List.flatten [oc m0 7 [.ref A0, .ref V0, .ref Z0, .int (nI k9), .int 0, .int pl, .int hz, .ref D0, .ref W0, .ref T0, .int tl, .int tw, .int tc], ac E A0 985 g, ac E V0 3940 V]) H locs → W pp l ee rmX7_undo sx mm aa bb me cd H locs 0 0 (kEnd E kI (fun (r : Int32) (_ : Unit) => r = nI k9) (fun _ => List.flatten [oc m0 7 [.ref A0, .ref V0, .ref Z0, .int (nI k9), .int 0, .int pl, .int hz, .ref D0, .ref W0, .ref T0, .int tl, .int tw, .int tc], ac E A0 985 (svG V k9), ac E V0 3940 V]) bb aa sx AA 0 0) (F0 mm 34 ls []) := by
    intro nn
    induction nn with
    | zero => intro i g hi hg hm34; exact absurd hm34 (Nat.not_lt_zero _)
    | succ nn ih34 =>
      intro i g hi hg hm34 H locs ls hl hw
      refine lv_iload_n hx hb dX7_undo_34 rfl (lv_at hl 0 rfl) ?_
      refine lv_sipush (v := 985) hx hb dX7_undo_35 (by decide) ?_
      refine lv_icmp_ge (tgt := 68) hx hb dX7_undo_38 (by decide) (fun c38 => ?_) (fun c38 => ?_)
      · have c38 : 985 ≤ i := (nI_leI (a := 985) (b := i) (by omega) (by omega)).mp c38
        have hw : kW E AA sx (List.flatten [oc m0 7 [.ref A0, .ref V0, .ref Z0, .int (nI k9), .int 0, .int pl, .int hz, .ref D0, .ref W0, .ref T0, .int tl, .int tw, .int tc], ac E A0 985 (svG V k9), ac E V0 3940 V]) H locs := kW.arr (pre := [oc m0 7 [.ref A0, .ref V0, .ref Z0, .int (nI k9), .int 0, .int pl, .int hz, .ref D0, .ref W0, .ref T0, .int tl, .int tw, .int tc]]) (l1 := []) hw (fun j hj => hg j (by omega))
        refine lv_aload_n hx hb dX7_undo_68 rfl (lv_at hl 1 rfl) ?_
        refine k_get (pre := []) C0 hw hinX7 rfl 3 (by decide) (hts (.fieldLink RX7 36 "SlabDunesModel" "savedMany" "I") (by decide +kernel)) rfl rfl dX7_undo_69 ?_
        -- leaf 0
        exact k_iret C0 hr hlk hw () (rfl) (rfl) (Nat.le_of_ble_eq_true rfl) (Nat.le_of_ble_eq_true rfl) dX7_undo_72
      · have c38 : ¬ 985 ≤ i := fun h99 => c38 ((nI_leI (a := 985) (b := i) (by omega) (by omega)).mpr h99)
        refine lv_aload_n hx hb dX7_undo_41 rfl (lv_at hl 1 rfl) ?_
        refine k_get (pre := []) C0 hw hinX7 rfl 0 (by decide) (hts (.fieldLink RX7 7 "SlabDunesModel" "all" "[I") (by decide +kernel)) rfl rfl dX7_undo_42 ?_
        refine lv_iload_n hx hb dX7_undo_45 rfl (lv_at hl 0 rfl) ?_
        refine lv_aload_n hx hb dX7_undo_46 rfl (lv_at hl 1 rfl) ?_
        refine k_get (pre := []) C0 hw hinX7 rfl 1 (by decide) (hts (.fieldLink RX7 13 "SlabDunesModel" "saved" "[I") (by decide +kernel)) rfl rfl dX7_undo_47 ?_
        refine lv_sipush (v := 985) hx hb dX7_undo_50 (by decide) ?_
        refine lv_aload_n hx hb dX7_undo_53 rfl (lv_at hl 1 rfl) ?_
        refine k_get (pre := []) C0 hw hinX7 rfl 3 (by decide) (hts (.fieldLink RX7 36 "SlabDunesModel" "savedMany" "I") (by decide +kernel)) rfl rfl dX7_undo_54 ?_
        refine lv_imul hx hb dX7_undo_57 ?_
        refine W.eq (g2 := F0 mm 58 ls [.int (nI (985 * k9)), .ref V0, .int (nI i), .ref A0]) (congrArg (fun z9 => F0 mm 58 ls [.int z9, .ref V0, .int (nI i), .ref A0]) (show (985 * (nI k9) : Int32) = nI (985 * k9) from pk_mul 985 k9)) ?_
        refine lv_iload_n hx hb dX7_undo_58 rfl (lv_at hl 0 rfl) ?_
        refine lv_iadd hx hb dX7_undo_59 ?_
        refine W.eq (g2 := F0 mm 60 ls [.int (nI (985 * k9 + i)), .ref V0, .int (nI i), .ref A0]) (congrArg (fun z9 => F0 mm 60 ls [.int z9, .ref V0, .int (nI i), .ref A0]) (show ((nI (985 * k9)) + (nI i) : Int32) = nI (985 * k9 + i) from nI_add _ _)) ?_
        refine k_iald (pre := [oc m0 7 [.ref A0, .ref V0, .ref Z0, .int (nI k9), .int 0, .int pl, .int hz, .ref D0, .ref W0, .ref T0, .int tl, .int tw, .int tc], ac E A0 985 g]) (l1 := []) C0 hw (i := nI (985 * k9 + i)) (kinN (by omega) (by decide)) dX7_undo_60 ?_
        refine W.eq (g2 := F0 mm 61 ls [.int (svG V k9 i), .int (nI i), .ref A0]) (congrArg (fun z9 => F0 mm 61 ls [.int z9, .int (nI i), .ref A0]) (show (V (Int32.toNatClampNeg (nI (985 * k9 + i))) : Int32) = svG V k9 i from by rw [nI_clamp (by omega)]; rfl)) ?_
        refine k_iast (pre := [oc m0 7 [.ref A0, .ref V0, .ref Z0, .int (nI k9), .int 0, .int pl, .int hz, .ref D0, .ref W0, .ref T0, .int tl, .int tw, .int tc]]) (l1 := []) C0 hw (i := nI i) (kinN (by omega) (by decide)) dX7_undo_61 (fun H locs hw => ?_)
        have hw : kW E AA sx (List.flatten [oc m0 7 [.ref A0, .ref V0, .ref Z0, .int (nI k9), .int 0, .int pl, .int hz, .ref D0, .ref W0, .ref T0, .int tl, .int tw, .int tc], ac E A0 985 (upd g (Int32.toNatClampNeg (nI i)) (svG V k9 i)), ac E V0 3940 V]) H locs := hw
        refine lv_iinc (v := nI (i + 1)) (lv' := [(1, .int (nI (i + 1))), (0, .ref m0)]) hx hb dX7_undo_62 hl (k := 0) rfl (nI_1 _) (by decide) rfl (fun ls hl => ?_)
        refine lv_goto (tgt := 34) hx hb dX7_undo_65 (by decide) ?_
        -- back 0
        exact ih34 (i + 1) (upd g (Int32.toNatClampNeg (nI i)) (svG V k9 i)) (by first | assumption | omega) (kcp_s (by omega) hg) (by omega) H _ ls (lv_sub hl [0, 1] rfl) hw
  exact loop34 ((985 - 0) + 1) 0 M (by first | assumption | omega) (fun j h99 => absurd h99 (Nat.not_lt_zero _)) (Nat.lt_succ_self _) H _ ls (lv_sub hl [0, 1] rfl) hw

set_option maxHeartbeats 4000000 in
set_option maxRecDepth 100000 in
theorem c_X7_undo_x1 (l : Launch) (E : kE) (m0 : Nat) (A0 : Nat) (V0 : Nat) (Z0 : Nat) (D0 : Nat) (W0 : Nat) (T0 : Nat) (th : Int32) (pl : Int32) (hz : Int32) (tl : Int32) (tw : Int32) (tc : Int32) (M : Nat → Int32)  : kC E l yX7_undo wsX7_undo rmX7_undo [.ref m0] (List.flatten [oc m0 7 [.ref A0, .ref V0, .ref Z0, .int (nI 0), .int th, .int pl, .int hz, .ref D0, .ref W0, .ref T0, .int tl, .int tw, .int tc], ac E A0 985 M]) kI (fun (r : Int32) (_ : Unit) => r = 0) (fun _ => List.flatten [oc m0 7 [.ref A0, .ref V0, .ref Z0, .int (nI 0), .int 1, .int pl, .int hz, .ref D0, .ref W0, .ref T0, .int tl, .int tw, .int tc], ac E A0 985 M]) 0 0 := by
  refine k_body (cc := cX7_undo) (maxL := 2) (ret := (some .int)) (by decide) rfl (Nat.le_of_ble_eq_true rfl) ?_
  intro pp ee sx mm aa bb me cd H locs AA ls C0 hr hlk hnm hl hw
  obtain ⟨hx, hb, hml, hown, hts⟩ := id C0
  have hl : lv_has ls 2 [(0, .ref m0)] := hl
  have hw : kW E AA sx (List.flatten [oc m0 7 [.ref A0, .ref V0, .ref Z0, .int (nI 0), .int th, .int pl, .int hz, .ref D0, .ref W0, .ref T0, .int tl, .int tw, .int tc], ac E A0 985 M]) H locs := hw
  have hinX7 : ∀ w ∈ u_ws RX7 TX7 13, w ∈ wsX7_undo := by decide +kernel
  refine lv_aload_n hx hb dX7_undo_0 rfl (lv_at hl 0 rfl) ?_
  refine lv_aload_n hx hb dX7_undo_1 rfl (lv_at hl 0 rfl) ?_
  refine k_get (pre := []) C0 hw hinX7 rfl 3 (by decide) (hts (.fieldLink RX7 36 "SlabDunesModel" "savedMany" "I") (by decide +kernel)) rfl rfl dX7_undo_2 ?_
  refine lv_if_le (tgt := 12) hx hb dX7_undo_5 (by decide) (fun c5 => ?_) (fun c5 => absurd c5 (by decide))
  refine lv_iconst (v := 0) hx hb dX7_undo_12 (by decide) ?_
  refine lv_iconst (v := 1) hx hb dX7_undo_13 (by decide) ?_
  refine k_V (As := [.int 0, .int 1]) (rest := []) (pre := []) (mid := [oc m0 7 [.ref A0, .ref V0, .ref Z0, .int (nI 0), .int th, .int pl, .int hz, .ref D0, .ref W0, .ref T0, .int tl, .int tw, .int tc]]) C0 (c_X7_goes_1 l E m0 A0 V0 Z0 D0 W0 T0 (nI 0) th pl hz tl tw tc 0 1 (rfl)) (cwV 2 hts gX7_undo_X7_goes rfl rfl rfl (by decide +kernel) ⟨Nat.le_of_ble_eq_true rfl, Nat.le_of_ble_eq_true rfl⟩) hw rfl (fun _ => [oc m0 7 [.ref A0, .ref V0, .ref Z0, .int (nI 0), .int 1, .int pl, .int hz, .ref D0, .ref W0, .ref T0, .int tl, .int tw, .int tc]]) (fun _ => rfl) 0 7 rfl rfl rfl rfl hl.1 rfl (Nat.le_of_ble_eq_true rfl) dX7_undo_14 ⟨Nat.le_of_ble_eq_true rfl, Nat.le_of_ble_eq_true rfl⟩ (fun r u H locs hq99 hw => ?_)
  subst r
  have hw : kW E AA sx (List.flatten [oc m0 7 [.ref A0, .ref V0, .ref Z0, .int (nI 0), .int 1, .int pl, .int hz, .ref D0, .ref W0, .ref T0, .int tl, .int tw, .int tc], ac E A0 985 M]) H locs := hw
  refine W.eq (g2 := F0 mm 17 ls [.int 0]) rfl ?_
  refine lv_if_ne (tgt := 22) hx hb dX7_undo_17 (by decide) (fun c17 => absurd c17 (by decide)) (fun c17 => ?_)
  refine lv_iconst (v := 0) hx hb dX7_undo_20 (by decide) ?_
  -- leaf 0
  exact k_iret C0 hr hlk hw () (rfl) (rfl) (Nat.le_of_ble_eq_true rfl) (Nat.le_of_ble_eq_true rfl) dX7_undo_21
