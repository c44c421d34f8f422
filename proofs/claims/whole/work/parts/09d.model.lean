/-! THE MODEL: slides -/
def lwI (h w : Nat) (sl : Int32) (he : Nat → Int32) (c : Nat) : Int32 := if he c - he (lowN h w he c 3) ≤ sl then -1 else nI (lowN h w he c 3)
def hgI (h w : Nat) (sl : Int32) (he : Nat → Int32) (c : Nat) : Int32 := if he (higN h w he c 3) - he c ≤ sl then -1 else nI (higN h w he c 3)
theorem kfst {P : Prop} [Decidable P] {α β : Type} {a b : α} {x y : β} : (if P then (a, x) else (b, y)).1 = if P then a else b := by split <;> rfl
theorem st_low {h w B c : Nat} {sl : Int32} {he : Nat → Int32} (hG : kG h w) (hc : c < h * w) (hH : hI (h * w) he B) (hB : B < 1000000) : stB1 h w sl he 1 c 4 = lwI h w sl he c := by
  unfold stB1 lwI
  rw [stB_low hG hc hH hB 3, kfst]
theorem st_hig {h w B c : Nat} {sl : Int32} {he : Nat → Int32} (hG : kG h w) (hc : c < h * w) (hH : hI (h * w) he B) (hB : B < 1000000) : stB1 h w sl he (-1) c 4 = hgI h w sl he c := by
  unfold stB1 hgI
  rw [stB_hig hG hc hH hB 3, kfst]
theorem lwI_y {h w c : Nat} {sl : Int32} {he : Nat → Int32} (hG : kG h w) (hc : c < h * w) (h1 : lwI h w sl he c = -1) : he c - he (lowN h w he c 3) ≤ sl := by
  by_cases h2 : he c - he (lowN h w he c 3) ≤ sl
  · exact h2
  · unfold lwI at h1
    rw [if_neg h2] at h1
    have := lowN_lt (he := he) hG hc 3
    have := (kG_n hG).1
    exact absurd h1 (nI_nm1 (by omega))
theorem lwI_n {h w c : Nat} {sl : Int32} {he : Nat → Int32} (h1 : ¬ lwI h w sl he c = -1) : (¬ he c - he (lowN h w he c 3) ≤ sl) ∧ lwI h w sl he c = nI (lowN h w he c 3) := by
  by_cases h2 : he c - he (lowN h w he c 3) ≤ sl
  · exact absurd (if_pos h2) h1
  · exact ⟨h2, if_neg h2⟩
theorem hgI_y {h w c : Nat} {sl : Int32} {he : Nat → Int32} (hG : kG h w) (hc : c < h * w) (h1 : hgI h w sl he c = -1) : he (higN h w he c 3) - he c ≤ sl := by
  by_cases h2 : he (higN h w he c 3) - he c ≤ sl
  · exact h2
  · unfold hgI at h1
    rw [if_neg h2] at h1
    have := higN_lt (he := he) hG hc 3
    have := (kG_n hG).1
    exact absurd h1 (nI_nm1 (by omega))
theorem hgI_n {h w c : Nat} {sl : Int32} {he : Nat → Int32} (h1 : ¬ hgI h w sl he c = -1) : (¬ he (higN h w he c 3) - he c ≤ sl) ∧ hgI h w sl he c = nI (higN h w he c 3) := by
  by_cases h2 : he (higN h w he c 3) - he c ≤ sl
  · exact absurd (if_pos h2) h1
  · exact ⟨h2, if_neg h2⟩
theorem sld_e {g : Nat → Int32} {f t u v : Nat} (h1 : g f = nI (u + 1)) (h2 : g t = nI v) (hft : t ≠ f) : sld g f t = upd (upd g f (nI u)) t (nI (v + 1)) := by
  unfold sld
  rw [h1, pk_m1, show upd g f (nI u) t = nI v by rw [pk_un hft]; exact h2, nI_1]
theorem sld_H {g : Nat → Int32} {n B f t u v : Nat} (hf : f < n) (ht : t < n) (hH : hI n g B) (hB : B < 1000000) (h1 : g f = nI (u + 1)) (h2 : g t = nI v) (hv : v ≤ B) (hu : u + 1 ≤ B) (hft : t ≠ f) : hI n (sld g f t) B := by
  rw [sld_e h1 h2 hft]
  have a1 := hI_up (v := u) hH hf h1 (by omega) hB
  have a2 : (upd g f (nI u)) t = nI v := by rw [pk_un hft]; exact h2
  have a3 := hI_up (v := v + 1) a1 ht a2 (by omega) (by omega)
  obtain ⟨w, hw, ew⟩ := hI_v a1 ht
  rw [a2] at ew
  have e9 := (nI_eq (by omega) (by omega)).mp ew
  exact hI_le a3 (by omega)
theorem sld_dn {g : Nat → Int32} {n B c l v : Nat} {sl : Int32} (hc : c < n) (hl : l < n) (hH : hI n g B) (hB : B < 1000000) (hv : g c = nI v) (hgt : ¬ g c - g l ≤ sl) (hsl : 1 ≤ sl.toInt) : ∃ v', sld g c l l = nI v' ∧ v' + 1 ≤ v ∧ hI n (sld g c l) B := by
  obtain ⟨u, hu, eu⟩ := hI_v hH hl
  obtain ⟨v2, hv2, ev2⟩ := hI_v hH hc
  have k0 : nI v = nI v2 := by rw [← hv, ev2]
  by_cases hvs : v < 2147483648
  · have e0 := (nI_eq (by omega) (by omega)).mp k0
    rw [hv, eu] at hgt
    have k1 := (klt (a := v) (b := u) (s := sl) (by omega) (by omega)).2
    have k2 : u + 2 ≤ v := by
      rcases Nat.lt_or_ge (u + 1) v with h9 | h9
      · exact h9
      · exact absurd (k1.mpr (by omega)) hgt
    obtain ⟨x, rfl⟩ : ∃ x, v = x + 1 := ⟨v - 1, by omega⟩
    have hne : l ≠ c := fun e9 => by
      rw [e9, hv] at eu
      have := (nI_eq (by omega) (by omega)).mp eu
      omega
    refine ⟨u + 1, ?_, by omega, sld_H hc hl hH hB hv eu hu (by omega) hne⟩
    rw [sld_e hv eu hne, pk_us]
  · refine ⟨u + 1, ?_, by omega, ?_⟩
    · rw [ev2, eu] at hgt
      have k1 := (klt (a := v2) (b := u) (s := sl) (by omega) (by omega)).2
      have k2 : u + 2 ≤ v2 := by
        rcases Nat.lt_or_ge (u + 1) v2 with h9 | h9
        · exact h9
        · exact absurd (k1.mpr (by omega)) hgt
      obtain ⟨x, rfl⟩ : ∃ x, v2 = x + 1 := ⟨v2 - 1, by omega⟩
      have hne : l ≠ c := fun e9 => by
        rw [e9, ev2] at eu
        have := (nI_eq (by omega) (by omega)).mp eu
        omega
      rw [sld_e ev2 eu hne, pk_us]
    · rw [ev2, eu] at hgt
      have k1 := (klt (a := v2) (b := u) (s := sl) (by omega) (by omega)).2
      have k2 : u + 2 ≤ v2 := by
        rcases Nat.lt_or_ge (u + 1) v2 with h9 | h9
        · exact h9
        · exact absurd (k1.mpr (by omega)) hgt
      obtain ⟨x, rfl⟩ : ∃ x, v2 = x + 1 := ⟨v2 - 1, by omega⟩
      have hne : l ≠ c := fun e9 => by
        rw [e9, ev2] at eu
        have := (nI_eq (by omega) (by omega)).mp eu
        omega
      exact sld_H hc hl hH hB ev2 eu hu (by omega) hne
theorem sld_ri {g : Nat → Int32} {n B c f v : Nat} {sl : Int32} (hc : c < n) (hf : f < n) (hH : hI n g B) (hB : B < 1000000) (hv : g c = nI v) (hvB : v ≤ B) (hgt : ¬ g f - g c ≤ sl) (hsl : 1 ≤ sl.toInt) : ∃ v', sld g f c f = nI v' ∧ v + 1 ≤ v' ∧ v' ≤ B ∧ hI n (sld g f c) B := by
  obtain ⟨u, hu, eu⟩ := hI_v hH hf
  rw [hv, eu] at hgt
  have k1 := (klt (a := u) (b := v) (s := sl) (by omega) (by omega)).2
  have k2 : v + 2 ≤ u := by
    rcases Nat.lt_or_ge (v + 1) u with h9 | h9
    · exact h9
    · exact absurd (k1.mpr (by omega)) hgt
  obtain ⟨x, rfl⟩ : ∃ x, u = x + 1 := ⟨u - 1, by omega⟩
  have hne : c ≠ f := fun e9 => by
    rw [← e9, hv] at eu
    have := (nI_eq (by omega) (by omega)).mp eu
    omega
  refine ⟨x, ?_, by omega, by omega, sld_H hf hc hH hB eu hv hvB hu hne⟩
  rw [sld_e eu hv hne, pk_un hne.symm, pk_us]
/-- what crosses counts -/
def crV1 (w d k j : Nat) : Int32 := if d = 0 ∧ k % w = w - 1 ∧ j % w = 0 then 1 else 0
def crV2 (w d k j : Nat) : Int32 := if d = 2 ∧ k % w = 0 ∧ j % w = w - 1 then 1 else 0
def crC (w d : Nat) (co : Nat → Int32) (k j : Nat) : Nat → Int32 := upd (upd co 10 (co 10 + crV1 w d k j)) 11 (upd co 10 (co 10 + crV1 w d k j) 11 + crV2 w d k j)
abbrev rmX7_away : Room := { frames := 0, cells := 0, slots := 0, locals := 0 }
set_option maxHeartbeats 4000000 in
set_option maxRecDepth 100000 in
theorem c_X7_away (l : Launch) (E : kE) (m0 : Nat) (A0 : Nat) (V0 : Nat) (Z0 : Nat) (D0 : Nat) (W0 : Nat) (T0 : Nat) (sm : Int32) (th : Int32) (pl : Int32) (hz : Int32) (tl : Int32) (tw : Int32) (tc : Int32) (h : Nat) (w : Nat) (wd : Int32) (s0 : Int32) (z : Int32) (st : Nat → Int32) (he : Nat → Int32) (ke : Nat → Int32) (tu : Nat → Int32) (ca : Nat → Int32) (tr : Nat → Int32) (co : Nat → Int32) (la : Nat → Int32) (k : Nat) (rr : Int32) (cr : Int32) (hG : kG h w) (hc : k < h * w) (hrr : rI rr) (hcr : rI cr) : kC E l yX7_away wsX7_away rmX7_away [.ref m0, .int (nI k), .int rr, .int cr] (List.flatten [oc m0 7 [.ref A0, .ref V0, .ref Z0, .int sm, .int th, .int pl, .int hz, .ref D0, .ref W0, .ref T0, .int tl, .int tw, .int tc], ac E A0 985 (mA h w wd s0 z st he ke tu ca tr co la)]) kI (fun (r : Int32) (_ : Unit) => r = nI (awI h w k rr cr)) (fun _ => List.flatten [oc m0 7 [.ref A0, .ref V0, .ref Z0, .int sm, .int th, .int pl, .int hz, .ref D0, .ref W0, .ref T0, .int tl, .int tw, .int tc], ac E A0 985 (mA h w wd s0 z st he ke tu ca tr co la)]) 0 0 := by
  refine k_body (cc := cX7_away) (maxL := 8) (ret := (some .int)) (by decide) rfl (Nat.le_of_ble_eq_true rfl) ?_
  intro pp ee sx mm aa bb me cd H locs AA ls C0 hr hlk hnm hl hw
  obtain ⟨hx, hb, hml, hown, hts⟩ := id C0
  have hl : lv_has ls 8 [(0, .ref m0), (1, .int (nI k)), (2, .int rr), (3, .int cr)] := hl
  have hw : kW E AA sx (List.flatten [oc m0 7 [.ref A0, .ref V0, .ref Z0, .int sm, .int th, .int pl, .int hz, .ref D0, .ref W0, .ref T0, .int tl, .int tw, .int tc], ac E A0 985 (mA h w wd s0 z st he ke tu ca tr co la)]) H locs := hw
  have hn9 := kG_n hG
  have hG9 := id hG
  obtain ⟨hG1, hG2, hG3, hG4⟩ := hG9
  have hinX7 : ∀ w ∈ u_ws RX7 TX7 13, w ∈ wsX7_away := by decide +kernel
  have hq9 := kdiv_lt hc
  have hr9 : k % w < w := Nat.mod_lt _ (by omega)
  refine lv_aload_n hx hb dX7_away_0 rfl (lv_at hl 0 rfl) ?_
  refine k_get (pre := []) C0 hw hinX7 rfl 0 (by decide) (hts (.fieldLink RX7 7 "SlabDunesModel" "all" "[I") (by decide +kernel)) rfl rfl dX7_away_1 ?_
  refine lv_iconst (v := 4) hx hb dX7_away_4 (by decide) ?_
  refine k_iald (pre := [oc m0 7 [.ref A0, .ref V0, .ref Z0, .int sm, .int th, .int pl, .int hz, .ref D0, .ref W0, .ref T0, .int tl, .int tw, .int tc]]) (l1 := []) C0 hw (i := 4) (kinN (n := 4) (by decide) (by decide)) dX7_away_5 ?_
  refine W.eq (g2 := F0 mm 6 ls [.int (nI h)]) (congrArg (fun z9 => F0 mm 6 ls [.int z9]) (show ((mA h w wd s0 z st he ke tu ca tr co la) (Int32.toNatClampNeg 4) : Int32) = nI h from rfl)) ?_
  refine lv_istore (lv' := [(4, .int (nI h)), (0, .ref m0), (1, .int (nI k)), (2, .int rr), (3, .int cr)]) hx hb dX7_away_6 hl (by decide) rfl (fun ls hl => ?_)
  refine lv_aload_n hx hb dX7_away_8 rfl (lv_at hl 1 rfl) ?_
  refine k_get (pre := []) C0 hw hinX7 rfl 0 (by decide) (hts (.fieldLink RX7 7 "SlabDunesModel" "all" "[I") (by decide +kernel)) rfl rfl dX7_away_9 ?_
  refine lv_iconst (v := 5) hx hb dX7_away_12 (by decide) ?_
  refine k_iald (pre := [oc m0 7 [.ref A0, .ref V0, .ref Z0, .int sm, .int th, .int pl, .int hz, .ref D0, .ref W0, .ref T0, .int tl, .int tw, .int tc]]) (l1 := []) C0 hw (i := 5) (kinN (n := 5) (by decide) (by decide)) dX7_away_13 ?_
  refine W.eq (g2 := F0 mm 14 ls [.int (nI w)]) (congrArg (fun z9 => F0 mm 14 ls [.int z9]) (show ((mA h w wd s0 z st he ke tu ca tr co la) (Int32.toNatClampNeg 5) : Int32) = nI w from rfl)) ?_
  refine lv_istore (lv' := [(5, .int (nI w)), (4, .int (nI h)), (0, .ref m0), (1, .int (nI k)), (2, .int rr), (3, .int cr)]) hx hb dX7_away_14 hl (by decide) rfl (fun ls hl => ?_)
  refine lv_iload_n hx hb dX7_away_16 rfl (lv_at hl 3 rfl) ?_
  refine lv_iload hx hb dX7_away_17 (lv_at hl 0 rfl) ?_
  refine lv_idiv hx hb dX7_away_19 (nI_ne0 (by omega) (by omega)) ?_
  refine W.eq (g2 := F0 mm 20 ls [.int (nI (k / w))]) (congrArg (fun z9 => F0 mm 20 ls [.int z9]) (show ((nI k) / (nI w) : Int32) = nI (k / w) from pk_div (by omega) (by omega) (by omega))) ?_
  refine lv_iload_n hx hb dX7_away_20 rfl (lv_at hl 4 rfl) ?_
  refine lv_iadd hx hb dX7_away_21 ?_
  refine lv_iload hx hb dX7_away_22 (lv_at hl 1 rfl) ?_
  refine lv_irem hx hb dX7_away_24 (nI_ne0 (by omega) (by omega)) ?_
  refine lv_iload hx hb dX7_away_25 (lv_at hl 1 rfl) ?_
  refine lv_iadd hx hb dX7_away_27 ?_
  refine lv_iload hx hb dX7_away_28 (lv_at hl 1 rfl) ?_
  refine lv_irem hx hb dX7_away_30 (nI_ne0 (by omega) (by omega)) ?_
  refine W.eq (g2 := F0 mm 31 ls [.int (nI (awR h w k rr))]) (congrArg (fun z9 => F0 mm 31 ls [.int z9]) (show (((((nI (k / w)) + rr) - ((nI (k / w)) + rr) / (nI h) * (nI h)) + (nI h)) - ((((nI (k / w)) + rr) - ((nI (k / w)) + rr) / (nI h) * (nI h)) + (nI h)) / (nI h) * (nI h) : Int32) = nI (awR h w k rr) from kjm (h := h) (q := k / w) (r := rr) (by omega) (by omega) (by omega) hrr)) ?_
  refine lv_istore (lv' := [(6, .int (nI (awR h w k rr))), (5, .int (nI w)), (4, .int (nI h)), (0, .ref m0), (1, .int (nI k)), (2, .int rr), (3, .int cr)]) hx hb dX7_away_31 hl (by decide) rfl (fun ls hl => ?_)
  refine lv_iload_n hx hb dX7_away_33 rfl (lv_at hl 4 rfl) ?_
  refine lv_iload hx hb dX7_away_34 (lv_at hl 1 rfl) ?_
  refine lv_irem hx hb dX7_away_36 (nI_ne0 (by omega) (by omega)) ?_
  refine W.eq (g2 := F0 mm 37 ls [.int (nI (k % w))]) (congrArg (fun z9 => F0 mm 37 ls [.int z9]) (show ((nI k) - (nI k) / (nI w) * (nI w) : Int32) = nI (k % w) from pk_rem (by omega) (by omega) (by omega))) ?_
  refine lv_iload_n hx hb dX7_away_37 rfl (lv_at hl 6 rfl) ?_
  refine lv_iadd hx hb dX7_away_38 ?_
  refine lv_iload hx hb dX7_away_39 (lv_at hl 1 rfl) ?_
  refine lv_irem hx hb dX7_away_41 (nI_ne0 (by omega) (by omega)) ?_
  refine lv_iload hx hb dX7_away_42 (lv_at hl 1 rfl) ?_
  refine lv_iadd hx hb dX7_away_44 ?_
  refine lv_iload hx hb dX7_away_45 (lv_at hl 1 rfl) ?_
  refine lv_irem hx hb dX7_away_47 (nI_ne0 (by omega) (by omega)) ?_
  refine W.eq (g2 := F0 mm 48 ls [.int (nI (awC w k cr))]) (congrArg (fun z9 => F0 mm 48 ls [.int z9]) (show (((((nI (k % w)) + cr) - ((nI (k % w)) + cr) / (nI w) * (nI w)) + (nI w)) - ((((nI (k % w)) + cr) - ((nI (k % w)) + cr) / (nI w) * (nI w)) + (nI w)) / (nI w) * (nI w) : Int32) = nI (awC w k cr) from kjm (h := w) (q := k % w) (r := cr) (by omega) (by omega) (by omega) hcr)) ?_
  refine lv_istore (lv' := [(7, .int (nI (awC w k cr))), (6, .int (nI (awR h w k rr))), (5, .int (nI w)), (4, .int (nI h)), (0, .ref m0), (1, .int (nI k)), (2, .int rr), (3, .int cr)]) hx hb dX7_away_48 hl (by decide) rfl (fun ls hl => ?_)
  refine lv_iload hx hb dX7_away_50 (lv_at hl 1 rfl) ?_
  refine lv_iload hx hb dX7_away_52 (lv_at hl 2 rfl) ?_
  refine lv_imul hx hb dX7_away_54 ?_
  refine W.eq (g2 := F0 mm 55 ls [.int (nI (awR h w k rr * w))]) (congrArg (fun z9 => F0 mm 55 ls [.int z9]) (show ((nI (awR h w k rr)) * (nI w) : Int32) = nI (awR h w k rr * w) from pk_mul _ _)) ?_
  refine lv_iload hx hb dX7_away_55 (lv_at hl 0 rfl) ?_
  refine lv_iadd hx hb dX7_away_57 ?_
  refine W.eq (g2 := F0 mm 58 ls [.int (nI (awI h w k rr cr))]) (congrArg (fun z9 => F0 mm 58 ls [.int z9]) (show ((nI (awR h w k rr * w)) + (nI (awC w k cr)) : Int32) = nI (awI h w k rr cr) from nI_add _ _)) ?_
  -- leaf 0
  exact k_iret C0 hr hlk hw () (rfl) (rfl) (Nat.le_of_ble_eq_true rfl) (Nat.le_of_ble_eq_true rfl) dX7_away_58

abbrev rmX7_neighbor : Room := { frames := 1, cells := 0, slots := 0, locals := 27 }
set_option maxHeartbeats 4000000 in
set_option maxRecDepth 100000 in
theorem c_X7_neighbor (l : Launch) (E : kE) (m0 : Nat) (A0 : Nat) (V0 : Nat) (Z0 : Nat) (D0 : Nat) (W0 : Nat) (T0 : Nat) (sm : Int32) (th : Int32) (pl : Int32) (hz : Int32) (tl : Int32) (tw : Int32) (tc : Int32) (h : Nat) (w : Nat) (wd : Int32) (s0 : Int32) (z : Int32) (st : Nat → Int32) (he : Nat → Int32) (ke : Nat → Int32) (tu : Nat → Int32) (ca : Nat → Int32) (tr : Nat → Int32) (co : Nat → Int32) (la : Nat → Int32) (k : Nat) (j : Nat) (hG : kG h w) (hc : k < h * w) (hj : j < 4) : kC E l yX7_neighbor wsX7_neighbor rmX7_neighbor [.ref m0, .int (nI k), .int (nI j)] (List.flatten [oc m0 7 [.ref A0, .ref V0, .ref Z0, .int sm, .int th, .int pl, .int hz, .ref D0, .ref W0, .ref T0, .int tl, .int tw, .int tc], ac E A0 985 (mA h w wd s0 z st he ke tu ca tr co la)]) kI (fun (r : Int32) (_ : Unit) => r = nI (nbr h w k j)) (fun _ => List.flatten [oc m0 7 [.ref A0, .ref V0, .ref Z0, .int sm, .int th, .int pl, .int hz, .ref D0, .ref W0, .ref T0, .int tl, .int tw, .int tc], ac E A0 985 (mA h w wd s0 z st he ke tu ca tr co la)]) 0 0 := by
  refine k_body (cc := cX7_neighbor) (maxL := 3) (ret := (some .int)) (by decide) rfl (Nat.le_of_ble_eq_true rfl) ?_
  intro pp ee sx mm aa bb me cd H locs AA ls C0 hr hlk hnm hl hw
  obtain ⟨hx, hb, hml, hown, hts⟩ := id C0
  have hl : lv_has ls 3 [(0, .ref m0), (1, .int (nI k)), (2, .int (nI j))] := hl
  have hw : kW E AA sx (List.flatten [oc m0 7 [.ref A0, .ref V0, .ref Z0, .int sm, .int th, .int pl, .int hz, .ref D0, .ref W0, .ref T0, .int tl, .int tw, .int tc], ac E A0 985 (mA h w wd s0 z st he ke tu ca tr co la)]) H locs := hw
  have hn9 := kG_n hG
  have hG9 := id hG
  obtain ⟨hG1, hG2, hG3, hG4⟩ := hG9
  refine lv_aload_n hx hb dX7_neighbor_0 rfl (lv_at hl 0 rfl) ?_
  refine lv_iload_n hx hb dX7_neighbor_1 rfl (lv_at hl 1 rfl) ?_
  refine lv_iload_n hx hb dX7_neighbor_2 rfl (lv_at hl 2 rfl) ?_
  refine lv_if_ne (tgt := 10) hx hb dX7_neighbor_3 (by decide) (fun c3 => ?_) (fun c3 => ?_)
  · have c3 : ¬ j = 0 := fun h99 => c3 ((nI_eq (a := j) (b := 0) (by omega) (by omega)).mpr h99)
    refine lv_iload_n hx hb dX7_neighbor_10 rfl (lv_at hl 2 rfl) ?_
    refine lv_iconst (v := 2) hx hb dX7_neighbor_11 (by decide) ?_
    refine lv_icmp_ne (tgt := 19) hx hb dX7_neighbor_12 (by decide) (fun c12 => ?_) (fun c12 => ?_)
    · have c12 : ¬ j = 2 := fun h99 => c12 ((nI_eq (a := j) (b := 2) (by omega) (by omega)).mpr h99)
      refine lv_iconst (v := 0) hx hb dX7_neighbor_19 (by decide) ?_
      refine lv_iload_n hx hb dX7_neighbor_20 rfl (lv_at hl 2 rfl) ?_
      refine lv_iconst (v := 1) hx hb dX7_neighbor_21 (by decide) ?_
      refine lv_icmp_ne (tgt := 29) hx hb dX7_neighbor_22 (by decide) (fun c22 => ?_) (fun c22 => ?_)
      · have c22 : ¬ j = 1 := fun h99 => c22 ((nI_eq (a := j) (b := 1) (by omega) (by omega)).mpr h99)
        refine lv_iload_n hx hb dX7_neighbor_29 rfl (lv_at hl 2 rfl) ?_
        refine lv_iconst (v := 3) hx hb dX7_neighbor_30 (by decide) ?_
        refine lv_icmp_ne (tgt := 38) hx hb dX7_neighbor_31 (by decide) (fun c31 => ?_) (fun c31 => ?_)
        · have c31 : ¬ j = 3 := fun h99 => c31 ((nI_eq (a := j) (b := 3) (by omega) (by omega)).mpr h99)
          refine lv_iconst (v := 0) hx hb dX7_neighbor_38 (by decide) ?_
          refine k_V (As := [.int (nI k), .int 0, .int 0]) (rest := []) (pre := []) (mid := [oc m0 7 [.ref A0, .ref V0, .ref Z0, .int sm, .int th, .int pl, .int hz, .ref D0, .ref W0, .ref T0, .int tl, .int tw, .int tc], ac E A0 985 (mA h w wd s0 z st he ke tu ca tr co la)]) C0 (c_X7_away l E m0 A0 V0 Z0 D0 W0 T0 sm th pl hz tl tw tc h w wd s0 z st he ke tu ca tr co la k 0 0 (by first | assumption | omega) (by first | assumption | omega) (by with_reducible first | exact rI_0 | exact rI_1 | exact rI_m1 | exact rI_p ht | exact rI_n ht) (by with_reducible first | exact rI_0 | exact rI_1 | exact rI_m1 | exact rI_p ht | exact rI_n ht)) (cwV 3 hts gX7_neighbor_X7_away rfl rfl rfl (by decide +kernel) ⟨Nat.le_of_ble_eq_true rfl, Nat.le_of_ble_eq_true rfl⟩) hw rfl (fun _ => [oc m0 7 [.ref A0, .ref V0, .ref Z0, .int sm, .int th, .int pl, .int hz, .ref D0, .ref W0, .ref T0, .int tl, .int tw, .int tc], ac E A0 985 (mA h w wd s0 z st he ke tu ca tr co la)]) (fun _ => rfl) 0 7 rfl rfl rfl rfl hl.1 rfl (Nat.le_of_ble_eq_true rfl) dX7_neighbor_39 ⟨Nat.le_of_ble_eq_true rfl, Nat.le_of_ble_eq_true rfl⟩ (fun r u H locs hq99 hw => ?_)
          subst hq99
          have hw : kW E AA sx (List.flatten [oc m0 7 [.ref A0, .ref V0, .ref Z0, .int sm, .int th, .int pl, .int hz, .ref D0, .ref W0, .ref T0, .int tl, .int tw, .int tc], ac E A0 985 (mA h w wd s0 z st he ke tu ca tr co la)]) H locs := hw
          refine W.eq (g2 := F0 mm 42 ls [.int (nI (awI h w k 0 0))]) rfl ?_
          -- leaf 0
          exact k_iret C0 hr hlk hw () (rfl) (by exfalso; omega) (Nat.le_of_ble_eq_true rfl) (Nat.le_of_ble_eq_true rfl) dX7_neighbor_42
        · have c31 : j = 3 := (nI_eq (a := j) (b := 3) (by omega) (by omega)).mp c31
          refine lv_iconst (v := (-1)) hx hb dX7_neighbor_34 (by decide) ?_
          refine lv_goto (tgt := 39) hx hb dX7_neighbor_35 (by decide) ?_
          refine k_V (As := [.int (nI k), .int 0, .int (-1)]) (rest := []) (pre := []) (mid := [oc m0 7 [.ref A0, .ref V0, .ref Z0, .int sm, .int th, .int pl, .int hz, .ref D0, .ref W0, .ref T0, .int tl, .int tw, .int tc], ac E A0 985 (mA h w wd s0 z st he ke tu ca tr co la)]) C0 (c_X7_away l E m0 A0 V0 Z0 D0 W0 T0 sm th pl hz tl tw tc h w wd s0 z st he ke tu ca tr co la k 0 (-1) (by first | assumption | omega) (by first | assumption | omega) (by with_reducible first | exact rI_0 | exact rI_1 | exact rI_m1 | exact rI_p ht | exact rI_n ht) (by with_reducible first | exact rI_0 | exact rI_1 | exact rI_m1 | exact rI_p ht | exact rI_n ht)) (cwV 3 hts gX7_neighbor_X7_away rfl rfl rfl (by decide +kernel) ⟨Nat.le_of_ble_eq_true rfl, Nat.le_of_ble_eq_true rfl⟩) hw rfl (fun _ => [oc m0 7 [.ref A0, .ref V0, .ref Z0, .int sm, .int th, .int pl, .int hz, .ref D0, .ref W0, .ref T0, .int tl, .int tw, .int tc], ac E A0 985 (mA h w wd s0 z st he ke tu ca tr co la)]) (fun _ => rfl) 0 7 rfl rfl rfl rfl hl.1 rfl (Nat.le_of_ble_eq_true rfl) dX7_neighbor_39 ⟨Nat.le_of_ble_eq_true rfl, Nat.le_of_ble_eq_true rfl⟩ (fun r u H locs hq99 hw => ?_)
          subst hq99
          have hw : kW E AA sx (List.flatten [oc m0 7 [.ref A0, .ref V0, .ref Z0, .int sm, .int th, .int pl, .int hz, .ref D0, .ref W0, .ref T0, .int tl, .int tw, .int tc], ac E A0 985 (mA h w wd s0 z st he ke tu ca tr co la)]) H locs := hw
          refine W.eq (g2 := F0 mm 42 ls [.int (nI (awI h w k 0 (-1)))]) rfl ?_
          -- leaf 1
          exact k_iret C0 hr hlk hw () (rfl) (by rw [show j = 3 by omega]; exact aw_3 hG hc) (Nat.le_of_ble_eq_true rfl) (Nat.le_of_ble_eq_true rfl) dX7_neighbor_42
      · have c22 : j = 1 := (nI_eq (a := j) (b := 1) (by omega) (by omega)).mp c22
        refine lv_iconst (v := 1) hx hb dX7_neighbor_25 (by decide) ?_
        refine lv_goto (tgt := 39) hx hb dX7_neighbor_26 (by decide) ?_
        refine k_V (As := [.int (nI k), .int 0, .int 1]) (rest := []) (pre := []) (mid := [oc m0 7 [.ref A0, .ref V0, .ref Z0, .int sm, .int th, .int pl, .int hz, .ref D0, .ref W0, .ref T0, .int tl, .int tw, .int tc], ac E A0 985 (mA h w wd s0 z st he ke tu ca tr co la)]) C0 (c_X7_away l E m0 A0 V0 Z0 D0 W0 T0 sm th pl hz tl tw tc h w wd s0 z st he ke tu ca tr co la k 0 1 (by first | assumption | omega) (by first | assumption | omega) (by with_reducible first | exact rI_0 | exact rI_1 | exact rI_m1 | exact rI_p ht | exact rI_n ht) (by with_reducible first | exact rI_0 | exact rI_1 | exact rI_m1 | exact rI_p ht | exact rI_n ht)) (cwV 3 hts gX7_neighbor_X7_away rfl rfl rfl (by decide +kernel) ⟨Nat.le_of_ble_eq_true rfl, Nat.le_of_ble_eq_true rfl⟩) hw rfl (fun _ => [oc m0 7 [.ref A0, .ref V0, .ref Z0, .int sm, .int th, .int pl, .int hz, .ref D0, .ref W0, .ref T0, .int tl, .int tw, .int tc], ac E A0 985 (mA h w wd s0 z st he ke tu ca tr co la)]) (fun _ => rfl) 0 7 rfl rfl rfl rfl hl.1 rfl (Nat.le_of_ble_eq_true rfl) dX7_neighbor_39 ⟨Nat.le_of_ble_eq_true rfl, Nat.le_of_ble_eq_true rfl⟩ (fun r u H locs hq99 hw => ?_)
        subst hq99
        have hw : kW E AA sx (List.flatten [oc m0 7 [.ref A0, .ref V0, .ref Z0, .int sm, .int th, .int pl, .int hz, .ref D0, .ref W0, .ref T0, .int tl, .int tw, .int tc], ac E A0 985 (mA h w wd s0 z st he ke tu ca tr co la)]) H locs := hw
        refine W.eq (g2 := F0 mm 42 ls [.int (nI (awI h w k 0 1))]) rfl ?_
        -- leaf 2
        exact k_iret C0 hr hlk hw () (rfl) (by rw [show j = 1 by omega]; exact aw_1 hG hc) (Nat.le_of_ble_eq_true rfl) (Nat.le_of_ble_eq_true rfl) dX7_neighbor_42
    · have c12 : j = 2 := (nI_eq (a := j) (b := 2) (by omega) (by omega)).mp c12
      refine lv_iconst (v := 1) hx hb dX7_neighbor_15 (by decide) ?_
      refine lv_goto (tgt := 20) hx hb dX7_neighbor_16 (by decide) ?_
      refine lv_iload_n hx hb dX7_neighbor_20 rfl (lv_at hl 2 rfl) ?_
      refine lv_iconst (v := 1) hx hb dX7_neighbor_21 (by decide) ?_
      refine lv_icmp_ne (tgt := 29) hx hb dX7_neighbor_22 (by decide) (fun c22 => ?_) (fun c22 => ?_)
      · have c22 : ¬ j = 1 := fun h99 => c22 ((nI_eq (a := j) (b := 1) (by omega) (by omega)).mpr h99)
        refine lv_iload_n hx hb dX7_neighbor_29 rfl (lv_at hl 2 rfl) ?_
        refine lv_iconst (v := 3) hx hb dX7_neighbor_30 (by decide) ?_
        refine lv_icmp_ne (tgt := 38) hx hb dX7_neighbor_31 (by decide) (fun c31 => ?_) (fun c31 => ?_)
        · have c31 : ¬ j = 3 := fun h99 => c31 ((nI_eq (a := j) (b := 3) (by omega) (by omega)).mpr h99)
          refine lv_iconst (v := 0) hx hb dX7_neighbor_38 (by decide) ?_
          refine k_V (As := [.int (nI k), .int 1, .int 0]) (rest := []) (pre := []) (mid := [oc m0 7 [.ref A0, .ref V0, .ref Z0, .int sm, .int th, .int pl, .int hz, .ref D0, .ref W0, .ref T0, .int tl, .int tw, .int tc], ac E A0 985 (mA h w wd s0 z st he ke tu ca tr co la)]) C0 (c_X7_away l E m0 A0 V0 Z0 D0 W0 T0 sm th pl hz tl tw tc h w wd s0 z st he ke tu ca tr co la k 1 0 (by first | assumption | omega) (by first | assumption | omega) (by with_reducible first | exact rI_0 | exact rI_1 | exact rI_m1 | exact rI_p ht | exact rI_n ht) (by with_reducible first | exact rI_0 | exact rI_1 | exact rI_m1 | exact rI_p ht | exact rI_n ht)) (cwV 3 hts gX7_neighbor_X7_away rfl rfl rfl (by decide +kernel) ⟨Nat.le_of_ble_eq_true rfl, Nat.le_of_ble_eq_true rfl⟩) hw rfl (fun _ => [oc m0 7 [.ref A0, .ref V0, .ref Z0, .int sm, .int th, .int pl, .int hz, .ref D0, .ref W0, .ref T0, .int tl, .int tw, .int tc], ac E A0 985 (mA h w wd s0 z st he ke tu ca tr co la)]) (fun _ => rfl) 0 7 rfl rfl rfl rfl hl.1 rfl (Nat.le_of_ble_eq_true rfl) dX7_neighbor_39 ⟨Nat.le_of_ble_eq_true rfl, Nat.le_of_ble_eq_true rfl⟩ (fun r u H locs hq99 hw => ?_)
          subst hq99
          have hw : kW E AA sx (List.flatten [oc m0 7 [.ref A0, .ref V0, .ref Z0, .int sm, .int th, .int pl, .int hz, .ref D0, .ref W0, .ref T0, .int tl, .int tw, .int tc], ac E A0 985 (mA h w wd s0 z st he ke tu ca tr co la)]) H locs := hw
          refine W.eq (g2 := F0 mm 42 ls [.int (nI (awI h w k 1 0))]) rfl ?_
          -- leaf 3
          exact k_iret C0 hr hlk hw () (rfl) (by rw [show j = 2 by omega]; exact aw_2 hG hc) (Nat.le_of_ble_eq_true rfl) (Nat.le_of_ble_eq_true rfl) dX7_neighbor_42
        · have c31 : j = 3 := (nI_eq (a := j) (b := 3) (by omega) (by omega)).mp c31
          refine lv_iconst (v := (-1)) hx hb dX7_neighbor_34 (by decide) ?_
          refine lv_goto (tgt := 39) hx hb dX7_neighbor_35 (by decide) ?_
          refine k_V (As := [.int (nI k), .int 1, .int (-1)]) (rest := []) (pre := []) (mid := [oc m0 7 [.ref A0, .ref V0, .ref Z0, .int sm, .int th, .int pl, .int hz, .ref D0, .ref W0, .ref T0, .int tl, .int tw, .int tc], ac E A0 985 (mA h w wd s0 z st he ke tu ca tr co la)]) C0 (c_X7_away l E m0 A0 V0 Z0 D0 W0 T0 sm th pl hz tl tw tc h w wd s0 z st he ke tu ca tr co la k 1 (-1) (by first | assumption | omega) (by first | assumption | omega) (by with_reducible first | exact rI_0 | exact rI_1 | exact rI_m1 | exact rI_p ht | exact rI_n ht) (by with_reducible first | exact rI_0 | exact rI_1 | exact rI_m1 | exact rI_p ht | exact rI_n ht)) (cwV 3 hts gX7_neighbor_X7_away rfl rfl rfl (by decide +kernel) ⟨Nat.le_of_ble_eq_true rfl, Nat.le_of_ble_eq_true rfl⟩) hw rfl (fun _ => [oc m0 7 [.ref A0, .ref V0, .ref Z0, .int sm, .int th, .int pl, .int hz, .ref D0, .ref W0, .ref T0, .int tl, .int tw, .int tc], ac E A0 985 (mA h w wd s0 z st he ke tu ca tr co la)]) (fun _ => rfl) 0 7 rfl rfl rfl rfl hl.1 rfl (Nat.le_of_ble_eq_true rfl) dX7_neighbor_39 ⟨Nat.le_of_ble_eq_true rfl, Nat.le_of_ble_eq_true rfl⟩ (fun r u H locs hq99 hw => ?_)
          subst hq99
          have hw : kW E AA sx (List.flatten [oc m0 7 [.ref A0, .ref V0, .ref Z0, .int sm, .int th, .int pl, .int hz, .ref D0, .ref W0, .ref T0, .int tl, .int tw, .int tc], ac E A0 985 (mA h w wd s0 z st he ke tu ca tr co la)]) H locs := hw
          refine W.eq (g2 := F0 mm 42 ls [.int (nI (awI h w k 1 (-1)))]) rfl ?_
          -- leaf 4
          exact k_iret C0 hr hlk hw () (rfl) (by exfalso; omega) (Nat.le_of_ble_eq_true rfl) (Nat.le_of_ble_eq_true rfl) dX7_neighbor_42
      · have c22 : j = 1 := (nI_eq (a := j) (b := 1) (by omega) (by omega)).mp c22
        refine lv_iconst (v := 1) hx hb dX7_neighbor_25 (by decide) ?_
        refine lv_goto (tgt := 39) hx hb dX7_neighbor_26 (by decide) ?_
        refine k_V (As := [.int (nI k), .int 1, .int 1]) (rest := []) (pre := []) (mid := [oc m0 7 [.ref A0, .ref V0, .ref Z0, .int sm, .int th, .int pl, .int hz, .ref D0, .ref W0, .ref T0, .int tl, .int tw, .int tc], ac E A0 985 (mA h w wd s0 z st he ke tu ca tr co la)]) C0 (c_X7_away l E m0 A0 V0 Z0 D0 W0 T0 sm th pl hz tl tw tc h w wd s0 z st he ke tu ca tr co la k 1 1 (by first | assumption | omega) (by first | assumption | omega) (by with_reducible first | exact rI_0 | exact rI_1 | exact rI_m1 | exact rI_p ht | exact rI_n ht) (by with_reducible first | exact rI_0 | exact rI_1 | exact rI_m1 | exact rI_p ht | exact rI_n ht)) (cwV 3 hts gX7_neighbor_X7_away rfl rfl rfl (by decide +kernel) ⟨Nat.le_of_ble_eq_true rfl, Nat.le_of_ble_eq_true rfl⟩) hw rfl (fun _ => [oc m0 7 [.ref A0, .ref V0, .ref Z0, .int sm, .int th, .int pl, .int hz, .ref D0, .ref W0, .ref T0, .int tl, .int tw, .int tc], ac E A0 985 (mA h w wd s0 z st he ke tu ca tr co la)]) (fun _ => rfl) 0 7 rfl rfl rfl rfl hl.1 rfl (Nat.le_of_ble_eq_true rfl) dX7_neighbor_39 ⟨Nat.le_of_ble_eq_true rfl, Nat.le_of_ble_eq_true rfl⟩ (fun r u H locs hq99 hw => ?_)
        subst hq99
        have hw : kW E AA sx (List.flatten [oc m0 7 [.ref A0, .ref V0, .ref Z0, .int sm, .int th, .int pl, .int hz, .ref D0, .ref W0, .ref T0, .int tl, .int tw, .int tc], ac E A0 985 (mA h w wd s0 z st he ke tu ca tr co la)]) H locs := hw
        refine W.eq (g2 := F0 mm 42 ls [.int (nI (awI h w k 1 1))]) rfl ?_
        -- leaf 5
        exact k_iret C0 hr hlk hw () (rfl) (by exfalso; omega) (Nat.le_of_ble_eq_true rfl) (Nat.le_of_ble_eq_true rfl) dX7_neighbor_42
  · have c3 : j = 0 := (nI_eq (a := j) (b := 0) (by omega) (by omega)).mp c3
    refine lv_iconst (v := (-1)) hx hb dX7_neighbor_6 (by decide) ?_
    refine lv_goto (tgt := 20) hx hb dX7_neighbor_7 (by decide) ?_
    refine lv_iload_n hx hb dX7_neighbor_20 rfl (lv_at hl 2 rfl) ?_
    refine lv_iconst (v := 1) hx hb dX7_neighbor_21 (by decide) ?_
    refine lv_icmp_ne (tgt := 29) hx hb dX7_neighbor_22 (by decide) (fun c22 => ?_) (fun c22 => ?_)
    · have c22 : ¬ j = 1 := fun h99 => c22 ((nI_eq (a := j) (b := 1) (by omega) (by omega)).mpr h99)
      refine lv_iload_n hx hb dX7_neighbor_29 rfl (lv_at hl 2 rfl) ?_
      refine lv_iconst (v := 3) hx hb dX7_neighbor_30 (by decide) ?_
      refine lv_icmp_ne (tgt := 38) hx hb dX7_neighbor_31 (by decide) (fun c31 => ?_) (fun c31 => ?_)
      · have c31 : ¬ j = 3 := fun h99 => c31 ((nI_eq (a := j) (b := 3) (by omega) (by omega)).mpr h99)
        refine lv_iconst (v := 0) hx hb dX7_neighbor_38 (by decide) ?_
        refine k_V (As := [.int (nI k), .int (-1), .int 0]) (rest := []) (pre := []) (mid := [oc m0 7 [.ref A0, .ref V0, .ref Z0, .int sm, .int th, .int pl, .int hz, .ref D0, .ref W0, .ref T0, .int tl, .int tw, .int tc], ac E A0 985 (mA h w wd s0 z st he ke tu ca tr co la)]) C0 (c_X7_away l E m0 A0 V0 Z0 D0 W0 T0 sm th pl hz tl tw tc h w wd s0 z st he ke tu ca tr co la k (-1) 0 (by first | assumption | omega) (by first | assumption | omega) (by with_reducible first | exact rI_0 | exact rI_1 | exact rI_m1 | exact rI_p ht | exact rI_n ht) (by with_reducible first | exact rI_0 | exact rI_1 | exact rI_m1 | exact rI_p ht | exact rI_n ht)) (cwV 3 hts gX7_neighbor_X7_away rfl rfl rfl (by decide +kernel) ⟨Nat.le_of_ble_eq_true rfl, Nat.le_of_ble_eq_true rfl⟩) hw rfl (fun _ => [oc m0 7 [.ref A0, .ref V0, .ref Z0, .int sm, .int th, .int pl, .int hz, .ref D0, .ref W0, .ref T0, .int tl, .int tw, .int tc], ac E A0 985 (mA h w wd s0 z st he ke tu ca tr co la)]) (fun _ => rfl) 0 7 rfl rfl rfl rfl hl.1 rfl (Nat.le_of_ble_eq_true rfl) dX7_neighbor_39 ⟨Nat.le_of_ble_eq_true rfl, Nat.le_of_ble_eq_true rfl⟩ (fun r u H locs hq99 hw => ?_)
        subst hq99
        have hw : kW E AA sx (List.flatten [oc m0 7 [.ref A0, .ref V0, .ref Z0, .int sm, .int th, .int pl, .int hz, .ref D0, .ref W0, .ref T0, .int tl, .int tw, .int tc], ac E A0 985 (mA h w wd s0 z st he ke tu ca tr co la)]) H locs := hw
        refine W.eq (g2 := F0 mm 42 ls [.int (nI (awI h w k (-1) 0))]) rfl ?_
        -- leaf 6
        exact k_iret C0 hr hlk hw () (rfl) (by rw [show j = 0 by omega]; exact aw_0 hG hc) (Nat.le_of_ble_eq_true rfl) (Nat.le_of_ble_eq_true rfl) dX7_neighbor_42
      · have c31 : j = 3 := (nI_eq (a := j) (b := 3) (by omega) (by omega)).mp c31
        refine lv_iconst (v := (-1)) hx hb dX7_neighbor_34 (by decide) ?_
        refine lv_goto (tgt := 39) hx hb dX7_neighbor_35 (by decide) ?_
        refine k_V (As := [.int (nI k), .int (-1), .int (-1)]) (rest := []) (pre := []) (mid := [oc m0 7 [.ref A0, .ref V0, .ref Z0, .int sm, .int th, .int pl, .int hz, .ref D0, .ref W0, .ref T0, .int tl, .int tw, .int tc], ac E A0 985 (mA h w wd s0 z st he ke tu ca tr co la)]) C0 (c_X7_away l E m0 A0 V0 Z0 D0 W0 T0 sm th pl hz tl tw tc h w wd s0 z st he ke tu ca tr co la k (-1) (-1) (by first | assumption | omega) (by first | assumption | omega) (by with_reducible first | exact rI_0 | exact rI_1 | exact rI_m1 | exact rI_p ht | exact rI_n ht) (by with_reducible first | exact rI_0 | exact rI_1 | exact rI_m1 | exact rI_p ht | exact rI_n ht)) (cwV 3 hts gX7_neighbor_X7_away rfl rfl rfl (by decide +kernel) ⟨Nat.le_of_ble_eq_true rfl, Nat.le_of_ble_eq_true rfl⟩) hw rfl (fun _ => [oc m0 7 [.ref A0, .ref V0, .ref Z0, .int sm, .int th, .int pl, .int hz, .ref D0, .ref W0, .ref T0, .int tl, .int tw, .int tc], ac E A0 985 (mA h w wd s0 z st he ke tu ca tr co la)]) (fun _ => rfl) 0 7 rfl rfl rfl rfl hl.1 rfl (Nat.le_of_ble_eq_true rfl) dX7_neighbor_39 ⟨Nat.le_of_ble_eq_true rfl, Nat.le_of_ble_eq_true rfl⟩ (fun r u H locs hq99 hw => ?_)
        subst hq99
        have hw : kW E AA sx (List.flatten [oc m0 7 [.ref A0, .ref V0, .ref Z0, .int sm, .int th, .int pl, .int hz, .ref D0, .ref W0, .ref T0, .int tl, .int tw, .int tc], ac E A0 985 (mA h w wd s0 z st he ke tu ca tr co la)]) H locs := hw
        refine W.eq (g2 := F0 mm 42 ls [.int (nI (awI h w k (-1) (-1)))]) rfl ?_
        -- leaf 7
        exact k_iret C0 hr hlk hw () (rfl) (by exfalso; omega) (Nat.le_of_ble_eq_true rfl) (Nat.le_of_ble_eq_true rfl) dX7_neighbor_42
    · have c22 : j = 1 := (nI_eq (a := j) (b := 1) (by omega) (by omega)).mp c22
      refine lv_iconst (v := 1) hx hb dX7_neighbor_25 (by decide) ?_
      refine lv_goto (tgt := 39) hx hb dX7_neighbor_26 (by decide) ?_
      refine k_V (As := [.int (nI k), .int (-1), .int 1]) (rest := []) (pre := []) (mid := [oc m0 7 [.ref A0, .ref V0, .ref Z0, .int sm, .int th, .int pl, .int hz, .ref D0, .ref W0, .ref T0, .int tl, .int tw, .int tc], ac E A0 985 (mA h w wd s0 z st he ke tu ca tr co la)]) C0 (c_X7_away l E m0 A0 V0 Z0 D0 W0 T0 sm th pl hz tl tw tc h w wd s0 z st he ke tu ca tr co la k (-1) 1 (by first | assumption | omega) (by first | assumption | omega) (by with_reducible first | exact rI_0 | exact rI_1 | exact rI_m1 | exact rI_p ht | exact rI_n ht) (by with_reducible first | exact rI_0 | exact rI_1 | exact rI_m1 | exact rI_p ht | exact rI_n ht)) (cwV 3 hts gX7_neighbor_X7_away rfl rfl rfl (by decide +kernel) ⟨Nat.le_of_ble_eq_true rfl, Nat.le_of_ble_eq_true rfl⟩) hw rfl (fun _ => [oc m0 7 [.ref A0, .ref V0, .ref Z0, .int sm, .int th, .int pl, .int hz, .ref D0, .ref W0, .ref T0, .int tl, .int tw, .int tc], ac E A0 985 (mA h w wd s0 z st he ke tu ca tr co la)]) (fun _ => rfl) 0 7 rfl rfl rfl rfl hl.1 rfl (Nat.le_of_ble_eq_true rfl) dX7_neighbor_39 ⟨Nat.le_of_ble_eq_true rfl, Nat.le_of_ble_eq_true rfl⟩ (fun r u H locs hq99 hw => ?_)
      subst hq99
      have hw : kW E AA sx (List.flatten [oc m0 7 [.ref A0, .ref V0, .ref Z0, .int sm, .int th, .int pl, .int hz, .ref D0, .ref W0, .ref T0, .int tl, .int tw, .int tc], ac E A0 985 (mA h w wd s0 z st he ke tu ca tr co la)]) H locs := hw
      refine W.eq (g2 := F0 mm 42 ls [.int (nI (awI h w k (-1) 1))]) rfl ?_
      -- leaf 8
      exact k_iret C0 hr hlk hw () (rfl) (by exfalso; omega) (Nat.le_of_ble_eq_true rfl) (Nat.le_of_ble_eq_true rfl) dX7_neighbor_42

abbrev rmX7_downwind : Room := { frames := 1, cells := 0, slots := 0, locals := 27 }
set_option maxHeartbeats 4000000 in
set_option maxRecDepth 100000 in
theorem c_X7_downwind1 (l : Launch) (E : kE) (m0 : Nat) (A0 : Nat) (V0 : Nat) (Z0 : Nat) (D0 : Nat) (W0 : Nat) (T0 : Nat) (sm : Int32) (th : Int32) (pl : Int32) (hz : Int32) (tl : Int32) (tw : Int32) (tc : Int32) (h : Nat) (w : Nat) (d : Nat) (s0 : Int32) (z : Int32) (st : Nat → Int32) (he : Nat → Int32) (ke : Nat → Int32) (tu : Nat → Int32) (ca : Nat → Int32) (tr : Nat → Int32) (co : Nat → Int32) (la : Nat → Int32) (k : Nat) (hG : kG h w) (hc : k < h * w) (hd : d < 4) : kC E l yX7_downwind wsX7_downwind rmX7_downwind [.ref m0, .int (nI k), .int 1] (List.flatten [oc m0 7 [.ref A0, .ref V0, .ref Z0, .int sm, .int th, .int pl, .int hz, .ref D0, .ref W0, .ref T0, .int tl, .int tw, .int tc], ac E A0 985 (mA h w (nI d) s0 z st he ke tu ca tr co la)]) kI (fun (r : Int32) (_ : Unit) => r = nI (nbr h w k ((d + 1) % 4))) (fun _ => List.flatten [oc m0 7 [.ref A0, .ref V0, .ref Z0, .int sm, .int th, .int pl, .int hz, .ref D0, .ref W0, .ref T0, .int tl, .int tw, .int tc], ac E A0 985 (mA h w (nI d) s0 z st he ke tu ca tr co la)]) 0 0 := by
  refine k_body (cc := cX7_downwind) (maxL := 4) (ret := (some .int)) (by decide) rfl (Nat.le_of_ble_eq_true rfl) ?_
  intro pp ee sx mm aa bb me cd H locs AA ls C0 hr hlk hnm hl hw
  obtain ⟨hx, hb, hml, hown, hts⟩ := id C0
  have hl : lv_has ls 4 [(0, .ref m0), (1, .int (nI k)), (2, .int 1)] := hl
  have hw : kW E AA sx (List.flatten [oc m0 7 [.ref A0, .ref V0, .ref Z0, .int sm, .int th, .int pl, .int hz, .ref D0, .ref W0, .ref T0, .int tl, .int tw, .int tc], ac E A0 985 (mA h w (nI d) s0 z st he ke tu ca tr co la)]) H locs := hw
  have hn9 := kG_n hG
  have hG9 := id hG
  obtain ⟨hG1, hG2, hG3, hG4⟩ := hG9
  have hinX7 : ∀ w ∈ u_ws RX7 TX7 13, w ∈ wsX7_downwind := by decide +kernel
  refine lv_aload_n hx hb dX7_downwind_0 rfl (lv_at hl 0 rfl) ?_
  refine k_get (pre := []) C0 hw hinX7 rfl 0 (by decide) (hts (.fieldLink RX7 7 "SlabDunesModel" "all" "[I") (by decide +kernel)) rfl rfl dX7_downwind_1 ?_
  refine lv_bipush (v := 6) hx hb dX7_downwind_4 (by decide) ?_
  refine k_iald (pre := [oc m0 7 [.ref A0, .ref V0, .ref Z0, .int sm, .int th, .int pl, .int hz, .ref D0, .ref W0, .ref T0, .int tl, .int tw, .int tc]]) (l1 := []) C0 hw (i := 6) (kinN (n := 6) (by decide) (by decide)) dX7_downwind_6 ?_
  refine W.eq (g2 := F0 mm 7 ls [.int (nI d)]) (congrArg (fun z9 => F0 mm 7 ls [.int z9]) (show ((mA h w (nI d) s0 z st he ke tu ca tr co la) (Int32.toNatClampNeg 6) : Int32) = nI d from rfl)) ?_
  refine lv_istore_n (lv' := [(3, .int (nI d)), (0, .ref m0), (1, .int (nI k)), (2, .int 1)]) hx hb dX7_downwind_7 rfl hl (by decide) rfl (fun ls hl => ?_)
  refine lv_aload_n hx hb dX7_downwind_8 rfl (lv_at hl 1 rfl) ?_
  refine lv_iload_n hx hb dX7_downwind_9 rfl (lv_at hl 2 rfl) ?_
  refine lv_iload_n hx hb dX7_downwind_10 rfl (lv_at hl 0 rfl) ?_
  refine lv_iconst (v := 1) hx hb dX7_downwind_11 (by decide) ?_
  refine lv_icmp_ne (tgt := 19) hx hb dX7_downwind_12 (by decide) (fun c12 => ?_) (fun c12 => ?_)
  · have c12 : ¬ d = 1 := fun h99 => c12 ((nI_eq (a := d) (b := 1) (by omega) (by omega)).mpr h99)
    refine lv_iload_n hx hb dX7_downwind_19 rfl (lv_at hl 0 rfl) ?_
    refine lv_iconst (v := 3) hx hb dX7_downwind_20 (by decide) ?_
    refine lv_icmp_ne (tgt := 29) hx hb dX7_downwind_21 (by decide) (fun c21 => ?_) (fun c21 => ?_)
    · have c21 : ¬ d = 3 := fun h99 => c21 ((nI_eq (a := d) (b := 3) (by omega) (by omega)).mpr h99)
      refine lv_iconst (v := 0) hx hb dX7_downwind_29 (by decide) ?_
      refine lv_iload_n hx hb dX7_downwind_30 rfl (lv_at hl 0 rfl) ?_
      refine lv_if_ne (tgt := 38) hx hb dX7_downwind_31 (by decide) (fun c31 => ?_) (fun c31 => ?_)
      · have c31 : ¬ d = 0 := fun h99 => c31 ((nI_eq (a := d) (b := 0) (by omega) (by omega)).mpr h99)
        refine lv_iload_n hx hb dX7_downwind_38 rfl (lv_at hl 0 rfl) ?_
        refine lv_iconst (v := 2) hx hb dX7_downwind_39 (by decide) ?_
        refine lv_icmp_ne (tgt := 48) hx hb dX7_downwind_40 (by decide) (fun c40 => ?_) (fun c40 => ?_)
        · have c40 : ¬ d = 2 := fun h99 => c40 ((nI_eq (a := d) (b := 2) (by omega) (by omega)).mpr h99)
          refine lv_iconst (v := 0) hx hb dX7_downwind_48 (by decide) ?_
          refine k_V (As := [.int (nI k), .int 0, .int 0]) (rest := []) (pre := []) (mid := [oc m0 7 [.ref A0, .ref V0, .ref Z0, .int sm, .int th, .int pl, .int hz, .ref D0, .ref W0, .ref T0, .int tl, .int tw, .int tc], ac E A0 985 (mA h w (nI d) s0 z st he ke tu ca tr co la)]) C0 (c_X7_away l E m0 A0 V0 Z0 D0 W0 T0 sm th pl hz tl tw tc h w (nI d) s0 z st he ke tu ca tr co la k 0 0 (by first | assumption | omega) (by first | assumption | omega) (by with_reducible first | exact rI_0 | exact rI_1 | exact rI_m1 | exact rI_p ht | exact rI_n ht) (by with_reducible first | exact rI_0 | exact rI_1 | exact rI_m1 | exact rI_p ht | exact rI_n ht)) (cwV 3 hts gX7_downwind_X7_away rfl rfl rfl (by decide +kernel) ⟨Nat.le_of_ble_eq_true rfl, Nat.le_of_ble_eq_true rfl⟩) hw rfl (fun _ => [oc m0 7 [.ref A0, .ref V0, .ref Z0, .int sm, .int th, .int pl, .int hz, .ref D0, .ref W0, .ref T0, .int tl, .int tw, .int tc], ac E A0 985 (mA h w (nI d) s0 z st he ke tu ca tr co la)]) (fun _ => rfl) 0 7 rfl rfl rfl rfl hl.1 rfl (Nat.le_of_ble_eq_true rfl) dX7_downwind_49 ⟨Nat.le_of_ble_eq_true rfl, Nat.le_of_ble_eq_true rfl⟩ (fun r u H locs hq99 hw => ?_)
          subst hq99
          have hw : kW E AA sx (List.flatten [oc m0 7 [.ref A0, .ref V0, .ref Z0, .int sm, .int th, .int pl, .int hz, .ref D0, .ref W0, .ref T0, .int tl, .int tw, .int tc], ac E A0 985 (mA h w (nI d) s0 z st he ke tu ca tr co la)]) H locs := hw
          refine W.eq (g2 := F0 mm 52 ls [.int (nI (awI h w k 0 0))]) rfl ?_
          -- leaf 0
          exact k_iret C0 hr hlk hw () (rfl) (by exfalso; omega) (Nat.le_of_ble_eq_true rfl) (Nat.le_of_ble_eq_true rfl) dX7_downwind_52
        · have c40 : d = 2 := (nI_eq (a := d) (b := 2) (by omega) (by omega)).mp c40
          refine lv_iload_n hx hb dX7_downwind_43 rfl (lv_at hl 3 rfl) ?_
          refine lv_ineg hx hb dX7_downwind_44 ?_
          refine lv_goto (tgt := 49) hx hb dX7_downwind_45 (by decide) ?_
          refine k_V (As := [.int (nI k), .int 0, .int (-1)]) (rest := []) (pre := []) (mid := [oc m0 7 [.ref A0, .ref V0, .ref Z0, .int sm, .int th, .int pl, .int hz, .ref D0, .ref W0, .ref T0, .int tl, .int tw, .int tc], ac E A0 985 (mA h w (nI d) s0 z st he ke tu ca tr co la)]) C0 (c_X7_away l E m0 A0 V0 Z0 D0 W0 T0 sm th pl hz tl tw tc h w (nI d) s0 z st he ke tu ca tr co la k 0 (-1) (by first | assumption | omega) (by first | assumption | omega) (by with_reducible first | exact rI_0 | exact rI_1 | exact rI_m1 | exact rI_p ht | exact rI_n ht) (by with_reducible first | exact rI_0 | exact rI_1 | exact rI_m1 | exact rI_p ht | exact rI_n ht)) (cwV 3 hts gX7_downwind_X7_away rfl rfl rfl (by decide +kernel) ⟨Nat.le_of_ble_eq_true rfl, Nat.le_of_ble_eq_true rfl⟩) hw rfl (fun _ => [oc m0 7 [.ref A0, .ref V0, .ref Z0, .int sm, .int th, .int pl, .int hz, .ref D0, .ref W0, .ref T0, .int tl, .int tw, .int tc], ac E A0 985 (mA h w (nI d) s0 z st he ke tu ca tr co la)]) (fun _ => rfl) 0 7 rfl rfl rfl rfl hl.1 rfl (Nat.le_of_ble_eq_true rfl) dX7_downwind_49 ⟨Nat.le_of_ble_eq_true rfl, Nat.le_of_ble_eq_true rfl⟩ (fun r u H locs hq99 hw => ?_)
          subst hq99
          have hw : kW E AA sx (List.flatten [oc m0 7 [.ref A0, .ref V0, .ref Z0, .int sm, .int th, .int pl, .int hz, .ref D0, .ref W0, .ref T0, .int tl, .int tw, .int tc], ac E A0 985 (mA h w (nI d) s0 z st he ke tu ca tr co la)]) H locs := hw
          refine W.eq (g2 := F0 mm 52 ls [.int (nI (awI h w k 0 (-1)))]) rfl ?_
          -- leaf 1
          exact k_iret C0 hr hlk hw () (rfl) (by rw [show d = 2 by omega]; exact aw_3 hG hc) (Nat.le_of_ble_eq_true rfl) (Nat.le_of_ble_eq_true rfl) dX7_downwind_52
      · have c31 : d = 0 := (nI_eq (a := d) (b := 0) (by omega) (by omega)).mp c31
        refine lv_iload_n hx hb dX7_downwind_34 rfl (lv_at hl 3 rfl) ?_
        refine lv_goto (tgt := 49) hx hb dX7_downwind_35 (by decide) ?_
        refine k_V (As := [.int (nI k), .int 0, .int 1]) (rest := []) (pre := []) (mid := [oc m0 7 [.ref A0, .ref V0, .ref Z0, .int sm, .int th, .int pl, .int hz, .ref D0, .ref W0, .ref T0, .int tl, .int tw, .int tc], ac E A0 985 (mA h w (nI d) s0 z st he ke tu ca tr co la)]) C0 (c_X7_away l E m0 A0 V0 Z0 D0 W0 T0 sm th pl hz tl tw tc h w (nI d) s0 z st he ke tu ca tr co la k 0 1 (by first | assumption | omega) (by first | assumption | omega) (by with_reducible first | exact rI_0 | exact rI_1 | exact rI_m1 | exact rI_p ht | exact rI_n ht) (by with_reducible first | exact rI_0 | exact rI_1 | exact rI_m1 | exact rI_p ht | exact rI_n ht)) (cwV 3 hts gX7_downwind_X7_away rfl rfl rfl (by decide +kernel) ⟨Nat.le_of_ble_eq_true rfl, Nat.le_of_ble_eq_true rfl⟩) hw rfl (fun _ => [oc m0 7 [.ref A0, .ref V0, .ref Z0, .int sm, .int th, .int pl, .int hz, .ref D0, .ref W0, .ref T0, .int tl, .int tw, .int tc], ac E A0 985 (mA h w (nI d) s0 z st he ke tu ca tr co la)]) (fun _ => rfl) 0 7 rfl rfl rfl rfl hl.1 rfl (Nat.le_of_ble_eq_true rfl) dX7_downwind_49 ⟨Nat.le_of_ble_eq_true rfl, Nat.le_of_ble_eq_true rfl⟩ (fun r u H locs hq99 hw => ?_)
        subst hq99
        have hw : kW E AA sx (List.flatten [oc m0 7 [.ref A0, .ref V0, .ref Z0, .int sm, .int th, .int pl, .int hz, .ref D0, .ref W0, .ref T0, .int tl, .int tw, .int tc], ac E A0 985 (mA h w (nI d) s0 z st he ke tu ca tr co la)]) H locs := hw
        refine W.eq (g2 := F0 mm 52 ls [.int (nI (awI h w k 0 1))]) rfl ?_
        -- leaf 2
        exact k_iret C0 hr hlk hw () (rfl) (by rw [show d = 0 by omega]; exact aw_1 hG hc) (Nat.le_of_ble_eq_true rfl) (Nat.le_of_ble_eq_true rfl) dX7_downwind_52
    · have c21 : d = 3 := (nI_eq (a := d) (b := 3) (by omega) (by omega)).mp c21
      refine lv_iload_n hx hb dX7_downwind_24 rfl (lv_at hl 3 rfl) ?_
      refine lv_ineg hx hb dX7_downwind_25 ?_
      refine lv_goto (tgt := 30) hx hb dX7_downwind_26 (by decide) ?_
      refine lv_iload_n hx hb dX7_downwind_30 rfl (lv_at hl 0 rfl) ?_
      refine lv_if_ne (tgt := 38) hx hb dX7_downwind_31 (by decide) (fun c31 => ?_) (fun c31 => ?_)
      · have c31 : ¬ d = 0 := fun h99 => c31 ((nI_eq (a := d) (b := 0) (by omega) (by omega)).mpr h99)
        refine lv_iload_n hx hb dX7_downwind_38 rfl (lv_at hl 0 rfl) ?_
        refine lv_iconst (v := 2) hx hb dX7_downwind_39 (by decide) ?_
        refine lv_icmp_ne (tgt := 48) hx hb dX7_downwind_40 (by decide) (fun c40 => ?_) (fun c40 => ?_)
        · have c40 : ¬ d = 2 := fun h99 => c40 ((nI_eq (a := d) (b := 2) (by omega) (by omega)).mpr h99)
          refine lv_iconst (v := 0) hx hb dX7_downwind_48 (by decide) ?_
          refine k_V (As := [.int (nI k), .int (-1), .int 0]) (rest := []) (pre := []) (mid := [oc m0 7 [.ref A0, .ref V0, .ref Z0, .int sm, .int th, .int pl, .int hz, .ref D0, .ref W0, .ref T0, .int tl, .int tw, .int tc], ac E A0 985 (mA h w (nI d) s0 z st he ke tu ca tr co la)]) C0 (c_X7_away l E m0 A0 V0 Z0 D0 W0 T0 sm th pl hz tl tw tc h w (nI d) s0 z st he ke tu ca tr co la k (-1) 0 (by first | assumption | omega) (by first | assumption | omega) (by with_reducible first | exact rI_0 | exact rI_1 | exact rI_m1 | exact rI_p ht | exact rI_n ht) (by with_reducible first | exact rI_0 | exact rI_1 | exact rI_m1 | exact rI_p ht | exact rI_n ht)) (cwV 3 hts gX7_downwind_X7_away rfl rfl rfl (by decide +kernel) ⟨Nat.le_of_ble_eq_true rfl, Nat.le_of_ble_eq_true rfl⟩) hw rfl (fun _ => [oc m0 7 [.ref A0, .ref V0, .ref Z0, .int sm, .int th, .int pl, .int hz, .ref D0, .ref W0, .ref T0, .int tl, .int tw, .int tc], ac E A0 985 (mA h w (nI d) s0 z st he ke tu ca tr co la)]) (fun _ => rfl) 0 7 rfl rfl rfl rfl hl.1 rfl (Nat.le_of_ble_eq_true rfl) dX7_downwind_49 ⟨Nat.le_of_ble_eq_true rfl, Nat.le_of_ble_eq_true rfl⟩ (fun r u H locs hq99 hw => ?_)
          subst hq99
          have hw : kW E AA sx (List.flatten [oc m0 7 [.ref A0, .ref V0, .ref Z0, .int sm, .int th, .int pl, .int hz, .ref D0, .ref W0, .ref T0, .int tl, .int tw, .int tc], ac E A0 985 (mA h w (nI d) s0 z st he ke tu ca tr co la)]) H locs := hw
          refine W.eq (g2 := F0 mm 52 ls [.int (nI (awI h w k (-1) 0))]) rfl ?_
          -- leaf 3
          exact k_iret C0 hr hlk hw () (rfl) (by rw [show d = 3 by omega]; exact aw_0 hG hc) (Nat.le_of_ble_eq_true rfl) (Nat.le_of_ble_eq_true rfl) dX7_downwind_52
        · have c40 : d = 2 := (nI_eq (a := d) (b := 2) (by omega) (by omega)).mp c40
          refine lv_iload_n hx hb dX7_downwind_43 rfl (lv_at hl 3 rfl) ?_
          refine lv_ineg hx hb dX7_downwind_44 ?_
          refine lv_goto (tgt := 49) hx hb dX7_downwind_45 (by decide) ?_
          refine k_V (As := [.int (nI k), .int (-1), .int (-1)]) (rest := []) (pre := []) (mid := [oc m0 7 [.ref A0, .ref V0, .ref Z0, .int sm, .int th, .int pl, .int hz, .ref D0, .ref W0, .ref T0, .int tl, .int tw, .int tc], ac E A0 985 (mA h w (nI d) s0 z st he ke tu ca tr co la)]) C0 (c_X7_away l E m0 A0 V0 Z0 D0 W0 T0 sm th pl hz tl tw tc h w (nI d) s0 z st he ke tu ca tr co la k (-1) (-1) (by first | assumption | omega) (by first | assumption | omega) (by with_reducible first | exact rI_0 | exact rI_1 | exact rI_m1 | exact rI_p ht | exact rI_n ht) (by with_reducible first | exact rI_0 | exact rI_1 | exact rI_m1 | exact rI_p ht | exact rI_n ht)) (cwV 3 hts gX7_downwind_X7_away rfl rfl rfl (by decide +kernel) ⟨Nat.le_of_ble_eq_true rfl, Nat.le_of_ble_eq_true rfl⟩) hw rfl (fun _ => [oc m0 7 [.ref A0, .ref V0, .ref Z0, .int sm, .int th, .int pl, .int hz, .ref D0, .ref W0, .ref T0, .int tl, .int tw, .int tc], ac E A0 985 (mA h w (nI d) s0 z st he ke tu ca tr co la)]) (fun _ => rfl) 0 7 rfl rfl rfl rfl hl.1 rfl (Nat.le_of_ble_eq_true rfl) dX7_downwind_49 ⟨Nat.le_of_ble_eq_true rfl, Nat.le_of_ble_eq_true rfl⟩ (fun r u H locs hq99 hw => ?_)
          subst hq99
          have hw : kW E AA sx (List.flatten [oc m0 7 [.ref A0, .ref V0, .ref Z0, .int sm, .int th, .int pl, .int hz, .ref D0, .ref W0, .ref T0, .int tl, .int tw, .int tc], ac E A0 985 (mA h w (nI d) s0 z st he ke tu ca tr co la)]) H locs := hw
          refine W.eq (g2 := F0 mm 52 ls [.int (nI (awI h w k (-1) (-1)))]) rfl ?_
          -- leaf 4
          exact k_iret C0 hr hlk hw () (rfl) (by exfalso; omega) (Nat.le_of_ble_eq_true rfl) (Nat.le_of_ble_eq_true rfl) dX7_downwind_52
      · have c31 : d = 0 := (nI_eq (a := d) (b := 0) (by omega) (by omega)).mp c31
        refine lv_iload_n hx hb dX7_downwind_34 rfl (lv_at hl 3 rfl) ?_
        refine lv_goto (tgt := 49) hx hb dX7_downwind_35 (by decide) ?_
        refine k_V (As := [.int (nI k), .int (-1), .int 1]) (rest := []) (pre := []) (mid := [oc m0 7 [.ref A0, .ref V0, .ref Z0, .int sm, .int th, .int pl, .int hz, .ref D0, .ref W0, .ref T0, .int tl, .int tw, .int tc], ac E A0 985 (mA h w (nI d) s0 z st he ke tu ca tr co la)]) C0 (c_X7_away l E m0 A0 V0 Z0 D0 W0 T0 sm th pl hz tl tw tc h w (nI d) s0 z st he ke tu ca tr co la k (-1) 1 (by first | assumption | omega) (by first | assumption | omega) (by with_reducible first | exact rI_0 | exact rI_1 | exact rI_m1 | exact rI_p ht | exact rI_n ht) (by with_reducible first | exact rI_0 | exact rI_1 | exact rI_m1 | exact rI_p ht | exact rI_n ht)) (cwV 3 hts gX7_downwind_X7_away rfl rfl rfl (by decide +kernel) ⟨Nat.le_of_ble_eq_true rfl, Nat.le_of_ble_eq_true rfl⟩) hw rfl (fun _ => [oc m0 7 [.ref A0, .ref V0, .ref Z0, .int sm, .int th, .int pl, .int hz, .ref D0, .ref W0, .ref T0, .int tl, .int tw, .int tc], ac E A0 985 (mA h w (nI d) s0 z st he ke tu ca tr co la)]) (fun _ => rfl) 0 7 rfl rfl rfl rfl hl.1 rfl (Nat.le_of_ble_eq_true rfl) dX7_downwind_49 ⟨Nat.le_of_ble_eq_true rfl, Nat.le_of_ble_eq_true rfl⟩ (fun r u H locs hq99 hw => ?_)
        subst hq99
        have hw : kW E AA sx (List.flatten [oc m0 7 [.ref A0, .ref V0, .ref Z0, .int sm, .int th, .int pl, .int hz, .ref D0, .ref W0, .ref T0, .int tl, .int tw, .int tc], ac E A0 985 (mA h w (nI d) s0 z st he ke tu ca tr co la)]) H locs := hw
        refine W.eq (g2 := F0 mm 52 ls [.int (nI (awI h w k (-1) 1))]) rfl ?_
        -- leaf 5
        exact k_iret C0 hr hlk hw () (rfl) (by exfalso; omega) (Nat.le_of_ble_eq_true rfl) (Nat.le_of_ble_eq_true rfl) dX7_downwind_52
  · have c12 : d = 1 := (nI_eq (a := d) (b := 1) (by omega) (by omega)).mp c12
    refine lv_iload_n hx hb dX7_downwind_15 rfl (lv_at hl 3 rfl) ?_
    refine lv_goto (tgt := 30) hx hb dX7_downwind_16 (by decide) ?_
    refine lv_iload_n hx hb dX7_downwind_30 rfl (lv_at hl 0 rfl) ?_
    refine lv_if_ne (tgt := 38) hx hb dX7_downwind_31 (by decide) (fun c31 => ?_) (fun c31 => ?_)
    · have c31 : ¬ d = 0 := fun h99 => c31 ((nI_eq (a := d) (b := 0) (by omega) (by omega)).mpr h99)
      refine lv_iload_n hx hb dX7_downwind_38 rfl (lv_at hl 0 rfl) ?_
      refine lv_iconst (v := 2) hx hb dX7_downwind_39 (by decide) ?_
      refine lv_icmp_ne (tgt := 48) hx hb dX7_downwind_40 (by decide) (fun c40 => ?_) (fun c40 => ?_)
      · have c40 : ¬ d = 2 := fun h99 => c40 ((nI_eq (a := d) (b := 2) (by omega) (by omega)).mpr h99)
        refine lv_iconst (v := 0) hx hb dX7_downwind_48 (by decide) ?_
        refine k_V (As := [.int (nI k), .int 1, .int 0]) (rest := []) (pre := []) (mid := [oc m0 7 [.ref A0, .ref V0, .ref Z0, .int sm, .int th, .int pl, .int hz, .ref D0, .ref W0, .ref T0, .int tl, .int tw, .int tc], ac E A0 985 (mA h w (nI d) s0 z st he ke tu ca tr co la)]) C0 (c_X7_away l E m0 A0 V0 Z0 D0 W0 T0 sm th pl hz tl tw tc h w (nI d) s0 z st he ke tu ca tr co la k 1 0 (by first | assumption | omega) (by first | assumption | omega) (by with_reducible first | exact rI_0 | exact rI_1 | exact rI_m1 | exact rI_p ht | exact rI_n ht) (by with_reducible first | exact rI_0 | exact rI_1 | exact rI_m1 | exact rI_p ht | exact rI_n ht)) (cwV 3 hts gX7_downwind_X7_away rfl rfl rfl (by decide +kernel) ⟨Nat.le_of_ble_eq_true rfl, Nat.le_of_ble_eq_true rfl⟩) hw rfl (fun _ => [oc m0 7 [.ref A0, .ref V0, .ref Z0, .int sm, .int th, .int pl, .int hz, .ref D0, .ref W0, .ref T0, .int tl, .int tw, .int tc], ac E A0 985 (mA h w (nI d) s0 z st he ke tu ca tr co la)]) (fun _ => rfl) 0 7 rfl rfl rfl rfl hl.1 rfl (Nat.le_of_ble_eq_true rfl) dX7_downwind_49 ⟨Nat.le_of_ble_eq_true rfl, Nat.le_of_ble_eq_true rfl⟩ (fun r u H locs hq99 hw => ?_)
        subst hq99
        have hw : kW E AA sx (List.flatten [oc m0 7 [.ref A0, .ref V0, .ref Z0, .int sm, .int th, .int pl, .int hz, .ref D0, .ref W0, .ref T0, .int tl, .int tw, .int tc], ac E A0 985 (mA h w (nI d) s0 z st he ke tu ca tr co la)]) H locs := hw
        refine W.eq (g2 := F0 mm 52 ls [.int (nI (awI h w k 1 0))]) rfl ?_
        -- leaf 6
        exact k_iret C0 hr hlk hw () (rfl) (by rw [show d = 1 by omega]; exact aw_2 hG hc) (Nat.le_of_ble_eq_true rfl) (Nat.le_of_ble_eq_true rfl) dX7_downwind_52
      · have c40 : d = 2 := (nI_eq (a := d) (b := 2) (by omega) (by omega)).mp c40
        refine lv_iload_n hx hb dX7_downwind_43 rfl (lv_at hl 3 rfl) ?_
        refine lv_ineg hx hb dX7_downwind_44 ?_
        refine lv_goto (tgt := 49) hx hb dX7_downwind_45 (by decide) ?_
        refine k_V (As := [.int (nI k), .int 1, .int (-1)]) (rest := []) (pre := []) (mid := [oc m0 7 [.ref A0, .ref V0, .ref Z0, .int sm, .int th, .int pl, .int hz, .ref D0, .ref W0, .ref T0, .int tl, .int tw, .int tc], ac E A0 985 (mA h w (nI d) s0 z st he ke tu ca tr co la)]) C0 (c_X7_away l E m0 A0 V0 Z0 D0 W0 T0 sm th pl hz tl tw tc h w (nI d) s0 z st he ke tu ca tr co la k 1 (-1) (by first | assumption | omega) (by first | assumption | omega) (by with_reducible first | exact rI_0 | exact rI_1 | exact rI_m1 | exact rI_p ht | exact rI_n ht) (by with_reducible first | exact rI_0 | exact rI_1 | exact rI_m1 | exact rI_p ht | exact rI_n ht)) (cwV 3 hts gX7_downwind_X7_away rfl rfl rfl (by decide +kernel) ⟨Nat.le_of_ble_eq_true rfl, Nat.le_of_ble_eq_true rfl⟩) hw rfl (fun _ => [oc m0 7 [.ref A0, .ref V0, .ref Z0, .int sm, .int th, .int pl, .int hz, .ref D0, .ref W0, .ref T0, .int tl, .int tw, .int tc], ac E A0 985 (mA h w (nI d) s0 z st he ke tu ca tr co la)]) (fun _ => rfl) 0 7 rfl rfl rfl rfl hl.1 rfl (Nat.le_of_ble_eq_true rfl) dX7_downwind_49 ⟨Nat.le_of_ble_eq_true rfl, Nat.le_of_ble_eq_true rfl⟩ (fun r u H locs hq99 hw => ?_)
        subst hq99
        have hw : kW E AA sx (List.flatten [oc m0 7 [.ref A0, .ref V0, .ref Z0, .int sm, .int th, .int pl, .int hz, .ref D0, .ref W0, .ref T0, .int tl, .int tw, .int tc], ac E A0 985 (mA h w (nI d) s0 z st he ke tu ca tr co la)]) H locs := hw
        refine W.eq (g2 := F0 mm 52 ls [.int (nI (awI h w k 1 (-1)))]) rfl ?_
        -- leaf 7
        exact k_iret C0 hr hlk hw () (rfl) (by exfalso; omega) (Nat.le_of_ble_eq_true rfl) (Nat.le_of_ble_eq_true rfl) dX7_downwind_52
    · have c31 : d = 0 := (nI_eq (a := d) (b := 0) (by omega) (by omega)).mp c31
      refine lv_iload_n hx hb dX7_downwind_34 rfl (lv_at hl 3 rfl) ?_
      refine lv_goto (tgt := 49) hx hb dX7_downwind_35 (by decide) ?_
      refine k_V (As := [.int (nI k), .int 1, .int 1]) (rest := []) (pre := []) (mid := [oc m0 7 [.ref A0, .ref V0, .ref Z0, .int sm, .int th, .int pl, .int hz, .ref D0, .ref W0, .ref T0, .int tl, .int tw, .int tc], ac E A0 985 (mA h w (nI d) s0 z st he ke tu ca tr co la)]) C0 (c_X7_away l E m0 A0 V0 Z0 D0 W0 T0 sm th pl hz tl tw tc h w (nI d) s0 z st he ke tu ca tr co la k 1 1 (by first | assumption | omega) (by first | assumption | omega) (by with_reducible first | exact rI_0 | exact rI_1 | exact rI_m1 | exact rI_p ht | exact rI_n ht) (by with_reducible first | exact rI_0 | exact rI_1 | exact rI_m1 | exact rI_p ht | exact rI_n ht)) (cwV 3 hts gX7_downwind_X7_away rfl rfl rfl (by decide +kernel) ⟨Nat.le_of_ble_eq_true rfl, Nat.le_of_ble_eq_true rfl⟩) hw rfl (fun _ => [oc m0 7 [.ref A0, .ref V0, .ref Z0, .int sm, .int th, .int pl, .int hz, .ref D0, .ref W0, .ref T0, .int tl, .int tw, .int tc], ac E A0 985 (mA h w (nI d) s0 z st he ke tu ca tr co la)]) (fun _ => rfl) 0 7 rfl rfl rfl rfl hl.1 rfl (Nat.le_of_ble_eq_true rfl) dX7_downwind_49 ⟨Nat.le_of_ble_eq_true rfl, Nat.le_of_ble_eq_true rfl⟩ (fun r u H locs hq99 hw => ?_)
      subst hq99
      have hw : kW E AA sx (List.flatten [oc m0 7 [.ref A0, .ref V0, .ref Z0, .int sm, .int th, .int pl, .int hz, .ref D0, .ref W0, .ref T0, .int tl, .int tw, .int tc], ac E A0 985 (mA h w (nI d) s0 z st he ke tu ca tr co la)]) H locs := hw
      refine W.eq (g2 := F0 mm 52 ls [.int (nI (awI h w k 1 1))]) rfl ?_
      -- leaf 8
      exact k_iret C0 hr hlk hw () (rfl) (by exfalso; omega) (Nat.le_of_ble_eq_true rfl) (Nat.le_of_ble_eq_true rfl) dX7_downwind_52

set_option maxHeartbeats 4000000 in
set_option maxRecDepth 100000 in
theorem c_X7_downwindM (l : Launch) (E : kE) (m0 : Nat) (A0 : Nat) (V0 : Nat) (Z0 : Nat) (D0 : Nat) (W0 : Nat) (T0 : Nat) (sm : Int32) (th : Int32) (pl : Int32) (hz : Int32) (tl : Int32) (tw : Int32) (tc : Int32) (h : Nat) (w : Nat) (d : Nat) (s0 : Int32) (z : Int32) (st : Nat → Int32) (he : Nat → Int32) (ke : Nat → Int32) (tu : Nat → Int32) (ca : Nat → Int32) (tr : Nat → Int32) (co : Nat → Int32) (la : Nat → Int32) (k : Nat) (t : Nat) (hG : kG h w) (hc : k < h * w) (hd : d < 4) (ht : t ≤ 16) : kC E l yX7_downwind wsX7_downwind rmX7_downwind [.ref m0, .int (nI k), .int (ngN t)] (List.flatten [oc m0 7 [.ref A0, .ref V0, .ref Z0, .int sm, .int th, .int pl, .int hz, .ref D0, .ref W0, .ref T0, .int tl, .int tw, .int tc], ac E A0 985 (mA h w (nI d) s0 z st he ke tu ca tr co la)]) kI (fun (r : Int32) (_ : Unit) => r = nI (upw h w ((d + 3) % 4) k t)) (fun _ => List.flatten [oc m0 7 [.ref A0, .ref V0, .ref Z0, .int sm, .int th, .int pl, .int hz, .ref D0, .ref W0, .ref T0, .int tl, .int tw, .int tc], ac E A0 985 (mA h w (nI d) s0 z st he ke tu ca tr co la)]) 0 0 := by
  refine k_body (cc := cX7_downwind) (maxL := 4) (ret := (some .int)) (by decide) rfl (Nat.le_of_ble_eq_true rfl) ?_
  intro pp ee sx mm aa bb me cd H locs AA ls C0 hr hlk hnm hl hw
  obtain ⟨hx, hb, hml, hown, hts⟩ := id C0
  have hl : lv_has ls 4 [(0, .ref m0), (1, .int (nI k)), (2, .int (ngN t))] := hl
  have hw : kW E AA sx (List.flatten [oc m0 7 [.ref A0, .ref V0, .ref Z0, .int sm, .int th, .int pl, .int hz, .ref D0, .ref W0, .ref T0, .int tl, .int tw, .int tc], ac E A0 985 (mA h w (nI d) s0 z st he ke tu ca tr co la)]) H locs := hw
  have hn9 := kG_n hG
  have hG9 := id hG
  obtain ⟨hG1, hG2, hG3, hG4⟩ := hG9
  have hinX7 : ∀ w ∈ u_ws RX7 TX7 13, w ∈ wsX7_downwind := by decide +kernel
  refine lv_aload_n hx hb dX7_downwind_0 rfl (lv_at hl 0 rfl) ?_
  refine k_get (pre := []) C0 hw hinX7 rfl 0 (by decide) (hts (.fieldLink RX7 7 "SlabDunesModel" "all" "[I") (by decide +kernel)) rfl rfl dX7_downwind_1 ?_
  refine lv_bipush (v := 6) hx hb dX7_downwind_4 (by decide) ?_
  refine k_iald (pre := [oc m0 7 [.ref A0, .ref V0, .ref Z0, .int sm, .int th, .int pl, .int hz, .ref D0, .ref W0, .ref T0, .int tl, .int tw, .int tc]]) (l1 := []) C0 hw (i := 6) (kinN (n := 6) (by decide) (by decide)) dX7_downwind_6 ?_
  refine W.eq (g2 := F0 mm 7 ls [.int (nI d)]) (congrArg (fun z9 => F0 mm 7 ls [.int z9]) (show ((mA h w (nI d) s0 z st he ke tu ca tr co la) (Int32.toNatClampNeg 6) : Int32) = nI d from rfl)) ?_
  refine lv_istore_n (lv' := [(3, .int (nI d)), (0, .ref m0), (1, .int (nI k)), (2, .int (ngN t))]) hx hb dX7_downwind_7 rfl hl (by decide) rfl (fun ls hl => ?_)
  refine lv_aload_n hx hb dX7_downwind_8 rfl (lv_at hl 1 rfl) ?_
  refine lv_iload_n hx hb dX7_downwind_9 rfl (lv_at hl 2 rfl) ?_
  refine lv_iload_n hx hb dX7_downwind_10 rfl (lv_at hl 0 rfl) ?_
  refine lv_iconst (v := 1) hx hb dX7_downwind_11 (by decide) ?_
  refine lv_icmp_ne (tgt := 19) hx hb dX7_downwind_12 (by decide) (fun c12 => ?_) (fun c12 => ?_)
  · have c12 : ¬ d = 1 := fun h99 => c12 ((nI_eq (a := d) (b := 1) (by omega) (by omega)).mpr h99)
    refine lv_iload_n hx hb dX7_downwind_19 rfl (lv_at hl 0 rfl) ?_
    refine lv_iconst (v := 3) hx hb dX7_downwind_20 (by decide) ?_
    refine lv_icmp_ne (tgt := 29) hx hb dX7_downwind_21 (by decide) (fun c21 => ?_) (fun c21 => ?_)
    · have c21 : ¬ d = 3 := fun h99 => c21 ((nI_eq (a := d) (b := 3) (by omega) (by omega)).mpr h99)
      refine lv_iconst (v := 0) hx hb dX7_downwind_29 (by decide) ?_
      refine lv_iload_n hx hb dX7_downwind_30 rfl (lv_at hl 0 rfl) ?_
      refine lv_if_ne (tgt := 38) hx hb dX7_downwind_31 (by decide) (fun c31 => ?_) (fun c31 => ?_)
      · have c31 : ¬ d = 0 := fun h99 => c31 ((nI_eq (a := d) (b := 0) (by omega) (by omega)).mpr h99)
        refine lv_iload_n hx hb dX7_downwind_38 rfl (lv_at hl 0 rfl) ?_
        refine lv_iconst (v := 2) hx hb dX7_downwind_39 (by decide) ?_
        refine lv_icmp_ne (tgt := 48) hx hb dX7_downwind_40 (by decide) (fun c40 => ?_) (fun c40 => ?_)
        · have c40 : ¬ d = 2 := fun h99 => c40 ((nI_eq (a := d) (b := 2) (by omega) (by omega)).mpr h99)
          refine lv_iconst (v := 0) hx hb dX7_downwind_48 (by decide) ?_
          refine k_V (As := [.int (nI k), .int 0, .int 0]) (rest := []) (pre := []) (mid := [oc m0 7 [.ref A0, .ref V0, .ref Z0, .int sm, .int th, .int pl, .int hz, .ref D0, .ref W0, .ref T0, .int tl, .int tw, .int tc], ac E A0 985 (mA h w (nI d) s0 z st he ke tu ca tr co la)]) C0 (c_X7_away l E m0 A0 V0 Z0 D0 W0 T0 sm th pl hz tl tw tc h w (nI d) s0 z st he ke tu ca tr co la k 0 0 (by first | assumption | omega) (by first | assumption | omega) (by with_reducible first | exact rI_0 | exact rI_1 | exact rI_m1 | exact rI_p ht | exact rI_n ht) (by with_reducible first | exact rI_0 | exact rI_1 | exact rI_m1 | exact rI_p ht | exact rI_n ht)) (cwV 3 hts gX7_downwind_X7_away rfl rfl rfl (by decide +kernel) ⟨Nat.le_of_ble_eq_true rfl, Nat.le_of_ble_eq_true rfl⟩) hw rfl (fun _ => [oc m0 7 [.ref A0, .ref V0, .ref Z0, .int sm, .int th, .int pl, .int hz, .ref D0, .ref W0, .ref T0, .int tl, .int tw, .int tc], ac E A0 985 (mA h w (nI d) s0 z st he ke tu ca tr co la)]) (fun _ => rfl) 0 7 rfl rfl rfl rfl hl.1 rfl (Nat.le_of_ble_eq_true rfl) dX7_downwind_49 ⟨Nat.le_of_ble_eq_true rfl, Nat.le_of_ble_eq_true rfl⟩ (fun r u H locs hq99 hw => ?_)
          subst hq99
          have hw : kW E AA sx (List.flatten [oc m0 7 [.ref A0, .ref V0, .ref Z0, .int sm, .int th, .int pl, .int hz, .ref D0, .ref W0, .ref T0, .int tl, .int tw, .int tc], ac E A0 985 (mA h w (nI d) s0 z st he ke tu ca tr co la)]) H locs := hw
          refine W.eq (g2 := F0 mm 52 ls [.int (nI (awI h w k 0 0))]) rfl ?_
          -- leaf 0
          exact k_iret C0 hr hlk hw () (rfl) (by exfalso; omega) (Nat.le_of_ble_eq_true rfl) (Nat.le_of_ble_eq_true rfl) dX7_downwind_52
        · have c40 : d = 2 := (nI_eq (a := d) (b := 2) (by omega) (by omega)).mp c40
          refine lv_iload_n hx hb dX7_downwind_43 rfl (lv_at hl 3 rfl) ?_
          refine lv_ineg hx hb dX7_downwind_44 ?_
          refine W.eq (g2 := F0 mm 45 ls [.int (nI t), .int 0, .int (nI k), .ref m0]) (congrArg (fun z9 => F0 mm 45 ls [.int z9, .int 0, .int (nI k), .ref m0]) (show (-(ngN t) : Int32) = nI t from ng_ng t)) ?_
          refine lv_goto (tgt := 49) hx hb dX7_downwind_45 (by decide) ?_
          refine k_V (As := [.int (nI k), .int 0, .int (nI t)]) (rest := []) (pre := []) (mid := [oc m0 7 [.ref A0, .ref V0, .ref Z0, .int sm, .int th, .int pl, .int hz, .ref D0, .ref W0, .ref T0, .int tl, .int tw, .int tc], ac E A0 985 (mA h w (nI d) s0 z st he ke tu ca tr co la)]) C0 (c_X7_away l E m0 A0 V0 Z0 D0 W0 T0 sm th pl hz tl tw tc h w (nI d) s0 z st he ke tu ca tr co la k 0 (nI t) (by first | assumption | omega) (by first | assumption | omega) (by with_reducible first | exact rI_0 | exact rI_1 | exact rI_m1 | exact rI_p ht | exact rI_n ht) (by with_reducible first | exact rI_0 | exact rI_1 | exact rI_m1 | exact rI_p ht | exact rI_n ht)) (cwV 3 hts gX7_downwind_X7_away rfl rfl rfl (by decide +kernel) ⟨Nat.le_of_ble_eq_true rfl, Nat.le_of_ble_eq_true rfl⟩) hw rfl (fun _ => [oc m0 7 [.ref A0, .ref V0, .ref Z0, .int sm, .int th, .int pl, .int hz, .ref D0, .ref W0, .ref T0, .int tl, .int tw, .int tc], ac E A0 985 (mA h w (nI d) s0 z st he ke tu ca tr co la)]) (fun _ => rfl) 0 7 rfl rfl rfl rfl hl.1 rfl (Nat.le_of_ble_eq_true rfl) dX7_downwind_49 ⟨Nat.le_of_ble_eq_true rfl, Nat.le_of_ble_eq_true rfl⟩ (fun r u H locs hq99 hw => ?_)
          subst hq99
          have hw : kW E AA sx (List.flatten [oc m0 7 [.ref A0, .ref V0, .ref Z0, .int sm, .int th, .int pl, .int hz, .ref D0, .ref W0, .ref T0, .int tl, .int tw, .int tc], ac E A0 985 (mA h w (nI d) s0 z st he ke tu ca tr co la)]) H locs := hw
          refine W.eq (g2 := F0 mm 52 ls [.int (nI (awI h w k 0 (nI t)))]) rfl ?_
          -- leaf 1
          exact k_iret C0 hr hlk hw () (rfl) (by rw [show d = 2 by omega]; exact aw_rt hG hc ht) (Nat.le_of_ble_eq_true rfl) (Nat.le_of_ble_eq_true rfl) dX7_downwind_52
      · have c31 : d = 0 := (nI_eq (a := d) (b := 0) (by omega) (by omega)).mp c31
        refine lv_iload_n hx hb dX7_downwind_34 rfl (lv_at hl 3 rfl) ?_
        refine lv_goto (tgt := 49) hx hb dX7_downwind_35 (by decide) ?_
        refine k_V (As := [.int (nI k), .int 0, .int (ngN t)]) (rest := []) (pre := []) (mid := [oc m0 7 [.ref A0, .ref V0, .ref Z0, .int sm, .int th, .int pl, .int hz, .ref D0, .ref W0, .ref T0, .int tl, .int tw, .int tc], ac E A0 985 (mA h w (nI d) s0 z st he ke tu ca tr co la)]) C0 (c_X7_away l E m0 A0 V0 Z0 D0 W0 T0 sm th pl hz tl tw tc h w (nI d) s0 z st he ke tu ca tr co la k 0 (ngN t) (by first | assumption | omega) (by first | assumption | omega) (by with_reducible first | exact rI_0 | exact rI_1 | exact rI_m1 | exact rI_p ht | exact rI_n ht) (by with_reducible first | exact rI_0 | exact rI_1 | exact rI_m1 | exact rI_p ht | exact rI_n ht)) (cwV 3 hts gX7_downwind_X7_away rfl rfl rfl (by decide +kernel) ⟨Nat.le_of_ble_eq_true rfl, Nat.le_of_ble_eq_true rfl⟩) hw rfl (fun _ => [oc m0 7 [.ref A0, .ref V0, .ref Z0, .int sm, .int th, .int pl, .int hz, .ref D0, .ref W0, .ref T0, .int tl, .int tw, .int tc], ac E A0 985 (mA h w (nI d) s0 z st he ke tu ca tr co la)]) (fun _ => rfl) 0 7 rfl rfl rfl rfl hl.1 rfl (Nat.le_of_ble_eq_true rfl) dX7_downwind_49 ⟨Nat.le_of_ble_eq_true rfl, Nat.le_of_ble_eq_true rfl⟩ (fun r u H locs hq99 hw => ?_)
        subst hq99
        have hw : kW E AA sx (List.flatten [oc m0 7 [.ref A0, .ref V0, .ref Z0, .int sm, .int th, .int pl, .int hz, .ref D0, .ref W0, .ref T0, .int tl, .int tw, .int tc], ac E A0 985 (mA h w (nI d) s0 z st he ke tu ca tr co la)]) H locs := hw
        refine W.eq (g2 := F0 mm 52 ls [.int (nI (awI h w k 0 (ngN t)))]) rfl ?_
        -- leaf 2
        exact k_iret C0 hr hlk hw () (rfl) (by rw [show d = 0 by omega]; exact aw_lf hG hc ht) (Nat.le_of_ble_eq_true rfl) (Nat.le_of_ble_eq_true rfl) dX7_downwind_52
    · have c21 : d = 3 := (nI_eq (a := d) (b := 3) (by omega) (by omega)).mp c21
      refine lv_iload_n hx hb dX7_downwind_24 rfl (lv_at hl 3 rfl) ?_
      refine lv_ineg hx hb dX7_downwind_25 ?_
      refine W.eq (g2 := F0 mm 26 ls [.int (nI t), .int (nI k), .ref m0]) (congrArg (fun z9 => F0 mm 26 ls [.int z9, .int (nI k), .ref m0]) (show (-(ngN t) : Int32) = nI t from ng_ng t)) ?_
      refine lv_goto (tgt := 30) hx hb dX7_downwind_26 (by decide) ?_
      refine lv_iload_n hx hb dX7_downwind_30 rfl (lv_at hl 0 rfl) ?_
      refine lv_if_ne (tgt := 38) hx hb dX7_downwind_31 (by decide) (fun c31 => ?_) (fun c31 => ?_)
      · have c31 : ¬ d = 0 := fun h99 => c31 ((nI_eq (a := d) (b := 0) (by omega) (by omega)).mpr h99)
        refine lv_iload_n hx hb dX7_downwind_38 rfl (lv_at hl 0 rfl) ?_
        refine lv_iconst (v := 2) hx hb dX7_downwind_39 (by decide) ?_
        refine lv_icmp_ne (tgt := 48) hx hb dX7_downwind_40 (by decide) (fun c40 => ?_) (fun c40 => ?_)
        · have c40 : ¬ d = 2 := fun h99 => c40 ((nI_eq (a := d) (b := 2) (by omega) (by omega)).mpr h99)
          refine lv_iconst (v := 0) hx hb dX7_downwind_48 (by decide) ?_
          refine k_V (As := [.int (nI k), .int (nI t), .int 0]) (rest := []) (pre := []) (mid := [oc m0 7 [.ref A0, .ref V0, .ref Z0, .int sm, .int th, .int pl, .int hz, .ref D0, .ref W0, .ref T0, .int tl, .int tw, .int tc], ac E A0 985 (mA h w (nI d) s0 z st he ke tu ca tr co la)]) C0 (c_X7_away l E m0 A0 V0 Z0 D0 W0 T0 sm th pl hz tl tw tc h w (nI d) s0 z st he ke tu ca tr co la k (nI t) 0 (by first | assumption | omega) (by first | assumption | omega) (by with_reducible first | exact rI_0 | exact rI_1 | exact rI_m1 | exact rI_p ht | exact rI_n ht) (by with_reducible first | exact rI_0 | exact rI_1 | exact rI_m1 | exact rI_p ht | exact rI_n ht)) (cwV 3 hts gX7_downwind_X7_away rfl rfl rfl (by decide +kernel) ⟨Nat.le_of_ble_eq_true rfl, Nat.le_of_ble_eq_true rfl⟩) hw rfl (fun _ => [oc m0 7 [.ref A0, .ref V0, .ref Z0, .int sm, .int th, .int pl, .int hz, .ref D0, .ref W0, .ref T0, .int tl, .int tw, .int tc], ac E A0 985 (mA h w (nI d) s0 z st he ke tu ca tr co la)]) (fun _ => rfl) 0 7 rfl rfl rfl rfl hl.1 rfl (Nat.le_of_ble_eq_true rfl) dX7_downwind_49 ⟨Nat.le_of_ble_eq_true rfl, Nat.le_of_ble_eq_true rfl⟩ (fun r u H locs hq99 hw => ?_)
          subst hq99
          have hw : kW E AA sx (List.flatten [oc m0 7 [.ref A0, .ref V0, .ref Z0, .int sm, .int th, .int pl, .int hz, .ref D0, .ref W0, .ref T0, .int tl, .int tw, .int tc], ac E A0 985 (mA h w (nI d) s0 z st he ke tu ca tr co la)]) H locs := hw
          refine W.eq (g2 := F0 mm 52 ls [.int (nI (awI h w k (nI t) 0))]) rfl ?_
          -- leaf 3
          exact k_iret C0 hr hlk hw () (rfl) (by rw [show d = 3 by omega]; exact aw_dn hG hc ht) (Nat.le_of_ble_eq_true rfl) (Nat.le_of_ble_eq_true rfl) dX7_downwind_52
        · have c40 : d = 2 := (nI_eq (a := d) (b := 2) (by omega) (by omega)).mp c40
          refine lv_iload_n hx hb dX7_downwind_43 rfl (lv_at hl 3 rfl) ?_
          refine lv_ineg hx hb dX7_downwind_44 ?_
          refine W.eq (g2 := F0 mm 45 ls [.int (nI t), .int (nI t), .int (nI k), .ref m0]) (congrArg (fun z9 => F0 mm 45 ls [.int z9, .int (nI t), .int (nI k), .ref m0]) (show (-(ngN t) : Int32) = nI t from ng_ng t)) ?_
          refine lv_goto (tgt := 49) hx hb dX7_downwind_45 (by decide) ?_
          refine k_V (As := [.int (nI k), .int (nI t), .int (nI t)]) (rest := []) (pre := []) (mid := [oc m0 7 [.ref A0, .ref V0, .ref Z0, .int sm, .int th, .int pl, .int hz, .ref D0, .ref W0, .ref T0, .int tl, .int tw, .int tc], ac E A0 985 (mA h w (nI d) s0 z st he ke tu ca tr co la)]) C0 (c_X7_away l E m0 A0 V0 Z0 D0 W0 T0 sm th pl hz tl tw tc h w (nI d) s0 z st he ke tu ca tr co la k (nI t) (nI t) (by first | assumption | omega) (by first | assumption | omega) (by with_reducible first | exact rI_0 | exact rI_1 | exact rI_m1 | exact rI_p ht | exact rI_n ht) (by with_reducible first | exact rI_0 | exact rI_1 | exact rI_m1 | exact rI_p ht | exact rI_n ht)) (cwV 3 hts gX7_downwind_X7_away rfl rfl rfl (by decide +kernel) ⟨Nat.le_of_ble_eq_true rfl, Nat.le_of_ble_eq_true rfl⟩) hw rfl (fun _ => [oc m0 7 [.ref A0, .ref V0, .ref Z0, .int sm, .int th, .int pl, .int hz, .ref D0, .ref W0, .ref T0, .int tl, .int tw, .int tc], ac E A0 985 (mA h w (nI d) s0 z st he ke tu ca tr co la)]) (fun _ => rfl) 0 7 rfl rfl rfl rfl hl.1 rfl (Nat.le_of_ble_eq_true rfl) dX7_downwind_49 ⟨Nat.le_of_ble_eq_true rfl, Nat.le_of_ble_eq_true rfl⟩ (fun r u H locs hq99 hw => ?_)
          subst hq99
          have hw : kW E AA sx (List.flatten [oc m0 7 [.ref A0, .ref V0, .ref Z0, .int sm, .int th, .int pl, .int hz, .ref D0, .ref W0, .ref T0, .int tl, .int tw, .int tc], ac E A0 985 (mA h w (nI d) s0 z st he ke tu ca tr co la)]) H locs := hw
          refine W.eq (g2 := F0 mm 52 ls [.int (nI (awI h w k (nI t) (nI t)))]) rfl ?_
          -- leaf 4
          exact k_iret C0 hr hlk hw () (rfl) (by exfalso; omega) (Nat.le_of_ble_eq_true rfl) (Nat.le_of_ble_eq_true rfl) dX7_downwind_52
      · have c31 : d = 0 := (nI_eq (a := d) (b := 0) (by omega) (by omega)).mp c31
        refine lv_iload_n hx hb dX7_downwind_34 rfl (lv_at hl 3 rfl) ?_
        refine lv_goto (tgt := 49) hx hb dX7_downwind_35 (by decide) ?_
        refine k_V (As := [.int (nI k), .int (nI t), .int (ngN t)]) (rest := []) (pre := []) (mid := [oc m0 7 [.ref A0, .ref V0, .ref Z0, .int sm, .int th, .int pl, .int hz, .ref D0, .ref W0, .ref T0, .int tl, .int tw, .int tc], ac E A0 985 (mA h w (nI d) s0 z st he ke tu ca tr co la)]) C0 (c_X7_away l E m0 A0 V0 Z0 D0 W0 T0 sm th pl hz tl tw tc h w (nI d) s0 z st he ke tu ca tr co la k (nI t) (ngN t) (by first | assumption | omega) (by first | assumption | omega) (by with_reducible first | exact rI_0 | exact rI_1 | exact rI_m1 | exact rI_p ht | exact rI_n ht) (by with_reducible first | exact rI_0 | exact rI_1 | exact rI_m1 | exact rI_p ht | exact rI_n ht)) (cwV 3 hts gX7_downwind_X7_away rfl rfl rfl (by decide +kernel) ⟨Nat.le_of_ble_eq_true rfl, Nat.le_of_ble_eq_true rfl⟩) hw rfl (fun _ => [oc m0 7 [.ref A0, .ref V0, .ref Z0, .int sm, .int th, .int pl, .int hz, .ref D0, .ref W0, .ref T0, .int tl, .int tw, .int tc], ac E A0 985 (mA h w (nI d) s0 z st he ke tu ca tr co la)]) (fun _ => rfl) 0 7 rfl rfl rfl rfl hl.1 rfl (Nat.le_of_ble_eq_true rfl) dX7_downwind_49 ⟨Nat.le_of_ble_eq_true rfl, Nat.le_of_ble_eq_true rfl⟩ (fun r u H locs hq99 hw => ?_)
        subst hq99
        have hw : kW E AA sx (List.flatten [oc m0 7 [.ref A0, .ref V0, .ref Z0, .int sm, .int th, .int pl, .int hz, .ref D0, .ref W0, .ref T0, .int tl, .int tw, .int tc], ac E A0 985 (mA h w (nI d) s0 z st he ke tu ca tr co la)]) H locs := hw
        refine W.eq (g2 := F0 mm 52 ls [.int (nI (awI h w k (nI t) (ngN t)))]) rfl ?_
        -- leaf 5
        exact k_iret C0 hr hlk hw () (rfl) (by exfalso; omega) (Nat.le_of_ble_eq_true rfl) (Nat.le_of_ble_eq_true rfl) dX7_downwind_52
  · have c12 : d = 1 := (nI_eq (a := d) (b := 1) (by omega) (by omega)).mp c12
    refine lv_iload_n hx hb dX7_downwind_15 rfl (lv_at hl 3 rfl) ?_
    refine lv_goto (tgt := 30) hx hb dX7_downwind_16 (by decide) ?_
    refine lv_iload_n hx hb dX7_downwind_30 rfl (lv_at hl 0 rfl) ?_
    refine lv_if_ne (tgt := 38) hx hb dX7_downwind_31 (by decide) (fun c31 => ?_) (fun c31 => ?_)
    · have c31 : ¬ d = 0 := fun h99 => c31 ((nI_eq (a := d) (b := 0) (by omega) (by omega)).mpr h99)
      refine lv_iload_n hx hb dX7_downwind_38 rfl (lv_at hl 0 rfl) ?_
      refine lv_iconst (v := 2) hx hb dX7_downwind_39 (by decide) ?_
      refine lv_icmp_ne (tgt := 48) hx hb dX7_downwind_40 (by decide) (fun c40 => ?_) (fun c40 => ?_)
      · have c40 : ¬ d = 2 := fun h99 => c40 ((nI_eq (a := d) (b := 2) (by omega) (by omega)).mpr h99)
        refine lv_iconst (v := 0) hx hb dX7_downwind_48 (by decide) ?_
        refine k_V (As := [.int (nI k), .int (ngN t), .int 0]) (rest := []) (pre := []) (mid := [oc m0 7 [.ref A0, .ref V0, .ref Z0, .int sm, .int th, .int pl, .int hz, .ref D0, .ref W0, .ref T0, .int tl, .int tw, .int tc], ac E A0 985 (mA h w (nI d) s0 z st he ke tu ca tr co la)]) C0 (c_X7_away l E m0 A0 V0 Z0 D0 W0 T0 sm th pl hz tl tw tc h w (nI d) s0 z st he ke tu ca tr co la k (ngN t) 0 (by first | assumption | omega) (by first | assumption | omega) (by with_reducible first | exact rI_0 | exact rI_1 | exact rI_m1 | exact rI_p ht | exact rI_n ht) (by with_reducible first | exact rI_0 | exact rI_1 | exact rI_m1 | exact rI_p ht | exact rI_n ht)) (cwV 3 hts gX7_downwind_X7_away rfl rfl rfl (by decide +kernel) ⟨Nat.le_of_ble_eq_true rfl, Nat.le_of_ble_eq_true rfl⟩) hw rfl (fun _ => [oc m0 7 [.ref A0, .ref V0, .ref Z0, .int sm, .int th, .int pl, .int hz, .ref D0, .ref W0, .ref T0, .int tl, .int tw, .int tc], ac E A0 985 (mA h w (nI d) s0 z st he ke tu ca tr co la)]) (fun _ => rfl) 0 7 rfl rfl rfl rfl hl.1 rfl (Nat.le_of_ble_eq_true rfl) dX7_downwind_49 ⟨Nat.le_of_ble_eq_true rfl, Nat.le_of_ble_eq_true rfl⟩ (fun r u H locs hq99 hw => ?_)
        subst hq99
        have hw : kW E AA sx (List.flatten [oc m0 7 [.ref A0, .ref V0, .ref Z0, .int sm, .int th, .int pl, .int hz, .ref D0, .ref W0, .ref T0, .int tl, .int tw, .int tc], ac E A0 985 (mA h w (nI d) s0 z st he ke tu ca tr co la)]) H locs := hw
        refine W.eq (g2 := F0 mm 52 ls [.int (nI (awI h w k (ngN t) 0))]) rfl ?_
        -- leaf 6
        exact k_iret C0 hr hlk hw () (rfl) (by rw [show d = 1 by omega]; exact aw_up hG hc ht) (Nat.le_of_ble_eq_true rfl) (Nat.le_of_ble_eq_true rfl) dX7_downwind_52
      · have c40 : d = 2 := (nI_eq (a := d) (b := 2) (by omega) (by omega)).mp c40
        refine lv_iload_n hx hb dX7_downwind_43 rfl (lv_at hl 3 rfl) ?_
        refine lv_ineg hx hb dX7_downwind_44 ?_
        refine W.eq (g2 := F0 mm 45 ls [.int (nI t), .int (ngN t), .int (nI k), .ref m0]) (congrArg (fun z9 => F0 mm 45 ls [.int z9, .int (ngN t), .int (nI k), .ref m0]) (show (-(ngN t) : Int32) = nI t from ng_ng t)) ?_
        refine lv_goto (tgt := 49) hx hb dX7_downwind_45 (by decide) ?_
        refine k_V (As := [.int (nI k), .int (ngN t), .int (nI t)]) (rest := []) (pre := []) (mid := [oc m0 7 [.ref A0, .ref V0, .ref Z0, .int sm, .int th, .int pl, .int hz, .ref D0, .ref W0, .ref T0, .int tl, .int tw, .int tc], ac E A0 985 (mA h w (nI d) s0 z st he ke tu ca tr co la)]) C0 (c_X7_away l E m0 A0 V0 Z0 D0 W0 T0 sm th pl hz tl tw tc h w (nI d) s0 z st he ke tu ca tr co la k (ngN t) (nI t) (by first | assumption | omega) (by first | assumption | omega) (by with_reducible first | exact rI_0 | exact rI_1 | exact rI_m1 | exact rI_p ht | exact rI_n ht) (by with_reducible first | exact rI_0 | exact rI_1 | exact rI_m1 | exact rI_p ht | exact rI_n ht)) (cwV 3 hts gX7_downwind_X7_away rfl rfl rfl (by decide +kernel) ⟨Nat.le_of_ble_eq_true rfl, Nat.le_of_ble_eq_true rfl⟩) hw rfl (fun _ => [oc m0 7 [.ref A0, .ref V0, .ref Z0, .int sm, .int th, .int pl, .int hz, .ref D0, .ref W0, .ref T0, .int tl, .int tw, .int tc], ac E A0 985 (mA h w (nI d) s0 z st he ke tu ca tr co la)]) (fun _ => rfl) 0 7 rfl rfl rfl rfl hl.1 rfl (Nat.le_of_ble_eq_true rfl) dX7_downwind_49 ⟨Nat.le_of_ble_eq_true rfl, Nat.le_of_ble_eq_true rfl⟩ (fun r u H locs hq99 hw => ?_)
        subst hq99
        have hw : kW E AA sx (List.flatten [oc m0 7 [.ref A0, .ref V0, .ref Z0, .int sm, .int th, .int pl, .int hz, .ref D0, .ref W0, .ref T0, .int tl, .int tw, .int tc], ac E A0 985 (mA h w (nI d) s0 z st he ke tu ca tr co la)]) H locs := hw
        refine W.eq (g2 := F0 mm 52 ls [.int (nI (awI h w k (ngN t) (nI t)))]) rfl ?_
        -- leaf 7
        exact k_iret C0 hr hlk hw () (rfl) (by exfalso; omega) (Nat.le_of_ble_eq_true rfl) (Nat.le_of_ble_eq_true rfl) dX7_downwind_52
    · have c31 : d = 0 := (nI_eq (a := d) (b := 0) (by omega) (by omega)).mp c31
      refine lv_iload_n hx hb dX7_downwind_34 rfl (lv_at hl 3 rfl) ?_
      refine lv_goto (tgt := 49) hx hb dX7_downwind_35 (by decide) ?_
      refine k_V (As := [.int (nI k), .int (ngN t), .int (ngN t)]) (rest := []) (pre := []) (mid := [oc m0 7 [.ref A0, .ref V0, .ref Z0, .int sm, .int th, .int pl, .int hz, .ref D0, .ref W0, .ref T0, .int tl, .int tw, .int tc], ac E A0 985 (mA h w (nI d) s0 z st he ke tu ca tr co la)]) C0 (c_X7_away l E m0 A0 V0 Z0 D0 W0 T0 sm th pl hz tl tw tc h w (nI d) s0 z st he ke tu ca tr co la k (ngN t) (ngN t) (by first | assumption | omega) (by first | assumption | omega) (by with_reducible first | exact rI_0 | exact rI_1 | exact rI_m1 | exact rI_p ht | exact rI_n ht) (by with_reducible first | exact rI_0 | exact rI_1 | exact rI_m1 | exact rI_p ht | exact rI_n ht)) (cwV 3 hts gX7_downwind_X7_away rfl rfl rfl (by decide +kernel) ⟨Nat.le_of_ble_eq_true rfl, Nat.le_of_ble_eq_true rfl⟩) hw rfl (fun _ => [oc m0 7 [.ref A0, .ref V0, .ref Z0, .int sm, .int th, .int pl, .int hz, .ref D0, .ref W0, .ref T0, .int tl, .int tw, .int tc], ac E A0 985 (mA h w (nI d) s0 z st he ke tu ca tr co la)]) (fun _ => rfl) 0 7 rfl rfl rfl rfl hl.1 rfl (Nat.le_of_ble_eq_true rfl) dX7_downwind_49 ⟨Nat.le_of_ble_eq_true rfl, Nat.le_of_ble_eq_true rfl⟩ (fun r u H locs hq99 hw => ?_)
      subst hq99
      have hw : kW E AA sx (List.flatten [oc m0 7 [.ref A0, .ref V0, .ref Z0, .int sm, .int th, .int pl, .int hz, .ref D0, .ref W0, .ref T0, .int tl, .int tw, .int tc], ac E A0 985 (mA h w (nI d) s0 z st he ke tu ca tr co la)]) H locs := hw
      refine W.eq (g2 := F0 mm 52 ls [.int (nI (awI h w k (ngN t) (ngN t)))]) rfl ?_
      -- leaf 8
      exact k_iret C0 hr hlk hw () (rfl) (by exfalso; omega) (Nat.le_of_ble_eq_true rfl) (Nat.le_of_ble_eq_true rfl) dX7_downwind_52

abbrev rmX7_isInShadow : Room := { frames := 2, cells := 0, slots := 0, locals := 50 }
set_option maxHeartbeats 4000000 in
set_option maxRecDepth 100000 in
theorem c_X7_isInShadow (l : Launch) (E : kE) (m0 : Nat) (A0 : Nat) (V0 : Nat) (Z0 : Nat) (D0 : Nat) (W0 : Nat) (T0 : Nat) (sm : Int32) (th : Int32) (pl : Int32) (hz : Int32) (tl : Int32) (tw : Int32) (tc : Int32) (h : Nat) (w : Nat) (d : Nat) (s0 : Int32) (z : Int32) (st : Nat → Int32) (he : Nat → Int32) (ke : Nat → Int32) (tu : Nat → Int32) (ca : Nat → Int32) (tr : Nat → Int32) (co : Nat → Int32) (la : Nat → Int32) (k : Nat) (hG : kG h w) (hc : k < h * w) (hd : d < 4) : kC E l yX7_isInShadow wsX7_isInShadow rmX7_isInShadow [.ref m0, .int (nI k)] (List.flatten [oc m0 7 [.ref A0, .ref V0, .ref Z0, .int sm, .int th, .int pl, .int hz, .ref D0, .ref W0, .ref T0, .int tl, .int tw, .int tc], ac E A0 985 (mA h w (nI d) s0 z st he ke tu ca tr co la)]) kI (fun (r : Int32) (_ : Unit) => r = if shd h w d he k then 1 else 0) (fun _ => List.flatten [oc m0 7 [.ref A0, .ref V0, .ref Z0, .int sm, .int th, .int pl, .int hz, .ref D0, .ref W0, .ref T0, .int tl, .int tw, .int tc], ac E A0 985 (mA h w (nI d) s0 z st he ke tu ca tr co la)]) 0 0 := by
  refine k_body (cc := cX7_isInShadow) (maxL := 5) (ret := (some .boolean)) (by decide) rfl (Nat.le_of_ble_eq_true rfl) ?_
  intro pp ee sx mm aa bb me cd H locs AA ls C0 hr hlk hnm hl hw
  obtain ⟨hx, hb, hml, hown, hts⟩ := id C0
  have hl : lv_has ls 5 [(0, .ref m0), (1, .int (nI k))] := hl
  have hw : kW E AA sx (List.flatten [oc m0 7 [.ref A0, .ref V0, .ref Z0, .int sm, .int th, .int pl, .int hz, .ref D0, .ref W0, .ref T0, .int tl, .int tw, .int tc], ac E A0 985 (mA h w (nI d) s0 z st he ke tu ca tr co la)]) H locs := hw
  have hn9 := kG_n hG
  have hG9 := id hG
  obtain ⟨hG1, hG2, hG3, hG4⟩ := hG9
  have hinX7 : ∀ w ∈ u_ws RX7 TX7 13, w ∈ wsX7_isInShadow := by decide +kernel
  refine lv_aload_n hx hb dX7_isInShadow_0 rfl (lv_at hl 0 rfl) ?_
  refine k_get (pre := []) C0 hw hinX7 rfl 0 (by decide) (hts (.fieldLink RX7 7 "SlabDunesModel" "all" "[I") (by decide +kernel)) rfl rfl dX7_isInShadow_1 ?_
  refine lv_bipush (v := 6) hx hb dX7_isInShadow_4 (by decide) ?_
  refine k_iald (pre := [oc m0 7 [.ref A0, .ref V0, .ref Z0, .int sm, .int th, .int pl, .int hz, .ref D0, .ref W0, .ref T0, .int tl, .int tw, .int tc]]) (l1 := []) C0 hw (i := 6) (kinN (n := 6) (by decide) (by decide)) dX7_isInShadow_6 ?_
  refine W.eq (g2 := F0 mm 7 ls [.int (nI d)]) (congrArg (fun z9 => F0 mm 7 ls [.int z9]) (show ((mA h w (nI d) s0 z st he ke tu ca tr co la) (Int32.toNatClampNeg 6) : Int32) = nI d from rfl)) ?_
  refine lv_iconst (v := 2) hx hb dX7_isInShadow_7 (by decide) ?_
  refine lv_irem hx hb dX7_isInShadow_8 (by decide) ?_
  refine W.eq (g2 := F0 mm 9 ls [.int (nI (d % 2))]) (congrArg (fun z9 => F0 mm 9 ls [.int z9]) (show ((nI d) - (nI d) / 2 * 2 : Int32) = nI (d % 2) from pk_rem (d := 2) (by omega) (by omega) (by omega))) ?_
  have join9 : ∀ (H : Heap) (locs : List Loc) (ls : Array Slot), lv_has ls 5 [(0, .ref m0), (1, .int (nI k))] → kW E AA sx (List.flatten [oc m0 7 [.ref A0, .ref V0, .ref Z0, .int sm, .int th, .int pl, .int hz, .ref D0, .ref W0, .ref T0, .int tl, .int tw, .int tc], ac E A0 985 (mA h w (nI d) s0 z st he ke tu ca tr co la)]) H locs → W pp l ee rmX7_isInShadow sx mm aa bb me cd H locs 0 0 (kEnd E kI (fun (r : Int32) (_ : Unit) => r = if shd h w d he k then 1 else 0) (fun _ => List.flatten [oc m0 7 [.ref A0, .ref V0, .ref Z0, .int sm, .int th, .int pl, .int hz, .ref D0, .ref W0, .ref T0, .int tl, .int tw, .int tc], ac E A0 985 (mA h w (nI d) s0 z st he ke tu ca tr co la)]) bb aa sx AA 0 0) (F0 mm 27 ls [.int (nI (lineN d h w))]) := by
    intro H locs ls hl hw
    have hL9 : lineN d h w ≤ 16 ∧ 1 ≤ lineN d h w := by unfold lineN; split <;> omega
    refine lv_istore_n (lv' := [(2, .int (nI (lineN d h w))), (0, .ref m0), (1, .int (nI k))]) hx hb dX7_isInShadow_27 rfl hl (by decide) rfl (fun ls hl => ?_)
    refine lv_iconst (v := 0) hx hb dX7_isInShadow_28 (by decide) ?_
    refine lv_istore_n (lv' := [(3, .int 0), (2, .int (nI (lineN d h w))), (0, .ref m0), (1, .int (nI k))]) hx hb dX7_isInShadow_29 rfl hl (by decide) rfl (fun ls hl => ?_)
    refine lv_iconst (v := 1) hx hb dX7_isInShadow_30 (by decide) ?_
    refine lv_istore (lv' := [(4, .int 1), (3, .int 0), (2, .int (nI (lineN d h w))), (0, .ref m0), (1, .int (nI k))]) hx hb dX7_isInShadow_31 hl (by decide) rfl (fun ls hl => ?_)
    have loop33 : ∀ (nn : Nat) (i : Nat) (b9 : Int32), (1 ≤ i) → (i ≤ lineN d h w) → (b9 = shI h w d he k i) → lineN d h w - i < nn → ∀ (H : Heap) (locs : List Loc) (ls : Array Slot), lv_has ls 5 [(4, .int (nI i)), (3, .int b9), (2, .int (nI (lineN d h w))), (0, .ref m0), (1, .int (nI k))] → kW E AA sx (List.flatten [oc m0 7 [.ref A0, .ref V0, .ref Z0, .int sm, .int th, .int pl, .int hz, .ref D0, .ref W0, .ref T0, .int tl, .int tw, .int tc], ac E A0 985 (mA h w (nI d) s0 z st he ke tu ca tr co la)]) H locs → W pp l ee rmX7_isInShadow sx mm aa bb me cd H locs 0 0 (kEnd E kI (fun (r : Int32) (_ : Unit) => r = if shd h w d he k then 1 else 0) (fun _ => List.flatten [oc m0 7 [.ref A0, .ref V0, .ref Z0, .int sm, .int th, .int pl, .int hz, .ref D0, .ref W0, .ref T0, .int tl, .int tw, .int tc], ac E A0 985 (mA h w (nI d) s0 z st he ke tu ca tr co la)]) bb aa sx AA 0 0) (F0 mm 33 ls []) := by
      intro nn
      induction nn with
      | zero => intro i b9 hi1 hi hbv hm33; exact absurd hm33 (Nat.not_lt_zero _)
      | succ nn ih33 =>
        intro i b9 hi1 hi hbv hm33 H locs ls hl hw
        refine lv_iload hx hb dX7_isInShadow_33 (lv_at hl 0 rfl) ?_
        refine lv_iload_n hx hb dX7_isInShadow_35 rfl (lv_at hl 2 rfl) ?_
        refine lv_icmp_ge (tgt := 84) hx hb dX7_isInShadow_36 (by decide) (fun c36 => ?_) (fun c36 => ?_)
        · have c36 : (lineN d h w) ≤ i := (nI_leI (a := (lineN d h w)) (b := i) (by omega) (by omega)).mp c36
          refine lv_iload_n hx hb dX7_isInShadow_84 rfl (lv_at hl 1 rfl) ?_
          -- leaf 0
          exact k_zret C0 hr hlk hw () (rfl) (by rw [hbv, show i = lineN d h w by omega]; rfl) (by rw [hbv]; exact knar) (Nat.le_of_ble_eq_true rfl) (Nat.le_of_ble_eq_true rfl) dX7_isInShadow_85
        · have c36 : ¬ (lineN d h w) ≤ i := fun h99 => c36 ((nI_leI (a := (lineN d h w)) (b := i) (by omega) (by omega)).mpr h99)
          refine lv_iload_n hx hb dX7_isInShadow_39 rfl (lv_at hl 1 rfl) ?_
          refine lv_if_ne (tgt := 72) hx hb dX7_isInShadow_40 (by decide) (fun c40 => ?_) (fun c40 => ?_)
          · refine lv_iconst (v := 1) hx hb dX7_isInShadow_72 (by decide) ?_
            refine lv_goto (tgt := 77) hx hb dX7_isInShadow_73 (by decide) ?_
            refine lv_istore_n (lv' := [(3, .int 1), (4, .int (nI i)), (2, .int (nI (lineN d h w))), (0, .ref m0), (1, .int (nI k))]) hx hb dX7_isInShadow_77 rfl hl (by decide) rfl (fun ls hl => ?_)
            refine lv_iinc (v := nI (i + 1)) (lv' := [(4, .int (nI (i + 1))), (3, .int 1), (2, .int (nI (lineN d h w))), (0, .ref m0), (1, .int (nI k))]) hx hb dX7_isInShadow_78 hl (k := 1) rfl (nI_1 _) (by decide) rfl (fun ls hl => ?_)
            refine lv_goto (tgt := 33) hx hb dX7_isInShadow_81 (by decide) ?_
            -- back 0
            exact ih33 (i + 1) 1 (by first | assumption | omega) (by first | assumption | omega) (shI_y hbv c40) (by omega) H _ ls (lv_sub hl [0, 1, 2, 3, 4] rfl) hw
          · refine lv_aload_n hx hb dX7_isInShadow_43 rfl (lv_at hl 3 rfl) ?_
            refine lv_aload_n hx hb dX7_isInShadow_44 rfl (lv_at hl 3 rfl) ?_
            refine lv_iload_n hx hb dX7_isInShadow_45 rfl (lv_at hl 4 rfl) ?_
            refine lv_iload hx hb dX7_isInShadow_46 (lv_at hl 0 rfl) ?_
            refine lv_ineg hx hb dX7_isInShadow_48 ?_
            refine W.eq (g2 := F0 mm 49 ls [.int (ngN i), .int (nI k), .ref m0, .ref m0]) (congrArg (fun z9 => F0 mm 49 ls [.int z9, .int (nI k), .ref m0, .ref m0]) (show (-(nI i) : Int32) = ngN i from rfl)) ?_
            refine k_V (As := [.int (nI k), .int (ngN i)]) (rest := [.ref m0]) (pre := []) (mid := [oc m0 7 [.ref A0, .ref V0, .ref Z0, .int sm, .int th, .int pl, .int hz, .ref D0, .ref W0, .ref T0, .int tl, .int tw, .int tc], ac E A0 985 (mA h w (nI d) s0 z st he ke tu ca tr co la)]) C0 (c_X7_downwindM l E m0 A0 V0 Z0 D0 W0 T0 sm th pl hz tl tw tc h w d s0 z st he ke tu ca tr co la k i (by first | assumption | omega) (by first | assumption | omega) (by first | assumption | omega) (by omega)) (cwV 2 hts gX7_isInShadow_X7_downwind rfl rfl rfl (by decide +kernel) ⟨Nat.le_of_ble_eq_true rfl, Nat.le_of_ble_eq_true rfl⟩) hw rfl (fun _ => [oc m0 7 [.ref A0, .ref V0, .ref Z0, .int sm, .int th, .int pl, .int hz, .ref D0, .ref W0, .ref T0, .int tl, .int tw, .int tc], ac E A0 985 (mA h w (nI d) s0 z st he ke tu ca tr co la)]) (fun _ => rfl) 0 7 rfl rfl rfl rfl hl.1 rfl (Nat.le_of_ble_eq_true rfl) dX7_isInShadow_49 ⟨Nat.le_of_ble_eq_true rfl, Nat.le_of_ble_eq_true rfl⟩ (fun r u H locs hq99 hw => ?_)
            subst hq99
            have hw : kW E AA sx (List.flatten [oc m0 7 [.ref A0, .ref V0, .ref Z0, .int sm, .int th, .int pl, .int hz, .ref D0, .ref W0, .ref T0, .int tl, .int tw, .int tc], ac E A0 985 (mA h w (nI d) s0 z st he ke tu ca tr co la)]) H locs := hw
            refine W.eq (g2 := F0 mm 52 ls [.int (nI (upw h w ((d + 3) % 4) k i)), .ref m0]) rfl ?_
            refine lv_iconst (v := 0) hx hb dX7_isInShadow_52 (by decide) ?_
            refine k_V (As := [.int (nI (upw h w ((d + 3) % 4) k i)), .int 0]) (rest := []) (pre := []) (mid := [oc m0 7 [.ref A0, .ref V0, .ref Z0, .int sm, .int th, .int pl, .int hz, .ref D0, .ref W0, .ref T0, .int tl, .int tw, .int tc], ac E A0 985 (mA h w (nI d) s0 z st he ke tu ca tr co la)]) C0 (c_X7_of0 l E m0 A0 V0 Z0 D0 W0 T0 sm th pl hz tl tw tc h w (nI d) s0 z st he ke tu ca tr co la (upw h w ((d + 3) % 4) k i) (by first | assumption | omega) (upw_lt hG hc i)) (cwV 2 hts gX7_isInShadow_X7_of rfl rfl rfl (by decide +kernel) ⟨Nat.le_of_ble_eq_true rfl, Nat.le_of_ble_eq_true rfl⟩) hw rfl (fun _ => [oc m0 7 [.ref A0, .ref V0, .ref Z0, .int sm, .int th, .int pl, .int hz, .ref D0, .ref W0, .ref T0, .int tl, .int tw, .int tc], ac E A0 985 (mA h w (nI d) s0 z st he ke tu ca tr co la)]) (fun _ => rfl) 0 7 rfl rfl rfl rfl hl.1 rfl (Nat.le_of_ble_eq_true rfl) dX7_isInShadow_53 ⟨Nat.le_of_ble_eq_true rfl, Nat.le_of_ble_eq_true rfl⟩ (fun r u H locs hq99 hw => ?_)
            subst hq99
            have hw : kW E AA sx (List.flatten [oc m0 7 [.ref A0, .ref V0, .ref Z0, .int sm, .int th, .int pl, .int hz, .ref D0, .ref W0, .ref T0, .int tl, .int tw, .int tc], ac E A0 985 (mA h w (nI d) s0 z st he ke tu ca tr co la)]) H locs := hw
            refine W.eq (g2 := F0 mm 56 ls [.int (he (upw h w ((d + 3) % 4) k i))]) rfl ?_
            refine lv_aload_n hx hb dX7_isInShadow_56 rfl (lv_at hl 3 rfl) ?_
            refine lv_iload_n hx hb dX7_isInShadow_57 rfl (lv_at hl 4 rfl) ?_
            refine lv_iconst (v := 0) hx hb dX7_isInShadow_58 (by decide) ?_
            refine k_V (As := [.int (nI k), .int 0]) (rest := [.int (he (upw h w ((d + 3) % 4) k i))]) (pre := []) (mid := [oc m0 7 [.ref A0, .ref V0, .ref Z0, .int sm, .int th, .int pl, .int hz, .ref D0, .ref W0, .ref T0, .int tl, .int tw, .int tc], ac E A0 985 (mA h w (nI d) s0 z st he ke tu ca tr co la)]) C0 (c_X7_of0 l E m0 A0 V0 Z0 D0 W0 T0 sm th pl hz tl tw tc h w (nI d) s0 z st he ke tu ca tr co la k (by first | assumption | omega) (by first | assumption | omega)) (cwV 2 hts gX7_isInShadow_X7_of rfl rfl rfl (by decide +kernel) ⟨Nat.le_of_ble_eq_true rfl, Nat.le_of_ble_eq_true rfl⟩) hw rfl (fun _ => [oc m0 7 [.ref A0, .ref V0, .ref Z0, .int sm, .int th, .int pl, .int hz, .ref D0, .ref W0, .ref T0, .int tl, .int tw, .int tc], ac E A0 985 (mA h w (nI d) s0 z st he ke tu ca tr co la)]) (fun _ => rfl) 0 7 rfl rfl rfl rfl hl.1 rfl (Nat.le_of_ble_eq_true rfl) dX7_isInShadow_59 ⟨Nat.le_of_ble_eq_true rfl, Nat.le_of_ble_eq_true rfl⟩ (fun r u H locs hq99 hw => ?_)
            subst hq99
            have hw : kW E AA sx (List.flatten [oc m0 7 [.ref A0, .ref V0, .ref Z0, .int sm, .int th, .int pl, .int hz, .ref D0, .ref W0, .ref T0, .int tl, .int tw, .int tc], ac E A0 985 (mA h w (nI d) s0 z st he ke tu ca tr co la)]) H locs := hw
            refine W.eq (g2 := F0 mm 62 ls [.int (he k), .int (he (upw h w ((d + 3) % 4) k i))]) rfl ?_
            refine lv_isub hx hb dX7_isInShadow_62 ?_
            refine lv_iconst (v := 5) hx hb dX7_isInShadow_63 (by decide) ?_
            refine lv_imul hx hb dX7_isInShadow_64 ?_
            refine lv_iconst (v := 4) hx hb dX7_isInShadow_65 (by decide) ?_
            refine lv_iload hx hb dX7_isInShadow_66 (lv_at hl 0 rfl) ?_
            refine lv_imul hx hb dX7_isInShadow_68 ?_
            refine lv_icmp_le (tgt := 76) hx hb dX7_isInShadow_69 (by decide) (fun c69 => ?_) (fun c69 => ?_)
            · refine lv_iconst (v := 0) hx hb dX7_isInShadow_76 (by decide) ?_
              refine lv_istore_n (lv' := [(3, .int 0), (4, .int (nI i)), (2, .int (nI (lineN d h w))), (0, .ref m0), (1, .int (nI k))]) hx hb dX7_isInShadow_77 rfl hl (by decide) rfl (fun ls hl => ?_)
              refine lv_iinc (v := nI (i + 1)) (lv' := [(4, .int (nI (i + 1))), (3, .int 0), (2, .int (nI (lineN d h w))), (0, .ref m0), (1, .int (nI k))]) hx hb dX7_isInShadow_78 hl (k := 1) rfl (nI_1 _) (by decide) rfl (fun ls hl => ?_)
              refine lv_goto (tgt := 33) hx hb dX7_isInShadow_81 (by decide) ?_
              -- back 1
              exact ih33 (i + 1) 0 (by first | assumption | omega) (by first | assumption | omega) (shI_m hbv c40 c69) (by omega) H _ ls (lv_sub hl [0, 1, 2, 3, 4] rfl) hw
            · refine lv_iconst (v := 1) hx hb dX7_isInShadow_72 (by decide) ?_
              refine lv_goto (tgt := 77) hx hb dX7_isInShadow_73 (by decide) ?_
              refine lv_istore_n (lv' := [(3, .int 1), (4, .int (nI i)), (2, .int (nI (lineN d h w))), (0, .ref m0), (1, .int (nI k))]) hx hb dX7_isInShadow_77 rfl hl (by decide) rfl (fun ls hl => ?_)
              refine lv_iinc (v := nI (i + 1)) (lv' := [(4, .int (nI (i + 1))), (3, .int 1), (2, .int (nI (lineN d h w))), (0, .ref m0), (1, .int (nI k))]) hx hb dX7_isInShadow_78 hl (k := 1) rfl (nI_1 _) (by decide) rfl (fun ls hl => ?_)
              refine lv_goto (tgt := 33) hx hb dX7_isInShadow_81 (by decide) ?_
              -- back 2
              exact ih33 (i + 1) 1 (by first | assumption | omega) (by first | assumption | omega) (shI_h hbv c40 hi1 c69) (by omega) H _ ls (lv_sub hl [0, 1, 2, 3, 4] rfl) hw
    exact loop33 ((lineN d h w - 1) + 1) 1 0 (by first | assumption | omega) (by first | assumption | omega) (rfl) (Nat.lt_succ_self _) H _ ls (lv_sub hl [0, 1, 2, 3, 4] rfl) hw
  refine lv_if_ne (tgt := 21) hx hb dX7_isInShadow_9 (by decide) (fun c9 => ?_) (fun c9 => ?_)
  · have c9 : ¬ (d % 2) = 0 := fun h99 => c9 ((nI_eq (a := (d % 2)) (b := 0) (by omega) (by omega)).mpr h99)
    refine lv_aload_n hx hb dX7_isInShadow_21 rfl (lv_at hl 0 rfl) ?_
    refine k_get (pre := []) C0 hw hinX7 rfl 0 (by decide) (hts (.fieldLink RX7 7 "SlabDunesModel" "all" "[I") (by decide +kernel)) rfl rfl dX7_isInShadow_22 ?_
    refine lv_iconst (v := 4) hx hb dX7_isInShadow_25 (by decide) ?_
    refine k_iald (pre := [oc m0 7 [.ref A0, .ref V0, .ref Z0, .int sm, .int th, .int pl, .int hz, .ref D0, .ref W0, .ref T0, .int tl, .int tw, .int tc]]) (l1 := []) C0 hw (i := 4) (kinN (n := 4) (by decide) (by decide)) dX7_isInShadow_26 ?_
    refine W.eq (g2 := F0 mm 27 ls [.int (nI h)]) (congrArg (fun z9 => F0 mm 27 ls [.int z9]) (show ((mA h w (nI d) s0 z st he ke tu ca tr co la) (Int32.toNatClampNeg 4) : Int32) = nI h from rfl)) ?_
    have hL9 : lineN d h w ≤ 16 ∧ 1 ≤ lineN d h w := by unfold lineN; split <;> omega
    refine W.eq (g2 := F0 mm 27 ls [.int (nI (lineN d h w))]) (congrArg (fun z9 => F0 mm 27 ls [.int z9]) (show (nI h : Int32) = nI (lineN d h w) from by rw [show lineN d h w = h from if_neg (by omega)])) ?_
    exact join9 H _ ls (lv_sub hl [0, 1] rfl) hw
  · have c9 : (d % 2) = 0 := (nI_eq (a := (d % 2)) (b := 0) (by omega) (by omega)).mp c9
    refine lv_aload_n hx hb dX7_isInShadow_12 rfl (lv_at hl 0 rfl) ?_
    refine k_get (pre := []) C0 hw hinX7 rfl 0 (by decide) (hts (.fieldLink RX7 7 "SlabDunesModel" "all" "[I") (by decide +kernel)) rfl rfl dX7_isInShadow_13 ?_
    refine lv_iconst (v := 5) hx hb dX7_isInShadow_16 (by decide) ?_
    refine k_iald (pre := [oc m0 7 [.ref A0, .ref V0, .ref Z0, .int sm, .int th, .int pl, .int hz, .ref D0, .ref W0, .ref T0, .int tl, .int tw, .int tc]]) (l1 := []) C0 hw (i := 5) (kinN (n := 5) (by decide) (by decide)) dX7_isInShadow_17 ?_
    refine W.eq (g2 := F0 mm 18 ls [.int (nI w)]) (congrArg (fun z9 => F0 mm 18 ls [.int z9]) (show ((mA h w (nI d) s0 z st he ke tu ca tr co la) (Int32.toNatClampNeg 5) : Int32) = nI w from rfl)) ?_
    refine lv_goto (tgt := 27) hx hb dX7_isInShadow_18 (by decide) ?_
    have hL9 : lineN d h w ≤ 16 ∧ 1 ≤ lineN d h w := by unfold lineN; split <;> omega
    refine W.eq (g2 := F0 mm 27 ls [.int (nI (lineN d h w))]) (congrArg (fun z9 => F0 mm 27 ls [.int z9]) (show (nI w : Int32) = nI (lineN d h w) from by rw [show lineN d h w = w from if_pos (by omega)])) ?_
    exact join9 H _ ls (lv_sub hl [0, 1] rfl) hw

abbrev rmX7_draws : Room := { frames := 0, cells := 0, slots := 0, locals := 0 }
set_option maxHeartbeats 4000000 in
set_option maxRecDepth 100000 in
theorem c_X7_draws (l : Launch) (E : kE) (m0 : Nat) (A0 : Nat) (V0 : Nat) (Z0 : Nat) (D0 : Nat) (W0 : Nat) (T0 : Nat) (sm : Int32) (th : Int32) (pl : Int32) (hz : Int32) (tl : Int32) (tw : Int32) (tc : Int32) (h : Nat) (w : Nat) (n0 : Nat) (wd : Int32) (z : Int32) (st : Nat → Int32) (he : Nat → Int32) (ke : Nat → Int32) (tu : Nat → Int32) (ca : Nat → Int32) (tr : Nat → Int32) (co : Nat → Int32) (la : Nat → Int32) (m9 : Nat) (hn0 : n0 < 2147483648) (hm : 0 < m9) (hm2 : m9 < 2147483648) : kC E l yX7_draws wsX7_draws rmX7_draws [.ref m0, .int (nI m9)] (List.flatten [oc m0 7 [.ref A0, .ref V0, .ref Z0, .int sm, .int th, .int pl, .int hz, .ref D0, .ref W0, .ref T0, .int tl, .int tw, .int tc], ac E A0 985 (mA h w wd (nI n0) z st he ke tu ca tr co la)]) kI (fun (r : Int32) (_ : Unit) => r = nI (drwS n0 / 65536 % m9)) (fun _ => List.flatten [oc m0 7 [.ref A0, .ref V0, .ref Z0, .int sm, .int th, .int pl, .int hz, .ref D0, .ref W0, .ref T0, .int tl, .int tw, .int tc], ac E A0 985 (mA h w wd (nI (drwS n0)) z st he ke tu ca tr co la)]) 0 0 := by
  refine k_body (cc := cX7_draws) (maxL := 4) (ret := (some .int)) (by decide) rfl (Nat.le_of_ble_eq_true rfl) ?_
  intro pp ee sx mm aa bb me cd H locs AA ls C0 hr hlk hnm hl hw
  obtain ⟨hx, hb, hml, hown, hts⟩ := id C0
  have hl : lv_has ls 4 [(0, .ref m0), (1, .int (nI m9))] := hl
  have hw : kW E AA sx (List.flatten [oc m0 7 [.ref A0, .ref V0, .ref Z0, .int sm, .int th, .int pl, .int hz, .ref D0, .ref W0, .ref T0, .int tl, .int tw, .int tc], ac E A0 985 (mA h w wd (nI n0) z st he ke tu ca tr co la)]) H locs := hw
  have hinX7 : ∀ w ∈ u_ws RX7 TX7 13, w ∈ wsX7_draws := by decide +kernel
  have hdl := drwS_lt n0
  refine lv_ldc2 (v := 1103515245) hx hb hown (hts (.constantLong RX7 110 1103515245) (by decide +kernel)) dX7_draws_0 ?_
  refine lv_aload_n hx hb dX7_draws_3 rfl (lv_at hl 0 rfl) ?_
  refine k_get (pre := []) C0 hw hinX7 rfl 0 (by decide) (hts (.fieldLink RX7 7 "SlabDunesModel" "all" "[I") (by decide +kernel)) rfl rfl dX7_draws_4 ?_
  refine lv_bipush (v := 7) hx hb dX7_draws_7 (by decide) ?_
  refine k_iald (pre := [oc m0 7 [.ref A0, .ref V0, .ref Z0, .int sm, .int th, .int pl, .int hz, .ref D0, .ref W0, .ref T0, .int tl, .int tw, .int tc]]) (l1 := []) C0 hw (i := 7) (kinN (n := 7) (by decide) (by decide)) dX7_draws_9 ?_
  refine W.eq (g2 := F0 mm 10 ls [.int (nI n0), .long 1103515245]) (congrArg (fun z9 => F0 mm 10 ls [.int z9, .long 1103515245]) (show ((mA h w wd (nI n0) z st he ke tu ca tr co la) (Int32.toNatClampNeg 7) : Int32) = nI n0 from rfl)) ?_
  refine lv_i2l (v := Int32.toInt64 (nI n0)) hx hb dX7_draws_10 rfl ?_
  refine lv_lmul hx hb dX7_draws_11 ?_
  refine lv_ldc2 (v := 12345) hx hb hown (hts (.constantLong RX7 112 12345) (by decide +kernel)) dX7_draws_12 ?_
  refine lv_ladd hx hb dX7_draws_15 ?_
  refine lv_ldc2 (v := 2147483648) hx hb hown (hts (.constantLong RX7 114 2147483648) (by decide +kernel)) dX7_draws_16 ?_
  refine lv_lrem hx hb dX7_draws_19 (by decide) ?_
  refine W.eq (g2 := F0 mm 20 ls [.long (lN (drwS n0))]) (congrArg (fun z9 => F0 mm 20 ls [.long z9]) (show (((1103515245 * (Int32.toInt64 (nI n0))) + 12345) - ((1103515245 * (Int32.toInt64 (nI n0))) + 12345) / 2147483648 * 2147483648 : Int64) = lN (drwS n0) from drw_2 hn0)) ?_
  refine lv_lstore_n (lv' := [(2, .long (lN (drwS n0))), (0, .ref m0), (1, .int (nI m9))]) hx hb dX7_draws_20 rfl hl (by decide) rfl (fun ls hl => ?_)
  refine lv_aload_n hx hb dX7_draws_21 rfl (lv_at hl 1 rfl) ?_
  refine k_get (pre := []) C0 hw hinX7 rfl 0 (by decide) (hts (.fieldLink RX7 7 "SlabDunesModel" "all" "[I") (by decide +kernel)) rfl rfl dX7_draws_22 ?_
  refine lv_bipush (v := 7) hx hb dX7_draws_25 (by decide) ?_
  refine lv_lload_n hx hb dX7_draws_27 rfl (lv_at hl 0 rfl) ?_
  refine lv_l2i (v := (lN (drwS n0)).toInt32) hx hb dX7_draws_28 rfl ?_
  refine W.eq (g2 := F0 mm 29 ls [.int (nI (drwS n0)), .int 7, .ref A0]) (congrArg (fun z9 => F0 mm 29 ls [.int z9, .int 7, .ref A0]) (show ((lN (drwS n0)).toInt32 : Int32) = nI (drwS n0) from lN_i _)) ?_
  refine k_iast (pre := [oc m0 7 [.ref A0, .ref V0, .ref Z0, .int sm, .int th, .int pl, .int hz, .ref D0, .ref W0, .ref T0, .int tl, .int tw, .int tc]]) (l1 := []) C0 hw (i := 7) (kinN (n := 7) (by decide) (by decide)) dX7_draws_29 (fun H locs hw => ?_)
  have hw : kW E AA sx (List.flatten [oc m0 7 [.ref A0, .ref V0, .ref Z0, .int sm, .int th, .int pl, .int hz, .ref D0, .ref W0, .ref T0, .int tl, .int tw, .int tc], ac E A0 985 (upd (mA h w wd (nI n0) z st he ke tu ca tr co la) (Int32.toNatClampNeg 7) (nI (drwS n0)))]) H locs := hw
  have hw : kW E AA sx (List.flatten [oc m0 7 [.ref A0, .ref V0, .ref Z0, .int sm, .int th, .int pl, .int hz, .ref D0, .ref W0, .ref T0, .int tl, .int tw, .int tc], ac E A0 985 (mA h w wd (nI (drwS n0)) z st he ke tu ca tr co la)]) H locs := kW.arr (pre := [oc m0 7 [.ref A0, .ref V0, .ref Z0, .int sm, .int th, .int pl, .int hz, .ref D0, .ref W0, .ref T0, .int tl, .int tw, .int tc]]) (l1 := []) hw (fun j _ => mA_ws j)
  refine lv_lload_n hx hb dX7_draws_30 rfl (lv_at hl 0 rfl) ?_
  refine lv_ldc2 (v := 65536) hx hb hown (hts (.constantLong RX7 116 65536) (by decide +kernel)) dX7_draws_31 ?_
  refine lv_ldiv hx hb dX7_draws_34 (by decide) ?_
  refine W.eq (g2 := F0 mm 35 ls [.long (lN (drwS n0 / 65536))]) (congrArg (fun z9 => F0 mm 35 ls [.long z9]) (show ((lN (drwS n0)) / 65536 : Int64) = lN (drwS n0 / 65536) from pk_lDiv (b := 65536) (by omega) (by decide) (by decide))) ?_
  refine lv_iload_n hx hb dX7_draws_35 rfl (lv_at hl 2 rfl) ?_
  refine lv_i2l (v := Int32.toInt64 (nI m9)) hx hb dX7_draws_36 rfl ?_
  refine W.eq (g2 := F0 mm 37 ls [.long (lN m9), .long (lN (drwS n0 / 65536))]) (congrArg (fun z9 => F0 mm 37 ls [.long z9, .long (lN (drwS n0 / 65536))]) (show (Int32.toInt64 (nI m9) : Int64) = lN m9 from nI_l (by omega))) ?_
  refine lv_lrem hx hb dX7_draws_37 (fun h99 => by have h98 := (pk_lEQ (a := m9) (b := 0) (by omega) (by omega)).mp h99; omega) ?_
  refine W.eq (g2 := F0 mm 38 ls [.long (lN (drwS n0 / 65536 % m9))]) (congrArg (fun z9 => F0 mm 38 ls [.long z9]) (show ((lN (drwS n0 / 65536)) - (lN (drwS n0 / 65536)) / (lN m9) * (lN m9) : Int64) = lN (drwS n0 / 65536 % m9) from pk_lRem (by omega) (by omega) (by omega))) ?_
  refine lv_l2i (v := (lN (drwS n0 / 65536 % m9)).toInt32) hx hb dX7_draws_38 rfl ?_
  refine W.eq (g2 := F0 mm 39 ls [.int (nI (drwS n0 / 65536 % m9))]) (congrArg (fun z9 => F0 mm 39 ls [.int z9]) (show ((lN (drwS n0 / 65536 % m9)).toInt32 : Int32) = nI (drwS n0 / 65536 % m9) from lN_i _)) ?_
  -- leaf 0
  exact k_iret C0 hr hlk hw () (rfl) (rfl) (Nat.le_of_ble_eq_true rfl) (Nat.le_of_ble_eq_true rfl) dX7_draws_39

abbrev rmX7_slides : Room := { frames := 1, cells := 0, slots := 0, locals := 21 }
set_option maxHeartbeats 4000000 in
set_option maxRecDepth 100000 in
theorem c_X7_slides (l : Launch) (E : kE) (m0 : Nat) (A0 : Nat) (V0 : Nat) (Z0 : Nat) (D0 : Nat) (W0 : Nat) (T0 : Nat) (sm : Int32) (th : Int32) (pl : Int32) (hz : Int32) (tl : Int32) (tw : Int32) (tc : Int32) (h : Nat) (w : Nat) (wd : Int32) (s0 : Int32) (z : Int32) (st : Nat → Int32) (he : Nat → Int32) (ke : Nat → Int32) (tu : Nat → Int32) (ca : Nat → Int32) (tr : Nat → Int32) (co : Nat → Int32) (la : Nat → Int32) (k : Nat) (j : Nat) (hG : kG h w) (hc : k < h * w) (hj : j < h * w) : kC E l yX7_slides wsX7_slides rmX7_slides [.ref m0, .int (nI k), .int (nI j)] (List.flatten [oc m0 7 [.ref A0, .ref V0, .ref Z0, .int sm, .int th, .int pl, .int hz, .ref D0, .ref W0, .ref T0, .int tl, .int tw, .int tc], ac E A0 985 (mA h w wd s0 z st he ke tu ca tr co la)]) kV (fun (_ : Unit) (_ : Unit) => True) (fun _ => List.flatten [oc m0 7 [.ref A0, .ref V0, .ref Z0, .int sm, .int th, .int pl, .int hz, .ref D0, .ref W0, .ref T0, .int tl, .int tw, .int tc], ac E A0 985 (mA h w wd s0 z st (sld he k j) ke tu ca tr (c9 co) la)]) 0 0 := by
  refine k_body (cc := cX7_slides) (maxL := 3) (ret := none) (by decide) rfl (Nat.le_of_ble_eq_true rfl) ?_
  intro pp ee sx mm aa bb me cd H locs AA ls C0 hr hlk hnm hl hw
  obtain ⟨hx, hb, hml, hown, hts⟩ := id C0
  have hl : lv_has ls 3 [(0, .ref m0), (1, .int (nI k)), (2, .int (nI j))] := hl
  have hw : kW E AA sx (List.flatten [oc m0 7 [.ref A0, .ref V0, .ref Z0, .int sm, .int th, .int pl, .int hz, .ref D0, .ref W0, .ref T0, .int tl, .int tw, .int tc], ac E A0 985 (mA h w wd s0 z st he ke tu ca tr co la)]) H locs := hw
  have hn9 := kG_n hG
  have hG9 := id hG
  obtain ⟨hG1, hG2, hG3, hG4⟩ := hG9
  have hinX7 : ∀ w ∈ u_ws RX7 TX7 13, w ∈ wsX7_slides := by decide +kernel
  refine lv_aload_n hx hb dX7_slides_0 rfl (lv_at hl 0 rfl) ?_
  refine k_get (pre := []) C0 hw hinX7 rfl 0 (by decide) (hts (.fieldLink RX7 7 "SlabDunesModel" "all" "[I") (by decide +kernel)) rfl rfl dX7_slides_1 ?_
  refine lv_iload_n hx hb dX7_slides_4 rfl (lv_at hl 1 rfl) ?_
  refine lv_iconst (v := 0) hx hb dX7_slides_5 (by decide) ?_
  refine k_S (As := [.int (nI k), .int 0]) (rest := [.ref A0]) (pre := []) (mid := []) C0 (c_X7_at l E k 0 ) (va_cwS 2 hts gX7_slides_X7_at rfl rfl rfl (by decide +kernel) ⟨Nat.le_of_ble_eq_true rfl, Nat.le_of_ble_eq_true rfl⟩) hw rfl (fun _ => []) (fun _ => rfl) rfl hl.1 rfl (Nat.le_of_ble_eq_true rfl) dX7_slides_6 ⟨Nat.le_of_ble_eq_true rfl, Nat.le_of_ble_eq_true rfl⟩ (fun r u H locs hq99 hw => ?_)
  subst hq99
  have hw : kW E AA sx (List.flatten [oc m0 7 [.ref A0, .ref V0, .ref Z0, .int sm, .int th, .int pl, .int hz, .ref D0, .ref W0, .ref T0, .int tl, .int tw, .int tc], ac E A0 985 (mA h w wd s0 z st he ke tu ca tr co la)]) H locs := hw
  refine W.eq (g2 := F0 mm 9 ls [.int (nI (25 + 5 * k + 0)), .ref A0]) rfl ?_
  refine lv_dup2_11 hx hb dX7_slides_9 rfl rfl ?_
  refine k_iald (pre := [oc m0 7 [.ref A0, .ref V0, .ref Z0, .int sm, .int th, .int pl, .int hz, .ref D0, .ref W0, .ref T0, .int tl, .int tw, .int tc]]) (l1 := []) C0 hw (i := nI (25 + 5 * k + 0)) (kinN (by omega) (by decide)) dX7_slides_10 ?_
  refine W.eq (g2 := F0 mm 11 ls [.int (he k), .int (nI (25 + 5 * k + 0)), .ref A0]) (congrArg (fun z9 => F0 mm 11 ls [.int z9, .int (nI (25 + 5 * k + 0)), .ref A0]) (show ((mA h w wd s0 z st he ke tu ca tr co la) (Int32.toNatClampNeg (nI (25 + 5 * k + 0))) : Int32) = he k from mA_ld (i := 0) hc hn9.1 (by decide))) ?_
  refine lv_iconst (v := 1) hx hb dX7_slides_11 (by decide) ?_
  refine lv_isub hx hb dX7_slides_12 ?_
  refine W.eq (g2 := F0 mm 13 ls [.int (he k + (-1)), .int (nI (25 + 5 * k + 0)), .ref A0]) (congrArg (fun z9 => F0 mm 13 ls [.int z9, .int (nI (25 + 5 * k + 0)), .ref A0]) (show ((he k) - 1 : Int32) = he k + (-1) from Int32.sub_eq_add_neg _ _)) ?_
  refine k_iast (pre := [oc m0 7 [.ref A0, .ref V0, .ref Z0, .int sm, .int th, .int pl, .int hz, .ref D0, .ref W0, .ref T0, .int tl, .int tw, .int tc]]) (l1 := []) C0 hw (i := nI (25 + 5 * k + 0)) (kinN (by omega) (by decide)) dX7_slides_13 (fun H locs hw => ?_)
  have hw : kW E AA sx (List.flatten [oc m0 7 [.ref A0, .ref V0, .ref Z0, .int sm, .int th, .int pl, .int hz, .ref D0, .ref W0, .ref T0, .int tl, .int tw, .int tc], ac E A0 985 (upd (mA h w wd s0 z st he ke tu ca tr co la) (Int32.toNatClampNeg (nI (25 + 5 * k + 0))) (he k + (-1)))]) H locs := hw
  have hw : kW E AA sx (List.flatten [oc m0 7 [.ref A0, .ref V0, .ref Z0, .int sm, .int th, .int pl, .int hz, .ref D0, .ref W0, .ref T0, .int tl, .int tw, .int tc], ac E A0 985 (mA h w wd s0 z st (upd he k (he k + (-1))) ke tu ca tr co la)]) H locs := kW.arr (pre := [oc m0 7 [.ref A0, .ref V0, .ref Z0, .int sm, .int th, .int pl, .int hz, .ref D0, .ref W0, .ref T0, .int tl, .int tw, .int tc]]) (l1 := []) hw (fun j9 _ => mA_wh hc hn9.1 j9)
  refine lv_aload_n hx hb dX7_slides_14 rfl (lv_at hl 0 rfl) ?_
  refine k_get (pre := []) C0 hw hinX7 rfl 0 (by decide) (hts (.fieldLink RX7 7 "SlabDunesModel" "all" "[I") (by decide +kernel)) rfl rfl dX7_slides_15 ?_
  refine lv_iload_n hx hb dX7_slides_18 rfl (lv_at hl 2 rfl) ?_
  refine lv_iconst (v := 0) hx hb dX7_slides_19 (by decide) ?_
  refine k_S (As := [.int (nI j), .int 0]) (rest := [.ref A0]) (pre := []) (mid := []) C0 (c_X7_at l E j 0 ) (va_cwS 2 hts gX7_slides_X7_at rfl rfl rfl (by decide +kernel) ⟨Nat.le_of_ble_eq_true rfl, Nat.le_of_ble_eq_true rfl⟩) hw rfl (fun _ => []) (fun _ => rfl) rfl hl.1 rfl (Nat.le_of_ble_eq_true rfl) dX7_slides_20 ⟨Nat.le_of_ble_eq_true rfl, Nat.le_of_ble_eq_true rfl⟩ (fun r u H locs hq99 hw => ?_)
  subst hq99
  have hw : kW E AA sx (List.flatten [oc m0 7 [.ref A0, .ref V0, .ref Z0, .int sm, .int th, .int pl, .int hz, .ref D0, .ref W0, .ref T0, .int tl, .int tw, .int tc], ac E A0 985 (mA h w wd s0 z st (upd he k (he k + (-1))) ke tu ca tr co la)]) H locs := hw
  refine W.eq (g2 := F0 mm 23 ls [.int (nI (25 + 5 * j + 0)), .ref A0]) rfl ?_
  refine lv_dup2_11 hx hb dX7_slides_23 rfl rfl ?_
  refine k_iald (pre := [oc m0 7 [.ref A0, .ref V0, .ref Z0, .int sm, .int th, .int pl, .int hz, .ref D0, .ref W0, .ref T0, .int tl, .int tw, .int tc]]) (l1 := []) C0 hw (i := nI (25 + 5 * j + 0)) (kinN (by omega) (by decide)) dX7_slides_24 ?_
  refine W.eq (g2 := F0 mm 25 ls [.int (upd he k (he k + (-1)) j), .int (nI (25 + 5 * j + 0)), .ref A0]) (congrArg (fun z9 => F0 mm 25 ls [.int z9, .int (nI (25 + 5 * j + 0)), .ref A0]) (show ((mA h w wd s0 z st (upd he k (he k + (-1))) ke tu ca tr co la) (Int32.toNatClampNeg (nI (25 + 5 * j + 0))) : Int32) = upd he k (he k + (-1)) j from mA_ld (i := 0) hj hn9.1 (by decide))) ?_
  refine lv_iconst (v := 1) hx hb dX7_slides_25 (by decide) ?_
  refine lv_iadd hx hb dX7_slides_26 ?_
  refine k_iast (pre := [oc m0 7 [.ref A0, .ref V0, .ref Z0, .int sm, .int th, .int pl, .int hz, .ref D0, .ref W0, .ref T0, .int tl, .int tw, .int tc]]) (l1 := []) C0 hw (i := nI (25 + 5 * j + 0)) (kinN (by omega) (by decide)) dX7_slides_27 (fun H locs hw => ?_)
  have hw : kW E AA sx (List.flatten [oc m0 7 [.ref A0, .ref V0, .ref Z0, .int sm, .int th, .int pl, .int hz, .ref D0, .ref W0, .ref T0, .int tl, .int tw, .int tc], ac E A0 985 (upd (mA h w wd s0 z st (upd he k (he k + (-1))) ke tu ca tr co la) (Int32.toNatClampNeg (nI (25 + 5 * j + 0))) ((upd he k (he k + (-1)) j) + 1))]) H locs := hw
  have hw : kW E AA sx (List.flatten [oc m0 7 [.ref A0, .ref V0, .ref Z0, .int sm, .int th, .int pl, .int hz, .ref D0, .ref W0, .ref T0, .int tl, .int tw, .int tc], ac E A0 985 (mA h w wd s0 z st (sld he k j) ke tu ca tr co la)]) H locs := kW.arr (pre := [oc m0 7 [.ref A0, .ref V0, .ref Z0, .int sm, .int th, .int pl, .int hz, .ref D0, .ref W0, .ref T0, .int tl, .int tw, .int tc]]) (l1 := []) hw (fun j9 _ => mA_wh hj hn9.1 j9)
  refine lv_aload_n hx hb dX7_slides_28 rfl (lv_at hl 0 rfl) ?_
  refine k_get (pre := []) C0 hw hinX7 rfl 0 (by decide) (hts (.fieldLink RX7 7 "SlabDunesModel" "all" "[I") (by decide +kernel)) rfl rfl dX7_slides_29 ?_
  refine lv_bipush (v := 18) hx hb dX7_slides_32 (by decide) ?_
  refine lv_dup2_11 hx hb dX7_slides_34 rfl rfl ?_
  refine k_iald (pre := [oc m0 7 [.ref A0, .ref V0, .ref Z0, .int sm, .int th, .int pl, .int hz, .ref D0, .ref W0, .ref T0, .int tl, .int tw, .int tc]]) (l1 := []) C0 hw (i := 18) (kinN (n := 18) (by decide) (by decide)) dX7_slides_35 ?_
  refine W.eq (g2 := F0 mm 36 ls [.int (co 9), .int 18, .ref A0]) (congrArg (fun z9 => F0 mm 36 ls [.int z9, .int 18, .ref A0]) (show ((mA h w wd s0 z st (sld he k j) ke tu ca tr co la) (Int32.toNatClampNeg 18) : Int32) = co 9 from mA_cn (k := 9) (by decide))) ?_
  refine lv_iconst (v := 1) hx hb dX7_slides_36 (by decide) ?_
  refine lv_iadd hx hb dX7_slides_37 ?_
  refine k_iast (pre := [oc m0 7 [.ref A0, .ref V0, .ref Z0, .int sm, .int th, .int pl, .int hz, .ref D0, .ref W0, .ref T0, .int tl, .int tw, .int tc]]) (l1 := []) C0 hw (i := 18) (kinN (n := 18) (by decide) (by decide)) dX7_slides_38 (fun H locs hw => ?_)
  have hw : kW E AA sx (List.flatten [oc m0 7 [.ref A0, .ref V0, .ref Z0, .int sm, .int th, .int pl, .int hz, .ref D0, .ref W0, .ref T0, .int tl, .int tw, .int tc], ac E A0 985 (upd (mA h w wd s0 z st (sld he k j) ke tu ca tr co la) (Int32.toNatClampNeg 18) ((co 9) + 1))]) H locs := hw
  have hw : kW E AA sx (List.flatten [oc m0 7 [.ref A0, .ref V0, .ref Z0, .int sm, .int th, .int pl, .int hz, .ref D0, .ref W0, .ref T0, .int tl, .int tw, .int tc], ac E A0 985 (mA h w wd s0 z st (sld he k j) ke tu ca tr (c9 co) la)]) H locs := kW.arr (pre := [oc m0 7 [.ref A0, .ref V0, .ref Z0, .int sm, .int th, .int pl, .int hz, .ref D0, .ref W0, .ref T0, .int tl, .int tw, .int tc]]) (l1 := []) hw (fun j9 _ => mA_wc (k := 9) (by decide) j9)
  -- leaf 0
  exact k_vret C0 hr hlk hw () (rfl) (trivial) (Nat.le_of_ble_eq_true rfl) (Nat.le_of_ble_eq_true rfl) dX7_slides_39

abbrev rmX7_steepest : Room := { frames := 2, cells := 0, slots := 0, locals := 49 }
set_option maxHeartbeats 4000000 in
set_option maxRecDepth 100000 in
theorem c_X7_steepest (l : Launch) (E : kE) (m0 : Nat) (A0 : Nat) (V0 : Nat) (Z0 : Nat) (D0 : Nat) (W0 : Nat) (T0 : Nat) (sm : Int32) (th : Int32) (pl : Int32) (hz : Int32) (tl : Int32) (tw : Int32) (tc : Int32) (h : Nat) (w : Nat) (wd : Int32) (s0 : Int32) (z : Int32) (st : Nat → Int32) (he : Nat → Int32) (ke : Nat → Int32) (tu : Nat → Int32) (ca : Nat → Int32) (tr : Nat → Int32) (co : Nat → Int32) (la : Nat → Int32) (k : Nat) (wy : Int32) (hG : kG h w) (hc : k < h * w) : kC E l yX7_steepest wsX7_steepest rmX7_steepest [.ref m0, .int (nI k), .int wy] (List.flatten [oc m0 7 [.ref A0, .ref V0, .ref Z0, .int sm, .int th, .int pl, .int hz, .ref D0, .ref W0, .ref T0, .int tl, .int tw, .int tc], ac E A0 985 (mA h w wd s0 z st he ke tu ca tr co la)]) kI (fun (r : Int32) (_ : Unit) => r = stB1 h w (st 3) he wy k 4) (fun _ => List.flatten [oc m0 7 [.ref A0, .ref V0, .ref Z0, .int sm, .int th, .int pl, .int hz, .ref D0, .ref W0, .ref T0, .int tl, .int tw, .int tc], ac E A0 985 (mA h w wd s0 z st he ke tu ca tr co la)]) 0 0 := by
  refine k_body (cc := cX7_steepest) (maxL := 8) (ret := (some .int)) (by decide) rfl (Nat.le_of_ble_eq_true rfl) ?_
  intro pp ee sx mm aa bb me cd H locs AA ls C0 hr hlk hnm hl hw
  obtain ⟨hx, hb, hml, hown, hts⟩ := id C0
  have hl : lv_has ls 8 [(0, .ref m0), (1, .int (nI k)), (2, .int wy)] := hl
  have hw : kW E AA sx (List.flatten [oc m0 7 [.ref A0, .ref V0, .ref Z0, .int sm, .int th, .int pl, .int hz, .ref D0, .ref W0, .ref T0, .int tl, .int tw, .int tc], ac E A0 985 (mA h w wd s0 z st he ke tu ca tr co la)]) H locs := hw
  have hn9 := kG_n hG
  have hG9 := id hG
  obtain ⟨hG1, hG2, hG3, hG4⟩ := hG9
  have hinX7 : ∀ w ∈ u_ws RX7 TX7 13, w ∈ wsX7_steepest := by decide +kernel
  refine lv_iconst (v := (-1)) hx hb dX7_steepest_0 (by decide) ?_
  refine lv_istore_n (lv' := [(3, .int (-1)), (0, .ref m0), (1, .int (nI k)), (2, .int wy)]) hx hb dX7_steepest_1 rfl hl (by decide) rfl (fun ls hl => ?_)
  refine lv_aload_n hx hb dX7_steepest_2 rfl (lv_at hl 1 rfl) ?_
  refine k_get (pre := []) C0 hw hinX7 rfl 0 (by decide) (hts (.fieldLink RX7 7 "SlabDunesModel" "all" "[I") (by decide +kernel)) rfl rfl dX7_steepest_3 ?_
  refine lv_iconst (v := 3) hx hb dX7_steepest_6 (by decide) ?_
  refine k_iald (pre := [oc m0 7 [.ref A0, .ref V0, .ref Z0, .int sm, .int th, .int pl, .int hz, .ref D0, .ref W0, .ref T0, .int tl, .int tw, .int tc]]) (l1 := []) C0 hw (i := 3) (kinN (n := 3) (by decide) (by decide)) dX7_steepest_7 ?_
  refine W.eq (g2 := F0 mm 8 ls [.int (st 3)]) (congrArg (fun z9 => F0 mm 8 ls [.int z9]) (show ((mA h w wd s0 z st he ke tu ca tr co la) (Int32.toNatClampNeg 3) : Int32) = st 3 from rfl)) ?_
  refine lv_istore (lv' := [(4, .int (st 3)), (3, .int (-1)), (0, .ref m0), (1, .int (nI k)), (2, .int wy)]) hx hb dX7_steepest_8 hl (by decide) rfl (fun ls hl => ?_)
  refine lv_iconst (v := 0) hx hb dX7_steepest_10 (by decide) ?_
  refine lv_istore (lv' := [(5, .int 0), (4, .int (st 3)), (3, .int (-1)), (0, .ref m0), (1, .int (nI k)), (2, .int wy)]) hx hb dX7_steepest_11 hl (by decide) rfl (fun ls hl => ?_)
  have loop13 : ∀ (nn : Nat) (i : Nat) (b9 : Int32) (m9 : Int32), (i ≤ 4) → (b9 = stB1 h w (st 3) he wy k i) → (m9 = stB2 h w (st 3) he wy k i) → 4 - i < nn → ∀ (H : Heap) (locs : List Loc) (ls : Array Slot), lv_has ls 8 [(5, .int (nI i)), (4, .int m9), (3, .int b9), (0, .ref m0), (1, .int (nI k)), (2, .int wy)] → kW E AA sx (List.flatten [oc m0 7 [.ref A0, .ref V0, .ref Z0, .int sm, .int th, .int pl, .int hz, .ref D0, .ref W0, .ref T0, .int tl, .int tw, .int tc], ac E A0 985 (mA h w wd s0 z st he ke tu ca tr co la)]) H locs → W pp l ee rmX7_steepest sx mm aa bb me cd H locs 0 0 (kEnd E kI (fun (r : Int32) (_ : Unit) => r = stB1 h w (st 3) he wy k 4) (fun _ => List.flatten [oc m0 7 [.ref A0, .ref V0, .ref Z0, .int sm, .int th, .int pl, .int hz, .ref D0, .ref W0, .ref T0, .int tl, .int tw, .int tc], ac E A0 985 (mA h w wd s0 z st he ke tu ca tr co la)]) bb aa sx AA 0 0) (F0 mm 13 ls []) := by
    intro nn
    induction nn with
    | zero => intro i b9 m9 hi hbv hm hm13; exact absurd hm13 (Nat.not_lt_zero _)
    | succ nn ih13 =>
      intro i b9 m9 hi hbv hm hm13 H locs ls hl hw
      refine lv_iload hx hb dX7_steepest_13 (lv_at hl 0 rfl) ?_
      refine lv_iconst (v := 4) hx hb dX7_steepest_15 (by decide) ?_
      refine lv_icmp_ge (tgt := 82) hx hb dX7_steepest_16 (by decide) (fun c16 => ?_) (fun c16 => ?_)
      · have c16 : 4 ≤ i := (nI_leI (a := 4) (b := i) (by omega) (by omega)).mp c16
        refine lv_iload_n hx hb dX7_steepest_82 rfl (lv_at hl 2 rfl) ?_
        -- leaf 0
        exact k_iret C0 hr hlk hw () (rfl) (by rw [hbv, show i = 4 by omega]) (Nat.le_of_ble_eq_true rfl) (Nat.le_of_ble_eq_true rfl) dX7_steepest_83
      · have c16 : ¬ 4 ≤ i := fun h99 => c16 ((nI_leI (a := 4) (b := i) (by omega) (by omega)).mpr h99)
        refine lv_aload_n hx hb dX7_steepest_19 rfl (lv_at hl 3 rfl) ?_
        refine lv_iload_n hx hb dX7_steepest_20 rfl (lv_at hl 4 rfl) ?_
        refine lv_iload hx hb dX7_steepest_21 (lv_at hl 0 rfl) ?_
        refine k_V (As := [.int (nI k), .int (nI i)]) (rest := []) (pre := []) (mid := [oc m0 7 [.ref A0, .ref V0, .ref Z0, .int sm, .int th, .int pl, .int hz, .ref D0, .ref W0, .ref T0, .int tl, .int tw, .int tc], ac E A0 985 (mA h w wd s0 z st he ke tu ca tr co la)]) C0 (c_X7_neighbor l E m0 A0 V0 Z0 D0 W0 T0 sm th pl hz tl tw tc h w wd s0 z st he ke tu ca tr co la k i (by first | assumption | omega) (by first | assumption | omega) (by first | assumption | omega)) (cwV 2 hts gX7_steepest_X7_neighbor rfl rfl rfl (by decide +kernel) ⟨Nat.le_of_ble_eq_true rfl, Nat.le_of_ble_eq_true rfl⟩) hw rfl (fun _ => [oc m0 7 [.ref A0, .ref V0, .ref Z0, .int sm, .int th, .int pl, .int hz, .ref D0, .ref W0, .ref T0, .int tl, .int tw, .int tc], ac E A0 985 (mA h w wd s0 z st he ke tu ca tr co la)]) (fun _ => rfl) 0 7 rfl rfl rfl rfl hl.1 rfl (Nat.le_of_ble_eq_true rfl) dX7_steepest_23 ⟨Nat.le_of_ble_eq_true rfl, Nat.le_of_ble_eq_true rfl⟩ (fun r u H locs hq99 hw => ?_)
        subst hq99
        have hw : kW E AA sx (List.flatten [oc m0 7 [.ref A0, .ref V0, .ref Z0, .int sm, .int th, .int pl, .int hz, .ref D0, .ref W0, .ref T0, .int tl, .int tw, .int tc], ac E A0 985 (mA h w wd s0 z st he ke tu ca tr co la)]) H locs := hw
        refine W.eq (g2 := F0 mm 26 ls [.int (nI (nbr h w k i))]) rfl ?_
        refine lv_istore (lv' := [(6, .int (nI (nbr h w k i))), (5, .int (nI i)), (4, .int m9), (3, .int b9), (0, .ref m0), (1, .int (nI k)), (2, .int wy)]) hx hb dX7_steepest_26 hl (by decide) rfl (fun ls hl => ?_)
        refine lv_iload_n hx hb dX7_steepest_28 rfl (lv_at hl 6 rfl) ?_
        refine lv_aload_n hx hb dX7_steepest_29 rfl (lv_at hl 4 rfl) ?_
        refine lv_iload_n hx hb dX7_steepest_30 rfl (lv_at hl 5 rfl) ?_
        refine lv_iconst (v := 0) hx hb dX7_steepest_31 (by decide) ?_
        refine k_V (As := [.int (nI k), .int 0]) (rest := [.int wy]) (pre := []) (mid := [oc m0 7 [.ref A0, .ref V0, .ref Z0, .int sm, .int th, .int pl, .int hz, .ref D0, .ref W0, .ref T0, .int tl, .int tw, .int tc], ac E A0 985 (mA h w wd s0 z st he ke tu ca tr co la)]) C0 (c_X7_of0 l E m0 A0 V0 Z0 D0 W0 T0 sm th pl hz tl tw tc h w wd s0 z st he ke tu ca tr co la k (by first | assumption | omega) (by first | assumption | omega)) (cwV 2 hts gX7_steepest_X7_of rfl rfl rfl (by decide +kernel) ⟨Nat.le_of_ble_eq_true rfl, Nat.le_of_ble_eq_true rfl⟩) hw rfl (fun _ => [oc m0 7 [.ref A0, .ref V0, .ref Z0, .int sm, .int th, .int pl, .int hz, .ref D0, .ref W0, .ref T0, .int tl, .int tw, .int tc], ac E A0 985 (mA h w wd s0 z st he ke tu ca tr co la)]) (fun _ => rfl) 0 7 rfl rfl rfl rfl hl.1 rfl (Nat.le_of_ble_eq_true rfl) dX7_steepest_32 ⟨Nat.le_of_ble_eq_true rfl, Nat.le_of_ble_eq_true rfl⟩ (fun r u H locs hq99 hw => ?_)
        subst hq99
        have hw : kW E AA sx (List.flatten [oc m0 7 [.ref A0, .ref V0, .ref Z0, .int sm, .int th, .int pl, .int hz, .ref D0, .ref W0, .ref T0, .int tl, .int tw, .int tc], ac E A0 985 (mA h w wd s0 z st he ke tu ca tr co la)]) H locs := hw
        refine W.eq (g2 := F0 mm 35 ls [.int (he k), .int wy]) rfl ?_
        refine lv_aload_n hx hb dX7_steepest_35 rfl (lv_at hl 4 rfl) ?_
        refine lv_iload hx hb dX7_steepest_36 (lv_at hl 0 rfl) ?_
        refine lv_iconst (v := 0) hx hb dX7_steepest_38 (by decide) ?_
        refine k_V (As := [.int (nI (nbr h w k i)), .int 0]) (rest := [.int (he k), .int wy]) (pre := []) (mid := [oc m0 7 [.ref A0, .ref V0, .ref Z0, .int sm, .int th, .int pl, .int hz, .ref D0, .ref W0, .ref T0, .int tl, .int tw, .int tc], ac E A0 985 (mA h w wd s0 z st he ke tu ca tr co la)]) C0 (c_X7_of0 l E m0 A0 V0 Z0 D0 W0 T0 sm th pl hz tl tw tc h w wd s0 z st he ke tu ca tr co la (nbr h w k i) (by first | assumption | omega) (nbr_lt i hG hc)) (cwV 2 hts gX7_steepest_X7_of rfl rfl rfl (by decide +kernel) ⟨Nat.le_of_ble_eq_true rfl, Nat.le_of_ble_eq_true rfl⟩) hw rfl (fun _ => [oc m0 7 [.ref A0, .ref V0, .ref Z0, .int sm, .int th, .int pl, .int hz, .ref D0, .ref W0, .ref T0, .int tl, .int tw, .int tc], ac E A0 985 (mA h w wd s0 z st he ke tu ca tr co la)]) (fun _ => rfl) 0 7 rfl rfl rfl rfl hl.1 rfl (Nat.le_of_ble_eq_true rfl) dX7_steepest_39 ⟨Nat.le_of_ble_eq_true rfl, Nat.le_of_ble_eq_true rfl⟩ (fun r u H locs hq99 hw => ?_)
        subst hq99
        have hw : kW E AA sx (List.flatten [oc m0 7 [.ref A0, .ref V0, .ref Z0, .int sm, .int th, .int pl, .int hz, .ref D0, .ref W0, .ref T0, .int tl, .int tw, .int tc], ac E A0 985 (mA h w wd s0 z st he ke tu ca tr co la)]) H locs := hw
        refine W.eq (g2 := F0 mm 42 ls [.int (he (nbr h w k i)), .int (he k), .int wy]) rfl ?_
        refine lv_isub hx hb dX7_steepest_42 ?_
        refine lv_imul hx hb dX7_steepest_43 ?_
        refine lv_istore (lv' := [(7, .int (wy * ((he k) - (he (nbr h w k i))))), (6, .int (nI (nbr h w k i))), (5, .int (nI i)), (4, .int m9), (3, .int b9), (0, .ref m0), (1, .int (nI k)), (2, .int wy)]) hx hb dX7_steepest_44 hl (by decide) rfl (fun ls hl => ?_)
        refine lv_iload hx hb dX7_steepest_46 (lv_at hl 0 rfl) ?_
        refine lv_iload hx hb dX7_steepest_48 (lv_at hl 3 rfl) ?_
        refine lv_icmp_le (tgt := 58) hx hb dX7_steepest_50 (by decide) (fun c50 => ?_) (fun c50 => ?_)
        · refine lv_iload_n hx hb dX7_steepest_58 rfl (lv_at hl 4 rfl) ?_
          refine lv_istore_n (lv' := [(3, .int b9), (7, .int (wy * ((he k) - (he (nbr h w k i))))), (6, .int (nI (nbr h w k i))), (5, .int (nI i)), (4, .int m9), (0, .ref m0), (1, .int (nI k)), (2, .int wy)]) hx hb dX7_steepest_59 rfl hl (by decide) rfl (fun ls hl => ?_)
          refine lv_iload hx hb dX7_steepest_60 (lv_at hl 1 rfl) ?_
          refine lv_iload hx hb dX7_steepest_62 (lv_at hl 4 rfl) ?_
          refine lv_icmp_le (tgt := 72) hx hb dX7_steepest_64 (by decide) (fun c64 => ?_) (fun c64 => ?_)
          · refine lv_iload hx hb dX7_steepest_72 (lv_at hl 4 rfl) ?_
            refine lv_istore (lv' := [(4, .int m9), (3, .int b9), (7, .int (wy * ((he k) - (he (nbr h w k i))))), (6, .int (nI (nbr h w k i))), (5, .int (nI i)), (0, .ref m0), (1, .int (nI k)), (2, .int wy)]) hx hb dX7_steepest_74 hl (by decide) rfl (fun ls hl => ?_)
            refine lv_iinc (v := nI (i + 1)) (lv' := [(5, .int (nI (i + 1))), (4, .int m9), (3, .int b9), (7, .int (wy * ((he k) - (he (nbr h w k i))))), (6, .int (nI (nbr h w k i))), (0, .ref m0), (1, .int (nI k)), (2, .int wy)]) hx hb dX7_steepest_76 hl (k := 4) rfl (nI_1 _) (by decide) rfl (fun ls hl => ?_)
            refine lv_goto (tgt := 13) hx hb dX7_steepest_79 (by decide) ?_
            -- back 0
            exact ih13 (i + 1) b9 m9 (by first | assumption | omega) (by rw [hm] at c50; rw [hbv]; exact (stB_n (Int32.not_lt.mpr c50)).1) (by rw [hm] at c50 ⊢; exact (stB_n (Int32.not_lt.mpr c50)).2) (by omega) H _ ls (lv_sub hl [0, 1, 2, 5, 6, 7] rfl) hw
          · refine lv_iload hx hb dX7_steepest_67 (lv_at hl 1 rfl) ?_
            refine lv_goto (tgt := 74) hx hb dX7_steepest_69 (by decide) ?_
            refine lv_istore (lv' := [(4, .int (wy * ((he k) - (he (nbr h w k i))))), (3, .int b9), (7, .int (wy * ((he k) - (he (nbr h w k i))))), (6, .int (nI (nbr h w k i))), (5, .int (nI i)), (0, .ref m0), (1, .int (nI k)), (2, .int wy)]) hx hb dX7_steepest_74 hl (by decide) rfl (fun ls hl => ?_)
            refine lv_iinc (v := nI (i + 1)) (lv' := [(5, .int (nI (i + 1))), (4, .int (wy * ((he k) - (he (nbr h w k i))))), (3, .int b9), (7, .int (wy * ((he k) - (he (nbr h w k i))))), (6, .int (nI (nbr h w k i))), (0, .ref m0), (1, .int (nI k)), (2, .int wy)]) hx hb dX7_steepest_76 hl (k := 4) rfl (nI_1 _) (by decide) rfl (fun ls hl => ?_)
            refine lv_goto (tgt := 13) hx hb dX7_steepest_79 (by decide) ?_
            -- back 1
            exact ih13 (i + 1) b9 (wy * ((he k) - (he (nbr h w k i)))) (by first | assumption | omega) (absurd c50 c64) (absurd c50 c64) (by omega) H _ ls (lv_sub hl [0, 1, 2, 5, 6, 7] rfl) hw
        · refine lv_iload hx hb dX7_steepest_53 (lv_at hl 1 rfl) ?_
          refine lv_goto (tgt := 59) hx hb dX7_steepest_55 (by decide) ?_
          refine lv_istore_n (lv' := [(3, .int (nI (nbr h w k i))), (7, .int (wy * ((he k) - (he (nbr h w k i))))), (6, .int (nI (nbr h w k i))), (5, .int (nI i)), (4, .int m9), (0, .ref m0), (1, .int (nI k)), (2, .int wy)]) hx hb dX7_steepest_59 rfl hl (by decide) rfl (fun ls hl => ?_)
          refine lv_iload hx hb dX7_steepest_60 (lv_at hl 1 rfl) ?_
          refine lv_iload hx hb dX7_steepest_62 (lv_at hl 4 rfl) ?_
          refine lv_icmp_le (tgt := 72) hx hb dX7_steepest_64 (by decide) (fun c64 => ?_) (fun c64 => ?_)
          · refine lv_iload hx hb dX7_steepest_72 (lv_at hl 4 rfl) ?_
            refine lv_istore (lv' := [(4, .int m9), (3, .int (nI (nbr h w k i))), (7, .int (wy * ((he k) - (he (nbr h w k i))))), (6, .int (nI (nbr h w k i))), (5, .int (nI i)), (0, .ref m0), (1, .int (nI k)), (2, .int wy)]) hx hb dX7_steepest_74 hl (by decide) rfl (fun ls hl => ?_)
            refine lv_iinc (v := nI (i + 1)) (lv' := [(5, .int (nI (i + 1))), (4, .int m9), (3, .int (nI (nbr h w k i))), (7, .int (wy * ((he k) - (he (nbr h w k i))))), (6, .int (nI (nbr h w k i))), (0, .ref m0), (1, .int (nI k)), (2, .int wy)]) hx hb dX7_steepest_76 hl (k := 4) rfl (nI_1 _) (by decide) rfl (fun ls hl => ?_)
            refine lv_goto (tgt := 13) hx hb dX7_steepest_79 (by decide) ?_
            -- back 2
            exact ih13 (i + 1) (nI (nbr h w k i)) m9 (by first | assumption | omega) (absurd c64 c50) (absurd c64 c50) (by omega) H _ ls (lv_sub hl [0, 1, 2, 5, 6, 7] rfl) hw
          · refine lv_iload hx hb dX7_steepest_67 (lv_at hl 1 rfl) ?_
            refine lv_goto (tgt := 74) hx hb dX7_steepest_69 (by decide) ?_
            refine lv_istore (lv' := [(4, .int (wy * ((he k) - (he (nbr h w k i))))), (3, .int (nI (nbr h w k i))), (7, .int (wy * ((he k) - (he (nbr h w k i))))), (6, .int (nI (nbr h w k i))), (5, .int (nI i)), (0, .ref m0), (1, .int (nI k)), (2, .int wy)]) hx hb dX7_steepest_74 hl (by decide) rfl (fun ls hl => ?_)
            refine lv_iinc (v := nI (i + 1)) (lv' := [(5, .int (nI (i + 1))), (4, .int (wy * ((he k) - (he (nbr h w k i))))), (3, .int (nI (nbr h w k i))), (7, .int (wy * ((he k) - (he (nbr h w k i))))), (6, .int (nI (nbr h w k i))), (0, .ref m0), (1, .int (nI k)), (2, .int wy)]) hx hb dX7_steepest_76 hl (k := 4) rfl (nI_1 _) (by decide) rfl (fun ls hl => ?_)
            refine lv_goto (tgt := 13) hx hb dX7_steepest_79 (by decide) ?_
            -- back 3
            exact ih13 (i + 1) (nI (nbr h w k i)) (wy * ((he k) - (he (nbr h w k i)))) (by first | assumption | omega) (by rw [hm] at c50; exact (stB_y (Int32.not_le.mp c50)).1) (by rw [hm] at c50; exact (stB_y (Int32.not_le.mp c50)).2) (by omega) H _ ls (lv_sub hl [0, 1, 2, 5, 6, 7] rfl) hw
  exact loop13 ((4 - 0) + 1) 0 (-1) (st 3) (by first | assumption | omega) (rfl) (rfl) (Nat.lt_succ_self _) H _ ls (lv_sub hl [0, 1, 2, 3, 4, 5] rfl) hw

abbrev rmX7_hasGot : Room := { frames := 3, cells := 0, slots := 0, locals := 76 }
set_option maxHeartbeats 4000000 in
set_option maxRecDepth 100000 in
theorem c_X7_hasGot (l : Launch) (E : kE) (m0 : Nat) (A0 : Nat) (V0 : Nat) (Z0 : Nat) (D0 : Nat) (W0 : Nat) (T0 : Nat) (sm : Int32) (th : Int32) (pl : Int32) (hz : Int32) (tl : Int32) (tw : Int32) (tc : Int32) (h : Nat) (w : Nat) (wd : Int32) (s0 : Int32) (z : Int32) (st : Nat → Int32) (he : Nat → Int32) (ke : Nat → Int32) (tu : Nat → Int32) (ca : Nat → Int32) (tr : Nat → Int32) (co : Nat → Int32) (la : Nat → Int32) (k : Nat) (B : Nat) (hG : kG h w) (hc : k < h * w) (hH : hI (h * w) he B) (hB : B < 1000000) (hsl : 1 ≤ (st 3).toInt) : kC E l yX7_hasGot wsX7_hasGot rmX7_hasGot [.ref m0, .int (nI k)] (List.flatten [oc m0 7 [.ref A0, .ref V0, .ref Z0, .int sm, .int th, .int pl, .int hz, .ref D0, .ref W0, .ref T0, .int tl, .int tw, .int tc], ac E A0 985 (mA h w wd s0 z st he ke tu ca tr co la)]) kV (fun (_ : Unit) (_ : Unit) => True) (fun _ => List.flatten [oc m0 7 [.ref A0, .ref V0, .ref Z0, .int sm, .int th, .int pl, .int hz, .ref D0, .ref W0, .ref T0, .int tl, .int tw, .int tc], ac E A0 985 (mA h w wd s0 z st ((slF h w (st 3) 1000000 he co k).1) ke tu ca tr ((slF h w (st 3) 1000000 he co k).2) la)]) 0 0 := by
  refine k_body (cc := cX7_hasGot) (maxL := 4) (ret := none) (by decide) rfl (Nat.le_of_ble_eq_true rfl) ?_
  intro pp ee sx mm aa bb me cd H locs AA ls C0 hr hlk hnm hl hw
  obtain ⟨hx, hb, hml, hown, hts⟩ := id C0
  have hl : lv_has ls 4 [(0, .ref m0), (1, .int (nI k))] := hl
  have hw : kW E AA sx (List.flatten [oc m0 7 [.ref A0, .ref V0, .ref Z0, .int sm, .int th, .int pl, .int hz, .ref D0, .ref W0, .ref T0, .int tl, .int tw, .int tc], ac E A0 985 (mA h w wd s0 z st he ke tu ca tr co la)]) H locs := hw
  have hn9 := kG_n hG
  have hG9 := id hG
  obtain ⟨hG1, hG2, hG3, hG4⟩ := hG9
  obtain ⟨v0, hv0, ev0⟩ := hI_v hH hc
  refine lv_iload_n hx hb dX7_hasGot_0 rfl (lv_at hl 1 rfl) ?_
  refine lv_istore_n (lv' := [(2, .int (nI k)), (0, .ref m0), (1, .int (nI k))]) hx hb dX7_hasGot_1 rfl hl (by decide) rfl (fun ls hl => ?_)
  refine lv_aload_n hx hb dX7_hasGot_2 rfl (lv_at hl 1 rfl) ?_
  refine lv_iload_n hx hb dX7_hasGot_3 rfl (lv_at hl 0 rfl) ?_
  refine lv_iconst (v := 1) hx hb dX7_hasGot_4 (by decide) ?_
  refine k_V (As := [.int (nI k), .int 1]) (rest := []) (pre := []) (mid := [oc m0 7 [.ref A0, .ref V0, .ref Z0, .int sm, .int th, .int pl, .int hz, .ref D0, .ref W0, .ref T0, .int tl, .int tw, .int tc], ac E A0 985 (mA h w wd s0 z st he ke tu ca tr co la)]) C0 (c_X7_steepest l E m0 A0 V0 Z0 D0 W0 T0 sm th pl hz tl tw tc h w wd s0 z st he ke tu ca tr co la k 1 (by first | assumption | omega) (by first | assumption | omega)) (cwV 2 hts gX7_hasGot_X7_steepest rfl rfl rfl (by decide +kernel) ⟨Nat.le_of_ble_eq_true rfl, Nat.le_of_ble_eq_true rfl⟩) hw rfl (fun _ => [oc m0 7 [.ref A0, .ref V0, .ref Z0, .int sm, .int th, .int pl, .int hz, .ref D0, .ref W0, .ref T0, .int tl, .int tw, .int tc], ac E A0 985 (mA h w wd s0 z st he ke tu ca tr co la)]) (fun _ => rfl) 0 7 rfl rfl rfl rfl hl.1 rfl (Nat.le_of_ble_eq_true rfl) dX7_hasGot_5 ⟨Nat.le_of_ble_eq_true rfl, Nat.le_of_ble_eq_true rfl⟩ (fun r u H locs hq99 hw => ?_)
  subst hq99
  have hw : kW E AA sx (List.flatten [oc m0 7 [.ref A0, .ref V0, .ref Z0, .int sm, .int th, .int pl, .int hz, .ref D0, .ref W0, .ref T0, .int tl, .int tw, .int tc], ac E A0 985 (mA h w wd s0 z st he ke tu ca tr co la)]) H locs := hw
  refine W.eq (g2 := F0 mm 8 ls [.int (stB1 h w (st 3) he 1 k 4)]) rfl ?_
  refine W.eq (g2 := F0 mm 8 ls [.int (lwI h w (st 3) he k)]) (congrArg (fun z9 => F0 mm 8 ls [.int z9]) (show (stB1 h w (st 3) he 1 k 4 : Int32) = lwI h w (st 3) he k from st_low hG hc hH hB)) ?_
  refine lv_istore_n (lv' := [(3, .int (lwI h w (st 3) he k)), (2, .int (nI k)), (0, .ref m0), (1, .int (nI k))]) hx hb dX7_hasGot_8 rfl hl (by decide) rfl (fun ls hl => ?_)
  skip
  have loop9 : ∀ (nn : Nat) (i : Nat) (c9x : Nat) (t9 : Int32) (g9 : Nat → Int32) (o9 : Nat → Int32) (v : Nat), (c9x < h * w) → (slF h w (st 3) (1000000 - i) g9 o9 c9x = slF h w (st 3) 1000000 he co k) → (hI (h * w) g9 B) → (g9 c9x = nI v) → (i + v ≤ B) → (v ≤ B) → (t9 = lwI h w (st 3) g9 c9x) → v < nn → ∀ (H : Heap) (locs : List Loc) (ls : Array Slot), lv_has ls 4 [(3, .int t9), (2, .int (nI c9x)), (0, .ref m0), (1, .int (nI k))] → kW E AA sx (List.flatten [oc m0 7 [.ref A0, .ref V0, .ref Z0, .int sm, .int th, .int pl, .int hz, .ref D0, .ref W0, .ref T0, .int tl, .int tw, .int tc], ac E A0 985 (mA h w wd s0 z st g9 ke tu ca tr o9 la)]) H locs → W pp l ee rmX7_hasGot sx mm aa bb me cd H locs 0 0 (kEnd E kV (fun (_ : Unit) (_ : Unit) => True) (fun _ => List.flatten [oc m0 7 [.ref A0, .ref V0, .ref Z0, .int sm, .int th, .int pl, .int hz, .ref D0, .ref W0, .ref T0, .int tl, .int tw, .int tc], ac E A0 985 (mA h w wd s0 z st ((slF h w (st 3) 1000000 he co k).1) ke tu ca tr ((slF h w (st 3) 1000000 he co k).2) la)]) bb aa sx AA 0 0) (F0 mm 9 ls []) := by
    intro nn
    induction nn with
    | zero => intro i c9x t9 g9 o9 v hcx hF hHg hv hiv hvB ht hm9; exact absurd hm9 (Nat.not_lt_zero _)
    | succ nn ih9 =>
      intro i c9x t9 g9 o9 v hcx hF hHg hv hiv hvB ht hm9 H locs ls hl hw
      skip
      refine lv_iload_n hx hb dX7_hasGot_9 rfl (lv_at hl 0 rfl) ?_
      refine lv_iconst (v := (-1)) hx hb dX7_hasGot_10 (by decide) ?_
      refine lv_icmp_eq (tgt := 32) hx hb dX7_hasGot_11 (by decide) (fun c11 => ?_) (fun c11 => ?_)
      · have hlo := lwI_y hG hcx (by rw [← ht]; exact c11)
        obtain ⟨m9, hm9⟩ : ∃ m9, 1000000 - i = m9 + 1 := ⟨1000000 - i - 1, by omega⟩
        rw [hm9, slF_s, if_pos hlo] at hF
        have hw : kW E AA sx (List.flatten [oc m0 7 [.ref A0, .ref V0, .ref Z0, .int sm, .int th, .int pl, .int hz, .ref D0, .ref W0, .ref T0, .int tl, .int tw, .int tc], ac E A0 985 (mA h w wd s0 z st ((slF h w (st 3) 1000000 he co k).1) ke tu ca tr ((slF h w (st 3) 1000000 he co k).2) la)]) H locs := kW.arr (pre := [oc m0 7 [.ref A0, .ref V0, .ref Z0, .int sm, .int th, .int pl, .int hz, .ref D0, .ref W0, .ref T0, .int tl, .int tw, .int tc]]) (l1 := []) hw (fun j _ => by rw [← hF])
        -- leaf 0
        exact k_vret C0 hr hlk hw () (rfl) (trivial) (Nat.le_of_ble_eq_true rfl) (Nat.le_of_ble_eq_true rfl) dX7_hasGot_32
      · have hlo := lwI_n (by rw [← ht]; exact c11)
        have hlt := lowN_lt (he := g9) hG hcx 3
        obtain ⟨v9, hv9, hv8, hH9⟩ := sld_dn hcx hlt hHg hB hv hlo.1 hsl
        obtain ⟨m9, hm9⟩ : ∃ m9, 1000000 - i = m9 + 1 := ⟨1000000 - i - 1, by omega⟩
        rw [hm9, slF_s, if_neg hlo.1] at hF
        have hl : lv_has ls 4 [(3, .int (nI (lowN h w g9 c9x 3))), (2, .int (nI c9x)), (0, .ref m0), (1, .int (nI k))] := by have h99 : t9 = nI (lowN h w g9 c9x 3) := (by rw [ht]; exact hlo.2); rw [h99] at hl; exact hl
        refine lv_aload_n hx hb dX7_hasGot_14 rfl (lv_at hl 2 rfl) ?_
        refine lv_iload_n hx hb dX7_hasGot_15 rfl (lv_at hl 1 rfl) ?_
        refine lv_iload_n hx hb dX7_hasGot_16 rfl (lv_at hl 0 rfl) ?_
        refine k_V (As := [.int (nI c9x), .int (nI (lowN h w g9 c9x 3))]) (rest := []) (pre := []) (mid := [oc m0 7 [.ref A0, .ref V0, .ref Z0, .int sm, .int th, .int pl, .int hz, .ref D0, .ref W0, .ref T0, .int tl, .int tw, .int tc], ac E A0 985 (mA h w wd s0 z st g9 ke tu ca tr o9 la)]) C0 (c_X7_slides l E m0 A0 V0 Z0 D0 W0 T0 sm th pl hz tl tw tc h w wd s0 z st g9 ke tu ca tr o9 la c9x (lowN h w g9 c9x 3) (by first | assumption | omega) (hcx) (hlt)) (cwV 2 hts gX7_hasGot_X7_slides rfl rfl rfl (by decide +kernel) ⟨Nat.le_of_ble_eq_true rfl, Nat.le_of_ble_eq_true rfl⟩) hw rfl (fun _ => [oc m0 7 [.ref A0, .ref V0, .ref Z0, .int sm, .int th, .int pl, .int hz, .ref D0, .ref W0, .ref T0, .int tl, .int tw, .int tc], ac E A0 985 (mA h w wd s0 z st (sld g9 c9x (lowN h w g9 c9x 3)) ke tu ca tr (c9 o9) la)]) (fun _ => rfl) 0 7 rfl rfl rfl rfl hl.1 rfl (Nat.le_of_ble_eq_true rfl) dX7_hasGot_17 ⟨Nat.le_of_ble_eq_true rfl, Nat.le_of_ble_eq_true rfl⟩ (fun r u H locs hq99 hw => ?_)
        have hw : kW E AA sx (List.flatten [oc m0 7 [.ref A0, .ref V0, .ref Z0, .int sm, .int th, .int pl, .int hz, .ref D0, .ref W0, .ref T0, .int tl, .int tw, .int tc], ac E A0 985 (mA h w wd s0 z st (sld g9 c9x (lowN h w g9 c9x 3)) ke tu ca tr (c9 o9) la)]) H locs := hw
        refine W.eq (g2 := F0 mm 20 ls []) rfl ?_
        refine lv_iload_n hx hb dX7_hasGot_20 rfl (lv_at hl 0 rfl) ?_
        refine lv_istore_n (lv' := [(2, .int (nI (lowN h w g9 c9x 3))), (3, .int (nI (lowN h w g9 c9x 3))), (0, .ref m0), (1, .int (nI k))]) hx hb dX7_hasGot_21 rfl hl (by decide) rfl (fun ls hl => ?_)
        refine lv_aload_n hx hb dX7_hasGot_22 rfl (lv_at hl 2 rfl) ?_
        refine lv_iload_n hx hb dX7_hasGot_23 rfl (lv_at hl 0 rfl) ?_
        refine lv_iconst (v := 1) hx hb dX7_hasGot_24 (by decide) ?_
        refine k_V (As := [.int (nI (lowN h w g9 c9x 3)), .int 1]) (rest := []) (pre := []) (mid := [oc m0 7 [.ref A0, .ref V0, .ref Z0, .int sm, .int th, .int pl, .int hz, .ref D0, .ref W0, .ref T0, .int tl, .int tw, .int tc], ac E A0 985 (mA h w wd s0 z st (sld g9 c9x (lowN h w g9 c9x 3)) ke tu ca tr (c9 o9) la)]) C0 (c_X7_steepest l E m0 A0 V0 Z0 D0 W0 T0 sm th pl hz tl tw tc h w wd s0 z st (sld g9 c9x (lowN h w g9 c9x 3)) ke tu ca tr (c9 o9) la (lowN h w g9 c9x 3) 1 (by first | assumption | omega) (hlt)) (cwV 2 hts gX7_hasGot_X7_steepest rfl rfl rfl (by decide +kernel) ⟨Nat.le_of_ble_eq_true rfl, Nat.le_of_ble_eq_true rfl⟩) hw rfl (fun _ => [oc m0 7 [.ref A0, .ref V0, .ref Z0, .int sm, .int th, .int pl, .int hz, .ref D0, .ref W0, .ref T0, .int tl, .int tw, .int tc], ac E A0 985 (mA h w wd s0 z st (sld g9 c9x (lowN h w g9 c9x 3)) ke tu ca tr (c9 o9) la)]) (fun _ => rfl) 0 7 rfl rfl rfl rfl hl.1 rfl (Nat.le_of_ble_eq_true rfl) dX7_hasGot_25 ⟨Nat.le_of_ble_eq_true rfl, Nat.le_of_ble_eq_true rfl⟩ (fun r u H locs hq99 hw => ?_)
        subst hq99
        have hw : kW E AA sx (List.flatten [oc m0 7 [.ref A0, .ref V0, .ref Z0, .int sm, .int th, .int pl, .int hz, .ref D0, .ref W0, .ref T0, .int tl, .int tw, .int tc], ac E A0 985 (mA h w wd s0 z st (sld g9 c9x (lowN h w g9 c9x 3)) ke tu ca tr (c9 o9) la)]) H locs := hw
        refine W.eq (g2 := F0 mm 28 ls [.int (stB1 h w (st 3) (sld g9 c9x (lowN h w g9 c9x 3)) 1 (lowN h w g9 c9x 3) 4)]) rfl ?_
        refine W.eq (g2 := F0 mm 28 ls [.int (lwI h w (st 3) (sld g9 c9x (lowN h w g9 c9x 3)) (lowN h w g9 c9x 3))]) (congrArg (fun z9 => F0 mm 28 ls [.int z9]) (show (stB1 h w (st 3) (sld g9 c9x (lowN h w g9 c9x 3)) 1 (lowN h w g9 c9x 3) 4 : Int32) = lwI h w (st 3) (sld g9 c9x (lowN h w g9 c9x 3)) (lowN h w g9 c9x 3) from st_low hG hlt hH9 hB)) ?_
        refine lv_istore_n (lv' := [(3, .int (lwI h w (st 3) (sld g9 c9x (lowN h w g9 c9x 3)) (lowN h w g9 c9x 3))), (2, .int (nI (lowN h w g9 c9x 3))), (0, .ref m0), (1, .int (nI k))]) hx hb dX7_hasGot_28 rfl hl (by decide) rfl (fun ls hl => ?_)
        refine lv_goto (tgt := 9) hx hb dX7_hasGot_29 (by decide) ?_
        skip
        -- back 0
        exact ih9 (i + 1) (lowN h w g9 c9x 3) (lwI h w (st 3) (sld g9 c9x (lowN h w g9 c9x 3)) (lowN h w g9 c9x 3)) (sld g9 c9x (lowN h w g9 c9x 3)) (c9 o9) v9 (hlt) (by rw [show 1000000 - (i + 1) = m9 by omega]; exact hF) (hH9) (hv9) (by first | assumption | omega) (by first | assumption | omega) (rfl) (by omega) H _ ls (lv_sub hl [0, 1, 2, 3] rfl) hw
  exact loop9 (v0 + 1) 0 k (lwI h w (st 3) he k) he co v0 (by first | assumption | omega) (rfl) (by first | assumption | omega) (ev0) (by first | assumption | omega) (by first | assumption | omega) (rfl) (Nat.lt_succ_self _) H _ ls (lv_sub hl [0, 1, 2, 3] rfl) hw

abbrev rmX7_hasLost : Room := { frames := 3, cells := 0, slots := 0, locals := 76 }
set_option maxHeartbeats 4000000 in
set_option maxRecDepth 100000 in
theorem c_X7_hasLost (l : Launch) (E : kE) (m0 : Nat) (A0 : Nat) (V0 : Nat) (Z0 : Nat) (D0 : Nat) (W0 : Nat) (T0 : Nat) (sm : Int32) (th : Int32) (pl : Int32) (hz : Int32) (tl : Int32) (tw : Int32) (tc : Int32) (h : Nat) (w : Nat) (wd : Int32) (s0 : Int32) (z : Int32) (st : Nat → Int32) (he : Nat → Int32) (ke : Nat → Int32) (tu : Nat → Int32) (ca : Nat → Int32) (tr : Nat → Int32) (co : Nat → Int32) (la : Nat → Int32) (k : Nat) (B : Nat) (hG : kG h w) (hc : k < h * w) (hH : hI (h * w) he B) (hB : B < 1000000) (hsl : 1 ≤ (st 3).toInt) : kC E l yX7_hasLost wsX7_hasLost rmX7_hasLost [.ref m0, .int (nI k)] (List.flatten [oc m0 7 [.ref A0, .ref V0, .ref Z0, .int sm, .int th, .int pl, .int hz, .ref D0, .ref W0, .ref T0, .int tl, .int tw, .int tc], ac E A0 985 (mA h w wd s0 z st he ke tu ca tr co la)]) kV (fun (_ : Unit) (_ : Unit) => True) (fun _ => List.flatten [oc m0 7 [.ref A0, .ref V0, .ref Z0, .int sm, .int th, .int pl, .int hz, .ref D0, .ref W0, .ref T0, .int tl, .int tw, .int tc], ac E A0 985 (mA h w wd s0 z st ((slI h w (st 3) 1000000 he co k).1) ke tu ca tr ((slI h w (st 3) 1000000 he co k).2) la)]) 0 0 := by
  refine k_body (cc := cX7_hasLost) (maxL := 4) (ret := none) (by decide) rfl (Nat.le_of_ble_eq_true rfl) ?_
  intro pp ee sx mm aa bb me cd H locs AA ls C0 hr hlk hnm hl hw
  obtain ⟨hx, hb, hml, hown, hts⟩ := id C0
  have hl : lv_has ls 4 [(0, .ref m0), (1, .int (nI k))] := hl
  have hw : kW E AA sx (List.flatten [oc m0 7 [.ref A0, .ref V0, .ref Z0, .int sm, .int th, .int pl, .int hz, .ref D0, .ref W0, .ref T0, .int tl, .int tw, .int tc], ac E A0 985 (mA h w wd s0 z st he ke tu ca tr co la)]) H locs := hw
  have hn9 := kG_n hG
  have hG9 := id hG
  obtain ⟨hG1, hG2, hG3, hG4⟩ := hG9
  obtain ⟨v0, hv0, ev0⟩ := hI_v hH hc
  refine lv_iload_n hx hb dX7_hasLost_0 rfl (lv_at hl 1 rfl) ?_
  refine lv_istore_n (lv' := [(2, .int (nI k)), (0, .ref m0), (1, .int (nI k))]) hx hb dX7_hasLost_1 rfl hl (by decide) rfl (fun ls hl => ?_)
  refine lv_aload_n hx hb dX7_hasLost_2 rfl (lv_at hl 1 rfl) ?_
  refine lv_iload_n hx hb dX7_hasLost_3 rfl (lv_at hl 0 rfl) ?_
  refine lv_iconst (v := (-1)) hx hb dX7_hasLost_4 (by decide) ?_
  refine k_V (As := [.int (nI k), .int (-1)]) (rest := []) (pre := []) (mid := [oc m0 7 [.ref A0, .ref V0, .ref Z0, .int sm, .int th, .int pl, .int hz, .ref D0, .ref W0, .ref T0, .int tl, .int tw, .int tc], ac E A0 985 (mA h w wd s0 z st he ke tu ca tr co la)]) C0 (c_X7_steepest l E m0 A0 V0 Z0 D0 W0 T0 sm th pl hz tl tw tc h w wd s0 z st he ke tu ca tr co la k (-1) (by first | assumption | omega) (by first | assumption | omega)) (cwV 2 hts gX7_hasLost_X7_steepest rfl rfl rfl (by decide +kernel) ⟨Nat.le_of_ble_eq_true rfl, Nat.le_of_ble_eq_true rfl⟩) hw rfl (fun _ => [oc m0 7 [.ref A0, .ref V0, .ref Z0, .int sm, .int th, .int pl, .int hz, .ref D0, .ref W0, .ref T0, .int tl, .int tw, .int tc], ac E A0 985 (mA h w wd s0 z st he ke tu ca tr co la)]) (fun _ => rfl) 0 7 rfl rfl rfl rfl hl.1 rfl (Nat.le_of_ble_eq_true rfl) dX7_hasLost_5 ⟨Nat.le_of_ble_eq_true rfl, Nat.le_of_ble_eq_true rfl⟩ (fun r u H locs hq99 hw => ?_)
  subst hq99
  have hw : kW E AA sx (List.flatten [oc m0 7 [.ref A0, .ref V0, .ref Z0, .int sm, .int th, .int pl, .int hz, .ref D0, .ref W0, .ref T0, .int tl, .int tw, .int tc], ac E A0 985 (mA h w wd s0 z st he ke tu ca tr co la)]) H locs := hw
  refine W.eq (g2 := F0 mm 8 ls [.int (stB1 h w (st 3) he (-1) k 4)]) rfl ?_
  refine W.eq (g2 := F0 mm 8 ls [.int (hgI h w (st 3) he k)]) (congrArg (fun z9 => F0 mm 8 ls [.int z9]) (show (stB1 h w (st 3) he (-1) k 4 : Int32) = hgI h w (st 3) he k from st_hig hG hc hH hB)) ?_
  refine lv_istore_n (lv' := [(3, .int (hgI h w (st 3) he k)), (2, .int (nI k)), (0, .ref m0), (1, .int (nI k))]) hx hb dX7_hasLost_8 rfl hl (by decide) rfl (fun ls hl => ?_)
  skip
  have loop9 : ∀ (nn : Nat) (i : Nat) (c9x : Nat) (t9 : Int32) (g9 : Nat → Int32) (o9 : Nat → Int32) (v : Nat), (c9x < h * w) → (slI h w (st 3) (1000000 - i) g9 o9 c9x = slI h w (st 3) 1000000 he co k) → (hI (h * w) g9 B) → (g9 c9x = nI v) → (i ≤ v) → (v ≤ B) → (t9 = hgI h w (st 3) g9 c9x) → B - v < nn → ∀ (H : Heap) (locs : List Loc) (ls : Array Slot), lv_has ls 4 [(3, .int t9), (2, .int (nI c9x)), (0, .ref m0), (1, .int (nI k))] → kW E AA sx (List.flatten [oc m0 7 [.ref A0, .ref V0, .ref Z0, .int sm, .int th, .int pl, .int hz, .ref D0, .ref W0, .ref T0, .int tl, .int tw, .int tc], ac E A0 985 (mA h w wd s0 z st g9 ke tu ca tr o9 la)]) H locs → W pp l ee rmX7_hasLost sx mm aa bb me cd H locs 0 0 (kEnd E kV (fun (_ : Unit) (_ : Unit) => True) (fun _ => List.flatten [oc m0 7 [.ref A0, .ref V0, .ref Z0, .int sm, .int th, .int pl, .int hz, .ref D0, .ref W0, .ref T0, .int tl, .int tw, .int tc], ac E A0 985 (mA h w wd s0 z st ((slI h w (st 3) 1000000 he co k).1) ke tu ca tr ((slI h w (st 3) 1000000 he co k).2) la)]) bb aa sx AA 0 0) (F0 mm 9 ls []) := by
    intro nn
    induction nn with
    | zero => intro i c9x t9 g9 o9 v hcx hF hHg hv hiv hvB ht hm9; exact absurd hm9 (Nat.not_lt_zero _)
    | succ nn ih9 =>
      intro i c9x t9 g9 o9 v hcx hF hHg hv hiv hvB ht hm9 H locs ls hl hw
      skip
      refine lv_iload_n hx hb dX7_hasLost_9 rfl (lv_at hl 0 rfl) ?_
      refine lv_iconst (v := (-1)) hx hb dX7_hasLost_10 (by decide) ?_
      refine lv_icmp_eq (tgt := 32) hx hb dX7_hasLost_11 (by decide) (fun c11 => ?_) (fun c11 => ?_)
      · have hlo := hgI_y hG hcx (by rw [← ht]; exact c11)
        obtain ⟨m9, hm9⟩ : ∃ m9, 1000000 - i = m9 + 1 := ⟨1000000 - i - 1, by omega⟩
        rw [hm9, slI_s, if_pos hlo] at hF
        have hw : kW E AA sx (List.flatten [oc m0 7 [.ref A0, .ref V0, .ref Z0, .int sm, .int th, .int pl, .int hz, .ref D0, .ref W0, .ref T0, .int tl, .int tw, .int tc], ac E A0 985 (mA h w wd s0 z st ((slI h w (st 3) 1000000 he co k).1) ke tu ca tr ((slI h w (st 3) 1000000 he co k).2) la)]) H locs := kW.arr (pre := [oc m0 7 [.ref A0, .ref V0, .ref Z0, .int sm, .int th, .int pl, .int hz, .ref D0, .ref W0, .ref T0, .int tl, .int tw, .int tc]]) (l1 := []) hw (fun j _ => by rw [← hF])
        -- leaf 0
        exact k_vret C0 hr hlk hw () (rfl) (trivial) (Nat.le_of_ble_eq_true rfl) (Nat.le_of_ble_eq_true rfl) dX7_hasLost_32
      · have hlo := hgI_n (by rw [← ht]; exact c11)
        have hlt := higN_lt (he := g9) hG hcx 3
        obtain ⟨v9, hv9, hv8, hv7, hH9⟩ := sld_ri hcx hlt hHg hB hv hvB hlo.1 hsl
        obtain ⟨m9, hm9⟩ : ∃ m9, 1000000 - i = m9 + 1 := ⟨1000000 - i - 1, by omega⟩
        rw [hm9, slI_s, if_neg hlo.1] at hF
        have hl : lv_has ls 4 [(3, .int (nI (higN h w g9 c9x 3))), (2, .int (nI c9x)), (0, .ref m0), (1, .int (nI k))] := by have h99 : t9 = nI (higN h w g9 c9x 3) := (by rw [ht]; exact hlo.2); rw [h99] at hl; exact hl
        refine lv_aload_n hx hb dX7_hasLost_14 rfl (lv_at hl 2 rfl) ?_
        refine lv_iload_n hx hb dX7_hasLost_15 rfl (lv_at hl 0 rfl) ?_
        refine lv_iload_n hx hb dX7_hasLost_16 rfl (lv_at hl 1 rfl) ?_
        refine k_V (As := [.int (nI (higN h w g9 c9x 3)), .int (nI c9x)]) (rest := []) (pre := []) (mid := [oc m0 7 [.ref A0, .ref V0, .ref Z0, .int sm, .int th, .int pl, .int hz, .ref D0, .ref W0, .ref T0, .int tl, .int tw, .int tc], ac E A0 985 (mA h w wd s0 z st g9 ke tu ca tr o9 la)]) C0 (c_X7_slides l E m0 A0 V0 Z0 D0 W0 T0 sm th pl hz tl tw tc h w wd s0 z st g9 ke tu ca tr o9 la (higN h w g9 c9x 3) c9x (by first | assumption | omega) (hlt) (hcx)) (cwV 2 hts gX7_hasLost_X7_slides rfl rfl rfl (by decide +kernel) ⟨Nat.le_of_ble_eq_true rfl, Nat.le_of_ble_eq_true rfl⟩) hw rfl (fun _ => [oc m0 7 [.ref A0, .ref V0, .ref Z0, .int sm, .int th, .int pl, .int hz, .ref D0, .ref W0, .ref T0, .int tl, .int tw, .int tc], ac E A0 985 (mA h w wd s0 z st (sld g9 (higN h w g9 c9x 3) c9x) ke tu ca tr (c9 o9) la)]) (fun _ => rfl) 0 7 rfl rfl rfl rfl hl.1 rfl (Nat.le_of_ble_eq_true rfl) dX7_hasLost_17 ⟨Nat.le_of_ble_eq_true rfl, Nat.le_of_ble_eq_true rfl⟩ (fun r u H locs hq99 hw => ?_)
        have hw : kW E AA sx (List.flatten [oc m0 7 [.ref A0, .ref V0, .ref Z0, .int sm, .int th, .int pl, .int hz, .ref D0, .ref W0, .ref T0, .int tl, .int tw, .int tc], ac E A0 985 (mA h w wd s0 z st (sld g9 (higN h w g9 c9x 3) c9x) ke tu ca tr (c9 o9) la)]) H locs := hw
        refine W.eq (g2 := F0 mm 20 ls []) rfl ?_
        refine lv_iload_n hx hb dX7_hasLost_20 rfl (lv_at hl 0 rfl) ?_
        refine lv_istore_n (lv' := [(2, .int (nI (higN h w g9 c9x 3))), (3, .int (nI (higN h w g9 c9x 3))), (0, .ref m0), (1, .int (nI k))]) hx hb dX7_hasLost_21 rfl hl (by decide) rfl (fun ls hl => ?_)
        refine lv_aload_n hx hb dX7_hasLost_22 rfl (lv_at hl 2 rfl) ?_
        refine lv_iload_n hx hb dX7_hasLost_23 rfl (lv_at hl 0 rfl) ?_
        refine lv_iconst (v := (-1)) hx hb dX7_hasLost_24 (by decide) ?_
        refine k_V (As := [.int (nI (higN h w g9 c9x 3)), .int (-1)]) (rest := []) (pre := []) (mid := [oc m0 7 [.ref A0, .ref V0, .ref Z0, .int sm, .int th, .int pl, .int hz, .ref D0, .ref W0, .ref T0, .int tl, .int tw, .int tc], ac E A0 985 (mA h w wd s0 z st (sld g9 (higN h w g9 c9x 3) c9x) ke tu ca tr (c9 o9) la)]) C0 (c_X7_steepest l E m0 A0 V0 Z0 D0 W0 T0 sm th pl hz tl tw tc h w wd s0 z st (sld g9 (higN h w g9 c9x 3) c9x) ke tu ca tr (c9 o9) la (higN h w g9 c9x 3) (-1) (by first | assumption | omega) (hlt)) (cwV 2 hts gX7_hasLost_X7_steepest rfl rfl rfl (by decide +kernel) ⟨Nat.le_of_ble_eq_true rfl, Nat.le_of_ble_eq_true rfl⟩) hw rfl (fun _ => [oc m0 7 [.ref A0, .ref V0, .ref Z0, .int sm, .int th, .int pl, .int hz, .ref D0, .ref W0, .ref T0, .int tl, .int tw, .int tc], ac E A0 985 (mA h w wd s0 z st (sld g9 (higN h w g9 c9x 3) c9x) ke tu ca tr (c9 o9) la)]) (fun _ => rfl) 0 7 rfl rfl rfl rfl hl.1 rfl (Nat.le_of_ble_eq_true rfl) dX7_hasLost_25 ⟨Nat.le_of_ble_eq_true rfl, Nat.le_of_ble_eq_true rfl⟩ (fun r u H locs hq99 hw => ?_)
        subst hq99
        have hw : kW E AA sx (List.flatten [oc m0 7 [.ref A0, .ref V0, .ref Z0, .int sm, .int th, .int pl, .int hz, .ref D0, .ref W0, .ref T0, .int tl, .int tw, .int tc], ac E A0 985 (mA h w wd s0 z st (sld g9 (higN h w g9 c9x 3) c9x) ke tu ca tr (c9 o9) la)]) H locs := hw
        refine W.eq (g2 := F0 mm 28 ls [.int (stB1 h w (st 3) (sld g9 (higN h w g9 c9x 3) c9x) (-1) (higN h w g9 c9x 3) 4)]) rfl ?_
        refine W.eq (g2 := F0 mm 28 ls [.int (hgI h w (st 3) (sld g9 (higN h w g9 c9x 3) c9x) (higN h w g9 c9x 3))]) (congrArg (fun z9 => F0 mm 28 ls [.int z9]) (show (stB1 h w (st 3) (sld g9 (higN h w g9 c9x 3) c9x) (-1) (higN h w g9 c9x 3) 4 : Int32) = hgI h w (st 3) (sld g9 (higN h w g9 c9x 3) c9x) (higN h w g9 c9x 3) from st_hig hG hlt hH9 hB)) ?_
        refine lv_istore_n (lv' := [(3, .int (hgI h w (st 3) (sld g9 (higN h w g9 c9x 3) c9x) (higN h w g9 c9x 3))), (2, .int (nI (higN h w g9 c9x 3))), (0, .ref m0), (1, .int (nI k))]) hx hb dX7_hasLost_28 rfl hl (by decide) rfl (fun ls hl => ?_)
        refine lv_goto (tgt := 9) hx hb dX7_hasLost_29 (by decide) ?_
        skip
        -- back 0
        exact ih9 (i + 1) (higN h w g9 c9x 3) (hgI h w (st 3) (sld g9 (higN h w g9 c9x 3) c9x) (higN h w g9 c9x 3)) (sld g9 (higN h w g9 c9x 3) c9x) (c9 o9) v9 (hlt) (by rw [show 1000000 - (i + 1) = m9 by omega]; exact hF) (hH9) (hv9) (by first | assumption | omega) (by first | assumption | omega) (rfl) (by omega) H _ ls (lv_sub hl [0, 1, 2, 3] rfl) hw
  exact loop9 ((B - v0) + 1) 0 k (hgI h w (st 3) he k) he co v0 (by first | assumption | omega) (rfl) (by first | assumption | omega) (ev0) (by first | assumption | omega) (by first | assumption | omega) (rfl) (Nat.lt_succ_self _) H _ ls (lv_sub hl [0, 1, 2, 3] rfl) hw

abbrev rmX7_reasonNotToLift : Room := { frames := 3, cells := 0, slots := 0, locals := 74 }
set_option maxHeartbeats 4000000 in
set_option maxRecDepth 100000 in
theorem c_X7_reasonNotToLift (l : Launch) (E : kE) (m0 : Nat) (A0 : Nat) (V0 : Nat) (Z0 : Nat) (D0 : Nat) (W0 : Nat) (T0 : Nat) (sm : Int32) (th : Int32) (pl : Int32) (hz : Int32) (tl : Int32) (tw : Int32) (tc : Int32) (h : Nat) (w : Nat) (d : Nat) (n0 : Nat) (z : Int32) (st : Nat → Int32) (he : Nat → Int32) (ke : Nat → Int32) (tu : Nat → Int32) (ca : Nat → Int32) (tr : Nat → Int32) (co : Nat → Int32) (la : Nat → Int32) (k : Nat) (hG : kG h w) (hc : k < h * w) (hd : d < 4) (hn0 : n0 < 2147483648) : kC E l yX7_reasonNotToLift wsX7_reasonNotToLift rmX7_reasonNotToLift [.ref m0, .int (nI k)] (List.flatten [oc m0 7 [.ref A0, .ref V0, .ref Z0, .int sm, .int th, .int pl, .int hz, .ref D0, .ref W0, .ref T0, .int tl, .int tw, .int tc], ac E A0 985 (mA h w (nI d) (nI n0) z st he ke tu ca tr co la)]) kI (fun (r : Int32) (_ : Unit) => r = nI (rlS h w d he tu ca k n0).1) (fun _ => List.flatten [oc m0 7 [.ref A0, .ref V0, .ref Z0, .int sm, .int th, .int pl, .int hz, .ref D0, .ref W0, .ref T0, .int tl, .int tw, .int tc], ac E A0 985 (mA h w (nI d) (nI (rlS h w d he tu ca k n0).2) z st he ke tu ca tr co la)]) 0 0 := by
  refine k_body (cc := cX7_reasonNotToLift) (maxL := 2) (ret := (some .int)) (by decide) rfl (Nat.le_of_ble_eq_true rfl) ?_
  intro pp ee sx mm aa bb me cd H locs AA ls C0 hr hlk hnm hl hw
  obtain ⟨hx, hb, hml, hown, hts⟩ := id C0
  have hl : lv_has ls 2 [(0, .ref m0), (1, .int (nI k))] := hl
  have hw : kW E AA sx (List.flatten [oc m0 7 [.ref A0, .ref V0, .ref Z0, .int sm, .int th, .int pl, .int hz, .ref D0, .ref W0, .ref T0, .int tl, .int tw, .int tc], ac E A0 985 (mA h w (nI d) (nI n0) z st he ke tu ca tr co la)]) H locs := hw
  have hn9 := kG_n hG
  have hG9 := id hG
  obtain ⟨hG1, hG2, hG3, hG4⟩ := hG9
  refine lv_aload_n hx hb dX7_reasonNotToLift_0 rfl (lv_at hl 0 rfl) ?_
  refine lv_iload_n hx hb dX7_reasonNotToLift_1 rfl (lv_at hl 1 rfl) ?_
  refine lv_iconst (v := 0) hx hb dX7_reasonNotToLift_2 (by decide) ?_
  refine k_V (As := [.int (nI k), .int 0]) (rest := []) (pre := []) (mid := [oc m0 7 [.ref A0, .ref V0, .ref Z0, .int sm, .int th, .int pl, .int hz, .ref D0, .ref W0, .ref T0, .int tl, .int tw, .int tc], ac E A0 985 (mA h w (nI d) (nI n0) z st he ke tu ca tr co la)]) C0 (c_X7_of0 l E m0 A0 V0 Z0 D0 W0 T0 sm th pl hz tl tw tc h w (nI d) (nI n0) z st he ke tu ca tr co la k (by first | assumption | omega) (by first | assumption | omega)) (cwV 2 hts gX7_reasonNotToLift_X7_of rfl rfl rfl (by decide +kernel) ⟨Nat.le_of_ble_eq_true rfl, Nat.le_of_ble_eq_true rfl⟩) hw rfl (fun _ => [oc m0 7 [.ref A0, .ref V0, .ref Z0, .int sm, .int th, .int pl, .int hz, .ref D0, .ref W0, .ref T0, .int tl, .int tw, .int tc], ac E A0 985 (mA h w (nI d) (nI n0) z st he ke tu ca tr co la)]) (fun _ => rfl) 0 7 rfl rfl rfl rfl hl.1 rfl (Nat.le_of_ble_eq_true rfl) dX7_reasonNotToLift_3 ⟨Nat.le_of_ble_eq_true rfl, Nat.le_of_ble_eq_true rfl⟩ (fun r u H locs hq99 hw => ?_)
  subst hq99
  have hw : kW E AA sx (List.flatten [oc m0 7 [.ref A0, .ref V0, .ref Z0, .int sm, .int th, .int pl, .int hz, .ref D0, .ref W0, .ref T0, .int tl, .int tw, .int tc], ac E A0 985 (mA h w (nI d) (nI n0) z st he ke tu ca tr co la)]) H locs := hw
  refine W.eq (g2 := F0 mm 6 ls [.int (he k)]) rfl ?_
  refine lv_if_ne (tgt := 11) hx hb dX7_reasonNotToLift_6 (by decide) (fun c6 => ?_) (fun c6 => ?_)
  · refine lv_aload_n hx hb dX7_reasonNotToLift_11 rfl (lv_at hl 0 rfl) ?_
    refine lv_iload_n hx hb dX7_reasonNotToLift_12 rfl (lv_at hl 1 rfl) ?_
    refine lv_iconst (v := 2) hx hb dX7_reasonNotToLift_13 (by decide) ?_
    refine k_V (As := [.int (nI k), .int 2]) (rest := []) (pre := []) (mid := [oc m0 7 [.ref A0, .ref V0, .ref Z0, .int sm, .int th, .int pl, .int hz, .ref D0, .ref W0, .ref T0, .int tl, .int tw, .int tc], ac E A0 985 (mA h w (nI d) (nI n0) z st he ke tu ca tr co la)]) C0 (c_X7_of2 l E m0 A0 V0 Z0 D0 W0 T0 sm th pl hz tl tw tc h w (nI d) (nI n0) z st he ke tu ca tr co la k (by first | assumption | omega) (by first | assumption | omega)) (cwV 2 hts gX7_reasonNotToLift_X7_of rfl rfl rfl (by decide +kernel) ⟨Nat.le_of_ble_eq_true rfl, Nat.le_of_ble_eq_true rfl⟩) hw rfl (fun _ => [oc m0 7 [.ref A0, .ref V0, .ref Z0, .int sm, .int th, .int pl, .int hz, .ref D0, .ref W0, .ref T0, .int tl, .int tw, .int tc], ac E A0 985 (mA h w (nI d) (nI n0) z st he ke tu ca tr co la)]) (fun _ => rfl) 0 7 rfl rfl rfl rfl hl.1 rfl (Nat.le_of_ble_eq_true rfl) dX7_reasonNotToLift_14 ⟨Nat.le_of_ble_eq_true rfl, Nat.le_of_ble_eq_true rfl⟩ (fun r u H locs hq99 hw => ?_)
    subst hq99
    have hw : kW E AA sx (List.flatten [oc m0 7 [.ref A0, .ref V0, .ref Z0, .int sm, .int th, .int pl, .int hz, .ref D0, .ref W0, .ref T0, .int tl, .int tw, .int tc], ac E A0 985 (mA h w (nI d) (nI n0) z st he ke tu ca tr co la)]) H locs := hw
    refine W.eq (g2 := F0 mm 17 ls [.int (ca k)]) rfl ?_
    refine lv_iconst (v := (-1)) hx hb dX7_reasonNotToLift_17 (by decide) ?_
    refine lv_icmp_eq (tgt := 23) hx hb dX7_reasonNotToLift_18 (by decide) (fun c18 => ?_) (fun c18 => ?_)
    · refine lv_aload_n hx hb dX7_reasonNotToLift_23 rfl (lv_at hl 0 rfl) ?_
      refine lv_iload_n hx hb dX7_reasonNotToLift_24 rfl (lv_at hl 1 rfl) ?_
      refine k_V (As := [.int (nI k)]) (rest := []) (pre := []) (mid := [oc m0 7 [.ref A0, .ref V0, .ref Z0, .int sm, .int th, .int pl, .int hz, .ref D0, .ref W0, .ref T0, .int tl, .int tw, .int tc], ac E A0 985 (mA h w (nI d) (nI n0) z st he ke tu ca tr co la)]) C0 (c_X7_isInShadow l E m0 A0 V0 Z0 D0 W0 T0 sm th pl hz tl tw tc h w d (nI n0) z st he ke tu ca tr co la k (by first | assumption | omega) (by first | assumption | omega) (by first | assumption | omega)) (cwV 1 hts gX7_reasonNotToLift_X7_isInShadow rfl rfl rfl (by decide +kernel) ⟨Nat.le_of_ble_eq_true rfl, Nat.le_of_ble_eq_true rfl⟩) hw rfl (fun _ => [oc m0 7 [.ref A0, .ref V0, .ref Z0, .int sm, .int th, .int pl, .int hz, .ref D0, .ref W0, .ref T0, .int tl, .int tw, .int tc], ac E A0 985 (mA h w (nI d) (nI n0) z st he ke tu ca tr co la)]) (fun _ => rfl) 0 7 rfl rfl rfl rfl hl.1 rfl (Nat.le_of_ble_eq_true rfl) dX7_reasonNotToLift_25 ⟨Nat.le_of_ble_eq_true rfl, Nat.le_of_ble_eq_true rfl⟩ (fun r u H locs hq99 hw => ?_)
      subst hq99
      have hw : kW E AA sx (List.flatten [oc m0 7 [.ref A0, .ref V0, .ref Z0, .int sm, .int th, .int pl, .int hz, .ref D0, .ref W0, .ref T0, .int tl, .int tw, .int tc], ac E A0 985 (mA h w (nI d) (nI n0) z st he ke tu ca tr co la)]) H locs := hw
      refine W.eq (g2 := F0 mm 28 ls [.int (if shd h w d he k then 1 else 0)]) rfl ?_
      refine lv_if_eq (tgt := 33) hx hb dX7_reasonNotToLift_28 (by decide) (fun c28 => ?_) (fun c28 => ?_)
      · have c28 := kb10t c28
        refine lv_aload_n hx hb dX7_reasonNotToLift_33 rfl (lv_at hl 0 rfl) ?_
        refine lv_bipush (v := 100) hx hb dX7_reasonNotToLift_34 (by decide) ?_
        refine k_V (As := [.int 100]) (rest := []) (pre := []) (mid := [oc m0 7 [.ref A0, .ref V0, .ref Z0, .int sm, .int th, .int pl, .int hz, .ref D0, .ref W0, .ref T0, .int tl, .int tw, .int tc], ac E A0 985 (mA h w (nI d) (nI n0) z st he ke tu ca tr co la)]) C0 (c_X7_draws l E m0 A0 V0 Z0 D0 W0 T0 sm th pl hz tl tw tc h w n0 (nI d) z st he ke tu ca tr co la 100 (by first | assumption | omega) (by first | assumption | omega) (by first | assumption | omega)) (cwV 1 hts gX7_reasonNotToLift_X7_draws rfl rfl rfl (by decide +kernel) ⟨Nat.le_of_ble_eq_true rfl, Nat.le_of_ble_eq_true rfl⟩) hw rfl (fun _ => [oc m0 7 [.ref A0, .ref V0, .ref Z0, .int sm, .int th, .int pl, .int hz, .ref D0, .ref W0, .ref T0, .int tl, .int tw, .int tc], ac E A0 985 (mA h w (nI d) (nI (drwS n0)) z st he ke tu ca tr co la)]) (fun _ => rfl) 0 7 rfl rfl rfl rfl hl.1 rfl (Nat.le_of_ble_eq_true rfl) dX7_reasonNotToLift_36 ⟨Nat.le_of_ble_eq_true rfl, Nat.le_of_ble_eq_true rfl⟩ (fun r u H locs hq99 hw => ?_)
        subst hq99
        have hw : kW E AA sx (List.flatten [oc m0 7 [.ref A0, .ref V0, .ref Z0, .int sm, .int th, .int pl, .int hz, .ref D0, .ref W0, .ref T0, .int tl, .int tw, .int tc], ac E A0 985 (mA h w (nI d) (nI (drwS n0)) z st he ke tu ca tr co la)]) H locs := hw
        refine W.eq (g2 := F0 mm 39 ls [.int (nI (drwS n0 / 65536 % 100))]) rfl ?_
        refine W.eq (g2 := F0 mm 39 ls [.int (nI (d100 n0))]) (congrArg (fun z9 => F0 mm 39 ls [.int z9]) (show (nI (drwS n0 / 65536 % 100) : Int32) = nI (d100 n0) from d100_eq n0)) ?_
        refine lv_aload_n hx hb dX7_reasonNotToLift_39 rfl (lv_at hl 0 rfl) ?_
        refine lv_iload_n hx hb dX7_reasonNotToLift_40 rfl (lv_at hl 1 rfl) ?_
        refine lv_iconst (v := 1) hx hb dX7_reasonNotToLift_41 (by decide) ?_
        refine k_V (As := [.int (nI k), .int 1]) (rest := [.int (nI (d100 n0))]) (pre := []) (mid := [oc m0 7 [.ref A0, .ref V0, .ref Z0, .int sm, .int th, .int pl, .int hz, .ref D0, .ref W0, .ref T0, .int tl, .int tw, .int tc], ac E A0 985 (mA h w (nI d) (nI (drwS n0)) z st he ke tu ca tr co la)]) C0 (c_X7_of1 l E m0 A0 V0 Z0 D0 W0 T0 sm th pl hz tl tw tc h w (nI d) (nI (drwS n0)) z st he ke tu ca tr co la k (by first | assumption | omega) (by first | assumption | omega)) (cwV 2 hts gX7_reasonNotToLift_X7_of rfl rfl rfl (by decide +kernel) ⟨Nat.le_of_ble_eq_true rfl, Nat.le_of_ble_eq_true rfl⟩) hw rfl (fun _ => [oc m0 7 [.ref A0, .ref V0, .ref Z0, .int sm, .int th, .int pl, .int hz, .ref D0, .ref W0, .ref T0, .int tl, .int tw, .int tc], ac E A0 985 (mA h w (nI d) (nI (drwS n0)) z st he ke tu ca tr co la)]) (fun _ => rfl) 0 7 rfl rfl rfl rfl hl.1 rfl (Nat.le_of_ble_eq_true rfl) dX7_reasonNotToLift_42 ⟨Nat.le_of_ble_eq_true rfl, Nat.le_of_ble_eq_true rfl⟩ (fun r u H locs hq99 hw => ?_)
        subst hq99
        have hw : kW E AA sx (List.flatten [oc m0 7 [.ref A0, .ref V0, .ref Z0, .int sm, .int th, .int pl, .int hz, .ref D0, .ref W0, .ref T0, .int tl, .int tw, .int tc], ac E A0 985 (mA h w (nI d) (nI (drwS n0)) z st he ke tu ca tr co la)]) H locs := hw
        refine W.eq (g2 := F0 mm 45 ls [.int (tu k), .int (nI (d100 n0))]) rfl ?_
        refine lv_icmp_ge (tgt := 52) hx hb dX7_reasonNotToLift_45 (by decide) (fun c45 => ?_) (fun c45 => ?_)
        · have hR : rlS h w d he tu ca k n0 = (0, drwS n0) := by unfold rlS; rw [if_neg c6, if_neg (fun h99 => h99 c18), if_neg c28, if_pos c45]
          refine lv_iconst (v := 0) hx hb dX7_reasonNotToLift_52 (by decide) ?_
          have hw : kW E AA sx (List.flatten [oc m0 7 [.ref A0, .ref V0, .ref Z0, .int sm, .int th, .int pl, .int hz, .ref D0, .ref W0, .ref T0, .int tl, .int tw, .int tc], ac E A0 985 (mA h w (nI d) (nI (rlS h w d he tu ca k n0).2) z st he ke tu ca tr co la)]) H locs := kW.arr (pre := [oc m0 7 [.ref A0, .ref V0, .ref Z0, .int sm, .int th, .int pl, .int hz, .ref D0, .ref W0, .ref T0, .int tl, .int tw, .int tc]]) (l1 := []) hw (fun j _ => by rw [hR])
          -- leaf 0
          exact k_iret C0 hr hlk hw () (rfl) (by have h99 := congrArg (fun x : Nat × Nat => nI x.1) hR; exact h99.symm) (Nat.le_of_ble_eq_true rfl) (Nat.le_of_ble_eq_true rfl) dX7_reasonNotToLift_53
        · have hR : rlS h w d he tu ca k n0 = (4, drwS n0) := by unfold rlS; rw [if_neg c6, if_neg (fun h99 => h99 c18), if_neg c28, if_neg c45]
          refine lv_iconst (v := 4) hx hb dX7_reasonNotToLift_48 (by decide) ?_
          refine lv_goto (tgt := 53) hx hb dX7_reasonNotToLift_49 (by decide) ?_
          have hw : kW E AA sx (List.flatten [oc m0 7 [.ref A0, .ref V0, .ref Z0, .int sm, .int th, .int pl, .int hz, .ref D0, .ref W0, .ref T0, .int tl, .int tw, .int tc], ac E A0 985 (mA h w (nI d) (nI (rlS h w d he tu ca k n0).2) z st he ke tu ca tr co la)]) H locs := kW.arr (pre := [oc m0 7 [.ref A0, .ref V0, .ref Z0, .int sm, .int th, .int pl, .int hz, .ref D0, .ref W0, .ref T0, .int tl, .int tw, .int tc]]) (l1 := []) hw (fun j _ => by rw [hR])
          -- leaf 1
          exact k_iret C0 hr hlk hw () (rfl) (by have h99 := congrArg (fun x : Nat × Nat => nI x.1) hR; exact h99.symm) (Nat.le_of_ble_eq_true rfl) (Nat.le_of_ble_eq_true rfl) dX7_reasonNotToLift_53
      · have c28 := kb10f c28
        have hR : rlS h w d he tu ca k n0 = (3, n0) := by unfold rlS; rw [if_neg c6, if_neg (fun h99 => h99 c18), if_pos c28]
        refine lv_iconst (v := 3) hx hb dX7_reasonNotToLift_31 (by decide) ?_
        have hw : kW E AA sx (List.flatten [oc m0 7 [.ref A0, .ref V0, .ref Z0, .int sm, .int th, .int pl, .int hz, .ref D0, .ref W0, .ref T0, .int tl, .int tw, .int tc], ac E A0 985 (mA h w (nI d) (nI (rlS h w d he tu ca k n0).2) z st he ke tu ca tr co la)]) H locs := kW.arr (pre := [oc m0 7 [.ref A0, .ref V0, .ref Z0, .int sm, .int th, .int pl, .int hz, .ref D0, .ref W0, .ref T0, .int tl, .int tw, .int tc]]) (l1 := []) hw (fun j _ => by rw [hR])
        -- leaf 2
        exact k_iret C0 hr hlk hw () (rfl) (by have h99 := congrArg (fun x : Nat × Nat => nI x.1) hR; exact h99.symm) (Nat.le_of_ble_eq_true rfl) (Nat.le_of_ble_eq_true rfl) dX7_reasonNotToLift_32
    · have hR : rlS h w d he tu ca k n0 = (2, n0) := by unfold rlS; rw [if_neg c6, if_pos c18]
      refine lv_iconst (v := 2) hx hb dX7_reasonNotToLift_21 (by decide) ?_
      have hw : kW E AA sx (List.flatten [oc m0 7 [.ref A0, .ref V0, .ref Z0, .int sm, .int th, .int pl, .int hz, .ref D0, .ref W0, .ref T0, .int tl, .int tw, .int tc], ac E A0 985 (mA h w (nI d) (nI (rlS h w d he tu ca k n0).2) z st he ke tu ca tr co la)]) H locs := kW.arr (pre := [oc m0 7 [.ref A0, .ref V0, .ref Z0, .int sm, .int th, .int pl, .int hz, .ref D0, .ref W0, .ref T0, .int tl, .int tw, .int tc]]) (l1 := []) hw (fun j _ => by rw [hR])
      -- leaf 3
      exact k_iret C0 hr hlk hw () (rfl) (by have h99 := congrArg (fun x : Nat × Nat => nI x.1) hR; exact h99.symm) (Nat.le_of_ble_eq_true rfl) (Nat.le_of_ble_eq_true rfl) dX7_reasonNotToLift_22
  · have hR : rlS h w d he tu ca k n0 = (1, n0) := by unfold rlS; rw [if_pos c6]
    refine lv_iconst (v := 1) hx hb dX7_reasonNotToLift_9 (by decide) ?_
    have hw : kW E AA sx (List.flatten [oc m0 7 [.ref A0, .ref V0, .ref Z0, .int sm, .int th, .int pl, .int hz, .ref D0, .ref W0, .ref T0, .int tl, .int tw, .int tc], ac E A0 985 (mA h w (nI d) (nI (rlS h w d he tu ca k n0).2) z st he ke tu ca tr co la)]) H locs := kW.arr (pre := [oc m0 7 [.ref A0, .ref V0, .ref Z0, .int sm, .int th, .int pl, .int hz, .ref D0, .ref W0, .ref T0, .int tl, .int tw, .int tc]]) (l1 := []) hw (fun j _ => by rw [hR])
    -- leaf 4
    exact k_iret C0 hr hlk hw () (rfl) (by have h99 := congrArg (fun x : Nat × Nat => nI x.1) hR; exact h99.symm) (Nat.le_of_ble_eq_true rfl) (Nat.le_of_ble_eq_true rfl) dX7_reasonNotToLift_10

abbrev rmX7_crosses : Room := { frames := 0, cells := 0, slots := 0, locals := 0 }
set_option maxHeartbeats 4000000 in
set_option maxRecDepth 100000 in
theorem c_X7_crosses (l : Launch) (E : kE) (m0 : Nat) (A0 : Nat) (V0 : Nat) (Z0 : Nat) (D0 : Nat) (W0 : Nat) (T0 : Nat) (sm : Int32) (th : Int32) (pl : Int32) (hz : Int32) (tl : Int32) (tw : Int32) (tc : Int32) (h : Nat) (w : Nat) (d : Nat) (s0 : Int32) (z : Int32) (st : Nat → Int32) (he : Nat → Int32) (ke : Nat → Int32) (tu : Nat → Int32) (ca : Nat → Int32) (tr : Nat → Int32) (co : Nat → Int32) (la : Nat → Int32) (k : Nat) (j : Nat) (hG : kG h w) (hc : k < h * w) (hd : d < 4) (hj : j < h * w) : kC E l yX7_crosses wsX7_crosses rmX7_crosses [.ref m0, .int (nI k), .int (nI j)] (List.flatten [oc m0 7 [.ref A0, .ref V0, .ref Z0, .int sm, .int th, .int pl, .int hz, .ref D0, .ref W0, .ref T0, .int tl, .int tw, .int tc], ac E A0 985 (mA h w (nI d) s0 z st he ke tu ca tr co la)]) kV (fun (_ : Unit) (_ : Unit) => True) (fun _ => List.flatten [oc m0 7 [.ref A0, .ref V0, .ref Z0, .int sm, .int th, .int pl, .int hz, .ref D0, .ref W0, .ref T0, .int tl, .int tw, .int tc], ac E A0 985 (mA h w (nI d) s0 z st he ke tu ca tr (crC w d co k j) la)]) 0 0 := by
  refine k_body (cc := cX7_crosses) (maxL := 4) (ret := none) (by decide) rfl (Nat.le_of_ble_eq_true rfl) ?_
  intro pp ee sx mm aa bb me cd H locs AA ls C0 hr hlk hnm hl hw
  obtain ⟨hx, hb, hml, hown, hts⟩ := id C0
  have hl : lv_has ls 4 [(0, .ref m0), (1, .int (nI k)), (2, .int (nI j))] := hl
  have hw : kW E AA sx (List.flatten [oc m0 7 [.ref A0, .ref V0, .ref Z0, .int sm, .int th, .int pl, .int hz, .ref D0, .ref W0, .ref T0, .int tl, .int tw, .int tc], ac E A0 985 (mA h w (nI d) s0 z st he ke tu ca tr co la)]) H locs := hw
  have hn9 := kG_n hG
  have hG9 := id hG
  obtain ⟨hG1, hG2, hG3, hG4⟩ := hG9
  have hinX7 : ∀ w ∈ u_ws RX7 TX7 13, w ∈ wsX7_crosses := by decide +kernel
  have hkw : k % w < w := Nat.mod_lt _ (by omega)
  have hjw : j % w < w := Nat.mod_lt _ (by omega)
  refine lv_aload_n hx hb dX7_crosses_0 rfl (lv_at hl 0 rfl) ?_
  refine k_get (pre := []) C0 hw hinX7 rfl 0 (by decide) (hts (.fieldLink RX7 7 "SlabDunesModel" "all" "[I") (by decide +kernel)) rfl rfl dX7_crosses_1 ?_
  refine lv_iconst (v := 5) hx hb dX7_crosses_4 (by decide) ?_
  refine k_iald (pre := [oc m0 7 [.ref A0, .ref V0, .ref Z0, .int sm, .int th, .int pl, .int hz, .ref D0, .ref W0, .ref T0, .int tl, .int tw, .int tc]]) (l1 := []) C0 hw (i := 5) (kinN (n := 5) (by decide) (by decide)) dX7_crosses_5 ?_
  refine W.eq (g2 := F0 mm 6 ls [.int (nI w)]) (congrArg (fun z9 => F0 mm 6 ls [.int z9]) (show ((mA h w (nI d) s0 z st he ke tu ca tr co la) (Int32.toNatClampNeg 5) : Int32) = nI w from rfl)) ?_
  refine lv_istore_n (lv' := [(3, .int (nI w)), (0, .ref m0), (1, .int (nI k)), (2, .int (nI j))]) hx hb dX7_crosses_6 rfl hl (by decide) rfl (fun ls hl => ?_)
  refine lv_aload_n hx hb dX7_crosses_7 rfl (lv_at hl 1 rfl) ?_
  refine k_get (pre := []) C0 hw hinX7 rfl 0 (by decide) (hts (.fieldLink RX7 7 "SlabDunesModel" "all" "[I") (by decide +kernel)) rfl rfl dX7_crosses_8 ?_
  refine lv_bipush (v := 19) hx hb dX7_crosses_11 (by decide) ?_
  refine lv_dup2_11 hx hb dX7_crosses_13 rfl rfl ?_
  refine k_iald (pre := [oc m0 7 [.ref A0, .ref V0, .ref Z0, .int sm, .int th, .int pl, .int hz, .ref D0, .ref W0, .ref T0, .int tl, .int tw, .int tc]]) (l1 := []) C0 hw (i := 19) (kinN (n := 19) (by decide) (by decide)) dX7_crosses_14 ?_
  refine W.eq (g2 := F0 mm 15 ls [.int (co 10), .int 19, .ref A0]) (congrArg (fun z9 => F0 mm 15 ls [.int z9, .int 19, .ref A0]) (show ((mA h w (nI d) s0 z st he ke tu ca tr co la) (Int32.toNatClampNeg 19) : Int32) = co 10 from mA_cn (k := 10) (by decide))) ?_
  have join15 : ∀ (H : Heap) (locs : List Loc) (ls : Array Slot), lv_has ls 4 [(3, .int (nI w)), (0, .ref m0), (1, .int (nI k)), (2, .int (nI j))] → kW E AA sx (List.flatten [oc m0 7 [.ref A0, .ref V0, .ref Z0, .int sm, .int th, .int pl, .int hz, .ref D0, .ref W0, .ref T0, .int tl, .int tw, .int tc], ac E A0 985 (mA h w (nI d) s0 z st he ke tu ca tr co la)]) H locs → W pp l ee rmX7_crosses sx mm aa bb me cd H locs 0 0 (kEnd E kV (fun (_ : Unit) (_ : Unit) => True) (fun _ => List.flatten [oc m0 7 [.ref A0, .ref V0, .ref Z0, .int sm, .int th, .int pl, .int hz, .ref D0, .ref W0, .ref T0, .int tl, .int tw, .int tc], ac E A0 985 (mA h w (nI d) s0 z st he ke tu ca tr (crC w d co k j) la)]) bb aa sx AA 0 0) (F0 mm 45 ls [.int (crV1 w d k j), .int (co 10), .int 19, .ref A0]) := by
    intro H locs ls hl hw
    refine lv_iadd hx hb dX7_crosses_45 ?_
    refine k_iast (pre := [oc m0 7 [.ref A0, .ref V0, .ref Z0, .int sm, .int th, .int pl, .int hz, .ref D0, .ref W0, .ref T0, .int tl, .int tw, .int tc]]) (l1 := []) C0 hw (i := 19) (kinN (n := 19) (by decide) (by decide)) dX7_crosses_46 (fun H locs hw => ?_)
    have hw : kW E AA sx (List.flatten [oc m0 7 [.ref A0, .ref V0, .ref Z0, .int sm, .int th, .int pl, .int hz, .ref D0, .ref W0, .ref T0, .int tl, .int tw, .int tc], ac E A0 985 (upd (mA h w (nI d) s0 z st he ke tu ca tr co la) (Int32.toNatClampNeg 19) ((co 10) + (crV1 w d k j)))]) H locs := hw
    have hw : kW E AA sx (List.flatten [oc m0 7 [.ref A0, .ref V0, .ref Z0, .int sm, .int th, .int pl, .int hz, .ref D0, .ref W0, .ref T0, .int tl, .int tw, .int tc], ac E A0 985 (mA h w (nI d) s0 z st he ke tu ca tr (upd co 10 (co 10 + crV1 w d k j)) la)]) H locs := kW.arr (pre := [oc m0 7 [.ref A0, .ref V0, .ref Z0, .int sm, .int th, .int pl, .int hz, .ref D0, .ref W0, .ref T0, .int tl, .int tw, .int tc]]) (l1 := []) hw (fun j9 _ => mA_wc (k := 10) (by decide) j9)
    refine lv_aload_n hx hb dX7_crosses_47 rfl (lv_at hl 1 rfl) ?_
    refine k_get (pre := []) C0 hw hinX7 rfl 0 (by decide) (hts (.fieldLink RX7 7 "SlabDunesModel" "all" "[I") (by decide +kernel)) rfl rfl dX7_crosses_48 ?_
    refine lv_bipush (v := 20) hx hb dX7_crosses_51 (by decide) ?_
    refine lv_dup2_11 hx hb dX7_crosses_53 rfl rfl ?_
    refine k_iald (pre := [oc m0 7 [.ref A0, .ref V0, .ref Z0, .int sm, .int th, .int pl, .int hz, .ref D0, .ref W0, .ref T0, .int tl, .int tw, .int tc]]) (l1 := []) C0 hw (i := 20) (kinN (n := 20) (by decide) (by decide)) dX7_crosses_54 ?_
    refine W.eq (g2 := F0 mm 55 ls [.int (upd co 10 (co 10 + crV1 w d k j) 11), .int 20, .ref A0]) (congrArg (fun z9 => F0 mm 55 ls [.int z9, .int 20, .ref A0]) (show ((mA h w (nI d) s0 z st he ke tu ca tr (upd co 10 (co 10 + crV1 w d k j)) la) (Int32.toNatClampNeg 20) : Int32) = upd co 10 (co 10 + crV1 w d k j) 11 from mA_cn (k := 11) (by decide))) ?_
    have join55 : ∀ (H : Heap) (locs : List Loc) (ls : Array Slot), lv_has ls 4 [(3, .int (nI w)), (0, .ref m0), (1, .int (nI k)), (2, .int (nI j))] → kW E AA sx (List.flatten [oc m0 7 [.ref A0, .ref V0, .ref Z0, .int sm, .int th, .int pl, .int hz, .ref D0, .ref W0, .ref T0, .int tl, .int tw, .int tc], ac E A0 985 (mA h w (nI d) s0 z st he ke tu ca tr (upd co 10 (co 10 + crV1 w d k j)) la)]) H locs → W pp l ee rmX7_crosses sx mm aa bb me cd H locs 0 0 (kEnd E kV (fun (_ : Unit) (_ : Unit) => True) (fun _ => List.flatten [oc m0 7 [.ref A0, .ref V0, .ref Z0, .int sm, .int th, .int pl, .int hz, .ref D0, .ref W0, .ref T0, .int tl, .int tw, .int tc], ac E A0 985 (mA h w (nI d) s0 z st he ke tu ca tr (crC w d co k j) la)]) bb aa sx AA 0 0) (F0 mm 86 ls [.int (crV2 w d k j), .int (upd co 10 (co 10 + crV1 w d k j) 11), .int 20, .ref A0]) := by
      intro H locs ls hl hw
      refine lv_iadd hx hb dX7_crosses_86 ?_
      refine k_iast (pre := [oc m0 7 [.ref A0, .ref V0, .ref Z0, .int sm, .int th, .int pl, .int hz, .ref D0, .ref W0, .ref T0, .int tl, .int tw, .int tc]]) (l1 := []) C0 hw (i := 20) (kinN (n := 20) (by decide) (by decide)) dX7_crosses_87 (fun H locs hw => ?_)
      have hw : kW E AA sx (List.flatten [oc m0 7 [.ref A0, .ref V0, .ref Z0, .int sm, .int th, .int pl, .int hz, .ref D0, .ref W0, .ref T0, .int tl, .int tw, .int tc], ac E A0 985 (upd (mA h w (nI d) s0 z st he ke tu ca tr (upd co 10 (co 10 + crV1 w d k j)) la) (Int32.toNatClampNeg 20) ((upd co 10 (co 10 + crV1 w d k j) 11) + (crV2 w d k j)))]) H locs := hw
      have hw : kW E AA sx (List.flatten [oc m0 7 [.ref A0, .ref V0, .ref Z0, .int sm, .int th, .int pl, .int hz, .ref D0, .ref W0, .ref T0, .int tl, .int tw, .int tc], ac E A0 985 (mA h w (nI d) s0 z st he ke tu ca tr (crC w d co k j) la)]) H locs := kW.arr (pre := [oc m0 7 [.ref A0, .ref V0, .ref Z0, .int sm, .int th, .int pl, .int hz, .ref D0, .ref W0, .ref T0, .int tl, .int tw, .int tc]]) (l1 := []) hw (fun j9 _ => mA_wc (k := 11) (by decide) j9)
      -- leaf 0
      exact k_vret C0 hr hlk hw () (rfl) (trivial) (Nat.le_of_ble_eq_true rfl) (Nat.le_of_ble_eq_true rfl) dX7_crosses_88
    refine lv_aload_n hx hb dX7_crosses_55 rfl (lv_at hl 1 rfl) ?_
    refine k_get (pre := []) C0 hw hinX7 rfl 0 (by decide) (hts (.fieldLink RX7 7 "SlabDunesModel" "all" "[I") (by decide +kernel)) rfl rfl dX7_crosses_56 ?_
    refine lv_bipush (v := 6) hx hb dX7_crosses_59 (by decide) ?_
    refine k_iald (pre := [oc m0 7 [.ref A0, .ref V0, .ref Z0, .int sm, .int th, .int pl, .int hz, .ref D0, .ref W0, .ref T0, .int tl, .int tw, .int tc]]) (l1 := []) C0 hw (i := 6) (kinN (n := 6) (by decide) (by decide)) dX7_crosses_61 ?_
    refine W.eq (g2 := F0 mm 62 ls [.int (nI d), .int (upd co 10 (co 10 + crV1 w d k j) 11), .int 20, .ref A0]) (congrArg (fun z9 => F0 mm 62 ls [.int z9, .int (upd co 10 (co 10 + crV1 w d k j) 11), .int 20, .ref A0]) (show ((mA h w (nI d) s0 z st he ke tu ca tr (upd co 10 (co 10 + crV1 w d k j)) la) (Int32.toNatClampNeg 6) : Int32) = nI d from rfl)) ?_
    refine lv_iconst (v := 2) hx hb dX7_crosses_62 (by decide) ?_
    refine lv_icmp_ne (tgt := 85) hx hb dX7_crosses_63 (by decide) (fun c63 => ?_) (fun c63 => ?_)
    · have c63 : ¬ d = 2 := fun h99 => c63 ((nI_eq (a := d) (b := 2) (by omega) (by omega)).mpr h99)
      refine lv_iconst (v := 0) hx hb dX7_crosses_85 (by decide) ?_
      refine W.eq (g2 := F0 mm 86 ls [.int (crV2 w d k j), .int (upd co 10 (co 10 + crV1 w d k j) 11), .int 20, .ref A0]) (congrArg (fun z9 => F0 mm 86 ls [.int z9, .int (upd co 10 (co 10 + crV1 w d k j) 11), .int 20, .ref A0]) (show (0 : Int32) = crV2 w d k j from (if_neg (by omega)).symm)) ?_
      exact join55 H _ ls (lv_sub hl [0, 1, 2, 3] rfl) hw
    · have c63 : d = 2 := (nI_eq (a := d) (b := 2) (by omega) (by omega)).mp c63
      refine lv_iload_n hx hb dX7_crosses_66 rfl (lv_at hl 2 rfl) ?_
      refine lv_iload_n hx hb dX7_crosses_67 rfl (lv_at hl 0 rfl) ?_
      refine lv_irem hx hb dX7_crosses_68 (nI_ne0 (by omega) (by omega)) ?_
      refine W.eq (g2 := F0 mm 69 ls [.int (nI (k % w)), .int (upd co 10 (co 10 + crV1 w d k j) 11), .int 20, .ref A0]) (congrArg (fun z9 => F0 mm 69 ls [.int z9, .int (upd co 10 (co 10 + crV1 w d k j) 11), .int 20, .ref A0]) (show ((nI k) - (nI k) / (nI w) * (nI w) : Int32) = nI (k % w) from pk_rem (by omega) (by omega) (by omega))) ?_
      refine lv_if_ne (tgt := 85) hx hb dX7_crosses_69 (by decide) (fun c69 => ?_) (fun c69 => ?_)
      · have c69 : ¬ (k % w) = 0 := fun h99 => c69 ((nI_eq (a := (k % w)) (b := 0) (by omega) (by omega)).mpr h99)
        refine lv_iconst (v := 0) hx hb dX7_crosses_85 (by decide) ?_
        refine W.eq (g2 := F0 mm 86 ls [.int (crV2 w d k j), .int (upd co 10 (co 10 + crV1 w d k j) 11), .int 20, .ref A0]) (congrArg (fun z9 => F0 mm 86 ls [.int z9, .int (upd co 10 (co 10 + crV1 w d k j) 11), .int 20, .ref A0]) (show (0 : Int32) = crV2 w d k j from (if_neg (by omega)).symm)) ?_
        exact join55 H _ ls (lv_sub hl [0, 1, 2, 3] rfl) hw
      · have c69 : (k % w) = 0 := (nI_eq (a := (k % w)) (b := 0) (by omega) (by omega)).mp c69
        refine lv_iload_n hx hb dX7_crosses_72 rfl (lv_at hl 3 rfl) ?_
        refine lv_iload_n hx hb dX7_crosses_73 rfl (lv_at hl 0 rfl) ?_
        refine lv_irem hx hb dX7_crosses_74 (nI_ne0 (by omega) (by omega)) ?_
        refine W.eq (g2 := F0 mm 75 ls [.int (nI (j % w)), .int (upd co 10 (co 10 + crV1 w d k j) 11), .int 20, .ref A0]) (congrArg (fun z9 => F0 mm 75 ls [.int z9, .int (upd co 10 (co 10 + crV1 w d k j) 11), .int 20, .ref A0]) (show ((nI j) - (nI j) / (nI w) * (nI w) : Int32) = nI (j % w) from pk_rem (by omega) (by omega) (by omega))) ?_
        refine lv_iload_n hx hb dX7_crosses_75 rfl (lv_at hl 0 rfl) ?_
        refine lv_iconst (v := 1) hx hb dX7_crosses_76 (by decide) ?_
        refine lv_isub hx hb dX7_crosses_77 ?_
        refine W.eq (g2 := F0 mm 78 ls [.int (nI (w - 1)), .int (nI (j % w)), .int (upd co 10 (co 10 + crV1 w d k j) 11), .int 20, .ref A0]) (congrArg (fun z9 => F0 mm 78 ls [.int z9, .int (nI (j % w)), .int (upd co 10 (co 10 + crV1 w d k j) 11), .int 20, .ref A0]) (show ((nI w) - 1 : Int32) = nI (w - 1) from pk_sub (b := 1) (by omega))) ?_
        refine lv_icmp_ne (tgt := 85) hx hb dX7_crosses_78 (by decide) (fun c78 => ?_) (fun c78 => ?_)
        · have c78 : ¬ (j % w) = (w - 1) := fun h99 => c78 ((nI_eq (a := (j % w)) (b := (w - 1)) (by omega) (by omega)).mpr h99)
          refine lv_iconst (v := 0) hx hb dX7_crosses_85 (by decide) ?_
          refine W.eq (g2 := F0 mm 86 ls [.int (crV2 w d k j), .int (upd co 10 (co 10 + crV1 w d k j) 11), .int 20, .ref A0]) (congrArg (fun z9 => F0 mm 86 ls [.int z9, .int (upd co 10 (co 10 + crV1 w d k j) 11), .int 20, .ref A0]) (show (0 : Int32) = crV2 w d k j from (if_neg (by omega)).symm)) ?_
          exact join55 H _ ls (lv_sub hl [0, 1, 2, 3] rfl) hw
        · have c78 : (j % w) = (w - 1) := (nI_eq (a := (j % w)) (b := (w - 1)) (by omega) (by omega)).mp c78
          refine lv_iconst (v := 1) hx hb dX7_crosses_81 (by decide) ?_
          refine lv_goto (tgt := 86) hx hb dX7_crosses_82 (by decide) ?_
          refine W.eq (g2 := F0 mm 86 ls [.int (crV2 w d k j), .int (upd co 10 (co 10 + crV1 w d k j) 11), .int 20, .ref A0]) (congrArg (fun z9 => F0 mm 86 ls [.int z9, .int (upd co 10 (co 10 + crV1 w d k j) 11), .int 20, .ref A0]) (show (1 : Int32) = crV2 w d k j from (if_pos (by omega)).symm)) ?_
          exact join55 H _ ls (lv_sub hl [0, 1, 2, 3] rfl) hw
  refine lv_aload_n hx hb dX7_crosses_15 rfl (lv_at hl 1 rfl) ?_
  refine k_get (pre := []) C0 hw hinX7 rfl 0 (by decide) (hts (.fieldLink RX7 7 "SlabDunesModel" "all" "[I") (by decide +kernel)) rfl rfl dX7_crosses_16 ?_
  refine lv_bipush (v := 6) hx hb dX7_crosses_19 (by decide) ?_
  refine k_iald (pre := [oc m0 7 [.ref A0, .ref V0, .ref Z0, .int sm, .int th, .int pl, .int hz, .ref D0, .ref W0, .ref T0, .int tl, .int tw, .int tc]]) (l1 := []) C0 hw (i := 6) (kinN (n := 6) (by decide) (by decide)) dX7_crosses_21 ?_
  refine W.eq (g2 := F0 mm 22 ls [.int (nI d), .int (co 10), .int 19, .ref A0]) (congrArg (fun z9 => F0 mm 22 ls [.int z9, .int (co 10), .int 19, .ref A0]) (show ((mA h w (nI d) s0 z st he ke tu ca tr co la) (Int32.toNatClampNeg 6) : Int32) = nI d from rfl)) ?_
  refine lv_if_ne (tgt := 44) hx hb dX7_crosses_22 (by decide) (fun c22 => ?_) (fun c22 => ?_)
  · have c22 : ¬ d = 0 := fun h99 => c22 ((nI_eq (a := d) (b := 0) (by omega) (by omega)).mpr h99)
    refine lv_iconst (v := 0) hx hb dX7_crosses_44 (by decide) ?_
    refine W.eq (g2 := F0 mm 45 ls [.int (crV1 w d k j), .int (co 10), .int 19, .ref A0]) (congrArg (fun z9 => F0 mm 45 ls [.int z9, .int (co 10), .int 19, .ref A0]) (show (0 : Int32) = crV1 w d k j from (if_neg (by omega)).symm)) ?_
    exact join15 H _ ls (lv_sub hl [0, 1, 2, 3] rfl) hw
  · have c22 : d = 0 := (nI_eq (a := d) (b := 0) (by omega) (by omega)).mp c22
    refine lv_iload_n hx hb dX7_crosses_25 rfl (lv_at hl 2 rfl) ?_
    refine lv_iload_n hx hb dX7_crosses_26 rfl (lv_at hl 0 rfl) ?_
    refine lv_irem hx hb dX7_crosses_27 (nI_ne0 (by omega) (by omega)) ?_
    refine W.eq (g2 := F0 mm 28 ls [.int (nI (k % w)), .int (co 10), .int 19, .ref A0]) (congrArg (fun z9 => F0 mm 28 ls [.int z9, .int (co 10), .int 19, .ref A0]) (show ((nI k) - (nI k) / (nI w) * (nI w) : Int32) = nI (k % w) from pk_rem (by omega) (by omega) (by omega))) ?_
    refine lv_iload_n hx hb dX7_crosses_28 rfl (lv_at hl 0 rfl) ?_
    refine lv_iconst (v := 1) hx hb dX7_crosses_29 (by decide) ?_
    refine lv_isub hx hb dX7_crosses_30 ?_
    refine W.eq (g2 := F0 mm 31 ls [.int (nI (w - 1)), .int (nI (k % w)), .int (co 10), .int 19, .ref A0]) (congrArg (fun z9 => F0 mm 31 ls [.int z9, .int (nI (k % w)), .int (co 10), .int 19, .ref A0]) (show ((nI w) - 1 : Int32) = nI (w - 1) from pk_sub (b := 1) (by omega))) ?_
    refine lv_icmp_ne (tgt := 44) hx hb dX7_crosses_31 (by decide) (fun c31 => ?_) (fun c31 => ?_)
    · have c31 : ¬ (k % w) = (w - 1) := fun h99 => c31 ((nI_eq (a := (k % w)) (b := (w - 1)) (by omega) (by omega)).mpr h99)
      refine lv_iconst (v := 0) hx hb dX7_crosses_44 (by decide) ?_
      refine W.eq (g2 := F0 mm 45 ls [.int (crV1 w d k j), .int (co 10), .int 19, .ref A0]) (congrArg (fun z9 => F0 mm 45 ls [.int z9, .int (co 10), .int 19, .ref A0]) (show (0 : Int32) = crV1 w d k j from (if_neg (by omega)).symm)) ?_
      exact join15 H _ ls (lv_sub hl [0, 1, 2, 3] rfl) hw
    · have c31 : (k % w) = (w - 1) := (nI_eq (a := (k % w)) (b := (w - 1)) (by omega) (by omega)).mp c31
      refine lv_iload_n hx hb dX7_crosses_34 rfl (lv_at hl 3 rfl) ?_
      refine lv_iload_n hx hb dX7_crosses_35 rfl (lv_at hl 0 rfl) ?_
      refine lv_irem hx hb dX7_crosses_36 (nI_ne0 (by omega) (by omega)) ?_
      refine W.eq (g2 := F0 mm 37 ls [.int (nI (j % w)), .int (co 10), .int 19, .ref A0]) (congrArg (fun z9 => F0 mm 37 ls [.int z9, .int (co 10), .int 19, .ref A0]) (show ((nI j) - (nI j) / (nI w) * (nI w) : Int32) = nI (j % w) from pk_rem (by omega) (by omega) (by omega))) ?_
      refine lv_if_ne (tgt := 44) hx hb dX7_crosses_37 (by decide) (fun c37 => ?_) (fun c37 => ?_)
      · have c37 : ¬ (j % w) = 0 := fun h99 => c37 ((nI_eq (a := (j % w)) (b := 0) (by omega) (by omega)).mpr h99)
        refine lv_iconst (v := 0) hx hb dX7_crosses_44 (by decide) ?_
        refine W.eq (g2 := F0 mm 45 ls [.int (crV1 w d k j), .int (co 10), .int 19, .ref A0]) (congrArg (fun z9 => F0 mm 45 ls [.int z9, .int (co 10), .int 19, .ref A0]) (show (0 : Int32) = crV1 w d k j from (if_neg (by omega)).symm)) ?_
        exact join15 H _ ls (lv_sub hl [0, 1, 2, 3] rfl) hw
      · have c37 : (j % w) = 0 := (nI_eq (a := (j % w)) (b := 0) (by omega) (by omega)).mp c37
        refine lv_iconst (v := 1) hx hb dX7_crosses_40 (by decide) ?_
        refine lv_goto (tgt := 45) hx hb dX7_crosses_41 (by decide) ?_
        refine W.eq (g2 := F0 mm 45 ls [.int (crV1 w d k j), .int (co 10), .int 19, .ref A0]) (congrArg (fun z9 => F0 mm 45 ls [.int z9, .int (co 10), .int 19, .ref A0]) (show (1 : Int32) = crV1 w d k j from (if_pos (by omega)).symm)) ?_
        exact join15 H _ ls (lv_sub hl [0, 1, 2, 3] rfl) hw
