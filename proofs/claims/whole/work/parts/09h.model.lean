/-! THE MODEL: dunes by a stack -/
def stI (h w num : Nat) (L q : Nat → Nat) (m p : Nat) : Prop := (∀ j, j < m → q j < h * w ∧ L (q j) = num) ∧ cntL L num (h * w) = m + p
def clS (h w : Nat) (he : Nat → Int32) (t : Int32) (lab : Nat → Nat) (num : Nat) (L q : Nat → Nat) (m : Nat) (y k : Nat) : Prop :=
  ∀ x, L x = num → (∃ j, j < m ∧ q j = x) ∨ (∀ k', k' < 4 → (x = y → k' < k) → ¬ he (nbr h w x k') < t → lab (nbr h w x k') = 0 → L (nbr h w x k') = num)
theorem stI_0 {h w : Nat} {num c : Nat} {lab : Nat → Nat} (hc : c < h * w) (hf : ∀ x, lab x < num) : stI h w num (va_up lab c num) (fun _ => c) 1 0 := by
  have h9 := flQ_0 (he := fun _ => 0) hc hf
  exact ⟨h9.1, h9.2.2.1⟩
theorem clS_0 {h w : Nat} {he : Nat → Int32} {t : Int32} {lab : Nat → Nat} {num c : Nat} (hf : ∀ x, lab x < num) : clS h w he t lab num (va_up lab c num) (fun _ => c) 1 0 4 := by
  intro x hx
  refine Or.inl ⟨0, by decide, ?_⟩
  by_cases h9 : x = c
  · exact h9.symm
  · rw [va_up_ne _ _ h9] at hx
    have := hf x
    omega
theorem clS_pop {h w : Nat} {he : Nat → Int32} {t : Int32} {lab : Nat → Nat} {num m y : Nat} {L q : Nat → Nat} (hC : clS h w he t lab num L q (m + 1) y 4) : clS h w he t lab num L q m (q m) 0 := by
  intro x hx
  rcases hC x hx with ⟨j, h1, h2⟩ | h1
  · by_cases h9 : j = m
    · rw [h9] at h2
      exact Or.inr (fun k' _ h8 => absurd (h8 h2.symm) (Nat.not_lt_zero _))
    · exact Or.inl ⟨j, by omega, h2⟩
  · exact Or.inr (fun k' h3 _ => h1 k' h3 (fun _ => h3))
theorem clS_same {h w : Nat} {he : Nat → Int32} {t : Int32} {lab : Nat → Nat} {num m y k : Nat} {L q : Nat → Nat} (hC : clS h w he t lab num L q m y k) (h1 : ¬ he (nbr h w y k) < t → lab (nbr h w y k) = 0 → L (nbr h w y k) = num) : clS h w he t lab num L q m y (k + 1) := by
  intro x hx
  rcases hC x hx with h2 | h2
  · exact Or.inl h2
  · refine Or.inr (fun k' h3 h4 => ?_)
    by_cases h9 : x = y ∧ k' = k
    · rw [h9.1, h9.2]; exact h1
    · exact h2 k' h3 (fun e => by have := h4 e; have : ¬ k' = k := fun e2 => h9 ⟨e, e2⟩; omega)
theorem clS_push {h w : Nat} {he : Nat → Int32} {t : Int32} {lab : Nat → Nat} {num m y k : Nat} {L q : Nat → Nat} (hC : clS h w he t lab num L q m y k) : clS h w he t lab num (va_up L (nbr h w y k) num) (va_up q m (nbr h w y k)) (m + 1) y (k + 1) := by
  intro x hx
  by_cases h9 : x = nbr h w y k
  · exact Or.inl ⟨m, by omega, by rw [va_up_self]; exact h9.symm⟩
  · rw [va_up_ne _ _ h9] at hx
    rcases hC x hx with ⟨j, h1, h2⟩ | h2
    · exact Or.inl ⟨j, by omega, by rw [va_up_ne _ _ (by omega)]; exact h2⟩
    · refine Or.inr (fun k' h3 h4 a1 a2 => ?_)
      by_cases h8 : nbr h w x k' = nbr h w y k
      · rw [h8, va_up_self]
      · rw [va_up_ne _ _ h8]
        refine h2 k' h3 (fun e => ?_) a1 a2
        have h5 := h4 e
        have : ¬ k' = k := fun e2 => h8 (by rw [e, e2])
        omega
theorem clS_next {h w : Nat} {he : Nat → Int32} {t : Int32} {lab : Nat → Nat} {num m y : Nat} {L q : Nat → Nat} (hC : clS h w he t lab num L q m y 4) : clS h w he t lab num L q m 0 4 := by
  intro x hx
  rcases hC x hx with h2 | h2
  · exact Or.inl h2
  · exact Or.inr (fun k' h3 _ => h2 k' h3 (fun _ => h3))
theorem clS_end {h w : Nat} {he : Nat → Int32} {t : Int32} {lab : Nat → Nat} {num c y : Nat} {L q : Nat → Nat} (hL : flI h w he t lab num c L) (hC : clS h w he t lab num L q 0 y 4) : L = sprL h w he t lab num c := by
  refine flI_eq hL (fun x k hx hk h1 h2 => ?_)
  rcases hC x hx with ⟨j, h3, _⟩ | h3
  · omega
  · exact h3 k hk (fun _ => hk) h1 h2
theorem stI_push {h w num x m p : Nat} {L q : Nat → Nat} (hS : stI h w num L q m p) (hx : x < h * w) (hxn : L x ≠ num) : stI h w num (va_up L x num) (va_up q m x) (m + 1) p := by
  refine ⟨fun j hj => ?_, by rw [cntL_up hxn _ hx, hS.2]; omega⟩
  by_cases h9 : j = m
  · rw [h9, va_up_self]; exact ⟨hx, va_up_self _ _ _⟩
  · rw [va_up_ne _ _ h9]
    obtain ⟨a1, a2⟩ := hS.1 j (by omega)
    refine ⟨a1, ?_⟩
    rw [va_up_ne]
    · exact a2
    · intro e9; rw [e9] at a2; exact hxn a2
theorem stI_lt {h w num x m p : Nat} {L q : Nat → Nat} (hS : stI h w num L q m p) (hx : x < h * w) (hxn : L x ≠ num) : m + p < h * w := by
  have h1 := (stI_push hS hx hxn).2
  have h2 := cntL_le (va_up L x num) num (h * w)
  omega
theorem dnR_0 {n : Nat} {D : Nat → Int32} (h : ∀ j, j < n → D j = 0) : dnR n D (fun _ => 0) := fun x hx => h x hx
abbrev rmX7_isOpen : Room := { frames := 2, cells := 0, slots := 0, locals := 43 }
set_option maxHeartbeats 4000000 in
set_option maxRecDepth 100000 in
theorem c_X7_isOpen (l : Launch) (E : kE) (m0 : Nat) (A0 : Nat) (V0 : Nat) (Z0 : Nat) (D0 : Nat) (W0 : Nat) (T0 : Nat) (sm : Int32) (th : Int32) (pl : Int32) (hz : Int32) (tl : Int32) (tw : Int32) (tc : Int32) (h : Nat) (w : Nat) (wd : Int32) (s0 : Int32) (z : Int32) (st : Nat → Int32) (he : Nat → Int32) (ke : Nat → Int32) (tu : Nat → Int32) (ca : Nat → Int32) (tr : Nat → Int32) (co : Nat → Int32) (la : Nat → Int32) (D : Nat → Int32) (k : Nat) (t : Int32) (L : Nat → Nat) (hG : kG h w) (hc : k < h * w) (hDD : dnR (h * w) D L) (hLb : L k < 2147483648) : kC E l yX7_isOpen wsX7_isOpen rmX7_isOpen [.ref m0, .int (nI k), .int t] (List.flatten [oc m0 7 [.ref A0, .ref V0, .ref Z0, .int sm, .int th, .int pl, .int hz, .ref D0, .ref W0, .ref T0, .int tl, .int tw, .int tc], ac E A0 985 (mA h w wd s0 z st he ke tu ca tr co la), ac E D0 192 D]) kI (fun (r : Int32) (_ : Unit) => r = if L k = 0 ∧ ¬ he k < t then 1 else 0) (fun _ => List.flatten [oc m0 7 [.ref A0, .ref V0, .ref Z0, .int sm, .int th, .int pl, .int hz, .ref D0, .ref W0, .ref T0, .int tl, .int tw, .int tc], ac E A0 985 (mA h w wd s0 z st he ke tu ca tr co la), ac E D0 192 D]) 0 0 := by
  refine k_body (cc := cX7_isOpen) (maxL := 3) (ret := (some .boolean)) (by decide) rfl (Nat.le_of_ble_eq_true rfl) ?_
  intro pp ee sx mm aa bb me cd H locs AA ls C0 hr hlk hnm hl hw
  obtain ⟨hx, hb, hml, hown, hts⟩ := id C0
  have hl : lv_has ls 3 [(0, .ref m0), (1, .int (nI k)), (2, .int t)] := hl
  have hw : kW E AA sx (List.flatten [oc m0 7 [.ref A0, .ref V0, .ref Z0, .int sm, .int th, .int pl, .int hz, .ref D0, .ref W0, .ref T0, .int tl, .int tw, .int tc], ac E A0 985 (mA h w wd s0 z st he ke tu ca tr co la), ac E D0 192 D]) H locs := hw
  have hn9 := kG_n hG
  have hG9 := id hG
  obtain ⟨hG1, hG2, hG3, hG4⟩ := hG9
  have hinX7 : ∀ w ∈ u_ws RX7 TX7 13, w ∈ wsX7_isOpen := by decide +kernel
  refine lv_aload_n hx hb dX7_isOpen_0 rfl (lv_at hl 0 rfl) ?_
  refine k_get (pre := []) C0 hw hinX7 rfl 7 (by decide) (hts (.fieldLink RX7 19 "SlabDunesModel" "duneAt" "[I") (by decide +kernel)) rfl rfl dX7_isOpen_1 ?_
  refine lv_iload_n hx hb dX7_isOpen_4 rfl (lv_at hl 1 rfl) ?_
  refine k_iald (pre := [oc m0 7 [.ref A0, .ref V0, .ref Z0, .int sm, .int th, .int pl, .int hz, .ref D0, .ref W0, .ref T0, .int tl, .int tw, .int tc], ac E A0 985 (mA h w wd s0 z st he ke tu ca tr co la)]) (l1 := []) C0 hw (i := nI k) (kinN (by omega) (by decide)) dX7_isOpen_5 ?_
  refine W.eq (g2 := F0 mm 6 ls [.int (nI (L k))]) (congrArg (fun z9 => F0 mm 6 ls [.int z9]) (show (D (Int32.toNatClampNeg (nI k)) : Int32) = nI (L k) from by rw [nI_clamp (by omega)]; exact hDD k hc)) ?_
  refine lv_if_ne (tgt := 23) hx hb dX7_isOpen_6 (by decide) (fun c6 => ?_) (fun c6 => ?_)
  · have c6 : ¬ (L k) = 0 := fun h99 => c6 ((nI_eq (a := (L k)) (b := 0) (by omega) (by omega)).mpr h99)
    refine lv_iconst (v := 0) hx hb dX7_isOpen_23 (by decide) ?_
    -- leaf 0
    exact k_zret C0 hr hlk hw () (rfl) ((if_neg (fun h99 => c6 h99.1)).symm) (rfl) (Nat.le_of_ble_eq_true rfl) (Nat.le_of_ble_eq_true rfl) dX7_isOpen_24
  · have c6 : (L k) = 0 := (nI_eq (a := (L k)) (b := 0) (by omega) (by omega)).mp c6
    refine lv_aload_n hx hb dX7_isOpen_9 rfl (lv_at hl 0 rfl) ?_
    refine lv_iload_n hx hb dX7_isOpen_10 rfl (lv_at hl 1 rfl) ?_
    refine lv_iconst (v := 0) hx hb dX7_isOpen_11 (by decide) ?_
    refine k_V (As := [.int (nI k), .int 0]) (rest := []) (pre := []) (mid := [oc m0 7 [.ref A0, .ref V0, .ref Z0, .int sm, .int th, .int pl, .int hz, .ref D0, .ref W0, .ref T0, .int tl, .int tw, .int tc], ac E A0 985 (mA h w wd s0 z st he ke tu ca tr co la)]) C0 (c_X7_of0 l E m0 A0 V0 Z0 D0 W0 T0 sm th pl hz tl tw tc h w wd s0 z st he ke tu ca tr co la k (by first | assumption | omega) (by first | assumption | omega)) (cwV 2 hts gX7_isOpen_X7_of rfl rfl rfl (by decide +kernel) ⟨Nat.le_of_ble_eq_true rfl, Nat.le_of_ble_eq_true rfl⟩) hw rfl (fun _ => [oc m0 7 [.ref A0, .ref V0, .ref Z0, .int sm, .int th, .int pl, .int hz, .ref D0, .ref W0, .ref T0, .int tl, .int tw, .int tc], ac E A0 985 (mA h w wd s0 z st he ke tu ca tr co la)]) (fun _ => rfl) 0 7 rfl rfl rfl rfl hl.1 rfl (Nat.le_of_ble_eq_true rfl) dX7_isOpen_12 ⟨Nat.le_of_ble_eq_true rfl, Nat.le_of_ble_eq_true rfl⟩ (fun r u H locs hq99 hw => ?_)
    subst hq99
    have hw : kW E AA sx (List.flatten [oc m0 7 [.ref A0, .ref V0, .ref Z0, .int sm, .int th, .int pl, .int hz, .ref D0, .ref W0, .ref T0, .int tl, .int tw, .int tc], ac E A0 985 (mA h w wd s0 z st he ke tu ca tr co la), ac E D0 192 D]) H locs := hw
    refine W.eq (g2 := F0 mm 15 ls [.int (he k)]) rfl ?_
    refine lv_iload_n hx hb dX7_isOpen_15 rfl (lv_at hl 2 rfl) ?_
    refine lv_icmp_lt (tgt := 23) hx hb dX7_isOpen_16 (by decide) (fun c16 => ?_) (fun c16 => ?_)
    · refine lv_iconst (v := 0) hx hb dX7_isOpen_23 (by decide) ?_
      -- leaf 1
      exact k_zret C0 hr hlk hw () (rfl) ((if_neg (fun h99 => h99.2 c16)).symm) (rfl) (Nat.le_of_ble_eq_true rfl) (Nat.le_of_ble_eq_true rfl) dX7_isOpen_24
    · refine lv_iconst (v := 1) hx hb dX7_isOpen_19 (by decide) ?_
      refine lv_goto (tgt := 24) hx hb dX7_isOpen_20 (by decide) ?_
      -- leaf 2
      exact k_zret C0 hr hlk hw () (rfl) ((if_pos ⟨c6, c16⟩).symm) (rfl) (Nat.le_of_ble_eq_true rfl) (Nat.le_of_ble_eq_true rfl) dX7_isOpen_24

abbrev rmX7_spreads : Room := { frames := 3, cells := 0, slots := 0, locals := 65 }
set_option maxHeartbeats 4000000 in
set_option maxRecDepth 100000 in
theorem c_X7_spreads (l : Launch) (E : kE) (m0 : Nat) (A0 : Nat) (V0 : Nat) (Z0 : Nat) (D0 : Nat) (W0 : Nat) (T0 : Nat) (sm : Int32) (th : Int32) (pl : Int32) (hz : Int32) (tl : Int32) (tw : Int32) (tc : Int32) (h : Nat) (w : Nat) (wd : Int32) (s0 : Int32) (z : Int32) (st : Nat → Int32) (he : Nat → Int32) (ke : Nat → Int32) (tu : Nat → Int32) (ca : Nat → Int32) (tr : Nat → Int32) (co : Nat → Int32) (la : Nat → Int32) (D : Nat → Int32) (Q : Nat → Int32) (k : Nat) (num : Nat) (t : Int32) (lab : Nat → Nat) (hG : kG h w) (hc : k < h * w) (hdn : dnR (h * w) D lab) (hlab : ∀ x, lab x < num) (hnum : 1 ≤ num) (hnum2 : num ≤ 192) (hlc : lab k = 0) : kC E l yX7_spreads wsX7_spreads rmX7_spreads [.ref m0, .int (nI k), .int (nI num), .int t] (List.flatten [oc m0 7 [.ref A0, .ref V0, .ref Z0, .int sm, .int th, .int pl, .int hz, .ref D0, .ref W0, .ref T0, .int tl, .int tw, .int tc], ac E A0 985 (mA h w wd s0 z st he ke tu ca tr co la), ac E D0 192 D, ac E W0 192 Q]) kV (fun (r : Unit) (u : fP) => dnR (h * w) u.1 (sprL h w he t lab num k)) (fun (u : fP) => List.flatten [oc m0 7 [.ref A0, .ref V0, .ref Z0, .int sm, .int th, .int pl, .int hz, .ref D0, .ref W0, .ref T0, .int tl, .int tw, .int tc], ac E A0 985 (mA h w wd s0 z st he ke tu ca tr co la), ac E D0 192 u.1, ac E W0 192 u.2]) 0 0 := by
  refine k_body (cc := cX7_spreads) (maxL := 8) (ret := none) (by decide) rfl (Nat.le_of_ble_eq_true rfl) ?_
  intro pp ee sx mm aa bb me cd H locs AA ls C0 hr hlk hnm hl hw
  obtain ⟨hx, hb, hml, hown, hts⟩ := id C0
  have hl : lv_has ls 8 [(0, .ref m0), (1, .int (nI k)), (2, .int (nI num)), (3, .int t)] := hl
  have hw : kW E AA sx (List.flatten [oc m0 7 [.ref A0, .ref V0, .ref Z0, .int sm, .int th, .int pl, .int hz, .ref D0, .ref W0, .ref T0, .int tl, .int tw, .int tc], ac E A0 985 (mA h w wd s0 z st he ke tu ca tr co la), ac E D0 192 D, ac E W0 192 Q]) H locs := hw
  have hn9 := kG_n hG
  have hG9 := id hG
  obtain ⟨hG1, hG2, hG3, hG4⟩ := hG9
  have hinX7 : ∀ w ∈ u_ws RX7 TX7 13, w ∈ wsX7_spreads := by decide +kernel
  refine lv_iconst (v := 1) hx hb dX7_spreads_0 (by decide) ?_
  refine lv_istore (lv' := [(4, .int 1), (0, .ref m0), (1, .int (nI k)), (2, .int (nI num)), (3, .int t)]) hx hb dX7_spreads_1 hl (by decide) rfl (fun ls hl => ?_)
  refine lv_aload_n hx hb dX7_spreads_3 rfl (lv_at hl 1 rfl) ?_
  refine k_get (pre := []) C0 hw hinX7 rfl 8 (by decide) (hts (.fieldLink RX7 22 "SlabDunesModel" "waits" "[I") (by decide +kernel)) rfl rfl dX7_spreads_4 ?_
  refine lv_iconst (v := 0) hx hb dX7_spreads_7 (by decide) ?_
  refine lv_iload_n hx hb dX7_spreads_8 rfl (lv_at hl 2 rfl) ?_
  refine k_iast (pre := [oc m0 7 [.ref A0, .ref V0, .ref Z0, .int sm, .int th, .int pl, .int hz, .ref D0, .ref W0, .ref T0, .int tl, .int tw, .int tc], ac E A0 985 (mA h w wd s0 z st he ke tu ca tr co la), ac E D0 192 D]) (l1 := []) C0 hw (i := 0) (kinN (n := 0) (by decide) (by decide)) dX7_spreads_9 (fun H locs hw => ?_)
  have hw : kW E AA sx (List.flatten [oc m0 7 [.ref A0, .ref V0, .ref Z0, .int sm, .int th, .int pl, .int hz, .ref D0, .ref W0, .ref T0, .int tl, .int tw, .int tc], ac E A0 985 (mA h w wd s0 z st he ke tu ca tr co la), ac E D0 192 D, ac E W0 192 (upd Q (Int32.toNatClampNeg 0) (nI k))]) H locs := hw
  have hw : kW E AA sx (List.flatten [oc m0 7 [.ref A0, .ref V0, .ref Z0, .int sm, .int th, .int pl, .int hz, .ref D0, .ref W0, .ref T0, .int tl, .int tw, .int tc], ac E A0 985 (mA h w wd s0 z st he ke tu ca tr co la), ac E D0 192 D, ac E W0 192 (upd Q 0 (nI k))]) H locs := kW.arr (pre := [oc m0 7 [.ref A0, .ref V0, .ref Z0, .int sm, .int th, .int pl, .int hz, .ref D0, .ref W0, .ref T0, .int tl, .int tw, .int tc], ac E A0 985 (mA h w wd s0 z st he ke tu ca tr co la), ac E D0 192 D]) (l1 := []) hw (fun j9 _ => rfl)
  refine lv_aload_n hx hb dX7_spreads_10 rfl (lv_at hl 1 rfl) ?_
  refine k_get (pre := []) C0 hw hinX7 rfl 7 (by decide) (hts (.fieldLink RX7 19 "SlabDunesModel" "duneAt" "[I") (by decide +kernel)) rfl rfl dX7_spreads_11 ?_
  refine lv_iload_n hx hb dX7_spreads_14 rfl (lv_at hl 2 rfl) ?_
  refine lv_iload_n hx hb dX7_spreads_15 rfl (lv_at hl 3 rfl) ?_
  refine k_iast (pre := [oc m0 7 [.ref A0, .ref V0, .ref Z0, .int sm, .int th, .int pl, .int hz, .ref D0, .ref W0, .ref T0, .int tl, .int tw, .int tc], ac E A0 985 (mA h w wd s0 z st he ke tu ca tr co la)]) (l1 := []) C0 hw (i := nI k) (kinN (by omega) (by decide)) dX7_spreads_16 (fun H locs hw => ?_)
  have hw : kW E AA sx (List.flatten [oc m0 7 [.ref A0, .ref V0, .ref Z0, .int sm, .int th, .int pl, .int hz, .ref D0, .ref W0, .ref T0, .int tl, .int tw, .int tc], ac E A0 985 (mA h w wd s0 z st he ke tu ca tr co la), ac E D0 192 (upd D (Int32.toNatClampNeg (nI k)) (nI num)), ac E W0 192 (upd Q 0 (nI k))]) H locs := hw
  have hw : kW E AA sx (List.flatten [oc m0 7 [.ref A0, .ref V0, .ref Z0, .int sm, .int th, .int pl, .int hz, .ref D0, .ref W0, .ref T0, .int tl, .int tw, .int tc], ac E A0 985 (mA h w wd s0 z st he ke tu ca tr co la), ac E D0 192 (upd D k (nI num)), ac E W0 192 (upd Q 0 (nI k))]) H locs := kW.arr (pre := [oc m0 7 [.ref A0, .ref V0, .ref Z0, .int sm, .int th, .int pl, .int hz, .ref D0, .ref W0, .ref T0, .int tl, .int tw, .int tc], ac E A0 985 (mA h w wd s0 z st he ke tu ca tr co la)]) (l1 := []) hw (fun j9 _ => by rw [nI_clamp (by omega)])
  have loop17 : ∀ (nn : Nat) (m9 : Nat) (p9 : Nat) (L9 : Nat → Nat) (q9 : Nat → Nat) (D9 : Nat → Int32) (Q9 : Nat → Int32), (flI h w he t lab num k L9) → (stI h w num L9 q9 m9 p9) → (clS h w he t lab num L9 q9 m9 0 4) → (dnR (h * w) D9 L9) → (quR m9 Q9 q9) → h * w - p9 < nn → ∀ (H : Heap) (locs : List Loc) (ls : Array Slot), lv_has ls 8 [(4, .int (nI m9)), (0, .ref m0), (1, .int (nI k)), (2, .int (nI num)), (3, .int t)] → kW E AA sx (List.flatten [oc m0 7 [.ref A0, .ref V0, .ref Z0, .int sm, .int th, .int pl, .int hz, .ref D0, .ref W0, .ref T0, .int tl, .int tw, .int tc], ac E A0 985 (mA h w wd s0 z st he ke tu ca tr co la), ac E D0 192 D9, ac E W0 192 Q9]) H locs → W pp l ee rmX7_spreads sx mm aa bb me cd H locs 0 0 (kEnd E kV (fun (r : Unit) (u : fP) => dnR (h * w) u.1 (sprL h w he t lab num k)) (fun (u : fP) => List.flatten [oc m0 7 [.ref A0, .ref V0, .ref Z0, .int sm, .int th, .int pl, .int hz, .ref D0, .ref W0, .ref T0, .int tl, .int tw, .int tc], ac E A0 985 (mA h w wd s0 z st he ke tu ca tr co la), ac E D0 192 u.1, ac E W0 192 u.2]) bb aa sx AA 0 0) (F0 mm 17 ls []) := by
    intro nn
    induction nn with
    | zero => intro m9 p9 L9 q9 D9 Q9 hFl hSt hCl hDD hQQ hm17; exact absurd hm17 (Nat.not_lt_zero _)
    | succ nn ih17 =>
      intro m9 p9 L9 q9 D9 Q9 hFl hSt hCl hDD hQQ hm17 H locs ls hl hw
      have hcl9 := cntL_le L9 num (h * w)
      have hs29 := hSt.2
      have hml9 : m9 ≤ 192 := by omega
      refine lv_iload hx hb dX7_spreads_17 (lv_at hl 0 rfl) ?_
      refine lv_if_le (tgt := 92) hx hb dX7_spreads_19 (by decide) (fun c19 => ?_) (fun c19 => ?_)
      · have c19 : m9 ≤ 0 := (nI_leI (a := m9) (b := 0) (by omega) (by omega)).mp c19
        have hm0 : m9 = 0 := by omega
        rw [hm0] at hCl
        have hLL9 := clS_end hFl hCl
        rw [hLL9] at hDD
        -- leaf 0
        exact k_vret C0 hr hlk hw (D9, Q9) (rfl) (hDD) (Nat.le_of_ble_eq_true rfl) (Nat.le_of_ble_eq_true rfl) dX7_spreads_92
      · have c19 : ¬ m9 ≤ 0 := fun h99 => c19 ((nI_leI (a := m9) (b := 0) (by omega) (by omega)).mpr h99)
        obtain ⟨m8, hm8⟩ : ∃ m8, m9 = m8 + 1 := ⟨m9 - 1, by omega⟩
        have hqm := hSt.1 m8 (by omega)
        have hSt7 : stI h w num L9 q9 m8 (p9 + 1) := ⟨fun j hj => hSt.1 j (by omega), by rw [hSt.2, hm8]; omega⟩
        rw [hm8] at hCl
        have hl : lv_has ls 8 [(4, .int (nI (m8 + 1))), (0, .ref m0), (1, .int (nI k)), (2, .int (nI num)), (3, .int t)] := by have h99 : nI m9 = nI (m8 + 1) := (by rw [hm8]); rw [h99] at hl; exact hl
        refine lv_iinc (v := nI m8) (lv' := [(4, .int (nI m8)), (0, .ref m0), (1, .int (nI k)), (2, .int (nI num)), (3, .int t)]) hx hb dX7_spreads_22 hl (k := 0) rfl (pk_m1 _) (by decide) rfl (fun ls hl => ?_)
        refine lv_aload_n hx hb dX7_spreads_25 rfl (lv_at hl 1 rfl) ?_
        refine k_get (pre := []) C0 hw hinX7 rfl 8 (by decide) (hts (.fieldLink RX7 22 "SlabDunesModel" "waits" "[I") (by decide +kernel)) rfl rfl dX7_spreads_26 ?_
        refine lv_iload hx hb dX7_spreads_29 (lv_at hl 0 rfl) ?_
        refine k_iald (pre := [oc m0 7 [.ref A0, .ref V0, .ref Z0, .int sm, .int th, .int pl, .int hz, .ref D0, .ref W0, .ref T0, .int tl, .int tw, .int tc], ac E A0 985 (mA h w wd s0 z st he ke tu ca tr co la), ac E D0 192 D9]) (l1 := []) C0 hw (i := nI m8) (kinN (by omega) (by decide)) dX7_spreads_31 ?_
        refine W.eq (g2 := F0 mm 32 ls [.int (nI (q9 m8))]) (congrArg (fun z9 => F0 mm 32 ls [.int z9]) (show (Q9 (Int32.toNatClampNeg (nI m8)) : Int32) = nI (q9 m8) from by rw [nI_clamp (by omega)]; exact hQQ m8 (by omega))) ?_
        refine lv_istore (lv' := [(5, .int (nI (q9 m8))), (4, .int (nI m8)), (0, .ref m0), (1, .int (nI k)), (2, .int (nI num)), (3, .int t)]) hx hb dX7_spreads_32 hl (by decide) rfl (fun ls hl => ?_)
        refine lv_iconst (v := 0) hx hb dX7_spreads_34 (by decide) ?_
        refine lv_istore (lv' := [(6, .int 0), (5, .int (nI (q9 m8))), (4, .int (nI m8)), (0, .ref m0), (1, .int (nI k)), (2, .int (nI num)), (3, .int t)]) hx hb dX7_spreads_35 hl (by decide) rfl (fun ls hl => ?_)
        have loop37 : ∀ (nn : Nat) (j8 : Nat) (y8 : Nat) (m7 : Nat) (L8 : Nat → Nat) (q8 : Nat → Nat) (D8 : Nat → Int32) (Q8 : Nat → Int32), (y8 < h * w) → (L8 y8 = num) → (flI h w he t lab num k L8) → (stI h w num L8 q8 m7 (p9 + 1)) → (clS h w he t lab num L8 q8 m7 y8 j8) → (j8 ≤ 4) → (dnR (h * w) D8 L8) → (quR m7 Q8 q8) → 4 - j8 < nn → ∀ (H : Heap) (locs : List Loc) (ls : Array Slot), lv_has ls 8 [(6, .int (nI j8)), (5, .int (nI y8)), (4, .int (nI m7)), (0, .ref m0), (1, .int (nI k)), (2, .int (nI num)), (3, .int t)] → kW E AA sx (List.flatten [oc m0 7 [.ref A0, .ref V0, .ref Z0, .int sm, .int th, .int pl, .int hz, .ref D0, .ref W0, .ref T0, .int tl, .int tw, .int tc], ac E A0 985 (mA h w wd s0 z st he ke tu ca tr co la), ac E D0 192 D8, ac E W0 192 Q8]) H locs → W pp l ee rmX7_spreads sx mm aa bb me cd H locs 0 0 (kEnd E kV (fun (r : Unit) (u : fP) => dnR (h * w) u.1 (sprL h w he t lab num k)) (fun (u : fP) => List.flatten [oc m0 7 [.ref A0, .ref V0, .ref Z0, .int sm, .int th, .int pl, .int hz, .ref D0, .ref W0, .ref T0, .int tl, .int tw, .int tc], ac E A0 985 (mA h w wd s0 z st he ke tu ca tr co la), ac E D0 192 u.1, ac E W0 192 u.2]) bb aa sx AA 0 0) (F0 mm 37 ls []) := by
          intro nn
          induction nn with
          | zero => intro j8 y8 m7 L8 q8 D8 Q8 hy8 hyn hFl8 hSt8 hCl8 hj8 hDD8 hQQ8 hm37; exact absurd hm37 (Nat.not_lt_zero _)
          | succ nn ih37 =>
            intro j8 y8 m7 L8 q8 D8 Q8 hy8 hyn hFl8 hSt8 hCl8 hj8 hDD8 hQQ8 hm37 H locs ls hl hw
            have hcl8 := cntL_le L8 num (h * w)
            have hs28 := hSt8.2
            have hm78 : m7 < 192 := by omega
            refine lv_iload hx hb dX7_spreads_37 (lv_at hl 0 rfl) ?_
            refine lv_iconst (v := 4) hx hb dX7_spreads_39 (by decide) ?_
            refine lv_icmp_ge (tgt := 89) hx hb dX7_spreads_40 (by decide) (fun c40 => ?_) (fun c40 => ?_)
            · have c40 : 4 ≤ j8 := (nI_leI (a := 4) (b := j8) (by omega) (by omega)).mp c40
              refine lv_goto (tgt := 17) hx hb dX7_spreads_89 (by decide) ?_
              -- back 0
              exact ih17 m7 (p9 + 1) L8 q8 D8 Q8 (hFl8) (hSt8) (by rw [show j8 = 4 by omega] at hCl8; exact clS_next hCl8) (hDD8) (hQQ8) (by omega) H _ ls (lv_sub hl [2, 3, 4, 5, 6] rfl) hw
            · have c40 : ¬ 4 ≤ j8 := fun h99 => c40 ((nI_leI (a := 4) (b := j8) (by omega) (by omega)).mpr h99)
              have hnb9 := nbr_lt j8 hG hy8
              have hlb9 : L8 (nbr h w y8 j8) ≤ 192 := by
                by_cases h97 : L8 (nbr h w y8 j8) = num
                · omega
                · rw [hFl8.2.2 _ h97]; have := hlab (nbr h w y8 j8); omega
              refine lv_aload_n hx hb dX7_spreads_43 rfl (lv_at hl 3 rfl) ?_
              refine lv_iload hx hb dX7_spreads_44 (lv_at hl 1 rfl) ?_
              refine lv_iload hx hb dX7_spreads_46 (lv_at hl 0 rfl) ?_
              refine k_V (As := [.int (nI y8), .int (nI j8)]) (rest := []) (pre := []) (mid := [oc m0 7 [.ref A0, .ref V0, .ref Z0, .int sm, .int th, .int pl, .int hz, .ref D0, .ref W0, .ref T0, .int tl, .int tw, .int tc], ac E A0 985 (mA h w wd s0 z st he ke tu ca tr co la)]) C0 (c_X7_neighbor l E m0 A0 V0 Z0 D0 W0 T0 sm th pl hz tl tw tc h w wd s0 z st he ke tu ca tr co la y8 j8 (by first | assumption | omega) (hy8) (by omega)) (cwV 2 hts gX7_spreads_X7_neighbor rfl rfl rfl (by decide +kernel) ⟨Nat.le_of_ble_eq_true rfl, Nat.le_of_ble_eq_true rfl⟩) hw rfl (fun _ => [oc m0 7 [.ref A0, .ref V0, .ref Z0, .int sm, .int th, .int pl, .int hz, .ref D0, .ref W0, .ref T0, .int tl, .int tw, .int tc], ac E A0 985 (mA h w wd s0 z st he ke tu ca tr co la)]) (fun _ => rfl) 0 7 rfl rfl rfl rfl hl.1 rfl (Nat.le_of_ble_eq_true rfl) dX7_spreads_48 ⟨Nat.le_of_ble_eq_true rfl, Nat.le_of_ble_eq_true rfl⟩ (fun r u H locs hq99 hw => ?_)
              subst hq99
              have hw : kW E AA sx (List.flatten [oc m0 7 [.ref A0, .ref V0, .ref Z0, .int sm, .int th, .int pl, .int hz, .ref D0, .ref W0, .ref T0, .int tl, .int tw, .int tc], ac E A0 985 (mA h w wd s0 z st he ke tu ca tr co la), ac E D0 192 D8, ac E W0 192 Q8]) H locs := hw
              refine W.eq (g2 := F0 mm 51 ls [.int (nI (nbr h w y8 j8))]) rfl ?_
              refine lv_istore (lv' := [(7, .int (nI (nbr h w y8 j8))), (6, .int (nI j8)), (5, .int (nI y8)), (4, .int (nI m7)), (0, .ref m0), (1, .int (nI k)), (2, .int (nI num)), (3, .int t)]) hx hb dX7_spreads_51 hl (by decide) rfl (fun ls hl => ?_)
              refine lv_aload_n hx hb dX7_spreads_53 rfl (lv_at hl 4 rfl) ?_
              refine lv_iload hx hb dX7_spreads_54 (lv_at hl 0 rfl) ?_
              refine lv_iload_n hx hb dX7_spreads_56 rfl (lv_at hl 7 rfl) ?_
              refine k_V (As := [.int (nI (nbr h w y8 j8)), .int t]) (rest := []) (pre := []) (mid := [oc m0 7 [.ref A0, .ref V0, .ref Z0, .int sm, .int th, .int pl, .int hz, .ref D0, .ref W0, .ref T0, .int tl, .int tw, .int tc], ac E A0 985 (mA h w wd s0 z st he ke tu ca tr co la), ac E D0 192 D8]) C0 (c_X7_isOpen l E m0 A0 V0 Z0 D0 W0 T0 sm th pl hz tl tw tc h w wd s0 z st he ke tu ca tr co la D8 (nbr h w y8 j8) t L8 (by first | assumption | omega) (hnb9) (hDD8) (by omega)) (cwV 2 hts gX7_spreads_X7_isOpen rfl rfl rfl (by decide +kernel) ⟨Nat.le_of_ble_eq_true rfl, Nat.le_of_ble_eq_true rfl⟩) hw rfl (fun _ => [oc m0 7 [.ref A0, .ref V0, .ref Z0, .int sm, .int th, .int pl, .int hz, .ref D0, .ref W0, .ref T0, .int tl, .int tw, .int tc], ac E A0 985 (mA h w wd s0 z st he ke tu ca tr co la), ac E D0 192 D8]) (fun _ => rfl) 0 7 rfl rfl rfl rfl hl.1 rfl (Nat.le_of_ble_eq_true rfl) dX7_spreads_57 ⟨Nat.le_of_ble_eq_true rfl, Nat.le_of_ble_eq_true rfl⟩ (fun r u H locs hq99 hw => ?_)
              subst hq99
              have hw : kW E AA sx (List.flatten [oc m0 7 [.ref A0, .ref V0, .ref Z0, .int sm, .int th, .int pl, .int hz, .ref D0, .ref W0, .ref T0, .int tl, .int tw, .int tc], ac E A0 985 (mA h w wd s0 z st he ke tu ca tr co la), ac E D0 192 D8, ac E W0 192 Q8]) H locs := hw
              refine W.eq (g2 := F0 mm 60 ls [.int (if L8 (nbr h w y8 j8) = 0 ∧ ¬ he (nbr h w y8 j8) < t then 1 else 0)]) rfl ?_
              refine lv_if_eq (tgt := 83) hx hb dX7_spreads_60 (by decide) (fun c60 => ?_) (fun c60 => ?_)
              · have c60 := kb10t c60
                refine lv_iinc (v := nI (j8 + 1)) (lv' := [(6, .int (nI (j8 + 1))), (7, .int (nI (nbr h w y8 j8))), (5, .int (nI y8)), (4, .int (nI m7)), (0, .ref m0), (1, .int (nI k)), (2, .int (nI num)), (3, .int t)]) hx hb dX7_spreads_83 hl (k := 1) rfl (nI_1 _) (by decide) rfl (fun ls hl => ?_)
                refine lv_goto (tgt := 37) hx hb dX7_spreads_86 (by decide) ?_
                -- back 0
                exact ih37 (j8 + 1) y8 m7 L8 q8 D8 Q8 (by first | assumption | omega) (hyn) (hFl8) (hSt8) (clS_same hCl8 (fun h98 h97 => Classical.byContradiction fun h96 => c60 ⟨by rw [hFl8.2.2 _ h96]; exact h97, h98⟩)) (by first | assumption | omega) (hDD8) (hQQ8) (by omega) H _ ls (lv_sub hl [0, 2, 3, 4, 5, 6, 7] rfl) hw
              · have c60 := kb10f c60
                have hne9 : L8 (nbr h w y8 j8) ≠ num := by omega
                have hlt9 := stI_lt hSt8 hnb9 hne9
                refine lv_aload_n hx hb dX7_spreads_63 rfl (lv_at hl 4 rfl) ?_
                refine k_get (pre := []) C0 hw hinX7 rfl 7 (by decide) (hts (.fieldLink RX7 19 "SlabDunesModel" "duneAt" "[I") (by decide +kernel)) rfl rfl dX7_spreads_64 ?_
                refine lv_iload hx hb dX7_spreads_67 (lv_at hl 0 rfl) ?_
                refine lv_iload_n hx hb dX7_spreads_69 rfl (lv_at hl 6 rfl) ?_
                refine k_iast (pre := [oc m0 7 [.ref A0, .ref V0, .ref Z0, .int sm, .int th, .int pl, .int hz, .ref D0, .ref W0, .ref T0, .int tl, .int tw, .int tc], ac E A0 985 (mA h w wd s0 z st he ke tu ca tr co la)]) (l1 := []) C0 hw (i := nI (nbr h w y8 j8)) (kinN (by omega) (by decide)) dX7_spreads_70 (fun H locs hw => ?_)
                have hw : kW E AA sx (List.flatten [oc m0 7 [.ref A0, .ref V0, .ref Z0, .int sm, .int th, .int pl, .int hz, .ref D0, .ref W0, .ref T0, .int tl, .int tw, .int tc], ac E A0 985 (mA h w wd s0 z st he ke tu ca tr co la), ac E D0 192 (upd D8 (Int32.toNatClampNeg (nI (nbr h w y8 j8))) (nI num)), ac E W0 192 Q8]) H locs := hw
                have hw : kW E AA sx (List.flatten [oc m0 7 [.ref A0, .ref V0, .ref Z0, .int sm, .int th, .int pl, .int hz, .ref D0, .ref W0, .ref T0, .int tl, .int tw, .int tc], ac E A0 985 (mA h w wd s0 z st he ke tu ca tr co la), ac E D0 192 (upd D8 (nbr h w y8 j8) (nI num)), ac E W0 192 Q8]) H locs := kW.arr (pre := [oc m0 7 [.ref A0, .ref V0, .ref Z0, .int sm, .int th, .int pl, .int hz, .ref D0, .ref W0, .ref T0, .int tl, .int tw, .int tc], ac E A0 985 (mA h w wd s0 z st he ke tu ca tr co la)]) (l1 := []) hw (fun j9 _ => by rw [nI_clamp (by omega)])
                refine lv_aload_n hx hb dX7_spreads_71 rfl (lv_at hl 4 rfl) ?_
                refine k_get (pre := []) C0 hw hinX7 rfl 8 (by decide) (hts (.fieldLink RX7 22 "SlabDunesModel" "waits" "[I") (by decide +kernel)) rfl rfl dX7_spreads_72 ?_
                refine lv_iload hx hb dX7_spreads_75 (lv_at hl 3 rfl) ?_
                refine lv_iload hx hb dX7_spreads_77 (lv_at hl 0 rfl) ?_
                refine k_iast (pre := [oc m0 7 [.ref A0, .ref V0, .ref Z0, .int sm, .int th, .int pl, .int hz, .ref D0, .ref W0, .ref T0, .int tl, .int tw, .int tc], ac E A0 985 (mA h w wd s0 z st he ke tu ca tr co la), ac E D0 192 (upd D8 (nbr h w y8 j8) (nI num))]) (l1 := []) C0 hw (i := nI m7) (kinN (by omega) (by decide)) dX7_spreads_79 (fun H locs hw => ?_)
                have hw : kW E AA sx (List.flatten [oc m0 7 [.ref A0, .ref V0, .ref Z0, .int sm, .int th, .int pl, .int hz, .ref D0, .ref W0, .ref T0, .int tl, .int tw, .int tc], ac E A0 985 (mA h w wd s0 z st he ke tu ca tr co la), ac E D0 192 (upd D8 (nbr h w y8 j8) (nI num)), ac E W0 192 (upd Q8 (Int32.toNatClampNeg (nI m7)) (nI (nbr h w y8 j8)))]) H locs := hw
                have hw : kW E AA sx (List.flatten [oc m0 7 [.ref A0, .ref V0, .ref Z0, .int sm, .int th, .int pl, .int hz, .ref D0, .ref W0, .ref T0, .int tl, .int tw, .int tc], ac E A0 985 (mA h w wd s0 z st he ke tu ca tr co la), ac E D0 192 (upd D8 (nbr h w y8 j8) (nI num)), ac E W0 192 (upd Q8 m7 (nI (nbr h w y8 j8)))]) H locs := kW.arr (pre := [oc m0 7 [.ref A0, .ref V0, .ref Z0, .int sm, .int th, .int pl, .int hz, .ref D0, .ref W0, .ref T0, .int tl, .int tw, .int tc], ac E A0 985 (mA h w wd s0 z st he ke tu ca tr co la), ac E D0 192 (upd D8 (nbr h w y8 j8) (nI num))]) (l1 := []) hw (fun j9 _ => by rw [nI_clamp (by omega)])
                refine lv_iinc (v := nI (m7 + 1)) (lv' := [(4, .int (nI (m7 + 1))), (7, .int (nI (nbr h w y8 j8))), (6, .int (nI j8)), (5, .int (nI y8)), (0, .ref m0), (1, .int (nI k)), (2, .int (nI num)), (3, .int t)]) hx hb dX7_spreads_80 hl (k := 3) rfl (nI_1 _) (by decide) rfl (fun ls hl => ?_)
                refine lv_iinc (v := nI (j8 + 1)) (lv' := [(6, .int (nI (j8 + 1))), (4, .int (nI (m7 + 1))), (7, .int (nI (nbr h w y8 j8))), (5, .int (nI y8)), (0, .ref m0), (1, .int (nI k)), (2, .int (nI num)), (3, .int t)]) hx hb dX7_spreads_83 hl (k := 2) rfl (nI_1 _) (by decide) rfl (fun ls hl => ?_)
                refine lv_goto (tgt := 37) hx hb dX7_spreads_86 (by decide) ?_
                -- back 1
                exact ih37 (j8 + 1) y8 (m7 + 1) (va_up L8 (nbr h w y8 j8) num) (va_up q8 m7 (nbr h w y8 j8)) (upd D8 (nbr h w y8 j8) (nI num)) (upd Q8 m7 (nI (nbr h w y8 j8))) (by first | assumption | omega) (by by_cases h97 : y8 = nbr h w y8 j8; rw [← h97, va_up_self]; rw [va_up_ne _ _ h97]; exact hyn) (flI_s hFl8 hyn (by omega) c60.2 c60.1 (by omega)) (stI_push hSt8 hnb9 hne9) (clS_push hCl8) (by first | assumption | omega) (dnR_up hDD8 _ num) (quR_up hQQ8) (by omega) H _ ls (lv_sub hl [0, 3, 1, 4, 5, 6, 7] rfl) hw
        exact loop37 ((4 - 0) + 1) 0 (q9 m8) m8 L9 q9 D9 Q9 (hqm.1) (hqm.2) (hFl) (hSt7) (clS_pop hCl) (by first | assumption | omega) (hDD) (fun j hj => hQQ j (by omega)) (Nat.lt_succ_self _) H _ ls (lv_sub hl [0, 1, 2, 3, 4, 5, 6] rfl) hw
  exact loop17 ((h * w - 0) + 1) 1 0 (va_up lab k num) (fun _ => k) (upd D k (nI num)) (upd Q 0 (nI k)) (flI_0 hlab) (stI_0 hc hlab) (clS_0 hlab) (dnR_up hdn k num) (fun j hj => by rw [show j = 0 by omega]; rfl) (Nat.lt_succ_self _) H _ ls (lv_sub hl [0, 1, 2, 3, 4] rfl) hw

abbrev rmX7_laysDunes : Room := { frames := 4, cells := 0, slots := 0, locals := 92 }
set_option maxHeartbeats 4000000 in
set_option maxRecDepth 100000 in
theorem c_X7_laysDunes (l : Launch) (E : kE) (m0 : Nat) (A0 : Nat) (V0 : Nat) (Z0 : Nat) (D0 : Nat) (W0 : Nat) (T0 : Nat) (sm : Int32) (th : Int32) (pl : Int32) (hz : Int32) (tl : Int32) (tw : Int32) (tc : Int32) (h : Nat) (w : Nat) (wd : Int32) (s0 : Int32) (z : Int32) (st : Nat → Int32) (he : Nat → Int32) (ke : Nat → Int32) (tu : Nat → Int32) (ca : Nat → Int32) (tr : Nat → Int32) (co : Nat → Int32) (la : Nat → Int32) (D : Nat → Int32) (Q : Nat → Int32) (t : Int32) (hG : kG h w) : kC E l yX7_laysDunes wsX7_laysDunes rmX7_laysDunes [.ref m0, .int t] (List.flatten [oc m0 7 [.ref A0, .ref V0, .ref Z0, .int sm, .int th, .int pl, .int hz, .ref D0, .ref W0, .ref T0, .int tl, .int tw, .int tc], ac E A0 985 (mA h w wd s0 z st he ke tu ca tr co la), ac E D0 192 D, ac E W0 192 Q]) kI (fun (r : Int32) (u : fP) => r = nI (dnL h w he t (h * w)).2 ∧ dnR (h * w) u.1 (dnL h w he t (h * w)).1) (fun (u : fP) => List.flatten [oc m0 7 [.ref A0, .ref V0, .ref Z0, .int sm, .int th, .int pl, .int hz, .ref D0, .ref W0, .ref T0, .int tl, .int tw, .int tc], ac E A0 985 (mA h w wd s0 z st he ke tu ca tr co la), ac E D0 192 u.1, ac E W0 192 u.2]) 0 0 := by
  refine k_body (cc := cX7_laysDunes) (maxL := 4) (ret := (some .int)) (by decide) rfl (Nat.le_of_ble_eq_true rfl) ?_
  intro pp ee sx mm aa bb me cd H locs AA ls C0 hr hlk hnm hl hw
  obtain ⟨hx, hb, hml, hown, hts⟩ := id C0
  have hl : lv_has ls 4 [(0, .ref m0), (1, .int t)] := hl
  have hw : kW E AA sx (List.flatten [oc m0 7 [.ref A0, .ref V0, .ref Z0, .int sm, .int th, .int pl, .int hz, .ref D0, .ref W0, .ref T0, .int tl, .int tw, .int tc], ac E A0 985 (mA h w wd s0 z st he ke tu ca tr co la), ac E D0 192 D, ac E W0 192 Q]) H locs := hw
  have hn9 := kG_n hG
  have hG9 := id hG
  obtain ⟨hG1, hG2, hG3, hG4⟩ := hG9
  have hinX7 : ∀ w ∈ u_ws RX7 TX7 13, w ∈ wsX7_laysDunes := by decide +kernel
  refine lv_iconst (v := 0) hx hb dX7_laysDunes_0 (by decide) ?_
  refine lv_istore_n (lv' := [(2, .int 0), (0, .ref m0), (1, .int t)]) hx hb dX7_laysDunes_1 rfl hl (by decide) rfl (fun ls hl => ?_)
  have loop2 : ∀ (nn : Nat) (i : Nat) (D9 : Nat → Int32), (i ≤ h * w) → (∀ j, j < i → D9 j = 0) → h * w - i < nn → ∀ (H : Heap) (locs : List Loc) (ls : Array Slot), lv_has ls 4 [(2, .int (nI i)), (0, .ref m0), (1, .int t)] → kW E AA sx (List.flatten [oc m0 7 [.ref A0, .ref V0, .ref Z0, .int sm, .int th, .int pl, .int hz, .ref D0, .ref W0, .ref T0, .int tl, .int tw, .int tc], ac E A0 985 (mA h w wd s0 z st he ke tu ca tr co la), ac E D0 192 D9, ac E W0 192 Q]) H locs → W pp l ee rmX7_laysDunes sx mm aa bb me cd H locs 0 0 (kEnd E kI (fun (r : Int32) (u : fP) => r = nI (dnL h w he t (h * w)).2 ∧ dnR (h * w) u.1 (dnL h w he t (h * w)).1) (fun (u : fP) => List.flatten [oc m0 7 [.ref A0, .ref V0, .ref Z0, .int sm, .int th, .int pl, .int hz, .ref D0, .ref W0, .ref T0, .int tl, .int tw, .int tc], ac E A0 985 (mA h w wd s0 z st he ke tu ca tr co la), ac E D0 192 u.1, ac E W0 192 u.2]) bb aa sx AA 0 0) (F0 mm 2 ls []) := by
    intro nn
    induction nn with
    | zero => intro i D9 hi hD0 hm2; exact absurd hm2 (Nat.not_lt_zero _)
    | succ nn ih2 =>
      intro i D9 hi hD0 hm2 H locs ls hl hw
      refine lv_iload_n hx hb dX7_laysDunes_2 rfl (lv_at hl 0 rfl) ?_
      refine lv_aload_n hx hb dX7_laysDunes_3 rfl (lv_at hl 1 rfl) ?_
      refine k_V (As := []) (rest := [.int (nI i)]) (pre := []) (mid := [oc m0 7 [.ref A0, .ref V0, .ref Z0, .int sm, .int th, .int pl, .int hz, .ref D0, .ref W0, .ref T0, .int tl, .int tw, .int tc], ac E A0 985 (mA h w wd s0 z st he ke tu ca tr co la)]) C0 (c_X7_cells l E m0 A0 V0 Z0 D0 W0 T0 sm th pl hz tl tw tc h w wd s0 z st he ke tu ca tr co la ) (cwV 0 hts gX7_laysDunes_X7_cells rfl rfl rfl (by decide +kernel) ⟨Nat.le_of_ble_eq_true rfl, Nat.le_of_ble_eq_true rfl⟩) hw rfl (fun _ => [oc m0 7 [.ref A0, .ref V0, .ref Z0, .int sm, .int th, .int pl, .int hz, .ref D0, .ref W0, .ref T0, .int tl, .int tw, .int tc], ac E A0 985 (mA h w wd s0 z st he ke tu ca tr co la)]) (fun _ => rfl) 0 7 rfl rfl rfl rfl hl.1 rfl (Nat.le_of_ble_eq_true rfl) dX7_laysDunes_4 ⟨Nat.le_of_ble_eq_true rfl, Nat.le_of_ble_eq_true rfl⟩ (fun r u H locs hq99 hw => ?_)
      subst hq99
      have hw : kW E AA sx (List.flatten [oc m0 7 [.ref A0, .ref V0, .ref Z0, .int sm, .int th, .int pl, .int hz, .ref D0, .ref W0, .ref T0, .int tl, .int tw, .int tc], ac E A0 985 (mA h w wd s0 z st he ke tu ca tr co la), ac E D0 192 D9, ac E W0 192 Q]) H locs := hw
      refine W.eq (g2 := F0 mm 7 ls [.int (nI (h * w)), .int (nI i)]) rfl ?_
      refine lv_icmp_ge (tgt := 23) hx hb dX7_laysDunes_7 (by decide) (fun c7 => ?_) (fun c7 => ?_)
      · have c7 : (h * w) ≤ i := (nI_leI (a := (h * w)) (b := i) (by omega) (by omega)).mp c7
        refine lv_iconst (v := 0) hx hb dX7_laysDunes_23 (by decide) ?_
        refine lv_istore_n (lv' := [(2, .int 0), (0, .ref m0), (1, .int t)]) hx hb dX7_laysDunes_24 rfl hl (by decide) rfl (fun ls hl => ?_)
        refine lv_iconst (v := 0) hx hb dX7_laysDunes_25 (by decide) ?_
        refine lv_istore_n (lv' := [(3, .int 0), (2, .int 0), (0, .ref m0), (1, .int t)]) hx hb dX7_laysDunes_26 rfl hl (by decide) rfl (fun ls hl => ?_)
        have loop27 : ∀ (nn : Nat) (i : Nat) (fo : Nat) (D9 : Nat → Int32) (Q9 : Nat → Int32), (i ≤ h * w) → (fo = (dnL h w he t i).2) → (dnR (h * w) D9 (dnL h w he t i).1) → h * w - i < nn → ∀ (H : Heap) (locs : List Loc) (ls : Array Slot), lv_has ls 4 [(3, .int (nI i)), (2, .int (nI fo)), (0, .ref m0), (1, .int t)] → kW E AA sx (List.flatten [oc m0 7 [.ref A0, .ref V0, .ref Z0, .int sm, .int th, .int pl, .int hz, .ref D0, .ref W0, .ref T0, .int tl, .int tw, .int tc], ac E A0 985 (mA h w wd s0 z st he ke tu ca tr co la), ac E D0 192 D9, ac E W0 192 Q9]) H locs → W pp l ee rmX7_laysDunes sx mm aa bb me cd H locs 0 0 (kEnd E kI (fun (r : Int32) (u : fP) => r = nI (dnL h w he t (h * w)).2 ∧ dnR (h * w) u.1 (dnL h w he t (h * w)).1) (fun (u : fP) => List.flatten [oc m0 7 [.ref A0, .ref V0, .ref Z0, .int sm, .int th, .int pl, .int hz, .ref D0, .ref W0, .ref T0, .int tl, .int tw, .int tc], ac E A0 985 (mA h w wd s0 z st he ke tu ca tr co la), ac E D0 192 u.1, ac E W0 192 u.2]) bb aa sx AA 0 0) (F0 mm 27 ls []) := by
          intro nn
          induction nn with
          | zero => intro i fo D9 Q9 hi hfo hDn hm27; exact absurd hm27 (Nat.not_lt_zero _)
          | succ nn ih27 =>
            intro i fo D9 Q9 hi hfo hDn hm27 H locs ls hl hw
            have hle9 := dnL_le (h := h) (w := w) (he := he) (t := t) i
            have hlb9 := dnL_lb (h := h) (w := w) (he := he) (t := t) i
            have hfl9 : fo ≤ i := by omega
            have hlx9 := hlb9 i
            refine lv_iload_n hx hb dX7_laysDunes_27 rfl (lv_at hl 0 rfl) ?_
            refine lv_aload_n hx hb dX7_laysDunes_28 rfl (lv_at hl 2 rfl) ?_
            refine k_V (As := []) (rest := [.int (nI i)]) (pre := []) (mid := [oc m0 7 [.ref A0, .ref V0, .ref Z0, .int sm, .int th, .int pl, .int hz, .ref D0, .ref W0, .ref T0, .int tl, .int tw, .int tc], ac E A0 985 (mA h w wd s0 z st he ke tu ca tr co la)]) C0 (c_X7_cells l E m0 A0 V0 Z0 D0 W0 T0 sm th pl hz tl tw tc h w wd s0 z st he ke tu ca tr co la ) (cwV 0 hts gX7_laysDunes_X7_cells rfl rfl rfl (by decide +kernel) ⟨Nat.le_of_ble_eq_true rfl, Nat.le_of_ble_eq_true rfl⟩) hw rfl (fun _ => [oc m0 7 [.ref A0, .ref V0, .ref Z0, .int sm, .int th, .int pl, .int hz, .ref D0, .ref W0, .ref T0, .int tl, .int tw, .int tc], ac E A0 985 (mA h w wd s0 z st he ke tu ca tr co la)]) (fun _ => rfl) 0 7 rfl rfl rfl rfl hl.1 rfl (Nat.le_of_ble_eq_true rfl) dX7_laysDunes_29 ⟨Nat.le_of_ble_eq_true rfl, Nat.le_of_ble_eq_true rfl⟩ (fun r u H locs hq99 hw => ?_)
            subst hq99
            have hw : kW E AA sx (List.flatten [oc m0 7 [.ref A0, .ref V0, .ref Z0, .int sm, .int th, .int pl, .int hz, .ref D0, .ref W0, .ref T0, .int tl, .int tw, .int tc], ac E A0 985 (mA h w wd s0 z st he ke tu ca tr co la), ac E D0 192 D9, ac E W0 192 Q9]) H locs := hw
            refine W.eq (g2 := F0 mm 32 ls [.int (nI (h * w)), .int (nI i)]) rfl ?_
            refine lv_icmp_ge (tgt := 60) hx hb dX7_laysDunes_32 (by decide) (fun c32 => ?_) (fun c32 => ?_)
            · have c32 : (h * w) ≤ i := (nI_leI (a := (h * w)) (b := i) (by omega) (by omega)).mp c32
              have hie9 : i = h * w := by omega
              rw [hie9] at hDn hfo
              refine lv_iload_n hx hb dX7_laysDunes_60 rfl (lv_at hl 1 rfl) ?_
              -- leaf 0
              exact k_iret C0 hr hlk hw (D9, Q9) (rfl) (⟨by rw [hfo], hDn⟩) (Nat.le_of_ble_eq_true rfl) (Nat.le_of_ble_eq_true rfl) dX7_laysDunes_61
            · have c32 : ¬ (h * w) ≤ i := fun h99 => c32 ((nI_leI (a := (h * w)) (b := i) (by omega) (by omega)).mpr h99)
              refine lv_aload_n hx hb dX7_laysDunes_35 rfl (lv_at hl 2 rfl) ?_
              refine lv_iload_n hx hb dX7_laysDunes_36 rfl (lv_at hl 0 rfl) ?_
              refine lv_iload_n hx hb dX7_laysDunes_37 rfl (lv_at hl 3 rfl) ?_
              refine k_V (As := [.int (nI i), .int t]) (rest := []) (pre := []) (mid := [oc m0 7 [.ref A0, .ref V0, .ref Z0, .int sm, .int th, .int pl, .int hz, .ref D0, .ref W0, .ref T0, .int tl, .int tw, .int tc], ac E A0 985 (mA h w wd s0 z st he ke tu ca tr co la), ac E D0 192 D9]) C0 (c_X7_isOpen l E m0 A0 V0 Z0 D0 W0 T0 sm th pl hz tl tw tc h w wd s0 z st he ke tu ca tr co la D9 i t ((dnL h w he t i).1) (by first | assumption | omega) (by first | assumption | omega) (hDn) (by omega)) (cwV 2 hts gX7_laysDunes_X7_isOpen rfl rfl rfl (by decide +kernel) ⟨Nat.le_of_ble_eq_true rfl, Nat.le_of_ble_eq_true rfl⟩) hw rfl (fun _ => [oc m0 7 [.ref A0, .ref V0, .ref Z0, .int sm, .int th, .int pl, .int hz, .ref D0, .ref W0, .ref T0, .int tl, .int tw, .int tc], ac E A0 985 (mA h w wd s0 z st he ke tu ca tr co la), ac E D0 192 D9]) (fun _ => rfl) 0 7 rfl rfl rfl rfl hl.1 rfl (Nat.le_of_ble_eq_true rfl) dX7_laysDunes_38 ⟨Nat.le_of_ble_eq_true rfl, Nat.le_of_ble_eq_true rfl⟩ (fun r u H locs hq99 hw => ?_)
              subst hq99
              have hw : kW E AA sx (List.flatten [oc m0 7 [.ref A0, .ref V0, .ref Z0, .int sm, .int th, .int pl, .int hz, .ref D0, .ref W0, .ref T0, .int tl, .int tw, .int tc], ac E A0 985 (mA h w wd s0 z st he ke tu ca tr co la), ac E D0 192 D9, ac E W0 192 Q9]) H locs := hw
              refine W.eq (g2 := F0 mm 41 ls [.int (if ((dnL h w he t i).1) i = 0 ∧ ¬ he i < t then 1 else 0)]) rfl ?_
              refine lv_if_eq (tgt := 54) hx hb dX7_laysDunes_41 (by decide) (fun c41 => ?_) (fun c41 => ?_)
              · have c41 := kb10t c41
                refine lv_iinc (v := nI (i + 1)) (lv' := [(3, .int (nI (i + 1))), (2, .int (nI fo)), (0, .ref m0), (1, .int t)]) hx hb dX7_laysDunes_54 hl (k := 0) rfl (nI_1 _) (by decide) rfl (fun ls hl => ?_)
                refine lv_goto (tgt := 27) hx hb dX7_laysDunes_57 (by decide) ?_
                -- back 0
                exact ih27 (i + 1) fo D9 Q9 (by first | assumption | omega) (by rw [dnL_n (fun h98 => c41 ⟨h98.2, h98.1⟩)]; exact hfo) (by rw [dnL_n (fun h98 => c41 ⟨h98.2, h98.1⟩)]; exact hDn) (by omega) H _ ls (lv_sub hl [0, 1, 2, 3] rfl) hw
              · have c41 := kb10f c41
                refine lv_iinc (v := nI (fo + 1)) (lv' := [(2, .int (nI (fo + 1))), (3, .int (nI i)), (0, .ref m0), (1, .int t)]) hx hb dX7_laysDunes_44 hl (k := 1) rfl (nI_1 _) (by decide) rfl (fun ls hl => ?_)
                refine lv_aload_n hx hb dX7_laysDunes_47 rfl (lv_at hl 2 rfl) ?_
                refine lv_iload_n hx hb dX7_laysDunes_48 rfl (lv_at hl 1 rfl) ?_
                refine lv_iload_n hx hb dX7_laysDunes_49 rfl (lv_at hl 0 rfl) ?_
                refine lv_iload_n hx hb dX7_laysDunes_50 rfl (lv_at hl 3 rfl) ?_
                refine k_V (As := [.int (nI i), .int (nI (fo + 1)), .int t]) (rest := []) (pre := []) (mid := [oc m0 7 [.ref A0, .ref V0, .ref Z0, .int sm, .int th, .int pl, .int hz, .ref D0, .ref W0, .ref T0, .int tl, .int tw, .int tc], ac E A0 985 (mA h w wd s0 z st he ke tu ca tr co la), ac E D0 192 D9, ac E W0 192 Q9]) C0 (c_X7_spreads l E m0 A0 V0 Z0 D0 W0 T0 sm th pl hz tl tw tc h w wd s0 z st he ke tu ca tr co la D9 Q9 i (fo + 1) t ((dnL h w he t i).1) (by first | assumption | omega) (by first | assumption | omega) (hDn) (fun x => by rw [hfo]; exact Nat.lt_succ_of_le (hlb9 x)) (by omega) (by omega) (c41.1)) (cwV 3 hts gX7_laysDunes_X7_spreads rfl rfl rfl (by decide +kernel) ⟨Nat.le_of_ble_eq_true rfl, Nat.le_of_ble_eq_true rfl⟩) hw rfl (fun (u51 : fP) => [oc m0 7 [.ref A0, .ref V0, .ref Z0, .int sm, .int th, .int pl, .int hz, .ref D0, .ref W0, .ref T0, .int tl, .int tw, .int tc], ac E A0 985 (mA h w wd s0 z st he ke tu ca tr co la), ac E D0 192 u51.1, ac E W0 192 u51.2]) (fun _ => rfl) 0 7 rfl rfl rfl rfl hl.1 rfl (Nat.le_of_ble_eq_true rfl) dX7_laysDunes_51 ⟨Nat.le_of_ble_eq_true rfl, Nat.le_of_ble_eq_true rfl⟩ (fun r u51 H locs hq99 hw => ?_)
                have h51 : dnR (h * w) u51.1 (sprL h w he t ((dnL h w he t i).1) (fo + 1) i) := hq99
                have hw : kW E AA sx (List.flatten [oc m0 7 [.ref A0, .ref V0, .ref Z0, .int sm, .int th, .int pl, .int hz, .ref D0, .ref W0, .ref T0, .int tl, .int tw, .int tc], ac E A0 985 (mA h w wd s0 z st he ke tu ca tr co la), ac E D0 192 u51.1, ac E W0 192 u51.2]) H locs := hw
                refine W.eq (g2 := F0 mm 54 ls []) rfl ?_
                refine lv_iinc (v := nI (i + 1)) (lv' := [(3, .int (nI (i + 1))), (2, .int (nI (fo + 1))), (0, .ref m0), (1, .int t)]) hx hb dX7_laysDunes_54 hl (k := 1) rfl (nI_1 _) (by decide) rfl (fun ls hl => ?_)
                refine lv_goto (tgt := 27) hx hb dX7_laysDunes_57 (by decide) ?_
                -- back 1
                exact ih27 (i + 1) (fo + 1) u51.1 u51.2 (by first | assumption | omega) (by rw [dnL_y c41.2 c41.1, hfo]) (by rw [dnL_y c41.2 c41.1, ← hfo]; exact h51) (by omega) H _ ls (lv_sub hl [0, 1, 2, 3] rfl) hw
        exact loop27 ((h * w - 0) + 1) 0 0 D9 Q (by first | assumption | omega) (rfl) (dnR_0 (fun j hj => hD0 j (by omega))) (Nat.lt_succ_self _) H _ ls (lv_sub hl [0, 1, 2, 3] rfl) hw
      · have c7 : ¬ (h * w) ≤ i := fun h99 => c7 ((nI_leI (a := (h * w)) (b := i) (by omega) (by omega)).mpr h99)
        refine lv_aload_n hx hb dX7_laysDunes_10 rfl (lv_at hl 1 rfl) ?_
        refine k_get (pre := []) C0 hw hinX7 rfl 7 (by decide) (hts (.fieldLink RX7 19 "SlabDunesModel" "duneAt" "[I") (by decide +kernel)) rfl rfl dX7_laysDunes_11 ?_
        refine lv_iload_n hx hb dX7_laysDunes_14 rfl (lv_at hl 0 rfl) ?_
        refine lv_iconst (v := 0) hx hb dX7_laysDunes_15 (by decide) ?_
        refine k_iast (pre := [oc m0 7 [.ref A0, .ref V0, .ref Z0, .int sm, .int th, .int pl, .int hz, .ref D0, .ref W0, .ref T0, .int tl, .int tw, .int tc], ac E A0 985 (mA h w wd s0 z st he ke tu ca tr co la)]) (l1 := []) C0 hw (i := nI i) (kinN (by omega) (by decide)) dX7_laysDunes_16 (fun H locs hw => ?_)
        have hw : kW E AA sx (List.flatten [oc m0 7 [.ref A0, .ref V0, .ref Z0, .int sm, .int th, .int pl, .int hz, .ref D0, .ref W0, .ref T0, .int tl, .int tw, .int tc], ac E A0 985 (mA h w wd s0 z st he ke tu ca tr co la), ac E D0 192 (upd D9 (Int32.toNatClampNeg (nI i)) 0), ac E W0 192 Q]) H locs := hw
        refine lv_iinc (v := nI (i + 1)) (lv' := [(2, .int (nI (i + 1))), (0, .ref m0), (1, .int t)]) hx hb dX7_laysDunes_17 hl (k := 0) rfl (nI_1 _) (by decide) rfl (fun ls hl => ?_)
        refine lv_goto (tgt := 2) hx hb dX7_laysDunes_20 (by decide) ?_
        -- back 0
        exact ih2 (i + 1) (upd D9 (Int32.toNatClampNeg (nI i)) 0) (by first | assumption | omega) (by rw [nI_clamp (show i < 2 ^ 31 by omega)]; exact kup_lo (g := fun _ => 0) hD0 rfl) (by omega) H _ ls (lv_sub hl [0, 1, 2] rfl) hw
  exact loop2 ((h * w - 0) + 1) 0 D (by first | assumption | omega) (fun j h99 => absurd h99 (Nat.not_lt_zero _)) (Nat.lt_succ_self _) H _ ls (lv_sub hl [0, 1, 2] rfl) hw

abbrev rmX7_isThreshold : Room := { frames := 1, cells := 0, slots := 0, locals := 25 }
set_option maxHeartbeats 4000000 in
set_option maxRecDepth 100000 in
theorem c_X7_isThreshold (l : Launch) (E : kE) (v : Int32)  : kC E l yX7_isThreshold wsX7_isThreshold rmX7_isThreshold [.int v] (([] : va_W)) kI (fun (r : Int32) (_ : Unit) => r = if ¬ v < 1 ∧ ¬ 99 < v then 1 else 0) (fun _ => ([] : va_W)) 0 0 := by
  refine k_body (cc := cX7_isThreshold) (maxL := 1) (ret := (some .boolean)) (by decide) rfl (Nat.le_of_ble_eq_true rfl) ?_
  intro pp ee sx mm aa bb me cd H locs AA ls C0 hr hlk hnm hl hw
  obtain ⟨hx, hb, hml, hown, hts⟩ := id C0
  have hl : lv_has ls 1 [(0, .int v)] := hl
  have hw : kW E AA sx (List.flatten []) H locs := hw
  refine lv_iload_n hx hb dX7_isThreshold_0 rfl (lv_at hl 0 rfl) ?_
  refine lv_i2l (v := Int32.toInt64 v) hx hb dX7_isThreshold_1 rfl ?_
  refine lv_lconst (v := 1) hx hb dX7_isThreshold_2 (by decide) ?_
  refine lv_ldc2 (v := 99) hx hb hown (hts (.constantLong RX7 77 99) (by decide +kernel)) dX7_isThreshold_3 ?_
  refine k_S (As := [.long (Int32.toInt64 v), .long 1, .long 99]) (rest := []) (pre := []) (mid := []) C0 (c_X7_in_1_99 l E v ) (va_cwS 3 hts gX7_isThreshold_X7_in rfl rfl rfl (by decide +kernel) ⟨Nat.le_of_ble_eq_true rfl, Nat.le_of_ble_eq_true rfl⟩) hw rfl (fun _ => []) (fun _ => rfl) rfl hl.1 rfl (Nat.le_of_ble_eq_true rfl) dX7_isThreshold_6 ⟨Nat.le_of_ble_eq_true rfl, Nat.le_of_ble_eq_true rfl⟩ (fun r u H locs hq99 hw => ?_)
  subst hq99
  have hw : kW E AA sx (List.flatten []) H locs := hw
  refine W.eq (g2 := F0 mm 9 ls [.int (if ¬ v < 1 ∧ ¬ 99 < v then 1 else 0)]) rfl ?_
  -- leaf 0
  exact k_zret C0 hr hlk hw () (rfl) (rfl) (knar) (Nat.le_of_ble_eq_true rfl) (Nat.le_of_ble_eq_true rfl) dX7_isThreshold_9

abbrev rmX7_dunes : Room := { frames := 5, cells := 0, slots := 0, locals := 115 }
set_option maxHeartbeats 4000000 in
set_option maxRecDepth 100000 in
theorem c_X7_dunes_ok (l : Launch) (E : kE) (m0 : Nat) (A0 : Nat) (V0 : Nat) (Z0 : Nat) (D0 : Nat) (W0 : Nat) (T0 : Nat) (sm : Int32) (th : Int32) (pl : Int32) (hz : Int32) (tl : Int32) (tw : Int32) (tc : Int32) (h : Nat) (w : Nat) (wd : Int32) (s0 : Int32) (z : Int32) (st : Nat → Int32) (he : Nat → Int32) (ke : Nat → Int32) (tu : Nat → Int32) (ca : Nat → Int32) (tr : Nat → Int32) (co : Nat → Int32) (la : Nat → Int32) (D : Nat → Int32) (Q : Nat → Int32) (t : Int32) (hG : kG h w) (hv : ¬ t < 1 ∧ ¬ 99 < t) : kC E l yX7_dunes wsX7_dunes rmX7_dunes [.ref m0, .int t] (List.flatten [oc m0 7 [.ref A0, .ref V0, .ref Z0, .int sm, .int th, .int pl, .int hz, .ref D0, .ref W0, .ref T0, .int tl, .int tw, .int tc], ac E A0 985 (mA h w wd s0 z st he ke tu ca tr co la), ac E D0 192 D, ac E W0 192 Q]) kI (fun (r : Int32) (u : fP) => r = nI (dnN h w he t)) (fun (u : fP) => List.flatten [oc m0 7 [.ref A0, .ref V0, .ref Z0, .int sm, .int 0, .int pl, .int hz, .ref D0, .ref W0, .ref T0, .int tl, .int tw, .int tc], ac E A0 985 (mA h w wd s0 z st he ke tu ca tr co la), ac E D0 192 u.1, ac E W0 192 u.2]) 0 0 := by
  refine k_body (cc := cX7_dunes) (maxL := 2) (ret := (some .int)) (by decide) rfl (Nat.le_of_ble_eq_true rfl) ?_
  intro pp ee sx mm aa bb me cd H locs AA ls C0 hr hlk hnm hl hw
  obtain ⟨hx, hb, hml, hown, hts⟩ := id C0
  have hl : lv_has ls 2 [(0, .ref m0), (1, .int t)] := hl
  have hw : kW E AA sx (List.flatten [oc m0 7 [.ref A0, .ref V0, .ref Z0, .int sm, .int th, .int pl, .int hz, .ref D0, .ref W0, .ref T0, .int tl, .int tw, .int tc], ac E A0 985 (mA h w wd s0 z st he ke tu ca tr co la), ac E D0 192 D, ac E W0 192 Q]) H locs := hw
  have hn9 := kG_n hG
  have hG9 := id hG
  obtain ⟨hG1, hG2, hG3, hG4⟩ := hG9
  refine lv_aload_n hx hb dX7_dunes_0 rfl (lv_at hl 0 rfl) ?_
  refine lv_iload_n hx hb dX7_dunes_1 rfl (lv_at hl 1 rfl) ?_
  refine k_S (As := [.int t]) (rest := [.ref m0]) (pre := []) (mid := []) C0 (c_X7_isThreshold l E t ) (va_cwS 1 hts gX7_dunes_X7_isThreshold rfl rfl rfl (by decide +kernel) ⟨Nat.le_of_ble_eq_true rfl, Nat.le_of_ble_eq_true rfl⟩) hw rfl (fun _ => []) (fun _ => rfl) rfl hl.1 rfl (Nat.le_of_ble_eq_true rfl) dX7_dunes_2 ⟨Nat.le_of_ble_eq_true rfl, Nat.le_of_ble_eq_true rfl⟩ (fun r u H locs hq99 hw => ?_)
  subst hq99
  have hw : kW E AA sx (List.flatten [oc m0 7 [.ref A0, .ref V0, .ref Z0, .int sm, .int th, .int pl, .int hz, .ref D0, .ref W0, .ref T0, .int tl, .int tw, .int tc], ac E A0 985 (mA h w wd s0 z st he ke tu ca tr co la), ac E D0 192 D, ac E W0 192 Q]) H locs := hw
  refine W.eq (g2 := F0 mm 5 ls [.int (if ¬ t < 1 ∧ ¬ 99 < t then 1 else 0), .ref m0]) rfl ?_
  refine lv_iconst (v := 1) hx hb dX7_dunes_5 (by decide) ?_
  refine k_V (As := [.int (if ¬ t < 1 ∧ ¬ 99 < t then 1 else 0), .int 1]) (rest := []) (pre := []) (mid := [oc m0 7 [.ref A0, .ref V0, .ref Z0, .int sm, .int th, .int pl, .int hz, .ref D0, .ref W0, .ref T0, .int tl, .int tw, .int tc]]) C0 (c_X7_goes_ok l E m0 A0 V0 Z0 D0 W0 T0 sm th pl hz tl tw tc (if ¬ t < 1 ∧ ¬ 99 < t then 1 else 0) 1 (kp10 (hv)) (by decide)) (cwV 2 hts gX7_dunes_X7_goes rfl rfl rfl (by decide +kernel) ⟨Nat.le_of_ble_eq_true rfl, Nat.le_of_ble_eq_true rfl⟩) hw rfl (fun _ => [oc m0 7 [.ref A0, .ref V0, .ref Z0, .int sm, .int 0, .int pl, .int hz, .ref D0, .ref W0, .ref T0, .int tl, .int tw, .int tc]]) (fun _ => rfl) 0 7 rfl rfl rfl rfl hl.1 rfl (Nat.le_of_ble_eq_true rfl) dX7_dunes_6 ⟨Nat.le_of_ble_eq_true rfl, Nat.le_of_ble_eq_true rfl⟩ (fun r u H locs hq99 hw => ?_)
  subst r
  have hw : kW E AA sx (List.flatten [oc m0 7 [.ref A0, .ref V0, .ref Z0, .int sm, .int 0, .int pl, .int hz, .ref D0, .ref W0, .ref T0, .int tl, .int tw, .int tc], ac E A0 985 (mA h w wd s0 z st he ke tu ca tr co la), ac E D0 192 D, ac E W0 192 Q]) H locs := hw
  refine W.eq (g2 := F0 mm 9 ls [.int 1]) rfl ?_
  refine lv_if_eq (tgt := 20) hx hb dX7_dunes_9 (by decide) (fun c9 => absurd c9 (by decide)) (fun c9 => ?_)
  refine lv_aload_n hx hb dX7_dunes_12 rfl (lv_at hl 0 rfl) ?_
  refine lv_iload_n hx hb dX7_dunes_13 rfl (lv_at hl 1 rfl) ?_
  refine k_V (As := [.int t]) (rest := []) (pre := []) (mid := [oc m0 7 [.ref A0, .ref V0, .ref Z0, .int sm, .int 0, .int pl, .int hz, .ref D0, .ref W0, .ref T0, .int tl, .int tw, .int tc], ac E A0 985 (mA h w wd s0 z st he ke tu ca tr co la), ac E D0 192 D, ac E W0 192 Q]) C0 (c_X7_laysDunes l E m0 A0 V0 Z0 D0 W0 T0 sm 0 pl hz tl tw tc h w wd s0 z st he ke tu ca tr co la D Q t (by first | assumption | omega)) (cwV 1 hts gX7_dunes_X7_laysDunes rfl rfl rfl (by decide +kernel) ⟨Nat.le_of_ble_eq_true rfl, Nat.le_of_ble_eq_true rfl⟩) hw rfl (fun (u14 : fP) => [oc m0 7 [.ref A0, .ref V0, .ref Z0, .int sm, .int 0, .int pl, .int hz, .ref D0, .ref W0, .ref T0, .int tl, .int tw, .int tc], ac E A0 985 (mA h w wd s0 z st he ke tu ca tr co la), ac E D0 192 u14.1, ac E W0 192 u14.2]) (fun _ => rfl) 0 7 rfl rfl rfl rfl hl.1 rfl (Nat.le_of_ble_eq_true rfl) dX7_dunes_14 ⟨Nat.le_of_ble_eq_true rfl, Nat.le_of_ble_eq_true rfl⟩ (fun r u14 H locs hq99 hw => ?_)
  obtain ⟨r14, rfl⟩ : ∃ z, z = r := ⟨_, rfl⟩
  have h14 : r14 = nI (dnL h w he t (h * w)).2 ∧ dnR (h * w) u14.1 (dnL h w he t (h * w)).1 := hq99
  have hw : kW E AA sx (List.flatten [oc m0 7 [.ref A0, .ref V0, .ref Z0, .int sm, .int 0, .int pl, .int hz, .ref D0, .ref W0, .ref T0, .int tl, .int tw, .int tc], ac E A0 985 (mA h w wd s0 z st he ke tu ca tr co la), ac E D0 192 u14.1, ac E W0 192 u14.2]) H locs := hw
  refine W.eq (g2 := F0 mm 17 ls [.int r14]) rfl ?_
  refine lv_goto (tgt := 21) hx hb dX7_dunes_17 (by decide) ?_
  -- leaf 0
  exact k_iret C0 hr hlk hw u14 (rfl) (h14.1) (Nat.le_of_ble_eq_true rfl) (Nat.le_of_ble_eq_true rfl) dX7_dunes_21

set_option maxHeartbeats 4000000 in
set_option maxRecDepth 100000 in
theorem c_X7_dunes_x1 (l : Launch) (E : kE) (m0 : Nat) (A0 : Nat) (V0 : Nat) (Z0 : Nat) (D0 : Nat) (W0 : Nat) (T0 : Nat) (sm : Int32) (th : Int32) (pl : Int32) (hz : Int32) (tl : Int32) (tw : Int32) (tc : Int32) (h : Nat) (w : Nat) (wd : Int32) (s0 : Int32) (z : Int32) (st : Nat → Int32) (he : Nat → Int32) (ke : Nat → Int32) (tu : Nat → Int32) (ca : Nat → Int32) (tr : Nat → Int32) (co : Nat → Int32) (la : Nat → Int32) (x : Int32) (hv : ¬ (¬ x < 1 ∧ ¬ 99 < x)) : kC E l yX7_dunes wsX7_dunes rmX7_dunes [.ref m0, .int x] (List.flatten [oc m0 7 [.ref A0, .ref V0, .ref Z0, .int sm, .int th, .int pl, .int hz, .ref D0, .ref W0, .ref T0, .int tl, .int tw, .int tc], ac E A0 985 (mA h w wd s0 z st he ke tu ca tr co la)]) kI (fun (r : Int32) (_ : Unit) => r = 0) (fun _ => List.flatten [oc m0 7 [.ref A0, .ref V0, .ref Z0, .int sm, .int 1, .int pl, .int hz, .ref D0, .ref W0, .ref T0, .int tl, .int tw, .int tc], ac E A0 985 (mA h w wd s0 z st he ke tu ca tr co la)]) 0 0 := by
  refine k_body (cc := cX7_dunes) (maxL := 2) (ret := (some .int)) (by decide) rfl (Nat.le_of_ble_eq_true rfl) ?_
  intro pp ee sx mm aa bb me cd H locs AA ls C0 hr hlk hnm hl hw
  obtain ⟨hx, hb, hml, hown, hts⟩ := id C0
  have hl : lv_has ls 2 [(0, .ref m0), (1, .int x)] := hl
  have hw : kW E AA sx (List.flatten [oc m0 7 [.ref A0, .ref V0, .ref Z0, .int sm, .int th, .int pl, .int hz, .ref D0, .ref W0, .ref T0, .int tl, .int tw, .int tc], ac E A0 985 (mA h w wd s0 z st he ke tu ca tr co la)]) H locs := hw
  refine lv_aload_n hx hb dX7_dunes_0 rfl (lv_at hl 0 rfl) ?_
  refine lv_iload_n hx hb dX7_dunes_1 rfl (lv_at hl 1 rfl) ?_
  refine k_S (As := [.int x]) (rest := [.ref m0]) (pre := []) (mid := []) C0 (c_X7_isThreshold l E x ) (va_cwS 1 hts gX7_dunes_X7_isThreshold rfl rfl rfl (by decide +kernel) ⟨Nat.le_of_ble_eq_true rfl, Nat.le_of_ble_eq_true rfl⟩) hw rfl (fun _ => []) (fun _ => rfl) rfl hl.1 rfl (Nat.le_of_ble_eq_true rfl) dX7_dunes_2 ⟨Nat.le_of_ble_eq_true rfl, Nat.le_of_ble_eq_true rfl⟩ (fun r u H locs hq99 hw => ?_)
  subst hq99
  have hw : kW E AA sx (List.flatten [oc m0 7 [.ref A0, .ref V0, .ref Z0, .int sm, .int th, .int pl, .int hz, .ref D0, .ref W0, .ref T0, .int tl, .int tw, .int tc], ac E A0 985 (mA h w wd s0 z st he ke tu ca tr co la)]) H locs := hw
  refine W.eq (g2 := F0 mm 5 ls [.int (if ¬ x < 1 ∧ ¬ 99 < x then 1 else 0), .ref m0]) rfl ?_
  refine lv_iconst (v := 1) hx hb dX7_dunes_5 (by decide) ?_
  refine k_V (As := [.int (if ¬ x < 1 ∧ ¬ 99 < x then 1 else 0), .int 1]) (rest := []) (pre := []) (mid := [oc m0 7 [.ref A0, .ref V0, .ref Z0, .int sm, .int th, .int pl, .int hz, .ref D0, .ref W0, .ref T0, .int tl, .int tw, .int tc]]) C0 (c_X7_goes_1 l E m0 A0 V0 Z0 D0 W0 T0 sm th pl hz tl tw tc (if ¬ x < 1 ∧ ¬ 99 < x then 1 else 0) 1 (kn10 (hv))) (cwV 2 hts gX7_dunes_X7_goes rfl rfl rfl (by decide +kernel) ⟨Nat.le_of_ble_eq_true rfl, Nat.le_of_ble_eq_true rfl⟩) hw rfl (fun _ => [oc m0 7 [.ref A0, .ref V0, .ref Z0, .int sm, .int 1, .int pl, .int hz, .ref D0, .ref W0, .ref T0, .int tl, .int tw, .int tc]]) (fun _ => rfl) 0 7 rfl rfl rfl rfl hl.1 rfl (Nat.le_of_ble_eq_true rfl) dX7_dunes_6 ⟨Nat.le_of_ble_eq_true rfl, Nat.le_of_ble_eq_true rfl⟩ (fun r u H locs hq99 hw => ?_)
  subst r
  have hw : kW E AA sx (List.flatten [oc m0 7 [.ref A0, .ref V0, .ref Z0, .int sm, .int 1, .int pl, .int hz, .ref D0, .ref W0, .ref T0, .int tl, .int tw, .int tc], ac E A0 985 (mA h w wd s0 z st he ke tu ca tr co la)]) H locs := hw
  refine W.eq (g2 := F0 mm 9 ls [.int 0]) rfl ?_
  refine lv_if_eq (tgt := 20) hx hb dX7_dunes_9 (by decide) (fun c9 => ?_) (fun c9 => absurd c9 (by decide))
  refine lv_iconst (v := 0) hx hb dX7_dunes_20 (by decide) ?_
  -- leaf 0
  exact k_iret C0 hr hlk hw () (rfl) (rfl) (Nat.le_of_ble_eq_true rfl) (Nat.le_of_ble_eq_true rfl) dX7_dunes_21

abbrev rmX7_greatestDune : Room := { frames := 5, cells := 0, slots := 0, locals := 115 }
set_option maxHeartbeats 4000000 in
set_option maxRecDepth 100000 in
theorem c_X7_greatestDune_ok (l : Launch) (E : kE) (m0 : Nat) (A0 : Nat) (V0 : Nat) (Z0 : Nat) (D0 : Nat) (W0 : Nat) (T0 : Nat) (sm : Int32) (th : Int32) (pl : Int32) (hz : Int32) (tl : Int32) (tw : Int32) (tc : Int32) (h : Nat) (w : Nat) (wd : Int32) (s0 : Int32) (z : Int32) (st : Nat → Int32) (he : Nat → Int32) (ke : Nat → Int32) (tu : Nat → Int32) (ca : Nat → Int32) (tr : Nat → Int32) (co : Nat → Int32) (la : Nat → Int32) (D : Nat → Int32) (Q : Nat → Int32) (t : Int32) (hG : kG h w) (hv : ¬ t < 1 ∧ ¬ 99 < t) : kC E l yX7_greatestDune wsX7_greatestDune rmX7_greatestDune [.ref m0, .int t] (List.flatten [oc m0 7 [.ref A0, .ref V0, .ref Z0, .int sm, .int th, .int pl, .int hz, .ref D0, .ref W0, .ref T0, .int tl, .int tw, .int tc], ac E A0 985 (mA h w wd s0 z st he ke tu ca tr co la), ac E D0 192 D, ac E W0 192 Q]) kI (fun (r : Int32) (u : fP) => r = gdN h w he t) (fun (u : fP) => List.flatten [oc m0 7 [.ref A0, .ref V0, .ref Z0, .int sm, .int 0, .int pl, .int hz, .ref D0, .ref W0, .ref T0, .int tl, .int tw, .int tc], ac E A0 985 (mA h w wd s0 z st he ke tu ca tr co la), ac E D0 192 u.1, ac E W0 192 u.2]) 0 0 := by
  refine k_body (cc := cX7_greatestDune) (maxL := 7) (ret := (some .int)) (by decide) rfl (Nat.le_of_ble_eq_true rfl) ?_
  intro pp ee sx mm aa bb me cd H locs AA ls C0 hr hlk hnm hl hw
  obtain ⟨hx, hb, hml, hown, hts⟩ := id C0
  have hl : lv_has ls 7 [(0, .ref m0), (1, .int t)] := hl
  have hw : kW E AA sx (List.flatten [oc m0 7 [.ref A0, .ref V0, .ref Z0, .int sm, .int th, .int pl, .int hz, .ref D0, .ref W0, .ref T0, .int tl, .int tw, .int tc], ac E A0 985 (mA h w wd s0 z st he ke tu ca tr co la), ac E D0 192 D, ac E W0 192 Q]) H locs := hw
  have hn9 := kG_n hG
  have hG9 := id hG
  obtain ⟨hG1, hG2, hG3, hG4⟩ := hG9
  have hinX7 : ∀ w ∈ u_ws RX7 TX7 13, w ∈ wsX7_greatestDune := by decide +kernel
  refine lv_aload_n hx hb dX7_greatestDune_0 rfl (lv_at hl 0 rfl) ?_
  refine lv_iload_n hx hb dX7_greatestDune_1 rfl (lv_at hl 1 rfl) ?_
  refine k_S (As := [.int t]) (rest := [.ref m0]) (pre := []) (mid := []) C0 (c_X7_isThreshold l E t ) (va_cwS 1 hts gX7_greatestDune_X7_isThreshold rfl rfl rfl (by decide +kernel) ⟨Nat.le_of_ble_eq_true rfl, Nat.le_of_ble_eq_true rfl⟩) hw rfl (fun _ => []) (fun _ => rfl) rfl hl.1 rfl (Nat.le_of_ble_eq_true rfl) dX7_greatestDune_2 ⟨Nat.le_of_ble_eq_true rfl, Nat.le_of_ble_eq_true rfl⟩ (fun r u H locs hq99 hw => ?_)
  subst hq99
  have hw : kW E AA sx (List.flatten [oc m0 7 [.ref A0, .ref V0, .ref Z0, .int sm, .int th, .int pl, .int hz, .ref D0, .ref W0, .ref T0, .int tl, .int tw, .int tc], ac E A0 985 (mA h w wd s0 z st he ke tu ca tr co la), ac E D0 192 D, ac E W0 192 Q]) H locs := hw
  refine W.eq (g2 := F0 mm 5 ls [.int (if ¬ t < 1 ∧ ¬ 99 < t then 1 else 0), .ref m0]) rfl ?_
  refine lv_iconst (v := 1) hx hb dX7_greatestDune_5 (by decide) ?_
  refine k_V (As := [.int (if ¬ t < 1 ∧ ¬ 99 < t then 1 else 0), .int 1]) (rest := []) (pre := []) (mid := [oc m0 7 [.ref A0, .ref V0, .ref Z0, .int sm, .int th, .int pl, .int hz, .ref D0, .ref W0, .ref T0, .int tl, .int tw, .int tc]]) C0 (c_X7_goes_ok l E m0 A0 V0 Z0 D0 W0 T0 sm th pl hz tl tw tc (if ¬ t < 1 ∧ ¬ 99 < t then 1 else 0) 1 (kp10 (hv)) (by decide)) (cwV 2 hts gX7_greatestDune_X7_goes rfl rfl rfl (by decide +kernel) ⟨Nat.le_of_ble_eq_true rfl, Nat.le_of_ble_eq_true rfl⟩) hw rfl (fun _ => [oc m0 7 [.ref A0, .ref V0, .ref Z0, .int sm, .int 0, .int pl, .int hz, .ref D0, .ref W0, .ref T0, .int tl, .int tw, .int tc]]) (fun _ => rfl) 0 7 rfl rfl rfl rfl hl.1 rfl (Nat.le_of_ble_eq_true rfl) dX7_greatestDune_6 ⟨Nat.le_of_ble_eq_true rfl, Nat.le_of_ble_eq_true rfl⟩ (fun r u H locs hq99 hw => ?_)
  subst r
  have hw : kW E AA sx (List.flatten [oc m0 7 [.ref A0, .ref V0, .ref Z0, .int sm, .int 0, .int pl, .int hz, .ref D0, .ref W0, .ref T0, .int tl, .int tw, .int tc], ac E A0 985 (mA h w wd s0 z st he ke tu ca tr co la), ac E D0 192 D, ac E W0 192 Q]) H locs := hw
  refine W.eq (g2 := F0 mm 9 ls [.int 1]) rfl ?_
  refine lv_if_ne (tgt := 14) hx hb dX7_greatestDune_9 (by decide) (fun c9 => ?_) (fun c9 => absurd c9 (by decide))
  refine lv_aload_n hx hb dX7_greatestDune_14 rfl (lv_at hl 0 rfl) ?_
  refine lv_iload_n hx hb dX7_greatestDune_15 rfl (lv_at hl 1 rfl) ?_
  refine k_V (As := [.int t]) (rest := []) (pre := []) (mid := [oc m0 7 [.ref A0, .ref V0, .ref Z0, .int sm, .int 0, .int pl, .int hz, .ref D0, .ref W0, .ref T0, .int tl, .int tw, .int tc], ac E A0 985 (mA h w wd s0 z st he ke tu ca tr co la), ac E D0 192 D, ac E W0 192 Q]) C0 (c_X7_laysDunes l E m0 A0 V0 Z0 D0 W0 T0 sm 0 pl hz tl tw tc h w wd s0 z st he ke tu ca tr co la D Q t (by first | assumption | omega)) (cwV 1 hts gX7_greatestDune_X7_laysDunes rfl rfl rfl (by decide +kernel) ⟨Nat.le_of_ble_eq_true rfl, Nat.le_of_ble_eq_true rfl⟩) hw rfl (fun (u16 : fP) => [oc m0 7 [.ref A0, .ref V0, .ref Z0, .int sm, .int 0, .int pl, .int hz, .ref D0, .ref W0, .ref T0, .int tl, .int tw, .int tc], ac E A0 985 (mA h w wd s0 z st he ke tu ca tr co la), ac E D0 192 u16.1, ac E W0 192 u16.2]) (fun _ => rfl) 0 7 rfl rfl rfl rfl hl.1 rfl (Nat.le_of_ble_eq_true rfl) dX7_greatestDune_16 ⟨Nat.le_of_ble_eq_true rfl, Nat.le_of_ble_eq_true rfl⟩ (fun r u16 H locs hq99 hw => ?_)
  obtain ⟨r16, rfl⟩ : ∃ z, z = r := ⟨_, rfl⟩
  have h16 : r16 = nI (dnL h w he t (h * w)).2 ∧ dnR (h * w) u16.1 (dnL h w he t (h * w)).1 := hq99
  have hw : kW E AA sx (List.flatten [oc m0 7 [.ref A0, .ref V0, .ref Z0, .int sm, .int 0, .int pl, .int hz, .ref D0, .ref W0, .ref T0, .int tl, .int tw, .int tc], ac E A0 985 (mA h w wd s0 z st he ke tu ca tr co la), ac E D0 192 u16.1, ac E W0 192 u16.2]) H locs := hw
  refine W.eq (g2 := F0 mm 19 ls [.int r16]) rfl ?_
  refine lv_istore_n (lv' := [(2, .int r16), (0, .ref m0), (1, .int t)]) hx hb dX7_greatestDune_19 rfl hl (by decide) rfl (fun ls hl => ?_)
  have hdl9 := dnL_le (h := h) (w := w) (he := he) (t := t) (h * w)
  have hl : lv_has ls 7 [(2, .int (nI (dnL h w he t (h * w)).2)), (0, .ref m0), (1, .int t)] := by have h99 : r16 = nI (dnL h w he t (h * w)).2 := (h16.1); rw [h99] at hl; exact hl
  refine lv_iconst (v := 0) hx hb dX7_greatestDune_20 (by decide) ?_
  refine lv_istore_n (lv' := [(3, .int 0), (2, .int (nI (dnL h w he t (h * w)).2)), (0, .ref m0), (1, .int t)]) hx hb dX7_greatestDune_21 rfl hl (by decide) rfl (fun ls hl => ?_)
  refine lv_iconst (v := 1) hx hb dX7_greatestDune_22 (by decide) ?_
  refine lv_istore (lv' := [(4, .int 1), (3, .int 0), (2, .int (nI (dnL h w he t (h * w)).2)), (0, .ref m0), (1, .int t)]) hx hb dX7_greatestDune_23 hl (by decide) rfl (fun ls hl => ?_)
  have loop25 : ∀ (nn : Nat) (i : Nat) (x : Int32), (i ≤ (dnL h w he t (h * w)).2) → (x = mxS (fun v => sumL he (dnL h w he t (h * w)).1 v (h * w)) i) → (dnL h w he t (h * w)).2 - i < nn → ∀ (H : Heap) (locs : List Loc) (ls : Array Slot), lv_has ls 7 [(4, .int (nI (i + 1))), (3, .int x), (2, .int (nI (dnL h w he t (h * w)).2)), (0, .ref m0), (1, .int t)] → kW E AA sx (List.flatten [oc m0 7 [.ref A0, .ref V0, .ref Z0, .int sm, .int 0, .int pl, .int hz, .ref D0, .ref W0, .ref T0, .int tl, .int tw, .int tc], ac E A0 985 (mA h w wd s0 z st he ke tu ca tr co la), ac E D0 192 u16.1, ac E W0 192 u16.2]) H locs → W pp l ee rmX7_greatestDune sx mm aa bb me cd H locs 0 0 (kEnd E kI (fun (r : Int32) (u : fP) => r = gdN h w he t) (fun (u : fP) => List.flatten [oc m0 7 [.ref A0, .ref V0, .ref Z0, .int sm, .int 0, .int pl, .int hz, .ref D0, .ref W0, .ref T0, .int tl, .int tw, .int tc], ac E A0 985 (mA h w wd s0 z st he ke tu ca tr co la), ac E D0 192 u.1, ac E W0 192 u.2]) bb aa sx AA 0 0) (F0 mm 25 ls []) := by
    intro nn
    induction nn with
    | zero => intro i x hi hxx hm25; exact absurd hm25 (Nat.not_lt_zero _)
    | succ nn ih25 =>
      intro i x hi hxx hm25 H locs ls hl hw
      refine lv_iload hx hb dX7_greatestDune_25 (lv_at hl 0 rfl) ?_
      refine lv_iload_n hx hb dX7_greatestDune_27 rfl (lv_at hl 2 rfl) ?_
      refine lv_icmp_gt (tgt := 99) hx hb dX7_greatestDune_28 (by decide) (fun c28 => ?_) (fun c28 => ?_)
      · have c28 : ((dnL h w he t (h * w)).2) < (i + 1) := (nI_ltI (a := ((dnL h w he t (h * w)).2)) (b := (i + 1)) (by omega) (by omega)).mp c28
        refine lv_iload_n hx hb dX7_greatestDune_99 rfl (lv_at hl 1 rfl) ?_
        -- leaf 0
        exact k_iret C0 hr hlk hw u16 (rfl) (by rw [hxx, show i = (dnL h w he t (h * w)).2 by omega]; rfl) (Nat.le_of_ble_eq_true rfl) (Nat.le_of_ble_eq_true rfl) dX7_greatestDune_100
      · have c28 : ¬ ((dnL h w he t (h * w)).2) < (i + 1) := fun h99 => c28 ((nI_ltI (a := ((dnL h w he t (h * w)).2)) (b := (i + 1)) (by omega) (by omega)).mpr h99)
        refine lv_iconst (v := 0) hx hb dX7_greatestDune_31 (by decide) ?_
        refine lv_istore (lv' := [(5, .int 0), (4, .int (nI (i + 1))), (3, .int x), (2, .int (nI (dnL h w he t (h * w)).2)), (0, .ref m0), (1, .int t)]) hx hb dX7_greatestDune_32 hl (by decide) rfl (fun ls hl => ?_)
        refine lv_iconst (v := 0) hx hb dX7_greatestDune_34 (by decide) ?_
        refine lv_istore (lv' := [(6, .int 0), (5, .int 0), (4, .int (nI (i + 1))), (3, .int x), (2, .int (nI (dnL h w he t (h * w)).2)), (0, .ref m0), (1, .int t)]) hx hb dX7_greatestDune_35 hl (by decide) rfl (fun ls hl => ?_)
        have loop37 : ∀ (nn : Nat) (i8 : Nat) (y : Int32), (i8 ≤ h * w) → (y = sumL he (dnL h w he t (h * w)).1 (i + 1) i8) → h * w - i8 < nn → ∀ (H : Heap) (locs : List Loc) (ls : Array Slot), lv_has ls 7 [(6, .int (nI i8)), (5, .int y), (4, .int (nI (i + 1))), (3, .int x), (2, .int (nI (dnL h w he t (h * w)).2)), (0, .ref m0), (1, .int t)] → kW E AA sx (List.flatten [oc m0 7 [.ref A0, .ref V0, .ref Z0, .int sm, .int 0, .int pl, .int hz, .ref D0, .ref W0, .ref T0, .int tl, .int tw, .int tc], ac E A0 985 (mA h w wd s0 z st he ke tu ca tr co la), ac E D0 192 u16.1, ac E W0 192 u16.2]) H locs → W pp l ee rmX7_greatestDune sx mm aa bb me cd H locs 0 0 (kEnd E kI (fun (r : Int32) (u : fP) => r = gdN h w he t) (fun (u : fP) => List.flatten [oc m0 7 [.ref A0, .ref V0, .ref Z0, .int sm, .int 0, .int pl, .int hz, .ref D0, .ref W0, .ref T0, .int tl, .int tw, .int tc], ac E A0 985 (mA h w wd s0 z st he ke tu ca tr co la), ac E D0 192 u.1, ac E W0 192 u.2]) bb aa sx AA 0 0) (F0 mm 37 ls []) := by
          intro nn
          induction nn with
          | zero => intro i8 y hi8 hyy hm37; exact absurd hm37 (Nat.not_lt_zero _)
          | succ nn ih37 =>
            intro i8 y hi8 hyy hm37 H locs ls hl hw
            have hlb9 := dnL_lb (h := h) (w := w) (he := he) (t := t) (h * w) i8
            refine lv_iload hx hb dX7_greatestDune_37 (lv_at hl 0 rfl) ?_
            refine lv_aload_n hx hb dX7_greatestDune_39 rfl (lv_at hl 5 rfl) ?_
            refine k_V (As := []) (rest := [.int (nI i8)]) (pre := []) (mid := [oc m0 7 [.ref A0, .ref V0, .ref Z0, .int sm, .int 0, .int pl, .int hz, .ref D0, .ref W0, .ref T0, .int tl, .int tw, .int tc], ac E A0 985 (mA h w wd s0 z st he ke tu ca tr co la)]) C0 (c_X7_cells l E m0 A0 V0 Z0 D0 W0 T0 sm 0 pl hz tl tw tc h w wd s0 z st he ke tu ca tr co la ) (cwV 0 hts gX7_greatestDune_X7_cells rfl rfl rfl (by decide +kernel) ⟨Nat.le_of_ble_eq_true rfl, Nat.le_of_ble_eq_true rfl⟩) hw rfl (fun _ => [oc m0 7 [.ref A0, .ref V0, .ref Z0, .int sm, .int 0, .int pl, .int hz, .ref D0, .ref W0, .ref T0, .int tl, .int tw, .int tc], ac E A0 985 (mA h w wd s0 z st he ke tu ca tr co la)]) (fun _ => rfl) 0 7 rfl rfl rfl rfl hl.1 rfl (Nat.le_of_ble_eq_true rfl) dX7_greatestDune_40 ⟨Nat.le_of_ble_eq_true rfl, Nat.le_of_ble_eq_true rfl⟩ (fun r u H locs hq99 hw => ?_)
            subst hq99
            have hw : kW E AA sx (List.flatten [oc m0 7 [.ref A0, .ref V0, .ref Z0, .int sm, .int 0, .int pl, .int hz, .ref D0, .ref W0, .ref T0, .int tl, .int tw, .int tc], ac E A0 985 (mA h w wd s0 z st he ke tu ca tr co la), ac E D0 192 u16.1, ac E W0 192 u16.2]) H locs := hw
            refine W.eq (g2 := F0 mm 43 ls [.int (nI (h * w)), .int (nI i8)]) rfl ?_
            refine lv_icmp_ge (tgt := 80) hx hb dX7_greatestDune_43 (by decide) (fun c43 => ?_) (fun c43 => ?_)
            · have c43 : (h * w) ≤ i8 := (nI_leI (a := (h * w)) (b := i8) (by omega) (by omega)).mp c43
              refine lv_iload hx hb dX7_greatestDune_80 (lv_at hl 1 rfl) ?_
              refine lv_iload_n hx hb dX7_greatestDune_82 rfl (lv_at hl 3 rfl) ?_
              refine lv_icmp_le (tgt := 91) hx hb dX7_greatestDune_83 (by decide) (fun c83 => ?_) (fun c83 => ?_)
              · refine lv_iload_n hx hb dX7_greatestDune_91 rfl (lv_at hl 3 rfl) ?_
                refine lv_istore_n (lv' := [(3, .int x), (6, .int (nI i8)), (5, .int y), (4, .int (nI (i + 1))), (2, .int (nI (dnL h w he t (h * w)).2)), (0, .ref m0), (1, .int t)]) hx hb dX7_greatestDune_92 rfl hl (by decide) rfl (fun ls hl => ?_)
                refine lv_iinc (v := nI (i + 1 + 1)) (lv' := [(4, .int (nI (i + 1 + 1))), (3, .int x), (6, .int (nI i8)), (5, .int y), (2, .int (nI (dnL h w he t (h * w)).2)), (0, .ref m0), (1, .int t)]) hx hb dX7_greatestDune_93 hl (k := 3) rfl (nI_1 _) (by decide) rfl (fun ls hl => ?_)
                refine lv_goto (tgt := 25) hx hb dX7_greatestDune_96 (by decide) ?_
                -- back 0
                exact ih25 (i + 1) x (by first | assumption | omega) (by rw [hxx, hyy, show i8 = h * w by omega] at c83; rw [hxx]; exact (if_neg (Int32.not_lt.mpr c83)).symm) (by omega) H _ ls (lv_sub hl [0, 1, 4, 5, 6] rfl) hw
              · refine lv_iload hx hb dX7_greatestDune_86 (lv_at hl 1 rfl) ?_
                refine lv_goto (tgt := 92) hx hb dX7_greatestDune_88 (by decide) ?_
                refine lv_istore_n (lv' := [(3, .int y), (6, .int (nI i8)), (5, .int y), (4, .int (nI (i + 1))), (2, .int (nI (dnL h w he t (h * w)).2)), (0, .ref m0), (1, .int t)]) hx hb dX7_greatestDune_92 rfl hl (by decide) rfl (fun ls hl => ?_)
                refine lv_iinc (v := nI (i + 1 + 1)) (lv' := [(4, .int (nI (i + 1 + 1))), (3, .int y), (6, .int (nI i8)), (5, .int y), (2, .int (nI (dnL h w he t (h * w)).2)), (0, .ref m0), (1, .int t)]) hx hb dX7_greatestDune_93 hl (k := 3) rfl (nI_1 _) (by decide) rfl (fun ls hl => ?_)
                refine lv_goto (tgt := 25) hx hb dX7_greatestDune_96 (by decide) ?_
                -- back 1
                exact ih25 (i + 1) y (by first | assumption | omega) (by rw [hxx, hyy, show i8 = h * w by omega] at c83; rw [hyy, show i8 = h * w by omega]; exact (if_pos (Int32.not_le.mp c83)).symm) (by omega) H _ ls (lv_sub hl [0, 1, 4, 5, 6] rfl) hw
            · have c43 : ¬ (h * w) ≤ i8 := fun h99 => c43 ((nI_leI (a := (h * w)) (b := i8) (by omega) (by omega)).mpr h99)
              refine lv_iload hx hb dX7_greatestDune_46 (lv_at hl 1 rfl) ?_
              refine lv_aload_n hx hb dX7_greatestDune_48 rfl (lv_at hl 5 rfl) ?_
              refine k_get (pre := []) C0 hw hinX7 rfl 7 (by decide) (hts (.fieldLink RX7 19 "SlabDunesModel" "duneAt" "[I") (by decide +kernel)) rfl rfl dX7_greatestDune_49 ?_
              refine lv_iload hx hb dX7_greatestDune_52 (lv_at hl 0 rfl) ?_
              refine k_iald (pre := [oc m0 7 [.ref A0, .ref V0, .ref Z0, .int sm, .int 0, .int pl, .int hz, .ref D0, .ref W0, .ref T0, .int tl, .int tw, .int tc], ac E A0 985 (mA h w wd s0 z st he ke tu ca tr co la)]) (l1 := []) C0 hw (i := nI i8) (kinN (by omega) (by decide)) dX7_greatestDune_54 ?_
              refine W.eq (g2 := F0 mm 55 ls [.int (nI ((dnL h w he t (h * w)).1 i8)), .int y]) (congrArg (fun z9 => F0 mm 55 ls [.int z9, .int y]) (show (u16.1 (Int32.toNatClampNeg (nI i8)) : Int32) = nI ((dnL h w he t (h * w)).1 i8) from by rw [nI_clamp (by omega)]; exact h16.2 i8 (by omega))) ?_
              refine lv_iload hx hb dX7_greatestDune_55 (lv_at hl 2 rfl) ?_
              refine lv_icmp_ne (tgt := 70) hx hb dX7_greatestDune_57 (by decide) (fun c57 => ?_) (fun c57 => ?_)
              · have c57 : ¬ ((dnL h w he t (h * w)).1 i8) = (i + 1) := fun h99 => c57 ((nI_eq (a := ((dnL h w he t (h * w)).1 i8)) (b := (i + 1)) (by omega) (by omega)).mpr h99)
                refine lv_iconst (v := 0) hx hb dX7_greatestDune_70 (by decide) ?_
                refine lv_iadd hx hb dX7_greatestDune_71 ?_
                refine lv_istore (lv' := [(5, .int (y + 0)), (6, .int (nI i8)), (4, .int (nI (i + 1))), (3, .int x), (2, .int (nI (dnL h w he t (h * w)).2)), (0, .ref m0), (1, .int t)]) hx hb dX7_greatestDune_72 hl (by decide) rfl (fun ls hl => ?_)
                refine lv_iinc (v := nI (i8 + 1)) (lv' := [(6, .int (nI (i8 + 1))), (5, .int (y + 0)), (4, .int (nI (i + 1))), (3, .int x), (2, .int (nI (dnL h w he t (h * w)).2)), (0, .ref m0), (1, .int t)]) hx hb dX7_greatestDune_74 hl (k := 1) rfl (nI_1 _) (by decide) rfl (fun ls hl => ?_)
                refine lv_goto (tgt := 37) hx hb dX7_greatestDune_77 (by decide) ?_
                -- back 0
                exact ih37 (i8 + 1) (y + 0) (by first | assumption | omega) (by rw [hyy, sumL_s, if_neg c57]) (by omega) H _ ls (lv_sub hl [0, 1, 2, 3, 4, 5, 6] rfl) hw
              · have c57 : ((dnL h w he t (h * w)).1 i8) = (i + 1) := (nI_eq (a := ((dnL h w he t (h * w)).1 i8)) (b := (i + 1)) (by omega) (by omega)).mp c57
                refine lv_aload_n hx hb dX7_greatestDune_60 rfl (lv_at hl 5 rfl) ?_
                refine lv_iload hx hb dX7_greatestDune_61 (lv_at hl 0 rfl) ?_
                refine lv_iconst (v := 0) hx hb dX7_greatestDune_63 (by decide) ?_
                refine k_V (As := [.int (nI i8), .int 0]) (rest := [.int y]) (pre := []) (mid := [oc m0 7 [.ref A0, .ref V0, .ref Z0, .int sm, .int 0, .int pl, .int hz, .ref D0, .ref W0, .ref T0, .int tl, .int tw, .int tc], ac E A0 985 (mA h w wd s0 z st he ke tu ca tr co la)]) C0 (c_X7_of0 l E m0 A0 V0 Z0 D0 W0 T0 sm 0 pl hz tl tw tc h w wd s0 z st he ke tu ca tr co la i8 (by first | assumption | omega) (by first | assumption | omega)) (cwV 2 hts gX7_greatestDune_X7_of rfl rfl rfl (by decide +kernel) ⟨Nat.le_of_ble_eq_true rfl, Nat.le_of_ble_eq_true rfl⟩) hw rfl (fun _ => [oc m0 7 [.ref A0, .ref V0, .ref Z0, .int sm, .int 0, .int pl, .int hz, .ref D0, .ref W0, .ref T0, .int tl, .int tw, .int tc], ac E A0 985 (mA h w wd s0 z st he ke tu ca tr co la)]) (fun _ => rfl) 0 7 rfl rfl rfl rfl hl.1 rfl (Nat.le_of_ble_eq_true rfl) dX7_greatestDune_64 ⟨Nat.le_of_ble_eq_true rfl, Nat.le_of_ble_eq_true rfl⟩ (fun r u H locs hq99 hw => ?_)
                subst hq99
                have hw : kW E AA sx (List.flatten [oc m0 7 [.ref A0, .ref V0, .ref Z0, .int sm, .int 0, .int pl, .int hz, .ref D0, .ref W0, .ref T0, .int tl, .int tw, .int tc], ac E A0 985 (mA h w wd s0 z st he ke tu ca tr co la), ac E D0 192 u16.1, ac E W0 192 u16.2]) H locs := hw
                refine W.eq (g2 := F0 mm 67 ls [.int (he i8), .int y]) rfl ?_
                refine lv_goto (tgt := 71) hx hb dX7_greatestDune_67 (by decide) ?_
                refine lv_iadd hx hb dX7_greatestDune_71 ?_
                refine lv_istore (lv' := [(5, .int (y + (he i8))), (6, .int (nI i8)), (4, .int (nI (i + 1))), (3, .int x), (2, .int (nI (dnL h w he t (h * w)).2)), (0, .ref m0), (1, .int t)]) hx hb dX7_greatestDune_72 hl (by decide) rfl (fun ls hl => ?_)
                refine lv_iinc (v := nI (i8 + 1)) (lv' := [(6, .int (nI (i8 + 1))), (5, .int (y + (he i8))), (4, .int (nI (i + 1))), (3, .int x), (2, .int (nI (dnL h w he t (h * w)).2)), (0, .ref m0), (1, .int t)]) hx hb dX7_greatestDune_74 hl (k := 1) rfl (nI_1 _) (by decide) rfl (fun ls hl => ?_)
                refine lv_goto (tgt := 37) hx hb dX7_greatestDune_77 (by decide) ?_
                -- back 1
                exact ih37 (i8 + 1) (y + (he i8)) (by first | assumption | omega) (by rw [hyy, sumL_s, if_pos c57]) (by omega) H _ ls (lv_sub hl [0, 1, 2, 3, 4, 5, 6] rfl) hw
        exact loop37 ((h * w - 0) + 1) 0 0 (by first | assumption | omega) (rfl) (Nat.lt_succ_self _) H _ ls (lv_sub hl [0, 1, 2, 3, 4, 5, 6] rfl) hw
  exact loop25 (((dnL h w he t (h * w)).2 - 0) + 1) 0 0 (Nat.zero_le _) (rfl) (Nat.lt_succ_self _) H _ ls (lv_sub hl [0, 1, 2, 3, 4] rfl) hw

set_option maxHeartbeats 4000000 in
set_option maxRecDepth 100000 in
theorem c_X7_greatestDune_x1 (l : Launch) (E : kE) (m0 : Nat) (A0 : Nat) (V0 : Nat) (Z0 : Nat) (D0 : Nat) (W0 : Nat) (T0 : Nat) (sm : Int32) (th : Int32) (pl : Int32) (hz : Int32) (tl : Int32) (tw : Int32) (tc : Int32) (h : Nat) (w : Nat) (wd : Int32) (s0 : Int32) (z : Int32) (st : Nat → Int32) (he : Nat → Int32) (ke : Nat → Int32) (tu : Nat → Int32) (ca : Nat → Int32) (tr : Nat → Int32) (co : Nat → Int32) (la : Nat → Int32) (x : Int32) (hv : ¬ (¬ x < 1 ∧ ¬ 99 < x)) : kC E l yX7_greatestDune wsX7_greatestDune rmX7_greatestDune [.ref m0, .int x] (List.flatten [oc m0 7 [.ref A0, .ref V0, .ref Z0, .int sm, .int th, .int pl, .int hz, .ref D0, .ref W0, .ref T0, .int tl, .int tw, .int tc], ac E A0 985 (mA h w wd s0 z st he ke tu ca tr co la)]) kI (fun (r : Int32) (_ : Unit) => r = 0) (fun _ => List.flatten [oc m0 7 [.ref A0, .ref V0, .ref Z0, .int sm, .int 1, .int pl, .int hz, .ref D0, .ref W0, .ref T0, .int tl, .int tw, .int tc], ac E A0 985 (mA h w wd s0 z st he ke tu ca tr co la)]) 0 0 := by
  refine k_body (cc := cX7_greatestDune) (maxL := 7) (ret := (some .int)) (by decide) rfl (Nat.le_of_ble_eq_true rfl) ?_
  intro pp ee sx mm aa bb me cd H locs AA ls C0 hr hlk hnm hl hw
  obtain ⟨hx, hb, hml, hown, hts⟩ := id C0
  have hl : lv_has ls 7 [(0, .ref m0), (1, .int x)] := hl
  have hw : kW E AA sx (List.flatten [oc m0 7 [.ref A0, .ref V0, .ref Z0, .int sm, .int th, .int pl, .int hz, .ref D0, .ref W0, .ref T0, .int tl, .int tw, .int tc], ac E A0 985 (mA h w wd s0 z st he ke tu ca tr co la)]) H locs := hw
  refine lv_aload_n hx hb dX7_greatestDune_0 rfl (lv_at hl 0 rfl) ?_
  refine lv_iload_n hx hb dX7_greatestDune_1 rfl (lv_at hl 1 rfl) ?_
  refine k_S (As := [.int x]) (rest := [.ref m0]) (pre := []) (mid := []) C0 (c_X7_isThreshold l E x ) (va_cwS 1 hts gX7_greatestDune_X7_isThreshold rfl rfl rfl (by decide +kernel) ⟨Nat.le_of_ble_eq_true rfl, Nat.le_of_ble_eq_true rfl⟩) hw rfl (fun _ => []) (fun _ => rfl) rfl hl.1 rfl (Nat.le_of_ble_eq_true rfl) dX7_greatestDune_2 ⟨Nat.le_of_ble_eq_true rfl, Nat.le_of_ble_eq_true rfl⟩ (fun r u H locs hq99 hw => ?_)
  subst hq99
  have hw : kW E AA sx (List.flatten [oc m0 7 [.ref A0, .ref V0, .ref Z0, .int sm, .int th, .int pl, .int hz, .ref D0, .ref W0, .ref T0, .int tl, .int tw, .int tc], ac E A0 985 (mA h w wd s0 z st he ke tu ca tr co la)]) H locs := hw
  refine W.eq (g2 := F0 mm 5 ls [.int (if ¬ x < 1 ∧ ¬ 99 < x then 1 else 0), .ref m0]) rfl ?_
  refine lv_iconst (v := 1) hx hb dX7_greatestDune_5 (by decide) ?_
  refine k_V (As := [.int (if ¬ x < 1 ∧ ¬ 99 < x then 1 else 0), .int 1]) (rest := []) (pre := []) (mid := [oc m0 7 [.ref A0, .ref V0, .ref Z0, .int sm, .int th, .int pl, .int hz, .ref D0, .ref W0, .ref T0, .int tl, .int tw, .int tc]]) C0 (c_X7_goes_1 l E m0 A0 V0 Z0 D0 W0 T0 sm th pl hz tl tw tc (if ¬ x < 1 ∧ ¬ 99 < x then 1 else 0) 1 (kn10 (hv))) (cwV 2 hts gX7_greatestDune_X7_goes rfl rfl rfl (by decide +kernel) ⟨Nat.le_of_ble_eq_true rfl, Nat.le_of_ble_eq_true rfl⟩) hw rfl (fun _ => [oc m0 7 [.ref A0, .ref V0, .ref Z0, .int sm, .int 1, .int pl, .int hz, .ref D0, .ref W0, .ref T0, .int tl, .int tw, .int tc]]) (fun _ => rfl) 0 7 rfl rfl rfl rfl hl.1 rfl (Nat.le_of_ble_eq_true rfl) dX7_greatestDune_6 ⟨Nat.le_of_ble_eq_true rfl, Nat.le_of_ble_eq_true rfl⟩ (fun r u H locs hq99 hw => ?_)
  subst r
  have hw : kW E AA sx (List.flatten [oc m0 7 [.ref A0, .ref V0, .ref Z0, .int sm, .int 1, .int pl, .int hz, .ref D0, .ref W0, .ref T0, .int tl, .int tw, .int tc], ac E A0 985 (mA h w wd s0 z st he ke tu ca tr co la)]) H locs := hw
  refine W.eq (g2 := F0 mm 9 ls [.int 0]) rfl ?_
  refine lv_if_ne (tgt := 14) hx hb dX7_greatestDune_9 (by decide) (fun c9 => absurd c9 (by decide)) (fun c9 => ?_)
  refine lv_iconst (v := 0) hx hb dX7_greatestDune_12 (by decide) ?_
  -- leaf 0
  exact k_iret C0 hr hlk hw () (rfl) (rfl) (Nat.le_of_ble_eq_true rfl) (Nat.le_of_ble_eq_true rfl) dX7_greatestDune_13

abbrev rmX7_duneOf : Room := { frames := 5, cells := 0, slots := 0, locals := 115 }
set_option maxHeartbeats 4000000 in
set_option maxRecDepth 100000 in
theorem c_X7_duneOf_ok (l : Launch) (E : kE) (m0 : Nat) (A0 : Nat) (V0 : Nat) (Z0 : Nat) (D0 : Nat) (W0 : Nat) (T0 : Nat) (sm : Int32) (th : Int32) (pl : Int32) (hz : Int32) (tl : Int32) (tw : Int32) (tc : Int32) (h : Nat) (w : Nat) (wd : Int32) (s0 : Int32) (z : Int32) (st : Nat → Int32) (he : Nat → Int32) (ke : Nat → Int32) (tu : Nat → Int32) (ca : Nat → Int32) (tr : Nat → Int32) (co : Nat → Int32) (la : Nat → Int32) (D : Nat → Int32) (Q : Nat → Int32) (k : Nat) (t : Int32) (hG : kG h w) (hc : k < h * w) (hv : ¬ t < 1 ∧ ¬ 99 < t) : kC E l yX7_duneOf wsX7_duneOf rmX7_duneOf [.ref m0, .int (nI k), .int t] (List.flatten [oc m0 7 [.ref A0, .ref V0, .ref Z0, .int sm, .int th, .int pl, .int hz, .ref D0, .ref W0, .ref T0, .int tl, .int tw, .int tc], ac E A0 985 (mA h w wd s0 z st he ke tu ca tr co la), ac E D0 192 D, ac E W0 192 Q]) kI (fun (r : Int32) (u : fP) => r = nI (doN h w he t k)) (fun (u : fP) => List.flatten [oc m0 7 [.ref A0, .ref V0, .ref Z0, .int sm, .int 0, .int pl, .int hz, .ref D0, .ref W0, .ref T0, .int tl, .int tw, .int tc], ac E A0 985 (mA h w wd s0 z st he ke tu ca tr co la), ac E D0 192 u.1, ac E W0 192 u.2]) 0 0 := by
  refine k_body (cc := cX7_duneOf) (maxL := 6) (ret := (some .int)) (by decide) rfl (Nat.le_of_ble_eq_true rfl) ?_
  intro pp ee sx mm aa bb me cd H locs AA ls C0 hr hlk hnm hl hw
  obtain ⟨hx, hb, hml, hown, hts⟩ := id C0
  have hl : lv_has ls 6 [(0, .ref m0), (1, .int (nI k)), (2, .int t)] := hl
  have hw : kW E AA sx (List.flatten [oc m0 7 [.ref A0, .ref V0, .ref Z0, .int sm, .int th, .int pl, .int hz, .ref D0, .ref W0, .ref T0, .int tl, .int tw, .int tc], ac E A0 985 (mA h w wd s0 z st he ke tu ca tr co la), ac E D0 192 D, ac E W0 192 Q]) H locs := hw
  have hn9 := kG_n hG
  have hG9 := id hG
  obtain ⟨hG1, hG2, hG3, hG4⟩ := hG9
  have hinX7 : ∀ w ∈ u_ws RX7 TX7 13, w ∈ wsX7_duneOf := by decide +kernel
  refine lv_aload_n hx hb dX7_duneOf_0 rfl (lv_at hl 0 rfl) ?_
  refine lv_aload_n hx hb dX7_duneOf_1 rfl (lv_at hl 0 rfl) ?_
  refine lv_iload_n hx hb dX7_duneOf_2 rfl (lv_at hl 1 rfl) ?_
  refine k_V (As := [.int (nI k)]) (rest := [.ref m0]) (pre := []) (mid := [oc m0 7 [.ref A0, .ref V0, .ref Z0, .int sm, .int th, .int pl, .int hz, .ref D0, .ref W0, .ref T0, .int tl, .int tw, .int tc], ac E A0 985 (mA h w wd s0 z st he ke tu ca tr co la)]) C0 (c_X7_isCell l E m0 A0 V0 Z0 D0 W0 T0 sm th pl hz tl tw tc h w wd s0 z st he ke tu ca tr co la (nI k) (by first | assumption | omega)) (cwV 1 hts gX7_duneOf_X7_isCell rfl rfl rfl (by decide +kernel) ⟨Nat.le_of_ble_eq_true rfl, Nat.le_of_ble_eq_true rfl⟩) hw rfl (fun _ => [oc m0 7 [.ref A0, .ref V0, .ref Z0, .int sm, .int th, .int pl, .int hz, .ref D0, .ref W0, .ref T0, .int tl, .int tw, .int tc], ac E A0 985 (mA h w wd s0 z st he ke tu ca tr co la)]) (fun _ => rfl) 0 7 rfl rfl rfl rfl hl.1 rfl (Nat.le_of_ble_eq_true rfl) dX7_duneOf_3 ⟨Nat.le_of_ble_eq_true rfl, Nat.le_of_ble_eq_true rfl⟩ (fun r u H locs hq99 hw => ?_)
  subst hq99
  have hw : kW E AA sx (List.flatten [oc m0 7 [.ref A0, .ref V0, .ref Z0, .int sm, .int th, .int pl, .int hz, .ref D0, .ref W0, .ref T0, .int tl, .int tw, .int tc], ac E A0 985 (mA h w wd s0 z st he ke tu ca tr co la), ac E D0 192 D, ac E W0 192 Q]) H locs := hw
  refine W.eq (g2 := F0 mm 6 ls [.int (if ¬ (nI k) < 0 ∧ ¬ nI (h * w - 1) < (nI k) then 1 else 0), .ref m0]) rfl ?_
  refine lv_iload_n hx hb dX7_duneOf_6 rfl (lv_at hl 2 rfl) ?_
  refine k_S (As := [.int t]) (rest := [.int (if ¬ (nI k) < 0 ∧ ¬ nI (h * w - 1) < (nI k) then 1 else 0), .ref m0]) (pre := []) (mid := []) C0 (c_X7_isThreshold l E t ) (va_cwS 1 hts gX7_duneOf_X7_isThreshold rfl rfl rfl (by decide +kernel) ⟨Nat.le_of_ble_eq_true rfl, Nat.le_of_ble_eq_true rfl⟩) hw rfl (fun _ => []) (fun _ => rfl) rfl hl.1 rfl (Nat.le_of_ble_eq_true rfl) dX7_duneOf_7 ⟨Nat.le_of_ble_eq_true rfl, Nat.le_of_ble_eq_true rfl⟩ (fun r u H locs hq99 hw => ?_)
  subst hq99
  have hw : kW E AA sx (List.flatten [oc m0 7 [.ref A0, .ref V0, .ref Z0, .int sm, .int th, .int pl, .int hz, .ref D0, .ref W0, .ref T0, .int tl, .int tw, .int tc], ac E A0 985 (mA h w wd s0 z st he ke tu ca tr co la), ac E D0 192 D, ac E W0 192 Q]) H locs := hw
  refine W.eq (g2 := F0 mm 10 ls [.int (if ¬ t < 1 ∧ ¬ 99 < t then 1 else 0), .int (if ¬ (nI k) < 0 ∧ ¬ nI (h * w - 1) < (nI k) then 1 else 0), .ref m0]) rfl ?_
  refine k_V (As := [.int (if ¬ (nI k) < 0 ∧ ¬ nI (h * w - 1) < (nI k) then 1 else 0), .int (if ¬ t < 1 ∧ ¬ 99 < t then 1 else 0)]) (rest := []) (pre := []) (mid := [oc m0 7 [.ref A0, .ref V0, .ref Z0, .int sm, .int th, .int pl, .int hz, .ref D0, .ref W0, .ref T0, .int tl, .int tw, .int tc]]) C0 (c_X7_goes_ok l E m0 A0 V0 Z0 D0 W0 T0 sm th pl hz tl tw tc (if ¬ (nI k) < 0 ∧ ¬ nI (h * w - 1) < (nI k) then 1 else 0) (if ¬ t < 1 ∧ ¬ 99 < t then 1 else 0) (kp10 (⟨nI_pos (by omega), nI_nlt (a := h * w - 1) (b := k) (by omega) (by omega)⟩)) (kp10 (hv))) (cwV 2 hts gX7_duneOf_X7_goes rfl rfl rfl (by decide +kernel) ⟨Nat.le_of_ble_eq_true rfl, Nat.le_of_ble_eq_true rfl⟩) hw rfl (fun _ => [oc m0 7 [.ref A0, .ref V0, .ref Z0, .int sm, .int 0, .int pl, .int hz, .ref D0, .ref W0, .ref T0, .int tl, .int tw, .int tc]]) (fun _ => rfl) 0 7 rfl rfl rfl rfl hl.1 rfl (Nat.le_of_ble_eq_true rfl) dX7_duneOf_10 ⟨Nat.le_of_ble_eq_true rfl, Nat.le_of_ble_eq_true rfl⟩ (fun r u H locs hq99 hw => ?_)
  subst r
  have hw : kW E AA sx (List.flatten [oc m0 7 [.ref A0, .ref V0, .ref Z0, .int sm, .int 0, .int pl, .int hz, .ref D0, .ref W0, .ref T0, .int tl, .int tw, .int tc], ac E A0 985 (mA h w wd s0 z st he ke tu ca tr co la), ac E D0 192 D, ac E W0 192 Q]) H locs := hw
  refine W.eq (g2 := F0 mm 13 ls [.int 1]) rfl ?_
  refine lv_if_ne (tgt := 18) hx hb dX7_duneOf_13 (by decide) (fun c13 => ?_) (fun c13 => absurd c13 (by decide))
  refine lv_aload_n hx hb dX7_duneOf_18 rfl (lv_at hl 0 rfl) ?_
  refine lv_iload_n hx hb dX7_duneOf_19 rfl (lv_at hl 2 rfl) ?_
  refine k_V (As := [.int t]) (rest := []) (pre := []) (mid := [oc m0 7 [.ref A0, .ref V0, .ref Z0, .int sm, .int 0, .int pl, .int hz, .ref D0, .ref W0, .ref T0, .int tl, .int tw, .int tc], ac E A0 985 (mA h w wd s0 z st he ke tu ca tr co la), ac E D0 192 D, ac E W0 192 Q]) C0 (c_X7_laysDunes l E m0 A0 V0 Z0 D0 W0 T0 sm 0 pl hz tl tw tc h w wd s0 z st he ke tu ca tr co la D Q t (by first | assumption | omega)) (cwV 1 hts gX7_duneOf_X7_laysDunes rfl rfl rfl (by decide +kernel) ⟨Nat.le_of_ble_eq_true rfl, Nat.le_of_ble_eq_true rfl⟩) hw rfl (fun (u20 : fP) => [oc m0 7 [.ref A0, .ref V0, .ref Z0, .int sm, .int 0, .int pl, .int hz, .ref D0, .ref W0, .ref T0, .int tl, .int tw, .int tc], ac E A0 985 (mA h w wd s0 z st he ke tu ca tr co la), ac E D0 192 u20.1, ac E W0 192 u20.2]) (fun _ => rfl) 0 7 rfl rfl rfl rfl hl.1 rfl (Nat.le_of_ble_eq_true rfl) dX7_duneOf_20 ⟨Nat.le_of_ble_eq_true rfl, Nat.le_of_ble_eq_true rfl⟩ (fun r u20 H locs hq99 hw => ?_)
  obtain ⟨r20, rfl⟩ : ∃ z, z = r := ⟨_, rfl⟩
  have h20 : r20 = nI (dnL h w he t (h * w)).2 ∧ dnR (h * w) u20.1 (dnL h w he t (h * w)).1 := hq99
  have hw : kW E AA sx (List.flatten [oc m0 7 [.ref A0, .ref V0, .ref Z0, .int sm, .int 0, .int pl, .int hz, .ref D0, .ref W0, .ref T0, .int tl, .int tw, .int tc], ac E A0 985 (mA h w wd s0 z st he ke tu ca tr co la), ac E D0 192 u20.1, ac E W0 192 u20.2]) H locs := hw
  refine W.eq (g2 := F0 mm 23 ls [.int r20]) rfl ?_
  refine lv_istore_n (lv' := [(3, .int r20), (0, .ref m0), (1, .int (nI k)), (2, .int t)]) hx hb dX7_duneOf_23 rfl hl (by decide) rfl (fun ls hl => ?_)
  have hdl9 := dnL_le (h := h) (w := w) (he := he) (t := t) (h * w)
  have hlk9 := dnL_lb (h := h) (w := w) (he := he) (t := t) (h * w) k
  have hl : lv_has ls 6 [(3, .int (nI (dnL h w he t (h * w)).2)), (0, .ref m0), (1, .int (nI k)), (2, .int t)] := by have h99 : r20 = nI (dnL h w he t (h * w)).2 := (h20.1); rw [h99] at hl; exact hl
  refine lv_iconst (v := 0) hx hb dX7_duneOf_24 (by decide) ?_
  refine lv_istore (lv' := [(4, .int 0), (3, .int (nI (dnL h w he t (h * w)).2)), (0, .ref m0), (1, .int (nI k)), (2, .int t)]) hx hb dX7_duneOf_25 hl (by decide) rfl (fun ls hl => ?_)
  refine lv_iconst (v := 0) hx hb dX7_duneOf_27 (by decide) ?_
  refine lv_istore (lv' := [(5, .int 0), (4, .int 0), (3, .int (nI (dnL h w he t (h * w)).2)), (0, .ref m0), (1, .int (nI k)), (2, .int t)]) hx hb dX7_duneOf_28 hl (by decide) rfl (fun ls hl => ?_)
  have loop30 : ∀ (nn : Nat) (i : Nat) (cnt : Nat), (i ≤ h * w) → (cnt = if (dnL h w he t (h * w)).1 k = 0 then 0 else cntL (dnL h w he t (h * w)).1 ((dnL h w he t (h * w)).1 k) i) → h * w - i < nn → ∀ (H : Heap) (locs : List Loc) (ls : Array Slot), lv_has ls 6 [(5, .int (nI i)), (4, .int (nI cnt)), (3, .int (nI (dnL h w he t (h * w)).2)), (0, .ref m0), (1, .int (nI k)), (2, .int t)] → kW E AA sx (List.flatten [oc m0 7 [.ref A0, .ref V0, .ref Z0, .int sm, .int 0, .int pl, .int hz, .ref D0, .ref W0, .ref T0, .int tl, .int tw, .int tc], ac E A0 985 (mA h w wd s0 z st he ke tu ca tr co la), ac E D0 192 u20.1, ac E W0 192 u20.2]) H locs → W pp l ee rmX7_duneOf sx mm aa bb me cd H locs 0 0 (kEnd E kI (fun (r : Int32) (u : fP) => r = nI (doN h w he t k)) (fun (u : fP) => List.flatten [oc m0 7 [.ref A0, .ref V0, .ref Z0, .int sm, .int 0, .int pl, .int hz, .ref D0, .ref W0, .ref T0, .int tl, .int tw, .int tc], ac E A0 985 (mA h w wd s0 z st he ke tu ca tr co la), ac E D0 192 u.1, ac E W0 192 u.2]) bb aa sx AA 0 0) (F0 mm 30 ls []) := by
    intro nn
    induction nn with
    | zero => intro i cnt hi hcnt hm30; exact absurd hm30 (Nat.not_lt_zero _)
    | succ nn ih30 =>
      intro i cnt hi hcnt hm30 H locs ls hl hw
      have hlb9 := dnL_lb (h := h) (w := w) (he := he) (t := t) (h * w) i
      refine lv_iload hx hb dX7_duneOf_30 (lv_at hl 0 rfl) ?_
      refine lv_aload_n hx hb dX7_duneOf_32 rfl (lv_at hl 3 rfl) ?_
      refine k_V (As := []) (rest := [.int (nI i)]) (pre := []) (mid := [oc m0 7 [.ref A0, .ref V0, .ref Z0, .int sm, .int 0, .int pl, .int hz, .ref D0, .ref W0, .ref T0, .int tl, .int tw, .int tc], ac E A0 985 (mA h w wd s0 z st he ke tu ca tr co la)]) C0 (c_X7_cells l E m0 A0 V0 Z0 D0 W0 T0 sm 0 pl hz tl tw tc h w wd s0 z st he ke tu ca tr co la ) (cwV 0 hts gX7_duneOf_X7_cells rfl rfl rfl (by decide +kernel) ⟨Nat.le_of_ble_eq_true rfl, Nat.le_of_ble_eq_true rfl⟩) hw rfl (fun _ => [oc m0 7 [.ref A0, .ref V0, .ref Z0, .int sm, .int 0, .int pl, .int hz, .ref D0, .ref W0, .ref T0, .int tl, .int tw, .int tc], ac E A0 985 (mA h w wd s0 z st he ke tu ca tr co la)]) (fun _ => rfl) 0 7 rfl rfl rfl rfl hl.1 rfl (Nat.le_of_ble_eq_true rfl) dX7_duneOf_33 ⟨Nat.le_of_ble_eq_true rfl, Nat.le_of_ble_eq_true rfl⟩ (fun r u H locs hq99 hw => ?_)
      subst hq99
      have hw : kW E AA sx (List.flatten [oc m0 7 [.ref A0, .ref V0, .ref Z0, .int sm, .int 0, .int pl, .int hz, .ref D0, .ref W0, .ref T0, .int tl, .int tw, .int tc], ac E A0 985 (mA h w wd s0 z st he ke tu ca tr co la), ac E D0 192 u20.1, ac E W0 192 u20.2]) H locs := hw
      refine W.eq (g2 := F0 mm 36 ls [.int (nI (h * w)), .int (nI i)]) rfl ?_
      refine lv_icmp_ge (tgt := 84) hx hb dX7_duneOf_36 (by decide) (fun c36 => ?_) (fun c36 => ?_)
      · have c36 : (h * w) ≤ i := (nI_leI (a := (h * w)) (b := i) (by omega) (by omega)).mp c36
        refine lv_iload hx hb dX7_duneOf_84 (lv_at hl 1 rfl) ?_
        -- leaf 0
        exact k_iret C0 hr hlk hw u20 (rfl) (by rw [hcnt, show i = h * w by omega]; rfl) (Nat.le_of_ble_eq_true rfl) (Nat.le_of_ble_eq_true rfl) dX7_duneOf_86
      · have c36 : ¬ (h * w) ≤ i := fun h99 => c36 ((nI_leI (a := (h * w)) (b := i) (by omega) (by omega)).mpr h99)
        refine lv_iload hx hb dX7_duneOf_39 (lv_at hl 1 rfl) ?_
        refine lv_iload_n hx hb dX7_duneOf_41 rfl (lv_at hl 2 rfl) ?_
        refine lv_if_le (tgt := 74) hx hb dX7_duneOf_42 (by decide) (fun c42 => ?_) (fun c42 => ?_)
        · have c42 : ((dnL h w he t (h * w)).2) ≤ 0 := (nI_leI (a := ((dnL h w he t (h * w)).2)) (b := 0) (by omega) (by omega)).mp c42
          refine lv_iconst (v := 0) hx hb dX7_duneOf_74 (by decide) ?_
          refine lv_iadd hx hb dX7_duneOf_75 ?_
          refine W.eq (g2 := F0 mm 76 ls [.int (nI cnt)]) (congrArg (fun z9 => F0 mm 76 ls [.int z9]) (show ((nI cnt) + 0 : Int32) = nI cnt from Int32.add_zero _)) ?_
          refine lv_istore (lv' := [(4, .int (nI cnt)), (5, .int (nI i)), (3, .int (nI (dnL h w he t (h * w)).2)), (0, .ref m0), (1, .int (nI k)), (2, .int t)]) hx hb dX7_duneOf_76 hl (by decide) rfl (fun ls hl => ?_)
          refine lv_iinc (v := nI (i + 1)) (lv' := [(5, .int (nI (i + 1))), (4, .int (nI cnt)), (3, .int (nI (dnL h w he t (h * w)).2)), (0, .ref m0), (1, .int (nI k)), (2, .int t)]) hx hb dX7_duneOf_78 hl (k := 1) rfl (nI_1 _) (by decide) rfl (fun ls hl => ?_)
          refine lv_goto (tgt := 30) hx hb dX7_duneOf_81 (by decide) ?_
          -- back 0
          exact ih30 (i + 1) cnt (by first | assumption | omega) (by rw [if_pos (by omega)] at hcnt ⊢; exact hcnt) (by omega) H _ ls (lv_sub hl [0, 1, 2, 3, 4, 5] rfl) hw
        · have c42 : ¬ ((dnL h w he t (h * w)).2) ≤ 0 := fun h99 => c42 ((nI_leI (a := ((dnL h w he t (h * w)).2)) (b := 0) (by omega) (by omega)).mpr h99)
          refine lv_aload_n hx hb dX7_duneOf_45 rfl (lv_at hl 3 rfl) ?_
          refine k_get (pre := []) C0 hw hinX7 rfl 7 (by decide) (hts (.fieldLink RX7 19 "SlabDunesModel" "duneAt" "[I") (by decide +kernel)) rfl rfl dX7_duneOf_46 ?_
          refine lv_iload_n hx hb dX7_duneOf_49 rfl (lv_at hl 4 rfl) ?_
          refine k_iald (pre := [oc m0 7 [.ref A0, .ref V0, .ref Z0, .int sm, .int 0, .int pl, .int hz, .ref D0, .ref W0, .ref T0, .int tl, .int tw, .int tc], ac E A0 985 (mA h w wd s0 z st he ke tu ca tr co la)]) (l1 := []) C0 hw (i := nI k) (kinN (by omega) (by decide)) dX7_duneOf_50 ?_
          refine W.eq (g2 := F0 mm 51 ls [.int (nI ((dnL h w he t (h * w)).1 k)), .int (nI cnt)]) (congrArg (fun z9 => F0 mm 51 ls [.int z9, .int (nI cnt)]) (show (u20.1 (Int32.toNatClampNeg (nI k)) : Int32) = nI ((dnL h w he t (h * w)).1 k) from by rw [nI_clamp (by omega)]; exact h20.2 k hc)) ?_
          refine lv_if_le (tgt := 74) hx hb dX7_duneOf_51 (by decide) (fun c51 => ?_) (fun c51 => ?_)
          · have c51 : ((dnL h w he t (h * w)).1 k) ≤ 0 := (nI_leI (a := ((dnL h w he t (h * w)).1 k)) (b := 0) (by omega) (by omega)).mp c51
            refine lv_iconst (v := 0) hx hb dX7_duneOf_74 (by decide) ?_
            refine lv_iadd hx hb dX7_duneOf_75 ?_
            refine W.eq (g2 := F0 mm 76 ls [.int (nI cnt)]) (congrArg (fun z9 => F0 mm 76 ls [.int z9]) (show ((nI cnt) + 0 : Int32) = nI cnt from Int32.add_zero _)) ?_
            refine lv_istore (lv' := [(4, .int (nI cnt)), (5, .int (nI i)), (3, .int (nI (dnL h w he t (h * w)).2)), (0, .ref m0), (1, .int (nI k)), (2, .int t)]) hx hb dX7_duneOf_76 hl (by decide) rfl (fun ls hl => ?_)
            refine lv_iinc (v := nI (i + 1)) (lv' := [(5, .int (nI (i + 1))), (4, .int (nI cnt)), (3, .int (nI (dnL h w he t (h * w)).2)), (0, .ref m0), (1, .int (nI k)), (2, .int t)]) hx hb dX7_duneOf_78 hl (k := 1) rfl (nI_1 _) (by decide) rfl (fun ls hl => ?_)
            refine lv_goto (tgt := 30) hx hb dX7_duneOf_81 (by decide) ?_
            -- back 1
            exact ih30 (i + 1) cnt (by first | assumption | omega) (by rw [if_pos (by omega)] at hcnt ⊢; exact hcnt) (by omega) H _ ls (lv_sub hl [0, 1, 2, 3, 4, 5] rfl) hw
          · have c51 : ¬ ((dnL h w he t (h * w)).1 k) ≤ 0 := fun h99 => c51 ((nI_leI (a := ((dnL h w he t (h * w)).1 k)) (b := 0) (by omega) (by omega)).mpr h99)
            refine lv_aload_n hx hb dX7_duneOf_54 rfl (lv_at hl 3 rfl) ?_
            refine k_get (pre := []) C0 hw hinX7 rfl 7 (by decide) (hts (.fieldLink RX7 19 "SlabDunesModel" "duneAt" "[I") (by decide +kernel)) rfl rfl dX7_duneOf_55 ?_
            refine lv_iload hx hb dX7_duneOf_58 (lv_at hl 0 rfl) ?_
            refine k_iald (pre := [oc m0 7 [.ref A0, .ref V0, .ref Z0, .int sm, .int 0, .int pl, .int hz, .ref D0, .ref W0, .ref T0, .int tl, .int tw, .int tc], ac E A0 985 (mA h w wd s0 z st he ke tu ca tr co la)]) (l1 := []) C0 hw (i := nI i) (kinN (by omega) (by decide)) dX7_duneOf_60 ?_
            refine W.eq (g2 := F0 mm 61 ls [.int (nI ((dnL h w he t (h * w)).1 i)), .int (nI cnt)]) (congrArg (fun z9 => F0 mm 61 ls [.int z9, .int (nI cnt)]) (show (u20.1 (Int32.toNatClampNeg (nI i)) : Int32) = nI ((dnL h w he t (h * w)).1 i) from by rw [nI_clamp (by omega)]; exact h20.2 i (by omega))) ?_
            refine lv_aload_n hx hb dX7_duneOf_61 rfl (lv_at hl 3 rfl) ?_
            refine k_get (pre := []) C0 hw hinX7 rfl 7 (by decide) (hts (.fieldLink RX7 19 "SlabDunesModel" "duneAt" "[I") (by decide +kernel)) rfl rfl dX7_duneOf_62 ?_
            refine lv_iload_n hx hb dX7_duneOf_65 rfl (lv_at hl 4 rfl) ?_
            refine k_iald (pre := [oc m0 7 [.ref A0, .ref V0, .ref Z0, .int sm, .int 0, .int pl, .int hz, .ref D0, .ref W0, .ref T0, .int tl, .int tw, .int tc], ac E A0 985 (mA h w wd s0 z st he ke tu ca tr co la)]) (l1 := []) C0 hw (i := nI k) (kinN (by omega) (by decide)) dX7_duneOf_66 ?_
            refine W.eq (g2 := F0 mm 67 ls [.int (nI ((dnL h w he t (h * w)).1 k)), .int (nI ((dnL h w he t (h * w)).1 i)), .int (nI cnt)]) (congrArg (fun z9 => F0 mm 67 ls [.int z9, .int (nI ((dnL h w he t (h * w)).1 i)), .int (nI cnt)]) (show (u20.1 (Int32.toNatClampNeg (nI k)) : Int32) = nI ((dnL h w he t (h * w)).1 k) from by rw [nI_clamp (by omega)]; exact h20.2 k hc)) ?_
            refine lv_icmp_ne (tgt := 74) hx hb dX7_duneOf_67 (by decide) (fun c67 => ?_) (fun c67 => ?_)
            · have c67 : ¬ ((dnL h w he t (h * w)).1 i) = ((dnL h w he t (h * w)).1 k) := fun h99 => c67 ((nI_eq (a := ((dnL h w he t (h * w)).1 i)) (b := ((dnL h w he t (h * w)).1 k)) (by omega) (by omega)).mpr h99)
              refine lv_iconst (v := 0) hx hb dX7_duneOf_74 (by decide) ?_
              refine lv_iadd hx hb dX7_duneOf_75 ?_
              refine W.eq (g2 := F0 mm 76 ls [.int (nI cnt)]) (congrArg (fun z9 => F0 mm 76 ls [.int z9]) (show ((nI cnt) + 0 : Int32) = nI cnt from Int32.add_zero _)) ?_
              refine lv_istore (lv' := [(4, .int (nI cnt)), (5, .int (nI i)), (3, .int (nI (dnL h w he t (h * w)).2)), (0, .ref m0), (1, .int (nI k)), (2, .int t)]) hx hb dX7_duneOf_76 hl (by decide) rfl (fun ls hl => ?_)
              refine lv_iinc (v := nI (i + 1)) (lv' := [(5, .int (nI (i + 1))), (4, .int (nI cnt)), (3, .int (nI (dnL h w he t (h * w)).2)), (0, .ref m0), (1, .int (nI k)), (2, .int t)]) hx hb dX7_duneOf_78 hl (k := 1) rfl (nI_1 _) (by decide) rfl (fun ls hl => ?_)
              refine lv_goto (tgt := 30) hx hb dX7_duneOf_81 (by decide) ?_
              -- back 2
              exact ih30 (i + 1) cnt (by first | assumption | omega) (by rw [if_neg (by omega)] at hcnt ⊢; rw [cntL_s, if_neg c67]; exact hcnt) (by omega) H _ ls (lv_sub hl [0, 1, 2, 3, 4, 5] rfl) hw
            · have c67 : ((dnL h w he t (h * w)).1 i) = ((dnL h w he t (h * w)).1 k) := (nI_eq (a := ((dnL h w he t (h * w)).1 i)) (b := ((dnL h w he t (h * w)).1 k)) (by omega) (by omega)).mp c67
              refine lv_iconst (v := 1) hx hb dX7_duneOf_70 (by decide) ?_
              refine lv_goto (tgt := 75) hx hb dX7_duneOf_71 (by decide) ?_
              refine lv_iadd hx hb dX7_duneOf_75 ?_
              refine W.eq (g2 := F0 mm 76 ls [.int (nI (cnt + 1))]) (congrArg (fun z9 => F0 mm 76 ls [.int z9]) (show ((nI cnt) + 1 : Int32) = nI (cnt + 1) from nI_1 _)) ?_
              refine lv_istore (lv' := [(4, .int (nI (cnt + 1))), (5, .int (nI i)), (3, .int (nI (dnL h w he t (h * w)).2)), (0, .ref m0), (1, .int (nI k)), (2, .int t)]) hx hb dX7_duneOf_76 hl (by decide) rfl (fun ls hl => ?_)
              refine lv_iinc (v := nI (i + 1)) (lv' := [(5, .int (nI (i + 1))), (4, .int (nI (cnt + 1))), (3, .int (nI (dnL h w he t (h * w)).2)), (0, .ref m0), (1, .int (nI k)), (2, .int t)]) hx hb dX7_duneOf_78 hl (k := 1) rfl (nI_1 _) (by decide) rfl (fun ls hl => ?_)
              refine lv_goto (tgt := 30) hx hb dX7_duneOf_81 (by decide) ?_
              -- back 3
              exact ih30 (i + 1) (cnt + 1) (by first | assumption | omega) (by rw [if_neg (by omega)] at hcnt ⊢; rw [cntL_s, if_pos c67, hcnt]) (by omega) H _ ls (lv_sub hl [0, 1, 2, 3, 4, 5] rfl) hw
  exact loop30 ((h * w - 0) + 1) 0 0 (by first | assumption | omega) (by split <;> rfl) (Nat.lt_succ_self _) H _ ls (lv_sub hl [0, 1, 2, 3, 4, 5] rfl) hw

set_option maxHeartbeats 4000000 in
set_option maxRecDepth 100000 in
theorem c_X7_duneOf_x1 (l : Launch) (E : kE) (m0 : Nat) (A0 : Nat) (V0 : Nat) (Z0 : Nat) (D0 : Nat) (W0 : Nat) (T0 : Nat) (sm : Int32) (th : Int32) (pl : Int32) (hz : Int32) (tl : Int32) (tw : Int32) (tc : Int32) (h : Nat) (w : Nat) (wd : Int32) (s0 : Int32) (z : Int32) (st : Nat → Int32) (he : Nat → Int32) (ke : Nat → Int32) (tu : Nat → Int32) (ca : Nat → Int32) (tr : Nat → Int32) (co : Nat → Int32) (la : Nat → Int32) (x : Int32) (v : Int32) (hG : kG h w) (hv : ¬ (¬ x < 0 ∧ ¬ nI (h * w - 1) < x)) : kC E l yX7_duneOf wsX7_duneOf rmX7_duneOf [.ref m0, .int x, .int v] (List.flatten [oc m0 7 [.ref A0, .ref V0, .ref Z0, .int sm, .int th, .int pl, .int hz, .ref D0, .ref W0, .ref T0, .int tl, .int tw, .int tc], ac E A0 985 (mA h w wd s0 z st he ke tu ca tr co la)]) kI (fun (r : Int32) (_ : Unit) => r = 0) (fun _ => List.flatten [oc m0 7 [.ref A0, .ref V0, .ref Z0, .int sm, .int 1, .int pl, .int hz, .ref D0, .ref W0, .ref T0, .int tl, .int tw, .int tc], ac E A0 985 (mA h w wd s0 z st he ke tu ca tr co la)]) 0 0 := by
  refine k_body (cc := cX7_duneOf) (maxL := 6) (ret := (some .int)) (by decide) rfl (Nat.le_of_ble_eq_true rfl) ?_
  intro pp ee sx mm aa bb me cd H locs AA ls C0 hr hlk hnm hl hw
  obtain ⟨hx, hb, hml, hown, hts⟩ := id C0
  have hl : lv_has ls 6 [(0, .ref m0), (1, .int x), (2, .int v)] := hl
  have hw : kW E AA sx (List.flatten [oc m0 7 [.ref A0, .ref V0, .ref Z0, .int sm, .int th, .int pl, .int hz, .ref D0, .ref W0, .ref T0, .int tl, .int tw, .int tc], ac E A0 985 (mA h w wd s0 z st he ke tu ca tr co la)]) H locs := hw
  have hn9 := kG_n hG
  have hG9 := id hG
  obtain ⟨hG1, hG2, hG3, hG4⟩ := hG9
  refine lv_aload_n hx hb dX7_duneOf_0 rfl (lv_at hl 0 rfl) ?_
  refine lv_aload_n hx hb dX7_duneOf_1 rfl (lv_at hl 0 rfl) ?_
  refine lv_iload_n hx hb dX7_duneOf_2 rfl (lv_at hl 1 rfl) ?_
  refine k_V (As := [.int x]) (rest := [.ref m0]) (pre := []) (mid := [oc m0 7 [.ref A0, .ref V0, .ref Z0, .int sm, .int th, .int pl, .int hz, .ref D0, .ref W0, .ref T0, .int tl, .int tw, .int tc], ac E A0 985 (mA h w wd s0 z st he ke tu ca tr co la)]) C0 (c_X7_isCell l E m0 A0 V0 Z0 D0 W0 T0 sm th pl hz tl tw tc h w wd s0 z st he ke tu ca tr co la x (by first | assumption | omega)) (cwV 1 hts gX7_duneOf_X7_isCell rfl rfl rfl (by decide +kernel) ⟨Nat.le_of_ble_eq_true rfl, Nat.le_of_ble_eq_true rfl⟩) hw rfl (fun _ => [oc m0 7 [.ref A0, .ref V0, .ref Z0, .int sm, .int th, .int pl, .int hz, .ref D0, .ref W0, .ref T0, .int tl, .int tw, .int tc], ac E A0 985 (mA h w wd s0 z st he ke tu ca tr co la)]) (fun _ => rfl) 0 7 rfl rfl rfl rfl hl.1 rfl (Nat.le_of_ble_eq_true rfl) dX7_duneOf_3 ⟨Nat.le_of_ble_eq_true rfl, Nat.le_of_ble_eq_true rfl⟩ (fun r u H locs hq99 hw => ?_)
  subst hq99
  have hw : kW E AA sx (List.flatten [oc m0 7 [.ref A0, .ref V0, .ref Z0, .int sm, .int th, .int pl, .int hz, .ref D0, .ref W0, .ref T0, .int tl, .int tw, .int tc], ac E A0 985 (mA h w wd s0 z st he ke tu ca tr co la)]) H locs := hw
  refine W.eq (g2 := F0 mm 6 ls [.int (if ¬ x < 0 ∧ ¬ nI (h * w - 1) < x then 1 else 0), .ref m0]) rfl ?_
  refine lv_iload_n hx hb dX7_duneOf_6 rfl (lv_at hl 2 rfl) ?_
  refine k_S (As := [.int v]) (rest := [.int (if ¬ x < 0 ∧ ¬ nI (h * w - 1) < x then 1 else 0), .ref m0]) (pre := []) (mid := []) C0 (c_X7_isThreshold l E v ) (va_cwS 1 hts gX7_duneOf_X7_isThreshold rfl rfl rfl (by decide +kernel) ⟨Nat.le_of_ble_eq_true rfl, Nat.le_of_ble_eq_true rfl⟩) hw rfl (fun _ => []) (fun _ => rfl) rfl hl.1 rfl (Nat.le_of_ble_eq_true rfl) dX7_duneOf_7 ⟨Nat.le_of_ble_eq_true rfl, Nat.le_of_ble_eq_true rfl⟩ (fun r u H locs hq99 hw => ?_)
  subst hq99
  have hw : kW E AA sx (List.flatten [oc m0 7 [.ref A0, .ref V0, .ref Z0, .int sm, .int th, .int pl, .int hz, .ref D0, .ref W0, .ref T0, .int tl, .int tw, .int tc], ac E A0 985 (mA h w wd s0 z st he ke tu ca tr co la)]) H locs := hw
  refine W.eq (g2 := F0 mm 10 ls [.int (if ¬ v < 1 ∧ ¬ 99 < v then 1 else 0), .int (if ¬ x < 0 ∧ ¬ nI (h * w - 1) < x then 1 else 0), .ref m0]) rfl ?_
  refine k_V (As := [.int (if ¬ x < 0 ∧ ¬ nI (h * w - 1) < x then 1 else 0), .int (if ¬ v < 1 ∧ ¬ 99 < v then 1 else 0)]) (rest := []) (pre := []) (mid := [oc m0 7 [.ref A0, .ref V0, .ref Z0, .int sm, .int th, .int pl, .int hz, .ref D0, .ref W0, .ref T0, .int tl, .int tw, .int tc]]) C0 (c_X7_goes_1 l E m0 A0 V0 Z0 D0 W0 T0 sm th pl hz tl tw tc (if ¬ x < 0 ∧ ¬ nI (h * w - 1) < x then 1 else 0) (if ¬ v < 1 ∧ ¬ 99 < v then 1 else 0) (kn10 (hv))) (cwV 2 hts gX7_duneOf_X7_goes rfl rfl rfl (by decide +kernel) ⟨Nat.le_of_ble_eq_true rfl, Nat.le_of_ble_eq_true rfl⟩) hw rfl (fun _ => [oc m0 7 [.ref A0, .ref V0, .ref Z0, .int sm, .int 1, .int pl, .int hz, .ref D0, .ref W0, .ref T0, .int tl, .int tw, .int tc]]) (fun _ => rfl) 0 7 rfl rfl rfl rfl hl.1 rfl (Nat.le_of_ble_eq_true rfl) dX7_duneOf_10 ⟨Nat.le_of_ble_eq_true rfl, Nat.le_of_ble_eq_true rfl⟩ (fun r u H locs hq99 hw => ?_)
  subst r
  have hw : kW E AA sx (List.flatten [oc m0 7 [.ref A0, .ref V0, .ref Z0, .int sm, .int 1, .int pl, .int hz, .ref D0, .ref W0, .ref T0, .int tl, .int tw, .int tc], ac E A0 985 (mA h w wd s0 z st he ke tu ca tr co la)]) H locs := hw
  refine W.eq (g2 := F0 mm 13 ls [.int 0]) rfl ?_
  refine lv_if_ne (tgt := 18) hx hb dX7_duneOf_13 (by decide) (fun c13 => absurd c13 (by decide)) (fun c13 => ?_)
  refine lv_iconst (v := 0) hx hb dX7_duneOf_16 (by decide) ?_
  -- leaf 0
  exact k_iret C0 hr hlk hw () (rfl) (rfl) (Nat.le_of_ble_eq_true rfl) (Nat.le_of_ble_eq_true rfl) dX7_duneOf_17

set_option maxHeartbeats 4000000 in
set_option maxRecDepth 100000 in
theorem c_X7_duneOf_x2 (l : Launch) (E : kE) (m0 : Nat) (A0 : Nat) (V0 : Nat) (Z0 : Nat) (D0 : Nat) (W0 : Nat) (T0 : Nat) (sm : Int32) (th : Int32) (pl : Int32) (hz : Int32) (tl : Int32) (tw : Int32) (tc : Int32) (h : Nat) (w : Nat) (wd : Int32) (s0 : Int32) (z : Int32) (st : Nat → Int32) (he : Nat → Int32) (ke : Nat → Int32) (tu : Nat → Int32) (ca : Nat → Int32) (tr : Nat → Int32) (co : Nat → Int32) (la : Nat → Int32) (k : Nat) (v : Int32) (hG : kG h w) (hc : k < h * w) (hv : ¬ (¬ v < 1 ∧ ¬ 99 < v)) : kC E l yX7_duneOf wsX7_duneOf rmX7_duneOf [.ref m0, .int (nI k), .int v] (List.flatten [oc m0 7 [.ref A0, .ref V0, .ref Z0, .int sm, .int th, .int pl, .int hz, .ref D0, .ref W0, .ref T0, .int tl, .int tw, .int tc], ac E A0 985 (mA h w wd s0 z st he ke tu ca tr co la)]) kI (fun (r : Int32) (_ : Unit) => r = 0) (fun _ => List.flatten [oc m0 7 [.ref A0, .ref V0, .ref Z0, .int sm, .int 2, .int pl, .int hz, .ref D0, .ref W0, .ref T0, .int tl, .int tw, .int tc], ac E A0 985 (mA h w wd s0 z st he ke tu ca tr co la)]) 0 0 := by
  refine k_body (cc := cX7_duneOf) (maxL := 6) (ret := (some .int)) (by decide) rfl (Nat.le_of_ble_eq_true rfl) ?_
  intro pp ee sx mm aa bb me cd H locs AA ls C0 hr hlk hnm hl hw
  obtain ⟨hx, hb, hml, hown, hts⟩ := id C0
  have hl : lv_has ls 6 [(0, .ref m0), (1, .int (nI k)), (2, .int v)] := hl
  have hw : kW E AA sx (List.flatten [oc m0 7 [.ref A0, .ref V0, .ref Z0, .int sm, .int th, .int pl, .int hz, .ref D0, .ref W0, .ref T0, .int tl, .int tw, .int tc], ac E A0 985 (mA h w wd s0 z st he ke tu ca tr co la)]) H locs := hw
  have hn9 := kG_n hG
  have hG9 := id hG
  obtain ⟨hG1, hG2, hG3, hG4⟩ := hG9
  refine lv_aload_n hx hb dX7_duneOf_0 rfl (lv_at hl 0 rfl) ?_
  refine lv_aload_n hx hb dX7_duneOf_1 rfl (lv_at hl 0 rfl) ?_
  refine lv_iload_n hx hb dX7_duneOf_2 rfl (lv_at hl 1 rfl) ?_
  refine k_V (As := [.int (nI k)]) (rest := [.ref m0]) (pre := []) (mid := [oc m0 7 [.ref A0, .ref V0, .ref Z0, .int sm, .int th, .int pl, .int hz, .ref D0, .ref W0, .ref T0, .int tl, .int tw, .int tc], ac E A0 985 (mA h w wd s0 z st he ke tu ca tr co la)]) C0 (c_X7_isCell l E m0 A0 V0 Z0 D0 W0 T0 sm th pl hz tl tw tc h w wd s0 z st he ke tu ca tr co la (nI k) (by first | assumption | omega)) (cwV 1 hts gX7_duneOf_X7_isCell rfl rfl rfl (by decide +kernel) ⟨Nat.le_of_ble_eq_true rfl, Nat.le_of_ble_eq_true rfl⟩) hw rfl (fun _ => [oc m0 7 [.ref A0, .ref V0, .ref Z0, .int sm, .int th, .int pl, .int hz, .ref D0, .ref W0, .ref T0, .int tl, .int tw, .int tc], ac E A0 985 (mA h w wd s0 z st he ke tu ca tr co la)]) (fun _ => rfl) 0 7 rfl rfl rfl rfl hl.1 rfl (Nat.le_of_ble_eq_true rfl) dX7_duneOf_3 ⟨Nat.le_of_ble_eq_true rfl, Nat.le_of_ble_eq_true rfl⟩ (fun r u H locs hq99 hw => ?_)
  subst hq99
  have hw : kW E AA sx (List.flatten [oc m0 7 [.ref A0, .ref V0, .ref Z0, .int sm, .int th, .int pl, .int hz, .ref D0, .ref W0, .ref T0, .int tl, .int tw, .int tc], ac E A0 985 (mA h w wd s0 z st he ke tu ca tr co la)]) H locs := hw
  refine W.eq (g2 := F0 mm 6 ls [.int (if ¬ (nI k) < 0 ∧ ¬ nI (h * w - 1) < (nI k) then 1 else 0), .ref m0]) rfl ?_
  refine lv_iload_n hx hb dX7_duneOf_6 rfl (lv_at hl 2 rfl) ?_
  refine k_S (As := [.int v]) (rest := [.int (if ¬ (nI k) < 0 ∧ ¬ nI (h * w - 1) < (nI k) then 1 else 0), .ref m0]) (pre := []) (mid := []) C0 (c_X7_isThreshold l E v ) (va_cwS 1 hts gX7_duneOf_X7_isThreshold rfl rfl rfl (by decide +kernel) ⟨Nat.le_of_ble_eq_true rfl, Nat.le_of_ble_eq_true rfl⟩) hw rfl (fun _ => []) (fun _ => rfl) rfl hl.1 rfl (Nat.le_of_ble_eq_true rfl) dX7_duneOf_7 ⟨Nat.le_of_ble_eq_true rfl, Nat.le_of_ble_eq_true rfl⟩ (fun r u H locs hq99 hw => ?_)
  subst hq99
  have hw : kW E AA sx (List.flatten [oc m0 7 [.ref A0, .ref V0, .ref Z0, .int sm, .int th, .int pl, .int hz, .ref D0, .ref W0, .ref T0, .int tl, .int tw, .int tc], ac E A0 985 (mA h w wd s0 z st he ke tu ca tr co la)]) H locs := hw
  refine W.eq (g2 := F0 mm 10 ls [.int (if ¬ v < 1 ∧ ¬ 99 < v then 1 else 0), .int (if ¬ (nI k) < 0 ∧ ¬ nI (h * w - 1) < (nI k) then 1 else 0), .ref m0]) rfl ?_
  refine k_V (As := [.int (if ¬ (nI k) < 0 ∧ ¬ nI (h * w - 1) < (nI k) then 1 else 0), .int (if ¬ v < 1 ∧ ¬ 99 < v then 1 else 0)]) (rest := []) (pre := []) (mid := [oc m0 7 [.ref A0, .ref V0, .ref Z0, .int sm, .int th, .int pl, .int hz, .ref D0, .ref W0, .ref T0, .int tl, .int tw, .int tc]]) C0 (c_X7_goes_2 l E m0 A0 V0 Z0 D0 W0 T0 sm th pl hz tl tw tc (if ¬ (nI k) < 0 ∧ ¬ nI (h * w - 1) < (nI k) then 1 else 0) (if ¬ v < 1 ∧ ¬ 99 < v then 1 else 0) (kp10 (⟨nI_pos (by omega), nI_nlt (a := h * w - 1) (b := k) (by omega) (by omega)⟩)) (kn10 (hv))) (cwV 2 hts gX7_duneOf_X7_goes rfl rfl rfl (by decide +kernel) ⟨Nat.le_of_ble_eq_true rfl, Nat.le_of_ble_eq_true rfl⟩) hw rfl (fun _ => [oc m0 7 [.ref A0, .ref V0, .ref Z0, .int sm, .int 2, .int pl, .int hz, .ref D0, .ref W0, .ref T0, .int tl, .int tw, .int tc]]) (fun _ => rfl) 0 7 rfl rfl rfl rfl hl.1 rfl (Nat.le_of_ble_eq_true rfl) dX7_duneOf_10 ⟨Nat.le_of_ble_eq_true rfl, Nat.le_of_ble_eq_true rfl⟩ (fun r u H locs hq99 hw => ?_)
  subst r
  have hw : kW E AA sx (List.flatten [oc m0 7 [.ref A0, .ref V0, .ref Z0, .int sm, .int 2, .int pl, .int hz, .ref D0, .ref W0, .ref T0, .int tl, .int tw, .int tc], ac E A0 985 (mA h w wd s0 z st he ke tu ca tr co la)]) H locs := hw
  refine W.eq (g2 := F0 mm 13 ls [.int 0]) rfl ?_
  refine lv_if_ne (tgt := 18) hx hb dX7_duneOf_13 (by decide) (fun c13 => absurd c13 (by decide)) (fun c13 => ?_)
  refine lv_iconst (v := 0) hx hb dX7_duneOf_16 (by decide) ?_
  -- leaf 0
  exact k_iret C0 hr hlk hw () (rfl) (rfl) (Nat.le_of_ble_eq_true rfl) (Nat.le_of_ble_eq_true rfl) dX7_duneOf_17

abbrev rmX7_shadowHeight : Room := { frames := 3, cells := 0, slots := 0, locals := 74 }
set_option maxHeartbeats 4000000 in
set_option maxRecDepth 100000 in
theorem c_X7_shadowHeight_ok (l : Launch) (E : kE) (m0 : Nat) (A0 : Nat) (V0 : Nat) (Z0 : Nat) (D0 : Nat) (W0 : Nat) (T0 : Nat) (sm : Int32) (th : Int32) (pl : Int32) (hz : Int32) (tl : Int32) (tw : Int32) (tc : Int32) (h : Nat) (w : Nat) (d : Nat) (s0 : Int32) (z : Int32) (st : Nat → Int32) (he : Nat → Int32) (ke : Nat → Int32) (tu : Nat → Int32) (ca : Nat → Int32) (tr : Nat → Int32) (co : Nat → Int32) (la : Nat → Int32) (hG : kG h w) (hd : d < 4) : kC E l yX7_shadowHeight wsX7_shadowHeight rmX7_shadowHeight [.ref m0] (List.flatten [oc m0 7 [.ref A0, .ref V0, .ref Z0, .int sm, .int th, .int pl, .int hz, .ref D0, .ref W0, .ref T0, .int tl, .int tw, .int tc], ac E A0 985 (mA h w (nI d) s0 z st he ke tu ca tr co la)]) kD (fun (r : UInt64) (_ : Unit) => r = shM h w d he) (fun _ => List.flatten [oc m0 7 [.ref A0, .ref V0, .ref Z0, .int sm, .int 0, .int pl, .int hz, .ref D0, .ref W0, .ref T0, .int tl, .int tw, .int tc], ac E A0 985 (mA h w (nI d) s0 z st he ke tu ca tr co la)]) 0 0 := by
  refine k_body (cc := cX7_shadowHeight) (maxL := 5) (ret := (some .double)) (by decide) rfl (Nat.le_of_ble_eq_true rfl) ?_
  intro pp ee sx mm aa bb me cd H locs AA ls C0 hr hlk hnm hl hw
  obtain ⟨hx, hb, hml, hown, hts⟩ := id C0
  have hl : lv_has ls 5 [(0, .ref m0)] := hl
  have hw : kW E AA sx (List.flatten [oc m0 7 [.ref A0, .ref V0, .ref Z0, .int sm, .int th, .int pl, .int hz, .ref D0, .ref W0, .ref T0, .int tl, .int tw, .int tc], ac E A0 985 (mA h w (nI d) s0 z st he ke tu ca tr co la)]) H locs := hw
  have hn9 := kG_n hG
  have hG9 := id hG
  obtain ⟨hG1, hG2, hG3, hG4⟩ := hG9
  have hinX7 : ∀ w ∈ u_ws RX7 TX7 13, w ∈ wsX7_shadowHeight := by decide +kernel
  refine lv_aload_n hx hb dX7_shadowHeight_0 rfl (lv_at hl 0 rfl) ?_
  refine lv_iconst (v := 0) hx hb dX7_shadowHeight_1 (by decide) ?_
  refine k_put (pre := []) C0 hw hinX7 tyX7 tyX7_ok nmX7 rfl 4 (by decide) (hts (.fieldLink RX7 32 "SlabDunesModel" "thrown" "I") (by decide +kernel)) rfl rfl (ty := .int) (by decide +kernel) rfl rfl (Nat.le_of_ble_eq_true rfl) dX7_shadowHeight_2 (fun H locs hw => ?_)
  have hw : kW E AA sx (List.flatten [oc m0 7 [.ref A0, .ref V0, .ref Z0, .int sm, .int 0, .int pl, .int hz, .ref D0, .ref W0, .ref T0, .int tl, .int tw, .int tc], ac E A0 985 (mA h w (nI d) s0 z st he ke tu ca tr co la)]) H locs := hw
  refine lv_iconst (v := 0) hx hb dX7_shadowHeight_5 (by decide) ?_
  refine lv_istore_n (lv' := [(1, .int 0), (0, .ref m0)]) hx hb dX7_shadowHeight_6 rfl hl (by decide) rfl (fun ls hl => ?_)
  refine lv_iconst (v := 0) hx hb dX7_shadowHeight_7 (by decide) ?_
  refine lv_istore_n (lv' := [(2, .int 0), (1, .int 0), (0, .ref m0)]) hx hb dX7_shadowHeight_8 rfl hl (by decide) rfl (fun ls hl => ?_)
  refine lv_iconst (v := 0) hx hb dX7_shadowHeight_9 (by decide) ?_
  refine lv_istore_n (lv' := [(3, .int 0), (2, .int 0), (1, .int 0), (0, .ref m0)]) hx hb dX7_shadowHeight_10 rfl hl (by decide) rfl (fun ls hl => ?_)
  have loop11 : ∀ (nn : Nat) (i : Nat) (n9 : Nat) (x : Int32), (i ≤ h * w) → (x = shS h w d he i) → (n9 = shN h w d he i) → h * w - i < nn → ∀ (H : Heap) (locs : List Loc) (ls : Array Slot), lv_has ls 5 [(3, .int (nI i)), (2, .int (nI n9)), (1, .int x), (0, .ref m0)] → kW E AA sx (List.flatten [oc m0 7 [.ref A0, .ref V0, .ref Z0, .int sm, .int 0, .int pl, .int hz, .ref D0, .ref W0, .ref T0, .int tl, .int tw, .int tc], ac E A0 985 (mA h w (nI d) s0 z st he ke tu ca tr co la)]) H locs → W pp l ee rmX7_shadowHeight sx mm aa bb me cd H locs 0 0 (kEnd E kD (fun (r : UInt64) (_ : Unit) => r = shM h w d he) (fun _ => List.flatten [oc m0 7 [.ref A0, .ref V0, .ref Z0, .int sm, .int 0, .int pl, .int hz, .ref D0, .ref W0, .ref T0, .int tl, .int tw, .int tc], ac E A0 985 (mA h w (nI d) s0 z st he ke tu ca tr co la)]) bb aa sx AA 0 0) (F0 mm 11 ls []) := by
    intro nn
    induction nn with
    | zero => intro i n9 x hi hxx hnn hm11; exact absurd hm11 (Nat.not_lt_zero _)
    | succ nn ih11 =>
      intro i n9 x hi hxx hnn hm11 H locs ls hl hw
      have hnl9 := shN_le h w d he i
      refine lv_iload_n hx hb dX7_shadowHeight_11 rfl (lv_at hl 0 rfl) ?_
      refine lv_aload_n hx hb dX7_shadowHeight_12 rfl (lv_at hl 3 rfl) ?_
      refine k_V (As := []) (rest := [.int (nI i)]) (pre := []) (mid := [oc m0 7 [.ref A0, .ref V0, .ref Z0, .int sm, .int 0, .int pl, .int hz, .ref D0, .ref W0, .ref T0, .int tl, .int tw, .int tc], ac E A0 985 (mA h w (nI d) s0 z st he ke tu ca tr co la)]) C0 (c_X7_cells l E m0 A0 V0 Z0 D0 W0 T0 sm 0 pl hz tl tw tc h w (nI d) s0 z st he ke tu ca tr co la ) (cwV 0 hts gX7_shadowHeight_X7_cells rfl rfl rfl (by decide +kernel) ⟨Nat.le_of_ble_eq_true rfl, Nat.le_of_ble_eq_true rfl⟩) hw rfl (fun _ => [oc m0 7 [.ref A0, .ref V0, .ref Z0, .int sm, .int 0, .int pl, .int hz, .ref D0, .ref W0, .ref T0, .int tl, .int tw, .int tc], ac E A0 985 (mA h w (nI d) s0 z st he ke tu ca tr co la)]) (fun _ => rfl) 0 7 rfl rfl rfl rfl hl.1 rfl (Nat.le_of_ble_eq_true rfl) dX7_shadowHeight_13 ⟨Nat.le_of_ble_eq_true rfl, Nat.le_of_ble_eq_true rfl⟩ (fun r u H locs hq99 hw => ?_)
      subst hq99
      have hw : kW E AA sx (List.flatten [oc m0 7 [.ref A0, .ref V0, .ref Z0, .int sm, .int 0, .int pl, .int hz, .ref D0, .ref W0, .ref T0, .int tl, .int tw, .int tc], ac E A0 985 (mA h w (nI d) s0 z st he ke tu ca tr co la)]) H locs := hw
      refine W.eq (g2 := F0 mm 16 ls [.int (nI (h * w)), .int (nI i)]) rfl ?_
      refine lv_icmp_ge (tgt := 63) hx hb dX7_shadowHeight_16 (by decide) (fun c16 => ?_) (fun c16 => ?_)
      · have c16 : (h * w) ≤ i := (nI_leI (a := (h * w)) (b := i) (by omega) (by omega)).mp c16
        refine lv_iload_n hx hb dX7_shadowHeight_63 rfl (lv_at hl 1 rfl) ?_
        refine lv_if_ne (tgt := 71) hx hb dX7_shadowHeight_64 (by decide) (fun c64 => ?_) (fun c64 => ?_)
        · have c64 : ¬ n9 = 0 := fun h99 => c64 ((nI_eq (a := n9) (b := 0) (by omega) (by omega)).mpr h99)
          refine lv_iload_n hx hb dX7_shadowHeight_71 rfl (lv_at hl 2 rfl) ?_
          refine lv_i2d hx hb dX7_shadowHeight_72 ?_
          refine lv_iload_n hx hb dX7_shadowHeight_73 rfl (lv_at hl 1 rfl) ?_
          refine lv_i2d hx hb dX7_shadowHeight_74 ?_
          refine lv_ddiv hx hb dX7_shadowHeight_75 (kdiv_n (nI_ne0 (by omega) (by omega))) ?_
          -- leaf 0
          exact k_dret C0 hr hlk hw () (rfl) (by unfold shM; rw [show h * w = i by omega, ← hnn, ← hxx, if_neg (by omega)]) (Nat.le_of_ble_eq_true rfl) (Nat.le_of_ble_eq_true rfl) dX7_shadowHeight_76
        · have c64 : n9 = 0 := (nI_eq (a := n9) (b := 0) (by omega) (by omega)).mp c64
          refine lv_dconst0 hx hb dX7_shadowHeight_67 ?_
          refine lv_goto (tgt := 76) hx hb dX7_shadowHeight_68 (by decide) ?_
          -- leaf 1
          exact k_dret C0 hr hlk hw () (rfl) (by unfold shM; rw [show h * w = i by omega, ← hnn, if_pos (by omega)]) (Nat.le_of_ble_eq_true rfl) (Nat.le_of_ble_eq_true rfl) dX7_shadowHeight_76
      · have c16 : ¬ (h * w) ≤ i := fun h99 => c16 ((nI_leI (a := (h * w)) (b := i) (by omega) (by omega)).mpr h99)
        refine lv_aload_n hx hb dX7_shadowHeight_19 rfl (lv_at hl 3 rfl) ?_
        refine lv_iload_n hx hb dX7_shadowHeight_20 rfl (lv_at hl 0 rfl) ?_
        refine k_V (As := [.int (nI i)]) (rest := []) (pre := []) (mid := [oc m0 7 [.ref A0, .ref V0, .ref Z0, .int sm, .int 0, .int pl, .int hz, .ref D0, .ref W0, .ref T0, .int tl, .int tw, .int tc], ac E A0 985 (mA h w (nI d) s0 z st he ke tu ca tr co la)]) C0 (c_X7_isInShadow l E m0 A0 V0 Z0 D0 W0 T0 sm 0 pl hz tl tw tc h w d s0 z st he ke tu ca tr co la i (by first | assumption | omega) (by first | assumption | omega) (by first | assumption | omega)) (cwV 1 hts gX7_shadowHeight_X7_isInShadow rfl rfl rfl (by decide +kernel) ⟨Nat.le_of_ble_eq_true rfl, Nat.le_of_ble_eq_true rfl⟩) hw rfl (fun _ => [oc m0 7 [.ref A0, .ref V0, .ref Z0, .int sm, .int 0, .int pl, .int hz, .ref D0, .ref W0, .ref T0, .int tl, .int tw, .int tc], ac E A0 985 (mA h w (nI d) s0 z st he ke tu ca tr co la)]) (fun _ => rfl) 0 7 rfl rfl rfl rfl hl.1 rfl (Nat.le_of_ble_eq_true rfl) dX7_shadowHeight_21 ⟨Nat.le_of_ble_eq_true rfl, Nat.le_of_ble_eq_true rfl⟩ (fun r u H locs hq99 hw => ?_)
        subst hq99
        have hw : kW E AA sx (List.flatten [oc m0 7 [.ref A0, .ref V0, .ref Z0, .int sm, .int 0, .int pl, .int hz, .ref D0, .ref W0, .ref T0, .int tl, .int tw, .int tc], ac E A0 985 (mA h w (nI d) s0 z st he ke tu ca tr co la)]) H locs := hw
        refine W.eq (g2 := F0 mm 24 ls [.int (if shd h w d he i then 1 else 0)]) rfl ?_
        refine lv_istore (lv' := [(4, .int (if shd h w d he i then 1 else 0)), (3, .int (nI i)), (2, .int (nI n9)), (1, .int x), (0, .ref m0)]) hx hb dX7_shadowHeight_24 hl (by decide) rfl (fun ls hl => ?_)
        refine lv_iload_n hx hb dX7_shadowHeight_26 rfl (lv_at hl 3 rfl) ?_
        refine lv_iload hx hb dX7_shadowHeight_27 (lv_at hl 0 rfl) ?_
        refine lv_if_eq (tgt := 41) hx hb dX7_shadowHeight_29 (by decide) (fun c29 => ?_) (fun c29 => ?_)
        · have c29 := kb10t c29
          refine lv_iconst (v := 0) hx hb dX7_shadowHeight_41 (by decide) ?_
          refine lv_iadd hx hb dX7_shadowHeight_42 ?_
          refine W.eq (g2 := F0 mm 43 ls [.int x]) (congrArg (fun z9 => F0 mm 43 ls [.int z9]) (show (x + 0 : Int32) = x from Int32.add_zero _)) ?_
          refine lv_istore_n (lv' := [(1, .int x), (4, .int (if shd h w d he i then 1 else 0)), (3, .int (nI i)), (2, .int (nI n9)), (0, .ref m0)]) hx hb dX7_shadowHeight_43 rfl hl (by decide) rfl (fun ls hl => ?_)
          refine lv_iload_n hx hb dX7_shadowHeight_44 rfl (lv_at hl 3 rfl) ?_
          refine lv_iload hx hb dX7_shadowHeight_45 (lv_at hl 1 rfl) ?_
          refine lv_if_eq (tgt := 54) hx hb dX7_shadowHeight_47 (by decide) (fun c47 => ?_) (fun c47 => ?_)
          · have c47 := kb10t c47
            refine lv_iconst (v := 0) hx hb dX7_shadowHeight_54 (by decide) ?_
            refine lv_iadd hx hb dX7_shadowHeight_55 ?_
            refine W.eq (g2 := F0 mm 56 ls [.int (nI n9)]) (congrArg (fun z9 => F0 mm 56 ls [.int z9]) (show ((nI n9) + 0 : Int32) = nI n9 from Int32.add_zero _)) ?_
            refine lv_istore_n (lv' := [(2, .int (nI n9)), (1, .int x), (4, .int (if shd h w d he i then 1 else 0)), (3, .int (nI i)), (0, .ref m0)]) hx hb dX7_shadowHeight_56 rfl hl (by decide) rfl (fun ls hl => ?_)
            refine lv_iinc (v := nI (i + 1)) (lv' := [(3, .int (nI (i + 1))), (2, .int (nI n9)), (1, .int x), (4, .int (if shd h w d he i then 1 else 0)), (0, .ref m0)]) hx hb dX7_shadowHeight_57 hl (k := 3) rfl (nI_1 _) (by decide) rfl (fun ls hl => ?_)
            refine lv_goto (tgt := 11) hx hb dX7_shadowHeight_60 (by decide) ?_
            -- back 0
            exact ih11 (i + 1) n9 x (by first | assumption | omega) (by rw [hxx, shS_s, if_neg c29]) (by rw [hnn, shN_s, if_neg c29]) (by omega) H _ ls (lv_sub hl [0, 1, 2, 4] rfl) hw
          · have c47 := kb10f c47
            refine lv_iconst (v := 1) hx hb dX7_shadowHeight_50 (by decide) ?_
            refine lv_goto (tgt := 55) hx hb dX7_shadowHeight_51 (by decide) ?_
            refine lv_iadd hx hb dX7_shadowHeight_55 ?_
            refine W.eq (g2 := F0 mm 56 ls [.int (nI (n9 + 1))]) (congrArg (fun z9 => F0 mm 56 ls [.int z9]) (show ((nI n9) + 1 : Int32) = nI (n9 + 1) from nI_1 _)) ?_
            refine lv_istore_n (lv' := [(2, .int (nI (n9 + 1))), (1, .int x), (4, .int (if shd h w d he i then 1 else 0)), (3, .int (nI i)), (0, .ref m0)]) hx hb dX7_shadowHeight_56 rfl hl (by decide) rfl (fun ls hl => ?_)
            refine lv_iinc (v := nI (i + 1)) (lv' := [(3, .int (nI (i + 1))), (2, .int (nI (n9 + 1))), (1, .int x), (4, .int (if shd h w d he i then 1 else 0)), (0, .ref m0)]) hx hb dX7_shadowHeight_57 hl (k := 3) rfl (nI_1 _) (by decide) rfl (fun ls hl => ?_)
            refine lv_goto (tgt := 11) hx hb dX7_shadowHeight_60 (by decide) ?_
            -- back 1
            exact ih11 (i + 1) (n9 + 1) x (by first | assumption | omega) (absurd c47 c29) (absurd c47 c29) (by omega) H _ ls (lv_sub hl [0, 1, 2, 4] rfl) hw
        · have c29 := kb10f c29
          refine lv_aload_n hx hb dX7_shadowHeight_32 rfl (lv_at hl 4 rfl) ?_
          refine lv_iload_n hx hb dX7_shadowHeight_33 rfl (lv_at hl 1 rfl) ?_
          refine lv_iconst (v := 0) hx hb dX7_shadowHeight_34 (by decide) ?_
          refine k_V (As := [.int (nI i), .int 0]) (rest := [.int x]) (pre := []) (mid := [oc m0 7 [.ref A0, .ref V0, .ref Z0, .int sm, .int 0, .int pl, .int hz, .ref D0, .ref W0, .ref T0, .int tl, .int tw, .int tc], ac E A0 985 (mA h w (nI d) s0 z st he ke tu ca tr co la)]) C0 (c_X7_of0 l E m0 A0 V0 Z0 D0 W0 T0 sm 0 pl hz tl tw tc h w (nI d) s0 z st he ke tu ca tr co la i (by first | assumption | omega) (by first | assumption | omega)) (cwV 2 hts gX7_shadowHeight_X7_of rfl rfl rfl (by decide +kernel) ⟨Nat.le_of_ble_eq_true rfl, Nat.le_of_ble_eq_true rfl⟩) hw rfl (fun _ => [oc m0 7 [.ref A0, .ref V0, .ref Z0, .int sm, .int 0, .int pl, .int hz, .ref D0, .ref W0, .ref T0, .int tl, .int tw, .int tc], ac E A0 985 (mA h w (nI d) s0 z st he ke tu ca tr co la)]) (fun _ => rfl) 0 7 rfl rfl rfl rfl hl.1 rfl (Nat.le_of_ble_eq_true rfl) dX7_shadowHeight_35 ⟨Nat.le_of_ble_eq_true rfl, Nat.le_of_ble_eq_true rfl⟩ (fun r u H locs hq99 hw => ?_)
          subst hq99
          have hw : kW E AA sx (List.flatten [oc m0 7 [.ref A0, .ref V0, .ref Z0, .int sm, .int 0, .int pl, .int hz, .ref D0, .ref W0, .ref T0, .int tl, .int tw, .int tc], ac E A0 985 (mA h w (nI d) s0 z st he ke tu ca tr co la)]) H locs := hw
          refine W.eq (g2 := F0 mm 38 ls [.int (he i), .int x]) rfl ?_
          refine lv_goto (tgt := 42) hx hb dX7_shadowHeight_38 (by decide) ?_
          refine lv_iadd hx hb dX7_shadowHeight_42 ?_
          refine W.eq (g2 := F0 mm 43 ls [.int (x + (he i))]) (congrArg (fun z9 => F0 mm 43 ls [.int z9]) (show (x + (he i) : Int32) = x + (he i) from rfl)) ?_
          refine lv_istore_n (lv' := [(1, .int (x + (he i))), (4, .int (if shd h w d he i then 1 else 0)), (3, .int (nI i)), (2, .int (nI n9)), (0, .ref m0)]) hx hb dX7_shadowHeight_43 rfl hl (by decide) rfl (fun ls hl => ?_)
          refine lv_iload_n hx hb dX7_shadowHeight_44 rfl (lv_at hl 3 rfl) ?_
          refine lv_iload hx hb dX7_shadowHeight_45 (lv_at hl 1 rfl) ?_
          refine lv_if_eq (tgt := 54) hx hb dX7_shadowHeight_47 (by decide) (fun c47 => ?_) (fun c47 => ?_)
          · have c47 := kb10t c47
            refine lv_iconst (v := 0) hx hb dX7_shadowHeight_54 (by decide) ?_
            refine lv_iadd hx hb dX7_shadowHeight_55 ?_
            refine W.eq (g2 := F0 mm 56 ls [.int (nI n9)]) (congrArg (fun z9 => F0 mm 56 ls [.int z9]) (show ((nI n9) + 0 : Int32) = nI n9 from Int32.add_zero _)) ?_
            refine lv_istore_n (lv' := [(2, .int (nI n9)), (1, .int (x + (he i))), (4, .int (if shd h w d he i then 1 else 0)), (3, .int (nI i)), (0, .ref m0)]) hx hb dX7_shadowHeight_56 rfl hl (by decide) rfl (fun ls hl => ?_)
            refine lv_iinc (v := nI (i + 1)) (lv' := [(3, .int (nI (i + 1))), (2, .int (nI n9)), (1, .int (x + (he i))), (4, .int (if shd h w d he i then 1 else 0)), (0, .ref m0)]) hx hb dX7_shadowHeight_57 hl (k := 3) rfl (nI_1 _) (by decide) rfl (fun ls hl => ?_)
            refine lv_goto (tgt := 11) hx hb dX7_shadowHeight_60 (by decide) ?_
            -- back 2
            exact ih11 (i + 1) n9 (x + (he i)) (by first | assumption | omega) (absurd c29 c47) (absurd c29 c47) (by omega) H _ ls (lv_sub hl [0, 1, 2, 4] rfl) hw
          · have c47 := kb10f c47
            refine lv_iconst (v := 1) hx hb dX7_shadowHeight_50 (by decide) ?_
            refine lv_goto (tgt := 55) hx hb dX7_shadowHeight_51 (by decide) ?_
            refine lv_iadd hx hb dX7_shadowHeight_55 ?_
            refine W.eq (g2 := F0 mm 56 ls [.int (nI (n9 + 1))]) (congrArg (fun z9 => F0 mm 56 ls [.int z9]) (show ((nI n9) + 1 : Int32) = nI (n9 + 1) from nI_1 _)) ?_
            refine lv_istore_n (lv' := [(2, .int (nI (n9 + 1))), (1, .int (x + (he i))), (4, .int (if shd h w d he i then 1 else 0)), (3, .int (nI i)), (0, .ref m0)]) hx hb dX7_shadowHeight_56 rfl hl (by decide) rfl (fun ls hl => ?_)
            refine lv_iinc (v := nI (i + 1)) (lv' := [(3, .int (nI (i + 1))), (2, .int (nI (n9 + 1))), (1, .int (x + (he i))), (4, .int (if shd h w d he i then 1 else 0)), (0, .ref m0)]) hx hb dX7_shadowHeight_57 hl (k := 3) rfl (nI_1 _) (by decide) rfl (fun ls hl => ?_)
            refine lv_goto (tgt := 11) hx hb dX7_shadowHeight_60 (by decide) ?_
            -- back 3
            exact ih11 (i + 1) (n9 + 1) (x + (he i)) (by first | assumption | omega) (by rw [hxx, shS_s, if_pos c29]) (by rw [hnn, shN_s, if_pos c29]) (by omega) H _ ls (lv_sub hl [0, 1, 2, 4] rfl) hw
  exact loop11 ((h * w - 0) + 1) 0 0 0 (by first | assumption | omega) (rfl) (rfl) (Nat.lt_succ_self _) H _ ls (lv_sub hl [0, 1, 2, 3] rfl) hw
