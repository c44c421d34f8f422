/-! THE MODEL: relief, digest, trials -/
theorem nbr_31i {h w c : Nat} (hG : kG h w) (hc : c < h * w) : nbr h w (nbr h w c 1) 3 = c ∧ nbr h w (nbr h w c 3) 1 = c ∧ nbr h w (nbr h w c 2) 0 = c ∧ nbr h w (nbr h w c 0) 2 = c := by
  have h3 := hG.1
  have w3 := hG.2.2.1
  have e3 : ∀ x, emN w x < w := emN_lt (by omega)
  have er : c % w < w := Nat.mod_lt _ (by omega)
  have n1 := nbr_p hG (nbr_lt 1 hG hc)
  have n3 := nbr_p hG (nbr_lt 3 hG hc)
  have n2 := nbr_p hG (nbr_lt 2 hG hc)
  have n0 := nbr_p hG (nbr_lt 0 hG hc)
  have n := nbr_p hG hc
  refine ⟨?_, ?_, ?_, ?_⟩
  · rw [n1.2.2.2, n.2.1, kpos_d (e3 _), kpos_m (e3 _), emN_em (by omega), show ((c % w : Nat) : Int) + 1 + -1 = ((c % w : Nat) : Int) by omega, emN_in er]
    exact kpos_e w c
  · rw [n3.2.1, n.2.2.2, kpos_d (e3 _), kpos_m (e3 _), emN_em (by omega), show ((c % w : Nat) : Int) + -1 + 1 = ((c % w : Nat) : Int) by omega, emN_in er]
    exact kpos_e w c
  · rw [n2.1, n.2.2.1, kpos_d er, kpos_m er, emN_em (by omega), show ((c / w : Nat) : Int) + 1 + -1 = ((c / w : Nat) : Int) by omega, emN_in (kdiv_lt hc)]
    exact kpos_e w c
  · rw [n0.2.2.1, n.1, kpos_d er, kpos_m er, emN_em (by omega), show ((c / w : Nat) : Int) + -1 + 1 = ((c / w : Nat) : Int) by omega, emN_in (kdiv_lt hc)]
    exact kpos_e w c
def sgI (h w : Nat) (f : Nat → Int32) (c : Nat) (s : Int32) : Nat → Int32
  | 0 => s
  | j + 1 => kmax (sgI h w f c s j) (f c - f (nbr h w c j))
def sgT (h w : Nat) (f : Nat → Int32) : Nat → Int32
  | 0 => 0
  | n + 1 => sgI h w f n (sgT h w f n) 4
theorem sgI_s (h w : Nat) (f : Nat → Int32) (c : Nat) (s : Int32) (j : Nat) : sgI h w f c s (j + 1) = kmax (sgI h w f c s j) (f c - f (nbr h w c j)) := rfl
theorem sgT_s (h w : Nat) (f : Nat → Int32) (n : Nat) : sgT h w f (n + 1) = sgI h w f n (sgT h w f n) 4 := rfl
theorem stpI_s (h w : Nat) (f : Nat → Int32) (n : Nat) : stpI h w f (n + 1) = kmax (stpI h w f n) (kmax (kabs (f n - f (nbr h w n 1))) (kabs (f n - f (nbr h w n 2)))) := rfl
theorem kmax_le {x y z : Int32} : kmax x y ≤ z ↔ x ≤ z ∧ y ≤ z := by
  unfold kmax
  by_cases h : x < y
  · rw [if_pos h]
    exact ⟨fun h1 => ⟨Int32.le_trans (Int32.le_of_lt h) h1, h1⟩, fun h1 => h1.2⟩
  · rw [if_neg h]
    exact ⟨fun h1 => ⟨h1, Int32.le_trans (Int32.not_lt.mp h) h1⟩, fun h1 => h1.1⟩
theorem sgI_le {h w c : Nat} {f : Nat → Int32} {s z : Int32} : ∀ n, sgI h w f c s n ≤ z ↔ s ≤ z ∧ ∀ j, j < n → f c - f (nbr h w c j) ≤ z
  | 0 => ⟨fun h1 => ⟨h1, fun _ hj => absurd hj (Nat.not_lt_zero _)⟩, fun h1 => h1.1⟩
  | n + 1 => by
    rw [sgI_s, kmax_le, sgI_le n]
    constructor
    · rintro ⟨⟨h1, h2⟩, h3⟩
      refine ⟨h1, fun j hj => ?_⟩
      by_cases h9 : j = n
      · rw [h9]; exact h3
      · exact h2 j (by omega)
    · rintro ⟨h1, h2⟩
      exact ⟨⟨h1, fun j hj => h2 j (by omega)⟩, h2 n (by omega)⟩
theorem sgT_le {h w : Nat} {f : Nat → Int32} {z : Int32} : ∀ n, sgT h w f n ≤ z ↔ 0 ≤ z ∧ ∀ c, c < n → ∀ j, j < 4 → f c - f (nbr h w c j) ≤ z
  | 0 => ⟨fun h1 => ⟨h1, fun _ hj => absurd hj (Nat.not_lt_zero _)⟩, fun h1 => h1.1⟩
  | n + 1 => by
    rw [sgT_s, sgI_le, sgT_le n]
    constructor
    · rintro ⟨⟨h1, h2⟩, h3⟩
      refine ⟨h1, fun c hc => ?_⟩
      by_cases h9 : c = n
      · rw [h9]; exact h3
      · exact h2 c (by omega)
    · rintro ⟨h1, h2⟩
      exact ⟨⟨h1, fun c hc => h2 c (by omega)⟩, h2 n (by omega)⟩
theorem stpI_le {h w : Nat} {f : Nat → Int32} {z : Int32} : ∀ n, stpI h w f n ≤ z ↔ 0 ≤ z ∧ ∀ c, c < n → kabs (f c - f (nbr h w c 1)) ≤ z ∧ kabs (f c - f (nbr h w c 2)) ≤ z
  | 0 => ⟨fun h1 => ⟨h1, fun _ hj => absurd hj (Nat.not_lt_zero _)⟩, fun h1 => h1.1⟩
  | n + 1 => by
    rw [stpI_s, kmax_le, kmax_le, stpI_le n]
    constructor
    · rintro ⟨⟨h1, h2⟩, h3⟩
      refine ⟨h1, fun c hc => ?_⟩
      by_cases h9 : c = n
      · rw [h9]; exact h3
      · exact h2 c (by omega)
    · rintro ⟨h1, h2⟩
      exact ⟨⟨h1, fun c hc => h2 c (by omega)⟩, h2 n (by omega)⟩
theorem kabs_le {a b : Nat} {z : Int32} (ha : a < 1000000) (hb : b < 1000000) (hz : 0 ≤ z) : kabs (nI a - nI b) ≤ z ↔ nI a - nI b ≤ z ∧ nI b - nI a ≤ z := by
  have k1 := (klt (a := a) (b := b) (s := z) ha hb).2
  have k2 := (klt (a := b) (b := a) (s := z) hb ha).2
  have e0 : (0 : Int32).toInt = 0 := rfl
  have hz2 : 0 ≤ z.toInt := by
    have := Int32.le_iff_toInt_le.mp hz
    rw [e0] at this
    exact this
  unfold kabs
  by_cases h : 0 ≤ nI a - nI b
  · rw [if_pos h]
    have h2 := Int32.le_iff_toInt_le.mp h
    rw [e0, pk_sub_toInt (by omega) (by omega)] at h2
    exact ⟨fun h1 => ⟨h1, k2.mpr (by omega)⟩, fun h1 => h1.1⟩
  · have h2 : ¬ (0 : Int) ≤ (a : Int) - b := fun h9 => h (Int32.le_iff_toInt_le.mpr (by rw [e0, pk_sub_toInt (by omega) (by omega)]; exact h9))
    rw [if_neg h, Int32.zero_sub, Int32.neg_sub]
    exact ⟨fun h1 => ⟨k1.mpr (by omega), h1⟩, fun h1 => h1.2⟩
theorem sg_st {h w B : Nat} {f : Nat → Int32} (hG : kG h w) (hH : hI (h * w) f B) (hB : B < 1000000) : sgT h w f (h * w) = stpI h w f (h * w) := by
  have key : ∀ z, sgT h w f (h * w) ≤ z ↔ stpI h w f (h * w) ≤ z := by
    intro z
    rw [sgT_le, stpI_le]
    refine and_congr_right fun hz => ?_
    have ka : ∀ x y, x < h * w → y < h * w → (kabs (f x - f y) ≤ z ↔ f x - f y ≤ z ∧ f y - f x ≤ z) := by
      intro x y hx hy
      obtain ⟨u, hu, eu⟩ := hI_v hH hx
      obtain ⟨v, hv, ev⟩ := hI_v hH hy
      rw [eu, ev]
      exact kabs_le (by omega) (by omega) hz
    constructor
    · intro h1 c hc
      have i1 := (nbr_31i hG hc).1
      have i2 := (nbr_31i hG hc).2.2.1
      refine ⟨(ka c _ hc (nbr_lt 1 hG hc)).mpr ⟨h1 c hc 1 (by decide), ?_⟩, (ka c _ hc (nbr_lt 2 hG hc)).mpr ⟨h1 c hc 2 (by decide), ?_⟩⟩
      · have h2 := h1 (nbr h w c 1) (nbr_lt 1 hG hc) 3 (by decide)
        rw [i1] at h2
        exact h2
      · have h2 := h1 (nbr h w c 2) (nbr_lt 2 hG hc) 0 (by decide)
        rw [i2] at h2
        exact h2
    · intro h1 c hc j hj
      have i3 := (nbr_31i hG hc).2.1
      have i0 := (nbr_31i hG hc).2.2.2
      rcases (show j = 0 ∨ j = 1 ∨ j = 2 ∨ j = 3 by omega) with rfl | rfl | rfl | rfl
      · have h2 := ((ka _ _ (nbr_lt 0 hG hc) (nbr_lt 2 hG (nbr_lt 0 hG hc))).mp (h1 (nbr h w c 0) (nbr_lt 0 hG hc)).2).2
        rw [i0] at h2
        exact h2
      · exact ((ka _ _ hc (nbr_lt 1 hG hc)).mp (h1 c hc).1).1
      · exact ((ka _ _ hc (nbr_lt 2 hG hc)).mp (h1 c hc).2).1
      · have h2 := ((ka _ _ (nbr_lt 3 hG hc) (nbr_lt 1 hG (nbr_lt 3 hG hc))).mp (h1 (nbr h w c 3) (nbr_lt 3 hG hc)).1).2
        rw [i3] at h2
        exact h2
  exact Int32.le_antisymm ((key _).mpr (Int32.le_refl _)) ((key _).mp (Int32.le_refl _))
theorem hiC_0 (f : Nat → Int32) : hiC f 0 = 0 := rfl
theorem knm1 {n : Nat} (h : n < 2147483648) : ¬ nI n ≤ -1 := by
  intro h1
  have h2 := Int32.le_iff_toInt_le.mp h1
  rw [nI_toInt h] at h2
  have e1 : (-1 : Int32).toInt = -1 := rfl
  rw [e1] at h2
  omega
abbrev rmX7_reliefOf : Room := { frames := 2, cells := 0, slots := 0, locals := 49 }
set_option maxHeartbeats 4000000 in
set_option maxRecDepth 100000 in
theorem c_X7_reliefOf (l : Launch) (E : kE) (m0 : Nat) (A0 : Nat) (V0 : Nat) (Z0 : Nat) (D0 : Nat) (W0 : Nat) (T0 : Nat) (sm : Int32) (th : Int32) (pl : Int32) (hz : Int32) (tl : Int32) (tw : Int32) (tc : Int32) (h : Nat) (w : Nat) (wd : Int32) (s0 : Int32) (z : Int32) (st : Nat → Int32) (he : Nat → Int32) (ke : Nat → Int32) (tu : Nat → Int32) (ca : Nat → Int32) (tr : Nat → Int32) (co : Nat → Int32) (la : Nat → Int32) (j9 : Nat) (B : Nat) (hG : kG h w) (hj9 : j9 < 4) (hH : hI (h * w) he B) (hB : B < 1000000) : kC E l yX7_reliefOf wsX7_reliefOf rmX7_reliefOf [.ref m0, .int (nI j9)] (List.flatten [oc m0 7 [.ref A0, .ref V0, .ref Z0, .int sm, .int th, .int pl, .int hz, .ref D0, .ref W0, .ref T0, .int tl, .int tw, .int tc], ac E A0 985 (mA h w wd s0 z st he ke tu ca tr co la)]) kI (fun (r : Int32) (_ : Unit) => r = rlfN h w he j9) (fun _ => List.flatten [oc m0 7 [.ref A0, .ref V0, .ref Z0, .int sm, .int th, .int pl, .int hz, .ref D0, .ref W0, .ref T0, .int tl, .int tw, .int tc], ac E A0 985 (mA h w wd s0 z st he ke tu ca tr co la)]) 0 0 := by
  refine k_body (cc := cX7_reliefOf) (maxL := 8) (ret := (some .int)) (by decide) rfl (Nat.le_of_ble_eq_true rfl) ?_
  intro pp ee sx mm aa bb me cd H locs AA ls C0 hr hlk hnm hl hw
  obtain ⟨hx, hb, hml, hown, hts⟩ := id C0
  have hl : lv_has ls 8 [(0, .ref m0), (1, .int (nI j9))] := hl
  have hw : kW E AA sx (List.flatten [oc m0 7 [.ref A0, .ref V0, .ref Z0, .int sm, .int th, .int pl, .int hz, .ref D0, .ref W0, .ref T0, .int tl, .int tw, .int tc], ac E A0 985 (mA h w wd s0 z st he ke tu ca tr co la)]) H locs := hw
  have hn9 := kG_n hG
  have hG9 := id hG
  obtain ⟨hG1, hG2, hG3, hG4⟩ := hG9
  refine lv_iconst (v := 0) hx hb dX7_reliefOf_0 (by decide) ?_
  refine lv_istore_n (lv' := [(2, .int 0), (0, .ref m0), (1, .int (nI j9))]) hx hb dX7_reliefOf_1 rfl hl (by decide) rfl (fun ls hl => ?_)
  refine lv_iconst (v := 0) hx hb dX7_reliefOf_2 (by decide) ?_
  refine lv_istore_n (lv' := [(3, .int 0), (2, .int 0), (0, .ref m0), (1, .int (nI j9))]) hx hb dX7_reliefOf_3 rfl hl (by decide) rfl (fun ls hl => ?_)
  refine lv_iconst (v := 0) hx hb dX7_reliefOf_4 (by decide) ?_
  refine lv_istore (lv' := [(4, .int 0), (3, .int 0), (2, .int 0), (0, .ref m0), (1, .int (nI j9))]) hx hb dX7_reliefOf_5 hl (by decide) rfl (fun ls hl => ?_)
  refine lv_iconst (v := 0) hx hb dX7_reliefOf_7 (by decide) ?_
  refine lv_istore (lv' := [(5, .int 0), (4, .int 0), (3, .int 0), (2, .int 0), (0, .ref m0), (1, .int (nI j9))]) hx hb dX7_reliefOf_8 hl (by decide) rfl (fun ls hl => ?_)
  have loop10 : ∀ (nn : Nat) (i : Nat) (t9 : Nat) (s9 : Int32) (cnt : Nat), (i ≤ h * w) → (t9 = hiC he i) → (t9 < h * w) → (s9 = sgT h w he i) → (cnt = barN he i) → h * w - i < nn → ∀ (H : Heap) (locs : List Loc) (ls : Array Slot), lv_has ls 8 [(5, .int (nI i)), (4, .int (nI cnt)), (3, .int s9), (2, .int (nI t9)), (0, .ref m0), (1, .int (nI j9))] → kW E AA sx (List.flatten [oc m0 7 [.ref A0, .ref V0, .ref Z0, .int sm, .int th, .int pl, .int hz, .ref D0, .ref W0, .ref T0, .int tl, .int tw, .int tc], ac E A0 985 (mA h w wd s0 z st he ke tu ca tr co la)]) H locs → W pp l ee rmX7_reliefOf sx mm aa bb me cd H locs 0 0 (kEnd E kI (fun (r : Int32) (_ : Unit) => r = rlfN h w he j9) (fun _ => List.flatten [oc m0 7 [.ref A0, .ref V0, .ref Z0, .int sm, .int th, .int pl, .int hz, .ref D0, .ref W0, .ref T0, .int tl, .int tw, .int tc], ac E A0 985 (mA h w wd s0 z st he ke tu ca tr co la)]) bb aa sx AA 0 0) (F0 mm 10 ls []) := by
    intro nn
    induction nn with
    | zero => intro i t9 s9 cnt hi ht htl hs hcnt hm10; exact absurd hm10 (Nat.not_lt_zero _)
    | succ nn ih10 =>
      intro i t9 s9 cnt hi ht htl hs hcnt hm10 H locs ls hl hw
      refine lv_iload hx hb dX7_reliefOf_10 (lv_at hl 0 rfl) ?_
      refine lv_aload_n hx hb dX7_reliefOf_12 rfl (lv_at hl 4 rfl) ?_
      refine k_V (As := []) (rest := [.int (nI i)]) (pre := []) (mid := [oc m0 7 [.ref A0, .ref V0, .ref Z0, .int sm, .int th, .int pl, .int hz, .ref D0, .ref W0, .ref T0, .int tl, .int tw, .int tc], ac E A0 985 (mA h w wd s0 z st he ke tu ca tr co la)]) C0 (c_X7_cells l E m0 A0 V0 Z0 D0 W0 T0 sm th pl hz tl tw tc h w wd s0 z st he ke tu ca tr co la ) (cwV 0 hts gX7_reliefOf_X7_cells rfl rfl rfl (by decide +kernel) ⟨Nat.le_of_ble_eq_true rfl, Nat.le_of_ble_eq_true rfl⟩) hw rfl (fun _ => [oc m0 7 [.ref A0, .ref V0, .ref Z0, .int sm, .int th, .int pl, .int hz, .ref D0, .ref W0, .ref T0, .int tl, .int tw, .int tc], ac E A0 985 (mA h w wd s0 z st he ke tu ca tr co la)]) (fun _ => rfl) 0 7 rfl rfl rfl rfl hl.1 rfl (Nat.le_of_ble_eq_true rfl) dX7_reliefOf_13 ⟨Nat.le_of_ble_eq_true rfl, Nat.le_of_ble_eq_true rfl⟩ (fun r u H locs hq99 hw => ?_)
      subst hq99
      have hw : kW E AA sx (List.flatten [oc m0 7 [.ref A0, .ref V0, .ref Z0, .int sm, .int th, .int pl, .int hz, .ref D0, .ref W0, .ref T0, .int tl, .int tw, .int tc], ac E A0 985 (mA h w wd s0 z st he ke tu ca tr co la)]) H locs := hw
      refine W.eq (g2 := F0 mm 16 ls [.int (nI (h * w)), .int (nI i)]) rfl ?_
      refine lv_icmp_ge (tgt := 119) hx hb dX7_reliefOf_16 (by decide) (fun c16 => ?_) (fun c16 => ?_)
      · have c16 : (h * w) ≤ i := (nI_leI (a := (h * w)) (b := i) (by omega) (by omega)).mp c16
        have hie9 : i = h * w := by omega
        rw [hie9] at ht hs hcnt
        refine lv_iload_n hx hb dX7_reliefOf_119 rfl (lv_at hl 5 rfl) ?_
        refine lv_if_ne (tgt := 132) hx hb dX7_reliefOf_120 (by decide) (fun c120 => ?_) (fun c120 => ?_)
        · have c120 : ¬ j9 = 0 := fun h99 => c120 ((nI_eq (a := j9) (b := 0) (by omega) (by omega)).mpr h99)
          refine lv_iload_n hx hb dX7_reliefOf_132 rfl (lv_at hl 5 rfl) ?_
          refine lv_iconst (v := 1) hx hb dX7_reliefOf_133 (by decide) ?_
          refine lv_icmp_ne (tgt := 141) hx hb dX7_reliefOf_134 (by decide) (fun c134 => ?_) (fun c134 => ?_)
          · have c134 : ¬ j9 = 1 := fun h99 => c134 ((nI_eq (a := j9) (b := 1) (by omega) (by omega)).mpr h99)
            refine lv_iload_n hx hb dX7_reliefOf_141 rfl (lv_at hl 5 rfl) ?_
            refine lv_iconst (v := 2) hx hb dX7_reliefOf_142 (by decide) ?_
            refine lv_icmp_ne (tgt := 150) hx hb dX7_reliefOf_143 (by decide) (fun c143 => ?_) (fun c143 => ?_)
            · have c143 : ¬ j9 = 2 := fun h99 => c143 ((nI_eq (a := j9) (b := 2) (by omega) (by omega)).mpr h99)
              refine lv_iload hx hb dX7_reliefOf_150 (lv_at hl 1 rfl) ?_
              -- leaf 0
              exact k_iret C0 hr hlk hw () (rfl) (by rw [show j9 = 3 by omega, hcnt]; rfl) (Nat.le_of_ble_eq_true rfl) (Nat.le_of_ble_eq_true rfl) dX7_reliefOf_152
            · have c143 : j9 = 2 := (nI_eq (a := j9) (b := 2) (by omega) (by omega)).mp c143
              refine lv_iload_n hx hb dX7_reliefOf_146 rfl (lv_at hl 2 rfl) ?_
              refine lv_goto (tgt := 152) hx hb dX7_reliefOf_147 (by decide) ?_
              -- leaf 1
              exact k_iret C0 hr hlk hw () (rfl) (by rw [show j9 = 2 by omega, hs, sg_st hG hH hB]; rfl) (Nat.le_of_ble_eq_true rfl) (Nat.le_of_ble_eq_true rfl) dX7_reliefOf_152
          · have c134 : j9 = 1 := (nI_eq (a := j9) (b := 1) (by omega) (by omega)).mp c134
            refine lv_iload_n hx hb dX7_reliefOf_137 rfl (lv_at hl 3 rfl) ?_
            refine lv_goto (tgt := 152) hx hb dX7_reliefOf_138 (by decide) ?_
            -- leaf 2
            exact k_iret C0 hr hlk hw () (rfl) (by rw [show j9 = 1 by omega, ht]; rfl) (Nat.le_of_ble_eq_true rfl) (Nat.le_of_ble_eq_true rfl) dX7_reliefOf_152
        · have c120 : j9 = 0 := (nI_eq (a := j9) (b := 0) (by omega) (by omega)).mp c120
          refine lv_aload_n hx hb dX7_reliefOf_123 rfl (lv_at hl 4 rfl) ?_
          refine lv_iload_n hx hb dX7_reliefOf_124 rfl (lv_at hl 3 rfl) ?_
          refine lv_iconst (v := 0) hx hb dX7_reliefOf_125 (by decide) ?_
          refine k_V (As := [.int (nI t9), .int 0]) (rest := []) (pre := []) (mid := [oc m0 7 [.ref A0, .ref V0, .ref Z0, .int sm, .int th, .int pl, .int hz, .ref D0, .ref W0, .ref T0, .int tl, .int tw, .int tc], ac E A0 985 (mA h w wd s0 z st he ke tu ca tr co la)]) C0 (c_X7_of0 l E m0 A0 V0 Z0 D0 W0 T0 sm th pl hz tl tw tc h w wd s0 z st he ke tu ca tr co la t9 (by first | assumption | omega) (by first | assumption | omega)) (cwV 2 hts gX7_reliefOf_X7_of rfl rfl rfl (by decide +kernel) ⟨Nat.le_of_ble_eq_true rfl, Nat.le_of_ble_eq_true rfl⟩) hw rfl (fun _ => [oc m0 7 [.ref A0, .ref V0, .ref Z0, .int sm, .int th, .int pl, .int hz, .ref D0, .ref W0, .ref T0, .int tl, .int tw, .int tc], ac E A0 985 (mA h w wd s0 z st he ke tu ca tr co la)]) (fun _ => rfl) 0 7 rfl rfl rfl rfl hl.1 rfl (Nat.le_of_ble_eq_true rfl) dX7_reliefOf_126 ⟨Nat.le_of_ble_eq_true rfl, Nat.le_of_ble_eq_true rfl⟩ (fun r u H locs hq99 hw => ?_)
          subst hq99
          have hw : kW E AA sx (List.flatten [oc m0 7 [.ref A0, .ref V0, .ref Z0, .int sm, .int th, .int pl, .int hz, .ref D0, .ref W0, .ref T0, .int tl, .int tw, .int tc], ac E A0 985 (mA h w wd s0 z st he ke tu ca tr co la)]) H locs := hw
          refine W.eq (g2 := F0 mm 129 ls [.int (he t9)]) rfl ?_
          refine lv_goto (tgt := 152) hx hb dX7_reliefOf_129 (by decide) ?_
          -- leaf 3
          exact k_iret C0 hr hlk hw () (rfl) (by rw [show j9 = 0 by omega, ht]; rfl) (Nat.le_of_ble_eq_true rfl) (Nat.le_of_ble_eq_true rfl) dX7_reliefOf_152
      · have c16 : ¬ (h * w) ≤ i := fun h99 => c16 ((nI_leI (a := (h * w)) (b := i) (by omega) (by omega)).mpr h99)
        have htl8 : hiC he (i + 1) < h * w := by rw [hiC_s, ← ht]; split; exact htl; omega
        have join19 : ∀ (H : Heap) (locs : List Loc) (ls : Array Slot), lv_has ls 8 [(5, .int (nI i)), (4, .int (nI cnt)), (3, .int s9), (2, .int (nI t9)), (0, .ref m0), (1, .int (nI j9))] → kW E AA sx (List.flatten [oc m0 7 [.ref A0, .ref V0, .ref Z0, .int sm, .int th, .int pl, .int hz, .ref D0, .ref W0, .ref T0, .int tl, .int tw, .int tc], ac E A0 985 (mA h w wd s0 z st he ke tu ca tr co la)]) H locs → W pp l ee rmX7_reliefOf sx mm aa bb me cd H locs 0 0 (kEnd E kI (fun (r : Int32) (_ : Unit) => r = rlfN h w he j9) (fun _ => List.flatten [oc m0 7 [.ref A0, .ref V0, .ref Z0, .int sm, .int th, .int pl, .int hz, .ref D0, .ref W0, .ref T0, .int tl, .int tw, .int tc], ac E A0 985 (mA h w wd s0 z st he ke tu ca tr co la)]) bb aa sx AA 0 0) (F0 mm 41 ls [.int (nI (hiC he (i + 1)))]) := by
          intro H locs ls hl hw
          refine lv_istore_n (lv' := [(2, .int (nI (hiC he (i + 1)))), (5, .int (nI i)), (4, .int (nI cnt)), (3, .int s9), (0, .ref m0), (1, .int (nI j9))]) hx hb dX7_reliefOf_41 rfl hl (by decide) rfl (fun ls hl => ?_)
          have join42 : ∀ (H : Heap) (locs : List Loc) (ls : Array Slot), lv_has ls 8 [(2, .int (nI (hiC he (i + 1)))), (5, .int (nI i)), (4, .int (nI cnt)), (3, .int s9), (0, .ref m0), (1, .int (nI j9))] → kW E AA sx (List.flatten [oc m0 7 [.ref A0, .ref V0, .ref Z0, .int sm, .int th, .int pl, .int hz, .ref D0, .ref W0, .ref T0, .int tl, .int tw, .int tc], ac E A0 985 (mA h w wd s0 z st he ke tu ca tr co la)]) H locs → W pp l ee rmX7_reliefOf sx mm aa bb me cd H locs 0 0 (kEnd E kI (fun (r : Int32) (_ : Unit) => r = rlfN h w he j9) (fun _ => List.flatten [oc m0 7 [.ref A0, .ref V0, .ref Z0, .int sm, .int th, .int pl, .int hz, .ref D0, .ref W0, .ref T0, .int tl, .int tw, .int tc], ac E A0 985 (mA h w wd s0 z st he ke tu ca tr co la)]) bb aa sx AA 0 0) (F0 mm 60 ls [.int (nI (barN he (i + 1)))]) := by
            intro H locs ls hl hw
            refine lv_istore (lv' := [(4, .int (nI (barN he (i + 1)))), (2, .int (nI (hiC he (i + 1)))), (5, .int (nI i)), (3, .int s9), (0, .ref m0), (1, .int (nI j9))]) hx hb dX7_reliefOf_60 hl (by decide) rfl (fun ls hl => ?_)
            refine lv_iconst (v := 0) hx hb dX7_reliefOf_62 (by decide) ?_
            refine lv_istore (lv' := [(6, .int 0), (4, .int (nI (barN he (i + 1)))), (2, .int (nI (hiC he (i + 1)))), (5, .int (nI i)), (3, .int s9), (0, .ref m0), (1, .int (nI j9))]) hx hb dX7_reliefOf_63 hl (by decide) rfl (fun ls hl => ?_)
            have loop65 : ∀ (nn : Nat) (j8 : Nat) (y : Int32), (j8 ≤ 4) → (y = sgI h w he i s9 j8) → 4 - j8 < nn → ∀ (H : Heap) (locs : List Loc) (ls : Array Slot), lv_has ls 8 [(6, .int (nI j8)), (4, .int (nI (barN he (i + 1)))), (2, .int (nI (hiC he (i + 1)))), (5, .int (nI i)), (3, .int y), (0, .ref m0), (1, .int (nI j9))] → kW E AA sx (List.flatten [oc m0 7 [.ref A0, .ref V0, .ref Z0, .int sm, .int th, .int pl, .int hz, .ref D0, .ref W0, .ref T0, .int tl, .int tw, .int tc], ac E A0 985 (mA h w wd s0 z st he ke tu ca tr co la)]) H locs → W pp l ee rmX7_reliefOf sx mm aa bb me cd H locs 0 0 (kEnd E kI (fun (r : Int32) (_ : Unit) => r = rlfN h w he j9) (fun _ => List.flatten [oc m0 7 [.ref A0, .ref V0, .ref Z0, .int sm, .int th, .int pl, .int hz, .ref D0, .ref W0, .ref T0, .int tl, .int tw, .int tc], ac E A0 985 (mA h w wd s0 z st he ke tu ca tr co la)]) bb aa sx AA 0 0) (F0 mm 65 ls []) := by
              intro nn
              induction nn with
              | zero => intro j8 y hj8 hy hm65; exact absurd hm65 (Nat.not_lt_zero _)
              | succ nn ih65 =>
                intro j8 y hj8 hy hm65 H locs ls hl hw
                refine lv_iload hx hb dX7_reliefOf_65 (lv_at hl 0 rfl) ?_
                refine lv_iconst (v := 4) hx hb dX7_reliefOf_67 (by decide) ?_
                refine lv_icmp_ge (tgt := 113) hx hb dX7_reliefOf_68 (by decide) (fun c68 => ?_) (fun c68 => ?_)
                · have c68 : 4 ≤ j8 := (nI_leI (a := 4) (b := j8) (by omega) (by omega)).mp c68
                  refine lv_iinc (v := nI (i + 1)) (lv' := [(5, .int (nI (i + 1))), (6, .int (nI j8)), (4, .int (nI (barN he (i + 1)))), (2, .int (nI (hiC he (i + 1)))), (3, .int y), (0, .ref m0), (1, .int (nI j9))]) hx hb dX7_reliefOf_113 hl (k := 3) rfl (nI_1 _) (by decide) rfl (fun ls hl => ?_)
                  refine lv_goto (tgt := 10) hx hb dX7_reliefOf_116 (by decide) ?_
                  -- back 0
                  exact ih10 (i + 1) (hiC he (i + 1)) y (barN he (i + 1)) (by first | assumption | omega) (rfl) (htl8) (by rw [hy, show j8 = 4 by omega, hs]; rfl) (rfl) (by omega) H _ ls (lv_sub hl [0, 2, 4, 3, 5, 6] rfl) hw
                · have c68 : ¬ 4 ≤ j8 := fun h99 => c68 ((nI_leI (a := 4) (b := j8) (by omega) (by omega)).mpr h99)
                  refine lv_aload_n hx hb dX7_reliefOf_71 rfl (lv_at hl 5 rfl) ?_
                  refine lv_iload hx hb dX7_reliefOf_72 (lv_at hl 3 rfl) ?_
                  refine lv_iconst (v := 0) hx hb dX7_reliefOf_74 (by decide) ?_
                  refine k_V (As := [.int (nI i), .int 0]) (rest := []) (pre := []) (mid := [oc m0 7 [.ref A0, .ref V0, .ref Z0, .int sm, .int th, .int pl, .int hz, .ref D0, .ref W0, .ref T0, .int tl, .int tw, .int tc], ac E A0 985 (mA h w wd s0 z st he ke tu ca tr co la)]) C0 (c_X7_of0 l E m0 A0 V0 Z0 D0 W0 T0 sm th pl hz tl tw tc h w wd s0 z st he ke tu ca tr co la i (by first | assumption | omega) (by first | assumption | omega)) (cwV 2 hts gX7_reliefOf_X7_of rfl rfl rfl (by decide +kernel) ⟨Nat.le_of_ble_eq_true rfl, Nat.le_of_ble_eq_true rfl⟩) hw rfl (fun _ => [oc m0 7 [.ref A0, .ref V0, .ref Z0, .int sm, .int th, .int pl, .int hz, .ref D0, .ref W0, .ref T0, .int tl, .int tw, .int tc], ac E A0 985 (mA h w wd s0 z st he ke tu ca tr co la)]) (fun _ => rfl) 0 7 rfl rfl rfl rfl hl.1 rfl (Nat.le_of_ble_eq_true rfl) dX7_reliefOf_75 ⟨Nat.le_of_ble_eq_true rfl, Nat.le_of_ble_eq_true rfl⟩ (fun r u H locs hq99 hw => ?_)
                  subst hq99
                  have hw : kW E AA sx (List.flatten [oc m0 7 [.ref A0, .ref V0, .ref Z0, .int sm, .int th, .int pl, .int hz, .ref D0, .ref W0, .ref T0, .int tl, .int tw, .int tc], ac E A0 985 (mA h w wd s0 z st he ke tu ca tr co la)]) H locs := hw
                  refine W.eq (g2 := F0 mm 78 ls [.int (he i)]) rfl ?_
                  refine lv_aload_n hx hb dX7_reliefOf_78 rfl (lv_at hl 5 rfl) ?_
                  refine lv_aload_n hx hb dX7_reliefOf_79 rfl (lv_at hl 5 rfl) ?_
                  refine lv_iload hx hb dX7_reliefOf_80 (lv_at hl 3 rfl) ?_
                  refine lv_iload hx hb dX7_reliefOf_82 (lv_at hl 0 rfl) ?_
                  refine k_V (As := [.int (nI i), .int (nI j8)]) (rest := [.ref m0, .int (he i)]) (pre := []) (mid := [oc m0 7 [.ref A0, .ref V0, .ref Z0, .int sm, .int th, .int pl, .int hz, .ref D0, .ref W0, .ref T0, .int tl, .int tw, .int tc], ac E A0 985 (mA h w wd s0 z st he ke tu ca tr co la)]) C0 (c_X7_neighbor l E m0 A0 V0 Z0 D0 W0 T0 sm th pl hz tl tw tc h w wd s0 z st he ke tu ca tr co la i j8 (by first | assumption | omega) (by first | assumption | omega) (by first | assumption | omega)) (cwV 2 hts gX7_reliefOf_X7_neighbor rfl rfl rfl (by decide +kernel) ⟨Nat.le_of_ble_eq_true rfl, Nat.le_of_ble_eq_true rfl⟩) hw rfl (fun _ => [oc m0 7 [.ref A0, .ref V0, .ref Z0, .int sm, .int th, .int pl, .int hz, .ref D0, .ref W0, .ref T0, .int tl, .int tw, .int tc], ac E A0 985 (mA h w wd s0 z st he ke tu ca tr co la)]) (fun _ => rfl) 0 7 rfl rfl rfl rfl hl.1 rfl (Nat.le_of_ble_eq_true rfl) dX7_reliefOf_84 ⟨Nat.le_of_ble_eq_true rfl, Nat.le_of_ble_eq_true rfl⟩ (fun r u H locs hq99 hw => ?_)
                  subst hq99
                  have hw : kW E AA sx (List.flatten [oc m0 7 [.ref A0, .ref V0, .ref Z0, .int sm, .int th, .int pl, .int hz, .ref D0, .ref W0, .ref T0, .int tl, .int tw, .int tc], ac E A0 985 (mA h w wd s0 z st he ke tu ca tr co la)]) H locs := hw
                  refine W.eq (g2 := F0 mm 87 ls [.int (nI (nbr h w i j8)), .ref m0, .int (he i)]) rfl ?_
                  refine lv_iconst (v := 0) hx hb dX7_reliefOf_87 (by decide) ?_
                  refine k_V (As := [.int (nI (nbr h w i j8)), .int 0]) (rest := [.int (he i)]) (pre := []) (mid := [oc m0 7 [.ref A0, .ref V0, .ref Z0, .int sm, .int th, .int pl, .int hz, .ref D0, .ref W0, .ref T0, .int tl, .int tw, .int tc], ac E A0 985 (mA h w wd s0 z st he ke tu ca tr co la)]) C0 (c_X7_of0 l E m0 A0 V0 Z0 D0 W0 T0 sm th pl hz tl tw tc h w wd s0 z st he ke tu ca tr co la (nbr h w i j8) (by first | assumption | omega) (nbr_lt j8 hG (by omega))) (cwV 2 hts gX7_reliefOf_X7_of rfl rfl rfl (by decide +kernel) ⟨Nat.le_of_ble_eq_true rfl, Nat.le_of_ble_eq_true rfl⟩) hw rfl (fun _ => [oc m0 7 [.ref A0, .ref V0, .ref Z0, .int sm, .int th, .int pl, .int hz, .ref D0, .ref W0, .ref T0, .int tl, .int tw, .int tc], ac E A0 985 (mA h w wd s0 z st he ke tu ca tr co la)]) (fun _ => rfl) 0 7 rfl rfl rfl rfl hl.1 rfl (Nat.le_of_ble_eq_true rfl) dX7_reliefOf_88 ⟨Nat.le_of_ble_eq_true rfl, Nat.le_of_ble_eq_true rfl⟩ (fun r u H locs hq99 hw => ?_)
                  subst hq99
                  have hw : kW E AA sx (List.flatten [oc m0 7 [.ref A0, .ref V0, .ref Z0, .int sm, .int th, .int pl, .int hz, .ref D0, .ref W0, .ref T0, .int tl, .int tw, .int tc], ac E A0 985 (mA h w wd s0 z st he ke tu ca tr co la)]) H locs := hw
                  refine W.eq (g2 := F0 mm 91 ls [.int (he (nbr h w i j8)), .int (he i)]) rfl ?_
                  refine lv_isub hx hb dX7_reliefOf_91 ?_
                  refine lv_istore (lv' := [(7, .int ((he i) - (he (nbr h w i j8)))), (6, .int (nI j8)), (4, .int (nI (barN he (i + 1)))), (2, .int (nI (hiC he (i + 1)))), (5, .int (nI i)), (3, .int y), (0, .ref m0), (1, .int (nI j9))]) hx hb dX7_reliefOf_92 hl (by decide) rfl (fun ls hl => ?_)
                  refine lv_iload hx hb dX7_reliefOf_94 (lv_at hl 0 rfl) ?_
                  refine lv_iload_n hx hb dX7_reliefOf_96 rfl (lv_at hl 5 rfl) ?_
                  refine lv_icmp_le (tgt := 105) hx hb dX7_reliefOf_97 (by decide) (fun c97 => ?_) (fun c97 => ?_)
                  · refine lv_iload_n hx hb dX7_reliefOf_105 rfl (lv_at hl 5 rfl) ?_
                    refine lv_istore_n (lv' := [(3, .int y), (7, .int ((he i) - (he (nbr h w i j8)))), (6, .int (nI j8)), (4, .int (nI (barN he (i + 1)))), (2, .int (nI (hiC he (i + 1)))), (5, .int (nI i)), (0, .ref m0), (1, .int (nI j9))]) hx hb dX7_reliefOf_106 rfl hl (by decide) rfl (fun ls hl => ?_)
                    refine lv_iinc (v := nI (j8 + 1)) (lv' := [(6, .int (nI (j8 + 1))), (3, .int y), (7, .int ((he i) - (he (nbr h w i j8)))), (4, .int (nI (barN he (i + 1)))), (2, .int (nI (hiC he (i + 1)))), (5, .int (nI i)), (0, .ref m0), (1, .int (nI j9))]) hx hb dX7_reliefOf_107 hl (k := 2) rfl (nI_1 _) (by decide) rfl (fun ls hl => ?_)
                    refine lv_goto (tgt := 65) hx hb dX7_reliefOf_110 (by decide) ?_
                    -- back 0
                    exact ih65 (j8 + 1) y (by first | assumption | omega) (by rw [hy] at c97 ⊢; exact (if_neg (Int32.not_lt.mpr c97)).symm) (by omega) H _ ls (lv_sub hl [0, 3, 4, 5, 1, 6, 7] rfl) hw
                  · refine lv_iload hx hb dX7_reliefOf_100 (lv_at hl 0 rfl) ?_
                    refine lv_goto (tgt := 106) hx hb dX7_reliefOf_102 (by decide) ?_
                    refine lv_istore_n (lv' := [(3, .int ((he i) - (he (nbr h w i j8)))), (7, .int ((he i) - (he (nbr h w i j8)))), (6, .int (nI j8)), (4, .int (nI (barN he (i + 1)))), (2, .int (nI (hiC he (i + 1)))), (5, .int (nI i)), (0, .ref m0), (1, .int (nI j9))]) hx hb dX7_reliefOf_106 rfl hl (by decide) rfl (fun ls hl => ?_)
                    refine lv_iinc (v := nI (j8 + 1)) (lv' := [(6, .int (nI (j8 + 1))), (3, .int ((he i) - (he (nbr h w i j8)))), (7, .int ((he i) - (he (nbr h w i j8)))), (4, .int (nI (barN he (i + 1)))), (2, .int (nI (hiC he (i + 1)))), (5, .int (nI i)), (0, .ref m0), (1, .int (nI j9))]) hx hb dX7_reliefOf_107 hl (k := 2) rfl (nI_1 _) (by decide) rfl (fun ls hl => ?_)
                    refine lv_goto (tgt := 65) hx hb dX7_reliefOf_110 (by decide) ?_
                    -- back 1
                    exact ih65 (j8 + 1) (he i - he (nbr h w i j8)) (by first | assumption | omega) (by rw [hy] at c97; exact (if_pos (Int32.not_le.mp c97)).symm) (by omega) H _ ls (lv_sub hl [0, 3, 4, 5, 1, 6, 7] rfl) hw
            exact loop65 ((4 - 0) + 1) 0 s9 (by first | assumption | omega) (rfl) (Nat.lt_succ_self _) H _ ls (lv_sub hl [0, 1, 2, 3, 4, 5, 6] rfl) hw
          refine lv_iload hx hb dX7_reliefOf_42 (lv_at hl 2 rfl) ?_
          refine lv_aload_n hx hb dX7_reliefOf_44 rfl (lv_at hl 4 rfl) ?_
          refine lv_iload hx hb dX7_reliefOf_45 (lv_at hl 1 rfl) ?_
          refine lv_iconst (v := 0) hx hb dX7_reliefOf_47 (by decide) ?_
          refine k_V (As := [.int (nI i), .int 0]) (rest := [.int (nI cnt)]) (pre := []) (mid := [oc m0 7 [.ref A0, .ref V0, .ref Z0, .int sm, .int th, .int pl, .int hz, .ref D0, .ref W0, .ref T0, .int tl, .int tw, .int tc], ac E A0 985 (mA h w wd s0 z st he ke tu ca tr co la)]) C0 (c_X7_of0 l E m0 A0 V0 Z0 D0 W0 T0 sm th pl hz tl tw tc h w wd s0 z st he ke tu ca tr co la i (by first | assumption | omega) (by first | assumption | omega)) (cwV 2 hts gX7_reliefOf_X7_of rfl rfl rfl (by decide +kernel) ⟨Nat.le_of_ble_eq_true rfl, Nat.le_of_ble_eq_true rfl⟩) hw rfl (fun _ => [oc m0 7 [.ref A0, .ref V0, .ref Z0, .int sm, .int th, .int pl, .int hz, .ref D0, .ref W0, .ref T0, .int tl, .int tw, .int tc], ac E A0 985 (mA h w wd s0 z st he ke tu ca tr co la)]) (fun _ => rfl) 0 7 rfl rfl rfl rfl hl.1 rfl (Nat.le_of_ble_eq_true rfl) dX7_reliefOf_48 ⟨Nat.le_of_ble_eq_true rfl, Nat.le_of_ble_eq_true rfl⟩ (fun r u H locs hq99 hw => ?_)
          subst hq99
          have hw : kW E AA sx (List.flatten [oc m0 7 [.ref A0, .ref V0, .ref Z0, .int sm, .int th, .int pl, .int hz, .ref D0, .ref W0, .ref T0, .int tl, .int tw, .int tc], ac E A0 985 (mA h w wd s0 z st he ke tu ca tr co la)]) H locs := hw
          refine W.eq (g2 := F0 mm 51 ls [.int (he i), .int (nI cnt)]) rfl ?_
          refine lv_if_ne (tgt := 58) hx hb dX7_reliefOf_51 (by decide) (fun c51 => ?_) (fun c51 => ?_)
          · refine lv_iconst (v := 0) hx hb dX7_reliefOf_58 (by decide) ?_
            refine lv_iadd hx hb dX7_reliefOf_59 ?_
            refine W.eq (g2 := F0 mm 60 ls [.int (nI (barN he (i + 1)))]) (congrArg (fun z9 => F0 mm 60 ls [.int z9]) (show ((nI cnt) + 0 : Int32) = nI (barN he (i + 1)) from by rw [barN_s, ← hcnt, if_neg c51]; exact nI_add _ 0)) ?_
            exact join42 H _ ls (lv_sub hl [0, 1, 2, 3, 4, 5] rfl) hw
          · refine lv_iconst (v := 1) hx hb dX7_reliefOf_54 (by decide) ?_
            refine lv_goto (tgt := 59) hx hb dX7_reliefOf_55 (by decide) ?_
            refine lv_iadd hx hb dX7_reliefOf_59 ?_
            refine W.eq (g2 := F0 mm 60 ls [.int (nI (barN he (i + 1)))]) (congrArg (fun z9 => F0 mm 60 ls [.int z9]) (show ((nI cnt) + 1 : Int32) = nI (barN he (i + 1)) from by rw [barN_s, ← hcnt, if_pos c51]; exact nI_1 _)) ?_
            exact join42 H _ ls (lv_sub hl [0, 1, 2, 3, 4, 5] rfl) hw
        refine lv_aload_n hx hb dX7_reliefOf_19 rfl (lv_at hl 4 rfl) ?_
        refine lv_iload hx hb dX7_reliefOf_20 (lv_at hl 0 rfl) ?_
        refine lv_iconst (v := 0) hx hb dX7_reliefOf_22 (by decide) ?_
        refine k_V (As := [.int (nI i), .int 0]) (rest := []) (pre := []) (mid := [oc m0 7 [.ref A0, .ref V0, .ref Z0, .int sm, .int th, .int pl, .int hz, .ref D0, .ref W0, .ref T0, .int tl, .int tw, .int tc], ac E A0 985 (mA h w wd s0 z st he ke tu ca tr co la)]) C0 (c_X7_of0 l E m0 A0 V0 Z0 D0 W0 T0 sm th pl hz tl tw tc h w wd s0 z st he ke tu ca tr co la i (by first | assumption | omega) (by first | assumption | omega)) (cwV 2 hts gX7_reliefOf_X7_of rfl rfl rfl (by decide +kernel) ⟨Nat.le_of_ble_eq_true rfl, Nat.le_of_ble_eq_true rfl⟩) hw rfl (fun _ => [oc m0 7 [.ref A0, .ref V0, .ref Z0, .int sm, .int th, .int pl, .int hz, .ref D0, .ref W0, .ref T0, .int tl, .int tw, .int tc], ac E A0 985 (mA h w wd s0 z st he ke tu ca tr co la)]) (fun _ => rfl) 0 7 rfl rfl rfl rfl hl.1 rfl (Nat.le_of_ble_eq_true rfl) dX7_reliefOf_23 ⟨Nat.le_of_ble_eq_true rfl, Nat.le_of_ble_eq_true rfl⟩ (fun r u H locs hq99 hw => ?_)
        subst hq99
        have hw : kW E AA sx (List.flatten [oc m0 7 [.ref A0, .ref V0, .ref Z0, .int sm, .int th, .int pl, .int hz, .ref D0, .ref W0, .ref T0, .int tl, .int tw, .int tc], ac E A0 985 (mA h w wd s0 z st he ke tu ca tr co la)]) H locs := hw
        refine W.eq (g2 := F0 mm 26 ls [.int (he i)]) rfl ?_
        refine lv_aload_n hx hb dX7_reliefOf_26 rfl (lv_at hl 4 rfl) ?_
        refine lv_iload_n hx hb dX7_reliefOf_27 rfl (lv_at hl 3 rfl) ?_
        refine lv_iconst (v := 0) hx hb dX7_reliefOf_28 (by decide) ?_
        refine k_V (As := [.int (nI t9), .int 0]) (rest := [.int (he i)]) (pre := []) (mid := [oc m0 7 [.ref A0, .ref V0, .ref Z0, .int sm, .int th, .int pl, .int hz, .ref D0, .ref W0, .ref T0, .int tl, .int tw, .int tc], ac E A0 985 (mA h w wd s0 z st he ke tu ca tr co la)]) C0 (c_X7_of0 l E m0 A0 V0 Z0 D0 W0 T0 sm th pl hz tl tw tc h w wd s0 z st he ke tu ca tr co la t9 (by first | assumption | omega) (by first | assumption | omega)) (cwV 2 hts gX7_reliefOf_X7_of rfl rfl rfl (by decide +kernel) ⟨Nat.le_of_ble_eq_true rfl, Nat.le_of_ble_eq_true rfl⟩) hw rfl (fun _ => [oc m0 7 [.ref A0, .ref V0, .ref Z0, .int sm, .int th, .int pl, .int hz, .ref D0, .ref W0, .ref T0, .int tl, .int tw, .int tc], ac E A0 985 (mA h w wd s0 z st he ke tu ca tr co la)]) (fun _ => rfl) 0 7 rfl rfl rfl rfl hl.1 rfl (Nat.le_of_ble_eq_true rfl) dX7_reliefOf_29 ⟨Nat.le_of_ble_eq_true rfl, Nat.le_of_ble_eq_true rfl⟩ (fun r u H locs hq99 hw => ?_)
        subst hq99
        have hw : kW E AA sx (List.flatten [oc m0 7 [.ref A0, .ref V0, .ref Z0, .int sm, .int th, .int pl, .int hz, .ref D0, .ref W0, .ref T0, .int tl, .int tw, .int tc], ac E A0 985 (mA h w wd s0 z st he ke tu ca tr co la)]) H locs := hw
        refine W.eq (g2 := F0 mm 32 ls [.int (he t9), .int (he i)]) rfl ?_
        refine lv_icmp_le (tgt := 40) hx hb dX7_reliefOf_32 (by decide) (fun c32 => ?_) (fun c32 => ?_)
        · refine lv_iload_n hx hb dX7_reliefOf_40 rfl (lv_at hl 3 rfl) ?_
          refine W.eq (g2 := F0 mm 41 ls [.int (nI (hiC he (i + 1)))]) (congrArg (fun z9 => F0 mm 41 ls [.int z9]) (show (nI t9 : Int32) = nI (hiC he (i + 1)) from by rw [hiC_s, ← ht, if_pos c32])) ?_
          exact join19 H _ ls (lv_sub hl [0, 1, 2, 3, 4, 5] rfl) hw
        · refine lv_iload hx hb dX7_reliefOf_35 (lv_at hl 0 rfl) ?_
          refine lv_goto (tgt := 41) hx hb dX7_reliefOf_37 (by decide) ?_
          refine W.eq (g2 := F0 mm 41 ls [.int (nI (hiC he (i + 1)))]) (congrArg (fun z9 => F0 mm 41 ls [.int z9]) (show (nI i : Int32) = nI (hiC he (i + 1)) from by rw [hiC_s, ← ht, if_neg c32])) ?_
          exact join19 H _ ls (lv_sub hl [0, 1, 2, 3, 4, 5] rfl) hw
  exact loop10 ((h * w - 0) + 1) 0 0 0 0 (by first | assumption | omega) (rfl) (by first | assumption | omega) (rfl) (rfl) (Nat.lt_succ_self _) H _ ls (lv_sub hl [0, 1, 2, 3, 4, 5] rfl) hw

abbrev rmX7_relief : Room := { frames := 3, cells := 0, slots := 0, locals := 76 }
set_option maxHeartbeats 4000000 in
set_option maxRecDepth 100000 in
theorem c_X7_relief_ok (l : Launch) (E : kE) (m0 : Nat) (A0 : Nat) (V0 : Nat) (Z0 : Nat) (D0 : Nat) (W0 : Nat) (T0 : Nat) (sm : Int32) (th : Int32) (pl : Int32) (hz : Int32) (tl : Int32) (tw : Int32) (tc : Int32) (h : Nat) (w : Nat) (wd : Int32) (s0 : Int32) (z : Int32) (st : Nat → Int32) (he : Nat → Int32) (ke : Nat → Int32) (tu : Nat → Int32) (ca : Nat → Int32) (tr : Nat → Int32) (co : Nat → Int32) (la : Nat → Int32) (j9 : Nat) (B : Nat) (hG : kG h w) (hj9 : j9 < 4) (hH : hI (h * w) he B) (hB : B < 1000000) : kC E l yX7_relief wsX7_relief rmX7_relief [.ref m0, .int (nI j9)] (List.flatten [oc m0 7 [.ref A0, .ref V0, .ref Z0, .int sm, .int th, .int pl, .int hz, .ref D0, .ref W0, .ref T0, .int tl, .int tw, .int tc], ac E A0 985 (mA h w wd s0 z st he ke tu ca tr co la)]) kI (fun (r : Int32) (_ : Unit) => r = rlfN h w he j9) (fun _ => List.flatten [oc m0 7 [.ref A0, .ref V0, .ref Z0, .int sm, .int 0, .int pl, .int hz, .ref D0, .ref W0, .ref T0, .int tl, .int tw, .int tc], ac E A0 985 (mA h w wd s0 z st he ke tu ca tr co la)]) 0 0 := by
  refine k_body (cc := cX7_relief) (maxL := 2) (ret := (some .int)) (by decide) rfl (Nat.le_of_ble_eq_true rfl) ?_
  intro pp ee sx mm aa bb me cd H locs AA ls C0 hr hlk hnm hl hw
  obtain ⟨hx, hb, hml, hown, hts⟩ := id C0
  have hl : lv_has ls 2 [(0, .ref m0), (1, .int (nI j9))] := hl
  have hw : kW E AA sx (List.flatten [oc m0 7 [.ref A0, .ref V0, .ref Z0, .int sm, .int th, .int pl, .int hz, .ref D0, .ref W0, .ref T0, .int tl, .int tw, .int tc], ac E A0 985 (mA h w wd s0 z st he ke tu ca tr co la)]) H locs := hw
  have hn9 := kG_n hG
  have hG9 := id hG
  obtain ⟨hG1, hG2, hG3, hG4⟩ := hG9
  refine lv_aload_n hx hb dX7_relief_0 rfl (lv_at hl 0 rfl) ?_
  refine lv_iload_n hx hb dX7_relief_1 rfl (lv_at hl 1 rfl) ?_
  refine lv_i2l (v := Int32.toInt64 (nI j9)) hx hb dX7_relief_2 rfl ?_
  refine lv_lconst (v := 0) hx hb dX7_relief_3 (by decide) ?_
  refine lv_ldc2 (v := 3) hx hb hown (hts (.constantLong RX7 58 3) (by decide +kernel)) dX7_relief_4 ?_
  refine k_S (As := [.long (Int32.toInt64 (nI j9)), .long 0, .long 3]) (rest := [.ref m0]) (pre := []) (mid := []) C0 (c_X7_in_0_3 l E (nI j9) ) (va_cwS 3 hts gX7_relief_X7_in rfl rfl rfl (by decide +kernel) ⟨Nat.le_of_ble_eq_true rfl, Nat.le_of_ble_eq_true rfl⟩) hw rfl (fun _ => []) (fun _ => rfl) rfl hl.1 rfl (Nat.le_of_ble_eq_true rfl) dX7_relief_7 ⟨Nat.le_of_ble_eq_true rfl, Nat.le_of_ble_eq_true rfl⟩ (fun r u H locs hq99 hw => ?_)
  subst hq99
  have hw : kW E AA sx (List.flatten [oc m0 7 [.ref A0, .ref V0, .ref Z0, .int sm, .int th, .int pl, .int hz, .ref D0, .ref W0, .ref T0, .int tl, .int tw, .int tc], ac E A0 985 (mA h w wd s0 z st he ke tu ca tr co la)]) H locs := hw
  refine W.eq (g2 := F0 mm 10 ls [.int (if ¬ (nI j9) < 0 ∧ ¬ 3 < (nI j9) then 1 else 0), .ref m0]) rfl ?_
  refine lv_iconst (v := 1) hx hb dX7_relief_10 (by decide) ?_
  refine k_V (As := [.int (if ¬ (nI j9) < 0 ∧ ¬ 3 < (nI j9) then 1 else 0), .int 1]) (rest := []) (pre := []) (mid := [oc m0 7 [.ref A0, .ref V0, .ref Z0, .int sm, .int th, .int pl, .int hz, .ref D0, .ref W0, .ref T0, .int tl, .int tw, .int tc]]) C0 (c_X7_goes_ok l E m0 A0 V0 Z0 D0 W0 T0 sm th pl hz tl tw tc (if ¬ (nI j9) < 0 ∧ ¬ 3 < (nI j9) then 1 else 0) 1 (kp10 (⟨nI_pos (by omega), nI_nlt (a := 3) (b := j9) (by omega) (by omega)⟩)) (by decide)) (cwV 2 hts gX7_relief_X7_goes rfl rfl rfl (by decide +kernel) ⟨Nat.le_of_ble_eq_true rfl, Nat.le_of_ble_eq_true rfl⟩) hw rfl (fun _ => [oc m0 7 [.ref A0, .ref V0, .ref Z0, .int sm, .int 0, .int pl, .int hz, .ref D0, .ref W0, .ref T0, .int tl, .int tw, .int tc]]) (fun _ => rfl) 0 7 rfl rfl rfl rfl hl.1 rfl (Nat.le_of_ble_eq_true rfl) dX7_relief_11 ⟨Nat.le_of_ble_eq_true rfl, Nat.le_of_ble_eq_true rfl⟩ (fun r u H locs hq99 hw => ?_)
  subst r
  have hw : kW E AA sx (List.flatten [oc m0 7 [.ref A0, .ref V0, .ref Z0, .int sm, .int 0, .int pl, .int hz, .ref D0, .ref W0, .ref T0, .int tl, .int tw, .int tc], ac E A0 985 (mA h w wd s0 z st he ke tu ca tr co la)]) H locs := hw
  refine W.eq (g2 := F0 mm 14 ls [.int 1]) rfl ?_
  refine lv_if_eq (tgt := 25) hx hb dX7_relief_14 (by decide) (fun c14 => absurd c14 (by decide)) (fun c14 => ?_)
  refine lv_aload_n hx hb dX7_relief_17 rfl (lv_at hl 0 rfl) ?_
  refine lv_iload_n hx hb dX7_relief_18 rfl (lv_at hl 1 rfl) ?_
  refine k_V (As := [.int (nI j9)]) (rest := []) (pre := []) (mid := [oc m0 7 [.ref A0, .ref V0, .ref Z0, .int sm, .int 0, .int pl, .int hz, .ref D0, .ref W0, .ref T0, .int tl, .int tw, .int tc], ac E A0 985 (mA h w wd s0 z st he ke tu ca tr co la)]) C0 (c_X7_reliefOf l E m0 A0 V0 Z0 D0 W0 T0 sm 0 pl hz tl tw tc h w wd s0 z st he ke tu ca tr co la j9 B (by first | assumption | omega) (by first | assumption | omega) (by first | assumption | omega) (by first | assumption | omega)) (cwV 1 hts gX7_relief_X7_reliefOf rfl rfl rfl (by decide +kernel) ⟨Nat.le_of_ble_eq_true rfl, Nat.le_of_ble_eq_true rfl⟩) hw rfl (fun _ => [oc m0 7 [.ref A0, .ref V0, .ref Z0, .int sm, .int 0, .int pl, .int hz, .ref D0, .ref W0, .ref T0, .int tl, .int tw, .int tc], ac E A0 985 (mA h w wd s0 z st he ke tu ca tr co la)]) (fun _ => rfl) 0 7 rfl rfl rfl rfl hl.1 rfl (Nat.le_of_ble_eq_true rfl) dX7_relief_19 ⟨Nat.le_of_ble_eq_true rfl, Nat.le_of_ble_eq_true rfl⟩ (fun r u H locs hq99 hw => ?_)
  subst hq99
  have hw : kW E AA sx (List.flatten [oc m0 7 [.ref A0, .ref V0, .ref Z0, .int sm, .int 0, .int pl, .int hz, .ref D0, .ref W0, .ref T0, .int tl, .int tw, .int tc], ac E A0 985 (mA h w wd s0 z st he ke tu ca tr co la)]) H locs := hw
  refine W.eq (g2 := F0 mm 22 ls [.int (rlfN h w he j9)]) rfl ?_
  refine lv_goto (tgt := 26) hx hb dX7_relief_22 (by decide) ?_
  -- leaf 0
  exact k_iret C0 hr hlk hw () (rfl) (rfl) (Nat.le_of_ble_eq_true rfl) (Nat.le_of_ble_eq_true rfl) dX7_relief_26

set_option maxHeartbeats 4000000 in
set_option maxRecDepth 100000 in
theorem c_X7_relief_x1 (l : Launch) (E : kE) (m0 : Nat) (A0 : Nat) (V0 : Nat) (Z0 : Nat) (D0 : Nat) (W0 : Nat) (T0 : Nat) (sm : Int32) (th : Int32) (pl : Int32) (hz : Int32) (tl : Int32) (tw : Int32) (tc : Int32) (h : Nat) (w : Nat) (wd : Int32) (s0 : Int32) (z : Int32) (st : Nat → Int32) (he : Nat → Int32) (ke : Nat → Int32) (tu : Nat → Int32) (ca : Nat → Int32) (tr : Nat → Int32) (co : Nat → Int32) (la : Nat → Int32) (x : Int32) (hv : ¬ (¬ x < 0 ∧ ¬ 3 < x)) : kC E l yX7_relief wsX7_relief rmX7_relief [.ref m0, .int x] (List.flatten [oc m0 7 [.ref A0, .ref V0, .ref Z0, .int sm, .int th, .int pl, .int hz, .ref D0, .ref W0, .ref T0, .int tl, .int tw, .int tc], ac E A0 985 (mA h w wd s0 z st he ke tu ca tr co la)]) kI (fun (r : Int32) (_ : Unit) => r = 0) (fun _ => List.flatten [oc m0 7 [.ref A0, .ref V0, .ref Z0, .int sm, .int 1, .int pl, .int hz, .ref D0, .ref W0, .ref T0, .int tl, .int tw, .int tc], ac E A0 985 (mA h w wd s0 z st he ke tu ca tr co la)]) 0 0 := by
  refine k_body (cc := cX7_relief) (maxL := 2) (ret := (some .int)) (by decide) rfl (Nat.le_of_ble_eq_true rfl) ?_
  intro pp ee sx mm aa bb me cd H locs AA ls C0 hr hlk hnm hl hw
  obtain ⟨hx, hb, hml, hown, hts⟩ := id C0
  have hl : lv_has ls 2 [(0, .ref m0), (1, .int x)] := hl
  have hw : kW E AA sx (List.flatten [oc m0 7 [.ref A0, .ref V0, .ref Z0, .int sm, .int th, .int pl, .int hz, .ref D0, .ref W0, .ref T0, .int tl, .int tw, .int tc], ac E A0 985 (mA h w wd s0 z st he ke tu ca tr co la)]) H locs := hw
  refine lv_aload_n hx hb dX7_relief_0 rfl (lv_at hl 0 rfl) ?_
  refine lv_iload_n hx hb dX7_relief_1 rfl (lv_at hl 1 rfl) ?_
  refine lv_i2l (v := Int32.toInt64 x) hx hb dX7_relief_2 rfl ?_
  refine lv_lconst (v := 0) hx hb dX7_relief_3 (by decide) ?_
  refine lv_ldc2 (v := 3) hx hb hown (hts (.constantLong RX7 58 3) (by decide +kernel)) dX7_relief_4 ?_
  refine k_S (As := [.long (Int32.toInt64 x), .long 0, .long 3]) (rest := [.ref m0]) (pre := []) (mid := []) C0 (c_X7_in_0_3 l E x ) (va_cwS 3 hts gX7_relief_X7_in rfl rfl rfl (by decide +kernel) ⟨Nat.le_of_ble_eq_true rfl, Nat.le_of_ble_eq_true rfl⟩) hw rfl (fun _ => []) (fun _ => rfl) rfl hl.1 rfl (Nat.le_of_ble_eq_true rfl) dX7_relief_7 ⟨Nat.le_of_ble_eq_true rfl, Nat.le_of_ble_eq_true rfl⟩ (fun r u H locs hq99 hw => ?_)
  subst hq99
  have hw : kW E AA sx (List.flatten [oc m0 7 [.ref A0, .ref V0, .ref Z0, .int sm, .int th, .int pl, .int hz, .ref D0, .ref W0, .ref T0, .int tl, .int tw, .int tc], ac E A0 985 (mA h w wd s0 z st he ke tu ca tr co la)]) H locs := hw
  refine W.eq (g2 := F0 mm 10 ls [.int (if ¬ x < 0 ∧ ¬ 3 < x then 1 else 0), .ref m0]) rfl ?_
  refine lv_iconst (v := 1) hx hb dX7_relief_10 (by decide) ?_
  refine k_V (As := [.int (if ¬ x < 0 ∧ ¬ 3 < x then 1 else 0), .int 1]) (rest := []) (pre := []) (mid := [oc m0 7 [.ref A0, .ref V0, .ref Z0, .int sm, .int th, .int pl, .int hz, .ref D0, .ref W0, .ref T0, .int tl, .int tw, .int tc]]) C0 (c_X7_goes_1 l E m0 A0 V0 Z0 D0 W0 T0 sm th pl hz tl tw tc (if ¬ x < 0 ∧ ¬ 3 < x then 1 else 0) 1 (kn10 (hv))) (cwV 2 hts gX7_relief_X7_goes rfl rfl rfl (by decide +kernel) ⟨Nat.le_of_ble_eq_true rfl, Nat.le_of_ble_eq_true rfl⟩) hw rfl (fun _ => [oc m0 7 [.ref A0, .ref V0, .ref Z0, .int sm, .int 1, .int pl, .int hz, .ref D0, .ref W0, .ref T0, .int tl, .int tw, .int tc]]) (fun _ => rfl) 0 7 rfl rfl rfl rfl hl.1 rfl (Nat.le_of_ble_eq_true rfl) dX7_relief_11 ⟨Nat.le_of_ble_eq_true rfl, Nat.le_of_ble_eq_true rfl⟩ (fun r u H locs hq99 hw => ?_)
  subst r
  have hw : kW E AA sx (List.flatten [oc m0 7 [.ref A0, .ref V0, .ref Z0, .int sm, .int 1, .int pl, .int hz, .ref D0, .ref W0, .ref T0, .int tl, .int tw, .int tc], ac E A0 985 (mA h w wd s0 z st he ke tu ca tr co la)]) H locs := hw
  refine W.eq (g2 := F0 mm 14 ls [.int 0]) rfl ?_
  refine lv_if_eq (tgt := 25) hx hb dX7_relief_14 (by decide) (fun c14 => ?_) (fun c14 => absurd c14 (by decide))
  refine lv_iconst (v := 0) hx hb dX7_relief_25 (by decide) ?_
  -- leaf 0
  exact k_iret C0 hr hlk hw () (rfl) (rfl) (Nat.le_of_ble_eq_true rfl) (Nat.le_of_ble_eq_true rfl) dX7_relief_26

abbrev rmX7_sums : Room := { frames := 0, cells := 0, slots := 0, locals := 0 }
set_option maxHeartbeats 4000000 in
set_option maxRecDepth 100000 in
theorem c_X7_sums (l : Launch) (E : kE) (x : Int64) (y : Int64)  : kC E l yX7_sums wsX7_sums rmX7_sums [.long x, .long y] (([] : va_W)) kL (fun (r : Int64) (_ : Unit) => r = 31 * x + y) (fun _ => ([] : va_W)) 0 0 := by
  refine k_body (cc := cX7_sums) (maxL := 4) (ret := (some .long)) (by decide) rfl (Nat.le_of_ble_eq_true rfl) ?_
  intro pp ee sx mm aa bb me cd H locs AA ls C0 hr hlk hnm hl hw
  obtain ⟨hx, hb, hml, hown, hts⟩ := id C0
  have hl : lv_has ls 4 [(0, .long x), (2, .long y)] := hl
  have hw : kW E AA sx (List.flatten []) H locs := hw
  refine lv_ldc2 (v := 31) hx hb hown (hts (.constantLong RX7 218 31) (by decide +kernel)) dX7_sums_0 ?_
  refine lv_lload_n hx hb dX7_sums_3 rfl (lv_at hl 0 rfl) ?_
  refine lv_lmul hx hb dX7_sums_4 ?_
  refine lv_lload_n hx hb dX7_sums_5 rfl (lv_at hl 1 rfl) ?_
  refine lv_ladd hx hb dX7_sums_6 ?_
  -- leaf 0
  exact k_lret C0 hr hlk hw () (rfl) (rfl) (Nat.le_of_ble_eq_true rfl) (Nat.le_of_ble_eq_true rfl) dX7_sums_7

abbrev rmX7_digest : Room := { frames := 5, cells := 0, slots := 0, locals := 115 }
set_option maxHeartbeats 4000000 in
set_option maxRecDepth 100000 in
theorem c_X7_digest_ok (l : Launch) (E : kE) (m0 : Nat) (A0 : Nat) (V0 : Nat) (Z0 : Nat) (D0 : Nat) (W0 : Nat) (T0 : Nat) (th : Int32) (pl : Int32) (hz : Int32) (tw : Int32) (tc : Int32) (h : Nat) (w : Nat) (d : Nat) (k9 : Nat) (s0 : Int32) (z : Int32) (st : Nat → Int32) (he : Nat → Int32) (ke : Nat → Int32) (tu : Nat → Int32) (ca : Nat → Int32) (tr : Nat → Int32) (co : Nat → Int32) (la : Nat → Int32) (D : Nat → Int32) (Q : Nat → Int32) (m9 : Nat) (hG : kG h w) (hd : d < 4) (hm9 : m9 ≤ 220) (hk9 : k9 ≤ 4) : kC E l yX7_digest wsX7_digest rmX7_digest [.ref m0] (List.flatten [oc m0 7 [.ref A0, .ref V0, .ref Z0, .int (nI k9), .int th, .int pl, .int hz, .ref D0, .ref W0, .ref T0, .int (nI m9), .int tw, .int tc], ac E A0 985 (mA h w (nI d) s0 z st he ke tu ca tr co la), ac E D0 192 D, ac E W0 192 Q]) kL (fun (r : Int64) (u : fP) => r = digF h w d s0 z st he ke tu ca tr co la m9 k9) (fun (u : fP) => List.flatten [oc m0 7 [.ref A0, .ref V0, .ref Z0, .int (nI k9), .int 0, .int pl, .int hz, .ref D0, .ref W0, .ref T0, .int (nI m9), .int tw, .int tc], ac E A0 985 (mA h w (nI d) s0 z st he ke tu ca tr co la), ac E D0 192 u.1, ac E W0 192 u.2]) 0 0 := by
  refine k_body (cc := cX7_digest) (maxL := 5) (ret := (some .long)) (by decide) rfl (Nat.le_of_ble_eq_true rfl) ?_
  intro pp ee sx mm aa bb me cd H locs AA ls C0 hr hlk hnm hl hw
  obtain ⟨hx, hb, hml, hown, hts⟩ := id C0
  have hl : lv_has ls 5 [(0, .ref m0)] := hl
  have hw : kW E AA sx (List.flatten [oc m0 7 [.ref A0, .ref V0, .ref Z0, .int (nI k9), .int th, .int pl, .int hz, .ref D0, .ref W0, .ref T0, .int (nI m9), .int tw, .int tc], ac E A0 985 (mA h w (nI d) s0 z st he ke tu ca tr co la), ac E D0 192 D, ac E W0 192 Q]) H locs := hw
  have hn9 := kG_n hG
  have hG9 := id hG
  obtain ⟨hG1, hG2, hG3, hG4⟩ := hG9
  have hinX7 : ∀ w ∈ u_ws RX7 TX7 13, w ∈ wsX7_digest := by decide +kernel
  refine lv_aload_n hx hb dX7_digest_0 rfl (lv_at hl 0 rfl) ?_
  refine lv_iconst (v := 0) hx hb dX7_digest_1 (by decide) ?_
  refine k_put (pre := []) C0 hw hinX7 tyX7 tyX7_ok nmX7 rfl 4 (by decide) (hts (.fieldLink RX7 32 "SlabDunesModel" "thrown" "I") (by decide +kernel)) rfl rfl (ty := .int) (by decide +kernel) rfl rfl (Nat.le_of_ble_eq_true rfl) dX7_digest_2 (fun H locs hw => ?_)
  have hw : kW E AA sx (List.flatten [oc m0 7 [.ref A0, .ref V0, .ref Z0, .int (nI k9), .int 0, .int pl, .int hz, .ref D0, .ref W0, .ref T0, .int (nI m9), .int tw, .int tc], ac E A0 985 (mA h w (nI d) s0 z st he ke tu ca tr co la), ac E D0 192 D, ac E W0 192 Q]) H locs := hw
  refine lv_ldc2 (v := 3301) hx hb hown (hts (.constantLong RX7 220 3301) (by decide +kernel)) dX7_digest_5 ?_
  refine lv_aload_n hx hb dX7_digest_8 rfl (lv_at hl 0 rfl) ?_
  refine k_get (pre := []) C0 hw hinX7 rfl 10 (by decide) (hts (.fieldLink RX7 202 "SlabDunesModel" "textLong" "I") (by decide +kernel)) rfl rfl dX7_digest_9 ?_
  refine lv_i2l (v := Int32.toInt64 (nI m9)) hx hb dX7_digest_12 rfl ?_
  refine k_S (As := [.long 3301, .long (Int32.toInt64 (nI m9))]) (rest := []) (pre := []) (mid := []) C0 (c_X7_sums l E 3301 (Int32.toInt64 (nI m9)) ) (va_cwS 2 hts gX7_digest_X7_sums rfl rfl rfl (by decide +kernel) ⟨Nat.le_of_ble_eq_true rfl, Nat.le_of_ble_eq_true rfl⟩) hw rfl (fun _ => []) (fun _ => rfl) rfl hl.1 rfl (Nat.le_of_ble_eq_true rfl) dX7_digest_13 ⟨Nat.le_of_ble_eq_true rfl, Nat.le_of_ble_eq_true rfl⟩ (fun r u H locs hq99 hw => ?_)
  subst hq99
  have hw : kW E AA sx (List.flatten [oc m0 7 [.ref A0, .ref V0, .ref Z0, .int (nI k9), .int 0, .int pl, .int hz, .ref D0, .ref W0, .ref T0, .int (nI m9), .int tw, .int tc], ac E A0 985 (mA h w (nI d) s0 z st he ke tu ca tr co la), ac E D0 192 D, ac E W0 192 Q]) H locs := hw
  refine W.eq (g2 := F0 mm 16 ls [.long (31 * 3301 + (Int32.toInt64 (nI m9)))]) rfl ?_
  refine lv_lstore_n (lv' := [(1, .long (31 * 3301 + (Int32.toInt64 (nI m9)))), (0, .ref m0)]) hx hb dX7_digest_16 rfl hl (by decide) rfl (fun ls hl => ?_)
  refine lv_iconst (v := 0) hx hb dX7_digest_17 (by decide) ?_
  refine lv_istore_n (lv' := [(3, .int 0), (1, .long (31 * 3301 + (Int32.toInt64 (nI m9)))), (0, .ref m0)]) hx hb dX7_digest_18 rfl hl (by decide) rfl (fun ls hl => ?_)
  have loop19 : ∀ (nn : Nat) (i : Nat) (x9 : Int64), (i ≤ 9) → (x9 = dgF (valN (nI h) (nI w) (nI d) s0 z st) (31 * 3301 + (nI m9).toInt64) i) → 9 - i < nn → ∀ (H : Heap) (locs : List Loc) (ls : Array Slot), lv_has ls 5 [(3, .int (nI i)), (1, .long x9), (0, .ref m0)] → kW E AA sx (List.flatten [oc m0 7 [.ref A0, .ref V0, .ref Z0, .int (nI k9), .int 0, .int pl, .int hz, .ref D0, .ref W0, .ref T0, .int (nI m9), .int tw, .int tc], ac E A0 985 (mA h w (nI d) s0 z st he ke tu ca tr co la), ac E D0 192 D, ac E W0 192 Q]) H locs → W pp l ee rmX7_digest sx mm aa bb me cd H locs 0 0 (kEnd E kL (fun (r : Int64) (u : fP) => r = digF h w d s0 z st he ke tu ca tr co la m9 k9) (fun (u : fP) => List.flatten [oc m0 7 [.ref A0, .ref V0, .ref Z0, .int (nI k9), .int 0, .int pl, .int hz, .ref D0, .ref W0, .ref T0, .int (nI m9), .int tw, .int tc], ac E A0 985 (mA h w (nI d) s0 z st he ke tu ca tr co la), ac E D0 192 u.1, ac E W0 192 u.2]) bb aa sx AA 0 0) (F0 mm 19 ls []) := by
    intro nn
    induction nn with
    | zero => intro i x9 hi hxx hm19; exact absurd hm19 (Nat.not_lt_zero _)
    | succ nn ih19 =>
      intro i x9 hi hxx hm19 H locs ls hl hw
      refine lv_iload_n hx hb dX7_digest_19 rfl (lv_at hl 0 rfl) ?_
      refine lv_bipush (v := 9) hx hb dX7_digest_20 (by decide) ?_
      refine lv_icmp_ge (tgt := 43) hx hb dX7_digest_22 (by decide) (fun c22 => ?_) (fun c22 => ?_)
      · have c22 : 9 ≤ i := (nI_leI (a := 9) (b := i) (by omega) (by omega)).mp c22
        refine lv_iconst (v := 0) hx hb dX7_digest_43 (by decide) ?_
        refine lv_istore_n (lv' := [(3, .int 0), (1, .long x9), (0, .ref m0)]) hx hb dX7_digest_44 rfl hl (by decide) rfl (fun ls hl => ?_)
        have loop45 : ∀ (nn : Nat) (i : Nat) (x9 : Int64), (i ≤ h * w) → (x9 = dgC (cvN h w d he ke tu ca tr) (dgF (valN (nI h) (nI w) (nI d) s0 z st) (31 * 3301 + (nI m9).toInt64) 9) i) → h * w - i < nn → ∀ (H : Heap) (locs : List Loc) (ls : Array Slot), lv_has ls 5 [(3, .int (nI i)), (1, .long x9), (0, .ref m0)] → kW E AA sx (List.flatten [oc m0 7 [.ref A0, .ref V0, .ref Z0, .int (nI k9), .int 0, .int pl, .int hz, .ref D0, .ref W0, .ref T0, .int (nI m9), .int tw, .int tc], ac E A0 985 (mA h w (nI d) s0 z st he ke tu ca tr co la), ac E D0 192 D, ac E W0 192 Q]) H locs → W pp l ee rmX7_digest sx mm aa bb me cd H locs 0 0 (kEnd E kL (fun (r : Int64) (u : fP) => r = digF h w d s0 z st he ke tu ca tr co la m9 k9) (fun (u : fP) => List.flatten [oc m0 7 [.ref A0, .ref V0, .ref Z0, .int (nI k9), .int 0, .int pl, .int hz, .ref D0, .ref W0, .ref T0, .int (nI m9), .int tw, .int tc], ac E A0 985 (mA h w (nI d) s0 z st he ke tu ca tr co la), ac E D0 192 u.1, ac E W0 192 u.2]) bb aa sx AA 0 0) (F0 mm 45 ls []) := by
          intro nn
          induction nn with
          | zero => intro i x9 hi hxx hm45; exact absurd hm45 (Nat.not_lt_zero _)
          | succ nn ih45 =>
            intro i x9 hi hxx hm45 H locs ls hl hw
            refine lv_iload_n hx hb dX7_digest_45 rfl (lv_at hl 0 rfl) ?_
            refine lv_aload_n hx hb dX7_digest_46 rfl (lv_at hl 2 rfl) ?_
            refine k_V (As := []) (rest := [.int (nI i)]) (pre := []) (mid := [oc m0 7 [.ref A0, .ref V0, .ref Z0, .int (nI k9), .int 0, .int pl, .int hz, .ref D0, .ref W0, .ref T0, .int (nI m9), .int tw, .int tc], ac E A0 985 (mA h w (nI d) s0 z st he ke tu ca tr co la)]) C0 (c_X7_cells l E m0 A0 V0 Z0 D0 W0 T0 (nI k9) 0 pl hz (nI m9) tw tc h w (nI d) s0 z st he ke tu ca tr co la ) (cwV 0 hts gX7_digest_X7_cells rfl rfl rfl (by decide +kernel) ⟨Nat.le_of_ble_eq_true rfl, Nat.le_of_ble_eq_true rfl⟩) hw rfl (fun _ => [oc m0 7 [.ref A0, .ref V0, .ref Z0, .int (nI k9), .int 0, .int pl, .int hz, .ref D0, .ref W0, .ref T0, .int (nI m9), .int tw, .int tc], ac E A0 985 (mA h w (nI d) s0 z st he ke tu ca tr co la)]) (fun _ => rfl) 0 7 rfl rfl rfl rfl hl.1 rfl (Nat.le_of_ble_eq_true rfl) dX7_digest_47 ⟨Nat.le_of_ble_eq_true rfl, Nat.le_of_ble_eq_true rfl⟩ (fun r u H locs hq99 hw => ?_)
            subst hq99
            have hw : kW E AA sx (List.flatten [oc m0 7 [.ref A0, .ref V0, .ref Z0, .int (nI k9), .int 0, .int pl, .int hz, .ref D0, .ref W0, .ref T0, .int (nI m9), .int tw, .int tc], ac E A0 985 (mA h w (nI d) s0 z st he ke tu ca tr co la), ac E D0 192 D, ac E W0 192 Q]) H locs := hw
            refine W.eq (g2 := F0 mm 50 ls [.int (nI (h * w)), .int (nI i)]) rfl ?_
            refine lv_icmp_ge (tgt := 88) hx hb dX7_digest_50 (by decide) (fun c50 => ?_) (fun c50 => ?_)
            · have c50 : (h * w) ≤ i := (nI_leI (a := (h * w)) (b := i) (by omega) (by omega)).mp c50
              refine lv_iconst (v := 0) hx hb dX7_digest_88 (by decide) ?_
              refine lv_istore_n (lv' := [(3, .int 0), (1, .long x9), (0, .ref m0)]) hx hb dX7_digest_89 rfl hl (by decide) rfl (fun ls hl => ?_)
              have loop90 : ∀ (nn : Nat) (i : Nat) (x9 : Int64), (i ≤ 12) → (x9 = dgF (co) (dgC (cvN h w d he ke tu ca tr) (dgF (valN (nI h) (nI w) (nI d) s0 z st) (31 * 3301 + (nI m9).toInt64) 9) (h * w)) i) → 12 - i < nn → ∀ (H : Heap) (locs : List Loc) (ls : Array Slot), lv_has ls 5 [(3, .int (nI i)), (1, .long x9), (0, .ref m0)] → kW E AA sx (List.flatten [oc m0 7 [.ref A0, .ref V0, .ref Z0, .int (nI k9), .int 0, .int pl, .int hz, .ref D0, .ref W0, .ref T0, .int (nI m9), .int tw, .int tc], ac E A0 985 (mA h w (nI d) s0 z st he ke tu ca tr co la), ac E D0 192 D, ac E W0 192 Q]) H locs → W pp l ee rmX7_digest sx mm aa bb me cd H locs 0 0 (kEnd E kL (fun (r : Int64) (u : fP) => r = digF h w d s0 z st he ke tu ca tr co la m9 k9) (fun (u : fP) => List.flatten [oc m0 7 [.ref A0, .ref V0, .ref Z0, .int (nI k9), .int 0, .int pl, .int hz, .ref D0, .ref W0, .ref T0, .int (nI m9), .int tw, .int tc], ac E A0 985 (mA h w (nI d) s0 z st he ke tu ca tr co la), ac E D0 192 u.1, ac E W0 192 u.2]) bb aa sx AA 0 0) (F0 mm 90 ls []) := by
                intro nn
                induction nn with
                | zero => intro i x9 hi hxx hm90; exact absurd hm90 (Nat.not_lt_zero _)
                | succ nn ih90 =>
                  intro i x9 hi hxx hm90 H locs ls hl hw
                  refine lv_iload_n hx hb dX7_digest_90 rfl (lv_at hl 0 rfl) ?_
                  refine lv_bipush (v := 12) hx hb dX7_digest_91 (by decide) ?_
                  refine lv_icmp_ge (tgt := 117) hx hb dX7_digest_93 (by decide) (fun c93 => ?_) (fun c93 => ?_)
                  · have c93 : 12 ≤ i := (nI_leI (a := 12) (b := i) (by omega) (by omega)).mp c93
                    refine lv_iconst (v := 0) hx hb dX7_digest_117 (by decide) ?_
                    refine lv_istore_n (lv' := [(3, .int 0), (1, .long x9), (0, .ref m0)]) hx hb dX7_digest_118 rfl hl (by decide) rfl (fun ls hl => ?_)
                    have loop119 : ∀ (nn : Nat) (i : Nat) (x9 : Int64), (i ≤ 4) → (x9 = dgF (la) (dgF (co) (dgC (cvN h w d he ke tu ca tr) (dgF (valN (nI h) (nI w) (nI d) s0 z st) (31 * 3301 + (nI m9).toInt64) 9) (h * w)) 12) i) → 4 - i < nn → ∀ (H : Heap) (locs : List Loc) (ls : Array Slot), lv_has ls 5 [(3, .int (nI i)), (1, .long x9), (0, .ref m0)] → kW E AA sx (List.flatten [oc m0 7 [.ref A0, .ref V0, .ref Z0, .int (nI k9), .int 0, .int pl, .int hz, .ref D0, .ref W0, .ref T0, .int (nI m9), .int tw, .int tc], ac E A0 985 (mA h w (nI d) s0 z st he ke tu ca tr co la), ac E D0 192 D, ac E W0 192 Q]) H locs → W pp l ee rmX7_digest sx mm aa bb me cd H locs 0 0 (kEnd E kL (fun (r : Int64) (u : fP) => r = digF h w d s0 z st he ke tu ca tr co la m9 k9) (fun (u : fP) => List.flatten [oc m0 7 [.ref A0, .ref V0, .ref Z0, .int (nI k9), .int 0, .int pl, .int hz, .ref D0, .ref W0, .ref T0, .int (nI m9), .int tw, .int tc], ac E A0 985 (mA h w (nI d) s0 z st he ke tu ca tr co la), ac E D0 192 u.1, ac E W0 192 u.2]) bb aa sx AA 0 0) (F0 mm 119 ls []) := by
                      intro nn
                      induction nn with
                      | zero => intro i x9 hi hxx hm119; exact absurd hm119 (Nat.not_lt_zero _)
                      | succ nn ih119 =>
                        intro i x9 hi hxx hm119 H locs ls hl hw
                        refine lv_iload_n hx hb dX7_digest_119 rfl (lv_at hl 0 rfl) ?_
                        refine lv_iconst (v := 4) hx hb dX7_digest_120 (by decide) ?_
                        refine lv_icmp_ge (tgt := 145) hx hb dX7_digest_121 (by decide) (fun c121 => ?_) (fun c121 => ?_)
                        · have c121 : 4 ≤ i := (nI_leI (a := 4) (b := i) (by omega) (by omega)).mp c121
                          refine lv_iconst (v := 1) hx hb dX7_digest_145 (by decide) ?_
                          refine lv_istore_n (lv' := [(3, .int 1), (1, .long x9), (0, .ref m0)]) hx hb dX7_digest_146 rfl hl (by decide) rfl (fun ls hl => ?_)
                          have loop147 : ∀ (nn : Nat) (i : Nat) (x9 : Int64) (D9 : Nat → Int32) (Q9 : Nat → Int32), (i ≤ 5) → (x9 = dgF (fun t8 => nI (dnN h w he (nI (t8 + 1)))) (dgF (la) (dgF (co) (dgC (cvN h w d he ke tu ca tr) (dgF (valN (nI h) (nI w) (nI d) s0 z st) (31 * 3301 + (nI m9).toInt64) 9) (h * w)) 12) 4) i) → 5 - i < nn → ∀ (H : Heap) (locs : List Loc) (ls : Array Slot), lv_has ls 5 [(3, .int (nI (i + 1))), (1, .long x9), (0, .ref m0)] → kW E AA sx (List.flatten [oc m0 7 [.ref A0, .ref V0, .ref Z0, .int (nI k9), .int 0, .int pl, .int hz, .ref D0, .ref W0, .ref T0, .int (nI m9), .int tw, .int tc], ac E A0 985 (mA h w (nI d) s0 z st he ke tu ca tr co la), ac E D0 192 D9, ac E W0 192 Q9]) H locs → W pp l ee rmX7_digest sx mm aa bb me cd H locs 0 0 (kEnd E kL (fun (r : Int64) (u : fP) => r = digF h w d s0 z st he ke tu ca tr co la m9 k9) (fun (u : fP) => List.flatten [oc m0 7 [.ref A0, .ref V0, .ref Z0, .int (nI k9), .int 0, .int pl, .int hz, .ref D0, .ref W0, .ref T0, .int (nI m9), .int tw, .int tc], ac E A0 985 (mA h w (nI d) s0 z st he ke tu ca tr co la), ac E D0 192 u.1, ac E W0 192 u.2]) bb aa sx AA 0 0) (F0 mm 147 ls []) := by
                            intro nn
                            induction nn with
                            | zero => intro i x9 D9 Q9 hi hxx hm147; exact absurd hm147 (Nat.not_lt_zero _)
                            | succ nn ih147 =>
                              intro i x9 D9 Q9 hi hxx hm147 H locs ls hl hw
                              refine lv_iload_n hx hb dX7_digest_147 rfl (lv_at hl 0 rfl) ?_
                              refine lv_bipush (v := 6) hx hb dX7_digest_148 (by decide) ?_
                              refine lv_icmp_ge (tgt := 170) hx hb dX7_digest_150 (by decide) (fun c150 => ?_) (fun c150 => ?_)
                              · have c150 : 6 ≤ (i + 1) := (nI_leI (a := 6) (b := (i + 1)) (by omega) (by omega)).mp c150
                                refine lv_lload_n hx hb dX7_digest_170 rfl (lv_at hl 1 rfl) ?_
                                refine lv_aload_n hx hb dX7_digest_171 rfl (lv_at hl 2 rfl) ?_
                                refine k_get (pre := []) C0 hw hinX7 rfl 3 (by decide) (hts (.fieldLink RX7 36 "SlabDunesModel" "savedMany" "I") (by decide +kernel)) rfl rfl dX7_digest_172 ?_
                                refine lv_i2l (v := Int32.toInt64 (nI k9)) hx hb dX7_digest_175 rfl ?_
                                refine k_S (As := [.long x9, .long (Int32.toInt64 (nI k9))]) (rest := []) (pre := []) (mid := []) C0 (c_X7_sums l E x9 (Int32.toInt64 (nI k9)) ) (va_cwS 2 hts gX7_digest_X7_sums rfl rfl rfl (by decide +kernel) ⟨Nat.le_of_ble_eq_true rfl, Nat.le_of_ble_eq_true rfl⟩) hw rfl (fun _ => []) (fun _ => rfl) rfl hl.1 rfl (Nat.le_of_ble_eq_true rfl) dX7_digest_176 ⟨Nat.le_of_ble_eq_true rfl, Nat.le_of_ble_eq_true rfl⟩ (fun r u H locs hq99 hw => ?_)
                                subst hq99
                                have hw : kW E AA sx (List.flatten [oc m0 7 [.ref A0, .ref V0, .ref Z0, .int (nI k9), .int 0, .int pl, .int hz, .ref D0, .ref W0, .ref T0, .int (nI m9), .int tw, .int tc], ac E A0 985 (mA h w (nI d) s0 z st he ke tu ca tr co la), ac E D0 192 D9, ac E W0 192 Q9]) H locs := hw
                                refine W.eq (g2 := F0 mm 179 ls [.long (31 * x9 + (Int32.toInt64 (nI k9)))]) rfl ?_
                                -- leaf 0
                                exact k_lret C0 hr hlk hw (D9, Q9) (rfl) (by rw [hxx, show i = 5 by omega, digF]) (Nat.le_of_ble_eq_true rfl) (Nat.le_of_ble_eq_true rfl) dX7_digest_179
                              · have c150 : ¬ 6 ≤ (i + 1) := fun h99 => c150 ((nI_leI (a := 6) (b := (i + 1)) (by omega) (by omega)).mpr h99)
                                refine lv_lload_n hx hb dX7_digest_153 rfl (lv_at hl 1 rfl) ?_
                                refine lv_aload_n hx hb dX7_digest_154 rfl (lv_at hl 2 rfl) ?_
                                refine lv_iload_n hx hb dX7_digest_155 rfl (lv_at hl 0 rfl) ?_
                                refine k_V (As := [.int (nI (i + 1))]) (rest := [.long x9]) (pre := []) (mid := [oc m0 7 [.ref A0, .ref V0, .ref Z0, .int (nI k9), .int 0, .int pl, .int hz, .ref D0, .ref W0, .ref T0, .int (nI m9), .int tw, .int tc], ac E A0 985 (mA h w (nI d) s0 z st he ke tu ca tr co la), ac E D0 192 D9, ac E W0 192 Q9]) C0 (c_X7_laysDunes l E m0 A0 V0 Z0 D0 W0 T0 (nI k9) 0 pl hz (nI m9) tw tc h w (nI d) s0 z st he ke tu ca tr co la D9 Q9 (nI (i + 1)) (by first | assumption | omega)) (cwV 1 hts gX7_digest_X7_laysDunes rfl rfl rfl (by decide +kernel) ⟨Nat.le_of_ble_eq_true rfl, Nat.le_of_ble_eq_true rfl⟩) hw rfl (fun (u156 : fP) => [oc m0 7 [.ref A0, .ref V0, .ref Z0, .int (nI k9), .int 0, .int pl, .int hz, .ref D0, .ref W0, .ref T0, .int (nI m9), .int tw, .int tc], ac E A0 985 (mA h w (nI d) s0 z st he ke tu ca tr co la), ac E D0 192 u156.1, ac E W0 192 u156.2]) (fun _ => rfl) 0 7 rfl rfl rfl rfl hl.1 rfl (Nat.le_of_ble_eq_true rfl) dX7_digest_156 ⟨Nat.le_of_ble_eq_true rfl, Nat.le_of_ble_eq_true rfl⟩ (fun r u156 H locs hq99 hw => ?_)
                                obtain ⟨r156, rfl⟩ : ∃ z, z = r := ⟨_, rfl⟩
                                have h156 : r156 = nI (dnL h w he (nI (i + 1)) (h * w)).2 ∧ dnR (h * w) u156.1 (dnL h w he (nI (i + 1)) (h * w)).1 := hq99
                                have hw : kW E AA sx (List.flatten [oc m0 7 [.ref A0, .ref V0, .ref Z0, .int (nI k9), .int 0, .int pl, .int hz, .ref D0, .ref W0, .ref T0, .int (nI m9), .int tw, .int tc], ac E A0 985 (mA h w (nI d) s0 z st he ke tu ca tr co la), ac E D0 192 u156.1, ac E W0 192 u156.2]) H locs := hw
                                refine W.eq (g2 := F0 mm 159 ls [.int r156, .long x9]) rfl ?_
                                refine lv_i2l (v := Int32.toInt64 r156) hx hb dX7_digest_159 rfl ?_
                                refine k_S (As := [.long x9, .long (Int32.toInt64 r156)]) (rest := []) (pre := []) (mid := []) C0 (c_X7_sums l E x9 (Int32.toInt64 r156) ) (va_cwS 2 hts gX7_digest_X7_sums rfl rfl rfl (by decide +kernel) ⟨Nat.le_of_ble_eq_true rfl, Nat.le_of_ble_eq_true rfl⟩) hw rfl (fun _ => []) (fun _ => rfl) rfl hl.1 rfl (Nat.le_of_ble_eq_true rfl) dX7_digest_160 ⟨Nat.le_of_ble_eq_true rfl, Nat.le_of_ble_eq_true rfl⟩ (fun r u H locs hq99 hw => ?_)
                                subst hq99
                                have hw : kW E AA sx (List.flatten [oc m0 7 [.ref A0, .ref V0, .ref Z0, .int (nI k9), .int 0, .int pl, .int hz, .ref D0, .ref W0, .ref T0, .int (nI m9), .int tw, .int tc], ac E A0 985 (mA h w (nI d) s0 z st he ke tu ca tr co la), ac E D0 192 u156.1, ac E W0 192 u156.2]) H locs := hw
                                refine W.eq (g2 := F0 mm 163 ls [.long (31 * x9 + (Int32.toInt64 r156))]) rfl ?_
                                refine lv_lstore_n (lv' := [(1, .long (31 * x9 + (Int32.toInt64 r156))), (3, .int (nI (i + 1))), (0, .ref m0)]) hx hb dX7_digest_163 rfl hl (by decide) rfl (fun ls hl => ?_)
                                refine lv_iinc (v := nI (i + 1 + 1)) (lv' := [(3, .int (nI (i + 1 + 1))), (1, .long (31 * x9 + (Int32.toInt64 r156))), (0, .ref m0)]) hx hb dX7_digest_164 hl (k := 1) rfl (nI_1 _) (by decide) rfl (fun ls hl => ?_)
                                refine lv_goto (tgt := 147) hx hb dX7_digest_167 (by decide) ?_
                                -- back 0
                                exact ih147 (i + 1) (31 * x9 + (Int32.toInt64 r156)) u156.1 u156.2 (by first | assumption | omega) (by rw [hxx, dgF_s _ _ i, h156.1]; rfl) (by omega) H _ ls (lv_sub hl [0, 1, 2] rfl) hw
                          exact loop147 ((5 - 0) + 1) 0 x9 D Q (by first | assumption | omega) (by rw [hxx, show i = 4 by omega, dgF_0]) (Nat.lt_succ_self _) H _ ls (lv_sub hl [0, 1, 2] rfl) hw
                        · have c121 : ¬ 4 ≤ i := fun h99 => c121 ((nI_leI (a := 4) (b := i) (by omega) (by omega)).mpr h99)
                          refine lv_lload_n hx hb dX7_digest_124 rfl (lv_at hl 1 rfl) ?_
                          refine lv_aload_n hx hb dX7_digest_125 rfl (lv_at hl 2 rfl) ?_
                          refine k_get (pre := []) C0 hw hinX7 rfl 0 (by decide) (hts (.fieldLink RX7 7 "SlabDunesModel" "all" "[I") (by decide +kernel)) rfl rfl dX7_digest_126 ?_
                          refine lv_bipush (v := 21) hx hb dX7_digest_129 (by decide) ?_
                          refine lv_iload_n hx hb dX7_digest_131 rfl (lv_at hl 0 rfl) ?_
                          refine lv_iadd hx hb dX7_digest_132 ?_
                          refine W.eq (g2 := F0 mm 133 ls [.int (nI (21 + i)), .ref A0, .long x9]) (congrArg (fun z9 => F0 mm 133 ls [.int z9, .ref A0, .long x9]) (show (21 + (nI i) : Int32) = nI (21 + i) from nI_add 21 _)) ?_
                          refine k_iald (pre := [oc m0 7 [.ref A0, .ref V0, .ref Z0, .int (nI k9), .int 0, .int pl, .int hz, .ref D0, .ref W0, .ref T0, .int (nI m9), .int tw, .int tc]]) (l1 := []) C0 hw (i := nI (21 + i)) (kinN (by omega) (by decide)) dX7_digest_133 ?_
                          refine W.eq (g2 := F0 mm 134 ls [.int (la i), .long x9]) (congrArg (fun z9 => F0 mm 134 ls [.int z9, .long x9]) (show ((mA h w (nI d) s0 z st he ke tu ca tr co la) (Int32.toNatClampNeg (nI (21 + i))) : Int32) = la i from mA_ln (by omega))) ?_
                          refine lv_i2l (v := Int32.toInt64 (la i)) hx hb dX7_digest_134 rfl ?_
                          refine k_S (As := [.long x9, .long (Int32.toInt64 (la i))]) (rest := []) (pre := []) (mid := []) C0 (c_X7_sums l E x9 (Int32.toInt64 (la i)) ) (va_cwS 2 hts gX7_digest_X7_sums rfl rfl rfl (by decide +kernel) ⟨Nat.le_of_ble_eq_true rfl, Nat.le_of_ble_eq_true rfl⟩) hw rfl (fun _ => []) (fun _ => rfl) rfl hl.1 rfl (Nat.le_of_ble_eq_true rfl) dX7_digest_135 ⟨Nat.le_of_ble_eq_true rfl, Nat.le_of_ble_eq_true rfl⟩ (fun r u H locs hq99 hw => ?_)
                          subst hq99
                          have hw : kW E AA sx (List.flatten [oc m0 7 [.ref A0, .ref V0, .ref Z0, .int (nI k9), .int 0, .int pl, .int hz, .ref D0, .ref W0, .ref T0, .int (nI m9), .int tw, .int tc], ac E A0 985 (mA h w (nI d) s0 z st he ke tu ca tr co la), ac E D0 192 D, ac E W0 192 Q]) H locs := hw
                          refine W.eq (g2 := F0 mm 138 ls [.long (31 * x9 + (Int32.toInt64 (la i)))]) rfl ?_
                          refine lv_lstore_n (lv' := [(1, .long (31 * x9 + (Int32.toInt64 (la i)))), (3, .int (nI i)), (0, .ref m0)]) hx hb dX7_digest_138 rfl hl (by decide) rfl (fun ls hl => ?_)
                          refine lv_iinc (v := nI (i + 1)) (lv' := [(3, .int (nI (i + 1))), (1, .long (31 * x9 + (Int32.toInt64 (la i)))), (0, .ref m0)]) hx hb dX7_digest_139 hl (k := 1) rfl (nI_1 _) (by decide) rfl (fun ls hl => ?_)
                          refine lv_goto (tgt := 119) hx hb dX7_digest_142 (by decide) ?_
                          -- back 0
                          exact ih119 (i + 1) (31 * x9 + (Int32.toInt64 (la i))) (by first | assumption | omega) (by rw [hxx, dgF_s _ _ i]) (by omega) H _ ls (lv_sub hl [0, 1, 2] rfl) hw
                    exact loop119 ((4 - 0) + 1) 0 x9 (Nat.zero_le _) (by rw [hxx, show i = 12 by omega, dgF_0]) (Nat.lt_succ_self _) H _ ls (lv_sub hl [0, 1, 2] rfl) hw
                  · have c93 : ¬ 12 ≤ i := fun h99 => c93 ((nI_leI (a := 12) (b := i) (by omega) (by omega)).mpr h99)
                    refine lv_lload_n hx hb dX7_digest_96 rfl (lv_at hl 1 rfl) ?_
                    refine lv_aload_n hx hb dX7_digest_97 rfl (lv_at hl 2 rfl) ?_
                    refine k_get (pre := []) C0 hw hinX7 rfl 0 (by decide) (hts (.fieldLink RX7 7 "SlabDunesModel" "all" "[I") (by decide +kernel)) rfl rfl dX7_digest_98 ?_
                    refine lv_bipush (v := 9) hx hb dX7_digest_101 (by decide) ?_
                    refine lv_iload_n hx hb dX7_digest_103 rfl (lv_at hl 0 rfl) ?_
                    refine lv_iadd hx hb dX7_digest_104 ?_
                    refine W.eq (g2 := F0 mm 105 ls [.int (nI (9 + i)), .ref A0, .long x9]) (congrArg (fun z9 => F0 mm 105 ls [.int z9, .ref A0, .long x9]) (show (9 + (nI i) : Int32) = nI (9 + i) from nI_add 9 _)) ?_
                    refine k_iald (pre := [oc m0 7 [.ref A0, .ref V0, .ref Z0, .int (nI k9), .int 0, .int pl, .int hz, .ref D0, .ref W0, .ref T0, .int (nI m9), .int tw, .int tc]]) (l1 := []) C0 hw (i := nI (9 + i)) (kinN (by omega) (by decide)) dX7_digest_105 ?_
                    refine W.eq (g2 := F0 mm 106 ls [.int (co i), .long x9]) (congrArg (fun z9 => F0 mm 106 ls [.int z9, .long x9]) (show ((mA h w (nI d) s0 z st he ke tu ca tr co la) (Int32.toNatClampNeg (nI (9 + i))) : Int32) = co i from mA_cn (by omega))) ?_
                    refine lv_i2l (v := Int32.toInt64 (co i)) hx hb dX7_digest_106 rfl ?_
                    refine k_S (As := [.long x9, .long (Int32.toInt64 (co i))]) (rest := []) (pre := []) (mid := []) C0 (c_X7_sums l E x9 (Int32.toInt64 (co i)) ) (va_cwS 2 hts gX7_digest_X7_sums rfl rfl rfl (by decide +kernel) ⟨Nat.le_of_ble_eq_true rfl, Nat.le_of_ble_eq_true rfl⟩) hw rfl (fun _ => []) (fun _ => rfl) rfl hl.1 rfl (Nat.le_of_ble_eq_true rfl) dX7_digest_107 ⟨Nat.le_of_ble_eq_true rfl, Nat.le_of_ble_eq_true rfl⟩ (fun r u H locs hq99 hw => ?_)
                    subst hq99
                    have hw : kW E AA sx (List.flatten [oc m0 7 [.ref A0, .ref V0, .ref Z0, .int (nI k9), .int 0, .int pl, .int hz, .ref D0, .ref W0, .ref T0, .int (nI m9), .int tw, .int tc], ac E A0 985 (mA h w (nI d) s0 z st he ke tu ca tr co la), ac E D0 192 D, ac E W0 192 Q]) H locs := hw
                    refine W.eq (g2 := F0 mm 110 ls [.long (31 * x9 + (Int32.toInt64 (co i)))]) rfl ?_
                    refine lv_lstore_n (lv' := [(1, .long (31 * x9 + (Int32.toInt64 (co i)))), (3, .int (nI i)), (0, .ref m0)]) hx hb dX7_digest_110 rfl hl (by decide) rfl (fun ls hl => ?_)
                    refine lv_iinc (v := nI (i + 1)) (lv' := [(3, .int (nI (i + 1))), (1, .long (31 * x9 + (Int32.toInt64 (co i)))), (0, .ref m0)]) hx hb dX7_digest_111 hl (k := 1) rfl (nI_1 _) (by decide) rfl (fun ls hl => ?_)
                    refine lv_goto (tgt := 90) hx hb dX7_digest_114 (by decide) ?_
                    -- back 0
                    exact ih90 (i + 1) (31 * x9 + (Int32.toInt64 (co i))) (by first | assumption | omega) (by rw [hxx, dgF_s _ _ i]) (by omega) H _ ls (lv_sub hl [0, 1, 2] rfl) hw
              exact loop90 ((12 - 0) + 1) 0 x9 (Nat.zero_le _) (by rw [hxx, show i = h * w by omega, dgF_0]) (Nat.lt_succ_self _) H _ ls (lv_sub hl [0, 1, 2] rfl) hw
            · have c50 : ¬ (h * w) ≤ i := fun h99 => c50 ((nI_leI (a := (h * w)) (b := i) (by omega) (by omega)).mpr h99)
              refine lv_iconst (v := 0) hx hb dX7_digest_53 (by decide) ?_
              refine lv_istore (lv' := [(4, .int 0), (3, .int (nI i)), (1, .long x9), (0, .ref m0)]) hx hb dX7_digest_54 hl (by decide) rfl (fun ls hl => ?_)
              have loop56 : ∀ (nn : Nat) (i8 : Nat) (x8 : Int64), (i8 ≤ 6) → (x8 = dgF (cvN h w d he ke tu ca tr i) x9 i8) → 6 - i8 < nn → ∀ (H : Heap) (locs : List Loc) (ls : Array Slot), lv_has ls 5 [(4, .int (nI i8)), (3, .int (nI i)), (1, .long x8), (0, .ref m0)] → kW E AA sx (List.flatten [oc m0 7 [.ref A0, .ref V0, .ref Z0, .int (nI k9), .int 0, .int pl, .int hz, .ref D0, .ref W0, .ref T0, .int (nI m9), .int tw, .int tc], ac E A0 985 (mA h w (nI d) s0 z st he ke tu ca tr co la), ac E D0 192 D, ac E W0 192 Q]) H locs → W pp l ee rmX7_digest sx mm aa bb me cd H locs 0 0 (kEnd E kL (fun (r : Int64) (u : fP) => r = digF h w d s0 z st he ke tu ca tr co la m9 k9) (fun (u : fP) => List.flatten [oc m0 7 [.ref A0, .ref V0, .ref Z0, .int (nI k9), .int 0, .int pl, .int hz, .ref D0, .ref W0, .ref T0, .int (nI m9), .int tw, .int tc], ac E A0 985 (mA h w (nI d) s0 z st he ke tu ca tr co la), ac E D0 192 u.1, ac E W0 192 u.2]) bb aa sx AA 0 0) (F0 mm 56 ls []) := by
                intro nn
                induction nn with
                | zero => intro i8 x8 hi8 hxx8 hm56; exact absurd hm56 (Nat.not_lt_zero _)
                | succ nn ih56 =>
                  intro i8 x8 hi8 hxx8 hm56 H locs ls hl hw
                  refine lv_iload hx hb dX7_digest_56 (lv_at hl 0 rfl) ?_
                  refine lv_bipush (v := 6) hx hb dX7_digest_58 (by decide) ?_
                  refine lv_icmp_ge (tgt := 82) hx hb dX7_digest_60 (by decide) (fun c60 => ?_) (fun c60 => ?_)
                  · have c60 : 6 ≤ i8 := (nI_leI (a := 6) (b := i8) (by omega) (by omega)).mp c60
                    refine lv_iinc (v := nI (i + 1)) (lv' := [(3, .int (nI (i + 1))), (4, .int (nI i8)), (1, .long x8), (0, .ref m0)]) hx hb dX7_digest_82 hl (k := 1) rfl (nI_1 _) (by decide) rfl (fun ls hl => ?_)
                    refine lv_goto (tgt := 45) hx hb dX7_digest_85 (by decide) ?_
                    -- back 0
                    exact ih45 (i + 1) x8 (by first | assumption | omega) (by rw [hxx8, show i8 = 6 by omega, hxx, dgC_s _ _ i]) (by omega) H _ ls (lv_sub hl [0, 2, 3] rfl) hw
                  · have c60 : ¬ 6 ≤ i8 := fun h99 => c60 ((nI_leI (a := 6) (b := i8) (by omega) (by omega)).mpr h99)
                    refine lv_lload_n hx hb dX7_digest_63 rfl (lv_at hl 2 rfl) ?_
                    refine lv_aload_n hx hb dX7_digest_64 rfl (lv_at hl 3 rfl) ?_
                    refine lv_iload_n hx hb dX7_digest_65 rfl (lv_at hl 1 rfl) ?_
                    refine lv_iload hx hb dX7_digest_66 (lv_at hl 0 rfl) ?_
                    refine k_V (As := [.int (nI i), .int (nI i8)]) (rest := [.long x8]) (pre := []) (mid := [oc m0 7 [.ref A0, .ref V0, .ref Z0, .int (nI k9), .int 0, .int pl, .int hz, .ref D0, .ref W0, .ref T0, .int (nI m9), .int tw, .int tc], ac E A0 985 (mA h w (nI d) s0 z st he ke tu ca tr co la)]) C0 (c_X7_cellValue l E m0 A0 V0 Z0 D0 W0 T0 (nI k9) 0 pl hz (nI m9) tw tc h w d s0 z st he ke tu ca tr co la i i8 (by first | assumption | omega) (by first | assumption | omega) (by first | assumption | omega) (by first | assumption | omega)) (cwV 2 hts gX7_digest_X7_cellValue rfl rfl rfl (by decide +kernel) ⟨Nat.le_of_ble_eq_true rfl, Nat.le_of_ble_eq_true rfl⟩) hw rfl (fun _ => [oc m0 7 [.ref A0, .ref V0, .ref Z0, .int (nI k9), .int 0, .int pl, .int hz, .ref D0, .ref W0, .ref T0, .int (nI m9), .int tw, .int tc], ac E A0 985 (mA h w (nI d) s0 z st he ke tu ca tr co la)]) (fun _ => rfl) 0 7 rfl rfl rfl rfl hl.1 rfl (Nat.le_of_ble_eq_true rfl) dX7_digest_68 ⟨Nat.le_of_ble_eq_true rfl, Nat.le_of_ble_eq_true rfl⟩ (fun r u H locs hq99 hw => ?_)
                    subst hq99
                    have hw : kW E AA sx (List.flatten [oc m0 7 [.ref A0, .ref V0, .ref Z0, .int (nI k9), .int 0, .int pl, .int hz, .ref D0, .ref W0, .ref T0, .int (nI m9), .int tw, .int tc], ac E A0 985 (mA h w (nI d) s0 z st he ke tu ca tr co la), ac E D0 192 D, ac E W0 192 Q]) H locs := hw
                    refine W.eq (g2 := F0 mm 71 ls [.int (cvN h w d he ke tu ca tr i i8), .long x8]) rfl ?_
                    refine lv_i2l (v := Int32.toInt64 (cvN h w d he ke tu ca tr i i8)) hx hb dX7_digest_71 rfl ?_
                    refine k_S (As := [.long x8, .long (Int32.toInt64 (cvN h w d he ke tu ca tr i i8))]) (rest := []) (pre := []) (mid := []) C0 (c_X7_sums l E x8 (Int32.toInt64 (cvN h w d he ke tu ca tr i i8)) ) (va_cwS 2 hts gX7_digest_X7_sums rfl rfl rfl (by decide +kernel) ⟨Nat.le_of_ble_eq_true rfl, Nat.le_of_ble_eq_true rfl⟩) hw rfl (fun _ => []) (fun _ => rfl) rfl hl.1 rfl (Nat.le_of_ble_eq_true rfl) dX7_digest_72 ⟨Nat.le_of_ble_eq_true rfl, Nat.le_of_ble_eq_true rfl⟩ (fun r u H locs hq99 hw => ?_)
                    subst hq99
                    have hw : kW E AA sx (List.flatten [oc m0 7 [.ref A0, .ref V0, .ref Z0, .int (nI k9), .int 0, .int pl, .int hz, .ref D0, .ref W0, .ref T0, .int (nI m9), .int tw, .int tc], ac E A0 985 (mA h w (nI d) s0 z st he ke tu ca tr co la), ac E D0 192 D, ac E W0 192 Q]) H locs := hw
                    refine W.eq (g2 := F0 mm 75 ls [.long (31 * x8 + (Int32.toInt64 (cvN h w d he ke tu ca tr i i8)))]) rfl ?_
                    refine lv_lstore_n (lv' := [(1, .long (31 * x8 + (Int32.toInt64 (cvN h w d he ke tu ca tr i i8)))), (4, .int (nI i8)), (3, .int (nI i)), (0, .ref m0)]) hx hb dX7_digest_75 rfl hl (by decide) rfl (fun ls hl => ?_)
                    refine lv_iinc (v := nI (i8 + 1)) (lv' := [(4, .int (nI (i8 + 1))), (1, .long (31 * x8 + (Int32.toInt64 (cvN h w d he ke tu ca tr i i8)))), (3, .int (nI i)), (0, .ref m0)]) hx hb dX7_digest_76 hl (k := 1) rfl (nI_1 _) (by decide) rfl (fun ls hl => ?_)
                    refine lv_goto (tgt := 56) hx hb dX7_digest_79 (by decide) ?_
                    -- back 0
                    exact ih56 (i8 + 1) (31 * x8 + (Int32.toInt64 (cvN h w d he ke tu ca tr i i8))) (by first | assumption | omega) (by rw [hxx8, dgF_s _ _ i8]) (by omega) H _ ls (lv_sub hl [0, 2, 1, 3] rfl) hw
              exact loop56 ((6 - 0) + 1) 0 x9 (by first | assumption | omega) (by rw [dgF_0]) (Nat.lt_succ_self _) H _ ls (lv_sub hl [0, 1, 2, 3] rfl) hw
        exact loop45 ((h * w - 0) + 1) 0 x9 (Nat.zero_le _) (by rw [hxx, show i = 9 by omega, dgC_0]) (Nat.lt_succ_self _) H _ ls (lv_sub hl [0, 1, 2] rfl) hw
      · have c22 : ¬ 9 ≤ i := fun h99 => c22 ((nI_leI (a := 9) (b := i) (by omega) (by omega)).mpr h99)
        refine lv_lload_n hx hb dX7_digest_25 rfl (lv_at hl 1 rfl) ?_
        refine lv_aload_n hx hb dX7_digest_26 rfl (lv_at hl 2 rfl) ?_
        refine k_get (pre := []) C0 hw hinX7 rfl 0 (by decide) (hts (.fieldLink RX7 7 "SlabDunesModel" "all" "[I") (by decide +kernel)) rfl rfl dX7_digest_27 ?_
        refine lv_iload_n hx hb dX7_digest_30 rfl (lv_at hl 0 rfl) ?_
        refine k_iald (pre := [oc m0 7 [.ref A0, .ref V0, .ref Z0, .int (nI k9), .int 0, .int pl, .int hz, .ref D0, .ref W0, .ref T0, .int (nI m9), .int tw, .int tc]]) (l1 := []) C0 hw (i := nI i) (kinN (by omega) (by decide)) dX7_digest_31 ?_
        refine W.eq (g2 := F0 mm 32 ls [.int (valN (nI h) (nI w) (nI d) s0 z st i), .long x9]) (congrArg (fun z9 => F0 mm 32 ls [.int z9, .long x9]) (show ((mA h w (nI d) s0 z st he ke tu ca tr co la) (Int32.toNatClampNeg (nI i)) : Int32) = valN (nI h) (nI w) (nI d) s0 z st i from mA_val (by omega))) ?_
        refine lv_i2l (v := Int32.toInt64 (valN (nI h) (nI w) (nI d) s0 z st i)) hx hb dX7_digest_32 rfl ?_
        refine k_S (As := [.long x9, .long (Int32.toInt64 (valN (nI h) (nI w) (nI d) s0 z st i))]) (rest := []) (pre := []) (mid := []) C0 (c_X7_sums l E x9 (Int32.toInt64 (valN (nI h) (nI w) (nI d) s0 z st i)) ) (va_cwS 2 hts gX7_digest_X7_sums rfl rfl rfl (by decide +kernel) ⟨Nat.le_of_ble_eq_true rfl, Nat.le_of_ble_eq_true rfl⟩) hw rfl (fun _ => []) (fun _ => rfl) rfl hl.1 rfl (Nat.le_of_ble_eq_true rfl) dX7_digest_33 ⟨Nat.le_of_ble_eq_true rfl, Nat.le_of_ble_eq_true rfl⟩ (fun r u H locs hq99 hw => ?_)
        subst hq99
        have hw : kW E AA sx (List.flatten [oc m0 7 [.ref A0, .ref V0, .ref Z0, .int (nI k9), .int 0, .int pl, .int hz, .ref D0, .ref W0, .ref T0, .int (nI m9), .int tw, .int tc], ac E A0 985 (mA h w (nI d) s0 z st he ke tu ca tr co la), ac E D0 192 D, ac E W0 192 Q]) H locs := hw
        refine W.eq (g2 := F0 mm 36 ls [.long (31 * x9 + (Int32.toInt64 (valN (nI h) (nI w) (nI d) s0 z st i)))]) rfl ?_
        refine lv_lstore_n (lv' := [(1, .long (31 * x9 + (Int32.toInt64 (valN (nI h) (nI w) (nI d) s0 z st i)))), (3, .int (nI i)), (0, .ref m0)]) hx hb dX7_digest_36 rfl hl (by decide) rfl (fun ls hl => ?_)
        refine lv_iinc (v := nI (i + 1)) (lv' := [(3, .int (nI (i + 1))), (1, .long (31 * x9 + (Int32.toInt64 (valN (nI h) (nI w) (nI d) s0 z st i)))), (0, .ref m0)]) hx hb dX7_digest_37 hl (k := 1) rfl (nI_1 _) (by decide) rfl (fun ls hl => ?_)
        refine lv_goto (tgt := 19) hx hb dX7_digest_40 (by decide) ?_
        -- back 0
        exact ih19 (i + 1) (31 * x9 + (Int32.toInt64 (valN (nI h) (nI w) (nI d) s0 z st i))) (by first | assumption | omega) (by rw [hxx, dgF_s _ _ i]) (by omega) H _ ls (lv_sub hl [0, 1, 2] rfl) hw
  exact loop19 ((9 - 0) + 1) 0 (31 * 3301 + Int32.toInt64 (nI m9)) (Nat.zero_le _) (by rw [dgF_0]) (Nat.lt_succ_self _) H _ ls (lv_sub hl [0, 1, 2] rfl) hw

abbrev rmX7_dunesAfter : Room := { frames := 6, cells := 0, slots := 0, locals := 145 }
set_option maxHeartbeats 4000000 in
set_option maxRecDepth 100000 in
theorem c_X7_dunesAfter_ok (l : Launch) (E : kE) (m0 : Nat) (A0 : Nat) (V0 : Nat) (Z0 : Nat) (D0 : Nat) (W0 : Nat) (T0 : Nat) (sm : Int32) (th : Int32) (pl : Int32) (hz : Int32) (tl : Int32) (tw : Int32) (tc : Int32) (h : Nat) (w : Nat) (d : Nat) (n0 : Nat) (z : Int32) (st : Nat → Int32) (he : Nat → Int32) (ke : Nat → Int32) (tu : Nat → Int32) (ca : Nat → Int32) (tr : Nat → Int32) (co : Nat → Int32) (la : Nat → Int32) (Y : Nat → Int32) (D : Nat → Int32) (Q : Nat → Int32) (m9 : Nat) (hp : Nat) (B : Nat) (t : Int32) (hm9 : m9 ≤ 1000) (hG : kG h w) (hd : d < 4) (hn0 : n0 < 2147483648) (hst0 : st 0 = nI hp) (hp8 : hp ≤ 8) (hp1 : 1 ≤ hp) (hH : hI (h * w) he B) (hB : B < 1000000) (hsl : 1 ≤ (st 3).toInt) (hv : ¬ t < 1 ∧ ¬ 99 < t) : kC E l yX7_dunesAfter wsX7_dunesAfter rmX7_dunesAfter [.ref m0, .int (nI m9), .int t] (List.flatten [oc m0 7 [.ref A0, .ref V0, .ref Z0, .int sm, .int th, .int pl, .int hz, .ref D0, .ref W0, .ref T0, .int tl, .int tw, .int tc], ac E A0 985 (mA h w (nI d) (nI n0) z st he ke tu ca tr co la), ac E Z0 985 Y, ac E D0 192 D, ac E W0 192 Q]) kI (fun (r : Int32) (u : (Int32 × Int32) × fP) => r = nI (dnN h w (blo h w d hp st tu ca m9 (n0, he, tr, co, la)).2.2.1 t)) (fun (u : (Int32 × Int32) × fP) => List.flatten [oc m0 7 [.ref A0, .ref V0, .ref Z0, .int sm, .int 0, .int u.1.1, .int u.1.2, .ref D0, .ref W0, .ref T0, .int tl, .int tw, .int tc], ac E A0 985 (mA h w (nI d) (nI n0) z st he ke tu ca tr co la), ac E Z0 985 (mA h w (nI d) (nI n0) z st he ke tu ca tr co la), ac E D0 192 u.2.1, ac E W0 192 u.2.2]) 0 0 := by
  refine k_body (cc := cX7_dunesAfter) (maxL := 5) (ret := (some .int)) (by decide) rfl (Nat.le_of_ble_eq_true rfl) ?_
  intro pp ee sx mm aa bb me cd H locs AA ls C0 hr hlk hnm hl hw
  obtain ⟨hx, hb, hml, hown, hts⟩ := id C0
  have hl : lv_has ls 5 [(0, .ref m0), (1, .int (nI m9)), (2, .int t)] := hl
  have hw : kW E AA sx (List.flatten [oc m0 7 [.ref A0, .ref V0, .ref Z0, .int sm, .int th, .int pl, .int hz, .ref D0, .ref W0, .ref T0, .int tl, .int tw, .int tc], ac E A0 985 (mA h w (nI d) (nI n0) z st he ke tu ca tr co la), ac E Z0 985 Y, ac E D0 192 D, ac E W0 192 Q]) H locs := hw
  have hn9 := kG_n hG
  have hG9 := id hG
  obtain ⟨hG1, hG2, hG3, hG4⟩ := hG9
  refine lv_aload_n hx hb dX7_dunesAfter_0 rfl (lv_at hl 0 rfl) ?_
  refine lv_iload_n hx hb dX7_dunesAfter_1 rfl (lv_at hl 1 rfl) ?_
  refine lv_i2l (v := Int32.toInt64 (nI m9)) hx hb dX7_dunesAfter_2 rfl ?_
  refine lv_lconst (v := 0) hx hb dX7_dunesAfter_3 (by decide) ?_
  refine lv_ldc2 (v := 1000) hx hb hown (hts (.constantLong RX7 190 1000) (by decide +kernel)) dX7_dunesAfter_4 ?_
  refine k_S (As := [.long (Int32.toInt64 (nI m9)), .long 0, .long 1000]) (rest := [.ref m0]) (pre := []) (mid := []) C0 (c_X7_in_0_1000 l E (nI m9) ) (va_cwS 3 hts gX7_dunesAfter_X7_in rfl rfl rfl (by decide +kernel) ⟨Nat.le_of_ble_eq_true rfl, Nat.le_of_ble_eq_true rfl⟩) hw rfl (fun _ => []) (fun _ => rfl) rfl hl.1 rfl (Nat.le_of_ble_eq_true rfl) dX7_dunesAfter_7 ⟨Nat.le_of_ble_eq_true rfl, Nat.le_of_ble_eq_true rfl⟩ (fun r u H locs hq99 hw => ?_)
  subst hq99
  have hw : kW E AA sx (List.flatten [oc m0 7 [.ref A0, .ref V0, .ref Z0, .int sm, .int th, .int pl, .int hz, .ref D0, .ref W0, .ref T0, .int tl, .int tw, .int tc], ac E A0 985 (mA h w (nI d) (nI n0) z st he ke tu ca tr co la), ac E Z0 985 Y, ac E D0 192 D, ac E W0 192 Q]) H locs := hw
  refine W.eq (g2 := F0 mm 10 ls [.int (if ¬ (nI m9) < 0 ∧ ¬ 1000 < (nI m9) then 1 else 0), .ref m0]) rfl ?_
  refine lv_if_eq (tgt := 24) hx hb dX7_dunesAfter_10 (by decide) (fun c10 => absurd c10 (kp10 (⟨nI_pos (by omega), nI_nlt (a := 1000) (b := m9) (by omega) (by omega)⟩))) (fun c10 => ?_)
  have c10 := kb10f c10
  refine lv_iload_n hx hb dX7_dunesAfter_13 rfl (lv_at hl 2 rfl) ?_
  refine k_S (As := [.int t]) (rest := [.ref m0]) (pre := []) (mid := []) C0 (c_X7_isThreshold l E t ) (va_cwS 1 hts gX7_dunesAfter_X7_isThreshold rfl rfl rfl (by decide +kernel) ⟨Nat.le_of_ble_eq_true rfl, Nat.le_of_ble_eq_true rfl⟩) hw rfl (fun _ => []) (fun _ => rfl) rfl hl.1 rfl (Nat.le_of_ble_eq_true rfl) dX7_dunesAfter_14 ⟨Nat.le_of_ble_eq_true rfl, Nat.le_of_ble_eq_true rfl⟩ (fun r u H locs hq99 hw => ?_)
  subst hq99
  have hw : kW E AA sx (List.flatten [oc m0 7 [.ref A0, .ref V0, .ref Z0, .int sm, .int th, .int pl, .int hz, .ref D0, .ref W0, .ref T0, .int tl, .int tw, .int tc], ac E A0 985 (mA h w (nI d) (nI n0) z st he ke tu ca tr co la), ac E Z0 985 Y, ac E D0 192 D, ac E W0 192 Q]) H locs := hw
  refine W.eq (g2 := F0 mm 17 ls [.int (if ¬ t < 1 ∧ ¬ 99 < t then 1 else 0), .ref m0]) rfl ?_
  refine lv_if_eq (tgt := 24) hx hb dX7_dunesAfter_17 (by decide) (fun c17 => absurd c17 (kp10 (hv))) (fun c17 => ?_)
  have c17 := kb10f c17
  refine lv_iconst (v := 1) hx hb dX7_dunesAfter_20 (by decide) ?_
  refine lv_goto (tgt := 25) hx hb dX7_dunesAfter_21 (by decide) ?_
  refine lv_iconst (v := 1) hx hb dX7_dunesAfter_25 (by decide) ?_
  refine k_V (As := [.int 1, .int 1]) (rest := []) (pre := []) (mid := [oc m0 7 [.ref A0, .ref V0, .ref Z0, .int sm, .int th, .int pl, .int hz, .ref D0, .ref W0, .ref T0, .int tl, .int tw, .int tc]]) C0 (c_X7_goes_ok l E m0 A0 V0 Z0 D0 W0 T0 sm th pl hz tl tw tc 1 1 (by decide) (by decide)) (cwV 2 hts gX7_dunesAfter_X7_goes rfl rfl rfl (by decide +kernel) ⟨Nat.le_of_ble_eq_true rfl, Nat.le_of_ble_eq_true rfl⟩) hw rfl (fun _ => [oc m0 7 [.ref A0, .ref V0, .ref Z0, .int sm, .int 0, .int pl, .int hz, .ref D0, .ref W0, .ref T0, .int tl, .int tw, .int tc]]) (fun _ => rfl) 0 7 rfl rfl rfl rfl hl.1 rfl (Nat.le_of_ble_eq_true rfl) dX7_dunesAfter_26 ⟨Nat.le_of_ble_eq_true rfl, Nat.le_of_ble_eq_true rfl⟩ (fun r u H locs hq99 hw => ?_)
  subst r
  have hw : kW E AA sx (List.flatten [oc m0 7 [.ref A0, .ref V0, .ref Z0, .int sm, .int 0, .int pl, .int hz, .ref D0, .ref W0, .ref T0, .int tl, .int tw, .int tc], ac E A0 985 (mA h w (nI d) (nI n0) z st he ke tu ca tr co la), ac E Z0 985 Y, ac E D0 192 D, ac E W0 192 Q]) H locs := hw
  refine W.eq (g2 := F0 mm 29 ls [.int 1]) rfl ?_
  refine lv_if_ne (tgt := 34) hx hb dX7_dunesAfter_29 (by decide) (fun c29 => ?_) (fun c29 => absurd c29 (by decide))
  refine lv_aload_n hx hb dX7_dunesAfter_34 rfl (lv_at hl 0 rfl) ?_
  refine k_V (As := []) (rest := []) (pre := []) (mid := [oc m0 7 [.ref A0, .ref V0, .ref Z0, .int sm, .int 0, .int pl, .int hz, .ref D0, .ref W0, .ref T0, .int tl, .int tw, .int tc], ac E A0 985 (mA h w (nI d) (nI n0) z st he ke tu ca tr co la), ac E Z0 985 Y]) C0 (c_X7_lays l E m0 A0 V0 Z0 D0 W0 T0 sm 0 pl hz tl tw tc (mA h w (nI d) (nI n0) z st he ke tu ca tr co la) Y ) (cwV 0 hts gX7_dunesAfter_X7_lays rfl rfl rfl (by decide +kernel) ⟨Nat.le_of_ble_eq_true rfl, Nat.le_of_ble_eq_true rfl⟩) hw rfl (fun _ => [oc m0 7 [.ref A0, .ref V0, .ref Z0, .int sm, .int 0, .int pl, .int hz, .ref D0, .ref W0, .ref T0, .int tl, .int tw, .int tc], ac E A0 985 (mA h w (nI d) (nI n0) z st he ke tu ca tr co la), ac E Z0 985 (mA h w (nI d) (nI n0) z st he ke tu ca tr co la)]) (fun _ => rfl) 0 7 rfl rfl rfl rfl hl.1 rfl (Nat.le_of_ble_eq_true rfl) dX7_dunesAfter_35 ⟨Nat.le_of_ble_eq_true rfl, Nat.le_of_ble_eq_true rfl⟩ (fun r u H locs hq99 hw => ?_)
  have hw : kW E AA sx (List.flatten [oc m0 7 [.ref A0, .ref V0, .ref Z0, .int sm, .int 0, .int pl, .int hz, .ref D0, .ref W0, .ref T0, .int tl, .int tw, .int tc], ac E A0 985 (mA h w (nI d) (nI n0) z st he ke tu ca tr co la), ac E Z0 985 (mA h w (nI d) (nI n0) z st he ke tu ca tr co la), ac E D0 192 D, ac E W0 192 Q]) H locs := hw
  refine W.eq (g2 := F0 mm 38 ls []) rfl ?_
  refine lv_aload_n hx hb dX7_dunesAfter_38 rfl (lv_at hl 0 rfl) ?_
  refine lv_iload_n hx hb dX7_dunesAfter_39 rfl (lv_at hl 1 rfl) ?_
  refine k_V (As := [.int (nI m9)]) (rest := []) (pre := []) (mid := [oc m0 7 [.ref A0, .ref V0, .ref Z0, .int sm, .int 0, .int pl, .int hz, .ref D0, .ref W0, .ref T0, .int tl, .int tw, .int tc], ac E A0 985 (mA h w (nI d) (nI n0) z st he ke tu ca tr co la)]) C0 (c_X7_runs l E m0 A0 V0 Z0 D0 W0 T0 sm 0 pl hz tl tw tc h w d n0 z st he ke tu ca tr co la m9 hp B (by first | assumption | omega) (by first | assumption | omega) (by first | assumption | omega) (by first | assumption | omega) (by first | assumption | omega) (by first | assumption | omega) (by first | assumption | omega) (by first | assumption | omega) (by first | assumption | omega) (by first | assumption | omega)) (cwV 1 hts gX7_dunesAfter_X7_runs rfl rfl rfl (by decide +kernel) ⟨Nat.le_of_ble_eq_true rfl, Nat.le_of_ble_eq_true rfl⟩) hw rfl (fun (u40 : Int32 × Int32) => [oc m0 7 [.ref A0, .ref V0, .ref Z0, .int sm, .int 0, .int u40.1, .int u40.2, .ref D0, .ref W0, .ref T0, .int tl, .int tw, .int tc], ac E A0 985 (mA h w (nI d) (nI (blo h w d hp st tu ca m9 (n0, he, tr, co, la)).2.1) z st ((blo h w d hp st tu ca m9 (n0, he, tr, co, la)).2.2.1) ke tu ca ((blo h w d hp st tu ca m9 (n0, he, tr, co, la)).2.2.2.1) ((blo h w d hp st tu ca m9 (n0, he, tr, co, la)).2.2.2.2.1) ((blo h w d hp st tu ca m9 (n0, he, tr, co, la)).2.2.2.2.2))]) (fun _ => rfl) 0 7 rfl rfl rfl rfl hl.1 rfl (Nat.le_of_ble_eq_true rfl) dX7_dunesAfter_40 ⟨Nat.le_of_ble_eq_true rfl, Nat.le_of_ble_eq_true rfl⟩ (fun r u40 H locs hq99 hw => ?_)
  obtain ⟨r40, rfl⟩ : ∃ z, z = r := ⟨_, rfl⟩
  have h40 : r40 = nI (blo h w d hp st tu ca m9 (n0, he, tr, co, la)).1 := hq99
  have hw : kW E AA sx (List.flatten [oc m0 7 [.ref A0, .ref V0, .ref Z0, .int sm, .int 0, .int u40.1, .int u40.2, .ref D0, .ref W0, .ref T0, .int tl, .int tw, .int tc], ac E A0 985 (mA h w (nI d) (nI (blo h w d hp st tu ca m9 (n0, he, tr, co, la)).2.1) z st ((blo h w d hp st tu ca m9 (n0, he, tr, co, la)).2.2.1) ke tu ca ((blo h w d hp st tu ca m9 (n0, he, tr, co, la)).2.2.2.1) ((blo h w d hp st tu ca m9 (n0, he, tr, co, la)).2.2.2.2.1) ((blo h w d hp st tu ca m9 (n0, he, tr, co, la)).2.2.2.2.2)), ac E Z0 985 (mA h w (nI d) (nI n0) z st he ke tu ca tr co la), ac E D0 192 D, ac E W0 192 Q]) H locs := hw
  refine W.eq (g2 := F0 mm 43 ls [.int r40]) rfl ?_
  refine lv_istore_n (lv' := [(3, .int r40), (0, .ref m0), (1, .int (nI m9)), (2, .int t)]) hx hb dX7_dunesAfter_43 rfl hl (by decide) rfl (fun ls hl => ?_)
  have h97 := blo_1 h w d hp st tu ca (n0, he, tr, co, la) m9
  have hl : lv_has ls 5 [(3, .int (nI (blo h w d hp st tu ca m9 (n0, he, tr, co, la)).1)), (0, .ref m0), (1, .int (nI m9)), (2, .int t)] := by have h99 : r40 = nI (blo h w d hp st tu ca m9 (n0, he, tr, co, la)).1 := (h40); rw [h99] at hl; exact hl
  refine lv_iload_n hx hb dX7_dunesAfter_44 rfl (lv_at hl 0 rfl) ?_
  refine lv_if_ge (tgt := 52) hx hb dX7_dunesAfter_45 (by decide) (fun c45 => ?_) (fun c45 => False.elim (c45 (nI_pos' (by omega))))
  have c45 : 0 ≤ ((blo h w d hp st tu ca m9 (n0, he, tr, co, la)).1) := (nI_leI (a := 0) (b := ((blo h w d hp st tu ca m9 (n0, he, tr, co, la)).1)) (by omega) (by omega)).mp c45
  refine lv_aload_n hx hb dX7_dunesAfter_52 rfl (lv_at hl 1 rfl) ?_
  refine lv_iload_n hx hb dX7_dunesAfter_53 rfl (lv_at hl 3 rfl) ?_
  have hw : kW E AA sx (List.flatten [ac E W0 192 Q, oc m0 7 [.ref A0, .ref V0, .ref Z0, .int sm, .int 0, .int u40.1, .int u40.2, .ref D0, .ref W0, .ref T0, .int tl, .int tw, .int tc], ac E A0 985 (mA h w (nI d) (nI (blo h w d hp st tu ca m9 (n0, he, tr, co, la)).2.1) z st ((blo h w d hp st tu ca m9 (n0, he, tr, co, la)).2.2.1) ke tu ca ((blo h w d hp st tu ca m9 (n0, he, tr, co, la)).2.2.2.1) ((blo h w d hp st tu ca m9 (n0, he, tr, co, la)).2.2.2.2.1) ((blo h w d hp st tu ca m9 (n0, he, tr, co, la)).2.2.2.2.2)), ac E Z0 985 (mA h w (nI d) (nI n0) z st he ke tu ca tr co la), ac E D0 192 D]) H locs := kW.front (pre := [oc m0 7 [.ref A0, .ref V0, .ref Z0, .int sm, .int 0, .int u40.1, .int u40.2, .ref D0, .ref W0, .ref T0, .int tl, .int tw, .int tc], ac E A0 985 (mA h w (nI d) (nI (blo h w d hp st tu ca m9 (n0, he, tr, co, la)).2.1) z st ((blo h w d hp st tu ca m9 (n0, he, tr, co, la)).2.2.1) ke tu ca ((blo h w d hp st tu ca m9 (n0, he, tr, co, la)).2.2.2.1) ((blo h w d hp st tu ca m9 (n0, he, tr, co, la)).2.2.2.2.1) ((blo h w d hp st tu ca m9 (n0, he, tr, co, la)).2.2.2.2.2)), ac E Z0 985 (mA h w (nI d) (nI n0) z st he ke tu ca tr co la), ac E D0 192 D]) hw
  have hw : kW E AA sx (List.flatten [ac E D0 192 D, ac E W0 192 Q, oc m0 7 [.ref A0, .ref V0, .ref Z0, .int sm, .int 0, .int u40.1, .int u40.2, .ref D0, .ref W0, .ref T0, .int tl, .int tw, .int tc], ac E A0 985 (mA h w (nI d) (nI (blo h w d hp st tu ca m9 (n0, he, tr, co, la)).2.1) z st ((blo h w d hp st tu ca m9 (n0, he, tr, co, la)).2.2.1) ke tu ca ((blo h w d hp st tu ca m9 (n0, he, tr, co, la)).2.2.2.1) ((blo h w d hp st tu ca m9 (n0, he, tr, co, la)).2.2.2.2.1) ((blo h w d hp st tu ca m9 (n0, he, tr, co, la)).2.2.2.2.2)), ac E Z0 985 (mA h w (nI d) (nI n0) z st he ke tu ca tr co la)]) H locs := kW.front (pre := [ac E W0 192 Q, oc m0 7 [.ref A0, .ref V0, .ref Z0, .int sm, .int 0, .int u40.1, .int u40.2, .ref D0, .ref W0, .ref T0, .int tl, .int tw, .int tc], ac E A0 985 (mA h w (nI d) (nI (blo h w d hp st tu ca m9 (n0, he, tr, co, la)).2.1) z st ((blo h w d hp st tu ca m9 (n0, he, tr, co, la)).2.2.1) ke tu ca ((blo h w d hp st tu ca m9 (n0, he, tr, co, la)).2.2.2.1) ((blo h w d hp st tu ca m9 (n0, he, tr, co, la)).2.2.2.2.1) ((blo h w d hp st tu ca m9 (n0, he, tr, co, la)).2.2.2.2.2)), ac E Z0 985 (mA h w (nI d) (nI n0) z st he ke tu ca tr co la)]) hw
  have hw : kW E AA sx (List.flatten [ac E A0 985 (mA h w (nI d) (nI (blo h w d hp st tu ca m9 (n0, he, tr, co, la)).2.1) z st ((blo h w d hp st tu ca m9 (n0, he, tr, co, la)).2.2.1) ke tu ca ((blo h w d hp st tu ca m9 (n0, he, tr, co, la)).2.2.2.1) ((blo h w d hp st tu ca m9 (n0, he, tr, co, la)).2.2.2.2.1) ((blo h w d hp st tu ca m9 (n0, he, tr, co, la)).2.2.2.2.2)), ac E D0 192 D, ac E W0 192 Q, oc m0 7 [.ref A0, .ref V0, .ref Z0, .int sm, .int 0, .int u40.1, .int u40.2, .ref D0, .ref W0, .ref T0, .int tl, .int tw, .int tc], ac E Z0 985 (mA h w (nI d) (nI n0) z st he ke tu ca tr co la)]) H locs := kW.front (pre := [ac E D0 192 D, ac E W0 192 Q, oc m0 7 [.ref A0, .ref V0, .ref Z0, .int sm, .int 0, .int u40.1, .int u40.2, .ref D0, .ref W0, .ref T0, .int tl, .int tw, .int tc]]) hw
  have hw : kW E AA sx (List.flatten [oc m0 7 [.ref A0, .ref V0, .ref Z0, .int sm, .int 0, .int u40.1, .int u40.2, .ref D0, .ref W0, .ref T0, .int tl, .int tw, .int tc], ac E A0 985 (mA h w (nI d) (nI (blo h w d hp st tu ca m9 (n0, he, tr, co, la)).2.1) z st ((blo h w d hp st tu ca m9 (n0, he, tr, co, la)).2.2.1) ke tu ca ((blo h w d hp st tu ca m9 (n0, he, tr, co, la)).2.2.2.1) ((blo h w d hp st tu ca m9 (n0, he, tr, co, la)).2.2.2.2.1) ((blo h w d hp st tu ca m9 (n0, he, tr, co, la)).2.2.2.2.2)), ac E D0 192 D, ac E W0 192 Q, ac E Z0 985 (mA h w (nI d) (nI n0) z st he ke tu ca tr co la)]) H locs := kW.front (pre := [ac E A0 985 (mA h w (nI d) (nI (blo h w d hp st tu ca m9 (n0, he, tr, co, la)).2.1) z st ((blo h w d hp st tu ca m9 (n0, he, tr, co, la)).2.2.1) ke tu ca ((blo h w d hp st tu ca m9 (n0, he, tr, co, la)).2.2.2.1) ((blo h w d hp st tu ca m9 (n0, he, tr, co, la)).2.2.2.2.1) ((blo h w d hp st tu ca m9 (n0, he, tr, co, la)).2.2.2.2.2)), ac E D0 192 D, ac E W0 192 Q]) hw
  refine k_V (As := [.int t]) (rest := []) (pre := []) (mid := [oc m0 7 [.ref A0, .ref V0, .ref Z0, .int sm, .int 0, .int u40.1, .int u40.2, .ref D0, .ref W0, .ref T0, .int tl, .int tw, .int tc], ac E A0 985 (mA h w (nI d) (nI (blo h w d hp st tu ca m9 (n0, he, tr, co, la)).2.1) z st ((blo h w d hp st tu ca m9 (n0, he, tr, co, la)).2.2.1) ke tu ca ((blo h w d hp st tu ca m9 (n0, he, tr, co, la)).2.2.2.1) ((blo h w d hp st tu ca m9 (n0, he, tr, co, la)).2.2.2.2.1) ((blo h w d hp st tu ca m9 (n0, he, tr, co, la)).2.2.2.2.2)), ac E D0 192 D, ac E W0 192 Q]) C0 (c_X7_laysDunes l E m0 A0 V0 Z0 D0 W0 T0 sm 0 u40.1 u40.2 tl tw tc h w (nI d) (nI (blo h w d hp st tu ca m9 (n0, he, tr, co, la)).2.1) z st ((blo h w d hp st tu ca m9 (n0, he, tr, co, la)).2.2.1) ke tu ca ((blo h w d hp st tu ca m9 (n0, he, tr, co, la)).2.2.2.1) ((blo h w d hp st tu ca m9 (n0, he, tr, co, la)).2.2.2.2.1) ((blo h w d hp st tu ca m9 (n0, he, tr, co, la)).2.2.2.2.2) D Q t (by first | assumption | omega)) (cwV 1 hts gX7_dunesAfter_X7_laysDunes rfl rfl rfl (by decide +kernel) ⟨Nat.le_of_ble_eq_true rfl, Nat.le_of_ble_eq_true rfl⟩) hw rfl (fun (u54 : fP) => [oc m0 7 [.ref A0, .ref V0, .ref Z0, .int sm, .int 0, .int u40.1, .int u40.2, .ref D0, .ref W0, .ref T0, .int tl, .int tw, .int tc], ac E A0 985 (mA h w (nI d) (nI (blo h w d hp st tu ca m9 (n0, he, tr, co, la)).2.1) z st ((blo h w d hp st tu ca m9 (n0, he, tr, co, la)).2.2.1) ke tu ca ((blo h w d hp st tu ca m9 (n0, he, tr, co, la)).2.2.2.1) ((blo h w d hp st tu ca m9 (n0, he, tr, co, la)).2.2.2.2.1) ((blo h w d hp st tu ca m9 (n0, he, tr, co, la)).2.2.2.2.2)), ac E D0 192 u54.1, ac E W0 192 u54.2]) (fun _ => rfl) 0 7 rfl rfl rfl rfl hl.1 rfl (Nat.le_of_ble_eq_true rfl) dX7_dunesAfter_54 ⟨Nat.le_of_ble_eq_true rfl, Nat.le_of_ble_eq_true rfl⟩ (fun r u54 H locs hq99 hw => ?_)
  obtain ⟨r54, rfl⟩ : ∃ z, z = r := ⟨_, rfl⟩
  have h54 : r54 = nI (dnL h w ((blo h w d hp st tu ca m9 (n0, he, tr, co, la)).2.2.1) t (h * w)).2 ∧ dnR (h * w) u54.1 (dnL h w ((blo h w d hp st tu ca m9 (n0, he, tr, co, la)).2.2.1) t (h * w)).1 := hq99
  have hw : kW E AA sx (List.flatten [oc m0 7 [.ref A0, .ref V0, .ref Z0, .int sm, .int 0, .int u40.1, .int u40.2, .ref D0, .ref W0, .ref T0, .int tl, .int tw, .int tc], ac E A0 985 (mA h w (nI d) (nI (blo h w d hp st tu ca m9 (n0, he, tr, co, la)).2.1) z st ((blo h w d hp st tu ca m9 (n0, he, tr, co, la)).2.2.1) ke tu ca ((blo h w d hp st tu ca m9 (n0, he, tr, co, la)).2.2.2.1) ((blo h w d hp st tu ca m9 (n0, he, tr, co, la)).2.2.2.2.1) ((blo h w d hp st tu ca m9 (n0, he, tr, co, la)).2.2.2.2.2)), ac E D0 192 u54.1, ac E W0 192 u54.2, ac E Z0 985 (mA h w (nI d) (nI n0) z st he ke tu ca tr co la)]) H locs := hw
  refine W.eq (g2 := F0 mm 57 ls [.int r54]) rfl ?_
  refine lv_istore (lv' := [(4, .int r54), (3, .int (nI (blo h w d hp st tu ca m9 (n0, he, tr, co, la)).1)), (0, .ref m0), (1, .int (nI m9)), (2, .int t)]) hx hb dX7_dunesAfter_57 hl (by decide) rfl (fun ls hl => ?_)
  refine lv_aload_n hx hb dX7_dunesAfter_59 rfl (lv_at hl 2 rfl) ?_
  have hw : kW E AA sx (List.flatten [ac E Z0 985 (mA h w (nI d) (nI n0) z st he ke tu ca tr co la), oc m0 7 [.ref A0, .ref V0, .ref Z0, .int sm, .int 0, .int u40.1, .int u40.2, .ref D0, .ref W0, .ref T0, .int tl, .int tw, .int tc], ac E A0 985 (mA h w (nI d) (nI (blo h w d hp st tu ca m9 (n0, he, tr, co, la)).2.1) z st ((blo h w d hp st tu ca m9 (n0, he, tr, co, la)).2.2.1) ke tu ca ((blo h w d hp st tu ca m9 (n0, he, tr, co, la)).2.2.2.1) ((blo h w d hp st tu ca m9 (n0, he, tr, co, la)).2.2.2.2.1) ((blo h w d hp st tu ca m9 (n0, he, tr, co, la)).2.2.2.2.2)), ac E D0 192 u54.1, ac E W0 192 u54.2]) H locs := kW.front (pre := [oc m0 7 [.ref A0, .ref V0, .ref Z0, .int sm, .int 0, .int u40.1, .int u40.2, .ref D0, .ref W0, .ref T0, .int tl, .int tw, .int tc], ac E A0 985 (mA h w (nI d) (nI (blo h w d hp st tu ca m9 (n0, he, tr, co, la)).2.1) z st ((blo h w d hp st tu ca m9 (n0, he, tr, co, la)).2.2.1) ke tu ca ((blo h w d hp st tu ca m9 (n0, he, tr, co, la)).2.2.2.1) ((blo h w d hp st tu ca m9 (n0, he, tr, co, la)).2.2.2.2.1) ((blo h w d hp st tu ca m9 (n0, he, tr, co, la)).2.2.2.2.2)), ac E D0 192 u54.1, ac E W0 192 u54.2]) hw
  have hw : kW E AA sx (List.flatten [ac E A0 985 (mA h w (nI d) (nI (blo h w d hp st tu ca m9 (n0, he, tr, co, la)).2.1) z st ((blo h w d hp st tu ca m9 (n0, he, tr, co, la)).2.2.1) ke tu ca ((blo h w d hp st tu ca m9 (n0, he, tr, co, la)).2.2.2.1) ((blo h w d hp st tu ca m9 (n0, he, tr, co, la)).2.2.2.2.1) ((blo h w d hp st tu ca m9 (n0, he, tr, co, la)).2.2.2.2.2)), ac E Z0 985 (mA h w (nI d) (nI n0) z st he ke tu ca tr co la), oc m0 7 [.ref A0, .ref V0, .ref Z0, .int sm, .int 0, .int u40.1, .int u40.2, .ref D0, .ref W0, .ref T0, .int tl, .int tw, .int tc], ac E D0 192 u54.1, ac E W0 192 u54.2]) H locs := kW.front (pre := [ac E Z0 985 (mA h w (nI d) (nI n0) z st he ke tu ca tr co la), oc m0 7 [.ref A0, .ref V0, .ref Z0, .int sm, .int 0, .int u40.1, .int u40.2, .ref D0, .ref W0, .ref T0, .int tl, .int tw, .int tc]]) hw
  have hw : kW E AA sx (List.flatten [oc m0 7 [.ref A0, .ref V0, .ref Z0, .int sm, .int 0, .int u40.1, .int u40.2, .ref D0, .ref W0, .ref T0, .int tl, .int tw, .int tc], ac E A0 985 (mA h w (nI d) (nI (blo h w d hp st tu ca m9 (n0, he, tr, co, la)).2.1) z st ((blo h w d hp st tu ca m9 (n0, he, tr, co, la)).2.2.1) ke tu ca ((blo h w d hp st tu ca m9 (n0, he, tr, co, la)).2.2.2.1) ((blo h w d hp st tu ca m9 (n0, he, tr, co, la)).2.2.2.2.1) ((blo h w d hp st tu ca m9 (n0, he, tr, co, la)).2.2.2.2.2)), ac E Z0 985 (mA h w (nI d) (nI n0) z st he ke tu ca tr co la), ac E D0 192 u54.1, ac E W0 192 u54.2]) H locs := kW.front (pre := [ac E A0 985 (mA h w (nI d) (nI (blo h w d hp st tu ca m9 (n0, he, tr, co, la)).2.1) z st ((blo h w d hp st tu ca m9 (n0, he, tr, co, la)).2.2.1) ke tu ca ((blo h w d hp st tu ca m9 (n0, he, tr, co, la)).2.2.2.1) ((blo h w d hp st tu ca m9 (n0, he, tr, co, la)).2.2.2.2.1) ((blo h w d hp st tu ca m9 (n0, he, tr, co, la)).2.2.2.2.2)), ac E Z0 985 (mA h w (nI d) (nI n0) z st he ke tu ca tr co la)]) hw
  refine k_V (As := []) (rest := []) (pre := []) (mid := [oc m0 7 [.ref A0, .ref V0, .ref Z0, .int sm, .int 0, .int u40.1, .int u40.2, .ref D0, .ref W0, .ref T0, .int tl, .int tw, .int tc], ac E A0 985 (mA h w (nI d) (nI (blo h w d hp st tu ca m9 (n0, he, tr, co, la)).2.1) z st ((blo h w d hp st tu ca m9 (n0, he, tr, co, la)).2.2.1) ke tu ca ((blo h w d hp st tu ca m9 (n0, he, tr, co, la)).2.2.2.1) ((blo h w d hp st tu ca m9 (n0, he, tr, co, la)).2.2.2.2.1) ((blo h w d hp st tu ca m9 (n0, he, tr, co, la)).2.2.2.2.2)), ac E Z0 985 (mA h w (nI d) (nI n0) z st he ke tu ca tr co la)]) C0 (c_X7_takesBack l E m0 A0 V0 Z0 D0 W0 T0 sm 0 u40.1 u40.2 tl tw tc (mA h w (nI d) (nI (blo h w d hp st tu ca m9 (n0, he, tr, co, la)).2.1) z st ((blo h w d hp st tu ca m9 (n0, he, tr, co, la)).2.2.1) ke tu ca ((blo h w d hp st tu ca m9 (n0, he, tr, co, la)).2.2.2.1) ((blo h w d hp st tu ca m9 (n0, he, tr, co, la)).2.2.2.2.1) ((blo h w d hp st tu ca m9 (n0, he, tr, co, la)).2.2.2.2.2)) (mA h w (nI d) (nI n0) z st he ke tu ca tr co la) ) (cwV 0 hts gX7_dunesAfter_X7_takesBack rfl rfl rfl (by decide +kernel) ⟨Nat.le_of_ble_eq_true rfl, Nat.le_of_ble_eq_true rfl⟩) hw rfl (fun _ => [oc m0 7 [.ref A0, .ref V0, .ref Z0, .int sm, .int 0, .int u40.1, .int u40.2, .ref D0, .ref W0, .ref T0, .int tl, .int tw, .int tc], ac E A0 985 (mA h w (nI d) (nI n0) z st he ke tu ca tr co la), ac E Z0 985 (mA h w (nI d) (nI n0) z st he ke tu ca tr co la)]) (fun _ => rfl) 0 7 rfl rfl rfl rfl hl.1 rfl (Nat.le_of_ble_eq_true rfl) dX7_dunesAfter_60 ⟨Nat.le_of_ble_eq_true rfl, Nat.le_of_ble_eq_true rfl⟩ (fun r u H locs hq99 hw => ?_)
  have hw : kW E AA sx (List.flatten [oc m0 7 [.ref A0, .ref V0, .ref Z0, .int sm, .int 0, .int u40.1, .int u40.2, .ref D0, .ref W0, .ref T0, .int tl, .int tw, .int tc], ac E A0 985 (mA h w (nI d) (nI n0) z st he ke tu ca tr co la), ac E Z0 985 (mA h w (nI d) (nI n0) z st he ke tu ca tr co la), ac E D0 192 u54.1, ac E W0 192 u54.2]) H locs := hw
  refine W.eq (g2 := F0 mm 63 ls []) rfl ?_
  refine lv_iload hx hb dX7_dunesAfter_63 (lv_at hl 0 rfl) ?_
  -- leaf 0
  exact k_iret C0 hr hlk hw (u40, u54) (rfl) (h54.1) (Nat.le_of_ble_eq_true rfl) (Nat.le_of_ble_eq_true rfl) dX7_dunesAfter_65

set_option maxHeartbeats 4000000 in
set_option maxRecDepth 100000 in
theorem c_X7_dunesAfter_x1 (l : Launch) (E : kE) (m0 : Nat) (A0 : Nat) (V0 : Nat) (Z0 : Nat) (D0 : Nat) (W0 : Nat) (T0 : Nat) (sm : Int32) (th : Int32) (pl : Int32) (hz : Int32) (tl : Int32) (tw : Int32) (tc : Int32) (h : Nat) (w : Nat) (wd : Int32) (s0 : Int32) (z : Int32) (st : Nat → Int32) (he : Nat → Int32) (ke : Nat → Int32) (tu : Nat → Int32) (ca : Nat → Int32) (tr : Nat → Int32) (co : Nat → Int32) (la : Nat → Int32) (x : Int32) (v : Int32) (hv : ¬ (¬ x < 0 ∧ ¬ 1000 < x)) : kC E l yX7_dunesAfter wsX7_dunesAfter rmX7_dunesAfter [.ref m0, .int x, .int v] (List.flatten [oc m0 7 [.ref A0, .ref V0, .ref Z0, .int sm, .int th, .int pl, .int hz, .ref D0, .ref W0, .ref T0, .int tl, .int tw, .int tc], ac E A0 985 (mA h w wd s0 z st he ke tu ca tr co la)]) kI (fun (r : Int32) (_ : Unit) => r = 0) (fun _ => List.flatten [oc m0 7 [.ref A0, .ref V0, .ref Z0, .int sm, .int 1, .int pl, .int hz, .ref D0, .ref W0, .ref T0, .int tl, .int tw, .int tc], ac E A0 985 (mA h w wd s0 z st he ke tu ca tr co la)]) 0 0 := by
  refine k_body (cc := cX7_dunesAfter) (maxL := 5) (ret := (some .int)) (by decide) rfl (Nat.le_of_ble_eq_true rfl) ?_
  intro pp ee sx mm aa bb me cd H locs AA ls C0 hr hlk hnm hl hw
  obtain ⟨hx, hb, hml, hown, hts⟩ := id C0
  have hl : lv_has ls 5 [(0, .ref m0), (1, .int x), (2, .int v)] := hl
  have hw : kW E AA sx (List.flatten [oc m0 7 [.ref A0, .ref V0, .ref Z0, .int sm, .int th, .int pl, .int hz, .ref D0, .ref W0, .ref T0, .int tl, .int tw, .int tc], ac E A0 985 (mA h w wd s0 z st he ke tu ca tr co la)]) H locs := hw
  refine lv_aload_n hx hb dX7_dunesAfter_0 rfl (lv_at hl 0 rfl) ?_
  refine lv_iload_n hx hb dX7_dunesAfter_1 rfl (lv_at hl 1 rfl) ?_
  refine lv_i2l (v := Int32.toInt64 x) hx hb dX7_dunesAfter_2 rfl ?_
  refine lv_lconst (v := 0) hx hb dX7_dunesAfter_3 (by decide) ?_
  refine lv_ldc2 (v := 1000) hx hb hown (hts (.constantLong RX7 190 1000) (by decide +kernel)) dX7_dunesAfter_4 ?_
  refine k_S (As := [.long (Int32.toInt64 x), .long 0, .long 1000]) (rest := [.ref m0]) (pre := []) (mid := []) C0 (c_X7_in_0_1000 l E x ) (va_cwS 3 hts gX7_dunesAfter_X7_in rfl rfl rfl (by decide +kernel) ⟨Nat.le_of_ble_eq_true rfl, Nat.le_of_ble_eq_true rfl⟩) hw rfl (fun _ => []) (fun _ => rfl) rfl hl.1 rfl (Nat.le_of_ble_eq_true rfl) dX7_dunesAfter_7 ⟨Nat.le_of_ble_eq_true rfl, Nat.le_of_ble_eq_true rfl⟩ (fun r u H locs hq99 hw => ?_)
  subst hq99
  have hw : kW E AA sx (List.flatten [oc m0 7 [.ref A0, .ref V0, .ref Z0, .int sm, .int th, .int pl, .int hz, .ref D0, .ref W0, .ref T0, .int tl, .int tw, .int tc], ac E A0 985 (mA h w wd s0 z st he ke tu ca tr co la)]) H locs := hw
  refine W.eq (g2 := F0 mm 10 ls [.int (if ¬ x < 0 ∧ ¬ 1000 < x then 1 else 0), .ref m0]) rfl ?_
  refine lv_if_eq (tgt := 24) hx hb dX7_dunesAfter_10 (by decide) (fun c10 => ?_) (fun c10 => False.elim (hv (kb10f c10)))
  have c10 := kb10t c10
  refine lv_iconst (v := 0) hx hb dX7_dunesAfter_24 (by decide) ?_
  refine lv_iconst (v := 1) hx hb dX7_dunesAfter_25 (by decide) ?_
  refine k_V (As := [.int 0, .int 1]) (rest := []) (pre := []) (mid := [oc m0 7 [.ref A0, .ref V0, .ref Z0, .int sm, .int th, .int pl, .int hz, .ref D0, .ref W0, .ref T0, .int tl, .int tw, .int tc]]) C0 (c_X7_goes_1 l E m0 A0 V0 Z0 D0 W0 T0 sm th pl hz tl tw tc 0 1 (rfl)) (cwV 2 hts gX7_dunesAfter_X7_goes rfl rfl rfl (by decide +kernel) ⟨Nat.le_of_ble_eq_true rfl, Nat.le_of_ble_eq_true rfl⟩) hw rfl (fun _ => [oc m0 7 [.ref A0, .ref V0, .ref Z0, .int sm, .int 1, .int pl, .int hz, .ref D0, .ref W0, .ref T0, .int tl, .int tw, .int tc]]) (fun _ => rfl) 0 7 rfl rfl rfl rfl hl.1 rfl (Nat.le_of_ble_eq_true rfl) dX7_dunesAfter_26 ⟨Nat.le_of_ble_eq_true rfl, Nat.le_of_ble_eq_true rfl⟩ (fun r u H locs hq99 hw => ?_)
  subst r
  have hw : kW E AA sx (List.flatten [oc m0 7 [.ref A0, .ref V0, .ref Z0, .int sm, .int 1, .int pl, .int hz, .ref D0, .ref W0, .ref T0, .int tl, .int tw, .int tc], ac E A0 985 (mA h w wd s0 z st he ke tu ca tr co la)]) H locs := hw
  refine W.eq (g2 := F0 mm 29 ls [.int 0]) rfl ?_
  refine lv_if_ne (tgt := 34) hx hb dX7_dunesAfter_29 (by decide) (fun c29 => absurd c29 (by decide)) (fun c29 => ?_)
  refine lv_iconst (v := 0) hx hb dX7_dunesAfter_32 (by decide) ?_
  -- leaf 0
  exact k_iret C0 hr hlk hw () (rfl) (rfl) (Nat.le_of_ble_eq_true rfl) (Nat.le_of_ble_eq_true rfl) dX7_dunesAfter_33

set_option maxHeartbeats 4000000 in
set_option maxRecDepth 100000 in
theorem c_X7_dunesAfter_x2 (l : Launch) (E : kE) (m0 : Nat) (A0 : Nat) (V0 : Nat) (Z0 : Nat) (D0 : Nat) (W0 : Nat) (T0 : Nat) (sm : Int32) (th : Int32) (pl : Int32) (hz : Int32) (tl : Int32) (tw : Int32) (tc : Int32) (h : Nat) (w : Nat) (wd : Int32) (s0 : Int32) (z : Int32) (st : Nat → Int32) (he : Nat → Int32) (ke : Nat → Int32) (tu : Nat → Int32) (ca : Nat → Int32) (tr : Nat → Int32) (co : Nat → Int32) (la : Nat → Int32) (m9 : Nat) (v : Int32) (hm9 : m9 ≤ 1000) (hv : ¬ (¬ v < 1 ∧ ¬ 99 < v)) : kC E l yX7_dunesAfter wsX7_dunesAfter rmX7_dunesAfter [.ref m0, .int (nI m9), .int v] (List.flatten [oc m0 7 [.ref A0, .ref V0, .ref Z0, .int sm, .int th, .int pl, .int hz, .ref D0, .ref W0, .ref T0, .int tl, .int tw, .int tc], ac E A0 985 (mA h w wd s0 z st he ke tu ca tr co la)]) kI (fun (r : Int32) (_ : Unit) => r = 0) (fun _ => List.flatten [oc m0 7 [.ref A0, .ref V0, .ref Z0, .int sm, .int 1, .int pl, .int hz, .ref D0, .ref W0, .ref T0, .int tl, .int tw, .int tc], ac E A0 985 (mA h w wd s0 z st he ke tu ca tr co la)]) 0 0 := by
  refine k_body (cc := cX7_dunesAfter) (maxL := 5) (ret := (some .int)) (by decide) rfl (Nat.le_of_ble_eq_true rfl) ?_
  intro pp ee sx mm aa bb me cd H locs AA ls C0 hr hlk hnm hl hw
  obtain ⟨hx, hb, hml, hown, hts⟩ := id C0
  have hl : lv_has ls 5 [(0, .ref m0), (1, .int (nI m9)), (2, .int v)] := hl
  have hw : kW E AA sx (List.flatten [oc m0 7 [.ref A0, .ref V0, .ref Z0, .int sm, .int th, .int pl, .int hz, .ref D0, .ref W0, .ref T0, .int tl, .int tw, .int tc], ac E A0 985 (mA h w wd s0 z st he ke tu ca tr co la)]) H locs := hw
  refine lv_aload_n hx hb dX7_dunesAfter_0 rfl (lv_at hl 0 rfl) ?_
  refine lv_iload_n hx hb dX7_dunesAfter_1 rfl (lv_at hl 1 rfl) ?_
  refine lv_i2l (v := Int32.toInt64 (nI m9)) hx hb dX7_dunesAfter_2 rfl ?_
  refine lv_lconst (v := 0) hx hb dX7_dunesAfter_3 (by decide) ?_
  refine lv_ldc2 (v := 1000) hx hb hown (hts (.constantLong RX7 190 1000) (by decide +kernel)) dX7_dunesAfter_4 ?_
  refine k_S (As := [.long (Int32.toInt64 (nI m9)), .long 0, .long 1000]) (rest := [.ref m0]) (pre := []) (mid := []) C0 (c_X7_in_0_1000 l E (nI m9) ) (va_cwS 3 hts gX7_dunesAfter_X7_in rfl rfl rfl (by decide +kernel) ⟨Nat.le_of_ble_eq_true rfl, Nat.le_of_ble_eq_true rfl⟩) hw rfl (fun _ => []) (fun _ => rfl) rfl hl.1 rfl (Nat.le_of_ble_eq_true rfl) dX7_dunesAfter_7 ⟨Nat.le_of_ble_eq_true rfl, Nat.le_of_ble_eq_true rfl⟩ (fun r u H locs hq99 hw => ?_)
  subst hq99
  have hw : kW E AA sx (List.flatten [oc m0 7 [.ref A0, .ref V0, .ref Z0, .int sm, .int th, .int pl, .int hz, .ref D0, .ref W0, .ref T0, .int tl, .int tw, .int tc], ac E A0 985 (mA h w wd s0 z st he ke tu ca tr co la)]) H locs := hw
  refine W.eq (g2 := F0 mm 10 ls [.int (if ¬ (nI m9) < 0 ∧ ¬ 1000 < (nI m9) then 1 else 0), .ref m0]) rfl ?_
  refine lv_if_eq (tgt := 24) hx hb dX7_dunesAfter_10 (by decide) (fun c10 => absurd c10 (kp10 (⟨nI_pos (by omega), nI_nlt (a := 1000) (b := m9) (by omega) (by omega)⟩))) (fun c10 => ?_)
  have c10 := kb10f c10
  refine lv_iload_n hx hb dX7_dunesAfter_13 rfl (lv_at hl 2 rfl) ?_
  refine k_S (As := [.int v]) (rest := [.ref m0]) (pre := []) (mid := []) C0 (c_X7_isThreshold l E v ) (va_cwS 1 hts gX7_dunesAfter_X7_isThreshold rfl rfl rfl (by decide +kernel) ⟨Nat.le_of_ble_eq_true rfl, Nat.le_of_ble_eq_true rfl⟩) hw rfl (fun _ => []) (fun _ => rfl) rfl hl.1 rfl (Nat.le_of_ble_eq_true rfl) dX7_dunesAfter_14 ⟨Nat.le_of_ble_eq_true rfl, Nat.le_of_ble_eq_true rfl⟩ (fun r u H locs hq99 hw => ?_)
  subst hq99
  have hw : kW E AA sx (List.flatten [oc m0 7 [.ref A0, .ref V0, .ref Z0, .int sm, .int th, .int pl, .int hz, .ref D0, .ref W0, .ref T0, .int tl, .int tw, .int tc], ac E A0 985 (mA h w wd s0 z st he ke tu ca tr co la)]) H locs := hw
  refine W.eq (g2 := F0 mm 17 ls [.int (if ¬ v < 1 ∧ ¬ 99 < v then 1 else 0), .ref m0]) rfl ?_
  refine lv_if_eq (tgt := 24) hx hb dX7_dunesAfter_17 (by decide) (fun c17 => ?_) (fun c17 => False.elim (hv (kb10f c17)))
  have c17 := kb10t c17
  refine lv_iconst (v := 0) hx hb dX7_dunesAfter_24 (by decide) ?_
  refine lv_iconst (v := 1) hx hb dX7_dunesAfter_25 (by decide) ?_
  refine k_V (As := [.int 0, .int 1]) (rest := []) (pre := []) (mid := [oc m0 7 [.ref A0, .ref V0, .ref Z0, .int sm, .int th, .int pl, .int hz, .ref D0, .ref W0, .ref T0, .int tl, .int tw, .int tc]]) C0 (c_X7_goes_1 l E m0 A0 V0 Z0 D0 W0 T0 sm th pl hz tl tw tc 0 1 (rfl)) (cwV 2 hts gX7_dunesAfter_X7_goes rfl rfl rfl (by decide +kernel) ⟨Nat.le_of_ble_eq_true rfl, Nat.le_of_ble_eq_true rfl⟩) hw rfl (fun _ => [oc m0 7 [.ref A0, .ref V0, .ref Z0, .int sm, .int 1, .int pl, .int hz, .ref D0, .ref W0, .ref T0, .int tl, .int tw, .int tc]]) (fun _ => rfl) 0 7 rfl rfl rfl rfl hl.1 rfl (Nat.le_of_ble_eq_true rfl) dX7_dunesAfter_26 ⟨Nat.le_of_ble_eq_true rfl, Nat.le_of_ble_eq_true rfl⟩ (fun r u H locs hq99 hw => ?_)
  subst r
  have hw : kW E AA sx (List.flatten [oc m0 7 [.ref A0, .ref V0, .ref Z0, .int sm, .int 1, .int pl, .int hz, .ref D0, .ref W0, .ref T0, .int tl, .int tw, .int tc], ac E A0 985 (mA h w wd s0 z st he ke tu ca tr co la)]) H locs := hw
  refine W.eq (g2 := F0 mm 29 ls [.int 0]) rfl ?_
  refine lv_if_ne (tgt := 34) hx hb dX7_dunesAfter_29 (by decide) (fun c29 => absurd c29 (by decide)) (fun c29 => ?_)
  refine lv_iconst (v := 0) hx hb dX7_dunesAfter_32 (by decide) ?_
  -- leaf 0
  exact k_iret C0 hr hlk hw () (rfl) (rfl) (Nat.le_of_ble_eq_true rfl) (Nat.le_of_ble_eq_true rfl) dX7_dunesAfter_33

abbrev rmX7_bestFence : Room := { frames := 6, cells := 0, slots := 0, locals := 145 }
set_option maxHeartbeats 4000000 in
set_option maxRecDepth 100000 in
theorem c_X7_bestFence_ok (l : Launch) (E : kE) (m0 : Nat) (A0 : Nat) (V0 : Nat) (Z0 : Nat) (D0 : Nat) (W0 : Nat) (T0 : Nat) (sm : Int32) (th : Int32) (pl : Int32) (hz : Int32) (tl : Int32) (tw : Int32) (tc : Int32) (h : Nat) (w : Nat) (d : Nat) (n0 : Nat) (z : Int32) (st : Nat → Int32) (he : Nat → Int32) (ke : Nat → Int32) (tu : Nat → Int32) (ca : Nat → Int32) (tr : Nat → Int32) (co : Nat → Int32) (la : Nat → Int32) (Y : Nat → Int32) (c0 : Nat) (m9 : Nat) (hp : Nat) (B : Nat) (hG : kG h w) (hc0 : c0 < w) (hm9 : m9 ≤ 500) (hd : d < 4) (hn0 : n0 < 2147483648) (hst0 : st 0 = nI hp) (hp8 : hp ≤ 8) (hp1 : 1 ≤ hp) (hH : hI (h * w) he B) (hB : B < 1000000) (hsl : 1 ≤ (st 3).toInt) : kC E l yX7_bestFence wsX7_bestFence rmX7_bestFence [.ref m0, .int (nI c0), .int (nI m9)] (List.flatten [oc m0 7 [.ref A0, .ref V0, .ref Z0, .int sm, .int th, .int pl, .int hz, .ref D0, .ref W0, .ref T0, .int tl, .int tw, .int tc], ac E A0 985 (mA h w (nI d) (nI n0) z st he ke tu ca tr co la), ac E Z0 985 Y]) kI (fun (r : Int32) (u : Int32 × Int32) => r = (bfS (bfG h w d hp st tu ca m9 n0 he tr co la c0) h).1) (fun (u : Int32 × Int32) => List.flatten [oc m0 7 [.ref A0, .ref V0, .ref Z0, .int sm, .int 0, .int u.1, .int u.2, .ref D0, .ref W0, .ref T0, .int tl, .int tw, .int tc], ac E A0 985 (mA h w (nI d) (nI n0) z st he ke tu ca tr co la), ac E Z0 985 (mA h w (nI d) (nI n0) z st he ke tu ca tr co la)]) 0 0 := by
  refine k_body (cc := cX7_bestFence) (maxL := 9) (ret := (some .int)) (by decide) rfl (Nat.le_of_ble_eq_true rfl) ?_
  intro pp ee sx mm aa bb me cd H locs AA ls C0 hr hlk hnm hl hw
  obtain ⟨hx, hb, hml, hown, hts⟩ := id C0
  have hl : lv_has ls 9 [(0, .ref m0), (1, .int (nI c0)), (2, .int (nI m9))] := hl
  have hw : kW E AA sx (List.flatten [oc m0 7 [.ref A0, .ref V0, .ref Z0, .int sm, .int th, .int pl, .int hz, .ref D0, .ref W0, .ref T0, .int tl, .int tw, .int tc], ac E A0 985 (mA h w (nI d) (nI n0) z st he ke tu ca tr co la), ac E Z0 985 Y]) H locs := hw
  have hn9 := kG_n hG
  have hG9 := id hG
  obtain ⟨hG1, hG2, hG3, hG4⟩ := hG9
  have hinX7 : ∀ w ∈ u_ws RX7 TX7 13, w ∈ wsX7_bestFence := by decide +kernel
  refine lv_aload_n hx hb dX7_bestFence_0 rfl (lv_at hl 0 rfl) ?_
  refine lv_iload_n hx hb dX7_bestFence_1 rfl (lv_at hl 1 rfl) ?_
  refine lv_i2l (v := Int32.toInt64 (nI c0)) hx hb dX7_bestFence_2 rfl ?_
  refine lv_lconst (v := 0) hx hb dX7_bestFence_3 (by decide) ?_
  refine lv_aload_n hx hb dX7_bestFence_4 rfl (lv_at hl 0 rfl) ?_
  refine k_get (pre := []) C0 hw hinX7 rfl 0 (by decide) (hts (.fieldLink RX7 7 "SlabDunesModel" "all" "[I") (by decide +kernel)) rfl rfl dX7_bestFence_5 ?_
  refine lv_iconst (v := 5) hx hb dX7_bestFence_8 (by decide) ?_
  refine k_iald (pre := [oc m0 7 [.ref A0, .ref V0, .ref Z0, .int sm, .int th, .int pl, .int hz, .ref D0, .ref W0, .ref T0, .int tl, .int tw, .int tc]]) (l1 := []) C0 hw (i := 5) (kinN (n := 5) (by decide) (by decide)) dX7_bestFence_9 ?_
  refine W.eq (g2 := F0 mm 10 ls [.int (nI w), .long 0, .long (Int32.toInt64 (nI c0)), .ref m0]) (congrArg (fun z9 => F0 mm 10 ls [.int z9, .long 0, .long (Int32.toInt64 (nI c0)), .ref m0]) (show ((mA h w (nI d) (nI n0) z st he ke tu ca tr co la) (Int32.toNatClampNeg 5) : Int32) = nI w from rfl)) ?_
  refine lv_i2l (v := Int32.toInt64 (nI w)) hx hb dX7_bestFence_10 rfl ?_
  refine lv_lconst (v := 1) hx hb dX7_bestFence_11 (by decide) ?_
  refine lv_lsub hx hb dX7_bestFence_12 ?_
  refine W.eq (g2 := F0 mm 13 ls [.long (Int32.toInt64 (nI (w - 1))), .long 0, .long (Int32.toInt64 (nI c0)), .ref m0]) (congrArg (fun z9 => F0 mm 13 ls [.long z9, .long 0, .long (Int32.toInt64 (nI c0)), .ref m0]) (show ((Int32.toInt64 (nI w)) - 1 : Int64) = Int32.toInt64 (nI (w - 1)) from by rw [nI_l (by omega), nI_l (by omega)]; exact lN_sub (b := 1) (by omega))) ?_
  refine k_S (As := [.long (Int32.toInt64 (nI c0)), .long 0, .long (Int32.toInt64 (nI (w - 1)))]) (rest := [.ref m0]) (pre := []) (mid := []) C0 (c_X7_in_0_hi9 l E (nI c0) (nI (w - 1)) ) (va_cwS 3 hts gX7_bestFence_X7_in rfl rfl rfl (by decide +kernel) ⟨Nat.le_of_ble_eq_true rfl, Nat.le_of_ble_eq_true rfl⟩) hw rfl (fun _ => []) (fun _ => rfl) rfl hl.1 rfl (Nat.le_of_ble_eq_true rfl) dX7_bestFence_13 ⟨Nat.le_of_ble_eq_true rfl, Nat.le_of_ble_eq_true rfl⟩ (fun r u H locs hq99 hw => ?_)
  subst hq99
  have hw : kW E AA sx (List.flatten [oc m0 7 [.ref A0, .ref V0, .ref Z0, .int sm, .int th, .int pl, .int hz, .ref D0, .ref W0, .ref T0, .int tl, .int tw, .int tc], ac E A0 985 (mA h w (nI d) (nI n0) z st he ke tu ca tr co la), ac E Z0 985 Y]) H locs := hw
  refine W.eq (g2 := F0 mm 16 ls [.int (if ¬ (nI c0) < 0 ∧ ¬ (nI (w - 1)) < (nI c0) then 1 else 0), .ref m0]) rfl ?_
  refine lv_iload_n hx hb dX7_bestFence_16 rfl (lv_at hl 2 rfl) ?_
  refine lv_i2l (v := Int32.toInt64 (nI m9)) hx hb dX7_bestFence_17 rfl ?_
  refine lv_lconst (v := 0) hx hb dX7_bestFence_18 (by decide) ?_
  refine lv_ldc2 (v := 500) hx hb hown (hts (.constantLong RX7 198 500) (by decide +kernel)) dX7_bestFence_19 ?_
  refine k_S (As := [.long (Int32.toInt64 (nI m9)), .long 0, .long 500]) (rest := [.int (if ¬ (nI c0) < 0 ∧ ¬ (nI (w - 1)) < (nI c0) then 1 else 0), .ref m0]) (pre := []) (mid := []) C0 (c_X7_in_0_500 l E (nI m9) ) (va_cwS 3 hts gX7_bestFence_X7_in rfl rfl rfl (by decide +kernel) ⟨Nat.le_of_ble_eq_true rfl, Nat.le_of_ble_eq_true rfl⟩) hw rfl (fun _ => []) (fun _ => rfl) rfl hl.1 rfl (Nat.le_of_ble_eq_true rfl) dX7_bestFence_22 ⟨Nat.le_of_ble_eq_true rfl, Nat.le_of_ble_eq_true rfl⟩ (fun r u H locs hq99 hw => ?_)
  subst hq99
  have hw : kW E AA sx (List.flatten [oc m0 7 [.ref A0, .ref V0, .ref Z0, .int sm, .int th, .int pl, .int hz, .ref D0, .ref W0, .ref T0, .int tl, .int tw, .int tc], ac E A0 985 (mA h w (nI d) (nI n0) z st he ke tu ca tr co la), ac E Z0 985 Y]) H locs := hw
  refine W.eq (g2 := F0 mm 25 ls [.int (if ¬ (nI m9) < 0 ∧ ¬ 500 < (nI m9) then 1 else 0), .int (if ¬ (nI c0) < 0 ∧ ¬ (nI (w - 1)) < (nI c0) then 1 else 0), .ref m0]) rfl ?_
  refine k_V (As := [.int (if ¬ (nI c0) < 0 ∧ ¬ (nI (w - 1)) < (nI c0) then 1 else 0), .int (if ¬ (nI m9) < 0 ∧ ¬ 500 < (nI m9) then 1 else 0)]) (rest := []) (pre := []) (mid := [oc m0 7 [.ref A0, .ref V0, .ref Z0, .int sm, .int th, .int pl, .int hz, .ref D0, .ref W0, .ref T0, .int tl, .int tw, .int tc]]) C0 (c_X7_goes_ok l E m0 A0 V0 Z0 D0 W0 T0 sm th pl hz tl tw tc (if ¬ (nI c0) < 0 ∧ ¬ (nI (w - 1)) < (nI c0) then 1 else 0) (if ¬ (nI m9) < 0 ∧ ¬ 500 < (nI m9) then 1 else 0) (kp10 (⟨nI_pos (by omega), nI_nlt (a := w - 1) (b := c0) (by omega) (by omega)⟩)) (kp10 (⟨nI_pos (by omega), nI_nlt (a := 500) (b := m9) (by omega) (by omega)⟩))) (cwV 2 hts gX7_bestFence_X7_goes rfl rfl rfl (by decide +kernel) ⟨Nat.le_of_ble_eq_true rfl, Nat.le_of_ble_eq_true rfl⟩) hw rfl (fun _ => [oc m0 7 [.ref A0, .ref V0, .ref Z0, .int sm, .int 0, .int pl, .int hz, .ref D0, .ref W0, .ref T0, .int tl, .int tw, .int tc]]) (fun _ => rfl) 0 7 rfl rfl rfl rfl hl.1 rfl (Nat.le_of_ble_eq_true rfl) dX7_bestFence_25 ⟨Nat.le_of_ble_eq_true rfl, Nat.le_of_ble_eq_true rfl⟩ (fun r u H locs hq99 hw => ?_)
  subst r
  have hw : kW E AA sx (List.flatten [oc m0 7 [.ref A0, .ref V0, .ref Z0, .int sm, .int 0, .int pl, .int hz, .ref D0, .ref W0, .ref T0, .int tl, .int tw, .int tc], ac E A0 985 (mA h w (nI d) (nI n0) z st he ke tu ca tr co la), ac E Z0 985 Y]) H locs := hw
  refine W.eq (g2 := F0 mm 28 ls [.int 1]) rfl ?_
  refine lv_if_ne (tgt := 33) hx hb dX7_bestFence_28 (by decide) (fun c28 => ?_) (fun c28 => absurd c28 (by decide))
  refine lv_aload_n hx hb dX7_bestFence_33 rfl (lv_at hl 0 rfl) ?_
  refine k_V (As := []) (rest := []) (pre := []) (mid := [oc m0 7 [.ref A0, .ref V0, .ref Z0, .int sm, .int 0, .int pl, .int hz, .ref D0, .ref W0, .ref T0, .int tl, .int tw, .int tc], ac E A0 985 (mA h w (nI d) (nI n0) z st he ke tu ca tr co la), ac E Z0 985 Y]) C0 (c_X7_lays l E m0 A0 V0 Z0 D0 W0 T0 sm 0 pl hz tl tw tc (mA h w (nI d) (nI n0) z st he ke tu ca tr co la) Y ) (cwV 0 hts gX7_bestFence_X7_lays rfl rfl rfl (by decide +kernel) ⟨Nat.le_of_ble_eq_true rfl, Nat.le_of_ble_eq_true rfl⟩) hw rfl (fun _ => [oc m0 7 [.ref A0, .ref V0, .ref Z0, .int sm, .int 0, .int pl, .int hz, .ref D0, .ref W0, .ref T0, .int tl, .int tw, .int tc], ac E A0 985 (mA h w (nI d) (nI n0) z st he ke tu ca tr co la), ac E Z0 985 (mA h w (nI d) (nI n0) z st he ke tu ca tr co la)]) (fun _ => rfl) 0 7 rfl rfl rfl rfl hl.1 rfl (Nat.le_of_ble_eq_true rfl) dX7_bestFence_34 ⟨Nat.le_of_ble_eq_true rfl, Nat.le_of_ble_eq_true rfl⟩ (fun r u H locs hq99 hw => ?_)
  have hw : kW E AA sx (List.flatten [oc m0 7 [.ref A0, .ref V0, .ref Z0, .int sm, .int 0, .int pl, .int hz, .ref D0, .ref W0, .ref T0, .int tl, .int tw, .int tc], ac E A0 985 (mA h w (nI d) (nI n0) z st he ke tu ca tr co la), ac E Z0 985 (mA h w (nI d) (nI n0) z st he ke tu ca tr co la)]) H locs := hw
  refine W.eq (g2 := F0 mm 37 ls []) rfl ?_
  refine lv_iconst (v := (-1)) hx hb dX7_bestFence_37 (by decide) ?_
  refine lv_istore_n (lv' := [(3, .int (-1)), (0, .ref m0), (1, .int (nI c0)), (2, .int (nI m9))]) hx hb dX7_bestFence_38 rfl hl (by decide) rfl (fun ls hl => ?_)
  refine lv_iconst (v := (-1)) hx hb dX7_bestFence_39 (by decide) ?_
  refine lv_istore (lv' := [(4, .int (-1)), (3, .int (-1)), (0, .ref m0), (1, .int (nI c0)), (2, .int (nI m9))]) hx hb dX7_bestFence_40 hl (by decide) rfl (fun ls hl => ?_)
  refine lv_iconst (v := 0) hx hb dX7_bestFence_42 (by decide) ?_
  refine lv_istore (lv' := [(5, .int 0), (4, .int (-1)), (3, .int (-1)), (0, .ref m0), (1, .int (nI c0)), (2, .int (nI m9))]) hx hb dX7_bestFence_43 hl (by decide) rfl (fun ls hl => ?_)
  have loop45 : ∀ (nn : Nat) (i : Nat) (x9 : Int32) (y9 : Int32) (y1 : Int32) (y2 : Int32), (i ≤ h) → (bfS (bfG h w d hp st tu ca m9 n0 he tr co la c0) i = (x9, y9)) → ((-1) ≤ y9) → h - i < nn → ∀ (H : Heap) (locs : List Loc) (ls : Array Slot), lv_has ls 9 [(5, .int (nI i)), (4, .int y9), (3, .int x9), (0, .ref m0), (1, .int (nI c0)), (2, .int (nI m9))] → kW E AA sx (List.flatten [oc m0 7 [.ref A0, .ref V0, .ref Z0, .int sm, .int 0, .int y1, .int y2, .ref D0, .ref W0, .ref T0, .int tl, .int tw, .int tc], ac E A0 985 (mA h w (nI d) (nI n0) z st he ke tu ca tr co la), ac E Z0 985 (mA h w (nI d) (nI n0) z st he ke tu ca tr co la)]) H locs → W pp l ee rmX7_bestFence sx mm aa bb me cd H locs 0 0 (kEnd E kI (fun (r : Int32) (u : Int32 × Int32) => r = (bfS (bfG h w d hp st tu ca m9 n0 he tr co la c0) h).1) (fun (u : Int32 × Int32) => List.flatten [oc m0 7 [.ref A0, .ref V0, .ref Z0, .int sm, .int 0, .int u.1, .int u.2, .ref D0, .ref W0, .ref T0, .int tl, .int tw, .int tc], ac E A0 985 (mA h w (nI d) (nI n0) z st he ke tu ca tr co la), ac E Z0 985 (mA h w (nI d) (nI n0) z st he ke tu ca tr co la)]) bb aa sx AA 0 0) (F0 mm 45 ls []) := by
    intro nn
    induction nn with
    | zero => intro i x9 y9 y1 y2 hi hBf hyl hm45; exact absurd hm45 (Nat.not_lt_zero _)
    | succ nn ih45 =>
      intro i x9 y9 y1 y2 hi hBf hyl hm45 H locs ls hl hw
      refine lv_iload hx hb dX7_bestFence_45 (lv_at hl 0 rfl) ?_
      refine lv_aload_n hx hb dX7_bestFence_47 rfl (lv_at hl 3 rfl) ?_
      refine k_get (pre := []) C0 hw hinX7 rfl 0 (by decide) (hts (.fieldLink RX7 7 "SlabDunesModel" "all" "[I") (by decide +kernel)) rfl rfl dX7_bestFence_48 ?_
      refine lv_iconst (v := 4) hx hb dX7_bestFence_51 (by decide) ?_
      refine k_iald (pre := [oc m0 7 [.ref A0, .ref V0, .ref Z0, .int sm, .int 0, .int y1, .int y2, .ref D0, .ref W0, .ref T0, .int tl, .int tw, .int tc]]) (l1 := []) C0 hw (i := 4) (kinN (n := 4) (by decide) (by decide)) dX7_bestFence_52 ?_
      refine W.eq (g2 := F0 mm 53 ls [.int (nI h), .int (nI i)]) (congrArg (fun z9 => F0 mm 53 ls [.int z9, .int (nI i)]) (show ((mA h w (nI d) (nI n0) z st he ke tu ca tr co la) (Int32.toNatClampNeg 4) : Int32) = nI h from rfl)) ?_
      refine lv_icmp_ge (tgt := 153) hx hb dX7_bestFence_53 (by decide) (fun c53 => ?_) (fun c53 => ?_)
      · have c53 : h ≤ i := (nI_leI (a := h) (b := i) (by omega) (by omega)).mp c53
        refine lv_iload_n hx hb dX7_bestFence_153 rfl (lv_at hl 2 rfl) ?_
        -- leaf 0
        exact k_iret C0 hr hlk hw (y1, y2) (rfl) (by have e9 := hBf; rw [show i = h by omega] at e9; rw [e9]) (Nat.le_of_ble_eq_true rfl) (Nat.le_of_ble_eq_true rfl) dX7_bestFence_154
      · have c53 : ¬ h ≤ i := fun h99 => c53 ((nI_leI (a := h) (b := i) (by omega) (by omega)).mpr h99)
        refine lv_iload hx hb dX7_bestFence_56 (lv_at hl 0 rfl) ?_
        refine lv_aload_n hx hb dX7_bestFence_58 rfl (lv_at hl 3 rfl) ?_
        refine k_get (pre := []) C0 hw hinX7 rfl 0 (by decide) (hts (.fieldLink RX7 7 "SlabDunesModel" "all" "[I") (by decide +kernel)) rfl rfl dX7_bestFence_59 ?_
        refine lv_iconst (v := 5) hx hb dX7_bestFence_62 (by decide) ?_
        refine k_iald (pre := [oc m0 7 [.ref A0, .ref V0, .ref Z0, .int sm, .int 0, .int y1, .int y2, .ref D0, .ref W0, .ref T0, .int tl, .int tw, .int tc]]) (l1 := []) C0 hw (i := 5) (kinN (n := 5) (by decide) (by decide)) dX7_bestFence_63 ?_
        refine W.eq (g2 := F0 mm 64 ls [.int (nI w), .int (nI i)]) (congrArg (fun z9 => F0 mm 64 ls [.int z9, .int (nI i)]) (show ((mA h w (nI d) (nI n0) z st he ke tu ca tr co la) (Int32.toNatClampNeg 5) : Int32) = nI w from rfl)) ?_
        refine lv_imul hx hb dX7_bestFence_64 ?_
        refine W.eq (g2 := F0 mm 65 ls [.int (nI (i * w))]) (congrArg (fun z9 => F0 mm 65 ls [.int z9]) (show ((nI i) * (nI w) : Int32) = nI (i * w) from pk_mul _ _)) ?_
        refine lv_iload_n hx hb dX7_bestFence_65 rfl (lv_at hl 4 rfl) ?_
        refine lv_iadd hx hb dX7_bestFence_66 ?_
        refine W.eq (g2 := F0 mm 67 ls [.int (nI (i * w + c0))]) (congrArg (fun z9 => F0 mm 67 ls [.int z9]) (show ((nI (i * w)) + (nI c0) : Int32) = nI (i * w + c0) from nI_add _ _)) ?_
        refine lv_istore (lv' := [(6, .int (nI (i * w + c0))), (5, .int (nI i)), (4, .int y9), (3, .int x9), (0, .ref m0), (1, .int (nI c0)), (2, .int (nI m9))]) hx hb dX7_bestFence_67 hl (by decide) rfl (fun ls hl => ?_)
        have hcl9 : i * w + c0 < h * w := kcell_lt (by omega) hc0
        refine lv_aload_n hx hb dX7_bestFence_69 rfl (lv_at hl 4 rfl) ?_
        refine lv_iload hx hb dX7_bestFence_70 (lv_at hl 0 rfl) ?_
        refine lv_iconst (v := 2) hx hb dX7_bestFence_72 (by decide) ?_
        refine k_V (As := [.int (nI (i * w + c0)), .int 2]) (rest := []) (pre := []) (mid := [oc m0 7 [.ref A0, .ref V0, .ref Z0, .int sm, .int 0, .int y1, .int y2, .ref D0, .ref W0, .ref T0, .int tl, .int tw, .int tc], ac E A0 985 (mA h w (nI d) (nI n0) z st he ke tu ca tr co la)]) C0 (c_X7_of2 l E m0 A0 V0 Z0 D0 W0 T0 sm 0 y1 y2 tl tw tc h w (nI d) (nI n0) z st he ke tu ca tr co la (i * w + c0) (by first | assumption | omega) (by first | assumption | omega)) (cwV 2 hts gX7_bestFence_X7_of rfl rfl rfl (by decide +kernel) ⟨Nat.le_of_ble_eq_true rfl, Nat.le_of_ble_eq_true rfl⟩) hw rfl (fun _ => [oc m0 7 [.ref A0, .ref V0, .ref Z0, .int sm, .int 0, .int y1, .int y2, .ref D0, .ref W0, .ref T0, .int tl, .int tw, .int tc], ac E A0 985 (mA h w (nI d) (nI n0) z st he ke tu ca tr co la)]) (fun _ => rfl) 0 7 rfl rfl rfl rfl hl.1 rfl (Nat.le_of_ble_eq_true rfl) dX7_bestFence_73 ⟨Nat.le_of_ble_eq_true rfl, Nat.le_of_ble_eq_true rfl⟩ (fun r u H locs hq99 hw => ?_)
        subst hq99
        have hw : kW E AA sx (List.flatten [oc m0 7 [.ref A0, .ref V0, .ref Z0, .int sm, .int 0, .int y1, .int y2, .ref D0, .ref W0, .ref T0, .int tl, .int tw, .int tc], ac E A0 985 (mA h w (nI d) (nI n0) z st he ke tu ca tr co la), ac E Z0 985 (mA h w (nI d) (nI n0) z st he ke tu ca tr co la)]) H locs := hw
        refine W.eq (g2 := F0 mm 76 ls [.int (ca (i * w + c0))]) rfl ?_
        refine lv_iconst (v := (-1)) hx hb dX7_bestFence_76 (by decide) ?_
        refine lv_icmp_ne (tgt := 147) hx hb dX7_bestFence_77 (by decide) (fun c77 => ?_) (fun c77 => ?_)
        · refine lv_iinc (v := nI (i + 1)) (lv' := [(5, .int (nI (i + 1))), (6, .int (nI (i * w + c0))), (4, .int y9), (3, .int x9), (0, .ref m0), (1, .int (nI c0)), (2, .int (nI m9))]) hx hb dX7_bestFence_147 hl (k := 1) rfl (nI_1 _) (by decide) rfl (fun ls hl => ?_)
          refine lv_goto (tgt := 45) hx hb dX7_bestFence_150 (by decide) ?_
          -- back 0
          exact ih45 (i + 1) x9 y9 y1 y2 (by first | assumption | omega) (by rw [bfS_s, hBf]; exact if_pos (by rw [bfG, if_neg c77]; exact hyl)) (hyl) (by omega) H _ ls (lv_sub hl [0, 2, 3, 4, 5, 6] rfl) hw
        · refine lv_aload_n hx hb dX7_bestFence_80 rfl (lv_at hl 4 rfl) ?_
          refine lv_iload hx hb dX7_bestFence_81 (lv_at hl 0 rfl) ?_
          refine lv_bipush (v := 50) hx hb dX7_bestFence_83 (by decide) ?_
          refine k_V (As := [.int (nI (i * w + c0)), .int 50]) (rest := []) (pre := []) (mid := [oc m0 7 [.ref A0, .ref V0, .ref Z0, .int sm, .int 0, .int y1, .int y2, .ref D0, .ref W0, .ref T0, .int tl, .int tw, .int tc], ac E A0 985 (mA h w (nI d) (nI n0) z st he ke tu ca tr co la)]) C0 (c_X7_fences l E m0 A0 V0 Z0 D0 W0 T0 sm 0 y1 y2 tl tw tc h w (nI d) (nI n0) z st he ke tu ca tr co la (i * w + c0) 50 (by first | assumption | omega) (hcl9)) (cwV 2 hts gX7_bestFence_X7_fences rfl rfl rfl (by decide +kernel) ⟨Nat.le_of_ble_eq_true rfl, Nat.le_of_ble_eq_true rfl⟩) hw rfl (fun _ => [oc m0 7 [.ref A0, .ref V0, .ref Z0, .int sm, .int 0, .int y1, .int y2, .ref D0, .ref W0, .ref T0, .int tl, .int tw, .int tc], ac E A0 985 (mA h w (nI d) (nI n0) z st he ke tu (upd ca (i * w + c0) 50) (upd tr (i * w + c0) 0) co la)]) (fun _ => rfl) 0 7 rfl rfl rfl rfl hl.1 rfl (Nat.le_of_ble_eq_true rfl) dX7_bestFence_85 ⟨Nat.le_of_ble_eq_true rfl, Nat.le_of_ble_eq_true rfl⟩ (fun r u H locs hq99 hw => ?_)
          have hw : kW E AA sx (List.flatten [oc m0 7 [.ref A0, .ref V0, .ref Z0, .int sm, .int 0, .int y1, .int y2, .ref D0, .ref W0, .ref T0, .int tl, .int tw, .int tc], ac E A0 985 (mA h w (nI d) (nI n0) z st he ke tu (upd ca (i * w + c0) 50) (upd tr (i * w + c0) 0) co la), ac E Z0 985 (mA h w (nI d) (nI n0) z st he ke tu ca tr co la)]) H locs := hw
          refine W.eq (g2 := F0 mm 88 ls []) rfl ?_
          refine lv_aload_n hx hb dX7_bestFence_88 rfl (lv_at hl 4 rfl) ?_
          refine lv_iload_n hx hb dX7_bestFence_89 rfl (lv_at hl 6 rfl) ?_
          refine k_V (As := [.int (nI m9)]) (rest := []) (pre := []) (mid := [oc m0 7 [.ref A0, .ref V0, .ref Z0, .int sm, .int 0, .int y1, .int y2, .ref D0, .ref W0, .ref T0, .int tl, .int tw, .int tc], ac E A0 985 (mA h w (nI d) (nI n0) z st he ke tu (upd ca (i * w + c0) 50) (upd tr (i * w + c0) 0) co la)]) C0 (c_X7_runs l E m0 A0 V0 Z0 D0 W0 T0 sm 0 y1 y2 tl tw tc h w d n0 z st he ke tu (upd ca (i * w + c0) 50) (upd tr (i * w + c0) 0) co la m9 hp B (by first | assumption | omega) (by first | assumption | omega) (by first | assumption | omega) (by first | assumption | omega) (by first | assumption | omega) (by first | assumption | omega) (by first | assumption | omega) (by first | assumption | omega) (by first | assumption | omega) (by first | assumption | omega)) (cwV 1 hts gX7_bestFence_X7_runs rfl rfl rfl (by decide +kernel) ⟨Nat.le_of_ble_eq_true rfl, Nat.le_of_ble_eq_true rfl⟩) hw rfl (fun (u90 : Int32 × Int32) => [oc m0 7 [.ref A0, .ref V0, .ref Z0, .int sm, .int 0, .int u90.1, .int u90.2, .ref D0, .ref W0, .ref T0, .int tl, .int tw, .int tc], ac E A0 985 (mA h w (nI d) (nI (blo h w d hp st tu (upd ca (i * w + c0) 50) m9 (n0, he, (upd tr (i * w + c0) 0), co, la)).2.1) z st ((blo h w d hp st tu (upd ca (i * w + c0) 50) m9 (n0, he, (upd tr (i * w + c0) 0), co, la)).2.2.1) ke tu (upd ca (i * w + c0) 50) ((blo h w d hp st tu (upd ca (i * w + c0) 50) m9 (n0, he, (upd tr (i * w + c0) 0), co, la)).2.2.2.1) ((blo h w d hp st tu (upd ca (i * w + c0) 50) m9 (n0, he, (upd tr (i * w + c0) 0), co, la)).2.2.2.2.1) ((blo h w d hp st tu (upd ca (i * w + c0) 50) m9 (n0, he, (upd tr (i * w + c0) 0), co, la)).2.2.2.2.2))]) (fun _ => rfl) 0 7 rfl rfl rfl rfl hl.1 rfl (Nat.le_of_ble_eq_true rfl) dX7_bestFence_90 ⟨Nat.le_of_ble_eq_true rfl, Nat.le_of_ble_eq_true rfl⟩ (fun r u90 H locs hq99 hw => ?_)
          obtain ⟨r90, rfl⟩ : ∃ z, z = r := ⟨_, rfl⟩
          have h90 : r90 = nI (blo h w d hp st tu (upd ca (i * w + c0) 50) m9 (n0, he, (upd tr (i * w + c0) 0), co, la)).1 := hq99
          have hw : kW E AA sx (List.flatten [oc m0 7 [.ref A0, .ref V0, .ref Z0, .int sm, .int 0, .int u90.1, .int u90.2, .ref D0, .ref W0, .ref T0, .int tl, .int tw, .int tc], ac E A0 985 (mA h w (nI d) (nI (blo h w d hp st tu (upd ca (i * w + c0) 50) m9 (n0, he, (upd tr (i * w + c0) 0), co, la)).2.1) z st ((blo h w d hp st tu (upd ca (i * w + c0) 50) m9 (n0, he, (upd tr (i * w + c0) 0), co, la)).2.2.1) ke tu (upd ca (i * w + c0) 50) ((blo h w d hp st tu (upd ca (i * w + c0) 50) m9 (n0, he, (upd tr (i * w + c0) 0), co, la)).2.2.2.1) ((blo h w d hp st tu (upd ca (i * w + c0) 50) m9 (n0, he, (upd tr (i * w + c0) 0), co, la)).2.2.2.2.1) ((blo h w d hp st tu (upd ca (i * w + c0) 50) m9 (n0, he, (upd tr (i * w + c0) 0), co, la)).2.2.2.2.2)), ac E Z0 985 (mA h w (nI d) (nI n0) z st he ke tu ca tr co la)]) H locs := hw
          refine W.eq (g2 := F0 mm 93 ls [.int r90]) rfl ?_
          refine lv_istore (lv' := [(7, .int r90), (6, .int (nI (i * w + c0))), (5, .int (nI i)), (4, .int y9), (3, .int x9), (0, .ref m0), (1, .int (nI c0)), (2, .int (nI m9))]) hx hb dX7_bestFence_93 hl (by decide) rfl (fun ls hl => ?_)
          have h97 := blo_1 h w d hp st tu (upd ca (i * w + c0) 50) (n0, he, upd tr (i * w + c0) 0, co, la) m9
          have hl : lv_has ls 9 [(7, .int (nI (blo h w d hp st tu (upd ca (i * w + c0) 50) m9 (n0, he, upd tr (i * w + c0) 0, co, la)).1)), (6, .int (nI (i * w + c0))), (5, .int (nI i)), (4, .int y9), (3, .int x9), (0, .ref m0), (1, .int (nI c0)), (2, .int (nI m9))] := by have h99 : r90 = nI (blo h w d hp st tu (upd ca (i * w + c0) 50) m9 (n0, he, upd tr (i * w + c0) 0, co, la)).1 := (h90); rw [h99] at hl; exact hl
          refine lv_iload hx hb dX7_bestFence_95 (lv_at hl 0 rfl) ?_
          refine lv_if_ge (tgt := 104) hx hb dX7_bestFence_97 (by decide) (fun c97 => ?_) (fun c97 => False.elim (c97 (nI_pos' (by omega))))
          have c97 : 0 ≤ ((blo h w d hp st tu (upd ca (i * w + c0) 50) m9 (n0, he, upd tr (i * w + c0) 0, co, la)).1) := (nI_leI (a := 0) (b := ((blo h w d hp st tu (upd ca (i * w + c0) 50) m9 (n0, he, upd tr (i * w + c0) 0, co, la)).1)) (by omega) (by omega)).mp c97
          refine lv_aload_n hx hb dX7_bestFence_104 rfl (lv_at hl 5 rfl) ?_
          refine lv_iload hx hb dX7_bestFence_105 (lv_at hl 1 rfl) ?_
          refine lv_iconst (v := 3) hx hb dX7_bestFence_107 (by decide) ?_
          refine k_V (As := [.int (nI (i * w + c0)), .int 3]) (rest := []) (pre := []) (mid := [oc m0 7 [.ref A0, .ref V0, .ref Z0, .int sm, .int 0, .int u90.1, .int u90.2, .ref D0, .ref W0, .ref T0, .int tl, .int tw, .int tc], ac E A0 985 (mA h w (nI d) (nI (blo h w d hp st tu (upd ca (i * w + c0) 50) m9 (n0, he, (upd tr (i * w + c0) 0), co, la)).2.1) z st ((blo h w d hp st tu (upd ca (i * w + c0) 50) m9 (n0, he, (upd tr (i * w + c0) 0), co, la)).2.2.1) ke tu (upd ca (i * w + c0) 50) ((blo h w d hp st tu (upd ca (i * w + c0) 50) m9 (n0, he, (upd tr (i * w + c0) 0), co, la)).2.2.2.1) ((blo h w d hp st tu (upd ca (i * w + c0) 50) m9 (n0, he, (upd tr (i * w + c0) 0), co, la)).2.2.2.2.1) ((blo h w d hp st tu (upd ca (i * w + c0) 50) m9 (n0, he, (upd tr (i * w + c0) 0), co, la)).2.2.2.2.2))]) C0 (c_X7_of3 l E m0 A0 V0 Z0 D0 W0 T0 sm 0 u90.1 u90.2 tl tw tc h w (nI d) (nI (blo h w d hp st tu (upd ca (i * w + c0) 50) m9 (n0, he, (upd tr (i * w + c0) 0), co, la)).2.1) z st ((blo h w d hp st tu (upd ca (i * w + c0) 50) m9 (n0, he, (upd tr (i * w + c0) 0), co, la)).2.2.1) ke tu (upd ca (i * w + c0) 50) ((blo h w d hp st tu (upd ca (i * w + c0) 50) m9 (n0, he, (upd tr (i * w + c0) 0), co, la)).2.2.2.1) ((blo h w d hp st tu (upd ca (i * w + c0) 50) m9 (n0, he, (upd tr (i * w + c0) 0), co, la)).2.2.2.2.1) ((blo h w d hp st tu (upd ca (i * w + c0) 50) m9 (n0, he, (upd tr (i * w + c0) 0), co, la)).2.2.2.2.2) (i * w + c0) (by first | assumption | omega) (by first | assumption | omega)) (cwV 2 hts gX7_bestFence_X7_of rfl rfl rfl (by decide +kernel) ⟨Nat.le_of_ble_eq_true rfl, Nat.le_of_ble_eq_true rfl⟩) hw rfl (fun _ => [oc m0 7 [.ref A0, .ref V0, .ref Z0, .int sm, .int 0, .int u90.1, .int u90.2, .ref D0, .ref W0, .ref T0, .int tl, .int tw, .int tc], ac E A0 985 (mA h w (nI d) (nI (blo h w d hp st tu (upd ca (i * w + c0) 50) m9 (n0, he, (upd tr (i * w + c0) 0), co, la)).2.1) z st ((blo h w d hp st tu (upd ca (i * w + c0) 50) m9 (n0, he, (upd tr (i * w + c0) 0), co, la)).2.2.1) ke tu (upd ca (i * w + c0) 50) ((blo h w d hp st tu (upd ca (i * w + c0) 50) m9 (n0, he, (upd tr (i * w + c0) 0), co, la)).2.2.2.1) ((blo h w d hp st tu (upd ca (i * w + c0) 50) m9 (n0, he, (upd tr (i * w + c0) 0), co, la)).2.2.2.2.1) ((blo h w d hp st tu (upd ca (i * w + c0) 50) m9 (n0, he, (upd tr (i * w + c0) 0), co, la)).2.2.2.2.2))]) (fun _ => rfl) 0 7 rfl rfl rfl rfl hl.1 rfl (Nat.le_of_ble_eq_true rfl) dX7_bestFence_108 ⟨Nat.le_of_ble_eq_true rfl, Nat.le_of_ble_eq_true rfl⟩ (fun r u H locs hq99 hw => ?_)
          subst hq99
          have hw : kW E AA sx (List.flatten [oc m0 7 [.ref A0, .ref V0, .ref Z0, .int sm, .int 0, .int u90.1, .int u90.2, .ref D0, .ref W0, .ref T0, .int tl, .int tw, .int tc], ac E A0 985 (mA h w (nI d) (nI (blo h w d hp st tu (upd ca (i * w + c0) 50) m9 (n0, he, (upd tr (i * w + c0) 0), co, la)).2.1) z st ((blo h w d hp st tu (upd ca (i * w + c0) 50) m9 (n0, he, (upd tr (i * w + c0) 0), co, la)).2.2.1) ke tu (upd ca (i * w + c0) 50) ((blo h w d hp st tu (upd ca (i * w + c0) 50) m9 (n0, he, (upd tr (i * w + c0) 0), co, la)).2.2.2.1) ((blo h w d hp st tu (upd ca (i * w + c0) 50) m9 (n0, he, (upd tr (i * w + c0) 0), co, la)).2.2.2.2.1) ((blo h w d hp st tu (upd ca (i * w + c0) 50) m9 (n0, he, (upd tr (i * w + c0) 0), co, la)).2.2.2.2.2)), ac E Z0 985 (mA h w (nI d) (nI n0) z st he ke tu ca tr co la)]) H locs := hw
          refine W.eq (g2 := F0 mm 111 ls [.int (trpN (upd ca (i * w + c0) 50) ((blo h w d hp st tu (upd ca (i * w + c0) 50) m9 (n0, he, (upd tr (i * w + c0) 0), co, la)).2.2.2.1) (i * w + c0))]) rfl ?_
          refine W.eq (g2 := F0 mm 111 ls [.int (bfG h w d hp st tu ca m9 n0 he tr co la c0 i)]) (congrArg (fun z9 => F0 mm 111 ls [.int z9]) (show (trpN (upd ca (i * w + c0) 50) ((blo h w d hp st tu (upd ca (i * w + c0) 50) m9 (n0, he, (upd tr (i * w + c0) 0), co, la)).2.2.2.1) (i * w + c0) : Int32) = bfG h w d hp st tu ca m9 n0 he tr co la c0 i from by rw [bfG, if_pos c77]; rfl)) ?_
          refine lv_istore (lv' := [(8, .int (bfG h w d hp st tu ca m9 n0 he tr co la c0 i)), (7, .int (nI (blo h w d hp st tu (upd ca (i * w + c0) 50) m9 (n0, he, upd tr (i * w + c0) 0, co, la)).1)), (6, .int (nI (i * w + c0))), (5, .int (nI i)), (4, .int y9), (3, .int x9), (0, .ref m0), (1, .int (nI c0)), (2, .int (nI m9))]) hx hb dX7_bestFence_111 hl (by decide) rfl (fun ls hl => ?_)
          refine lv_aload_n hx hb dX7_bestFence_113 rfl (lv_at hl 6 rfl) ?_
          refine k_V (As := []) (rest := []) (pre := []) (mid := [oc m0 7 [.ref A0, .ref V0, .ref Z0, .int sm, .int 0, .int u90.1, .int u90.2, .ref D0, .ref W0, .ref T0, .int tl, .int tw, .int tc], ac E A0 985 (mA h w (nI d) (nI (blo h w d hp st tu (upd ca (i * w + c0) 50) m9 (n0, he, (upd tr (i * w + c0) 0), co, la)).2.1) z st ((blo h w d hp st tu (upd ca (i * w + c0) 50) m9 (n0, he, (upd tr (i * w + c0) 0), co, la)).2.2.1) ke tu (upd ca (i * w + c0) 50) ((blo h w d hp st tu (upd ca (i * w + c0) 50) m9 (n0, he, (upd tr (i * w + c0) 0), co, la)).2.2.2.1) ((blo h w d hp st tu (upd ca (i * w + c0) 50) m9 (n0, he, (upd tr (i * w + c0) 0), co, la)).2.2.2.2.1) ((blo h w d hp st tu (upd ca (i * w + c0) 50) m9 (n0, he, (upd tr (i * w + c0) 0), co, la)).2.2.2.2.2)), ac E Z0 985 (mA h w (nI d) (nI n0) z st he ke tu ca tr co la)]) C0 (c_X7_takesBack l E m0 A0 V0 Z0 D0 W0 T0 sm 0 u90.1 u90.2 tl tw tc (mA h w (nI d) (nI (blo h w d hp st tu (upd ca (i * w + c0) 50) m9 (n0, he, (upd tr (i * w + c0) 0), co, la)).2.1) z st ((blo h w d hp st tu (upd ca (i * w + c0) 50) m9 (n0, he, (upd tr (i * w + c0) 0), co, la)).2.2.1) ke tu (upd ca (i * w + c0) 50) ((blo h w d hp st tu (upd ca (i * w + c0) 50) m9 (n0, he, (upd tr (i * w + c0) 0), co, la)).2.2.2.1) ((blo h w d hp st tu (upd ca (i * w + c0) 50) m9 (n0, he, (upd tr (i * w + c0) 0), co, la)).2.2.2.2.1) ((blo h w d hp st tu (upd ca (i * w + c0) 50) m9 (n0, he, (upd tr (i * w + c0) 0), co, la)).2.2.2.2.2)) (mA h w (nI d) (nI n0) z st he ke tu ca tr co la) ) (cwV 0 hts gX7_bestFence_X7_takesBack rfl rfl rfl (by decide +kernel) ⟨Nat.le_of_ble_eq_true rfl, Nat.le_of_ble_eq_true rfl⟩) hw rfl (fun _ => [oc m0 7 [.ref A0, .ref V0, .ref Z0, .int sm, .int 0, .int u90.1, .int u90.2, .ref D0, .ref W0, .ref T0, .int tl, .int tw, .int tc], ac E A0 985 (mA h w (nI d) (nI n0) z st he ke tu ca tr co la), ac E Z0 985 (mA h w (nI d) (nI n0) z st he ke tu ca tr co la)]) (fun _ => rfl) 0 7 rfl rfl rfl rfl hl.1 rfl (Nat.le_of_ble_eq_true rfl) dX7_bestFence_114 ⟨Nat.le_of_ble_eq_true rfl, Nat.le_of_ble_eq_true rfl⟩ (fun r u H locs hq99 hw => ?_)
          have hw : kW E AA sx (List.flatten [oc m0 7 [.ref A0, .ref V0, .ref Z0, .int sm, .int 0, .int u90.1, .int u90.2, .ref D0, .ref W0, .ref T0, .int tl, .int tw, .int tc], ac E A0 985 (mA h w (nI d) (nI n0) z st he ke tu ca tr co la), ac E Z0 985 (mA h w (nI d) (nI n0) z st he ke tu ca tr co la)]) H locs := hw
          refine W.eq (g2 := F0 mm 117 ls []) rfl ?_
          refine lv_iload hx hb dX7_bestFence_117 (lv_at hl 0 rfl) ?_
          refine lv_iload hx hb dX7_bestFence_119 (lv_at hl 4 rfl) ?_
          refine lv_icmp_le (tgt := 129) hx hb dX7_bestFence_121 (by decide) (fun c121 => ?_) (fun c121 => ?_)
          · refine lv_iload_n hx hb dX7_bestFence_129 rfl (lv_at hl 5 rfl) ?_
            refine lv_istore_n (lv' := [(3, .int x9), (8, .int (bfG h w d hp st tu ca m9 n0 he tr co la c0 i)), (7, .int (nI (blo h w d hp st tu (upd ca (i * w + c0) 50) m9 (n0, he, upd tr (i * w + c0) 0, co, la)).1)), (6, .int (nI (i * w + c0))), (5, .int (nI i)), (4, .int y9), (0, .ref m0), (1, .int (nI c0)), (2, .int (nI m9))]) hx hb dX7_bestFence_130 rfl hl (by decide) rfl (fun ls hl => ?_)
            refine lv_iload hx hb dX7_bestFence_131 (lv_at hl 1 rfl) ?_
            refine lv_iload hx hb dX7_bestFence_133 (lv_at hl 5 rfl) ?_
            refine lv_icmp_le (tgt := 143) hx hb dX7_bestFence_135 (by decide) (fun c135 => ?_) (fun c135 => ?_)
            · refine lv_iload hx hb dX7_bestFence_143 (lv_at hl 5 rfl) ?_
              refine lv_istore (lv' := [(4, .int y9), (3, .int x9), (8, .int (bfG h w d hp st tu ca m9 n0 he tr co la c0 i)), (7, .int (nI (blo h w d hp st tu (upd ca (i * w + c0) 50) m9 (n0, he, upd tr (i * w + c0) 0, co, la)).1)), (6, .int (nI (i * w + c0))), (5, .int (nI i)), (0, .ref m0), (1, .int (nI c0)), (2, .int (nI m9))]) hx hb dX7_bestFence_145 hl (by decide) rfl (fun ls hl => ?_)
              refine lv_iinc (v := nI (i + 1)) (lv' := [(5, .int (nI (i + 1))), (4, .int y9), (3, .int x9), (8, .int (bfG h w d hp st tu ca m9 n0 he tr co la c0 i)), (7, .int (nI (blo h w d hp st tu (upd ca (i * w + c0) 50) m9 (n0, he, upd tr (i * w + c0) 0, co, la)).1)), (6, .int (nI (i * w + c0))), (0, .ref m0), (1, .int (nI c0)), (2, .int (nI m9))]) hx hb dX7_bestFence_147 hl (k := 5) rfl (nI_1 _) (by decide) rfl (fun ls hl => ?_)
              refine lv_goto (tgt := 45) hx hb dX7_bestFence_150 (by decide) ?_
              -- back 1
              exact ih45 (i + 1) x9 y9 u90.1 u90.2 (by first | assumption | omega) (by rw [bfS_s, hBf]; exact if_pos c121) (hyl) (by omega) H _ ls (lv_sub hl [0, 1, 2, 6, 7, 8] rfl) hw
            · refine lv_iload hx hb dX7_bestFence_138 (lv_at hl 1 rfl) ?_
              refine lv_goto (tgt := 145) hx hb dX7_bestFence_140 (by decide) ?_
              refine lv_istore (lv' := [(4, .int (bfG h w d hp st tu ca m9 n0 he tr co la c0 i)), (3, .int x9), (8, .int (bfG h w d hp st tu ca m9 n0 he tr co la c0 i)), (7, .int (nI (blo h w d hp st tu (upd ca (i * w + c0) 50) m9 (n0, he, upd tr (i * w + c0) 0, co, la)).1)), (6, .int (nI (i * w + c0))), (5, .int (nI i)), (0, .ref m0), (1, .int (nI c0)), (2, .int (nI m9))]) hx hb dX7_bestFence_145 hl (by decide) rfl (fun ls hl => ?_)
              refine lv_iinc (v := nI (i + 1)) (lv' := [(5, .int (nI (i + 1))), (4, .int (bfG h w d hp st tu ca m9 n0 he tr co la c0 i)), (3, .int x9), (8, .int (bfG h w d hp st tu ca m9 n0 he tr co la c0 i)), (7, .int (nI (blo h w d hp st tu (upd ca (i * w + c0) 50) m9 (n0, he, upd tr (i * w + c0) 0, co, la)).1)), (6, .int (nI (i * w + c0))), (0, .ref m0), (1, .int (nI c0)), (2, .int (nI m9))]) hx hb dX7_bestFence_147 hl (k := 5) rfl (nI_1 _) (by decide) rfl (fun ls hl => ?_)
              refine lv_goto (tgt := 45) hx hb dX7_bestFence_150 (by decide) ?_
              -- back 2
              exact ih45 (i + 1) x9 (bfG h w d hp st tu ca m9 n0 he tr co la c0 i) u90.1 u90.2 (by first | assumption | omega) (absurd c121 c135) (absurd c121 c135) (by omega) H _ ls (lv_sub hl [0, 1, 2, 6, 7, 8] rfl) hw
          · refine lv_iload hx hb dX7_bestFence_124 (lv_at hl 3 rfl) ?_
            refine lv_goto (tgt := 130) hx hb dX7_bestFence_126 (by decide) ?_
            refine lv_istore_n (lv' := [(3, .int (nI i)), (8, .int (bfG h w d hp st tu ca m9 n0 he tr co la c0 i)), (7, .int (nI (blo h w d hp st tu (upd ca (i * w + c0) 50) m9 (n0, he, upd tr (i * w + c0) 0, co, la)).1)), (6, .int (nI (i * w + c0))), (5, .int (nI i)), (4, .int y9), (0, .ref m0), (1, .int (nI c0)), (2, .int (nI m9))]) hx hb dX7_bestFence_130 rfl hl (by decide) rfl (fun ls hl => ?_)
            refine lv_iload hx hb dX7_bestFence_131 (lv_at hl 1 rfl) ?_
            refine lv_iload hx hb dX7_bestFence_133 (lv_at hl 5 rfl) ?_
            refine lv_icmp_le (tgt := 143) hx hb dX7_bestFence_135 (by decide) (fun c135 => ?_) (fun c135 => ?_)
            · refine lv_iload hx hb dX7_bestFence_143 (lv_at hl 5 rfl) ?_
              refine lv_istore (lv' := [(4, .int y9), (3, .int (nI i)), (8, .int (bfG h w d hp st tu ca m9 n0 he tr co la c0 i)), (7, .int (nI (blo h w d hp st tu (upd ca (i * w + c0) 50) m9 (n0, he, upd tr (i * w + c0) 0, co, la)).1)), (6, .int (nI (i * w + c0))), (5, .int (nI i)), (0, .ref m0), (1, .int (nI c0)), (2, .int (nI m9))]) hx hb dX7_bestFence_145 hl (by decide) rfl (fun ls hl => ?_)
              refine lv_iinc (v := nI (i + 1)) (lv' := [(5, .int (nI (i + 1))), (4, .int y9), (3, .int (nI i)), (8, .int (bfG h w d hp st tu ca m9 n0 he tr co la c0 i)), (7, .int (nI (blo h w d hp st tu (upd ca (i * w + c0) 50) m9 (n0, he, upd tr (i * w + c0) 0, co, la)).1)), (6, .int (nI (i * w + c0))), (0, .ref m0), (1, .int (nI c0)), (2, .int (nI m9))]) hx hb dX7_bestFence_147 hl (k := 5) rfl (nI_1 _) (by decide) rfl (fun ls hl => ?_)
              refine lv_goto (tgt := 45) hx hb dX7_bestFence_150 (by decide) ?_
              -- back 3
              exact ih45 (i + 1) (nI i) y9 u90.1 u90.2 (by first | assumption | omega) (absurd c135 c121) (absurd c135 c121) (by omega) H _ ls (lv_sub hl [0, 1, 2, 6, 7, 8] rfl) hw
            · refine lv_iload hx hb dX7_bestFence_138 (lv_at hl 1 rfl) ?_
              refine lv_goto (tgt := 145) hx hb dX7_bestFence_140 (by decide) ?_
              refine lv_istore (lv' := [(4, .int (bfG h w d hp st tu ca m9 n0 he tr co la c0 i)), (3, .int (nI i)), (8, .int (bfG h w d hp st tu ca m9 n0 he tr co la c0 i)), (7, .int (nI (blo h w d hp st tu (upd ca (i * w + c0) 50) m9 (n0, he, upd tr (i * w + c0) 0, co, la)).1)), (6, .int (nI (i * w + c0))), (5, .int (nI i)), (0, .ref m0), (1, .int (nI c0)), (2, .int (nI m9))]) hx hb dX7_bestFence_145 hl (by decide) rfl (fun ls hl => ?_)
              refine lv_iinc (v := nI (i + 1)) (lv' := [(5, .int (nI (i + 1))), (4, .int (bfG h w d hp st tu ca m9 n0 he tr co la c0 i)), (3, .int (nI i)), (8, .int (bfG h w d hp st tu ca m9 n0 he tr co la c0 i)), (7, .int (nI (blo h w d hp st tu (upd ca (i * w + c0) 50) m9 (n0, he, upd tr (i * w + c0) 0, co, la)).1)), (6, .int (nI (i * w + c0))), (0, .ref m0), (1, .int (nI c0)), (2, .int (nI m9))]) hx hb dX7_bestFence_147 hl (k := 5) rfl (nI_1 _) (by decide) rfl (fun ls hl => ?_)
              refine lv_goto (tgt := 45) hx hb dX7_bestFence_150 (by decide) ?_
              -- back 4
              exact ih45 (i + 1) (nI i) (bfG h w d hp st tu ca m9 n0 he tr co la c0 i) u90.1 u90.2 (by first | assumption | omega) (by rw [bfS_s, hBf]; exact if_neg c121) (Int32.le_trans hyl (Int32.le_of_lt (Int32.not_le.mp c121))) (by omega) H _ ls (lv_sub hl [0, 1, 2, 6, 7, 8] rfl) hw
  exact loop45 ((h - 0) + 1) 0 (-1) (-1) pl hz (by first | assumption | omega) (rfl) (by decide) (Nat.lt_succ_self _) H _ ls (lv_sub hl [0, 1, 2, 3, 4, 5] rfl) hw

set_option maxHeartbeats 4000000 in
set_option maxRecDepth 100000 in
theorem c_X7_bestFence_x1 (l : Launch) (E : kE) (m0 : Nat) (A0 : Nat) (V0 : Nat) (Z0 : Nat) (D0 : Nat) (W0 : Nat) (T0 : Nat) (sm : Int32) (th : Int32) (pl : Int32) (hz : Int32) (tl : Int32) (tw : Int32) (tc : Int32) (h : Nat) (w : Nat) (wd : Int32) (s0 : Int32) (z : Int32) (st : Nat → Int32) (he : Nat → Int32) (ke : Nat → Int32) (tu : Nat → Int32) (ca : Nat → Int32) (tr : Nat → Int32) (co : Nat → Int32) (la : Nat → Int32) (x : Int32) (v : Int32) (hG : kG h w) (hv : ¬ (¬ x < 0 ∧ ¬ nI (w - 1) < x)) : kC E l yX7_bestFence wsX7_bestFence rmX7_bestFence [.ref m0, .int x, .int v] (List.flatten [oc m0 7 [.ref A0, .ref V0, .ref Z0, .int sm, .int th, .int pl, .int hz, .ref D0, .ref W0, .ref T0, .int tl, .int tw, .int tc], ac E A0 985 (mA h w wd s0 z st he ke tu ca tr co la)]) kI (fun (r : Int32) (_ : Unit) => r = 0) (fun _ => List.flatten [oc m0 7 [.ref A0, .ref V0, .ref Z0, .int sm, .int 1, .int pl, .int hz, .ref D0, .ref W0, .ref T0, .int tl, .int tw, .int tc], ac E A0 985 (mA h w wd s0 z st he ke tu ca tr co la)]) 0 0 := by
  refine k_body (cc := cX7_bestFence) (maxL := 9) (ret := (some .int)) (by decide) rfl (Nat.le_of_ble_eq_true rfl) ?_
  intro pp ee sx mm aa bb me cd H locs AA ls C0 hr hlk hnm hl hw
  obtain ⟨hx, hb, hml, hown, hts⟩ := id C0
  have hl : lv_has ls 9 [(0, .ref m0), (1, .int x), (2, .int v)] := hl
  have hw : kW E AA sx (List.flatten [oc m0 7 [.ref A0, .ref V0, .ref Z0, .int sm, .int th, .int pl, .int hz, .ref D0, .ref W0, .ref T0, .int tl, .int tw, .int tc], ac E A0 985 (mA h w wd s0 z st he ke tu ca tr co la)]) H locs := hw
  have hn9 := kG_n hG
  have hG9 := id hG
  obtain ⟨hG1, hG2, hG3, hG4⟩ := hG9
  have hinX7 : ∀ w ∈ u_ws RX7 TX7 13, w ∈ wsX7_bestFence := by decide +kernel
  refine lv_aload_n hx hb dX7_bestFence_0 rfl (lv_at hl 0 rfl) ?_
  refine lv_iload_n hx hb dX7_bestFence_1 rfl (lv_at hl 1 rfl) ?_
  refine lv_i2l (v := Int32.toInt64 x) hx hb dX7_bestFence_2 rfl ?_
  refine lv_lconst (v := 0) hx hb dX7_bestFence_3 (by decide) ?_
  refine lv_aload_n hx hb dX7_bestFence_4 rfl (lv_at hl 0 rfl) ?_
  refine k_get (pre := []) C0 hw hinX7 rfl 0 (by decide) (hts (.fieldLink RX7 7 "SlabDunesModel" "all" "[I") (by decide +kernel)) rfl rfl dX7_bestFence_5 ?_
  refine lv_iconst (v := 5) hx hb dX7_bestFence_8 (by decide) ?_
  refine k_iald (pre := [oc m0 7 [.ref A0, .ref V0, .ref Z0, .int sm, .int th, .int pl, .int hz, .ref D0, .ref W0, .ref T0, .int tl, .int tw, .int tc]]) (l1 := []) C0 hw (i := 5) (kinN (n := 5) (by decide) (by decide)) dX7_bestFence_9 ?_
  refine W.eq (g2 := F0 mm 10 ls [.int (nI w), .long 0, .long (Int32.toInt64 x), .ref m0]) (congrArg (fun z9 => F0 mm 10 ls [.int z9, .long 0, .long (Int32.toInt64 x), .ref m0]) (show ((mA h w wd s0 z st he ke tu ca tr co la) (Int32.toNatClampNeg 5) : Int32) = nI w from rfl)) ?_
  refine lv_i2l (v := Int32.toInt64 (nI w)) hx hb dX7_bestFence_10 rfl ?_
  refine lv_lconst (v := 1) hx hb dX7_bestFence_11 (by decide) ?_
  refine lv_lsub hx hb dX7_bestFence_12 ?_
  refine W.eq (g2 := F0 mm 13 ls [.long (Int32.toInt64 (nI (w - 1))), .long 0, .long (Int32.toInt64 x), .ref m0]) (congrArg (fun z9 => F0 mm 13 ls [.long z9, .long 0, .long (Int32.toInt64 x), .ref m0]) (show ((Int32.toInt64 (nI w)) - 1 : Int64) = Int32.toInt64 (nI (w - 1)) from by rw [nI_l (by omega), nI_l (by omega)]; exact lN_sub (b := 1) (by omega))) ?_
  refine k_S (As := [.long (Int32.toInt64 x), .long 0, .long (Int32.toInt64 (nI (w - 1)))]) (rest := [.ref m0]) (pre := []) (mid := []) C0 (c_X7_in_0_hi9 l E x (nI (w - 1)) ) (va_cwS 3 hts gX7_bestFence_X7_in rfl rfl rfl (by decide +kernel) ⟨Nat.le_of_ble_eq_true rfl, Nat.le_of_ble_eq_true rfl⟩) hw rfl (fun _ => []) (fun _ => rfl) rfl hl.1 rfl (Nat.le_of_ble_eq_true rfl) dX7_bestFence_13 ⟨Nat.le_of_ble_eq_true rfl, Nat.le_of_ble_eq_true rfl⟩ (fun r u H locs hq99 hw => ?_)
  subst hq99
  have hw : kW E AA sx (List.flatten [oc m0 7 [.ref A0, .ref V0, .ref Z0, .int sm, .int th, .int pl, .int hz, .ref D0, .ref W0, .ref T0, .int tl, .int tw, .int tc], ac E A0 985 (mA h w wd s0 z st he ke tu ca tr co la)]) H locs := hw
  refine W.eq (g2 := F0 mm 16 ls [.int (if ¬ x < 0 ∧ ¬ (nI (w - 1)) < x then 1 else 0), .ref m0]) rfl ?_
  refine lv_iload_n hx hb dX7_bestFence_16 rfl (lv_at hl 2 rfl) ?_
  refine lv_i2l (v := Int32.toInt64 v) hx hb dX7_bestFence_17 rfl ?_
  refine lv_lconst (v := 0) hx hb dX7_bestFence_18 (by decide) ?_
  refine lv_ldc2 (v := 500) hx hb hown (hts (.constantLong RX7 198 500) (by decide +kernel)) dX7_bestFence_19 ?_
  refine k_S (As := [.long (Int32.toInt64 v), .long 0, .long 500]) (rest := [.int (if ¬ x < 0 ∧ ¬ (nI (w - 1)) < x then 1 else 0), .ref m0]) (pre := []) (mid := []) C0 (c_X7_in_0_500 l E v ) (va_cwS 3 hts gX7_bestFence_X7_in rfl rfl rfl (by decide +kernel) ⟨Nat.le_of_ble_eq_true rfl, Nat.le_of_ble_eq_true rfl⟩) hw rfl (fun _ => []) (fun _ => rfl) rfl hl.1 rfl (Nat.le_of_ble_eq_true rfl) dX7_bestFence_22 ⟨Nat.le_of_ble_eq_true rfl, Nat.le_of_ble_eq_true rfl⟩ (fun r u H locs hq99 hw => ?_)
  subst hq99
  have hw : kW E AA sx (List.flatten [oc m0 7 [.ref A0, .ref V0, .ref Z0, .int sm, .int th, .int pl, .int hz, .ref D0, .ref W0, .ref T0, .int tl, .int tw, .int tc], ac E A0 985 (mA h w wd s0 z st he ke tu ca tr co la)]) H locs := hw
  refine W.eq (g2 := F0 mm 25 ls [.int (if ¬ v < 0 ∧ ¬ 500 < v then 1 else 0), .int (if ¬ x < 0 ∧ ¬ (nI (w - 1)) < x then 1 else 0), .ref m0]) rfl ?_
  refine k_V (As := [.int (if ¬ x < 0 ∧ ¬ (nI (w - 1)) < x then 1 else 0), .int (if ¬ v < 0 ∧ ¬ 500 < v then 1 else 0)]) (rest := []) (pre := []) (mid := [oc m0 7 [.ref A0, .ref V0, .ref Z0, .int sm, .int th, .int pl, .int hz, .ref D0, .ref W0, .ref T0, .int tl, .int tw, .int tc]]) C0 (c_X7_goes_1 l E m0 A0 V0 Z0 D0 W0 T0 sm th pl hz tl tw tc (if ¬ x < 0 ∧ ¬ (nI (w - 1)) < x then 1 else 0) (if ¬ v < 0 ∧ ¬ 500 < v then 1 else 0) (kn10 (hv))) (cwV 2 hts gX7_bestFence_X7_goes rfl rfl rfl (by decide +kernel) ⟨Nat.le_of_ble_eq_true rfl, Nat.le_of_ble_eq_true rfl⟩) hw rfl (fun _ => [oc m0 7 [.ref A0, .ref V0, .ref Z0, .int sm, .int 1, .int pl, .int hz, .ref D0, .ref W0, .ref T0, .int tl, .int tw, .int tc]]) (fun _ => rfl) 0 7 rfl rfl rfl rfl hl.1 rfl (Nat.le_of_ble_eq_true rfl) dX7_bestFence_25 ⟨Nat.le_of_ble_eq_true rfl, Nat.le_of_ble_eq_true rfl⟩ (fun r u H locs hq99 hw => ?_)
  subst r
  have hw : kW E AA sx (List.flatten [oc m0 7 [.ref A0, .ref V0, .ref Z0, .int sm, .int 1, .int pl, .int hz, .ref D0, .ref W0, .ref T0, .int tl, .int tw, .int tc], ac E A0 985 (mA h w wd s0 z st he ke tu ca tr co la)]) H locs := hw
  refine W.eq (g2 := F0 mm 28 ls [.int 0]) rfl ?_
  refine lv_if_ne (tgt := 33) hx hb dX7_bestFence_28 (by decide) (fun c28 => absurd c28 (by decide)) (fun c28 => ?_)
  refine lv_iconst (v := 0) hx hb dX7_bestFence_31 (by decide) ?_
  -- leaf 0
  exact k_iret C0 hr hlk hw () (rfl) (rfl) (Nat.le_of_ble_eq_true rfl) (Nat.le_of_ble_eq_true rfl) dX7_bestFence_32

set_option maxHeartbeats 4000000 in
set_option maxRecDepth 100000 in
theorem c_X7_bestFence_x2 (l : Launch) (E : kE) (m0 : Nat) (A0 : Nat) (V0 : Nat) (Z0 : Nat) (D0 : Nat) (W0 : Nat) (T0 : Nat) (sm : Int32) (th : Int32) (pl : Int32) (hz : Int32) (tl : Int32) (tw : Int32) (tc : Int32) (h : Nat) (w : Nat) (wd : Int32) (s0 : Int32) (z : Int32) (st : Nat → Int32) (he : Nat → Int32) (ke : Nat → Int32) (tu : Nat → Int32) (ca : Nat → Int32) (tr : Nat → Int32) (co : Nat → Int32) (la : Nat → Int32) (c0 : Nat) (v : Int32) (hG : kG h w) (hc0 : c0 < w) (hv : ¬ (¬ v < 0 ∧ ¬ 500 < v)) : kC E l yX7_bestFence wsX7_bestFence rmX7_bestFence [.ref m0, .int (nI c0), .int v] (List.flatten [oc m0 7 [.ref A0, .ref V0, .ref Z0, .int sm, .int th, .int pl, .int hz, .ref D0, .ref W0, .ref T0, .int tl, .int tw, .int tc], ac E A0 985 (mA h w wd s0 z st he ke tu ca tr co la)]) kI (fun (r : Int32) (_ : Unit) => r = 0) (fun _ => List.flatten [oc m0 7 [.ref A0, .ref V0, .ref Z0, .int sm, .int 2, .int pl, .int hz, .ref D0, .ref W0, .ref T0, .int tl, .int tw, .int tc], ac E A0 985 (mA h w wd s0 z st he ke tu ca tr co la)]) 0 0 := by
  refine k_body (cc := cX7_bestFence) (maxL := 9) (ret := (some .int)) (by decide) rfl (Nat.le_of_ble_eq_true rfl) ?_
  intro pp ee sx mm aa bb me cd H locs AA ls C0 hr hlk hnm hl hw
  obtain ⟨hx, hb, hml, hown, hts⟩ := id C0
  have hl : lv_has ls 9 [(0, .ref m0), (1, .int (nI c0)), (2, .int v)] := hl
  have hw : kW E AA sx (List.flatten [oc m0 7 [.ref A0, .ref V0, .ref Z0, .int sm, .int th, .int pl, .int hz, .ref D0, .ref W0, .ref T0, .int tl, .int tw, .int tc], ac E A0 985 (mA h w wd s0 z st he ke tu ca tr co la)]) H locs := hw
  have hn9 := kG_n hG
  have hG9 := id hG
  obtain ⟨hG1, hG2, hG3, hG4⟩ := hG9
  have hinX7 : ∀ w ∈ u_ws RX7 TX7 13, w ∈ wsX7_bestFence := by decide +kernel
  refine lv_aload_n hx hb dX7_bestFence_0 rfl (lv_at hl 0 rfl) ?_
  refine lv_iload_n hx hb dX7_bestFence_1 rfl (lv_at hl 1 rfl) ?_
  refine lv_i2l (v := Int32.toInt64 (nI c0)) hx hb dX7_bestFence_2 rfl ?_
  refine lv_lconst (v := 0) hx hb dX7_bestFence_3 (by decide) ?_
  refine lv_aload_n hx hb dX7_bestFence_4 rfl (lv_at hl 0 rfl) ?_
  refine k_get (pre := []) C0 hw hinX7 rfl 0 (by decide) (hts (.fieldLink RX7 7 "SlabDunesModel" "all" "[I") (by decide +kernel)) rfl rfl dX7_bestFence_5 ?_
  refine lv_iconst (v := 5) hx hb dX7_bestFence_8 (by decide) ?_
  refine k_iald (pre := [oc m0 7 [.ref A0, .ref V0, .ref Z0, .int sm, .int th, .int pl, .int hz, .ref D0, .ref W0, .ref T0, .int tl, .int tw, .int tc]]) (l1 := []) C0 hw (i := 5) (kinN (n := 5) (by decide) (by decide)) dX7_bestFence_9 ?_
  refine W.eq (g2 := F0 mm 10 ls [.int (nI w), .long 0, .long (Int32.toInt64 (nI c0)), .ref m0]) (congrArg (fun z9 => F0 mm 10 ls [.int z9, .long 0, .long (Int32.toInt64 (nI c0)), .ref m0]) (show ((mA h w wd s0 z st he ke tu ca tr co la) (Int32.toNatClampNeg 5) : Int32) = nI w from rfl)) ?_
  refine lv_i2l (v := Int32.toInt64 (nI w)) hx hb dX7_bestFence_10 rfl ?_
  refine lv_lconst (v := 1) hx hb dX7_bestFence_11 (by decide) ?_
  refine lv_lsub hx hb dX7_bestFence_12 ?_
  refine W.eq (g2 := F0 mm 13 ls [.long (Int32.toInt64 (nI (w - 1))), .long 0, .long (Int32.toInt64 (nI c0)), .ref m0]) (congrArg (fun z9 => F0 mm 13 ls [.long z9, .long 0, .long (Int32.toInt64 (nI c0)), .ref m0]) (show ((Int32.toInt64 (nI w)) - 1 : Int64) = Int32.toInt64 (nI (w - 1)) from by rw [nI_l (by omega), nI_l (by omega)]; exact lN_sub (b := 1) (by omega))) ?_
  refine k_S (As := [.long (Int32.toInt64 (nI c0)), .long 0, .long (Int32.toInt64 (nI (w - 1)))]) (rest := [.ref m0]) (pre := []) (mid := []) C0 (c_X7_in_0_hi9 l E (nI c0) (nI (w - 1)) ) (va_cwS 3 hts gX7_bestFence_X7_in rfl rfl rfl (by decide +kernel) ⟨Nat.le_of_ble_eq_true rfl, Nat.le_of_ble_eq_true rfl⟩) hw rfl (fun _ => []) (fun _ => rfl) rfl hl.1 rfl (Nat.le_of_ble_eq_true rfl) dX7_bestFence_13 ⟨Nat.le_of_ble_eq_true rfl, Nat.le_of_ble_eq_true rfl⟩ (fun r u H locs hq99 hw => ?_)
  subst hq99
  have hw : kW E AA sx (List.flatten [oc m0 7 [.ref A0, .ref V0, .ref Z0, .int sm, .int th, .int pl, .int hz, .ref D0, .ref W0, .ref T0, .int tl, .int tw, .int tc], ac E A0 985 (mA h w wd s0 z st he ke tu ca tr co la)]) H locs := hw
  refine W.eq (g2 := F0 mm 16 ls [.int (if ¬ (nI c0) < 0 ∧ ¬ (nI (w - 1)) < (nI c0) then 1 else 0), .ref m0]) rfl ?_
  refine lv_iload_n hx hb dX7_bestFence_16 rfl (lv_at hl 2 rfl) ?_
  refine lv_i2l (v := Int32.toInt64 v) hx hb dX7_bestFence_17 rfl ?_
  refine lv_lconst (v := 0) hx hb dX7_bestFence_18 (by decide) ?_
  refine lv_ldc2 (v := 500) hx hb hown (hts (.constantLong RX7 198 500) (by decide +kernel)) dX7_bestFence_19 ?_
  refine k_S (As := [.long (Int32.toInt64 v), .long 0, .long 500]) (rest := [.int (if ¬ (nI c0) < 0 ∧ ¬ (nI (w - 1)) < (nI c0) then 1 else 0), .ref m0]) (pre := []) (mid := []) C0 (c_X7_in_0_500 l E v ) (va_cwS 3 hts gX7_bestFence_X7_in rfl rfl rfl (by decide +kernel) ⟨Nat.le_of_ble_eq_true rfl, Nat.le_of_ble_eq_true rfl⟩) hw rfl (fun _ => []) (fun _ => rfl) rfl hl.1 rfl (Nat.le_of_ble_eq_true rfl) dX7_bestFence_22 ⟨Nat.le_of_ble_eq_true rfl, Nat.le_of_ble_eq_true rfl⟩ (fun r u H locs hq99 hw => ?_)
  subst hq99
  have hw : kW E AA sx (List.flatten [oc m0 7 [.ref A0, .ref V0, .ref Z0, .int sm, .int th, .int pl, .int hz, .ref D0, .ref W0, .ref T0, .int tl, .int tw, .int tc], ac E A0 985 (mA h w wd s0 z st he ke tu ca tr co la)]) H locs := hw
  refine W.eq (g2 := F0 mm 25 ls [.int (if ¬ v < 0 ∧ ¬ 500 < v then 1 else 0), .int (if ¬ (nI c0) < 0 ∧ ¬ (nI (w - 1)) < (nI c0) then 1 else 0), .ref m0]) rfl ?_
  refine k_V (As := [.int (if ¬ (nI c0) < 0 ∧ ¬ (nI (w - 1)) < (nI c0) then 1 else 0), .int (if ¬ v < 0 ∧ ¬ 500 < v then 1 else 0)]) (rest := []) (pre := []) (mid := [oc m0 7 [.ref A0, .ref V0, .ref Z0, .int sm, .int th, .int pl, .int hz, .ref D0, .ref W0, .ref T0, .int tl, .int tw, .int tc]]) C0 (c_X7_goes_2 l E m0 A0 V0 Z0 D0 W0 T0 sm th pl hz tl tw tc (if ¬ (nI c0) < 0 ∧ ¬ (nI (w - 1)) < (nI c0) then 1 else 0) (if ¬ v < 0 ∧ ¬ 500 < v then 1 else 0) (kp10 (⟨nI_pos (by omega), nI_nlt (a := w - 1) (b := c0) (by omega) (by omega)⟩)) (kn10 (hv))) (cwV 2 hts gX7_bestFence_X7_goes rfl rfl rfl (by decide +kernel) ⟨Nat.le_of_ble_eq_true rfl, Nat.le_of_ble_eq_true rfl⟩) hw rfl (fun _ => [oc m0 7 [.ref A0, .ref V0, .ref Z0, .int sm, .int 2, .int pl, .int hz, .ref D0, .ref W0, .ref T0, .int tl, .int tw, .int tc]]) (fun _ => rfl) 0 7 rfl rfl rfl rfl hl.1 rfl (Nat.le_of_ble_eq_true rfl) dX7_bestFence_25 ⟨Nat.le_of_ble_eq_true rfl, Nat.le_of_ble_eq_true rfl⟩ (fun r u H locs hq99 hw => ?_)
  subst r
  have hw : kW E AA sx (List.flatten [oc m0 7 [.ref A0, .ref V0, .ref Z0, .int sm, .int 2, .int pl, .int hz, .ref D0, .ref W0, .ref T0, .int tl, .int tw, .int tc], ac E A0 985 (mA h w wd s0 z st he ke tu ca tr co la)]) H locs := hw
  refine W.eq (g2 := F0 mm 28 ls [.int 0]) rfl ?_
  refine lv_if_ne (tgt := 33) hx hb dX7_bestFence_28 (by decide) (fun c28 => absurd c28 (by decide)) (fun c28 => ?_)
  refine lv_iconst (v := 0) hx hb dX7_bestFence_31 (by decide) ?_
  -- leaf 0
  exact k_iret C0 hr hlk hw () (rfl) (rfl) (Nat.le_of_ble_eq_true rfl) (Nat.le_of_ble_eq_true rfl) dX7_bestFence_32

abbrev rmX7_liveliestWind : Room := { frames := 6, cells := 0, slots := 0, locals := 145 }
set_option maxHeartbeats 4000000 in
set_option maxRecDepth 100000 in
theorem c_X7_liveliestWind_ok (l : Launch) (E : kE) (m0 : Nat) (A0 : Nat) (V0 : Nat) (Z0 : Nat) (D0 : Nat) (W0 : Nat) (T0 : Nat) (sm : Int32) (th : Int32) (pl : Int32) (hz : Int32) (tl : Int32) (tw : Int32) (tc : Int32) (h : Nat) (w : Nat) (n0 : Nat) (wd : Int32) (z : Int32) (st : Nat → Int32) (he : Nat → Int32) (ke : Nat → Int32) (tu : Nat → Int32) (ca : Nat → Int32) (tr : Nat → Int32) (co : Nat → Int32) (la : Nat → Int32) (Y : Nat → Int32) (m9 : Nat) (hp : Nat) (B : Nat) (hG : kG h w) (hm9 : m9 ≤ 500) (hn0 : n0 < 2147483648) (hst0 : st 0 = nI hp) (hp8 : hp ≤ 8) (hp1 : 1 ≤ hp) (hH : hI (h * w) he B) (hB : B < 1000000) (hsl : 1 ≤ (st 3).toInt) : kC E l yX7_liveliestWind wsX7_liveliestWind rmX7_liveliestWind [.ref m0, .int (nI m9)] (List.flatten [oc m0 7 [.ref A0, .ref V0, .ref Z0, .int sm, .int th, .int pl, .int hz, .ref D0, .ref W0, .ref T0, .int tl, .int tw, .int tc], ac E A0 985 (mA h w wd (nI n0) z st he ke tu ca tr co la), ac E Z0 985 Y]) kI (fun (r : Int32) (u : Int32 × Int32) => r = (bfS (lwG h w hp st tu ca m9 n0 he tr co la) 4).1) (fun (u : Int32 × Int32) => List.flatten [oc m0 7 [.ref A0, .ref V0, .ref Z0, .int sm, .int 0, .int u.1, .int u.2, .ref D0, .ref W0, .ref T0, .int tl, .int tw, .int tc], ac E A0 985 (mA h w wd (nI n0) z st he ke tu ca tr co la), ac E Z0 985 (mA h w wd (nI n0) z st he ke tu ca tr co la)]) 0 0 := by
  refine k_body (cc := cX7_liveliestWind) (maxL := 6) (ret := (some .int)) (by decide) rfl (Nat.le_of_ble_eq_true rfl) ?_
  intro pp ee sx mm aa bb me cd H locs AA ls C0 hr hlk hnm hl hw
  obtain ⟨hx, hb, hml, hown, hts⟩ := id C0
  have hl : lv_has ls 6 [(0, .ref m0), (1, .int (nI m9))] := hl
  have hw : kW E AA sx (List.flatten [oc m0 7 [.ref A0, .ref V0, .ref Z0, .int sm, .int th, .int pl, .int hz, .ref D0, .ref W0, .ref T0, .int tl, .int tw, .int tc], ac E A0 985 (mA h w wd (nI n0) z st he ke tu ca tr co la), ac E Z0 985 Y]) H locs := hw
  have hn9 := kG_n hG
  have hG9 := id hG
  obtain ⟨hG1, hG2, hG3, hG4⟩ := hG9
  have hinX7 : ∀ w ∈ u_ws RX7 TX7 13, w ∈ wsX7_liveliestWind := by decide +kernel
  refine lv_aload_n hx hb dX7_liveliestWind_0 rfl (lv_at hl 0 rfl) ?_
  refine lv_iload_n hx hb dX7_liveliestWind_1 rfl (lv_at hl 1 rfl) ?_
  refine lv_i2l (v := Int32.toInt64 (nI m9)) hx hb dX7_liveliestWind_2 rfl ?_
  refine lv_lconst (v := 0) hx hb dX7_liveliestWind_3 (by decide) ?_
  refine lv_ldc2 (v := 500) hx hb hown (hts (.constantLong RX7 198 500) (by decide +kernel)) dX7_liveliestWind_4 ?_
  refine k_S (As := [.long (Int32.toInt64 (nI m9)), .long 0, .long 500]) (rest := [.ref m0]) (pre := []) (mid := []) C0 (c_X7_in_0_500 l E (nI m9) ) (va_cwS 3 hts gX7_liveliestWind_X7_in rfl rfl rfl (by decide +kernel) ⟨Nat.le_of_ble_eq_true rfl, Nat.le_of_ble_eq_true rfl⟩) hw rfl (fun _ => []) (fun _ => rfl) rfl hl.1 rfl (Nat.le_of_ble_eq_true rfl) dX7_liveliestWind_7 ⟨Nat.le_of_ble_eq_true rfl, Nat.le_of_ble_eq_true rfl⟩ (fun r u H locs hq99 hw => ?_)
  subst hq99
  have hw : kW E AA sx (List.flatten [oc m0 7 [.ref A0, .ref V0, .ref Z0, .int sm, .int th, .int pl, .int hz, .ref D0, .ref W0, .ref T0, .int tl, .int tw, .int tc], ac E A0 985 (mA h w wd (nI n0) z st he ke tu ca tr co la), ac E Z0 985 Y]) H locs := hw
  refine W.eq (g2 := F0 mm 10 ls [.int (if ¬ (nI m9) < 0 ∧ ¬ 500 < (nI m9) then 1 else 0), .ref m0]) rfl ?_
  refine lv_iconst (v := 1) hx hb dX7_liveliestWind_10 (by decide) ?_
  refine k_V (As := [.int (if ¬ (nI m9) < 0 ∧ ¬ 500 < (nI m9) then 1 else 0), .int 1]) (rest := []) (pre := []) (mid := [oc m0 7 [.ref A0, .ref V0, .ref Z0, .int sm, .int th, .int pl, .int hz, .ref D0, .ref W0, .ref T0, .int tl, .int tw, .int tc]]) C0 (c_X7_goes_ok l E m0 A0 V0 Z0 D0 W0 T0 sm th pl hz tl tw tc (if ¬ (nI m9) < 0 ∧ ¬ 500 < (nI m9) then 1 else 0) 1 (kp10 (⟨nI_pos (by omega), nI_nlt (a := 500) (b := m9) (by omega) (by omega)⟩)) (by decide)) (cwV 2 hts gX7_liveliestWind_X7_goes rfl rfl rfl (by decide +kernel) ⟨Nat.le_of_ble_eq_true rfl, Nat.le_of_ble_eq_true rfl⟩) hw rfl (fun _ => [oc m0 7 [.ref A0, .ref V0, .ref Z0, .int sm, .int 0, .int pl, .int hz, .ref D0, .ref W0, .ref T0, .int tl, .int tw, .int tc]]) (fun _ => rfl) 0 7 rfl rfl rfl rfl hl.1 rfl (Nat.le_of_ble_eq_true rfl) dX7_liveliestWind_11 ⟨Nat.le_of_ble_eq_true rfl, Nat.le_of_ble_eq_true rfl⟩ (fun r u H locs hq99 hw => ?_)
  subst r
  have hw : kW E AA sx (List.flatten [oc m0 7 [.ref A0, .ref V0, .ref Z0, .int sm, .int 0, .int pl, .int hz, .ref D0, .ref W0, .ref T0, .int tl, .int tw, .int tc], ac E A0 985 (mA h w wd (nI n0) z st he ke tu ca tr co la), ac E Z0 985 Y]) H locs := hw
  refine W.eq (g2 := F0 mm 14 ls [.int 1]) rfl ?_
  refine lv_if_ne (tgt := 19) hx hb dX7_liveliestWind_14 (by decide) (fun c14 => ?_) (fun c14 => absurd c14 (by decide))
  refine lv_aload_n hx hb dX7_liveliestWind_19 rfl (lv_at hl 0 rfl) ?_
  refine k_V (As := []) (rest := []) (pre := []) (mid := [oc m0 7 [.ref A0, .ref V0, .ref Z0, .int sm, .int 0, .int pl, .int hz, .ref D0, .ref W0, .ref T0, .int tl, .int tw, .int tc], ac E A0 985 (mA h w wd (nI n0) z st he ke tu ca tr co la), ac E Z0 985 Y]) C0 (c_X7_lays l E m0 A0 V0 Z0 D0 W0 T0 sm 0 pl hz tl tw tc (mA h w wd (nI n0) z st he ke tu ca tr co la) Y ) (cwV 0 hts gX7_liveliestWind_X7_lays rfl rfl rfl (by decide +kernel) ⟨Nat.le_of_ble_eq_true rfl, Nat.le_of_ble_eq_true rfl⟩) hw rfl (fun _ => [oc m0 7 [.ref A0, .ref V0, .ref Z0, .int sm, .int 0, .int pl, .int hz, .ref D0, .ref W0, .ref T0, .int tl, .int tw, .int tc], ac E A0 985 (mA h w wd (nI n0) z st he ke tu ca tr co la), ac E Z0 985 (mA h w wd (nI n0) z st he ke tu ca tr co la)]) (fun _ => rfl) 0 7 rfl rfl rfl rfl hl.1 rfl (Nat.le_of_ble_eq_true rfl) dX7_liveliestWind_20 ⟨Nat.le_of_ble_eq_true rfl, Nat.le_of_ble_eq_true rfl⟩ (fun r u H locs hq99 hw => ?_)
  have hw : kW E AA sx (List.flatten [oc m0 7 [.ref A0, .ref V0, .ref Z0, .int sm, .int 0, .int pl, .int hz, .ref D0, .ref W0, .ref T0, .int tl, .int tw, .int tc], ac E A0 985 (mA h w wd (nI n0) z st he ke tu ca tr co la), ac E Z0 985 (mA h w wd (nI n0) z st he ke tu ca tr co la)]) H locs := hw
  refine W.eq (g2 := F0 mm 23 ls []) rfl ?_
  refine lv_iconst (v := 0) hx hb dX7_liveliestWind_23 (by decide) ?_
  refine lv_istore_n (lv' := [(2, .int 0), (0, .ref m0), (1, .int (nI m9))]) hx hb dX7_liveliestWind_24 rfl hl (by decide) rfl (fun ls hl => ?_)
  refine lv_iconst (v := (-1)) hx hb dX7_liveliestWind_25 (by decide) ?_
  refine lv_istore_n (lv' := [(3, .int (-1)), (2, .int 0), (0, .ref m0), (1, .int (nI m9))]) hx hb dX7_liveliestWind_26 rfl hl (by decide) rfl (fun ls hl => ?_)
  refine lv_iconst (v := 0) hx hb dX7_liveliestWind_27 (by decide) ?_
  refine lv_istore (lv' := [(4, .int 0), (3, .int (-1)), (2, .int 0), (0, .ref m0), (1, .int (nI m9))]) hx hb dX7_liveliestWind_28 hl (by decide) rfl (fun ls hl => ?_)
  have loop30 : ∀ (nn : Nat) (i : Nat) (x9 : Int32) (y9 : Int32) (y1 : Int32) (y2 : Int32), (i ≤ 4) → ((i = 0 ∧ x9 = 0 ∧ y9 = -1) ∨ (1 ≤ i ∧ bfS (lwG h w hp st tu ca m9 n0 he tr co la) i = (x9, y9))) → 4 - i < nn → ∀ (H : Heap) (locs : List Loc) (ls : Array Slot), lv_has ls 6 [(4, .int (nI i)), (3, .int y9), (2, .int x9), (0, .ref m0), (1, .int (nI m9))] → kW E AA sx (List.flatten [oc m0 7 [.ref A0, .ref V0, .ref Z0, .int sm, .int 0, .int y1, .int y2, .ref D0, .ref W0, .ref T0, .int tl, .int tw, .int tc], ac E A0 985 (mA h w wd (nI n0) z st he ke tu ca tr co la), ac E Z0 985 (mA h w wd (nI n0) z st he ke tu ca tr co la)]) H locs → W pp l ee rmX7_liveliestWind sx mm aa bb me cd H locs 0 0 (kEnd E kI (fun (r : Int32) (u : Int32 × Int32) => r = (bfS (lwG h w hp st tu ca m9 n0 he tr co la) 4).1) (fun (u : Int32 × Int32) => List.flatten [oc m0 7 [.ref A0, .ref V0, .ref Z0, .int sm, .int 0, .int u.1, .int u.2, .ref D0, .ref W0, .ref T0, .int tl, .int tw, .int tc], ac E A0 985 (mA h w wd (nI n0) z st he ke tu ca tr co la), ac E Z0 985 (mA h w wd (nI n0) z st he ke tu ca tr co la)]) bb aa sx AA 0 0) (F0 mm 30 ls []) := by
    intro nn
    induction nn with
    | zero => intro i x9 y9 y1 y2 hi hBf hm30; exact absurd hm30 (Nat.not_lt_zero _)
    | succ nn ih30 =>
      intro i x9 y9 y1 y2 hi hBf hm30 H locs ls hl hw
      refine lv_iload hx hb dX7_liveliestWind_30 (lv_at hl 0 rfl) ?_
      refine lv_iconst (v := 4) hx hb dX7_liveliestWind_32 (by decide) ?_
      refine lv_icmp_ge (tgt := 88) hx hb dX7_liveliestWind_33 (by decide) (fun c33 => ?_) (fun c33 => ?_)
      · have c33 : 4 ≤ i := (nI_leI (a := 4) (b := i) (by omega) (by omega)).mp c33
        refine lv_iload_n hx hb dX7_liveliestWind_88 rfl (lv_at hl 2 rfl) ?_
        -- leaf 0
        exact k_iret C0 hr hlk hw (y1, y2) (rfl) (by rcases hBf with ⟨e0, e1, e2⟩ | ⟨e0, e1⟩; omega; rw [show 4 = i by omega, e1]) (Nat.le_of_ble_eq_true rfl) (Nat.le_of_ble_eq_true rfl) dX7_liveliestWind_89
      · have c33 : ¬ 4 ≤ i := fun h99 => c33 ((nI_leI (a := 4) (b := i) (by omega) (by omega)).mpr h99)
        have hbl9 : (blo h w i hp st tu ca m9 (n0, he, tr, co, la)).1 < 2147483648 := by have h97 := blo_1 h w i hp st tu ca (n0, he, tr, co, la) m9; omega
        refine lv_aload_n hx hb dX7_liveliestWind_36 rfl (lv_at hl 3 rfl) ?_
        refine k_get (pre := []) C0 hw hinX7 rfl 0 (by decide) (hts (.fieldLink RX7 7 "SlabDunesModel" "all" "[I") (by decide +kernel)) rfl rfl dX7_liveliestWind_37 ?_
        refine lv_bipush (v := 6) hx hb dX7_liveliestWind_40 (by decide) ?_
        refine lv_iload hx hb dX7_liveliestWind_42 (lv_at hl 0 rfl) ?_
        refine k_iast (pre := [oc m0 7 [.ref A0, .ref V0, .ref Z0, .int sm, .int 0, .int y1, .int y2, .ref D0, .ref W0, .ref T0, .int tl, .int tw, .int tc]]) (l1 := []) C0 hw (i := 6) (kinN (n := 6) (by decide) (by decide)) dX7_liveliestWind_44 (fun H locs hw => ?_)
        have hw : kW E AA sx (List.flatten [oc m0 7 [.ref A0, .ref V0, .ref Z0, .int sm, .int 0, .int y1, .int y2, .ref D0, .ref W0, .ref T0, .int tl, .int tw, .int tc], ac E A0 985 (upd (mA h w wd (nI n0) z st he ke tu ca tr co la) (Int32.toNatClampNeg 6) (nI i)), ac E Z0 985 (mA h w wd (nI n0) z st he ke tu ca tr co la)]) H locs := hw
        have hw : kW E AA sx (List.flatten [oc m0 7 [.ref A0, .ref V0, .ref Z0, .int sm, .int 0, .int y1, .int y2, .ref D0, .ref W0, .ref T0, .int tl, .int tw, .int tc], ac E A0 985 (mA h w (nI i) (nI n0) z st he ke tu ca tr co la), ac E Z0 985 (mA h w wd (nI n0) z st he ke tu ca tr co la)]) H locs := kW.arr (pre := [oc m0 7 [.ref A0, .ref V0, .ref Z0, .int sm, .int 0, .int y1, .int y2, .ref D0, .ref W0, .ref T0, .int tl, .int tw, .int tc]]) (l1 := []) hw (fun j9 _ => mA_ww j9)
        refine lv_aload_n hx hb dX7_liveliestWind_45 rfl (lv_at hl 3 rfl) ?_
        refine lv_iload_n hx hb dX7_liveliestWind_46 rfl (lv_at hl 4 rfl) ?_
        refine k_V (As := [.int (nI m9)]) (rest := []) (pre := []) (mid := [oc m0 7 [.ref A0, .ref V0, .ref Z0, .int sm, .int 0, .int y1, .int y2, .ref D0, .ref W0, .ref T0, .int tl, .int tw, .int tc], ac E A0 985 (mA h w (nI i) (nI n0) z st he ke tu ca tr co la)]) C0 (c_X7_runs l E m0 A0 V0 Z0 D0 W0 T0 sm 0 y1 y2 tl tw tc h w i n0 z st he ke tu ca tr co la m9 hp B (by first | assumption | omega) (by first | assumption | omega) (by omega) (by first | assumption | omega) (by first | assumption | omega) (by first | assumption | omega) (by first | assumption | omega) (by first | assumption | omega) (by first | assumption | omega) (by first | assumption | omega)) (cwV 1 hts gX7_liveliestWind_X7_runs rfl rfl rfl (by decide +kernel) ⟨Nat.le_of_ble_eq_true rfl, Nat.le_of_ble_eq_true rfl⟩) hw rfl (fun (u47 : Int32 × Int32) => [oc m0 7 [.ref A0, .ref V0, .ref Z0, .int sm, .int 0, .int u47.1, .int u47.2, .ref D0, .ref W0, .ref T0, .int tl, .int tw, .int tc], ac E A0 985 (mA h w (nI i) (nI (blo h w i hp st tu ca m9 (n0, he, tr, co, la)).2.1) z st ((blo h w i hp st tu ca m9 (n0, he, tr, co, la)).2.2.1) ke tu ca ((blo h w i hp st tu ca m9 (n0, he, tr, co, la)).2.2.2.1) ((blo h w i hp st tu ca m9 (n0, he, tr, co, la)).2.2.2.2.1) ((blo h w i hp st tu ca m9 (n0, he, tr, co, la)).2.2.2.2.2))]) (fun _ => rfl) 0 7 rfl rfl rfl rfl hl.1 rfl (Nat.le_of_ble_eq_true rfl) dX7_liveliestWind_47 ⟨Nat.le_of_ble_eq_true rfl, Nat.le_of_ble_eq_true rfl⟩ (fun r u47 H locs hq99 hw => ?_)
        obtain ⟨r47, rfl⟩ : ∃ z, z = r := ⟨_, rfl⟩
        have h47 : r47 = nI (blo h w i hp st tu ca m9 (n0, he, tr, co, la)).1 := hq99
        have hw : kW E AA sx (List.flatten [oc m0 7 [.ref A0, .ref V0, .ref Z0, .int sm, .int 0, .int u47.1, .int u47.2, .ref D0, .ref W0, .ref T0, .int tl, .int tw, .int tc], ac E A0 985 (mA h w (nI i) (nI (blo h w i hp st tu ca m9 (n0, he, tr, co, la)).2.1) z st ((blo h w i hp st tu ca m9 (n0, he, tr, co, la)).2.2.1) ke tu ca ((blo h w i hp st tu ca m9 (n0, he, tr, co, la)).2.2.2.1) ((blo h w i hp st tu ca m9 (n0, he, tr, co, la)).2.2.2.2.1) ((blo h w i hp st tu ca m9 (n0, he, tr, co, la)).2.2.2.2.2)), ac E Z0 985 (mA h w wd (nI n0) z st he ke tu ca tr co la)]) H locs := hw
        refine W.eq (g2 := F0 mm 50 ls [.int r47]) rfl ?_
        refine lv_istore (lv' := [(5, .int r47), (4, .int (nI i)), (3, .int y9), (2, .int x9), (0, .ref m0), (1, .int (nI m9))]) hx hb dX7_liveliestWind_50 hl (by decide) rfl (fun ls hl => ?_)
        have hl : lv_has ls 6 [(5, .int (lwG h w hp st tu ca m9 n0 he tr co la i)), (4, .int (nI i)), (3, .int y9), (2, .int x9), (0, .ref m0), (1, .int (nI m9))] := by have h99 : r47 = lwG h w hp st tu ca m9 n0 he tr co la i := (h47); rw [h99] at hl; exact hl
        refine lv_aload_n hx hb dX7_liveliestWind_52 rfl (lv_at hl 4 rfl) ?_
        refine k_V (As := []) (rest := []) (pre := []) (mid := [oc m0 7 [.ref A0, .ref V0, .ref Z0, .int sm, .int 0, .int u47.1, .int u47.2, .ref D0, .ref W0, .ref T0, .int tl, .int tw, .int tc], ac E A0 985 (mA h w (nI i) (nI (blo h w i hp st tu ca m9 (n0, he, tr, co, la)).2.1) z st ((blo h w i hp st tu ca m9 (n0, he, tr, co, la)).2.2.1) ke tu ca ((blo h w i hp st tu ca m9 (n0, he, tr, co, la)).2.2.2.1) ((blo h w i hp st tu ca m9 (n0, he, tr, co, la)).2.2.2.2.1) ((blo h w i hp st tu ca m9 (n0, he, tr, co, la)).2.2.2.2.2)), ac E Z0 985 (mA h w wd (nI n0) z st he ke tu ca tr co la)]) C0 (c_X7_takesBack l E m0 A0 V0 Z0 D0 W0 T0 sm 0 u47.1 u47.2 tl tw tc (mA h w (nI i) (nI (blo h w i hp st tu ca m9 (n0, he, tr, co, la)).2.1) z st ((blo h w i hp st tu ca m9 (n0, he, tr, co, la)).2.2.1) ke tu ca ((blo h w i hp st tu ca m9 (n0, he, tr, co, la)).2.2.2.1) ((blo h w i hp st tu ca m9 (n0, he, tr, co, la)).2.2.2.2.1) ((blo h w i hp st tu ca m9 (n0, he, tr, co, la)).2.2.2.2.2)) (mA h w wd (nI n0) z st he ke tu ca tr co la) ) (cwV 0 hts gX7_liveliestWind_X7_takesBack rfl rfl rfl (by decide +kernel) ⟨Nat.le_of_ble_eq_true rfl, Nat.le_of_ble_eq_true rfl⟩) hw rfl (fun _ => [oc m0 7 [.ref A0, .ref V0, .ref Z0, .int sm, .int 0, .int u47.1, .int u47.2, .ref D0, .ref W0, .ref T0, .int tl, .int tw, .int tc], ac E A0 985 (mA h w wd (nI n0) z st he ke tu ca tr co la), ac E Z0 985 (mA h w wd (nI n0) z st he ke tu ca tr co la)]) (fun _ => rfl) 0 7 rfl rfl rfl rfl hl.1 rfl (Nat.le_of_ble_eq_true rfl) dX7_liveliestWind_53 ⟨Nat.le_of_ble_eq_true rfl, Nat.le_of_ble_eq_true rfl⟩ (fun r u H locs hq99 hw => ?_)
        have hw : kW E AA sx (List.flatten [oc m0 7 [.ref A0, .ref V0, .ref Z0, .int sm, .int 0, .int u47.1, .int u47.2, .ref D0, .ref W0, .ref T0, .int tl, .int tw, .int tc], ac E A0 985 (mA h w wd (nI n0) z st he ke tu ca tr co la), ac E Z0 985 (mA h w wd (nI n0) z st he ke tu ca tr co la)]) H locs := hw
        refine W.eq (g2 := F0 mm 56 ls []) rfl ?_
        refine lv_iload hx hb dX7_liveliestWind_56 (lv_at hl 0 rfl) ?_
        refine lv_iload_n hx hb dX7_liveliestWind_58 rfl (lv_at hl 2 rfl) ?_
        refine lv_icmp_le (tgt := 67) hx hb dX7_liveliestWind_59 (by decide) (fun c59 => ?_) (fun c59 => ?_)
        · refine lv_iload_n hx hb dX7_liveliestWind_67 rfl (lv_at hl 3 rfl) ?_
          refine lv_istore_n (lv' := [(2, .int x9), (5, .int (lwG h w hp st tu ca m9 n0 he tr co la i)), (4, .int (nI i)), (3, .int y9), (0, .ref m0), (1, .int (nI m9))]) hx hb dX7_liveliestWind_68 rfl hl (by decide) rfl (fun ls hl => ?_)
          refine lv_iload hx hb dX7_liveliestWind_69 (lv_at hl 1 rfl) ?_
          refine lv_iload_n hx hb dX7_liveliestWind_71 rfl (lv_at hl 3 rfl) ?_
          refine lv_icmp_le (tgt := 80) hx hb dX7_liveliestWind_72 (by decide) (fun c72 => ?_) (fun c72 => ?_)
          · refine lv_iload_n hx hb dX7_liveliestWind_80 rfl (lv_at hl 3 rfl) ?_
            refine lv_istore_n (lv' := [(3, .int y9), (2, .int x9), (5, .int (lwG h w hp st tu ca m9 n0 he tr co la i)), (4, .int (nI i)), (0, .ref m0), (1, .int (nI m9))]) hx hb dX7_liveliestWind_81 rfl hl (by decide) rfl (fun ls hl => ?_)
            refine lv_iinc (v := nI (i + 1)) (lv' := [(4, .int (nI (i + 1))), (3, .int y9), (2, .int x9), (5, .int (lwG h w hp st tu ca m9 n0 he tr co la i)), (0, .ref m0), (1, .int (nI m9))]) hx hb dX7_liveliestWind_82 hl (k := 3) rfl (nI_1 _) (by decide) rfl (fun ls hl => ?_)
            refine lv_goto (tgt := 30) hx hb dX7_liveliestWind_85 (by decide) ?_
            -- back 0
            exact ih30 (i + 1) x9 y9 u47.1 u47.2 (by first | assumption | omega) (Or.inr ⟨by omega, by rcases hBf with ⟨e0, e1, e2⟩ | ⟨e0, e1⟩; rw [e2] at c59; exact absurd c59 (knm1 hbl9); rw [bfS_s, e1]; exact if_pos c59⟩) (by omega) H _ ls (lv_sub hl [0, 1, 2, 4, 5] rfl) hw
          · refine lv_iload hx hb dX7_liveliestWind_75 (lv_at hl 1 rfl) ?_
            refine lv_goto (tgt := 81) hx hb dX7_liveliestWind_77 (by decide) ?_
            refine lv_istore_n (lv' := [(3, .int (lwG h w hp st tu ca m9 n0 he tr co la i)), (2, .int x9), (5, .int (lwG h w hp st tu ca m9 n0 he tr co la i)), (4, .int (nI i)), (0, .ref m0), (1, .int (nI m9))]) hx hb dX7_liveliestWind_81 rfl hl (by decide) rfl (fun ls hl => ?_)
            refine lv_iinc (v := nI (i + 1)) (lv' := [(4, .int (nI (i + 1))), (3, .int (lwG h w hp st tu ca m9 n0 he tr co la i)), (2, .int x9), (5, .int (lwG h w hp st tu ca m9 n0 he tr co la i)), (0, .ref m0), (1, .int (nI m9))]) hx hb dX7_liveliestWind_82 hl (k := 3) rfl (nI_1 _) (by decide) rfl (fun ls hl => ?_)
            refine lv_goto (tgt := 30) hx hb dX7_liveliestWind_85 (by decide) ?_
            -- back 1
            exact ih30 (i + 1) x9 (lwG h w hp st tu ca m9 n0 he tr co la i) u47.1 u47.2 (by first | assumption | omega) (absurd c59 c72) (by omega) H _ ls (lv_sub hl [0, 1, 2, 4, 5] rfl) hw
        · refine lv_iload hx hb dX7_liveliestWind_62 (lv_at hl 1 rfl) ?_
          refine lv_goto (tgt := 68) hx hb dX7_liveliestWind_64 (by decide) ?_
          refine lv_istore_n (lv' := [(2, .int (nI i)), (5, .int (lwG h w hp st tu ca m9 n0 he tr co la i)), (4, .int (nI i)), (3, .int y9), (0, .ref m0), (1, .int (nI m9))]) hx hb dX7_liveliestWind_68 rfl hl (by decide) rfl (fun ls hl => ?_)
          refine lv_iload hx hb dX7_liveliestWind_69 (lv_at hl 1 rfl) ?_
          refine lv_iload_n hx hb dX7_liveliestWind_71 rfl (lv_at hl 3 rfl) ?_
          refine lv_icmp_le (tgt := 80) hx hb dX7_liveliestWind_72 (by decide) (fun c72 => ?_) (fun c72 => ?_)
          · refine lv_iload_n hx hb dX7_liveliestWind_80 rfl (lv_at hl 3 rfl) ?_
            refine lv_istore_n (lv' := [(3, .int y9), (2, .int (nI i)), (5, .int (lwG h w hp st tu ca m9 n0 he tr co la i)), (4, .int (nI i)), (0, .ref m0), (1, .int (nI m9))]) hx hb dX7_liveliestWind_81 rfl hl (by decide) rfl (fun ls hl => ?_)
            refine lv_iinc (v := nI (i + 1)) (lv' := [(4, .int (nI (i + 1))), (3, .int y9), (2, .int (nI i)), (5, .int (lwG h w hp st tu ca m9 n0 he tr co la i)), (0, .ref m0), (1, .int (nI m9))]) hx hb dX7_liveliestWind_82 hl (k := 3) rfl (nI_1 _) (by decide) rfl (fun ls hl => ?_)
            refine lv_goto (tgt := 30) hx hb dX7_liveliestWind_85 (by decide) ?_
            -- back 2
            exact ih30 (i + 1) (nI i) y9 u47.1 u47.2 (by first | assumption | omega) (absurd c72 c59) (by omega) H _ ls (lv_sub hl [0, 1, 2, 4, 5] rfl) hw
          · refine lv_iload hx hb dX7_liveliestWind_75 (lv_at hl 1 rfl) ?_
            refine lv_goto (tgt := 81) hx hb dX7_liveliestWind_77 (by decide) ?_
            refine lv_istore_n (lv' := [(3, .int (lwG h w hp st tu ca m9 n0 he tr co la i)), (2, .int (nI i)), (5, .int (lwG h w hp st tu ca m9 n0 he tr co la i)), (4, .int (nI i)), (0, .ref m0), (1, .int (nI m9))]) hx hb dX7_liveliestWind_81 rfl hl (by decide) rfl (fun ls hl => ?_)
            refine lv_iinc (v := nI (i + 1)) (lv' := [(4, .int (nI (i + 1))), (3, .int (lwG h w hp st tu ca m9 n0 he tr co la i)), (2, .int (nI i)), (5, .int (lwG h w hp st tu ca m9 n0 he tr co la i)), (0, .ref m0), (1, .int (nI m9))]) hx hb dX7_liveliestWind_82 hl (k := 3) rfl (nI_1 _) (by decide) rfl (fun ls hl => ?_)
            refine lv_goto (tgt := 30) hx hb dX7_liveliestWind_85 (by decide) ?_
            -- back 3
            exact ih30 (i + 1) (nI i) (lwG h w hp st tu ca m9 n0 he tr co la i) u47.1 u47.2 (by first | assumption | omega) (Or.inr ⟨by omega, by rcases hBf with ⟨e0, e1, e2⟩ | ⟨e0, e1⟩; rw [e0]; rw [e0, e2] at c59; exact if_neg c59; rw [bfS_s, e1]; exact if_neg c59⟩) (by omega) H _ ls (lv_sub hl [0, 1, 2, 4, 5] rfl) hw
  exact loop30 ((4 - 0) + 1) 0 0 (-1) pl hz (by first | assumption | omega) (Or.inl ⟨rfl, rfl, rfl⟩) (Nat.lt_succ_self _) H _ ls (lv_sub hl [0, 1, 2, 3, 4] rfl) hw

set_option maxHeartbeats 4000000 in
set_option maxRecDepth 100000 in
theorem c_X7_liveliestWind_x1 (l : Launch) (E : kE) (m0 : Nat) (A0 : Nat) (V0 : Nat) (Z0 : Nat) (D0 : Nat) (W0 : Nat) (T0 : Nat) (sm : Int32) (th : Int32) (pl : Int32) (hz : Int32) (tl : Int32) (tw : Int32) (tc : Int32) (h : Nat) (w : Nat) (wd : Int32) (s0 : Int32) (z : Int32) (st : Nat → Int32) (he : Nat → Int32) (ke : Nat → Int32) (tu : Nat → Int32) (ca : Nat → Int32) (tr : Nat → Int32) (co : Nat → Int32) (la : Nat → Int32) (x : Int32) (hv : ¬ (¬ x < 0 ∧ ¬ 500 < x)) : kC E l yX7_liveliestWind wsX7_liveliestWind rmX7_liveliestWind [.ref m0, .int x] (List.flatten [oc m0 7 [.ref A0, .ref V0, .ref Z0, .int sm, .int th, .int pl, .int hz, .ref D0, .ref W0, .ref T0, .int tl, .int tw, .int tc], ac E A0 985 (mA h w wd s0 z st he ke tu ca tr co la)]) kI (fun (r : Int32) (_ : Unit) => r = 0) (fun _ => List.flatten [oc m0 7 [.ref A0, .ref V0, .ref Z0, .int sm, .int 1, .int pl, .int hz, .ref D0, .ref W0, .ref T0, .int tl, .int tw, .int tc], ac E A0 985 (mA h w wd s0 z st he ke tu ca tr co la)]) 0 0 := by
  refine k_body (cc := cX7_liveliestWind) (maxL := 6) (ret := (some .int)) (by decide) rfl (Nat.le_of_ble_eq_true rfl) ?_
  intro pp ee sx mm aa bb me cd H locs AA ls C0 hr hlk hnm hl hw
  obtain ⟨hx, hb, hml, hown, hts⟩ := id C0
  have hl : lv_has ls 6 [(0, .ref m0), (1, .int x)] := hl
  have hw : kW E AA sx (List.flatten [oc m0 7 [.ref A0, .ref V0, .ref Z0, .int sm, .int th, .int pl, .int hz, .ref D0, .ref W0, .ref T0, .int tl, .int tw, .int tc], ac E A0 985 (mA h w wd s0 z st he ke tu ca tr co la)]) H locs := hw
  refine lv_aload_n hx hb dX7_liveliestWind_0 rfl (lv_at hl 0 rfl) ?_
  refine lv_iload_n hx hb dX7_liveliestWind_1 rfl (lv_at hl 1 rfl) ?_
  refine lv_i2l (v := Int32.toInt64 x) hx hb dX7_liveliestWind_2 rfl ?_
  refine lv_lconst (v := 0) hx hb dX7_liveliestWind_3 (by decide) ?_
  refine lv_ldc2 (v := 500) hx hb hown (hts (.constantLong RX7 198 500) (by decide +kernel)) dX7_liveliestWind_4 ?_
  refine k_S (As := [.long (Int32.toInt64 x), .long 0, .long 500]) (rest := [.ref m0]) (pre := []) (mid := []) C0 (c_X7_in_0_500 l E x ) (va_cwS 3 hts gX7_liveliestWind_X7_in rfl rfl rfl (by decide +kernel) ⟨Nat.le_of_ble_eq_true rfl, Nat.le_of_ble_eq_true rfl⟩) hw rfl (fun _ => []) (fun _ => rfl) rfl hl.1 rfl (Nat.le_of_ble_eq_true rfl) dX7_liveliestWind_7 ⟨Nat.le_of_ble_eq_true rfl, Nat.le_of_ble_eq_true rfl⟩ (fun r u H locs hq99 hw => ?_)
  subst hq99
  have hw : kW E AA sx (List.flatten [oc m0 7 [.ref A0, .ref V0, .ref Z0, .int sm, .int th, .int pl, .int hz, .ref D0, .ref W0, .ref T0, .int tl, .int tw, .int tc], ac E A0 985 (mA h w wd s0 z st he ke tu ca tr co la)]) H locs := hw
  refine W.eq (g2 := F0 mm 10 ls [.int (if ¬ x < 0 ∧ ¬ 500 < x then 1 else 0), .ref m0]) rfl ?_
  refine lv_iconst (v := 1) hx hb dX7_liveliestWind_10 (by decide) ?_
  refine k_V (As := [.int (if ¬ x < 0 ∧ ¬ 500 < x then 1 else 0), .int 1]) (rest := []) (pre := []) (mid := [oc m0 7 [.ref A0, .ref V0, .ref Z0, .int sm, .int th, .int pl, .int hz, .ref D0, .ref W0, .ref T0, .int tl, .int tw, .int tc]]) C0 (c_X7_goes_1 l E m0 A0 V0 Z0 D0 W0 T0 sm th pl hz tl tw tc (if ¬ x < 0 ∧ ¬ 500 < x then 1 else 0) 1 (kn10 (hv))) (cwV 2 hts gX7_liveliestWind_X7_goes rfl rfl rfl (by decide +kernel) ⟨Nat.le_of_ble_eq_true rfl, Nat.le_of_ble_eq_true rfl⟩) hw rfl (fun _ => [oc m0 7 [.ref A0, .ref V0, .ref Z0, .int sm, .int 1, .int pl, .int hz, .ref D0, .ref W0, .ref T0, .int tl, .int tw, .int tc]]) (fun _ => rfl) 0 7 rfl rfl rfl rfl hl.1 rfl (Nat.le_of_ble_eq_true rfl) dX7_liveliestWind_11 ⟨Nat.le_of_ble_eq_true rfl, Nat.le_of_ble_eq_true rfl⟩ (fun r u H locs hq99 hw => ?_)
  subst r
  have hw : kW E AA sx (List.flatten [oc m0 7 [.ref A0, .ref V0, .ref Z0, .int sm, .int 1, .int pl, .int hz, .ref D0, .ref W0, .ref T0, .int tl, .int tw, .int tc], ac E A0 985 (mA h w wd s0 z st he ke tu ca tr co la)]) H locs := hw
  refine W.eq (g2 := F0 mm 14 ls [.int 0]) rfl ?_
  refine lv_if_ne (tgt := 19) hx hb dX7_liveliestWind_14 (by decide) (fun c14 => absurd c14 (by decide)) (fun c14 => ?_)
  refine lv_iconst (v := 0) hx hb dX7_liveliestWind_17 (by decide) ?_
  -- leaf 0
  exact k_iret C0 hr hlk hw () (rfl) (rfl) (Nat.le_of_ble_eq_true rfl) (Nat.le_of_ble_eq_true rfl) dX7_liveliestWind_18
