/-! NUMBERS: sums of heights, neighbors (rows of claims/whole/work) -/
def emN (h : Nat) (x : Int) : Nat := (x % (h : Int)).toNat
theorem emN_in {h x : Nat} (hx : x < h) : emN h (x : Int) = x := by
  unfold emN
  rw [Int.emod_eq_of_lt (by omega) (by omega)]
  rfl
theorem emN_ad {h : Nat} (x : Int) : emN h (x + h) = emN h x := by unfold emN; rw [Int.add_emod_right]
theorem emN_lt {h : Nat} (h0 : 0 < h) (x : Int) : emN h x < h := by
  unfold emN
  have := Int.emod_lt_of_pos x (b := (h : Int)) (by omega)
  omega
theorem emN_em {h : Nat} (h0 : 0 < h) (x y : Int) : emN h ((emN h x : Nat) + y) = emN h (x + y) := by
  unfold emN
  rw [Int.toNat_of_nonneg (Int.emod_nonneg x (by omega)), Int.emod_add_emod]
theorem emN_m {h q : Nat} (hq : q < h) : emN h ((q : Int) + -1) = if 0 < q then q - 1 else h - 1 := by
  by_cases h0 : 0 < q
  · rw [if_pos h0, show (q : Int) + -1 = ((q - 1 : Nat) : Int) by omega]
    exact emN_in (by omega)
  · rw [if_neg h0, ← emN_ad, show (q : Int) + -1 + h = ((h - 1 : Nat) : Int) by omega]
    exact emN_in (by omega)
theorem emN_p {h q : Nat} (hq : q < h) : emN h ((q : Int) + 1) = if q < h - 1 then q + 1 else 0 := by
  by_cases h0 : q < h - 1
  · rw [if_pos h0, show (q : Int) + 1 = ((q + 1 : Nat) : Int) by omega]
    exact emN_in (by omega)
  · rw [if_neg h0, show (q : Int) + 1 = ((0 : Nat) : Int) + h by omega, emN_ad]
    exact emN_in (by omega)
theorem kpos_d {w a b : Nat} (hb : b < w) : (a * w + b) / w = a := by
  rw [Nat.mul_comm, Nat.mul_add_div (by omega), Nat.div_eq_of_lt hb, Nat.add_zero]
theorem kpos_m {w a b : Nat} (hb : b < w) : (a * w + b) % w = b := by
  rw [Nat.mul_comm, Nat.mul_add_mod, Nat.mod_eq_of_lt hb]
theorem kpos_e (w k : Nat) : k / w * w + k % w = k := by rw [Nat.mul_comm]; exact Nat.div_add_mod k w
theorem nbr_p {h w k : Nat} (hG : kG h w) (hk : k < h * w) :
    nbr h w k 0 = emN h (((k / w : Nat) : Int) + -1) * w + k % w ∧ nbr h w k 1 = k / w * w + emN w (((k % w : Nat) : Int) + 1) ∧ nbr h w k 2 = emN h (((k / w : Nat) : Int) + 1) * w + k % w ∧ nbr h w k 3 = k / w * w + emN w (((k % w : Nat) : Int) + -1) := by
  have e1 := kpos_e w k
  have e2 := kdiv_lt hk
  have e3 : k % w < w := Nat.mod_lt _ (by have := hG.2.2.1; omega)
  rw [emN_m e2, emN_p e3, emN_p e2, emN_m e3]
  have f0 : nbr h w k 0 = if 0 < k / w then k - w else k + (h - 1) * w := rfl
  have f1 : nbr h w k 1 = if k % w < w - 1 then k + 1 else k - k % w := rfl
  have f2 : nbr h w k 2 = if k / w < h - 1 then k + w else k % w := rfl
  have f3 : nbr h w k 3 = if 0 < k % w then k - 1 else k + w - 1 := rfl
  rw [f0, f1, f2, f3]
  generalize k / w = q at e1 e2 ⊢
  generalize k % w = r at e1 e3 ⊢
  have e4 : 0 < q → (q - 1) * w + w = q * w := fun h0 => by
    obtain ⟨a, rfl⟩ : ∃ a, q = a + 1 := ⟨q - 1, by omega⟩
    rw [Nat.add_sub_cancel, Nat.succ_mul]
  have e5 : (q + 1) * w = q * w + w := Nat.succ_mul q w
  have e6 : ¬ 0 < q → q * w = 0 := fun h0 => by rw [show q = 0 by omega, Nat.zero_mul]
  have e7 : ¬ q < h - 1 → q * w = (h - 1) * w := fun h0 => by rw [show q = h - 1 by omega]
  refine ⟨?_, ?_, ?_, ?_⟩
  · split
    · have := e4 (by assumption); omega
    · have := e6 (by assumption); omega
  · split <;> omega
  · split
    · omega
    · rw [Nat.zero_mul]; omega
  · split <;> omega
/-- heights: numbers whose sum is at most B -/
def sumN (H : Nat → Nat) : Nat → Nat
  | 0 => 0
  | n + 1 => sumN H n + H n
theorem sumN_s (H : Nat → Nat) (n : Nat) : sumN H (n + 1) = sumN H n + H n := rfl
theorem sumN_le {H : Nat → Nat} {x : Nat} : ∀ n, x < n → H x ≤ sumN H n
  | 0, h => absurd h (Nat.not_lt_zero _)
  | n + 1, h => by
    rw [sumN_s]
    by_cases h9 : x = n
    · rw [h9]; omega
    · have := sumN_le (H := H) (x := x) n (by omega)
      omega
theorem sumN_far {H : Nat → Nat} {x v : Nat} : ∀ n, n ≤ x → sumN (va_up H x v) n = sumN H n
  | 0, _ => rfl
  | n + 1, h => by rw [sumN_s, sumN_s, sumN_far n (by omega), va_up_ne _ _ (by omega)]
theorem sumN_up {H : Nat → Nat} {x v : Nat} : ∀ n, x < n → sumN (va_up H x v) n + H x = sumN H n + v
  | 0, h => absurd h (Nat.not_lt_zero _)
  | n + 1, h => by
    rw [sumN_s, sumN_s]
    by_cases h9 : x = n
    · subst h9
      rw [sumN_far x (Nat.le_refl _), va_up_self]; omega
    · rw [va_up_ne _ _ (fun e => h9 e.symm)]
      have := sumN_up (H := H) (x := x) (v := v) n (by omega)
      omega
def hI (n : Nat) (he : Nat → Int32) (B : Nat) : Prop := ∃ H : Nat → Nat, (∀ x, x < n → he x = nI (H x)) ∧ sumN H n ≤ B
theorem hI_le {n B B' : Nat} {he : Nat → Int32} (h : hI n he B) (hB : B ≤ B') : hI n he B' := by
  obtain ⟨H, h1, h2⟩ := h
  exact ⟨H, h1, by omega⟩
theorem hI_v {n B x : Nat} {he : Nat → Int32} (h : hI n he B) (hx : x < n) : ∃ v, v ≤ B ∧ he x = nI v := by
  obtain ⟨H, h1, h2⟩ := h
  exact ⟨H x, Nat.le_trans (sumN_le n hx) h2, h1 x hx⟩
theorem hI_up {n B x v u : Nat} {he : Nat → Int32} (h : hI n he B) (hx : x < n) (hu : he x = nI u) (hu2 : u < 1000000) (hB : B < 1000000) : hI n (upd he x (nI v)) (B - u + v) := by
  obtain ⟨H, h1, h2⟩ := h
  have h3 := sumN_le (H := H) n hx
  have h4 : H x = u := by
    have e := h1 x hx
    rw [hu] at e
    exact ((nI_eq (by omega) (by omega)).mp e).symm
  refine ⟨va_up H x v, fun y hy => ?_, ?_⟩
  · unfold upd va_up
    split
    · rfl
    · exact h1 y hy
  · have := sumN_up (H := H) (v := v) n hx
    omega
theorem klt {a b : Nat} {s : Int32} (ha : a < 1000000) (hb : b < 1000000) : (s < nI a - nI b ↔ s.toInt < (a : Int) - b) ∧ (nI a - nI b ≤ s ↔ (a : Int) - b ≤ s.toInt) := by
  rw [Int32.lt_iff_toInt_lt, Int32.le_iff_toInt_le, pk_sub_toInt (by omega) (by omega)]
  exact ⟨Iff.rfl, Iff.rfl⟩
theorem sld_e {g : Nat → Int32} {f t u v : Nat} (h1 : g f = nI (u + 1)) (h2 : g t = nI v) (hft : t ≠ f) : sld g f t = upd (upd g f (nI u)) t (nI (v + 1)) := by
  unfold sld
  rw [h1, pk_m1, show upd g f (nI u) t = nI v by rw [pk_un hft]; exact h2, nI_1]
theorem sld_H {g : Nat → Int32} {n B f t u v : Nat} (hf : f < n) (ht : t < n) (hH : hI n g B) (hB : B < 1000000) (h1 : g f = nI (u + 1)) (h2 : g t = nI v) (hv : v ≤ B) (hu : u + 1 ≤ B) (hft : t ≠ f) : hI n (sld g f t) B := by
  rw [sld_e h1 h2 hft]
  have a1 := hI_up (v := u) hH hf h1 (by omega) hB
  have a2 : (upd g f (nI u)) t = nI v := by rw [pk_un hft]; exact h2
  have a3 := hI_up (v := v + 1) a1 ht a2 (by omega) (by omega)
  obtain ⟨w, hw, ew⟩ := hI_v a1 ht
  rw [a2] at ew
  have e9 := (nI_eq (by omega) (by omega)).mp ew
  exact hI_le a3 (by omega)
theorem sld_dn {g : Nat → Int32} {n B c l v : Nat} {sl : Int32} (hc : c < n) (hl : l < n) (hH : hI n g B) (hB : B < 1000000) (hv : g c = nI v) (hgt : ¬ g c - g l ≤ sl) (hsl : 1 ≤ sl.toInt) : ∃ v', sld g c l l = nI v' ∧ v' + 1 ≤ v ∧ hI n (sld g c l) B := by
  obtain ⟨u, hu, eu⟩ := hI_v hH hl
  obtain ⟨v2, hv2, ev2⟩ := hI_v hH hc
  have k0 : nI v = nI v2 := by rw [← hv, ev2]
  by_cases hvs : v < 2147483648
  · have e0 := (nI_eq (by omega) (by omega)).mp k0
    rw [hv, eu] at hgt
    have k1 := (klt (a := v) (b := u) (s := sl) (by omega) (by omega)).2
    have k2 : u + 2 ≤ v := by
      rcases Nat.lt_or_ge (u + 1) v with h9 | h9
      · exact h9
      · exact absurd (k1.mpr (by omega)) hgt
    obtain ⟨x, rfl⟩ : ∃ x, v = x + 1 := ⟨v - 1, by omega⟩
    have hne : l ≠ c := fun e9 => by
      rw [e9, hv] at eu
      have := (nI_eq (by omega) (by omega)).mp eu
      omega
    refine ⟨u + 1, ?_, by omega, sld_H hc hl hH hB hv eu hu (by omega) hne⟩
    rw [sld_e hv eu hne, pk_us]
  · refine ⟨u + 1, ?_, by omega, ?_⟩
    · rw [ev2, eu] at hgt
      have k1 := (klt (a := v2) (b := u) (s := sl) (by omega) (by omega)).2
      have k2 : u + 2 ≤ v2 := by
        rcases Nat.lt_or_ge (u + 1) v2 with h9 | h9
        · exact h9
        · exact absurd (k1.mpr (by omega)) hgt
      obtain ⟨x, rfl⟩ : ∃ x, v2 = x + 1 := ⟨v2 - 1, by omega⟩
      have hne : l ≠ c := fun e9 => by
        rw [e9, ev2] at eu
        have := (nI_eq (by omega) (by omega)).mp eu
        omega
      rw [sld_e ev2 eu hne, pk_us]
    · rw [ev2, eu] at hgt
      have k1 := (klt (a := v2) (b := u) (s := sl) (by omega) (by omega)).2
      have k2 : u + 2 ≤ v2 := by
        rcases Nat.lt_or_ge (u + 1) v2 with h9 | h9
        · exact h9
        · exact absurd (k1.mpr (by omega)) hgt
      obtain ⟨x, rfl⟩ : ∃ x, v2 = x + 1 := ⟨v2 - 1, by omega⟩
      have hne : l ≠ c := fun e9 => by
        rw [e9, ev2] at eu
        have := (nI_eq (by omega) (by omega)).mp eu
        omega
      exact sld_H hc hl hH hB ev2 eu hu (by omega) hne
theorem sld_ri {g : Nat → Int32} {n B c f v : Nat} {sl : Int32} (hc : c < n) (hf : f < n) (hH : hI n g B) (hB : B < 1000000) (hv : g c = nI v) (hvB : v ≤ B) (hgt : ¬ g f - g c ≤ sl) (hsl : 1 ≤ sl.toInt) : ∃ v', sld g f c f = nI v' ∧ v + 1 ≤ v' ∧ v' ≤ B ∧ hI n (sld g f c) B := by
  obtain ⟨u, hu, eu⟩ := hI_v hH hf
  rw [hv, eu] at hgt
  have k1 := (klt (a := u) (b := v) (s := sl) (by omega) (by omega)).2
  have k2 : v + 2 ≤ u := by
    rcases Nat.lt_or_ge (v + 1) u with h9 | h9
    · exact h9
    · exact absurd (k1.mpr (by omega)) hgt
  obtain ⟨x, rfl⟩ : ∃ x, u = x + 1 := ⟨u - 1, by omega⟩
  have hne : c ≠ f := fun e9 => by
    rw [← e9, hv] at eu
    have := (nI_eq (by omega) (by omega)).mp eu
    omega
  refine ⟨x, ?_, by omega, by omega, sld_H hf hc hH hB eu hv hvB hu hne⟩
  rw [sld_e eu hv hne, pk_un hne.symm, pk_us]
theorem rlS_0 {h w d : Nat} {he tu ca : Nat → Int32} {c n0 : Nat} (h1 : (rlS h w d he tu ca c n0).1 = 0) : ¬ he c = 0 := by
  intro h2
  unfold rlS at h1
  rw [if_pos h2] at h1
  exact absurd (show (1 : Nat) = 0 from h1) (by decide)
theorem fly_lt {h w d hp : Nat} {st he tu ca tr : Nat → Int32} (hG : kG h w) : ∀ (m c k : Nat) (co : Nat → Int32) (n0 : Nat), c < h * w → (fly h w d hp st he tu ca tr m c k co n0).2.1 < h * w
  | 0, _, _, _, _, hc => hc
  | m + 1, c, k, co, n0, hc => by
    rw [fly_s]
    split
    · exact fly_lt hG m _ _ _ _ (hopF_lt hG _ _ _ hc)
    · exact hopF_lt hG _ _ _ hc
/-- sums of heights stay -/
theorem slF_H {h w B : Nat} {sl : Int32} (hG : kG h w) (hB : B < 1000000) (hsl : 1 ≤ sl.toInt) : ∀ (n : Nat) (he co : Nat → Int32) (c : Nat), c < h * w → hI (h * w) he B → hI (h * w) (slF h w sl n he co c).1 B
  | 0, _, _, _, _, hH => hH
  | n + 1, he, co, c, hc, hH => by
    rw [slF_s]
    split
    · exact hH
    · obtain ⟨v, hv, ev⟩ := hI_v hH hc
      obtain ⟨_, _, _, h9⟩ := sld_dn hc (lowN_lt (he := he) hG hc 3) hH hB ev (by assumption) hsl
      exact slF_H hG hB hsl n _ _ _ (lowN_lt hG hc 3) h9
theorem slI_H {h w B : Nat} {sl : Int32} (hG : kG h w) (hB : B < 1000000) (hsl : 1 ≤ sl.toInt) : ∀ (n : Nat) (he co : Nat → Int32) (c : Nat), c < h * w → hI (h * w) he B → hI (h * w) (slI h w sl n he co c).1 B
  | 0, _, _, _, _, hH => hH
  | n + 1, he, co, c, hc, hH => by
    rw [slI_s]
    split
    · exact hH
    · obtain ⟨v, hv, ev⟩ := hI_v hH hc
      obtain ⟨_, _, _, _, h9⟩ := sld_ri hc (higN_lt (he := he) hG hc 3) hH hB ev hv (by assumption) hsl
      exact slI_H hG hB hsl n _ _ _ (higN_lt hG hc 3) h9
theorem hI_dec {n B c : Nat} {he : Nat → Int32} (hH : hI n he B) (hB : B < 1000000) (hc : c < n) (h0 : ¬ he c = 0) : ∃ B1, B1 + 1 = B ∧ hI n (upd he c (he c + (-1))) B1 := by
  obtain ⟨v, hv, ev⟩ := hI_v hH hc
  rcases Nat.eq_zero_or_pos v with h9 | h9
  · rw [h9] at ev; exact absurd ev h0
  · obtain ⟨u, rfl⟩ : ∃ u, v = u + 1 := ⟨v - 1, by omega⟩
    refine ⟨B - 1, by omega, ?_⟩
    rw [ev, pk_m1]
    exact hI_le (hI_up (v := u) hH hc ev (by omega) hB) (by omega)
theorem hI_inc {n B c : Nat} {he : Nat → Int32} (hH : hI n he B) (hB : B + 1 < 1000000) (hc : c < n) : hI n (upd he c (he c + 1)) (B + 1) := by
  obtain ⟨v, hv, ev⟩ := hI_v hH hc
  rw [ev, nI_1]
  exact hI_le (hI_up (v := v + 1) hH hc ev (by omega) (by omega)) (by omega)
/-! THE MODEL: relief, digest, trials -/
theorem nbr_31i {h w c : Nat} (hG : kG h w) (hc : c < h * w) : nbr h w (nbr h w c 1) 3 = c ∧ nbr h w (nbr h w c 3) 1 = c ∧ nbr h w (nbr h w c 2) 0 = c ∧ nbr h w (nbr h w c 0) 2 = c := by
  have h3 := hG.1
  have w3 := hG.2.2.1
  have e3 : ∀ x, emN w x < w := emN_lt (by omega)
  have er : c % w < w := Nat.mod_lt _ (by omega)
  have n1 := nbr_p hG (nbr_lt 1 hG hc)
  have n3 := nbr_p hG (nbr_lt 3 hG hc)
  have n2 := nbr_p hG (nbr_lt 2 hG hc)
  have n0 := nbr_p hG (nbr_lt 0 hG hc)
  have n := nbr_p hG hc
  refine ⟨?_, ?_, ?_, ?_⟩
  · rw [n1.2.2.2, n.2.1, kpos_d (e3 _), kpos_m (e3 _), emN_em (by omega), show ((c % w : Nat) : Int) + 1 + -1 = ((c % w : Nat) : Int) by omega, emN_in er]
    exact kpos_e w c
  · rw [n3.2.1, n.2.2.2, kpos_d (e3 _), kpos_m (e3 _), emN_em (by omega), show ((c % w : Nat) : Int) + -1 + 1 = ((c % w : Nat) : Int) by omega, emN_in er]
    exact kpos_e w c
  · rw [n2.1, n.2.2.1, kpos_d er, kpos_m er, emN_em (by omega), show ((c / w : Nat) : Int) + 1 + -1 = ((c / w : Nat) : Int) by omega, emN_in (kdiv_lt hc)]
    exact kpos_e w c
  · rw [n0.2.2.1, n.1, kpos_d er, kpos_m er, emN_em (by omega), show ((c / w : Nat) : Int) + -1 + 1 = ((c / w : Nat) : Int) by omega, emN_in (kdiv_lt hc)]
    exact kpos_e w c
theorem stpI_s (h w : Nat) (f : Nat → Int32) (n : Nat) : stpI h w f (n + 1) = kmax (stpI h w f n) (kmax (kabs (f n - f (nbr h w n 1))) (kabs (f n - f (nbr h w n 2)))) := rfl
theorem kmax_le {x y z : Int32} : kmax x y ≤ z ↔ x ≤ z ∧ y ≤ z := by
  unfold kmax
  by_cases h : x < y
  · rw [if_pos h]
    exact ⟨fun h1 => ⟨Int32.le_trans (Int32.le_of_lt h) h1, h1⟩, fun h1 => h1.2⟩
  · rw [if_neg h]
    exact ⟨fun h1 => ⟨h1, Int32.le_trans (Int32.not_lt.mp h) h1⟩, fun h1 => h1.1⟩
theorem stpI_le {h w : Nat} {f : Nat → Int32} {z : Int32} : ∀ n, stpI h w f n ≤ z ↔ 0 ≤ z ∧ ∀ c, c < n → kabs (f c - f (nbr h w c 1)) ≤ z ∧ kabs (f c - f (nbr h w c 2)) ≤ z
  | 0 => ⟨fun h1 => ⟨h1, fun _ hj => absurd hj (Nat.not_lt_zero _)⟩, fun h1 => h1.1⟩
  | n + 1 => by
    rw [stpI_s, kmax_le, kmax_le, stpI_le n]
    constructor
    · rintro ⟨⟨h1, h2⟩, h3⟩
      refine ⟨h1, fun c hc => ?_⟩
      by_cases h9 : c = n
      · rw [h9]; exact h3
      · exact h2 c (by omega)
    · rintro ⟨h1, h2⟩
      exact ⟨⟨h1, fun c hc => h2 c (by omega)⟩, h2 n (by omega)⟩
theorem kabs_le {a b : Nat} {z : Int32} (ha : a < 1000000) (hb : b < 1000000) (hz : 0 ≤ z) : kabs (nI a - nI b) ≤ z ↔ nI a - nI b ≤ z ∧ nI b - nI a ≤ z := by
  have k1 := (klt (a := a) (b := b) (s := z) ha hb).2
  have k2 := (klt (a := b) (b := a) (s := z) hb ha).2
  have e0 : (0 : Int32).toInt = 0 := rfl
  have hz2 : 0 ≤ z.toInt := by
    have := Int32.le_iff_toInt_le.mp hz
    rw [e0] at this
    exact this
  unfold kabs
  by_cases h : 0 ≤ nI a - nI b
  · rw [if_pos h]
    have h2 := Int32.le_iff_toInt_le.mp h
    rw [e0, pk_sub_toInt (by omega) (by omega)] at h2
    exact ⟨fun h1 => ⟨h1, k2.mpr (by omega)⟩, fun h1 => h1.1⟩
  · have h2 : ¬ (0 : Int) ≤ (a : Int) - b := fun h9 => h (Int32.le_iff_toInt_le.mpr (by rw [e0, pk_sub_toInt (by omega) (by omega)]; exact h9))
    rw [if_neg h, Int32.zero_sub, Int32.neg_sub]
    exact ⟨fun h1 => ⟨k1.mpr (by omega), h1⟩, fun h1 => h1.2⟩
theorem hiC_0 (f : Nat → Int32) : hiC f 0 = 0 := rfl
theorem cup_s (G : Nat → cT) (i : Nat) (F : cT) : cup G i F i = F := if_pos rfl
theorem cup_n {G : Nat → cT} {i j : Nat} {F : cT} (h : ¬ j = i) : cup G i F j = G j := if_neg h
/-- heights that are set, that are all one, that a text gives -/
theorem hI_set {n B c v : Nat} {he : Nat → Int32} (hH : hI n he B) (hB : B < 1000000) (hc : c < n) (hv : v ≤ 99) : hI n (upd he c (nI v)) (B + 99) := by
  obtain ⟨u, hu, eu⟩ := hI_v hH hc
  exact hI_le (hI_up (v := v) hH hc eu (by omega) hB) (by omega)
theorem sumN_b {H : Nat → Nat} {b : Nat} (h : ∀ x, H x ≤ b) : ∀ n, sumN H n ≤ n * b
  | 0 => by rw [Nat.zero_mul]; exact Nat.le_refl _
  | n + 1 => by
    have h1 := sumN_b h n
    have h2 := h n
    rw [sumN_s, Nat.succ_mul]
    omega
theorem hI_c {n v : Nat} (hn : n ≤ 192) (hv : v ≤ 20) : hI n (fun _ => nI v) 3840 := by
  refine ⟨fun _ => v, fun _ _ => rfl, ?_⟩
  have h1 := sumN_b (H := fun _ => v) (b := 20) (fun _ => hv) n
  omega
