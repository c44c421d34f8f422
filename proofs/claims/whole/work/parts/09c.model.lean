/-! THE MODEL: where cells lie -/
def jmE (x m : Int32) : Int32 := (x - x / m * m + m) - (x - x / m * m + m) / m * m
def emN (h : Nat) (x : Int) : Nat := (x % (h : Int)).toNat
set_option maxRecDepth 100000 in
theorem kjm_t : ∀ h : Nat, h < 17 → 3 ≤ h → ∀ y : Nat, y < 60 → jmE (nI y - 16) (nI h) = nI (emN h ((y : Int) - 16)) := by decide +kernel
def ngN (n : Nat) : Int32 := -(nI n)
theorem ng_ng (n : Nat) : -(ngN n) = nI n := Int32.neg_neg
/-- a way of at most 16 cells -/
def rI (r : Int32) : Prop := ∃ x : Nat, x ≤ 32 ∧ r = nI x - 16 ∧ r.toInt = (x : Int) - 16
theorem rI_0 : rI 0 := ⟨16, by decide, by decide, by decide⟩
theorem rI_1 : rI 1 := ⟨17, by decide, by decide, by decide⟩
theorem rI_m1 : rI (-1) := ⟨15, by decide, by decide, by decide⟩
theorem rI_t : ∀ t : Nat, t < 17 → (ngN t = nI (16 - t) - 16 ∧ (ngN t).toInt = ((16 - t : Nat) : Int) - 16) ∧ (nI t = nI (16 + t) - 16 ∧ (nI t).toInt = ((16 + t : Nat) : Int) - 16) := by decide +kernel
theorem rI_n {t : Nat} (ht : t ≤ 16) : rI (ngN t) := ⟨16 - t, by omega, (rI_t t (by omega)).1⟩
theorem rI_p {t : Nat} (ht : t ≤ 16) : rI (nI t) := ⟨16 + t, by omega, (rI_t t (by omega)).2⟩
theorem ngN_i {t : Nat} (ht : t ≤ 16) : (ngN t).toInt = -(t : Int) := by rw [(rI_t t (by omega)).1.2]; omega
theorem kjm {h q : Nat} {r : Int32} (h3 : 3 ≤ h) (h16 : h ≤ 16) (hq : q ≤ 16) (hr : rI r) : jmE (nI q + r) (nI h) = nI (emN h ((q : Int) + r.toInt)) := by
  obtain ⟨x, hx, e1, e2⟩ := hr
  rw [e2, e1, Int32.sub_eq_add_neg, ← Int32.add_assoc, nI_add, ← Int32.sub_eq_add_neg, kjm_t h (by omega) h3 (q + x) (by omega), show ((q + x : Nat) : Int) - 16 = (q : Int) + ((x : Int) - 16) by omega]
def awR (h w k : Nat) (r : Int32) : Nat := emN h (((k / w : Nat) : Int) + r.toInt)
def awC (w k : Nat) (r : Int32) : Nat := emN w (((k % w : Nat) : Int) + r.toInt)
def awI (h w k : Nat) (r c : Int32) : Nat := awR h w k r * w + awC w k c
theorem emN_in {h x : Nat} (hx : x < h) : emN h (x : Int) = x := by
  unfold emN
  rw [Int.emod_eq_of_lt (by omega) (by omega)]
  rfl
theorem emN_ad {h : Nat} (x : Int) : emN h (x + h) = emN h x := by unfold emN; rw [Int.add_emod_right]
theorem emN_lt {h : Nat} (h0 : 0 < h) (x : Int) : emN h x < h := by
  unfold emN
  have := Int.emod_lt_of_pos x (b := (h : Int)) (by omega)
  omega
theorem emN_em {h : Nat} (h0 : 0 < h) (x y : Int) : emN h ((emN h x : Nat) + y) = emN h (x + y) := by
  unfold emN
  rw [Int.toNat_of_nonneg (Int.emod_nonneg x (by omega)), Int.emod_add_emod]
theorem emN_m {h q : Nat} (hq : q < h) : emN h ((q : Int) + -1) = if 0 < q then q - 1 else h - 1 := by
  by_cases h0 : 0 < q
  · rw [if_pos h0, show (q : Int) + -1 = ((q - 1 : Nat) : Int) by omega]
    exact emN_in (by omega)
  · rw [if_neg h0, ← emN_ad, show (q : Int) + -1 + h = ((h - 1 : Nat) : Int) by omega]
    exact emN_in (by omega)
theorem emN_p {h q : Nat} (hq : q < h) : emN h ((q : Int) + 1) = if q < h - 1 then q + 1 else 0 := by
  by_cases h0 : q < h - 1
  · rw [if_pos h0, show (q : Int) + 1 = ((q + 1 : Nat) : Int) by omega]
    exact emN_in (by omega)
  · rw [if_neg h0, show (q : Int) + 1 = ((0 : Nat) : Int) + h by omega, emN_ad]
    exact emN_in (by omega)
theorem kpos_d {w a b : Nat} (hb : b < w) : (a * w + b) / w = a := by
  rw [Nat.mul_comm, Nat.mul_add_div (by omega), Nat.div_eq_of_lt hb, Nat.add_zero]
theorem kpos_m {w a b : Nat} (hb : b < w) : (a * w + b) % w = b := by
  rw [Nat.mul_comm, Nat.mul_add_mod, Nat.mod_eq_of_lt hb]
theorem kpos_e (w k : Nat) : k / w * w + k % w = k := by rw [Nat.mul_comm]; exact Nat.div_add_mod k w
theorem nbr_p {h w k : Nat} (hG : kG h w) (hk : k < h * w) :
    nbr h w k 0 = emN h (((k / w : Nat) : Int) + -1) * w + k % w ∧ nbr h w k 1 = k / w * w + emN w (((k % w : Nat) : Int) + 1) ∧ nbr h w k 2 = emN h (((k / w : Nat) : Int) + 1) * w + k % w ∧ nbr h w k 3 = k / w * w + emN w (((k % w : Nat) : Int) + -1) := by
  have e1 := kpos_e w k
  have e2 := kdiv_lt hk
  have e3 : k % w < w := Nat.mod_lt _ (by have := hG.2.2.1; omega)
  rw [emN_m e2, emN_p e3, emN_p e2, emN_m e3]
  have f0 : nbr h w k 0 = if 0 < k / w then k - w else k + (h - 1) * w := rfl
  have f1 : nbr h w k 1 = if k % w < w - 1 then k + 1 else k - k % w := rfl
  have f2 : nbr h w k 2 = if k / w < h - 1 then k + w else k % w := rfl
  have f3 : nbr h w k 3 = if 0 < k % w then k - 1 else k + w - 1 := rfl
  rw [f0, f1, f2, f3]
  generalize k / w = q at e1 e2 ⊢
  generalize k % w = r at e1 e3 ⊢
  have e4 : 0 < q → (q - 1) * w + w = q * w := fun h0 => by
    obtain ⟨a, rfl⟩ : ∃ a, q = a + 1 := ⟨q - 1, by omega⟩
    rw [Nat.add_sub_cancel, Nat.succ_mul]
  have e5 : (q + 1) * w = q * w + w := Nat.succ_mul q w
  have e6 : ¬ 0 < q → q * w = 0 := fun h0 => by rw [show q = 0 by omega, Nat.zero_mul]
  have e7 : ¬ q < h - 1 → q * w = (h - 1) * w := fun h0 => by rw [show q = h - 1 by omega]
  refine ⟨?_, ?_, ?_, ?_⟩
  · split
    · have := e4 (by assumption); omega
    · have := e6 (by assumption); omega
  · split <;> omega
  · split
    · omega
    · rw [Nat.zero_mul]; omega
  · split <;> omega
theorem upw_0 {h w k : Nat} (hG : kG h w) (hk : k < h * w) : ∀ t, upw h w 0 k t = emN h (((k / w : Nat) : Int) + -(t : Int)) * w + k % w
  | 0 => by
    rw [show -((0 : Nat) : Int) = 0 from rfl, Int.add_zero, emN_in (kdiv_lt hk)]
    exact (kpos_e w k).symm
  | t + 1 => by
    have e3 : k % w < w := Nat.mod_lt _ (by have := hG.2.2.1; omega)
    show nbr h w (upw h w 0 k t) 0 = _
    rw [(nbr_p hG (upw_lt hG hk t)).1, upw_0 hG hk t, kpos_d e3, kpos_m e3, emN_em (by have := hG.1; omega), show ((k / w : Nat) : Int) + -(t : Int) + -1 = ((k / w : Nat) : Int) + -((t + 1 : Nat) : Int) by omega]
theorem upw_2 {h w k : Nat} (hG : kG h w) (hk : k < h * w) : ∀ t, upw h w 2 k t = emN h (((k / w : Nat) : Int) + (t : Int)) * w + k % w
  | 0 => by
    rw [show ((0 : Nat) : Int) = 0 from rfl, Int.add_zero, emN_in (kdiv_lt hk)]
    exact (kpos_e w k).symm
  | t + 1 => by
    have e3 : k % w < w := Nat.mod_lt _ (by have := hG.2.2.1; omega)
    show nbr h w (upw h w 2 k t) 2 = _
    rw [(nbr_p hG (upw_lt hG hk t)).2.2.1, upw_2 hG hk t, kpos_d e3, kpos_m e3, emN_em (by have := hG.1; omega), show ((k / w : Nat) : Int) + (t : Int) + 1 = ((k / w : Nat) : Int) + ((t + 1 : Nat) : Int) by omega]
theorem upw_3 {h w k : Nat} (hG : kG h w) (hk : k < h * w) : ∀ t, upw h w 3 k t = k / w * w + emN w (((k % w : Nat) : Int) + -(t : Int))
  | 0 => by
    rw [show -((0 : Nat) : Int) = 0 from rfl, Int.add_zero, emN_in (Nat.mod_lt _ (by have := hG.2.2.1; omega))]
    exact (kpos_e w k).symm
  | t + 1 => by
    have e3 : ∀ x, emN w x < w := emN_lt (by have := hG.2.2.1; omega)
    show nbr h w (upw h w 3 k t) 3 = _
    rw [(nbr_p hG (upw_lt hG hk t)).2.2.2, upw_3 hG hk t, kpos_d (e3 _), kpos_m (e3 _), emN_em (by have := hG.2.2.1; omega), show ((k % w : Nat) : Int) + -(t : Int) + -1 = ((k % w : Nat) : Int) + -((t + 1 : Nat) : Int) by omega]
theorem upw_1 {h w k : Nat} (hG : kG h w) (hk : k < h * w) : ∀ t, upw h w 1 k t = k / w * w + emN w (((k % w : Nat) : Int) + (t : Int))
  | 0 => by
    rw [show ((0 : Nat) : Int) = 0 from rfl, Int.add_zero, emN_in (Nat.mod_lt _ (by have := hG.2.2.1; omega))]
    exact (kpos_e w k).symm
  | t + 1 => by
    have e3 : ∀ x, emN w x < w := emN_lt (by have := hG.2.2.1; omega)
    show nbr h w (upw h w 1 k t) 1 = _
    rw [(nbr_p hG (upw_lt hG hk t)).2.1, upw_1 hG hk t, kpos_d (e3 _), kpos_m (e3 _), emN_em (by have := hG.2.2.1; omega), show ((k % w : Nat) : Int) + (t : Int) + 1 = ((k % w : Nat) : Int) + ((t + 1 : Nat) : Int) by omega]
section AW
variable {h w k : Nat}
theorem aw_c0 (hG : kG h w) (hk : k < h * w) : awC w k 0 = k % w := by unfold awC; rw [show (0 : Int32).toInt = 0 from rfl, Int.add_zero]; exact emN_in (Nat.mod_lt _ (by have := hG.2.2.1; omega))
theorem aw_r0 (hG : kG h w) (hk : k < h * w) : awR h w k 0 = k / w := by unfold awR; rw [show (0 : Int32).toInt = 0 from rfl, Int.add_zero]; exact emN_in (kdiv_lt hk)
theorem aw_up (hG : kG h w) (hk : k < h * w) {t : Nat} (ht : t ≤ 16) : nI (awI h w k (ngN t) 0) = nI (upw h w 0 k t) := by rw [upw_0 hG hk]; unfold awI; rw [aw_c0 hG hk]; unfold awR; rw [ngN_i ht]
theorem aw_dn (hG : kG h w) (hk : k < h * w) {t : Nat} (ht : t ≤ 16) : nI (awI h w k (nI t) 0) = nI (upw h w 2 k t) := by rw [upw_2 hG hk]; unfold awI; rw [aw_c0 hG hk]; unfold awR; rw [nI_toInt (by omega)]
theorem aw_lf (hG : kG h w) (hk : k < h * w) {t : Nat} (ht : t ≤ 16) : nI (awI h w k 0 (ngN t)) = nI (upw h w 3 k t) := by rw [upw_3 hG hk]; unfold awI; rw [aw_r0 hG hk]; unfold awC; rw [ngN_i ht]
theorem aw_rt (hG : kG h w) (hk : k < h * w) {t : Nat} (ht : t ≤ 16) : nI (awI h w k 0 (nI t)) = nI (upw h w 1 k t) := by rw [upw_1 hG hk]; unfold awI; rw [aw_r0 hG hk]; unfold awC; rw [nI_toInt (by omega)]
theorem aw_0 (hG : kG h w) (hk : k < h * w) : nI (awI h w k (-1) 0) = nI (nbr h w k 0) := aw_up hG hk (t := 1) (by decide)
theorem aw_2 (hG : kG h w) (hk : k < h * w) : nI (awI h w k 1 0) = nI (nbr h w k 2) := aw_dn hG hk (t := 1) (by decide)
theorem aw_3 (hG : kG h w) (hk : k < h * w) : nI (awI h w k 0 (-1)) = nI (nbr h w k 3) := aw_lf hG hk (t := 1) (by decide)
theorem aw_1 (hG : kG h w) (hk : k < h * w) : nI (awI h w k 0 1) = nI (nbr h w k 1) := aw_rt hG hk (t := 1) (by decide)
end AW
/-- the shadow, cell by cell upwind -/
def shA (h w d : Nat) (he : Nat → Int32) (c i : Nat) : Bool := (List.range i).any (fun t => decide (1 ≤ t) && shc he (upw h w ((d + 3) % 4) c t) c t)
theorem shA_1 {h w d : Nat} {he : Nat → Int32} {c : Nat} : shA h w d he c 1 = false := rfl
theorem shA_s {h w d : Nat} {he : Nat → Int32} {c i : Nat} : shA h w d he c (i + 1) = (shA h w d he c i || (decide (1 ≤ i) && shc he (upw h w ((d + 3) % 4) c i) c i)) := by
  unfold shA
  rw [List.range_succ, List.any_append]
  simp only [List.any_cons, List.any_nil, Bool.or_false]
def shI (h w d : Nat) (he : Nat → Int32) (c i : Nat) : Int32 := if shA h w d he c i then 1 else 0
theorem shI_y {h w d : Nat} {he : Nat → Int32} {c i : Nat} {b : Int32} (hb : b = shI h w d he c i) (h1 : ¬ b = 0) : (1 : Int32) = shI h w d he c (i + 1) := by
  have h2 : shA h w d he c i = true := by
    by_cases h9 : shA h w d he c i = true
    · exact h9
    · rw [hb, shI, if_neg h9] at h1; exact absurd rfl h1
  rw [shI, shA_s, h2, Bool.true_or, if_pos rfl]
theorem shI_o {h w d : Nat} {he : Nat → Int32} {c i : Nat} {b : Int32} (hb : b = shI h w d he c i) (h1 : b = 0) : shA h w d he c i = false := by
  by_cases h9 : shA h w d he c i = true
  · rw [hb, shI, if_pos h9] at h1; exact absurd h1 (by decide)
  · exact Bool.eq_false_iff.mpr h9
theorem shI_h {h w d : Nat} {he : Nat → Int32} {c i : Nat} {b : Int32} (hb : b = shI h w d he c i) (h1 : b = 0) (hi : 1 ≤ i) (h2 : ¬ (he (upw h w ((d + 3) % 4) c i) - he c) * 5 ≤ 4 * nI i) : (1 : Int32) = shI h w d he c (i + 1) := by
  rw [shI, shA_s, shI_o hb h1, Bool.false_or, decide_eq_true hi, Bool.true_and, shc, decide_eq_true h2, if_pos rfl]
theorem shI_m {h w d : Nat} {he : Nat → Int32} {c i : Nat} {b : Int32} (hb : b = shI h w d he c i) (h1 : b = 0) (h2 : (he (upw h w ((d + 3) % 4) c i) - he c) * 5 ≤ 4 * nI i) : (0 : Int32) = shI h w d he c (i + 1) := by
  rw [shI, shA_s, shI_o hb h1, Bool.false_or, shc, show decide (¬ (he (upw h w ((d + 3) % 4) c i) - he c) * 5 ≤ 4 * nI i) = false from decide_eq_false (fun h9 => h9 h2), Bool.and_false]
  rfl
/-- the drawing of a number -/
theorem drw_2 {s : Nat} (hs : s < 2147483648) : 1103515245 * Int32.toInt64 (nI s) + 12345 - (1103515245 * Int32.toInt64 (nI s) + 12345) / 2147483648 * 2147483648 = lN (drwS s) := by
  rw [nI_l hs]
  have e1 : (1103515245 : Int64) * lN s + 12345 = lN (1103515245 * s + 12345) := by
    rw [← lN_add, ← lN_mul]; rfl
  rw [e1, show (2147483648 : Int64) = lN 2147483648 from rfl, pk_lRem (by omega) (by decide) (by decide)]
  rfl
/-- what steepest looks at: n neighbors; sl at first -/
def stF (sl : Int32) (ap nb : Nat → Int32) : Nat → Int32 × Int32
  | 0 => (-1, sl)
  | n + 1 => if (stF sl ap nb n).2 < ap n then (nb n, ap n) else stF sl ap nb n
theorem stF_s (sl : Int32) (ap nb : Nat → Int32) (n : Nat) : stF sl ap nb (n + 1) = if (stF sl ap nb n).2 < ap n then (nb n, ap n) else stF sl ap nb n := rfl
def apN (h w : Nat) (he : Nat → Int32) (wy : Int32) (c i : Nat) : Int32 := wy * (he c - he (nbr h w c i))
def nbI (h w c i : Nat) : Int32 := nI (nbr h w c i)
def stB1 (h w : Nat) (sl : Int32) (he : Nat → Int32) (wy : Int32) (c n : Nat) : Int32 := (stF sl (apN h w he wy c) (nbI h w c) n).1
def stB2 (h w : Nat) (sl : Int32) (he : Nat → Int32) (wy : Int32) (c n : Nat) : Int32 := (stF sl (apN h w he wy c) (nbI h w c) n).2
theorem stB_y {h w : Nat} {sl : Int32} {he : Nat → Int32} {wy : Int32} {c n : Nat} (h1 : stB2 h w sl he wy c n < wy * (he c - he (nbr h w c n))) : nI (nbr h w c n) = stB1 h w sl he wy c (n + 1) ∧ wy * (he c - he (nbr h w c n)) = stB2 h w sl he wy c (n + 1) := by
  have h2 : (stF sl (apN h w he wy c) (nbI h w c) n).2 < apN h w he wy c n := h1
  unfold stB1 stB2
  rw [stF_s, if_pos h2]
  exact ⟨rfl, rfl⟩
theorem stB_n {h w : Nat} {sl : Int32} {he : Nat → Int32} {wy : Int32} {c n : Nat} (h1 : ¬ stB2 h w sl he wy c n < wy * (he c - he (nbr h w c n))) : stB1 h w sl he wy c n = stB1 h w sl he wy c (n + 1) ∧ stB2 h w sl he wy c n = stB2 h w sl he wy c (n + 1) := by
  have h2 : ¬ (stF sl (apN h w he wy c) (nbI h w c) n).2 < apN h w he wy c n := h1
  unfold stB1 stB2
  rw [stF_s, if_neg h2]
  exact ⟨rfl, rfl⟩
/-- heights: numbers whose sum is at most B -/
def sumN (H : Nat → Nat) : Nat → Nat
  | 0 => 0
  | n + 1 => sumN H n + H n
theorem sumN_s (H : Nat → Nat) (n : Nat) : sumN H (n + 1) = sumN H n + H n := rfl
theorem sumN_le {H : Nat → Nat} {x : Nat} : ∀ n, x < n → H x ≤ sumN H n
  | 0, h => absurd h (Nat.not_lt_zero _)
  | n + 1, h => by
    rw [sumN_s]
    by_cases h9 : x = n
    · rw [h9]; omega
    · have := sumN_le (H := H) (x := x) n (by omega)
      omega
theorem sumN_far {H : Nat → Nat} {x v : Nat} : ∀ n, n ≤ x → sumN (va_up H x v) n = sumN H n
  | 0, _ => rfl
  | n + 1, h => by rw [sumN_s, sumN_s, sumN_far n (by omega), va_up_ne _ _ (by omega)]
theorem sumN_up {H : Nat → Nat} {x v : Nat} : ∀ n, x < n → sumN (va_up H x v) n + H x = sumN H n + v
  | 0, h => absurd h (Nat.not_lt_zero _)
  | n + 1, h => by
    rw [sumN_s, sumN_s]
    by_cases h9 : x = n
    · subst h9
      rw [sumN_far x (Nat.le_refl _), va_up_self]; omega
    · rw [va_up_ne _ _ (fun e => h9 e.symm)]
      have := sumN_up (H := H) (x := x) (v := v) n (by omega)
      omega
def hI (n : Nat) (he : Nat → Int32) (B : Nat) : Prop := ∃ H : Nat → Nat, (∀ x, x < n → he x = nI (H x)) ∧ sumN H n ≤ B
theorem hI_le {n B B' : Nat} {he : Nat → Int32} (h : hI n he B) (hB : B ≤ B') : hI n he B' := by
  obtain ⟨H, h1, h2⟩ := h
  exact ⟨H, h1, by omega⟩
theorem hI_v {n B x : Nat} {he : Nat → Int32} (h : hI n he B) (hx : x < n) : ∃ v, v ≤ B ∧ he x = nI v := by
  obtain ⟨H, h1, h2⟩ := h
  exact ⟨H x, Nat.le_trans (sumN_le n hx) h2, h1 x hx⟩
theorem hI_up {n B x v u : Nat} {he : Nat → Int32} (h : hI n he B) (hx : x < n) (hu : he x = nI u) (hu2 : u < 1000000) (hB : B < 1000000) : hI n (upd he x (nI v)) (B - u + v) := by
  obtain ⟨H, h1, h2⟩ := h
  have h3 := sumN_le (H := H) n hx
  have h4 : H x = u := by
    have e := h1 x hx
    rw [hu] at e
    exact ((nI_eq (by omega) (by omega)).mp e).symm
  refine ⟨va_up H x v, fun y hy => ?_, ?_⟩
  · unfold upd va_up
    split
    · rfl
    · exact h1 y hy
  · have := sumN_up (H := H) (v := v) n hx
    omega
theorem klt {a b : Nat} {s : Int32} (ha : a < 1000000) (hb : b < 1000000) : (s < nI a - nI b ↔ s.toInt < (a : Int) - b) ∧ (nI a - nI b ≤ s ↔ (a : Int) - b ≤ s.toInt) := by
  rw [Int32.lt_iff_toInt_lt, Int32.le_iff_toInt_le, pk_sub_toInt (by omega) (by omega)]
  exact ⟨Iff.rfl, Iff.rfl⟩
theorem kap_m {a b : Int32} : (-1 : Int32) * (a - b) = b - a := by rw [Int32.neg_mul, Int32.one_mul, Int32.neg_sub]
theorem stB_low {h w B c : Nat} {sl : Int32} {he : Nat → Int32} (hG : kG h w) (hc : c < h * w) (hH : hI (h * w) he B) (hB : B < 1000000) : ∀ j, stF sl (apN h w he 1 c) (nbI h w c) (j + 1) = if he c - he (lowN h w he c j) ≤ sl then (-1, sl) else (nI (lowN h w he c j), he c - he (lowN h w he c j))
  | 0 => by
    have e0 : stF sl (apN h w he 1 c) (nbI h w c) 1 = if sl < apN h w he 1 c 0 then (nbI h w c 0, apN h w he 1 c 0) else (-1, sl) := rfl
    rw [e0]
    unfold apN nbI
    rw [Int32.one_mul]
    show _ = if he c - he (nbr h w c 0) ≤ sl then _ else (nI (nbr h w c 0), he c - he (nbr h w c 0))
    by_cases h1 : he c - he (nbr h w c 0) ≤ sl
    · rw [if_pos h1, if_neg (Int32.not_lt.mpr h1)]
    · rw [if_neg h1, if_pos (Int32.not_le.mp h1)]
  | j + 1 => by
    have e9 := stB_low (sl := sl) hG hc hH hB j
    rw [stF_s, e9]
    obtain ⟨x, hx, ex⟩ := hI_v hH hc
    obtain ⟨y, hy, ey⟩ := hI_v hH (lowN_lt (he := he) hG hc j)
    obtain ⟨u, hu, eu⟩ := hI_v hH (nbr_lt (j + 1) hG hc)
    unfold apN nbI
    rw [Int32.one_mul, lowN_s]
    rw [ex, eu]
    have k1 := klt (a := x) (b := y) (s := sl) (by omega) (by omega)
    have k2 := klt (a := x) (b := u) (s := sl) (by omega) (by omega)
    have k3 := (klt (a := x) (b := u) (s := nI x - nI y) (by omega) (by omega)).1
    rw [pk_sub_toInt (by omega) (by omega)] at k3
    have k4 := nI_leI (a := y) (b := u) (by omega) (by omega)
    rw [ey]
    by_cases c4 : nI y ≤ nI u
    · rw [if_pos c4, ey]
      have c5 := k4.mp c4
      by_cases c1 : nI x - nI y ≤ sl
      · have c6 := k1.2.mp c1
        rw [if_pos c1, if_neg (fun h9 => by have h8 := k2.1.mp h9; omega)]
      · rw [if_neg c1, if_neg (fun h9 => by have h8 := k3.mp h9; omega)]
    · rw [if_neg c4, eu]
      have c5 : u < y := by
        rcases Nat.lt_or_ge u y with h9 | h9
        · exact h9
        · exact absurd (k4.mpr h9) c4
      by_cases c1 : nI x - nI y ≤ sl
      · rw [if_pos c1]
        show (if sl < nI x - nI u then _ else _) = _
        by_cases c2 : nI x - nI u ≤ sl
        · rw [if_pos c2, if_neg (Int32.not_lt.mpr c2)]
        · rw [if_neg c2, if_pos (Int32.not_le.mp c2)]
      · rw [if_neg c1, if_pos (k3.mpr (by omega)), if_neg (fun h9 => by have h8 := k2.2.mp h9; exact c1 (k1.2.mpr (by omega)))]
theorem stB_hig {h w B c : Nat} {sl : Int32} {he : Nat → Int32} (hG : kG h w) (hc : c < h * w) (hH : hI (h * w) he B) (hB : B < 1000000) : ∀ j, stF sl (apN h w he (-1) c) (nbI h w c) (j + 1) = if he (higN h w he c j) - he c ≤ sl then (-1, sl) else (nI (higN h w he c j), he (higN h w he c j) - he c)
  | 0 => by
    have e0 : stF sl (apN h w he (-1) c) (nbI h w c) 1 = if sl < apN h w he (-1) c 0 then (nbI h w c 0, apN h w he (-1) c 0) else (-1, sl) := rfl
    rw [e0]
    unfold apN nbI
    rw [kap_m]
    show _ = if he (nbr h w c 0) - he c ≤ sl then _ else (nI (nbr h w c 0), he (nbr h w c 0) - he c)
    by_cases h1 : he (nbr h w c 0) - he c ≤ sl
    · rw [if_pos h1, if_neg (Int32.not_lt.mpr h1)]
    · rw [if_neg h1, if_pos (Int32.not_le.mp h1)]
  | j + 1 => by
    have e9 := stB_hig (sl := sl) hG hc hH hB j
    rw [stF_s, e9]
    obtain ⟨x, hx, ex⟩ := hI_v hH hc
    obtain ⟨y, hy, ey⟩ := hI_v hH (higN_lt (he := he) hG hc j)
    obtain ⟨u, hu, eu⟩ := hI_v hH (nbr_lt (j + 1) hG hc)
    unfold apN nbI
    rw [kap_m, higN_s]
    rw [ex, eu]
    have k1 := klt (a := y) (b := x) (s := sl) (by omega) (by omega)
    have k2 := klt (a := u) (b := x) (s := sl) (by omega) (by omega)
    have k3 := (klt (a := u) (b := x) (s := nI y - nI x) (by omega) (by omega)).1
    rw [pk_sub_toInt (by omega) (by omega)] at k3
    have k4 := nI_leI (a := u) (b := y) (by omega) (by omega)
    rw [ey]
    by_cases c4 : nI u ≤ nI y
    · rw [if_pos c4, ey]
      have c5 := k4.mp c4
      by_cases c1 : nI y - nI x ≤ sl
      · have c6 := k1.2.mp c1
        rw [if_pos c1, if_neg (fun h9 => by have h8 := k2.1.mp h9; omega)]
      · rw [if_neg c1, if_neg (fun h9 => by have h8 := k3.mp h9; omega)]
    · rw [if_neg c4, eu]
      have c5 : y < u := by
        rcases Nat.lt_or_ge y u with h9 | h9
        · exact h9
        · exact absurd (k4.mpr h9) c4
      by_cases c1 : nI y - nI x ≤ sl
      · rw [if_pos c1]
        show (if sl < nI u - nI x then _ else _) = _
        by_cases c2 : nI u - nI x ≤ sl
        · rw [if_pos c2, if_neg (Int32.not_lt.mpr c2)]
        · rw [if_neg c2, if_pos (Int32.not_le.mp c2)]
      · rw [if_neg c1, if_pos (k3.mpr (by omega)), if_neg (fun h9 => by have h8 := k2.2.mp h9; exact c1 (k1.2.mpr (by omega)))]
