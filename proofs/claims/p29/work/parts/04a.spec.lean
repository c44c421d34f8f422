/-! WHAT A FIELD IS, in numbers: h rows, w columns; cells 0 .. h * w - 1 -/
def kG (h w : Nat) : Prop := 3 ≤ h ∧ h ≤ 12 ∧ 3 ≤ w ∧ w ≤ 16
theorem kG_n {h w : Nat} (hG : kG h w) : h * w ≤ 192 ∧ 9 ≤ h * w := by
  obtain ⟨a, b, c, d⟩ := hG
  have h1 := Nat.mul_le_mul b d
  have h2 := Nat.mul_le_mul a c
  omega
theorem kb10t {P : Prop} [Decidable P] (h : (if P then (1 : Int32) else 0) = 0) : ¬ P := by
  intro hp
  rw [if_pos hp] at h
  exact absurd h (by decide)
theorem kb10f {P : Prop} [Decidable P] (h : ¬ (if P then (1 : Int32) else 0) = 0) : P := by
  by_cases hp : P
  · exact hp
  · rw [if_neg hp] at h
    exact absurd rfl h
theorem kb01t {P : Prop} [Decidable P] (h : (if P then (0 : Int32) else 1) = 0) : P := by
  by_cases hp : P
  · exact hp
  · rw [if_neg hp] at h
    exact absurd h (by decide)
theorem kb01f {P : Prop} [Decidable P] (h : ¬ (if P then (0 : Int32) else 1) = 0) : ¬ P := by
  intro hp
  rw [if_pos hp] at h
  exact h rfl
/-- the neighbors: 0 above, 1 to the right, 2 below, 3 to the left -/
def nbr (h w c k : Nat) : Nat :=
  if k = 0 then (if 0 < c / w then c - w else c + (h - 1) * w)
  else if k = 1 then (if c % w < w - 1 then c + 1 else c - c % w)
  else if k = 2 then (if c / w < h - 1 then c + w else c % w)
  else (if 0 < c % w then c - 1 else c + w - 1)
theorem kdm (c w : Nat) : w * (c / w) + c % w = c := Nat.div_add_mod c w
theorem kdiv_lt {h w c : Nat} (hc : c < h * w) : c / w < h := Nat.div_lt_of_lt_mul (by rw [Nat.mul_comm]; exact hc)
theorem kw_le {w c : Nat} (h : 0 < c / w) : w ≤ c := by
  rcases Nat.lt_or_ge c w with h1 | h1
  · rw [Nat.div_eq_of_lt h1] at h; omega
  · exact h1
theorem kmulsub {h w : Nat} (hh : 1 ≤ h) : (h - 1) * w + w = h * w := by
  obtain ⟨a, rfl⟩ : ∃ a, h = a + 1 := ⟨h - 1, by omega⟩
  rw [Nat.add_sub_cancel, Nat.succ_mul]
theorem nbr_lt {h w c : Nat} (k : Nat) (hG : kG h w) (hc : c < h * w) : nbr h w c k < h * w := by
  obtain ⟨a1, a2, a3, a4⟩ := hG
  have e1 := kdm c w
  have e2 := kdiv_lt hc
  have e3 : c % w < w := Nat.mod_lt _ (by omega)
  have e4 := kmulsub (h := h) (w := w) (by omega)
  have e5 : c / w < h - 1 → w * (c / w) + w ≤ (h - 1) * w := fun hh => by
    have := Nat.mul_le_mul_left w (show c / w + 1 ≤ h - 1 by omega)
    rw [Nat.mul_add, Nat.mul_one, Nat.mul_comm w (h - 1)] at this
    exact this
  have e6 : c / w = 0 → w * (c / w) = 0 := fun hh => by rw [hh, Nat.mul_zero]
  have e7 : w * (c / w) ≤ (h - 1) * w := by
    rw [Nat.mul_comm (h - 1) w]
    exact Nat.mul_le_mul_left w (by omega)
  unfold nbr
  generalize c / w = q at e1 e2 e5 e6 e7 ⊢
  generalize c % w = r at e1 e3 ⊢
  split
  · split
    · omega
    · rename_i hh
      have := e6 (by omega)
      omega
  · split
    · split
      · omega
      · omega
    · split
      · split
        · rename_i hh
          have := e5 hh
          omega
        · omega
      · split
        · omega
        · omega
theorem nbr_00 {h w c k : Nat} (hk : k = 0) (h1 : 0 < c / w) : nI c - nI w = nI (nbr h w c k) := by
  rw [pk_sub (kw_le h1)]; simp [nbr, hk, h1]
theorem nbr_01 {h w c k : Nat} (hG : kG h w) (hk : k = 0) (h1 : ¬ 0 < c / w) : nI c + (nI h - 1) * nI w = nI (nbr h w c k) := by
  rw [show nI h - 1 = nI (h - 1) from pk_sub (b := 1) (by have := hG.1; omega), pk_mul, nI_add]; simp only [nbr, hk, if_true, if_neg h1]
theorem nbr_10 {h w c k : Nat} (hk : k = 1) (h1 : c % w < w - 1) : nI c + 1 = nI (nbr h w c k) := by
  rw [nI_1]; simp [nbr, hk, h1]
theorem nbr_11 {h w c k : Nat} (hk : k = 1) (h1 : ¬ c % w < w - 1) : nI c - nI (c % w) = nI (nbr h w c k) := by
  rw [pk_sub (Nat.mod_le _ _)]; simp [nbr, hk, h1]
theorem nbr_20 {h w c k : Nat} (hk : k = 2) (h1 : c / w < h - 1) : nI c + nI w = nI (nbr h w c k) := by
  rw [nI_add]; simp [nbr, hk, h1]
theorem nbr_21 {h w c k : Nat} (hk : k = 2) (h1 : ¬ c / w < h - 1) : nI (c % w) = nI (nbr h w c k) := by
  simp [nbr, hk, h1]
theorem nbr_30 {h w c k : Nat} (hk : 3 ≤ k) (h1 : 0 < c % w) : nI c - 1 = nI (nbr h w c k) := by
  rw [show nI c - 1 = nI (c - 1) from pk_sub (b := 1) (by have := Nat.mod_le c w; omega)]
  simp only [nbr, show ¬ k = 0 by omega, show ¬ k = 1 by omega, show ¬ k = 2 by omega, if_false, h1, if_true]
theorem nbr_31 {h w c k : Nat} (hG : kG h w) (hk : 3 ≤ k) (h1 : ¬ 0 < c % w) : nI c + nI w - 1 = nI (nbr h w c k) := by
  rw [nI_add, show nI (c + w) - 1 = nI (c + w - 1) from pk_sub (b := 1) (by have := hG.2.2.1; omega)]
  simp only [nbr, show ¬ k = 0 by omega, show ¬ k = 1 by omega, show ¬ k = 2 by omega, if_false, h1]
/-- the wind d: 0 to the right, 1 downward, 2 to the left, 3 upward; the side upwind; the cells of a line -/
def lineN (d h w : Nat) : Nat := if d % 2 = 0 then w else h
def upw (h w sd c : Nat) : Nat → Nat
  | 0 => c
  | t + 1 => nbr h w (upw h w sd c t) sd
theorem upw_lt {h w sd c : Nat} (hG : kG h w) (hc : c < h * w) : ∀ t, upw h w sd c t < h * w
  | 0 => hc
  | t + 1 => nbr_lt sd hG (upw_lt hG hc t)
def shc (he : Nat → Int32) (u c t : Nat) : Bool := decide (¬ (he u - he c) * 5 ≤ 4 * nI t)
/-- c lies in a shadow -/
def shd (h w d : Nat) (he : Nat → Int32) (c : Nat) : Bool := (List.range (lineN d h w)).any (fun t => decide (1 ≤ t) && shc he (upw h w ((d + 3) % 4) c t) c t)
theorem shd_hit {h w d : Nat} {he : Nat → Int32} {c t : Nat} (ht : t + 1 < lineN d h w) (hs : ¬ (he (upw h w ((d + 3) % 4) c (t + 1)) - he c) * 5 ≤ 4 * nI (t + 1)) : (1 : Int32) = if shd h w d he c then 1 else 0 := by
  rw [if_pos]
  unfold shd
  rw [List.any_eq_true]
  exact ⟨t + 1, List.mem_range.mpr ht, by simp [shc, hs]⟩
theorem shd_miss {h w d : Nat} {he : Nat → Int32} {c n : Nat} (hn : lineN d h w ≤ n + 1) (hs : ∀ t, 1 ≤ t → t ≤ n → shc he (upw h w ((d + 3) % 4) c t) c t = false) : (0 : Int32) = if shd h w d he c then 1 else 0 := by
  rw [if_neg]
  unfold shd
  rw [List.any_eq_true]
  rintro ⟨t, h1, h2⟩
  have h3 := List.mem_range.mp h1
  simp only [Bool.and_eq_true, decide_eq_true_eq] at h2
  rw [hs t h2.1 (by omega)] at h2
  exact absurd h2.2 (by decide)
theorem shd_step {h w d : Nat} {he : Nat → Int32} {c i : Nat} (hno : ∀ t, 1 ≤ t → t ≤ i → shc he (upw h w ((d + 3) % 4) c t) c t = false) (hs : (he (upw h w ((d + 3) % 4) c (i + 1)) - he c) * 5 ≤ 4 * nI (i + 1)) : ∀ t, 1 ≤ t → t ≤ i + 1 → shc he (upw h w ((d + 3) % 4) c t) c t = false := by
  intro t h1 h2
  by_cases ht : t = i + 1
  · subst ht
    simp [shc, hs]
  · exact hno t h1 (by omega)
/-- the drawing of numbers -/
def drwS (s : Nat) : Nat := (1103515245 * s + 12345) % 2147483648
theorem drwS_lt (s : Nat) : drwS s < 2147483648 := Nat.mod_lt _ (by decide)
theorem drw_1 {s : Nat} (hs : s < 2147483648) : (1103515245 * (nI s).toInt64 + 12345 - (1103515245 * (nI s).toInt64 + 12345) / 2147483648 * 2147483648).toInt32 = nI (drwS s) := by
  rw [nI_l hs]
  have e1 : (1103515245 : Int64) * lN s + 12345 = lN (1103515245 * s + 12345) := by
    rw [← lN_add, ← lN_mul]; rfl
  rw [e1, show (2147483648 : Int64) = lN 2147483648 from rfl, pk_lRem (by omega) (by decide) (by decide), lN_i]
  rfl
/-- what numberOf and numberOfCell answer -/
def valN (R C wd s0 z : Int32) (st : Nat → Int32) (k : Nat) : Int32 := if k = 4 then R else if k = 5 then C else if k = 6 then wd else if k = 7 then s0 else if k = 8 then z else st k
def trpN (ca tr : Nat → Int32) (c : Nat) : Int32 := if ca c = -1 then -1 else tr c
def opnN (ca tr : Nat → Int32) (c : Nat) : Prop := ¬ ca c = -1 ∧ tr c < ca c
theorem opnN_dec (ca tr : Nat → Int32) (c : Nat) : opnN ca tr c ∨ ¬ opnN ca tr c := Classical.em _
def opnB (ca tr : Nat → Int32) (c : Nat) : Bool := decide (¬ ca c = -1) && decide (tr c < ca c)
def cvN (h w d : Nat) (he ke tu ca tr : Nat → Int32) (c k : Nat) : Int32 :=
  if k = 0 then he c else if k = 1 then tu c else if k = 2 then ca c else if k = 3 then trpN ca tr c else if k = 4 then (if shd h w d he c then 1 else 0) else he c - ke c
