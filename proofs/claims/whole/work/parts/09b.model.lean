/-! THE MODEL: saves, lays, clears -/
def svQ (V M : Nat → Int32) (m i : Nat) : Nat → Int32 := fun j => if 985 * m ≤ j ∧ j < 985 * m + i then M (j - 985 * m) else V j
def svH (V : Nat → Int32) (i : Nat) : Nat → Int32 := fun j => if j < i then V (j + 985) else V j
def svA (V M : Nat → Int32) (k : Nat) : Nat → Int32 := if k = 4 then svQ (svH V 2955) M 3 985 else svQ V M k 985
theorem svQ_0 {V M : Nat → Int32} {m : Nat} : ∀ j, V j = svQ V M m 0 j := fun j => by unfold svQ; rw [if_neg (by omega)]
theorem svQ_s {V M g : Nat → Int32} {m i : Nat} (hm : m ≤ 4) (hi : i < 985) (hg : ∀ j, g j = svQ V M m i j) : ∀ j, upd g (Int32.toNatClampNeg (nI (985 * m + i))) (M i) j = svQ V M m (i + 1) j := by
  intro j
  rw [nI_clamp (by omega)]
  by_cases hj : j = 985 * m + i
  · rw [hj, pk_us]; unfold svQ; rw [if_pos (by omega), Nat.add_sub_cancel_left]
  · rw [pk_un hj, hg j]; unfold svQ
    by_cases h1 : 985 * m ≤ j ∧ j < 985 * m + i
    · rw [if_pos h1, if_pos (by omega)]
    · rw [if_neg h1, if_neg (by omega)]
theorem svH_0 {V : Nat → Int32} : ∀ j, V j = svH V 0 j := fun j => by unfold svH; rw [if_neg (by omega)]
theorem svH_s {V g : Nat → Int32} {i : Nat} (hi : i < 2955) (hg : ∀ j, g j = svH V i j) : ∀ j, upd g (Int32.toNatClampNeg (nI i)) (g (i + 985)) j = svH V (i + 1) j := by
  intro j
  rw [nI_clamp (by omega)]
  by_cases hj : j = i
  · rw [hj, pk_us, hg (i + 985)]; unfold svH; rw [if_neg (by omega), if_pos (by omega)]
  · rw [pk_un hj, hg j]; unfold svH
    by_cases h1 : j < i
    · rw [if_pos h1, if_pos (by omega)]
    · rw [if_neg h1, if_neg (by omega)]
theorem kcp_s {M g : Nat → Int32} {i : Nat} (hi : i < 985) (hg : ∀ j, j < i → g j = M j) : ∀ j, j < i + 1 → upd g (Int32.toNatClampNeg (nI i)) (M i) j = M j := by
  intro j h
  rw [nI_clamp (by omega)]
  by_cases hj : j = i
  · rw [hj, pk_us]
  · rw [pk_un hj]; exact hg j (by omega)
/-- the phases of clears -/
def clA (M : Nat → Int32) (i : Nat) (g : Nat → Int32) : Prop := ∀ j, (j < 8 → g j = M j) ∧ (8 ≤ j → j < i → g j = 0)
theorem clA_s {M g : Nat → Int32} {i : Nat} (h8 : 8 ≤ i) (hi : i < 985) (hg : clA M i g) : clA M (i + 1) (upd g (Int32.toNatClampNeg (nI i)) 0) := by
  intro j
  rw [nI_clamp (by omega)]
  by_cases hj : j = i
  · rw [hj, pk_us]; exact ⟨fun h => by omega, fun _ _ => rfl⟩
  · rw [pk_un hj]; exact ⟨(hg j).1, fun h1 h2 => (hg j).2 h1 (by omega)⟩
def clL (i : Nat) (j : Nat) : Int32 := if 21 + j < i then -1 else 0
def clX (i : Nat) (c j : Nat) : Int32 := if c < i then (if j = 2 ∨ j = 3 then -1 else 0) else 0
def clB (r c : Nat) (M : Nat → Int32) (i : Nat) (g : Nat → Int32) : Prop := ∀ j, j < 985 → g j = mB r c (M 6) (M 7) 0 M (fun _ => 0) (clL i) (fun _ _ => 0) j
theorem clB_0 {r c : Nat} {M g : Nat → Int32} (hg : clA M 985 g) : clB r c M 21 (upd (upd g (Int32.toNatClampNeg 4) (nI r)) (Int32.toNatClampNeg 5) (nI c)) := by
  intro j hj
  rw [show Int32.toNatClampNeg 4 = 4 from rfl, show Int32.toNatClampNeg 5 = 5 from rfl]
  by_cases h5 : j = 5
  · rw [h5, pk_us]; rfl
  · rw [pk_un h5]
    by_cases h4 : j = 4
    · rw [h4, pk_us]; rfl
    · rw [pk_un h4]
      by_cases h8 : j < 8
      · rw [(hg j).1 h8]
        unfold mB
        rcases (show j < 4 ∨ j = 6 ∨ j = 7 by omega) with e | rfl | rfl
        · rw [if_pos e]
        · rfl
        · rfl
      · rw [(hg j).2 (by omega) hj]
        unfold mB
        rw [if_neg (by omega), if_neg h4, if_neg h5, if_neg (by omega), if_neg (by omega)]
        have e1 : clL 21 (j - 21) = 0 := if_neg (by omega)
        rw [e1]
        simp only [ite_self]
theorem clB_s {r c i : Nat} {M g : Nat → Int32} (h1 : 21 ≤ i) (h2 : i < 25) (hg : clB r c M i g) : clB r c M (i + 1) (upd g (Int32.toNatClampNeg (nI i)) (-1)) := by
  intro j hj
  rw [nI_clamp (by omega)]
  by_cases h9 : j = i
  · rw [h9, pk_us]; unfold mB
    have e1 : clL (i + 1) (i - 21) = -1 := if_pos (by omega)
    rw [if_neg (by omega), if_neg (by omega), if_neg (by omega), if_neg (by omega), if_neg (by omega), if_neg (by omega), if_neg (by omega), if_pos (by omega), e1]
  · rw [pk_un h9, hg j hj]; unfold mB
    have e1 : clL i (j - 21) = clL (i + 1) (j - 21) ∨ ¬ (21 ≤ j) := by
      by_cases h8 : 21 ≤ j
      · refine Or.inl ?_
        unfold clL
        by_cases h7 : 21 + (j - 21) < i
        · rw [if_pos h7, if_pos (by omega)]
        · rw [if_neg h7, if_neg (by omega)]
      · exact Or.inr h8
    rcases e1 with e1 | e1
    · rw [e1]
    · simp only [show j < 21 by omega, if_true]
def clC (r c : Nat) (M : Nat → Int32) (i : Nat) (g : Nat → Int32) : Prop := ∀ j, j < 985 → g j = mB r c (M 6) (M 7) 0 M (fun _ => 0) (fun _ => (-1)) (clX i) j
theorem clC_0 {r c : Nat} {M g : Nat → Int32} (hg : clB r c M 25 g) : clC r c M 0 g := by
  intro j hj
  rw [hg j hj]
  unfold mB
  by_cases h9 : j < 25
  · have e1 : clL 25 (j - 21) = -1 := if_pos (by omega)
    rw [e1]
    simp only [h9, if_true]
  · simp only [h9, if_false]
    rfl
theorem clC_R {r c i : Nat} {M g : Nat → Int32} (hg : clC r c M i g) : g (Int32.toNatClampNeg 4) = nI r ∧ g (Int32.toNatClampNeg 5) = nI c := ⟨hg 4 (by decide), hg 5 (by decide)⟩
theorem clC_s {r c i : Nat} {M g : Nat → Int32} (hi : i < r * c) (hn : r * c ≤ 192) (hg : clC r c M i g) : clC r c M (i + 1) (upd (upd g (Int32.toNatClampNeg (nI (25 + 5 * i + 2))) (-1)) (Int32.toNatClampNeg (nI (25 + 5 * i + 3))) (-1)) := by
  intro j hj
  rw [nI_clamp (by omega), nI_clamp (by omega)]
  by_cases h3 : j = 25 + 5 * i + 3
  · rw [h3, pk_us, mB_cell hi (by decide)]; unfold clX; rw [if_pos (by omega), if_pos (by decide)]
  · rw [pk_un h3]
    by_cases h2 : j = 25 + 5 * i + 2
    · rw [h2, pk_us, mB_cell hi (by decide)]; unfold clX; rw [if_pos (by omega), if_pos (by decide)]
    · rw [pk_un h2, hg j hj]
      refine mB_congr fun a1 a2 => ?_
      unfold clX
      by_cases h9 : (j - 25) / 5 = i
      · rw [if_neg (by omega), if_pos (by omega), if_neg (by omega)]
      · by_cases h8 : (j - 25) / 5 < i
        · rw [if_pos h8, if_pos (show (j - 25) / 5 < i + 1 by omega)]
        · rw [if_neg h8, if_neg (show ¬ (j - 25) / 5 < i + 1 by omega)]
theorem clC_e {r c i : Nat} {M g : Nat → Int32} (hi : i = r * c) (hg : clC r c M i g) : ∀ j, j < 985 → g j = mA r c (M 6) (M 7) 0 M (fun _ => 0) (fun _ => 0) (fun _ => 0) (fun _ => (-1)) (fun _ => 0) (fun _ => 0) (fun _ => (-1)) j := by
  intro j hj
  rw [hg j hj]
  refine mB_congr fun a1 a2 => ?_
  unfold clX cm trpN
  rw [if_pos (by omega)]
  rcases (show (j - 25) % 5 = 0 ∨ (j - 25) % 5 = 1 ∨ (j - 25) % 5 = 2 ∨ (j - 25) % 5 = 3 ∨ (j - 25) % 5 = 4 by omega) with e | e | e | e | e <;> rw [e] <;> rfl
abbrev rmX7_in : Room := { frames := 0, cells := 0, slots := 0, locals := 0 }
set_option maxHeartbeats 4000000 in
set_option maxRecDepth 100000 in
theorem c_X7_in (l : Launch) (E : kE) (x : Int64) (y : Int64) (z3 : Int64)  : kC E l yX7_in wsX7_in rmX7_in [.long x, .long y, .long z3] (([] : va_W)) kI (fun (r : Int32) (_ : Unit) => r = if ¬ x < y ∧ ¬ z3 < x then 1 else 0) (fun _ => ([] : va_W)) 0 0 := by
  refine k_body (cc := cX7_in) (maxL := 6) (ret := (some .boolean)) (by decide) rfl (Nat.le_of_ble_eq_true rfl) ?_
  intro pp ee sx mm aa bb me cd H locs AA ls C0 hr hlk hnm hl hw
  obtain ⟨hx, hb, hml, hown, hts⟩ := id C0
  have hl : lv_has ls 6 [(0, .long x), (2, .long y), (4, .long z3)] := hl
  have hw : kW E AA sx (List.flatten []) H locs := hw
  refine lv_lload_n hx hb dX7_in_0 rfl (lv_at hl 0 rfl) ?_
  refine lv_lload_n hx hb dX7_in_1 rfl (lv_at hl 1 rfl) ?_
  refine W.lcmp hx hb dX7_in_2 ?_
  refine lv_if_lt (tgt := 17) hx hb dX7_in_3 (by decide) (fun c3 => ?_) (fun c3 => ?_)
  · refine lv_iconst (v := 0) hx hb dX7_in_17 (by decide) ?_
    -- leaf 0
    exact k_zret C0 hr hlk hw () (rfl) ((if_neg (fun h99 => h99.1 ((lg_cmp_lt _ _).mp c3))).symm) (rfl) (Nat.le_of_ble_eq_true rfl) (Nat.le_of_ble_eq_true rfl) dX7_in_18
  · refine lv_lload_n hx hb dX7_in_6 rfl (lv_at hl 0 rfl) ?_
    refine lv_lload hx hb dX7_in_7 (lv_at hl 2 rfl) ?_
    refine W.lcmp hx hb dX7_in_9 ?_
    refine lv_if_gt (tgt := 17) hx hb dX7_in_10 (by decide) (fun c10 => ?_) (fun c10 => ?_)
    · refine lv_iconst (v := 0) hx hb dX7_in_17 (by decide) ?_
      -- leaf 1
      exact k_zret C0 hr hlk hw () (rfl) ((if_neg (fun h99 => h99.2 ((lg_cmp_gt _ _).mp c10))).symm) (rfl) (Nat.le_of_ble_eq_true rfl) (Nat.le_of_ble_eq_true rfl) dX7_in_18
    · refine lv_iconst (v := 1) hx hb dX7_in_13 (by decide) ?_
      refine lv_goto (tgt := 18) hx hb dX7_in_14 (by decide) ?_
      -- leaf 2
      exact k_zret C0 hr hlk hw () (rfl) ((if_pos ⟨fun h99 => c3 ((lg_cmp_lt _ _).mpr h99), fun h99 => c10 ((lg_cmp_gt _ _).mpr h99)⟩).symm) (rfl) (Nat.le_of_ble_eq_true rfl) (Nat.le_of_ble_eq_true rfl) dX7_in_18

theorem c_X7_in_3_12 (l : Launch) (E : kE) (v : Int32)  : kC E l yX7_in wsX7_in rmX7_in [.long (Int32.toInt64 v), .long 3, .long 12] (([] : va_W)) kI (fun (r : Int32) (_ : Unit) => r = if ¬ v < 3 ∧ ¬ 12 < v then 1 else 0) (fun _ => ([] : va_W)) 0 0 := by
  have h := c_X7_in l E (Int32.toInt64 v) 3 (12)
  rw [show (3 : Int64) = Int32.toInt64 3 from rfl, show (12 : Int64) = Int32.toInt64 12 from rfl, kin64] at h
  exact h

theorem c_X7_in_3_16 (l : Launch) (E : kE) (v : Int32)  : kC E l yX7_in wsX7_in rmX7_in [.long (Int32.toInt64 v), .long 3, .long 16] (([] : va_W)) kI (fun (r : Int32) (_ : Unit) => r = if ¬ v < 3 ∧ ¬ 16 < v then 1 else 0) (fun _ => ([] : va_W)) 0 0 := by
  have h := c_X7_in l E (Int32.toInt64 v) 3 (16)
  rw [show (3 : Int64) = Int32.toInt64 3 from rfl, show (16 : Int64) = Int32.toInt64 16 from rfl, kin64] at h
  exact h

theorem c_X7_in_0_20 (l : Launch) (E : kE) (v : Int32)  : kC E l yX7_in wsX7_in rmX7_in [.long (Int32.toInt64 v), .long 0, .long 20] (([] : va_W)) kI (fun (r : Int32) (_ : Unit) => r = if ¬ v < 0 ∧ ¬ 20 < v then 1 else 0) (fun _ => ([] : va_W)) 0 0 := by
  have h := c_X7_in l E (Int32.toInt64 v) 0 (20)
  rw [show (0 : Int64) = Int32.toInt64 0 from rfl, show (20 : Int64) = Int32.toInt64 20 from rfl, kin64] at h
  exact h

theorem c_X7_in_0_99 (l : Launch) (E : kE) (v : Int32)  : kC E l yX7_in wsX7_in rmX7_in [.long (Int32.toInt64 v), .long 0, .long 99] (([] : va_W)) kI (fun (r : Int32) (_ : Unit) => r = if ¬ v < 0 ∧ ¬ 99 < v then 1 else 0) (fun _ => ([] : va_W)) 0 0 := by
  have h := c_X7_in l E (Int32.toInt64 v) 0 (99)
  rw [show (0 : Int64) = Int32.toInt64 0 from rfl, show (99 : Int64) = Int32.toInt64 99 from rfl, kin64] at h
  exact h

theorem c_X7_in_0_100 (l : Launch) (E : kE) (v : Int32)  : kC E l yX7_in wsX7_in rmX7_in [.long (Int32.toInt64 v), .long 0, .long 100] (([] : va_W)) kI (fun (r : Int32) (_ : Unit) => r = if ¬ v < 0 ∧ ¬ 100 < v then 1 else 0) (fun _ => ([] : va_W)) 0 0 := by
  have h := c_X7_in l E (Int32.toInt64 v) 0 (100)
  rw [show (0 : Int64) = Int32.toInt64 0 from rfl, show (100 : Int64) = Int32.toInt64 100 from rfl, kin64] at h
  exact h

theorem c_X7_in_1_50 (l : Launch) (E : kE) (v : Int32)  : kC E l yX7_in wsX7_in rmX7_in [.long (Int32.toInt64 v), .long 1, .long 50] (([] : va_W)) kI (fun (r : Int32) (_ : Unit) => r = if ¬ v < 1 ∧ ¬ 50 < v then 1 else 0) (fun _ => ([] : va_W)) 0 0 := by
  have h := c_X7_in l E (Int32.toInt64 v) 1 (50)
  rw [show (1 : Int64) = Int32.toInt64 1 from rfl, show (50 : Int64) = Int32.toInt64 50 from rfl, kin64] at h
  exact h

theorem c_X7_in_1_8 (l : Launch) (E : kE) (v : Int32)  : kC E l yX7_in wsX7_in rmX7_in [.long (Int32.toInt64 v), .long 1, .long 8] (([] : va_W)) kI (fun (r : Int32) (_ : Unit) => r = if ¬ v < 1 ∧ ¬ 8 < v then 1 else 0) (fun _ => ([] : va_W)) 0 0 := by
  have h := c_X7_in l E (Int32.toInt64 v) 1 (8)
  rw [show (1 : Int64) = Int32.toInt64 1 from rfl, show (8 : Int64) = Int32.toInt64 8 from rfl, kin64] at h
  exact h

theorem c_X7_in_1_5 (l : Launch) (E : kE) (v : Int32)  : kC E l yX7_in wsX7_in rmX7_in [.long (Int32.toInt64 v), .long 1, .long 5] (([] : va_W)) kI (fun (r : Int32) (_ : Unit) => r = if ¬ v < 1 ∧ ¬ 5 < v then 1 else 0) (fun _ => ([] : va_W)) 0 0 := by
  have h := c_X7_in l E (Int32.toInt64 v) 1 (5)
  rw [show (1 : Int64) = Int32.toInt64 1 from rfl, show (5 : Int64) = Int32.toInt64 5 from rfl, kin64] at h
  exact h

theorem c_X7_in_1_2 (l : Launch) (E : kE) (v : Int32)  : kC E l yX7_in wsX7_in rmX7_in [.long (Int32.toInt64 v), .long 1, .long 2] (([] : va_W)) kI (fun (r : Int32) (_ : Unit) => r = if ¬ v < 1 ∧ ¬ 2 < v then 1 else 0) (fun _ => ([] : va_W)) 0 0 := by
  have h := c_X7_in l E (Int32.toInt64 v) 1 (2)
  rw [show (1 : Int64) = Int32.toInt64 1 from rfl, show (2 : Int64) = Int32.toInt64 2 from rfl, kin64] at h
  exact h

theorem c_X7_in_0_3 (l : Launch) (E : kE) (v : Int32)  : kC E l yX7_in wsX7_in rmX7_in [.long (Int32.toInt64 v), .long 0, .long 3] (([] : va_W)) kI (fun (r : Int32) (_ : Unit) => r = if ¬ v < 0 ∧ ¬ 3 < v then 1 else 0) (fun _ => ([] : va_W)) 0 0 := by
  have h := c_X7_in l E (Int32.toInt64 v) 0 (3)
  rw [show (0 : Int64) = Int32.toInt64 0 from rfl, show (3 : Int64) = Int32.toInt64 3 from rfl, kin64] at h
  exact h

theorem c_X7_in_m1_999999 (l : Launch) (E : kE) (v : Int32)  : kC E l yX7_in wsX7_in rmX7_in [.long (Int32.toInt64 v), .long (-1), .long 999999] (([] : va_W)) kI (fun (r : Int32) (_ : Unit) => r = if ¬ v < (-1) ∧ ¬ 999999 < v then 1 else 0) (fun _ => ([] : va_W)) 0 0 := by
  have h := c_X7_in l E (Int32.toInt64 v) (-1) (999999)
  rw [show ((-1) : Int64) = Int32.toInt64 (-1) from rfl, show (999999 : Int64) = Int32.toInt64 999999 from rfl, kin64] at h
  exact h

theorem c_X7_in_0_2000 (l : Launch) (E : kE) (v : Int32)  : kC E l yX7_in wsX7_in rmX7_in [.long (Int32.toInt64 v), .long 0, .long 2000] (([] : va_W)) kI (fun (r : Int32) (_ : Unit) => r = if ¬ v < 0 ∧ ¬ 2000 < v then 1 else 0) (fun _ => ([] : va_W)) 0 0 := by
  have h := c_X7_in l E (Int32.toInt64 v) 0 (2000)
  rw [show (0 : Int64) = Int32.toInt64 0 from rfl, show (2000 : Int64) = Int32.toInt64 2000 from rfl, kin64] at h
  exact h

theorem c_X7_in_m2_2 (l : Launch) (E : kE) (v : Int32)  : kC E l yX7_in wsX7_in rmX7_in [.long (Int32.toInt64 v), .long (-2), .long 2] (([] : va_W)) kI (fun (r : Int32) (_ : Unit) => r = if ¬ v < (-2) ∧ ¬ 2 < v then 1 else 0) (fun _ => ([] : va_W)) 0 0 := by
  have h := c_X7_in l E (Int32.toInt64 v) (-2) (2)
  rw [show ((-2) : Int64) = Int32.toInt64 (-2) from rfl, show (2 : Int64) = Int32.toInt64 2 from rfl, kin64] at h
  exact h

theorem c_X7_in_0_8 (l : Launch) (E : kE) (v : Int32)  : kC E l yX7_in wsX7_in rmX7_in [.long (Int32.toInt64 v), .long 0, .long 8] (([] : va_W)) kI (fun (r : Int32) (_ : Unit) => r = if ¬ v < 0 ∧ ¬ 8 < v then 1 else 0) (fun _ => ([] : va_W)) 0 0 := by
  have h := c_X7_in l E (Int32.toInt64 v) 0 (8)
  rw [show (0 : Int64) = Int32.toInt64 0 from rfl, show (8 : Int64) = Int32.toInt64 8 from rfl, kin64] at h
  exact h

theorem c_X7_in_0_5 (l : Launch) (E : kE) (v : Int32)  : kC E l yX7_in wsX7_in rmX7_in [.long (Int32.toInt64 v), .long 0, .long 5] (([] : va_W)) kI (fun (r : Int32) (_ : Unit) => r = if ¬ v < 0 ∧ ¬ 5 < v then 1 else 0) (fun _ => ([] : va_W)) 0 0 := by
  have h := c_X7_in l E (Int32.toInt64 v) 0 (5)
  rw [show (0 : Int64) = Int32.toInt64 0 from rfl, show (5 : Int64) = Int32.toInt64 5 from rfl, kin64] at h
  exact h

theorem c_X7_in_0_11 (l : Launch) (E : kE) (v : Int32)  : kC E l yX7_in wsX7_in rmX7_in [.long (Int32.toInt64 v), .long 0, .long 11] (([] : va_W)) kI (fun (r : Int32) (_ : Unit) => r = if ¬ v < 0 ∧ ¬ 11 < v then 1 else 0) (fun _ => ([] : va_W)) 0 0 := by
  have h := c_X7_in l E (Int32.toInt64 v) 0 (11)
  rw [show (0 : Int64) = Int32.toInt64 0 from rfl, show (11 : Int64) = Int32.toInt64 11 from rfl, kin64] at h
  exact h

theorem c_X7_in_1_99 (l : Launch) (E : kE) (v : Int32)  : kC E l yX7_in wsX7_in rmX7_in [.long (Int32.toInt64 v), .long 1, .long 99] (([] : va_W)) kI (fun (r : Int32) (_ : Unit) => r = if ¬ v < 1 ∧ ¬ 99 < v then 1 else 0) (fun _ => ([] : va_W)) 0 0 := by
  have h := c_X7_in l E (Int32.toInt64 v) 1 (99)
  rw [show (1 : Int64) = Int32.toInt64 1 from rfl, show (99 : Int64) = Int32.toInt64 99 from rfl, kin64] at h
  exact h

theorem c_X7_in_0_1000 (l : Launch) (E : kE) (v : Int32)  : kC E l yX7_in wsX7_in rmX7_in [.long (Int32.toInt64 v), .long 0, .long 1000] (([] : va_W)) kI (fun (r : Int32) (_ : Unit) => r = if ¬ v < 0 ∧ ¬ 1000 < v then 1 else 0) (fun _ => ([] : va_W)) 0 0 := by
  have h := c_X7_in l E (Int32.toInt64 v) 0 (1000)
  rw [show (0 : Int64) = Int32.toInt64 0 from rfl, show (1000 : Int64) = Int32.toInt64 1000 from rfl, kin64] at h
  exact h

theorem c_X7_in_0_500 (l : Launch) (E : kE) (v : Int32)  : kC E l yX7_in wsX7_in rmX7_in [.long (Int32.toInt64 v), .long 0, .long 500] (([] : va_W)) kI (fun (r : Int32) (_ : Unit) => r = if ¬ v < 0 ∧ ¬ 500 < v then 1 else 0) (fun _ => ([] : va_W)) 0 0 := by
  have h := c_X7_in l E (Int32.toInt64 v) 0 (500)
  rw [show (0 : Int64) = Int32.toInt64 0 from rfl, show (500 : Int64) = Int32.toInt64 500 from rfl, kin64] at h
  exact h

theorem c_X7_in_0_127 (l : Launch) (E : kE) (v : Int32)  : kC E l yX7_in wsX7_in rmX7_in [.long (Int32.toInt64 v), .long 0, .long 127] (([] : va_W)) kI (fun (r : Int32) (_ : Unit) => r = if ¬ v < 0 ∧ ¬ 127 < v then 1 else 0) (fun _ => ([] : va_W)) 0 0 := by
  have h := c_X7_in l E (Int32.toInt64 v) 0 (127)
  rw [show (0 : Int64) = Int32.toInt64 0 from rfl, show (127 : Int64) = Int32.toInt64 127 from rfl, kin64] at h
  exact h

theorem c_X7_in_48_57 (l : Launch) (E : kE) (v : Int32)  : kC E l yX7_in wsX7_in rmX7_in [.long (Int32.toInt64 v), .long 48, .long 57] (([] : va_W)) kI (fun (r : Int32) (_ : Unit) => r = if ¬ v < 48 ∧ ¬ 57 < v then 1 else 0) (fun _ => ([] : va_W)) 0 0 := by
  have h := c_X7_in l E (Int32.toInt64 v) 48 (57)
  rw [show (48 : Int64) = Int32.toInt64 48 from rfl, show (57 : Int64) = Int32.toInt64 57 from rfl, kin64] at h
  exact h

theorem c_X7_in_0_hi9 (l : Launch) (E : kE) (v : Int32) (hi9 : Int32)  : kC E l yX7_in wsX7_in rmX7_in [.long (Int32.toInt64 v), .long 0, .long (Int32.toInt64 hi9)] (([] : va_W)) kI (fun (r : Int32) (_ : Unit) => r = if ¬ v < 0 ∧ ¬ hi9 < v then 1 else 0) (fun _ => ([] : va_W)) 0 0 := by
  have h := c_X7_in l E (Int32.toInt64 v) 0 (Int32.toInt64 hi9)
  rw [show (0 : Int64) = Int32.toInt64 0 from rfl, show (Int32.toInt64 hi9 : Int64) = Int32.toInt64 hi9 from rfl, kin64] at h
  exact h

abbrev rmX7_goes : Room := { frames := 0, cells := 0, slots := 0, locals := 0 }
set_option maxHeartbeats 4000000 in
set_option maxRecDepth 100000 in
theorem c_X7_goes_ok (l : Launch) (E : kE) (m0 : Nat) (A0 : Nat) (V0 : Nat) (Z0 : Nat) (D0 : Nat) (W0 : Nat) (T0 : Nat) (sm : Int32) (th : Int32) (pl : Int32) (hz : Int32) (tl : Int32) (tw : Int32) (tc : Int32) (p : Int32) (q : Int32) (hp : ¬ p = 0) (hq : ¬ q = 0) : kC E l yX7_goes wsX7_goes rmX7_goes [.ref m0, .int p, .int q] (oc m0 7 [.ref A0, .ref V0, .ref Z0, .int sm, .int th, .int pl, .int hz, .ref D0, .ref W0, .ref T0, .int tl, .int tw, .int tc]) kI (fun (r : Int32) (_ : Unit) => r = 1) (fun _ => oc m0 7 [.ref A0, .ref V0, .ref Z0, .int sm, .int 0, .int pl, .int hz, .ref D0, .ref W0, .ref T0, .int tl, .int tw, .int tc]) 0 0 := by
  refine k_body (cc := cX7_goes) (maxL := 3) (ret := (some .boolean)) (by decide) rfl (Nat.le_of_ble_eq_true rfl) ?_
  intro pp ee sx mm aa bb me cd H locs AA ls C0 hr hlk hnm hl hw
  obtain ⟨hx, hb, hml, hown, hts⟩ := id C0
  have hl : lv_has ls 3 [(0, .ref m0), (1, .int p), (2, .int q)] := hl
  have hw : kW E AA sx (List.flatten [oc m0 7 [.ref A0, .ref V0, .ref Z0, .int sm, .int th, .int pl, .int hz, .ref D0, .ref W0, .ref T0, .int tl, .int tw, .int tc]]) H locs := hw
  have hinX7 : ∀ w ∈ u_ws RX7 TX7 13, w ∈ wsX7_goes := by decide +kernel
  refine lv_aload_n hx hb dX7_goes_0 rfl (lv_at hl 0 rfl) ?_
  refine lv_iload_n hx hb dX7_goes_1 rfl (lv_at hl 1 rfl) ?_
  refine lv_if_ne (tgt := 9) hx hb dX7_goes_2 (by decide) (fun c2 => ?_) (fun c2 => False.elim (hp c2))
  refine lv_iload_n hx hb dX7_goes_9 rfl (lv_at hl 2 rfl) ?_
  refine lv_if_ne (tgt := 17) hx hb dX7_goes_10 (by decide) (fun c10 => ?_) (fun c10 => False.elim (hq c10))
  refine lv_iconst (v := 0) hx hb dX7_goes_17 (by decide) ?_
  refine k_put (pre := []) C0 hw hinX7 tyX7 tyX7_ok nmX7 rfl 4 (by decide) (hts (.fieldLink RX7 32 "SlabDunesModel" "thrown" "I") (by decide +kernel)) rfl rfl (ty := .int) (by decide +kernel) rfl rfl (Nat.le_of_ble_eq_true rfl) dX7_goes_18 (fun H locs hw => ?_)
  have hw : kW E AA sx (List.flatten [oc m0 7 [.ref A0, .ref V0, .ref Z0, .int sm, .int 0, .int pl, .int hz, .ref D0, .ref W0, .ref T0, .int tl, .int tw, .int tc]]) H locs := hw
  refine lv_aload_n hx hb dX7_goes_21 rfl (lv_at hl 0 rfl) ?_
  refine k_get (pre := []) C0 hw hinX7 rfl 4 (by decide) (hts (.fieldLink RX7 32 "SlabDunesModel" "thrown" "I") (by decide +kernel)) rfl rfl dX7_goes_22 ?_
  refine lv_if_ne (tgt := 32) hx hb dX7_goes_25 (by decide) (fun c25 => absurd c25 (by decide)) (fun c25 => ?_)
  refine lv_iconst (v := 1) hx hb dX7_goes_28 (by decide) ?_
  refine lv_goto (tgt := 33) hx hb dX7_goes_29 (by decide) ?_
  -- leaf 0
  exact k_zret C0 hr hlk hw () (rfl) (rfl) (rfl) (Nat.le_of_ble_eq_true rfl) (Nat.le_of_ble_eq_true rfl) dX7_goes_33

set_option maxHeartbeats 4000000 in
set_option maxRecDepth 100000 in
theorem c_X7_goes_1 (l : Launch) (E : kE) (m0 : Nat) (A0 : Nat) (V0 : Nat) (Z0 : Nat) (D0 : Nat) (W0 : Nat) (T0 : Nat) (sm : Int32) (th : Int32) (pl : Int32) (hz : Int32) (tl : Int32) (tw : Int32) (tc : Int32) (p : Int32) (q : Int32) (hp : p = 0) : kC E l yX7_goes wsX7_goes rmX7_goes [.ref m0, .int p, .int q] (oc m0 7 [.ref A0, .ref V0, .ref Z0, .int sm, .int th, .int pl, .int hz, .ref D0, .ref W0, .ref T0, .int tl, .int tw, .int tc]) kI (fun (r : Int32) (_ : Unit) => r = 0) (fun _ => oc m0 7 [.ref A0, .ref V0, .ref Z0, .int sm, .int 1, .int pl, .int hz, .ref D0, .ref W0, .ref T0, .int tl, .int tw, .int tc]) 0 0 := by
  refine k_body (cc := cX7_goes) (maxL := 3) (ret := (some .boolean)) (by decide) rfl (Nat.le_of_ble_eq_true rfl) ?_
  intro pp ee sx mm aa bb me cd H locs AA ls C0 hr hlk hnm hl hw
  obtain ⟨hx, hb, hml, hown, hts⟩ := id C0
  have hl : lv_has ls 3 [(0, .ref m0), (1, .int p), (2, .int q)] := hl
  have hw : kW E AA sx (List.flatten [oc m0 7 [.ref A0, .ref V0, .ref Z0, .int sm, .int th, .int pl, .int hz, .ref D0, .ref W0, .ref T0, .int tl, .int tw, .int tc]]) H locs := hw
  have hinX7 : ∀ w ∈ u_ws RX7 TX7 13, w ∈ wsX7_goes := by decide +kernel
  refine lv_aload_n hx hb dX7_goes_0 rfl (lv_at hl 0 rfl) ?_
  refine lv_iload_n hx hb dX7_goes_1 rfl (lv_at hl 1 rfl) ?_
  refine lv_if_ne (tgt := 9) hx hb dX7_goes_2 (by decide) (fun c2 => absurd c2 (fun h99 => h99 hp)) (fun c2 => ?_)
  refine lv_iconst (v := 1) hx hb dX7_goes_5 (by decide) ?_
  refine lv_goto (tgt := 18) hx hb dX7_goes_6 (by decide) ?_
  refine k_put (pre := []) C0 hw hinX7 tyX7 tyX7_ok nmX7 rfl 4 (by decide) (hts (.fieldLink RX7 32 "SlabDunesModel" "thrown" "I") (by decide +kernel)) rfl rfl (ty := .int) (by decide +kernel) rfl rfl (Nat.le_of_ble_eq_true rfl) dX7_goes_18 (fun H locs hw => ?_)
  have hw : kW E AA sx (List.flatten [oc m0 7 [.ref A0, .ref V0, .ref Z0, .int sm, .int 1, .int pl, .int hz, .ref D0, .ref W0, .ref T0, .int tl, .int tw, .int tc]]) H locs := hw
  refine lv_aload_n hx hb dX7_goes_21 rfl (lv_at hl 0 rfl) ?_
  refine k_get (pre := []) C0 hw hinX7 rfl 4 (by decide) (hts (.fieldLink RX7 32 "SlabDunesModel" "thrown" "I") (by decide +kernel)) rfl rfl dX7_goes_22 ?_
  refine lv_if_ne (tgt := 32) hx hb dX7_goes_25 (by decide) (fun c25 => ?_) (fun c25 => absurd c25 (by decide))
  refine lv_iconst (v := 0) hx hb dX7_goes_32 (by decide) ?_
  -- leaf 0
  exact k_zret C0 hr hlk hw () (rfl) (rfl) (rfl) (Nat.le_of_ble_eq_true rfl) (Nat.le_of_ble_eq_true rfl) dX7_goes_33

set_option maxHeartbeats 4000000 in
set_option maxRecDepth 100000 in
theorem c_X7_goes_2 (l : Launch) (E : kE) (m0 : Nat) (A0 : Nat) (V0 : Nat) (Z0 : Nat) (D0 : Nat) (W0 : Nat) (T0 : Nat) (sm : Int32) (th : Int32) (pl : Int32) (hz : Int32) (tl : Int32) (tw : Int32) (tc : Int32) (p : Int32) (q : Int32) (hp : ¬ p = 0) (hq : q = 0) : kC E l yX7_goes wsX7_goes rmX7_goes [.ref m0, .int p, .int q] (oc m0 7 [.ref A0, .ref V0, .ref Z0, .int sm, .int th, .int pl, .int hz, .ref D0, .ref W0, .ref T0, .int tl, .int tw, .int tc]) kI (fun (r : Int32) (_ : Unit) => r = 0) (fun _ => oc m0 7 [.ref A0, .ref V0, .ref Z0, .int sm, .int 2, .int pl, .int hz, .ref D0, .ref W0, .ref T0, .int tl, .int tw, .int tc]) 0 0 := by
  refine k_body (cc := cX7_goes) (maxL := 3) (ret := (some .boolean)) (by decide) rfl (Nat.le_of_ble_eq_true rfl) ?_
  intro pp ee sx mm aa bb me cd H locs AA ls C0 hr hlk hnm hl hw
  obtain ⟨hx, hb, hml, hown, hts⟩ := id C0
  have hl : lv_has ls 3 [(0, .ref m0), (1, .int p), (2, .int q)] := hl
  have hw : kW E AA sx (List.flatten [oc m0 7 [.ref A0, .ref V0, .ref Z0, .int sm, .int th, .int pl, .int hz, .ref D0, .ref W0, .ref T0, .int tl, .int tw, .int tc]]) H locs := hw
  have hinX7 : ∀ w ∈ u_ws RX7 TX7 13, w ∈ wsX7_goes := by decide +kernel
  refine lv_aload_n hx hb dX7_goes_0 rfl (lv_at hl 0 rfl) ?_
  refine lv_iload_n hx hb dX7_goes_1 rfl (lv_at hl 1 rfl) ?_
  refine lv_if_ne (tgt := 9) hx hb dX7_goes_2 (by decide) (fun c2 => ?_) (fun c2 => False.elim (hp c2))
  refine lv_iload_n hx hb dX7_goes_9 rfl (lv_at hl 2 rfl) ?_
  refine lv_if_ne (tgt := 17) hx hb dX7_goes_10 (by decide) (fun c10 => absurd c10 (fun h99 => h99 hq)) (fun c10 => ?_)
  refine lv_iconst (v := 2) hx hb dX7_goes_13 (by decide) ?_
  refine lv_goto (tgt := 18) hx hb dX7_goes_14 (by decide) ?_
  refine k_put (pre := []) C0 hw hinX7 tyX7 tyX7_ok nmX7 rfl 4 (by decide) (hts (.fieldLink RX7 32 "SlabDunesModel" "thrown" "I") (by decide +kernel)) rfl rfl (ty := .int) (by decide +kernel) rfl rfl (Nat.le_of_ble_eq_true rfl) dX7_goes_18 (fun H locs hw => ?_)
  have hw : kW E AA sx (List.flatten [oc m0 7 [.ref A0, .ref V0, .ref Z0, .int sm, .int 2, .int pl, .int hz, .ref D0, .ref W0, .ref T0, .int tl, .int tw, .int tc]]) H locs := hw
  refine lv_aload_n hx hb dX7_goes_21 rfl (lv_at hl 0 rfl) ?_
  refine k_get (pre := []) C0 hw hinX7 rfl 4 (by decide) (hts (.fieldLink RX7 32 "SlabDunesModel" "thrown" "I") (by decide +kernel)) rfl rfl dX7_goes_22 ?_
  refine lv_if_ne (tgt := 32) hx hb dX7_goes_25 (by decide) (fun c25 => ?_) (fun c25 => absurd c25 (by decide))
  refine lv_iconst (v := 0) hx hb dX7_goes_32 (by decide) ?_
  -- leaf 0
  exact k_zret C0 hr hlk hw () (rfl) (rfl) (rfl) (Nat.le_of_ble_eq_true rfl) (Nat.le_of_ble_eq_true rfl) dX7_goes_33

abbrev rmX7_thrown : Room := { frames := 0, cells := 0, slots := 0, locals := 0 }
set_option maxHeartbeats 4000000 in
set_option maxRecDepth 100000 in
theorem c_X7_thrown (l : Launch) (E : kE) (m0 : Nat) (A0 : Nat) (V0 : Nat) (Z0 : Nat) (D0 : Nat) (W0 : Nat) (T0 : Nat) (sm : Int32) (th : Int32) (pl : Int32) (hz : Int32) (tl : Int32) (tw : Int32) (tc : Int32)  : kC E l yX7_thrown wsX7_thrown rmX7_thrown [.ref m0] (oc m0 7 [.ref A0, .ref V0, .ref Z0, .int sm, .int th, .int pl, .int hz, .ref D0, .ref W0, .ref T0, .int tl, .int tw, .int tc]) kI (fun (r : Int32) (_ : Unit) => r = th) (fun _ => oc m0 7 [.ref A0, .ref V0, .ref Z0, .int sm, .int th, .int pl, .int hz, .ref D0, .ref W0, .ref T0, .int tl, .int tw, .int tc]) 0 0 := by
  refine k_body (cc := cX7_thrown) (maxL := 1) (ret := (some .int)) (by decide) rfl (Nat.le_of_ble_eq_true rfl) ?_
  intro pp ee sx mm aa bb me cd H locs AA ls C0 hr hlk hnm hl hw
  obtain ⟨hx, hb, hml, hown, hts⟩ := id C0
  have hl : lv_has ls 1 [(0, .ref m0)] := hl
  have hw : kW E AA sx (List.flatten [oc m0 7 [.ref A0, .ref V0, .ref Z0, .int sm, .int th, .int pl, .int hz, .ref D0, .ref W0, .ref T0, .int tl, .int tw, .int tc]]) H locs := hw
  have hinX7 : ∀ w ∈ u_ws RX7 TX7 13, w ∈ wsX7_thrown := by decide +kernel
  refine lv_aload_n hx hb dX7_thrown_0 rfl (lv_at hl 0 rfl) ?_
  refine k_get (pre := []) C0 hw hinX7 rfl 4 (by decide) (hts (.fieldLink RX7 32 "SlabDunesModel" "thrown" "I") (by decide +kernel)) rfl rfl dX7_thrown_1 ?_
  -- leaf 0
  exact k_iret C0 hr hlk hw () (rfl) (rfl) (Nat.le_of_ble_eq_true rfl) (Nat.le_of_ble_eq_true rfl) dX7_thrown_4

abbrev rmX7_at : Room := { frames := 0, cells := 0, slots := 0, locals := 0 }
set_option maxHeartbeats 4000000 in
set_option maxRecDepth 100000 in
theorem c_X7_at (l : Launch) (E : kE) (k : Nat) (j : Nat)  : kC E l yX7_at wsX7_at rmX7_at [.int (nI k), .int (nI j)] (([] : va_W)) kI (fun (r : Int32) (_ : Unit) => r = nI (25 + 5 * k + j)) (fun _ => ([] : va_W)) 0 0 := by
  refine k_body (cc := cX7_at) (maxL := 2) (ret := (some .int)) (by decide) rfl (Nat.le_of_ble_eq_true rfl) ?_
  intro pp ee sx mm aa bb me cd H locs AA ls C0 hr hlk hnm hl hw
  obtain ⟨hx, hb, hml, hown, hts⟩ := id C0
  have hl : lv_has ls 2 [(0, .int (nI k)), (1, .int (nI j))] := hl
  have hw : kW E AA sx (List.flatten []) H locs := hw
  refine lv_bipush (v := 25) hx hb dX7_at_0 (by decide) ?_
  refine lv_iconst (v := 5) hx hb dX7_at_2 (by decide) ?_
  refine lv_iload_n hx hb dX7_at_3 rfl (lv_at hl 0 rfl) ?_
  refine lv_imul hx hb dX7_at_4 ?_
  refine W.eq (g2 := F0 mm 5 ls [.int (nI (5 * k)), .int 25]) (congrArg (fun z9 => F0 mm 5 ls [.int z9, .int 25]) (show (5 * (nI k) : Int32) = nI (5 * k) from pk_mul 5 k)) ?_
  refine lv_iadd hx hb dX7_at_5 ?_
  refine W.eq (g2 := F0 mm 6 ls [.int (nI (25 + 5 * k))]) (congrArg (fun z9 => F0 mm 6 ls [.int z9]) (show (25 + (nI (5 * k)) : Int32) = nI (25 + 5 * k) from nI_add 25 _)) ?_
  refine lv_iload_n hx hb dX7_at_6 rfl (lv_at hl 1 rfl) ?_
  refine lv_iadd hx hb dX7_at_7 ?_
  refine W.eq (g2 := F0 mm 8 ls [.int (nI (25 + 5 * k + j))]) (congrArg (fun z9 => F0 mm 8 ls [.int z9]) (show ((nI (25 + 5 * k)) + (nI j) : Int32) = nI (25 + 5 * k + j) from nI_add _ _)) ?_
  -- leaf 0
  exact k_iret C0 hr hlk hw () (rfl) (rfl) (Nat.le_of_ble_eq_true rfl) (Nat.le_of_ble_eq_true rfl) dX7_at_8

abbrev rmX7_of : Room := { frames := 1, cells := 0, slots := 0, locals := 21 }
set_option maxHeartbeats 4000000 in
set_option maxRecDepth 100000 in
theorem c_X7_of0 (l : Launch) (E : kE) (m0 : Nat) (A0 : Nat) (V0 : Nat) (Z0 : Nat) (D0 : Nat) (W0 : Nat) (T0 : Nat) (sm : Int32) (th : Int32) (pl : Int32) (hz : Int32) (tl : Int32) (tw : Int32) (tc : Int32) (h : Nat) (w : Nat) (wd : Int32) (s0 : Int32) (z : Int32) (st : Nat → Int32) (he : Nat → Int32) (ke : Nat → Int32) (tu : Nat → Int32) (ca : Nat → Int32) (tr : Nat → Int32) (co : Nat → Int32) (la : Nat → Int32) (k : Nat) (hG : kG h w) (hc : k < h * w) : kC E l yX7_of wsX7_of rmX7_of [.ref m0, .int (nI k), .int 0] (List.flatten [oc m0 7 [.ref A0, .ref V0, .ref Z0, .int sm, .int th, .int pl, .int hz, .ref D0, .ref W0, .ref T0, .int tl, .int tw, .int tc], ac E A0 985 (mA h w wd s0 z st he ke tu ca tr co la)]) kI (fun (r : Int32) (_ : Unit) => r = he k) (fun _ => List.flatten [oc m0 7 [.ref A0, .ref V0, .ref Z0, .int sm, .int th, .int pl, .int hz, .ref D0, .ref W0, .ref T0, .int tl, .int tw, .int tc], ac E A0 985 (mA h w wd s0 z st he ke tu ca tr co la)]) 0 0 := by
  refine k_body (cc := cX7_of) (maxL := 3) (ret := (some .int)) (by decide) rfl (Nat.le_of_ble_eq_true rfl) ?_
  intro pp ee sx mm aa bb me cd H locs AA ls C0 hr hlk hnm hl hw
  obtain ⟨hx, hb, hml, hown, hts⟩ := id C0
  have hl : lv_has ls 3 [(0, .ref m0), (1, .int (nI k)), (2, .int 0)] := hl
  have hw : kW E AA sx (List.flatten [oc m0 7 [.ref A0, .ref V0, .ref Z0, .int sm, .int th, .int pl, .int hz, .ref D0, .ref W0, .ref T0, .int tl, .int tw, .int tc], ac E A0 985 (mA h w wd s0 z st he ke tu ca tr co la)]) H locs := hw
  have hn9 := kG_n hG
  have hG9 := id hG
  obtain ⟨hG1, hG2, hG3, hG4⟩ := hG9
  have hinX7 : ∀ w ∈ u_ws RX7 TX7 13, w ∈ wsX7_of := by decide +kernel
  refine lv_aload_n hx hb dX7_of_0 rfl (lv_at hl 0 rfl) ?_
  refine k_get (pre := []) C0 hw hinX7 rfl 0 (by decide) (hts (.fieldLink RX7 7 "SlabDunesModel" "all" "[I") (by decide +kernel)) rfl rfl dX7_of_1 ?_
  refine lv_iload_n hx hb dX7_of_4 rfl (lv_at hl 1 rfl) ?_
  refine lv_iload_n hx hb dX7_of_5 rfl (lv_at hl 2 rfl) ?_
  refine k_S (As := [.int (nI k), .int 0]) (rest := [.ref A0]) (pre := []) (mid := []) C0 (c_X7_at l E k 0 ) (va_cwS 2 hts gX7_of_X7_at rfl rfl rfl (by decide +kernel) ⟨Nat.le_of_ble_eq_true rfl, Nat.le_of_ble_eq_true rfl⟩) hw rfl (fun _ => []) (fun _ => rfl) rfl hl.1 rfl (Nat.le_of_ble_eq_true rfl) dX7_of_6 ⟨Nat.le_of_ble_eq_true rfl, Nat.le_of_ble_eq_true rfl⟩ (fun r u H locs hq99 hw => ?_)
  subst hq99
  have hw : kW E AA sx (List.flatten [oc m0 7 [.ref A0, .ref V0, .ref Z0, .int sm, .int th, .int pl, .int hz, .ref D0, .ref W0, .ref T0, .int tl, .int tw, .int tc], ac E A0 985 (mA h w wd s0 z st he ke tu ca tr co la)]) H locs := hw
  refine W.eq (g2 := F0 mm 9 ls [.int (nI (25 + 5 * k + 0)), .ref A0]) rfl ?_
  refine k_iald (pre := [oc m0 7 [.ref A0, .ref V0, .ref Z0, .int sm, .int th, .int pl, .int hz, .ref D0, .ref W0, .ref T0, .int tl, .int tw, .int tc]]) (l1 := []) C0 hw (i := nI (25 + 5 * k + 0)) (kinN (by omega) (by decide)) dX7_of_9 ?_
  refine W.eq (g2 := F0 mm 10 ls [.int (he k)]) (congrArg (fun z9 => F0 mm 10 ls [.int z9]) (show ((mA h w wd s0 z st he ke tu ca tr co la) (Int32.toNatClampNeg (nI (25 + 5 * k + 0))) : Int32) = he k from mA_ld (i := 0) hc hn9.1 (by decide))) ?_
  -- leaf 0
  exact k_iret C0 hr hlk hw () (rfl) (rfl) (Nat.le_of_ble_eq_true rfl) (Nat.le_of_ble_eq_true rfl) dX7_of_10

set_option maxHeartbeats 4000000 in
set_option maxRecDepth 100000 in
theorem c_X7_of1 (l : Launch) (E : kE) (m0 : Nat) (A0 : Nat) (V0 : Nat) (Z0 : Nat) (D0 : Nat) (W0 : Nat) (T0 : Nat) (sm : Int32) (th : Int32) (pl : Int32) (hz : Int32) (tl : Int32) (tw : Int32) (tc : Int32) (h : Nat) (w : Nat) (wd : Int32) (s0 : Int32) (z : Int32) (st : Nat → Int32) (he : Nat → Int32) (ke : Nat → Int32) (tu : Nat → Int32) (ca : Nat → Int32) (tr : Nat → Int32) (co : Nat → Int32) (la : Nat → Int32) (k : Nat) (hG : kG h w) (hc : k < h * w) : kC E l yX7_of wsX7_of rmX7_of [.ref m0, .int (nI k), .int 1] (List.flatten [oc m0 7 [.ref A0, .ref V0, .ref Z0, .int sm, .int th, .int pl, .int hz, .ref D0, .ref W0, .ref T0, .int tl, .int tw, .int tc], ac E A0 985 (mA h w wd s0 z st he ke tu ca tr co la)]) kI (fun (r : Int32) (_ : Unit) => r = tu k) (fun _ => List.flatten [oc m0 7 [.ref A0, .ref V0, .ref Z0, .int sm, .int th, .int pl, .int hz, .ref D0, .ref W0, .ref T0, .int tl, .int tw, .int tc], ac E A0 985 (mA h w wd s0 z st he ke tu ca tr co la)]) 0 0 := by
  refine k_body (cc := cX7_of) (maxL := 3) (ret := (some .int)) (by decide) rfl (Nat.le_of_ble_eq_true rfl) ?_
  intro pp ee sx mm aa bb me cd H locs AA ls C0 hr hlk hnm hl hw
  obtain ⟨hx, hb, hml, hown, hts⟩ := id C0
  have hl : lv_has ls 3 [(0, .ref m0), (1, .int (nI k)), (2, .int 1)] := hl
  have hw : kW E AA sx (List.flatten [oc m0 7 [.ref A0, .ref V0, .ref Z0, .int sm, .int th, .int pl, .int hz, .ref D0, .ref W0, .ref T0, .int tl, .int tw, .int tc], ac E A0 985 (mA h w wd s0 z st he ke tu ca tr co la)]) H locs := hw
  have hn9 := kG_n hG
  have hG9 := id hG
  obtain ⟨hG1, hG2, hG3, hG4⟩ := hG9
  have hinX7 : ∀ w ∈ u_ws RX7 TX7 13, w ∈ wsX7_of := by decide +kernel
  refine lv_aload_n hx hb dX7_of_0 rfl (lv_at hl 0 rfl) ?_
  refine k_get (pre := []) C0 hw hinX7 rfl 0 (by decide) (hts (.fieldLink RX7 7 "SlabDunesModel" "all" "[I") (by decide +kernel)) rfl rfl dX7_of_1 ?_
  refine lv_iload_n hx hb dX7_of_4 rfl (lv_at hl 1 rfl) ?_
  refine lv_iload_n hx hb dX7_of_5 rfl (lv_at hl 2 rfl) ?_
  refine k_S (As := [.int (nI k), .int 1]) (rest := [.ref A0]) (pre := []) (mid := []) C0 (c_X7_at l E k 1 ) (va_cwS 2 hts gX7_of_X7_at rfl rfl rfl (by decide +kernel) ⟨Nat.le_of_ble_eq_true rfl, Nat.le_of_ble_eq_true rfl⟩) hw rfl (fun _ => []) (fun _ => rfl) rfl hl.1 rfl (Nat.le_of_ble_eq_true rfl) dX7_of_6 ⟨Nat.le_of_ble_eq_true rfl, Nat.le_of_ble_eq_true rfl⟩ (fun r u H locs hq99 hw => ?_)
  subst hq99
  have hw : kW E AA sx (List.flatten [oc m0 7 [.ref A0, .ref V0, .ref Z0, .int sm, .int th, .int pl, .int hz, .ref D0, .ref W0, .ref T0, .int tl, .int tw, .int tc], ac E A0 985 (mA h w wd s0 z st he ke tu ca tr co la)]) H locs := hw
  refine W.eq (g2 := F0 mm 9 ls [.int (nI (25 + 5 * k + 1)), .ref A0]) rfl ?_
  refine k_iald (pre := [oc m0 7 [.ref A0, .ref V0, .ref Z0, .int sm, .int th, .int pl, .int hz, .ref D0, .ref W0, .ref T0, .int tl, .int tw, .int tc]]) (l1 := []) C0 hw (i := nI (25 + 5 * k + 1)) (kinN (by omega) (by decide)) dX7_of_9 ?_
  refine W.eq (g2 := F0 mm 10 ls [.int (tu k)]) (congrArg (fun z9 => F0 mm 10 ls [.int z9]) (show ((mA h w wd s0 z st he ke tu ca tr co la) (Int32.toNatClampNeg (nI (25 + 5 * k + 1))) : Int32) = tu k from mA_ld (i := 1) hc hn9.1 (by decide))) ?_
  -- leaf 0
  exact k_iret C0 hr hlk hw () (rfl) (rfl) (Nat.le_of_ble_eq_true rfl) (Nat.le_of_ble_eq_true rfl) dX7_of_10

set_option maxHeartbeats 4000000 in
set_option maxRecDepth 100000 in
theorem c_X7_of2 (l : Launch) (E : kE) (m0 : Nat) (A0 : Nat) (V0 : Nat) (Z0 : Nat) (D0 : Nat) (W0 : Nat) (T0 : Nat) (sm : Int32) (th : Int32) (pl : Int32) (hz : Int32) (tl : Int32) (tw : Int32) (tc : Int32) (h : Nat) (w : Nat) (wd : Int32) (s0 : Int32) (z : Int32) (st : Nat → Int32) (he : Nat → Int32) (ke : Nat → Int32) (tu : Nat → Int32) (ca : Nat → Int32) (tr : Nat → Int32) (co : Nat → Int32) (la : Nat → Int32) (k : Nat) (hG : kG h w) (hc : k < h * w) : kC E l yX7_of wsX7_of rmX7_of [.ref m0, .int (nI k), .int 2] (List.flatten [oc m0 7 [.ref A0, .ref V0, .ref Z0, .int sm, .int th, .int pl, .int hz, .ref D0, .ref W0, .ref T0, .int tl, .int tw, .int tc], ac E A0 985 (mA h w wd s0 z st he ke tu ca tr co la)]) kI (fun (r : Int32) (_ : Unit) => r = ca k) (fun _ => List.flatten [oc m0 7 [.ref A0, .ref V0, .ref Z0, .int sm, .int th, .int pl, .int hz, .ref D0, .ref W0, .ref T0, .int tl, .int tw, .int tc], ac E A0 985 (mA h w wd s0 z st he ke tu ca tr co la)]) 0 0 := by
  refine k_body (cc := cX7_of) (maxL := 3) (ret := (some .int)) (by decide) rfl (Nat.le_of_ble_eq_true rfl) ?_
  intro pp ee sx mm aa bb me cd H locs AA ls C0 hr hlk hnm hl hw
  obtain ⟨hx, hb, hml, hown, hts⟩ := id C0
  have hl : lv_has ls 3 [(0, .ref m0), (1, .int (nI k)), (2, .int 2)] := hl
  have hw : kW E AA sx (List.flatten [oc m0 7 [.ref A0, .ref V0, .ref Z0, .int sm, .int th, .int pl, .int hz, .ref D0, .ref W0, .ref T0, .int tl, .int tw, .int tc], ac E A0 985 (mA h w wd s0 z st he ke tu ca tr co la)]) H locs := hw
  have hn9 := kG_n hG
  have hG9 := id hG
  obtain ⟨hG1, hG2, hG3, hG4⟩ := hG9
  have hinX7 : ∀ w ∈ u_ws RX7 TX7 13, w ∈ wsX7_of := by decide +kernel
  refine lv_aload_n hx hb dX7_of_0 rfl (lv_at hl 0 rfl) ?_
  refine k_get (pre := []) C0 hw hinX7 rfl 0 (by decide) (hts (.fieldLink RX7 7 "SlabDunesModel" "all" "[I") (by decide +kernel)) rfl rfl dX7_of_1 ?_
  refine lv_iload_n hx hb dX7_of_4 rfl (lv_at hl 1 rfl) ?_
  refine lv_iload_n hx hb dX7_of_5 rfl (lv_at hl 2 rfl) ?_
  refine k_S (As := [.int (nI k), .int 2]) (rest := [.ref A0]) (pre := []) (mid := []) C0 (c_X7_at l E k 2 ) (va_cwS 2 hts gX7_of_X7_at rfl rfl rfl (by decide +kernel) ⟨Nat.le_of_ble_eq_true rfl, Nat.le_of_ble_eq_true rfl⟩) hw rfl (fun _ => []) (fun _ => rfl) rfl hl.1 rfl (Nat.le_of_ble_eq_true rfl) dX7_of_6 ⟨Nat.le_of_ble_eq_true rfl, Nat.le_of_ble_eq_true rfl⟩ (fun r u H locs hq99 hw => ?_)
  subst hq99
  have hw : kW E AA sx (List.flatten [oc m0 7 [.ref A0, .ref V0, .ref Z0, .int sm, .int th, .int pl, .int hz, .ref D0, .ref W0, .ref T0, .int tl, .int tw, .int tc], ac E A0 985 (mA h w wd s0 z st he ke tu ca tr co la)]) H locs := hw
  refine W.eq (g2 := F0 mm 9 ls [.int (nI (25 + 5 * k + 2)), .ref A0]) rfl ?_
  refine k_iald (pre := [oc m0 7 [.ref A0, .ref V0, .ref Z0, .int sm, .int th, .int pl, .int hz, .ref D0, .ref W0, .ref T0, .int tl, .int tw, .int tc]]) (l1 := []) C0 hw (i := nI (25 + 5 * k + 2)) (kinN (by omega) (by decide)) dX7_of_9 ?_
  refine W.eq (g2 := F0 mm 10 ls [.int (ca k)]) (congrArg (fun z9 => F0 mm 10 ls [.int z9]) (show ((mA h w wd s0 z st he ke tu ca tr co la) (Int32.toNatClampNeg (nI (25 + 5 * k + 2))) : Int32) = ca k from mA_ld (i := 2) hc hn9.1 (by decide))) ?_
  -- leaf 0
  exact k_iret C0 hr hlk hw () (rfl) (rfl) (Nat.le_of_ble_eq_true rfl) (Nat.le_of_ble_eq_true rfl) dX7_of_10

set_option maxHeartbeats 4000000 in
set_option maxRecDepth 100000 in
theorem c_X7_of3 (l : Launch) (E : kE) (m0 : Nat) (A0 : Nat) (V0 : Nat) (Z0 : Nat) (D0 : Nat) (W0 : Nat) (T0 : Nat) (sm : Int32) (th : Int32) (pl : Int32) (hz : Int32) (tl : Int32) (tw : Int32) (tc : Int32) (h : Nat) (w : Nat) (wd : Int32) (s0 : Int32) (z : Int32) (st : Nat → Int32) (he : Nat → Int32) (ke : Nat → Int32) (tu : Nat → Int32) (ca : Nat → Int32) (tr : Nat → Int32) (co : Nat → Int32) (la : Nat → Int32) (k : Nat) (hG : kG h w) (hc : k < h * w) : kC E l yX7_of wsX7_of rmX7_of [.ref m0, .int (nI k), .int 3] (List.flatten [oc m0 7 [.ref A0, .ref V0, .ref Z0, .int sm, .int th, .int pl, .int hz, .ref D0, .ref W0, .ref T0, .int tl, .int tw, .int tc], ac E A0 985 (mA h w wd s0 z st he ke tu ca tr co la)]) kI (fun (r : Int32) (_ : Unit) => r = trpN ca tr k) (fun _ => List.flatten [oc m0 7 [.ref A0, .ref V0, .ref Z0, .int sm, .int th, .int pl, .int hz, .ref D0, .ref W0, .ref T0, .int tl, .int tw, .int tc], ac E A0 985 (mA h w wd s0 z st he ke tu ca tr co la)]) 0 0 := by
  refine k_body (cc := cX7_of) (maxL := 3) (ret := (some .int)) (by decide) rfl (Nat.le_of_ble_eq_true rfl) ?_
  intro pp ee sx mm aa bb me cd H locs AA ls C0 hr hlk hnm hl hw
  obtain ⟨hx, hb, hml, hown, hts⟩ := id C0
  have hl : lv_has ls 3 [(0, .ref m0), (1, .int (nI k)), (2, .int 3)] := hl
  have hw : kW E AA sx (List.flatten [oc m0 7 [.ref A0, .ref V0, .ref Z0, .int sm, .int th, .int pl, .int hz, .ref D0, .ref W0, .ref T0, .int tl, .int tw, .int tc], ac E A0 985 (mA h w wd s0 z st he ke tu ca tr co la)]) H locs := hw
  have hn9 := kG_n hG
  have hG9 := id hG
  obtain ⟨hG1, hG2, hG3, hG4⟩ := hG9
  have hinX7 : ∀ w ∈ u_ws RX7 TX7 13, w ∈ wsX7_of := by decide +kernel
  refine lv_aload_n hx hb dX7_of_0 rfl (lv_at hl 0 rfl) ?_
  refine k_get (pre := []) C0 hw hinX7 rfl 0 (by decide) (hts (.fieldLink RX7 7 "SlabDunesModel" "all" "[I") (by decide +kernel)) rfl rfl dX7_of_1 ?_
  refine lv_iload_n hx hb dX7_of_4 rfl (lv_at hl 1 rfl) ?_
  refine lv_iload_n hx hb dX7_of_5 rfl (lv_at hl 2 rfl) ?_
  refine k_S (As := [.int (nI k), .int 3]) (rest := [.ref A0]) (pre := []) (mid := []) C0 (c_X7_at l E k 3 ) (va_cwS 2 hts gX7_of_X7_at rfl rfl rfl (by decide +kernel) ⟨Nat.le_of_ble_eq_true rfl, Nat.le_of_ble_eq_true rfl⟩) hw rfl (fun _ => []) (fun _ => rfl) rfl hl.1 rfl (Nat.le_of_ble_eq_true rfl) dX7_of_6 ⟨Nat.le_of_ble_eq_true rfl, Nat.le_of_ble_eq_true rfl⟩ (fun r u H locs hq99 hw => ?_)
  subst hq99
  have hw : kW E AA sx (List.flatten [oc m0 7 [.ref A0, .ref V0, .ref Z0, .int sm, .int th, .int pl, .int hz, .ref D0, .ref W0, .ref T0, .int tl, .int tw, .int tc], ac E A0 985 (mA h w wd s0 z st he ke tu ca tr co la)]) H locs := hw
  refine W.eq (g2 := F0 mm 9 ls [.int (nI (25 + 5 * k + 3)), .ref A0]) rfl ?_
  refine k_iald (pre := [oc m0 7 [.ref A0, .ref V0, .ref Z0, .int sm, .int th, .int pl, .int hz, .ref D0, .ref W0, .ref T0, .int tl, .int tw, .int tc]]) (l1 := []) C0 hw (i := nI (25 + 5 * k + 3)) (kinN (by omega) (by decide)) dX7_of_9 ?_
  refine W.eq (g2 := F0 mm 10 ls [.int (trpN ca tr k)]) (congrArg (fun z9 => F0 mm 10 ls [.int z9]) (show ((mA h w wd s0 z st he ke tu ca tr co la) (Int32.toNatClampNeg (nI (25 + 5 * k + 3))) : Int32) = trpN ca tr k from mA_ld (i := 3) hc hn9.1 (by decide))) ?_
  -- leaf 0
  exact k_iret C0 hr hlk hw () (rfl) (rfl) (Nat.le_of_ble_eq_true rfl) (Nat.le_of_ble_eq_true rfl) dX7_of_10

set_option maxHeartbeats 4000000 in
set_option maxRecDepth 100000 in
theorem c_X7_of4 (l : Launch) (E : kE) (m0 : Nat) (A0 : Nat) (V0 : Nat) (Z0 : Nat) (D0 : Nat) (W0 : Nat) (T0 : Nat) (sm : Int32) (th : Int32) (pl : Int32) (hz : Int32) (tl : Int32) (tw : Int32) (tc : Int32) (h : Nat) (w : Nat) (wd : Int32) (s0 : Int32) (z : Int32) (st : Nat → Int32) (he : Nat → Int32) (ke : Nat → Int32) (tu : Nat → Int32) (ca : Nat → Int32) (tr : Nat → Int32) (co : Nat → Int32) (la : Nat → Int32) (k : Nat) (hG : kG h w) (hc : k < h * w) : kC E l yX7_of wsX7_of rmX7_of [.ref m0, .int (nI k), .int 4] (List.flatten [oc m0 7 [.ref A0, .ref V0, .ref Z0, .int sm, .int th, .int pl, .int hz, .ref D0, .ref W0, .ref T0, .int tl, .int tw, .int tc], ac E A0 985 (mA h w wd s0 z st he ke tu ca tr co la)]) kI (fun (r : Int32) (_ : Unit) => r = ke k) (fun _ => List.flatten [oc m0 7 [.ref A0, .ref V0, .ref Z0, .int sm, .int th, .int pl, .int hz, .ref D0, .ref W0, .ref T0, .int tl, .int tw, .int tc], ac E A0 985 (mA h w wd s0 z st he ke tu ca tr co la)]) 0 0 := by
  refine k_body (cc := cX7_of) (maxL := 3) (ret := (some .int)) (by decide) rfl (Nat.le_of_ble_eq_true rfl) ?_
  intro pp ee sx mm aa bb me cd H locs AA ls C0 hr hlk hnm hl hw
  obtain ⟨hx, hb, hml, hown, hts⟩ := id C0
  have hl : lv_has ls 3 [(0, .ref m0), (1, .int (nI k)), (2, .int 4)] := hl
  have hw : kW E AA sx (List.flatten [oc m0 7 [.ref A0, .ref V0, .ref Z0, .int sm, .int th, .int pl, .int hz, .ref D0, .ref W0, .ref T0, .int tl, .int tw, .int tc], ac E A0 985 (mA h w wd s0 z st he ke tu ca tr co la)]) H locs := hw
  have hn9 := kG_n hG
  have hG9 := id hG
  obtain ⟨hG1, hG2, hG3, hG4⟩ := hG9
  have hinX7 : ∀ w ∈ u_ws RX7 TX7 13, w ∈ wsX7_of := by decide +kernel
  refine lv_aload_n hx hb dX7_of_0 rfl (lv_at hl 0 rfl) ?_
  refine k_get (pre := []) C0 hw hinX7 rfl 0 (by decide) (hts (.fieldLink RX7 7 "SlabDunesModel" "all" "[I") (by decide +kernel)) rfl rfl dX7_of_1 ?_
  refine lv_iload_n hx hb dX7_of_4 rfl (lv_at hl 1 rfl) ?_
  refine lv_iload_n hx hb dX7_of_5 rfl (lv_at hl 2 rfl) ?_
  refine k_S (As := [.int (nI k), .int 4]) (rest := [.ref A0]) (pre := []) (mid := []) C0 (c_X7_at l E k 4 ) (va_cwS 2 hts gX7_of_X7_at rfl rfl rfl (by decide +kernel) ⟨Nat.le_of_ble_eq_true rfl, Nat.le_of_ble_eq_true rfl⟩) hw rfl (fun _ => []) (fun _ => rfl) rfl hl.1 rfl (Nat.le_of_ble_eq_true rfl) dX7_of_6 ⟨Nat.le_of_ble_eq_true rfl, Nat.le_of_ble_eq_true rfl⟩ (fun r u H locs hq99 hw => ?_)
  subst hq99
  have hw : kW E AA sx (List.flatten [oc m0 7 [.ref A0, .ref V0, .ref Z0, .int sm, .int th, .int pl, .int hz, .ref D0, .ref W0, .ref T0, .int tl, .int tw, .int tc], ac E A0 985 (mA h w wd s0 z st he ke tu ca tr co la)]) H locs := hw
  refine W.eq (g2 := F0 mm 9 ls [.int (nI (25 + 5 * k + 4)), .ref A0]) rfl ?_
  refine k_iald (pre := [oc m0 7 [.ref A0, .ref V0, .ref Z0, .int sm, .int th, .int pl, .int hz, .ref D0, .ref W0, .ref T0, .int tl, .int tw, .int tc]]) (l1 := []) C0 hw (i := nI (25 + 5 * k + 4)) (kinN (by omega) (by decide)) dX7_of_9 ?_
  refine W.eq (g2 := F0 mm 10 ls [.int (ke k)]) (congrArg (fun z9 => F0 mm 10 ls [.int z9]) (show ((mA h w wd s0 z st he ke tu ca tr co la) (Int32.toNatClampNeg (nI (25 + 5 * k + 4))) : Int32) = ke k from mA_ld (i := 4) hc hn9.1 (by decide))) ?_
  -- leaf 0
  exact k_iret C0 hr hlk hw () (rfl) (rfl) (Nat.le_of_ble_eq_true rfl) (Nat.le_of_ble_eq_true rfl) dX7_of_10

set_option maxHeartbeats 4000000 in
set_option maxRecDepth 100000 in
theorem c_X7_of (l : Launch) (E : kE) (m0 : Nat) (A0 : Nat) (V0 : Nat) (Z0 : Nat) (D0 : Nat) (W0 : Nat) (T0 : Nat) (sm : Int32) (th : Int32) (pl : Int32) (hz : Int32) (tl : Int32) (tw : Int32) (tc : Int32) (h : Nat) (w : Nat) (wd : Int32) (s0 : Int32) (z : Int32) (st : Nat → Int32) (he : Nat → Int32) (ke : Nat → Int32) (tu : Nat → Int32) (ca : Nat → Int32) (tr : Nat → Int32) (co : Nat → Int32) (la : Nat → Int32) (k : Nat) (j9 : Nat) (hG : kG h w) (hc : k < h * w) (hj9 : j9 < 5) : kC E l yX7_of wsX7_of rmX7_of [.ref m0, .int (nI k), .int (nI j9)] (List.flatten [oc m0 7 [.ref A0, .ref V0, .ref Z0, .int sm, .int th, .int pl, .int hz, .ref D0, .ref W0, .ref T0, .int tl, .int tw, .int tc], ac E A0 985 (mA h w wd s0 z st he ke tu ca tr co la)]) kI (fun (r : Int32) (_ : Unit) => r = cm he ke tu ca tr k j9) (fun _ => List.flatten [oc m0 7 [.ref A0, .ref V0, .ref Z0, .int sm, .int th, .int pl, .int hz, .ref D0, .ref W0, .ref T0, .int tl, .int tw, .int tc], ac E A0 985 (mA h w wd s0 z st he ke tu ca tr co la)]) 0 0 := by
  refine k_body (cc := cX7_of) (maxL := 3) (ret := (some .int)) (by decide) rfl (Nat.le_of_ble_eq_true rfl) ?_
  intro pp ee sx mm aa bb me cd H locs AA ls C0 hr hlk hnm hl hw
  obtain ⟨hx, hb, hml, hown, hts⟩ := id C0
  have hl : lv_has ls 3 [(0, .ref m0), (1, .int (nI k)), (2, .int (nI j9))] := hl
  have hw : kW E AA sx (List.flatten [oc m0 7 [.ref A0, .ref V0, .ref Z0, .int sm, .int th, .int pl, .int hz, .ref D0, .ref W0, .ref T0, .int tl, .int tw, .int tc], ac E A0 985 (mA h w wd s0 z st he ke tu ca tr co la)]) H locs := hw
  have hn9 := kG_n hG
  have hG9 := id hG
  obtain ⟨hG1, hG2, hG3, hG4⟩ := hG9
  have hinX7 : ∀ w ∈ u_ws RX7 TX7 13, w ∈ wsX7_of := by decide +kernel
  refine lv_aload_n hx hb dX7_of_0 rfl (lv_at hl 0 rfl) ?_
  refine k_get (pre := []) C0 hw hinX7 rfl 0 (by decide) (hts (.fieldLink RX7 7 "SlabDunesModel" "all" "[I") (by decide +kernel)) rfl rfl dX7_of_1 ?_
  refine lv_iload_n hx hb dX7_of_4 rfl (lv_at hl 1 rfl) ?_
  refine lv_iload_n hx hb dX7_of_5 rfl (lv_at hl 2 rfl) ?_
  refine k_S (As := [.int (nI k), .int (nI j9)]) (rest := [.ref A0]) (pre := []) (mid := []) C0 (c_X7_at l E k j9 ) (va_cwS 2 hts gX7_of_X7_at rfl rfl rfl (by decide +kernel) ⟨Nat.le_of_ble_eq_true rfl, Nat.le_of_ble_eq_true rfl⟩) hw rfl (fun _ => []) (fun _ => rfl) rfl hl.1 rfl (Nat.le_of_ble_eq_true rfl) dX7_of_6 ⟨Nat.le_of_ble_eq_true rfl, Nat.le_of_ble_eq_true rfl⟩ (fun r u H locs hq99 hw => ?_)
  subst hq99
  have hw : kW E AA sx (List.flatten [oc m0 7 [.ref A0, .ref V0, .ref Z0, .int sm, .int th, .int pl, .int hz, .ref D0, .ref W0, .ref T0, .int tl, .int tw, .int tc], ac E A0 985 (mA h w wd s0 z st he ke tu ca tr co la)]) H locs := hw
  refine W.eq (g2 := F0 mm 9 ls [.int (nI (25 + 5 * k + j9)), .ref A0]) rfl ?_
  refine k_iald (pre := [oc m0 7 [.ref A0, .ref V0, .ref Z0, .int sm, .int th, .int pl, .int hz, .ref D0, .ref W0, .ref T0, .int tl, .int tw, .int tc]]) (l1 := []) C0 hw (i := nI (25 + 5 * k + j9)) (kinN (by omega) (by decide)) dX7_of_9 ?_
  refine W.eq (g2 := F0 mm 10 ls [.int (cm he ke tu ca tr k j9)]) (congrArg (fun z9 => F0 mm 10 ls [.int z9]) (show ((mA h w wd s0 z st he ke tu ca tr co la) (Int32.toNatClampNeg (nI (25 + 5 * k + j9))) : Int32) = cm he ke tu ca tr k j9 from mA_ld hc hn9.1 hj9)) ?_
  -- leaf 0
  exact k_iret C0 hr hlk hw () (rfl) (rfl) (Nat.le_of_ble_eq_true rfl) (Nat.le_of_ble_eq_true rfl) dX7_of_10

abbrev rmX7_cells : Room := { frames := 0, cells := 0, slots := 0, locals := 0 }
set_option maxHeartbeats 4000000 in
set_option maxRecDepth 100000 in
theorem c_X7_cells (l : Launch) (E : kE) (m0 : Nat) (A0 : Nat) (V0 : Nat) (Z0 : Nat) (D0 : Nat) (W0 : Nat) (T0 : Nat) (sm : Int32) (th : Int32) (pl : Int32) (hz : Int32) (tl : Int32) (tw : Int32) (tc : Int32) (h : Nat) (w : Nat) (wd : Int32) (s0 : Int32) (z : Int32) (st : Nat → Int32) (he : Nat → Int32) (ke : Nat → Int32) (tu : Nat → Int32) (ca : Nat → Int32) (tr : Nat → Int32) (co : Nat → Int32) (la : Nat → Int32)  : kC E l yX7_cells wsX7_cells rmX7_cells [.ref m0] (List.flatten [oc m0 7 [.ref A0, .ref V0, .ref Z0, .int sm, .int th, .int pl, .int hz, .ref D0, .ref W0, .ref T0, .int tl, .int tw, .int tc], ac E A0 985 (mA h w wd s0 z st he ke tu ca tr co la)]) kI (fun (r : Int32) (_ : Unit) => r = nI (h * w)) (fun _ => List.flatten [oc m0 7 [.ref A0, .ref V0, .ref Z0, .int sm, .int th, .int pl, .int hz, .ref D0, .ref W0, .ref T0, .int tl, .int tw, .int tc], ac E A0 985 (mA h w wd s0 z st he ke tu ca tr co la)]) 0 0 := by
  refine k_body (cc := cX7_cells) (maxL := 1) (ret := (some .int)) (by decide) rfl (Nat.le_of_ble_eq_true rfl) ?_
  intro pp ee sx mm aa bb me cd H locs AA ls C0 hr hlk hnm hl hw
  obtain ⟨hx, hb, hml, hown, hts⟩ := id C0
  have hl : lv_has ls 1 [(0, .ref m0)] := hl
  have hw : kW E AA sx (List.flatten [oc m0 7 [.ref A0, .ref V0, .ref Z0, .int sm, .int th, .int pl, .int hz, .ref D0, .ref W0, .ref T0, .int tl, .int tw, .int tc], ac E A0 985 (mA h w wd s0 z st he ke tu ca tr co la)]) H locs := hw
  have hinX7 : ∀ w ∈ u_ws RX7 TX7 13, w ∈ wsX7_cells := by decide +kernel
  refine lv_aload_n hx hb dX7_cells_0 rfl (lv_at hl 0 rfl) ?_
  refine k_get (pre := []) C0 hw hinX7 rfl 0 (by decide) (hts (.fieldLink RX7 7 "SlabDunesModel" "all" "[I") (by decide +kernel)) rfl rfl dX7_cells_1 ?_
  refine lv_iconst (v := 4) hx hb dX7_cells_4 (by decide) ?_
  refine k_iald (pre := [oc m0 7 [.ref A0, .ref V0, .ref Z0, .int sm, .int th, .int pl, .int hz, .ref D0, .ref W0, .ref T0, .int tl, .int tw, .int tc]]) (l1 := []) C0 hw (i := 4) (kinN (n := 4) (by decide) (by decide)) dX7_cells_5 ?_
  refine W.eq (g2 := F0 mm 6 ls [.int (nI h)]) (congrArg (fun z9 => F0 mm 6 ls [.int z9]) (show ((mA h w wd s0 z st he ke tu ca tr co la) (Int32.toNatClampNeg 4) : Int32) = nI h from rfl)) ?_
  refine lv_aload_n hx hb dX7_cells_6 rfl (lv_at hl 0 rfl) ?_
  refine k_get (pre := []) C0 hw hinX7 rfl 0 (by decide) (hts (.fieldLink RX7 7 "SlabDunesModel" "all" "[I") (by decide +kernel)) rfl rfl dX7_cells_7 ?_
  refine lv_iconst (v := 5) hx hb dX7_cells_10 (by decide) ?_
  refine k_iald (pre := [oc m0 7 [.ref A0, .ref V0, .ref Z0, .int sm, .int th, .int pl, .int hz, .ref D0, .ref W0, .ref T0, .int tl, .int tw, .int tc]]) (l1 := []) C0 hw (i := 5) (kinN (n := 5) (by decide) (by decide)) dX7_cells_11 ?_
  refine W.eq (g2 := F0 mm 12 ls [.int (nI w), .int (nI h)]) (congrArg (fun z9 => F0 mm 12 ls [.int z9, .int (nI h)]) (show ((mA h w wd s0 z st he ke tu ca tr co la) (Int32.toNatClampNeg 5) : Int32) = nI w from rfl)) ?_
  refine lv_imul hx hb dX7_cells_12 ?_
  refine W.eq (g2 := F0 mm 13 ls [.int (nI (h * w))]) (congrArg (fun z9 => F0 mm 13 ls [.int z9]) (show ((nI h) * (nI w) : Int32) = nI (h * w) from pk_mul _ _)) ?_
  -- leaf 0
  exact k_iret C0 hr hlk hw () (rfl) (rfl) (Nat.le_of_ble_eq_true rfl) (Nat.le_of_ble_eq_true rfl) dX7_cells_13

abbrev rmX7_isCell : Room := { frames := 1, cells := 0, slots := 0, locals := 25 }
set_option maxHeartbeats 4000000 in
set_option maxRecDepth 100000 in
theorem c_X7_isCell (l : Launch) (E : kE) (m0 : Nat) (A0 : Nat) (V0 : Nat) (Z0 : Nat) (D0 : Nat) (W0 : Nat) (T0 : Nat) (sm : Int32) (th : Int32) (pl : Int32) (hz : Int32) (tl : Int32) (tw : Int32) (tc : Int32) (h : Nat) (w : Nat) (wd : Int32) (s0 : Int32) (z : Int32) (st : Nat → Int32) (he : Nat → Int32) (ke : Nat → Int32) (tu : Nat → Int32) (ca : Nat → Int32) (tr : Nat → Int32) (co : Nat → Int32) (la : Nat → Int32) (v : Int32) (hG : kG h w) : kC E l yX7_isCell wsX7_isCell rmX7_isCell [.ref m0, .int v] (List.flatten [oc m0 7 [.ref A0, .ref V0, .ref Z0, .int sm, .int th, .int pl, .int hz, .ref D0, .ref W0, .ref T0, .int tl, .int tw, .int tc], ac E A0 985 (mA h w wd s0 z st he ke tu ca tr co la)]) kI (fun (r : Int32) (_ : Unit) => r = if ¬ v < 0 ∧ ¬ nI (h * w - 1) < v then 1 else 0) (fun _ => List.flatten [oc m0 7 [.ref A0, .ref V0, .ref Z0, .int sm, .int th, .int pl, .int hz, .ref D0, .ref W0, .ref T0, .int tl, .int tw, .int tc], ac E A0 985 (mA h w wd s0 z st he ke tu ca tr co la)]) 0 0 := by
  refine k_body (cc := cX7_isCell) (maxL := 2) (ret := (some .boolean)) (by decide) rfl (Nat.le_of_ble_eq_true rfl) ?_
  intro pp ee sx mm aa bb me cd H locs AA ls C0 hr hlk hnm hl hw
  obtain ⟨hx, hb, hml, hown, hts⟩ := id C0
  have hl : lv_has ls 2 [(0, .ref m0), (1, .int v)] := hl
  have hw : kW E AA sx (List.flatten [oc m0 7 [.ref A0, .ref V0, .ref Z0, .int sm, .int th, .int pl, .int hz, .ref D0, .ref W0, .ref T0, .int tl, .int tw, .int tc], ac E A0 985 (mA h w wd s0 z st he ke tu ca tr co la)]) H locs := hw
  have hn9 := kG_n hG
  have hG9 := id hG
  obtain ⟨hG1, hG2, hG3, hG4⟩ := hG9
  refine lv_iload_n hx hb dX7_isCell_0 rfl (lv_at hl 1 rfl) ?_
  refine lv_i2l (v := Int32.toInt64 v) hx hb dX7_isCell_1 rfl ?_
  refine lv_lconst (v := 0) hx hb dX7_isCell_2 (by decide) ?_
  refine lv_aload_n hx hb dX7_isCell_3 rfl (lv_at hl 0 rfl) ?_
  refine k_V (As := []) (rest := [.long 0, .long (Int32.toInt64 v)]) (pre := []) (mid := [oc m0 7 [.ref A0, .ref V0, .ref Z0, .int sm, .int th, .int pl, .int hz, .ref D0, .ref W0, .ref T0, .int tl, .int tw, .int tc], ac E A0 985 (mA h w wd s0 z st he ke tu ca tr co la)]) C0 (c_X7_cells l E m0 A0 V0 Z0 D0 W0 T0 sm th pl hz tl tw tc h w wd s0 z st he ke tu ca tr co la ) (cwV 0 hts gX7_isCell_X7_cells rfl rfl rfl (by decide +kernel) ⟨Nat.le_of_ble_eq_true rfl, Nat.le_of_ble_eq_true rfl⟩) hw rfl (fun _ => [oc m0 7 [.ref A0, .ref V0, .ref Z0, .int sm, .int th, .int pl, .int hz, .ref D0, .ref W0, .ref T0, .int tl, .int tw, .int tc], ac E A0 985 (mA h w wd s0 z st he ke tu ca tr co la)]) (fun _ => rfl) 0 7 rfl rfl rfl rfl hl.1 rfl (Nat.le_of_ble_eq_true rfl) dX7_isCell_4 ⟨Nat.le_of_ble_eq_true rfl, Nat.le_of_ble_eq_true rfl⟩ (fun r u H locs hq99 hw => ?_)
  subst hq99
  have hw : kW E AA sx (List.flatten [oc m0 7 [.ref A0, .ref V0, .ref Z0, .int sm, .int th, .int pl, .int hz, .ref D0, .ref W0, .ref T0, .int tl, .int tw, .int tc], ac E A0 985 (mA h w wd s0 z st he ke tu ca tr co la)]) H locs := hw
  refine W.eq (g2 := F0 mm 7 ls [.int (nI (h * w)), .long 0, .long (Int32.toInt64 v)]) rfl ?_
  refine lv_i2l (v := Int32.toInt64 (nI (h * w))) hx hb dX7_isCell_7 rfl ?_
  refine lv_lconst (v := 1) hx hb dX7_isCell_8 (by decide) ?_
  refine lv_lsub hx hb dX7_isCell_9 ?_
  refine W.eq (g2 := F0 mm 10 ls [.long (Int32.toInt64 (nI (h * w - 1))), .long 0, .long (Int32.toInt64 v)]) (congrArg (fun z9 => F0 mm 10 ls [.long z9, .long 0, .long (Int32.toInt64 v)]) (show ((Int32.toInt64 (nI (h * w))) - 1 : Int64) = Int32.toInt64 (nI (h * w - 1)) from by rw [nI_l (by omega), nI_l (by omega)]; exact lN_sub (b := 1) (by omega))) ?_
  refine k_S (As := [.long (Int32.toInt64 v), .long 0, .long (Int32.toInt64 (nI (h * w - 1)))]) (rest := []) (pre := []) (mid := []) C0 (c_X7_in_0_hi9 l E v (nI (h * w - 1)) ) (va_cwS 3 hts gX7_isCell_X7_in rfl rfl rfl (by decide +kernel) ⟨Nat.le_of_ble_eq_true rfl, Nat.le_of_ble_eq_true rfl⟩) hw rfl (fun _ => []) (fun _ => rfl) rfl hl.1 rfl (Nat.le_of_ble_eq_true rfl) dX7_isCell_10 ⟨Nat.le_of_ble_eq_true rfl, Nat.le_of_ble_eq_true rfl⟩ (fun r u H locs hq99 hw => ?_)
  subst hq99
  have hw : kW E AA sx (List.flatten [oc m0 7 [.ref A0, .ref V0, .ref Z0, .int sm, .int th, .int pl, .int hz, .ref D0, .ref W0, .ref T0, .int tl, .int tw, .int tc], ac E A0 985 (mA h w wd s0 z st he ke tu ca tr co la)]) H locs := hw
  refine W.eq (g2 := F0 mm 13 ls [.int (if ¬ v < 0 ∧ ¬ (nI (h * w - 1)) < v then 1 else 0)]) rfl ?_
  -- leaf 0
  exact k_zret C0 hr hlk hw () (rfl) (rfl) (knar) (Nat.le_of_ble_eq_true rfl) (Nat.le_of_ble_eq_true rfl) dX7_isCell_13

abbrev rmX7_save : Room := { frames := 0, cells := 0, slots := 0, locals := 0 }
set_option maxHeartbeats 4000000 in
set_option maxRecDepth 100000 in
theorem c_X7_save_a (l : Launch) (E : kE) (m0 : Nat) (A0 : Nat) (V0 : Nat) (Z0 : Nat) (D0 : Nat) (W0 : Nat) (T0 : Nat) (th : Int32) (pl : Int32) (hz : Int32) (tl : Int32) (tw : Int32) (tc : Int32) (k9 : Nat) (M : Nat → Int32) (V : Nat → Int32) (hk9 : k9 < 4) : kC E l yX7_save wsX7_save rmX7_save [.ref m0] (List.flatten [oc m0 7 [.ref A0, .ref V0, .ref Z0, .int (nI k9), .int th, .int pl, .int hz, .ref D0, .ref W0, .ref T0, .int tl, .int tw, .int tc], ac E A0 985 M, ac E V0 3940 V]) kV (fun (_ : Unit) (_ : Unit) => True) (fun _ => List.flatten [oc m0 7 [.ref A0, .ref V0, .ref Z0, .int (nI (k9 + 1)), .int th, .int pl, .int hz, .ref D0, .ref W0, .ref T0, .int tl, .int tw, .int tc], ac E A0 985 M, ac E V0 3940 (svQ V M k9 985)]) 0 0 := by
  refine k_body (cc := cX7_save) (maxL := 2) (ret := none) (by decide) rfl (Nat.le_of_ble_eq_true rfl) ?_
  intro pp ee sx mm aa bb me cd H locs AA ls C0 hr hlk hnm hl hw
  obtain ⟨hx, hb, hml, hown, hts⟩ := id C0
  have hl : lv_has ls 2 [(0, .ref m0)] := hl
  have hw : kW E AA sx (List.flatten [oc m0 7 [.ref A0, .ref V0, .ref Z0, .int (nI k9), .int th, .int pl, .int hz, .ref D0, .ref W0, .ref T0, .int tl, .int tw, .int tc], ac E A0 985 M, ac E V0 3940 V]) H locs := hw
  have hinX7 : ∀ w ∈ u_ws RX7 TX7 13, w ∈ wsX7_save := by decide +kernel
  refine lv_aload_n hx hb dX7_save_0 rfl (lv_at hl 0 rfl) ?_
  refine k_get (pre := []) C0 hw hinX7 rfl 3 (by decide) (hts (.fieldLink RX7 36 "SlabDunesModel" "savedMany" "I") (by decide +kernel)) rfl rfl dX7_save_1 ?_
  refine lv_iconst (v := 4) hx hb dX7_save_4 (by decide) ?_
  refine lv_icmp_ne (tgt := 49) hx hb dX7_save_5 (by decide) (fun c5 => ?_) (fun c5 => False.elim (absurd ((nI_eq (b := 4) (by omega) (by omega)).mp c5) (by omega)))
  have c5 : ¬ k9 = 4 := fun h99 => c5 ((nI_eq (a := k9) (b := 4) (by omega) (by omega)).mpr h99)
  refine lv_iconst (v := 0) hx hb dX7_save_49 (by decide) ?_
  refine lv_istore_n (lv' := [(1, .int 0), (0, .ref m0)]) hx hb dX7_save_50 rfl hl (by decide) rfl (fun ls hl => ?_)
  have loop51 : ∀ (nn : Nat) (i : Nat) (g : Nat → Int32), (i ≤ 985) → (∀ j, g j = svQ V M k9 i j) → 985 - i < nn → ∀ (H : Heap) (locs : List Loc) (ls : Array Slot), lv_has ls 2 [(1, .int (nI i)), (0, .ref m0)] → kW E AA sx (List.flatten [oc m0 7 [.ref A0, .ref V0, .ref Z0, .int (nI k9), .int th, .int pl, .int hz, .ref D0, .ref W0, .ref T0, .int tl, .int tw, .int tc], ac E A0 985 M, ac E V0 3940 g]) H locs → W pp l ee rmX7_save sx mm aa bb me cd H locs 0 0 (kEnd E kV (fun (_ : Unit) (_ : Unit) => True) (fun _ => List.flatten [oc m0 7 [.ref A0, .ref V0, .ref Z0, .int (nI (k9 + 1)), .int th, .int pl, .int hz, .ref D0, .ref W0, .ref T0, .int tl, .int tw, .int tc], ac E A0 985 M, ac E V0 3940 (svQ V M k9 985)]) bb aa sx AA 0 0) (F0 mm 51 ls []) := by
    intro nn
    induction nn with
    | zero => intro i g hi hg hm51; exact absurd hm51 (Nat.not_lt_zero _)
    | succ nn ih51 =>
      intro i g hi hg hm51 H locs ls hl hw
      refine lv_iload_n hx hb dX7_save_51 rfl (lv_at hl 0 rfl) ?_
      refine lv_sipush (v := 985) hx hb dX7_save_52 (by decide) ?_
      refine lv_icmp_ge (tgt := 85) hx hb dX7_save_55 (by decide) (fun c55 => ?_) (fun c55 => ?_)
      · have c55 : 985 ≤ i := (nI_leI (a := 985) (b := i) (by omega) (by omega)).mp c55
        have hie : i = 985 := by omega
        subst hie
        have hw : kW E AA sx (List.flatten [oc m0 7 [.ref A0, .ref V0, .ref Z0, .int (nI k9), .int th, .int pl, .int hz, .ref D0, .ref W0, .ref T0, .int tl, .int tw, .int tc], ac E A0 985 M, ac E V0 3940 (svQ V M k9 985)]) H locs := kW.arr (pre := [oc m0 7 [.ref A0, .ref V0, .ref Z0, .int (nI k9), .int th, .int pl, .int hz, .ref D0, .ref W0, .ref T0, .int tl, .int tw, .int tc], ac E A0 985 M]) (l1 := []) hw (fun j _ => hg j)
        refine lv_aload_n hx hb dX7_save_85 rfl (lv_at hl 1 rfl) ?_
        refine lv_dup hx hb dX7_save_86 rfl ?_
        refine k_get (pre := []) C0 hw hinX7 rfl 3 (by decide) (hts (.fieldLink RX7 36 "SlabDunesModel" "savedMany" "I") (by decide +kernel)) rfl rfl dX7_save_87 ?_
        refine lv_iconst (v := 1) hx hb dX7_save_90 (by decide) ?_
        refine lv_iadd hx hb dX7_save_91 ?_
        refine W.eq (g2 := F0 mm 92 ls [.int (nI (k9 + 1)), .ref m0]) (congrArg (fun z9 => F0 mm 92 ls [.int z9, .ref m0]) (show ((nI k9) + 1 : Int32) = nI (k9 + 1) from nI_1 _)) ?_
        refine k_put (pre := []) C0 hw hinX7 tyX7 tyX7_ok nmX7 rfl 3 (by decide) (hts (.fieldLink RX7 36 "SlabDunesModel" "savedMany" "I") (by decide +kernel)) rfl rfl (ty := .int) (by decide +kernel) rfl rfl (Nat.le_of_ble_eq_true rfl) dX7_save_92 (fun H locs hw => ?_)
        have hw : kW E AA sx (List.flatten [oc m0 7 [.ref A0, .ref V0, .ref Z0, .int (nI (k9 + 1)), .int th, .int pl, .int hz, .ref D0, .ref W0, .ref T0, .int tl, .int tw, .int tc], ac E A0 985 M, ac E V0 3940 (svQ V M k9 985)]) H locs := hw
        -- leaf 0
        exact k_vret C0 hr hlk hw () (rfl) (trivial) (Nat.le_of_ble_eq_true rfl) (Nat.le_of_ble_eq_true rfl) dX7_save_95
      · have c55 : ¬ 985 ≤ i := fun h99 => c55 ((nI_leI (a := 985) (b := i) (by omega) (by omega)).mpr h99)
        refine lv_aload_n hx hb dX7_save_58 rfl (lv_at hl 1 rfl) ?_
        refine k_get (pre := []) C0 hw hinX7 rfl 1 (by decide) (hts (.fieldLink RX7 13 "SlabDunesModel" "saved" "[I") (by decide +kernel)) rfl rfl dX7_save_59 ?_
        refine lv_sipush (v := 985) hx hb dX7_save_62 (by decide) ?_
        refine lv_aload_n hx hb dX7_save_65 rfl (lv_at hl 1 rfl) ?_
        refine k_get (pre := []) C0 hw hinX7 rfl 3 (by decide) (hts (.fieldLink RX7 36 "SlabDunesModel" "savedMany" "I") (by decide +kernel)) rfl rfl dX7_save_66 ?_
        refine lv_imul hx hb dX7_save_69 ?_
        refine W.eq (g2 := F0 mm 70 ls [.int (nI (985 * k9)), .ref V0]) (congrArg (fun z9 => F0 mm 70 ls [.int z9, .ref V0]) (show (985 * (nI k9) : Int32) = nI (985 * k9) from pk_mul 985 k9)) ?_
        refine lv_iload_n hx hb dX7_save_70 rfl (lv_at hl 0 rfl) ?_
        refine lv_iadd hx hb dX7_save_71 ?_
        refine W.eq (g2 := F0 mm 72 ls [.int (nI (985 * k9 + i)), .ref V0]) (congrArg (fun z9 => F0 mm 72 ls [.int z9, .ref V0]) (show ((nI (985 * k9)) + (nI i) : Int32) = nI (985 * k9 + i) from nI_add _ _)) ?_
        refine lv_aload_n hx hb dX7_save_72 rfl (lv_at hl 1 rfl) ?_
        refine k_get (pre := []) C0 hw hinX7 rfl 0 (by decide) (hts (.fieldLink RX7 7 "SlabDunesModel" "all" "[I") (by decide +kernel)) rfl rfl dX7_save_73 ?_
        refine lv_iload_n hx hb dX7_save_76 rfl (lv_at hl 0 rfl) ?_
        refine k_iald (pre := [oc m0 7 [.ref A0, .ref V0, .ref Z0, .int (nI k9), .int th, .int pl, .int hz, .ref D0, .ref W0, .ref T0, .int tl, .int tw, .int tc]]) (l1 := []) C0 hw (i := nI i) (kinN (by omega) (by decide)) dX7_save_77 ?_
        refine W.eq (g2 := F0 mm 78 ls [.int (M i), .int (nI (985 * k9 + i)), .ref V0]) (congrArg (fun z9 => F0 mm 78 ls [.int z9, .int (nI (985 * k9 + i)), .ref V0]) (show (M (Int32.toNatClampNeg (nI i)) : Int32) = M i from by rw [nI_clamp (by omega)])) ?_
        refine k_iast (pre := [oc m0 7 [.ref A0, .ref V0, .ref Z0, .int (nI k9), .int th, .int pl, .int hz, .ref D0, .ref W0, .ref T0, .int tl, .int tw, .int tc], ac E A0 985 M]) (l1 := []) C0 hw (i := nI (985 * k9 + i)) (kinN (by omega) (by decide)) dX7_save_78 (fun H locs hw => ?_)
        have hw : kW E AA sx (List.flatten [oc m0 7 [.ref A0, .ref V0, .ref Z0, .int (nI k9), .int th, .int pl, .int hz, .ref D0, .ref W0, .ref T0, .int tl, .int tw, .int tc], ac E A0 985 M, ac E V0 3940 (upd g (Int32.toNatClampNeg (nI (985 * k9 + i))) (M i))]) H locs := hw
        refine lv_iinc (v := nI (i + 1)) (lv' := [(1, .int (nI (i + 1))), (0, .ref m0)]) hx hb dX7_save_79 hl (k := 0) rfl (nI_1 _) (by decide) rfl (fun ls hl => ?_)
        refine lv_goto (tgt := 51) hx hb dX7_save_82 (by decide) ?_
        -- back 0
        exact ih51 (i + 1) (upd g (Int32.toNatClampNeg (nI (985 * k9 + i))) (M i)) (by first | assumption | omega) (svQ_s (by omega) (by omega) hg) (by omega) H _ ls (lv_sub hl [0, 1] rfl) hw
  exact loop51 ((985 - 0) + 1) 0 V (by first | assumption | omega) (svQ_0) (Nat.lt_succ_self _) H _ ls (lv_sub hl [0, 1] rfl) hw

set_option maxHeartbeats 4000000 in
set_option maxRecDepth 100000 in
theorem c_X7_save_b (l : Launch) (E : kE) (m0 : Nat) (A0 : Nat) (V0 : Nat) (Z0 : Nat) (D0 : Nat) (W0 : Nat) (T0 : Nat) (th : Int32) (pl : Int32) (hz : Int32) (tl : Int32) (tw : Int32) (tc : Int32) (M : Nat → Int32) (V : Nat → Int32)  : kC E l yX7_save wsX7_save rmX7_save [.ref m0] (List.flatten [oc m0 7 [.ref A0, .ref V0, .ref Z0, .int (nI 4), .int th, .int pl, .int hz, .ref D0, .ref W0, .ref T0, .int tl, .int tw, .int tc], ac E A0 985 M, ac E V0 3940 V]) kV (fun (_ : Unit) (_ : Unit) => True) (fun _ => List.flatten [oc m0 7 [.ref A0, .ref V0, .ref Z0, .int (nI 4), .int th, .int pl, .int hz, .ref D0, .ref W0, .ref T0, .int tl, .int tw, .int tc], ac E A0 985 M, ac E V0 3940 (svQ (svH V 2955) M 3 985)]) 0 0 := by
  refine k_body (cc := cX7_save) (maxL := 2) (ret := none) (by decide) rfl (Nat.le_of_ble_eq_true rfl) ?_
  intro pp ee sx mm aa bb me cd H locs AA ls C0 hr hlk hnm hl hw
  obtain ⟨hx, hb, hml, hown, hts⟩ := id C0
  have hl : lv_has ls 2 [(0, .ref m0)] := hl
  have hw : kW E AA sx (List.flatten [oc m0 7 [.ref A0, .ref V0, .ref Z0, .int (nI 4), .int th, .int pl, .int hz, .ref D0, .ref W0, .ref T0, .int tl, .int tw, .int tc], ac E A0 985 M, ac E V0 3940 V]) H locs := hw
  have hinX7 : ∀ w ∈ u_ws RX7 TX7 13, w ∈ wsX7_save := by decide +kernel
  refine lv_aload_n hx hb dX7_save_0 rfl (lv_at hl 0 rfl) ?_
  refine k_get (pre := []) C0 hw hinX7 rfl 3 (by decide) (hts (.fieldLink RX7 36 "SlabDunesModel" "savedMany" "I") (by decide +kernel)) rfl rfl dX7_save_1 ?_
  refine lv_iconst (v := 4) hx hb dX7_save_4 (by decide) ?_
  refine lv_icmp_ne (tgt := 49) hx hb dX7_save_5 (by decide) (fun c5 => absurd c5 (by decide)) (fun c5 => ?_)
  refine lv_iconst (v := 0) hx hb dX7_save_8 (by decide) ?_
  refine lv_istore_n (lv' := [(1, .int 0), (0, .ref m0)]) hx hb dX7_save_9 rfl hl (by decide) rfl (fun ls hl => ?_)
  have loop10 : ∀ (nn : Nat) (i : Nat) (g : Nat → Int32), (i ≤ 2955) → (∀ j, g j = svH V i j) → 2955 - i < nn → ∀ (H : Heap) (locs : List Loc) (ls : Array Slot), lv_has ls 2 [(1, .int (nI i)), (0, .ref m0)] → kW E AA sx (List.flatten [oc m0 7 [.ref A0, .ref V0, .ref Z0, .int (nI 4), .int th, .int pl, .int hz, .ref D0, .ref W0, .ref T0, .int tl, .int tw, .int tc], ac E A0 985 M, ac E V0 3940 g]) H locs → W pp l ee rmX7_save sx mm aa bb me cd H locs 0 0 (kEnd E kV (fun (_ : Unit) (_ : Unit) => True) (fun _ => List.flatten [oc m0 7 [.ref A0, .ref V0, .ref Z0, .int (nI 4), .int th, .int pl, .int hz, .ref D0, .ref W0, .ref T0, .int tl, .int tw, .int tc], ac E A0 985 M, ac E V0 3940 (svQ (svH V 2955) M 3 985)]) bb aa sx AA 0 0) (F0 mm 10 ls []) := by
    intro nn
    induction nn with
    | zero => intro i g hi hg hm10; exact absurd hm10 (Nat.not_lt_zero _)
    | succ nn ih10 =>
      intro i g hi hg hm10 H locs ls hl hw
      refine lv_iload_n hx hb dX7_save_10 rfl (lv_at hl 0 rfl) ?_
      refine lv_sipush (v := 2955) hx hb dX7_save_11 (by decide) ?_
      refine lv_icmp_ge (tgt := 39) hx hb dX7_save_14 (by decide) (fun c14 => ?_) (fun c14 => ?_)
      · have c14 : 2955 ≤ i := (nI_leI (a := 2955) (b := i) (by omega) (by omega)).mp c14
        have hie : i = 2955 := by omega
        subst hie
        have hw : kW E AA sx (List.flatten [oc m0 7 [.ref A0, .ref V0, .ref Z0, .int (nI 4), .int th, .int pl, .int hz, .ref D0, .ref W0, .ref T0, .int tl, .int tw, .int tc], ac E A0 985 M, ac E V0 3940 (svH V 2955)]) H locs := kW.arr (pre := [oc m0 7 [.ref A0, .ref V0, .ref Z0, .int (nI 4), .int th, .int pl, .int hz, .ref D0, .ref W0, .ref T0, .int tl, .int tw, .int tc], ac E A0 985 M]) (l1 := []) hw (fun j _ => hg j)
        refine lv_aload_n hx hb dX7_save_39 rfl (lv_at hl 1 rfl) ?_
        refine lv_dup hx hb dX7_save_40 rfl ?_
        refine k_get (pre := []) C0 hw hinX7 rfl 3 (by decide) (hts (.fieldLink RX7 36 "SlabDunesModel" "savedMany" "I") (by decide +kernel)) rfl rfl dX7_save_41 ?_
        refine lv_iconst (v := 1) hx hb dX7_save_44 (by decide) ?_
        refine lv_isub hx hb dX7_save_45 ?_
        refine W.eq (g2 := F0 mm 46 ls [.int (nI 3), .ref m0]) (congrArg (fun z9 => F0 mm 46 ls [.int z9, .ref m0]) (show ((nI 4) - 1 : Int32) = nI 3 from rfl)) ?_
        refine k_put (pre := []) C0 hw hinX7 tyX7 tyX7_ok nmX7 rfl 3 (by decide) (hts (.fieldLink RX7 36 "SlabDunesModel" "savedMany" "I") (by decide +kernel)) rfl rfl (ty := .int) (by decide +kernel) rfl rfl (Nat.le_of_ble_eq_true rfl) dX7_save_46 (fun H locs hw => ?_)
        have hw : kW E AA sx (List.flatten [oc m0 7 [.ref A0, .ref V0, .ref Z0, .int (nI 3), .int th, .int pl, .int hz, .ref D0, .ref W0, .ref T0, .int tl, .int tw, .int tc], ac E A0 985 M, ac E V0 3940 (svH V 2955)]) H locs := hw
        refine lv_iconst (v := 0) hx hb dX7_save_49 (by decide) ?_
        refine lv_istore_n (lv' := [(1, .int 0), (0, .ref m0)]) hx hb dX7_save_50 rfl hl (by decide) rfl (fun ls hl => ?_)
        have loop51 : ∀ (nn : Nat) (i : Nat) (g : Nat → Int32), (i ≤ 985) → (∀ j, g j = svQ (svH V 2955) M 3 i j) → 985 - i < nn → ∀ (H : Heap) (locs : List Loc) (ls : Array Slot), lv_has ls 2 [(1, .int (nI i)), (0, .ref m0)] → kW E AA sx (List.flatten [oc m0 7 [.ref A0, .ref V0, .ref Z0, .int (nI 3), .int th, .int pl, .int hz, .ref D0, .ref W0, .ref T0, .int tl, .int tw, .int tc], ac E A0 985 M, ac E V0 3940 g]) H locs → W pp l ee rmX7_save sx mm aa bb me cd H locs 0 0 (kEnd E kV (fun (_ : Unit) (_ : Unit) => True) (fun _ => List.flatten [oc m0 7 [.ref A0, .ref V0, .ref Z0, .int (nI 4), .int th, .int pl, .int hz, .ref D0, .ref W0, .ref T0, .int tl, .int tw, .int tc], ac E A0 985 M, ac E V0 3940 (svQ (svH V 2955) M 3 985)]) bb aa sx AA 0 0) (F0 mm 51 ls []) := by
          intro nn
          induction nn with
          | zero => intro i g hi hg hm51; exact absurd hm51 (Nat.not_lt_zero _)
          | succ nn ih51 =>
            intro i g hi hg hm51 H locs ls hl hw
            refine lv_iload_n hx hb dX7_save_51 rfl (lv_at hl 0 rfl) ?_
            refine lv_sipush (v := 985) hx hb dX7_save_52 (by decide) ?_
            refine lv_icmp_ge (tgt := 85) hx hb dX7_save_55 (by decide) (fun c55 => ?_) (fun c55 => ?_)
            · have c55 : 985 ≤ i := (nI_leI (a := 985) (b := i) (by omega) (by omega)).mp c55
              have hie : i = 985 := by omega
              subst hie
              have hw : kW E AA sx (List.flatten [oc m0 7 [.ref A0, .ref V0, .ref Z0, .int (nI 3), .int th, .int pl, .int hz, .ref D0, .ref W0, .ref T0, .int tl, .int tw, .int tc], ac E A0 985 M, ac E V0 3940 (svQ (svH V 2955) M 3 985)]) H locs := kW.arr (pre := [oc m0 7 [.ref A0, .ref V0, .ref Z0, .int (nI 3), .int th, .int pl, .int hz, .ref D0, .ref W0, .ref T0, .int tl, .int tw, .int tc], ac E A0 985 M]) (l1 := []) hw (fun j _ => hg j)
              refine lv_aload_n hx hb dX7_save_85 rfl (lv_at hl 1 rfl) ?_
              refine lv_dup hx hb dX7_save_86 rfl ?_
              refine k_get (pre := []) C0 hw hinX7 rfl 3 (by decide) (hts (.fieldLink RX7 36 "SlabDunesModel" "savedMany" "I") (by decide +kernel)) rfl rfl dX7_save_87 ?_
              refine lv_iconst (v := 1) hx hb dX7_save_90 (by decide) ?_
              refine lv_iadd hx hb dX7_save_91 ?_
              refine W.eq (g2 := F0 mm 92 ls [.int (nI 4), .ref m0]) (congrArg (fun z9 => F0 mm 92 ls [.int z9, .ref m0]) (show ((nI 3) + 1 : Int32) = nI 4 from rfl)) ?_
              refine k_put (pre := []) C0 hw hinX7 tyX7 tyX7_ok nmX7 rfl 3 (by decide) (hts (.fieldLink RX7 36 "SlabDunesModel" "savedMany" "I") (by decide +kernel)) rfl rfl (ty := .int) (by decide +kernel) rfl rfl (Nat.le_of_ble_eq_true rfl) dX7_save_92 (fun H locs hw => ?_)
              have hw : kW E AA sx (List.flatten [oc m0 7 [.ref A0, .ref V0, .ref Z0, .int (nI 4), .int th, .int pl, .int hz, .ref D0, .ref W0, .ref T0, .int tl, .int tw, .int tc], ac E A0 985 M, ac E V0 3940 (svQ (svH V 2955) M 3 985)]) H locs := hw
              -- leaf 0
              exact k_vret C0 hr hlk hw () (rfl) (trivial) (Nat.le_of_ble_eq_true rfl) (Nat.le_of_ble_eq_true rfl) dX7_save_95
            · have c55 : ¬ 985 ≤ i := fun h99 => c55 ((nI_leI (a := 985) (b := i) (by omega) (by omega)).mpr h99)
              refine lv_aload_n hx hb dX7_save_58 rfl (lv_at hl 1 rfl) ?_
              refine k_get (pre := []) C0 hw hinX7 rfl 1 (by decide) (hts (.fieldLink RX7 13 "SlabDunesModel" "saved" "[I") (by decide +kernel)) rfl rfl dX7_save_59 ?_
              refine lv_sipush (v := 985) hx hb dX7_save_62 (by decide) ?_
              refine lv_aload_n hx hb dX7_save_65 rfl (lv_at hl 1 rfl) ?_
              refine k_get (pre := []) C0 hw hinX7 rfl 3 (by decide) (hts (.fieldLink RX7 36 "SlabDunesModel" "savedMany" "I") (by decide +kernel)) rfl rfl dX7_save_66 ?_
              refine lv_imul hx hb dX7_save_69 ?_
              refine W.eq (g2 := F0 mm 70 ls [.int (nI (985 * 3)), .ref V0]) (congrArg (fun z9 => F0 mm 70 ls [.int z9, .ref V0]) (show (985 * (nI 3) : Int32) = nI (985 * 3) from pk_mul 985 3)) ?_
              refine lv_iload_n hx hb dX7_save_70 rfl (lv_at hl 0 rfl) ?_
              refine lv_iadd hx hb dX7_save_71 ?_
              refine W.eq (g2 := F0 mm 72 ls [.int (nI (985 * 3 + i)), .ref V0]) (congrArg (fun z9 => F0 mm 72 ls [.int z9, .ref V0]) (show ((nI (985 * 3)) + (nI i) : Int32) = nI (985 * 3 + i) from nI_add _ _)) ?_
              refine lv_aload_n hx hb dX7_save_72 rfl (lv_at hl 1 rfl) ?_
              refine k_get (pre := []) C0 hw hinX7 rfl 0 (by decide) (hts (.fieldLink RX7 7 "SlabDunesModel" "all" "[I") (by decide +kernel)) rfl rfl dX7_save_73 ?_
              refine lv_iload_n hx hb dX7_save_76 rfl (lv_at hl 0 rfl) ?_
              refine k_iald (pre := [oc m0 7 [.ref A0, .ref V0, .ref Z0, .int (nI 3), .int th, .int pl, .int hz, .ref D0, .ref W0, .ref T0, .int tl, .int tw, .int tc]]) (l1 := []) C0 hw (i := nI i) (kinN (by omega) (by decide)) dX7_save_77 ?_
              refine W.eq (g2 := F0 mm 78 ls [.int (M i), .int (nI (985 * 3 + i)), .ref V0]) (congrArg (fun z9 => F0 mm 78 ls [.int z9, .int (nI (985 * 3 + i)), .ref V0]) (show (M (Int32.toNatClampNeg (nI i)) : Int32) = M i from by rw [nI_clamp (by omega)])) ?_
              refine k_iast (pre := [oc m0 7 [.ref A0, .ref V0, .ref Z0, .int (nI 3), .int th, .int pl, .int hz, .ref D0, .ref W0, .ref T0, .int tl, .int tw, .int tc], ac E A0 985 M]) (l1 := []) C0 hw (i := nI (985 * 3 + i)) (kinN (by omega) (by decide)) dX7_save_78 (fun H locs hw => ?_)
              have hw : kW E AA sx (List.flatten [oc m0 7 [.ref A0, .ref V0, .ref Z0, .int (nI 3), .int th, .int pl, .int hz, .ref D0, .ref W0, .ref T0, .int tl, .int tw, .int tc], ac E A0 985 M, ac E V0 3940 (upd g (Int32.toNatClampNeg (nI (985 * 3 + i))) (M i))]) H locs := hw
              refine lv_iinc (v := nI (i + 1)) (lv' := [(1, .int (nI (i + 1))), (0, .ref m0)]) hx hb dX7_save_79 hl (k := 0) rfl (nI_1 _) (by decide) rfl (fun ls hl => ?_)
              refine lv_goto (tgt := 51) hx hb dX7_save_82 (by decide) ?_
              -- back 0
              exact ih51 (i + 1) (upd g (Int32.toNatClampNeg (nI (985 * 3 + i))) (M i)) (by first | assumption | omega) (svQ_s (m := 3) (by omega) (by omega) hg) (by omega) H _ ls (lv_sub hl [0, 1] rfl) hw
        exact loop51 ((985 - 0) + 1) 0 (svH V 2955) (by first | assumption | omega) (svQ_0) (Nat.lt_succ_self _) H _ ls (lv_sub hl [0, 1] rfl) hw
      · have c14 : ¬ 2955 ≤ i := fun h99 => c14 ((nI_leI (a := 2955) (b := i) (by omega) (by omega)).mpr h99)
        refine lv_aload_n hx hb dX7_save_17 rfl (lv_at hl 1 rfl) ?_
        refine k_get (pre := []) C0 hw hinX7 rfl 1 (by decide) (hts (.fieldLink RX7 13 "SlabDunesModel" "saved" "[I") (by decide +kernel)) rfl rfl dX7_save_18 ?_
        refine lv_iload_n hx hb dX7_save_21 rfl (lv_at hl 0 rfl) ?_
        refine lv_aload_n hx hb dX7_save_22 rfl (lv_at hl 1 rfl) ?_
        refine k_get (pre := []) C0 hw hinX7 rfl 1 (by decide) (hts (.fieldLink RX7 13 "SlabDunesModel" "saved" "[I") (by decide +kernel)) rfl rfl dX7_save_23 ?_
        refine lv_iload_n hx hb dX7_save_26 rfl (lv_at hl 0 rfl) ?_
        refine lv_sipush (v := 985) hx hb dX7_save_27 (by decide) ?_
        refine lv_iadd hx hb dX7_save_30 ?_
        refine W.eq (g2 := F0 mm 31 ls [.int (nI (i + 985)), .ref V0, .int (nI i), .ref V0]) (congrArg (fun z9 => F0 mm 31 ls [.int z9, .ref V0, .int (nI i), .ref V0]) (show ((nI i) + 985 : Int32) = nI (i + 985) from nI_add i 985)) ?_
        refine k_iald (pre := [oc m0 7 [.ref A0, .ref V0, .ref Z0, .int (nI 4), .int th, .int pl, .int hz, .ref D0, .ref W0, .ref T0, .int tl, .int tw, .int tc], ac E A0 985 M]) (l1 := []) C0 hw (i := nI (i + 985)) (kinN (by omega) (by decide)) dX7_save_31 ?_
        refine W.eq (g2 := F0 mm 32 ls [.int (g (i + 985)), .int (nI i), .ref V0]) (congrArg (fun z9 => F0 mm 32 ls [.int z9, .int (nI i), .ref V0]) (show (g (Int32.toNatClampNeg (nI (i + 985))) : Int32) = g (i + 985) from by rw [nI_clamp (by omega)])) ?_
        refine k_iast (pre := [oc m0 7 [.ref A0, .ref V0, .ref Z0, .int (nI 4), .int th, .int pl, .int hz, .ref D0, .ref W0, .ref T0, .int tl, .int tw, .int tc], ac E A0 985 M]) (l1 := []) C0 hw (i := nI i) (kinN (by omega) (by decide)) dX7_save_32 (fun H locs hw => ?_)
        have hw : kW E AA sx (List.flatten [oc m0 7 [.ref A0, .ref V0, .ref Z0, .int (nI 4), .int th, .int pl, .int hz, .ref D0, .ref W0, .ref T0, .int tl, .int tw, .int tc], ac E A0 985 M, ac E V0 3940 (upd g (Int32.toNatClampNeg (nI i)) (g (i + 985)))]) H locs := hw
        refine lv_iinc (v := nI (i + 1)) (lv' := [(1, .int (nI (i + 1))), (0, .ref m0)]) hx hb dX7_save_33 hl (k := 0) rfl (nI_1 _) (by decide) rfl (fun ls hl => ?_)
        refine lv_goto (tgt := 10) hx hb dX7_save_36 (by decide) ?_
        -- back 0
        exact ih10 (i + 1) (upd g (Int32.toNatClampNeg (nI i)) (g (i + 985))) (by first | assumption | omega) (svH_s (by omega) hg) (by omega) H _ ls (lv_sub hl [0, 1] rfl) hw
  exact loop10 ((2955 - 0) + 1) 0 V (by first | assumption | omega) (svH_0) (Nat.lt_succ_self _) H _ ls (lv_sub hl [0, 1] rfl) hw

theorem c_X7_save (l : Launch) (E : kE) (m0 : Nat) (A0 : Nat) (V0 : Nat) (Z0 : Nat) (D0 : Nat) (W0 : Nat) (T0 : Nat) (th : Int32) (pl : Int32) (hz : Int32) (tl : Int32) (tw : Int32) (tc : Int32) (k9 : Nat) (M : Nat → Int32) (V : Nat → Int32) (hk9 : k9 ≤ 4) : kC E l yX7_save wsX7_save rmX7_save [.ref m0] (List.flatten [oc m0 7 [.ref A0, .ref V0, .ref Z0, .int (nI k9), .int th, .int pl, .int hz, .ref D0, .ref W0, .ref T0, .int tl, .int tw, .int tc], ac E A0 985 M, ac E V0 3940 V]) kV (fun (_ : Unit) (_ : Unit) => True) (fun _ => List.flatten [oc m0 7 [.ref A0, .ref V0, .ref Z0, .int (nI (svK k9)), .int th, .int pl, .int hz, .ref D0, .ref W0, .ref T0, .int tl, .int tw, .int tc], ac E A0 985 M, ac E V0 3940 (svA V M k9)]) 0 0 := by
  by_cases h4 : k9 = 4
  · subst h4
    exact c_X7_save_b l E m0 A0 V0 Z0 D0 W0 T0 th pl hz tl tw tc M V
  · have h := c_X7_save_a l E m0 A0 V0 Z0 D0 W0 T0 th pl hz tl tw tc k9 M V (by omega)
    rw [svK, svA, if_neg h4, if_neg h4]
    exact h

abbrev rmX7_lays : Room := { frames := 0, cells := 0, slots := 0, locals := 0 }
set_option maxHeartbeats 4000000 in
set_option maxRecDepth 100000 in
theorem c_X7_lays (l : Launch) (E : kE) (m0 : Nat) (A0 : Nat) (V0 : Nat) (Z0 : Nat) (D0 : Nat) (W0 : Nat) (T0 : Nat) (sm : Int32) (th : Int32) (pl : Int32) (hz : Int32) (tl : Int32) (tw : Int32) (tc : Int32) (M : Nat → Int32) (Y : Nat → Int32)  : kC E l yX7_lays wsX7_lays rmX7_lays [.ref m0] (List.flatten [oc m0 7 [.ref A0, .ref V0, .ref Z0, .int sm, .int th, .int pl, .int hz, .ref D0, .ref W0, .ref T0, .int tl, .int tw, .int tc], ac E A0 985 M, ac E Z0 985 Y]) kV (fun (_ : Unit) (_ : Unit) => True) (fun _ => List.flatten [oc m0 7 [.ref A0, .ref V0, .ref Z0, .int sm, .int th, .int pl, .int hz, .ref D0, .ref W0, .ref T0, .int tl, .int tw, .int tc], ac E A0 985 M, ac E Z0 985 M]) 0 0 := by
  refine k_body (cc := cX7_lays) (maxL := 2) (ret := none) (by decide) rfl (Nat.le_of_ble_eq_true rfl) ?_
  intro pp ee sx mm aa bb me cd H locs AA ls C0 hr hlk hnm hl hw
  obtain ⟨hx, hb, hml, hown, hts⟩ := id C0
  have hl : lv_has ls 2 [(0, .ref m0)] := hl
  have hw : kW E AA sx (List.flatten [oc m0 7 [.ref A0, .ref V0, .ref Z0, .int sm, .int th, .int pl, .int hz, .ref D0, .ref W0, .ref T0, .int tl, .int tw, .int tc], ac E A0 985 M, ac E Z0 985 Y]) H locs := hw
  have hinX7 : ∀ w ∈ u_ws RX7 TX7 13, w ∈ wsX7_lays := by decide +kernel
  refine lv_iconst (v := 0) hx hb dX7_lays_0 (by decide) ?_
  refine lv_istore_n (lv' := [(1, .int 0), (0, .ref m0)]) hx hb dX7_lays_1 rfl hl (by decide) rfl (fun ls hl => ?_)
  have loop2 : ∀ (nn : Nat) (i : Nat) (g : Nat → Int32), (i ≤ 985) → (∀ j, j < i → g j = M j) → 985 - i < nn → ∀ (H : Heap) (locs : List Loc) (ls : Array Slot), lv_has ls 2 [(1, .int (nI i)), (0, .ref m0)] → kW E AA sx (List.flatten [oc m0 7 [.ref A0, .ref V0, .ref Z0, .int sm, .int th, .int pl, .int hz, .ref D0, .ref W0, .ref T0, .int tl, .int tw, .int tc], ac E A0 985 M, ac E Z0 985 g]) H locs → W pp l ee rmX7_lays sx mm aa bb me cd H locs 0 0 (kEnd E kV (fun (_ : Unit) (_ : Unit) => True) (fun _ => List.flatten [oc m0 7 [.ref A0, .ref V0, .ref Z0, .int sm, .int th, .int pl, .int hz, .ref D0, .ref W0, .ref T0, .int tl, .int tw, .int tc], ac E A0 985 M, ac E Z0 985 M]) bb aa sx AA 0 0) (F0 mm 2 ls []) := by
    intro nn
    induction nn with
    | zero => intro i g hi hg hm2; exact absurd hm2 (Nat.not_lt_zero _)
    | succ nn ih2 =>
      intro i g hi hg hm2 H locs ls hl hw
      refine lv_iload_n hx hb dX7_lays_2 rfl (lv_at hl 0 rfl) ?_
      refine lv_sipush (v := 985) hx hb dX7_lays_3 (by decide) ?_
      refine lv_icmp_ge (tgt := 27) hx hb dX7_lays_6 (by decide) (fun c6 => ?_) (fun c6 => ?_)
      · have c6 : 985 ≤ i := (nI_leI (a := 985) (b := i) (by omega) (by omega)).mp c6
        have hw : kW E AA sx (List.flatten [oc m0 7 [.ref A0, .ref V0, .ref Z0, .int sm, .int th, .int pl, .int hz, .ref D0, .ref W0, .ref T0, .int tl, .int tw, .int tc], ac E A0 985 M, ac E Z0 985 M]) H locs := kW.arr (pre := [oc m0 7 [.ref A0, .ref V0, .ref Z0, .int sm, .int th, .int pl, .int hz, .ref D0, .ref W0, .ref T0, .int tl, .int tw, .int tc], ac E A0 985 M]) (l1 := []) hw (fun j hj => hg j (by omega))
        -- leaf 0
        exact k_vret C0 hr hlk hw () (rfl) (trivial) (Nat.le_of_ble_eq_true rfl) (Nat.le_of_ble_eq_true rfl) dX7_lays_27
      · have c6 : ¬ 985 ≤ i := fun h99 => c6 ((nI_leI (a := 985) (b := i) (by omega) (by omega)).mpr h99)
        refine lv_aload_n hx hb dX7_lays_9 rfl (lv_at hl 1 rfl) ?_
        refine k_get (pre := []) C0 hw hinX7 rfl 2 (by decide) (hts (.fieldLink RX7 16 "SlabDunesModel" "aside" "[I") (by decide +kernel)) rfl rfl dX7_lays_10 ?_
        refine lv_iload_n hx hb dX7_lays_13 rfl (lv_at hl 0 rfl) ?_
        refine lv_aload_n hx hb dX7_lays_14 rfl (lv_at hl 1 rfl) ?_
        refine k_get (pre := []) C0 hw hinX7 rfl 0 (by decide) (hts (.fieldLink RX7 7 "SlabDunesModel" "all" "[I") (by decide +kernel)) rfl rfl dX7_lays_15 ?_
        refine lv_iload_n hx hb dX7_lays_18 rfl (lv_at hl 0 rfl) ?_
        refine k_iald (pre := [oc m0 7 [.ref A0, .ref V0, .ref Z0, .int sm, .int th, .int pl, .int hz, .ref D0, .ref W0, .ref T0, .int tl, .int tw, .int tc]]) (l1 := []) C0 hw (i := nI i) (kinN (by omega) (by decide)) dX7_lays_19 ?_
        refine W.eq (g2 := F0 mm 20 ls [.int (M i), .int (nI i), .ref Z0]) (congrArg (fun z9 => F0 mm 20 ls [.int z9, .int (nI i), .ref Z0]) (show (M (Int32.toNatClampNeg (nI i)) : Int32) = M i from by rw [nI_clamp (by omega)])) ?_
        refine k_iast (pre := [oc m0 7 [.ref A0, .ref V0, .ref Z0, .int sm, .int th, .int pl, .int hz, .ref D0, .ref W0, .ref T0, .int tl, .int tw, .int tc], ac E A0 985 M]) (l1 := []) C0 hw (i := nI i) (kinN (by omega) (by decide)) dX7_lays_20 (fun H locs hw => ?_)
        have hw : kW E AA sx (List.flatten [oc m0 7 [.ref A0, .ref V0, .ref Z0, .int sm, .int th, .int pl, .int hz, .ref D0, .ref W0, .ref T0, .int tl, .int tw, .int tc], ac E A0 985 M, ac E Z0 985 (upd g (Int32.toNatClampNeg (nI i)) (M i))]) H locs := hw
        refine lv_iinc (v := nI (i + 1)) (lv' := [(1, .int (nI (i + 1))), (0, .ref m0)]) hx hb dX7_lays_21 hl (k := 0) rfl (nI_1 _) (by decide) rfl (fun ls hl => ?_)
        refine lv_goto (tgt := 2) hx hb dX7_lays_24 (by decide) ?_
        -- back 0
        exact ih2 (i + 1) (upd g (Int32.toNatClampNeg (nI i)) (M i)) (by first | assumption | omega) (kcp_s (by omega) hg) (by omega) H _ ls (lv_sub hl [0, 1] rfl) hw
  exact loop2 ((985 - 0) + 1) 0 Y (by first | assumption | omega) (fun j h99 => absurd h99 (Nat.not_lt_zero _)) (Nat.lt_succ_self _) H _ ls (lv_sub hl [0, 1] rfl) hw

abbrev rmX7_takesBack : Room := { frames := 0, cells := 0, slots := 0, locals := 0 }
set_option maxHeartbeats 4000000 in
set_option maxRecDepth 100000 in
theorem c_X7_takesBack (l : Launch) (E : kE) (m0 : Nat) (A0 : Nat) (V0 : Nat) (Z0 : Nat) (D0 : Nat) (W0 : Nat) (T0 : Nat) (sm : Int32) (th : Int32) (pl : Int32) (hz : Int32) (tl : Int32) (tw : Int32) (tc : Int32) (M : Nat → Int32) (Y : Nat → Int32)  : kC E l yX7_takesBack wsX7_takesBack rmX7_takesBack [.ref m0] (List.flatten [oc m0 7 [.ref A0, .ref V0, .ref Z0, .int sm, .int th, .int pl, .int hz, .ref D0, .ref W0, .ref T0, .int tl, .int tw, .int tc], ac E A0 985 M, ac E Z0 985 Y]) kV (fun (_ : Unit) (_ : Unit) => True) (fun _ => List.flatten [oc m0 7 [.ref A0, .ref V0, .ref Z0, .int sm, .int th, .int pl, .int hz, .ref D0, .ref W0, .ref T0, .int tl, .int tw, .int tc], ac E A0 985 Y, ac E Z0 985 Y]) 0 0 := by
  refine k_body (cc := cX7_takesBack) (maxL := 2) (ret := none) (by decide) rfl (Nat.le_of_ble_eq_true rfl) ?_
  intro pp ee sx mm aa bb me cd H locs AA ls C0 hr hlk hnm hl hw
  obtain ⟨hx, hb, hml, hown, hts⟩ := id C0
  have hl : lv_has ls 2 [(0, .ref m0)] := hl
  have hw : kW E AA sx (List.flatten [oc m0 7 [.ref A0, .ref V0, .ref Z0, .int sm, .int th, .int pl, .int hz, .ref D0, .ref W0, .ref T0, .int tl, .int tw, .int tc], ac E A0 985 M, ac E Z0 985 Y]) H locs := hw
  have hinX7 : ∀ w ∈ u_ws RX7 TX7 13, w ∈ wsX7_takesBack := by decide +kernel
  refine lv_iconst (v := 0) hx hb dX7_takesBack_0 (by decide) ?_
  refine lv_istore_n (lv' := [(1, .int 0), (0, .ref m0)]) hx hb dX7_takesBack_1 rfl hl (by decide) rfl (fun ls hl => ?_)
  have loop2 : ∀ (nn : Nat) (i : Nat) (g : Nat → Int32), (i ≤ 985) → (∀ j, j < i → g j = Y j) → 985 - i < nn → ∀ (H : Heap) (locs : List Loc) (ls : Array Slot), lv_has ls 2 [(1, .int (nI i)), (0, .ref m0)] → kW E AA sx (List.flatten [oc m0 7 [.ref A0, .ref V0, .ref Z0, .int sm, .int th, .int pl, .int hz, .ref D0, .ref W0, .ref T0, .int tl, .int tw, .int tc], ac E A0 985 g, ac E Z0 985 Y]) H locs → W pp l ee rmX7_takesBack sx mm aa bb me cd H locs 0 0 (kEnd E kV (fun (_ : Unit) (_ : Unit) => True) (fun _ => List.flatten [oc m0 7 [.ref A0, .ref V0, .ref Z0, .int sm, .int th, .int pl, .int hz, .ref D0, .ref W0, .ref T0, .int tl, .int tw, .int tc], ac E A0 985 Y, ac E Z0 985 Y]) bb aa sx AA 0 0) (F0 mm 2 ls []) := by
    intro nn
    induction nn with
    | zero => intro i g hi hg hm2; exact absurd hm2 (Nat.not_lt_zero _)
    | succ nn ih2 =>
      intro i g hi hg hm2 H locs ls hl hw
      refine lv_iload_n hx hb dX7_takesBack_2 rfl (lv_at hl 0 rfl) ?_
      refine lv_sipush (v := 985) hx hb dX7_takesBack_3 (by decide) ?_
      refine lv_icmp_ge (tgt := 27) hx hb dX7_takesBack_6 (by decide) (fun c6 => ?_) (fun c6 => ?_)
      · have c6 : 985 ≤ i := (nI_leI (a := 985) (b := i) (by omega) (by omega)).mp c6
        have hw : kW E AA sx (List.flatten [oc m0 7 [.ref A0, .ref V0, .ref Z0, .int sm, .int th, .int pl, .int hz, .ref D0, .ref W0, .ref T0, .int tl, .int tw, .int tc], ac E A0 985 Y, ac E Z0 985 Y]) H locs := kW.arr (pre := [oc m0 7 [.ref A0, .ref V0, .ref Z0, .int sm, .int th, .int pl, .int hz, .ref D0, .ref W0, .ref T0, .int tl, .int tw, .int tc]]) (l1 := []) hw (fun j hj => hg j (by omega))
        -- leaf 0
        exact k_vret C0 hr hlk hw () (rfl) (trivial) (Nat.le_of_ble_eq_true rfl) (Nat.le_of_ble_eq_true rfl) dX7_takesBack_27
      · have c6 : ¬ 985 ≤ i := fun h99 => c6 ((nI_leI (a := 985) (b := i) (by omega) (by omega)).mpr h99)
        refine lv_aload_n hx hb dX7_takesBack_9 rfl (lv_at hl 1 rfl) ?_
        refine k_get (pre := []) C0 hw hinX7 rfl 0 (by decide) (hts (.fieldLink RX7 7 "SlabDunesModel" "all" "[I") (by decide +kernel)) rfl rfl dX7_takesBack_10 ?_
        refine lv_iload_n hx hb dX7_takesBack_13 rfl (lv_at hl 0 rfl) ?_
        refine lv_aload_n hx hb dX7_takesBack_14 rfl (lv_at hl 1 rfl) ?_
        refine k_get (pre := []) C0 hw hinX7 rfl 2 (by decide) (hts (.fieldLink RX7 16 "SlabDunesModel" "aside" "[I") (by decide +kernel)) rfl rfl dX7_takesBack_15 ?_
        refine lv_iload_n hx hb dX7_takesBack_18 rfl (lv_at hl 0 rfl) ?_
        refine k_iald (pre := [oc m0 7 [.ref A0, .ref V0, .ref Z0, .int sm, .int th, .int pl, .int hz, .ref D0, .ref W0, .ref T0, .int tl, .int tw, .int tc], ac E A0 985 g]) (l1 := []) C0 hw (i := nI i) (kinN (by omega) (by decide)) dX7_takesBack_19 ?_
        refine W.eq (g2 := F0 mm 20 ls [.int (Y i), .int (nI i), .ref A0]) (congrArg (fun z9 => F0 mm 20 ls [.int z9, .int (nI i), .ref A0]) (show (Y (Int32.toNatClampNeg (nI i)) : Int32) = Y i from by rw [nI_clamp (by omega)])) ?_
        refine k_iast (pre := [oc m0 7 [.ref A0, .ref V0, .ref Z0, .int sm, .int th, .int pl, .int hz, .ref D0, .ref W0, .ref T0, .int tl, .int tw, .int tc]]) (l1 := []) C0 hw (i := nI i) (kinN (by omega) (by decide)) dX7_takesBack_20 (fun H locs hw => ?_)
        have hw : kW E AA sx (List.flatten [oc m0 7 [.ref A0, .ref V0, .ref Z0, .int sm, .int th, .int pl, .int hz, .ref D0, .ref W0, .ref T0, .int tl, .int tw, .int tc], ac E A0 985 (upd g (Int32.toNatClampNeg (nI i)) (Y i)), ac E Z0 985 Y]) H locs := hw
        refine lv_iinc (v := nI (i + 1)) (lv' := [(1, .int (nI (i + 1))), (0, .ref m0)]) hx hb dX7_takesBack_21 hl (k := 0) rfl (nI_1 _) (by decide) rfl (fun ls hl => ?_)
        refine lv_goto (tgt := 2) hx hb dX7_takesBack_24 (by decide) ?_
        -- back 0
        exact ih2 (i + 1) (upd g (Int32.toNatClampNeg (nI i)) (Y i)) (by first | assumption | omega) (kcp_s (by omega) hg) (by omega) H _ ls (lv_sub hl [0, 1] rfl) hw
  exact loop2 ((985 - 0) + 1) 0 M (by first | assumption | omega) (fun j h99 => absurd h99 (Nat.not_lt_zero _)) (Nat.lt_succ_self _) H _ ls (lv_sub hl [0, 1] rfl) hw

set_option maxHeartbeats 4000000 in
set_option maxRecDepth 100000 in
theorem c_X7_cells_M (l : Launch) (E : kE) (m0 : Nat) (A0 : Nat) (V0 : Nat) (Z0 : Nat) (D0 : Nat) (W0 : Nat) (T0 : Nat) (sm : Int32) (th : Int32) (pl : Int32) (hz : Int32) (tl : Int32) (tw : Int32) (tc : Int32) (M : Nat → Int32) (r2 : Nat) (c2 : Nat) (hR : M (Int32.toNatClampNeg 4) = nI r2) (hC : M (Int32.toNatClampNeg 5) = nI c2) : kC E l yX7_cells wsX7_cells rmX7_cells [.ref m0] (List.flatten [oc m0 7 [.ref A0, .ref V0, .ref Z0, .int sm, .int th, .int pl, .int hz, .ref D0, .ref W0, .ref T0, .int tl, .int tw, .int tc], ac E A0 985 M]) kI (fun (r : Int32) (_ : Unit) => r = nI (r2 * c2)) (fun _ => List.flatten [oc m0 7 [.ref A0, .ref V0, .ref Z0, .int sm, .int th, .int pl, .int hz, .ref D0, .ref W0, .ref T0, .int tl, .int tw, .int tc], ac E A0 985 M]) 0 0 := by
  refine k_body (cc := cX7_cells) (maxL := 1) (ret := (some .int)) (by decide) rfl (Nat.le_of_ble_eq_true rfl) ?_
  intro pp ee sx mm aa bb me cd H locs AA ls C0 hr hlk hnm hl hw
  obtain ⟨hx, hb, hml, hown, hts⟩ := id C0
  have hl : lv_has ls 1 [(0, .ref m0)] := hl
  have hw : kW E AA sx (List.flatten [oc m0 7 [.ref A0, .ref V0, .ref Z0, .int sm, .int th, .int pl, .int hz, .ref D0, .ref W0, .ref T0, .int tl, .int tw, .int tc], ac E A0 985 M]) H locs := hw
  have hinX7 : ∀ w ∈ u_ws RX7 TX7 13, w ∈ wsX7_cells := by decide +kernel
  refine lv_aload_n hx hb dX7_cells_0 rfl (lv_at hl 0 rfl) ?_
  refine k_get (pre := []) C0 hw hinX7 rfl 0 (by decide) (hts (.fieldLink RX7 7 "SlabDunesModel" "all" "[I") (by decide +kernel)) rfl rfl dX7_cells_1 ?_
  refine lv_iconst (v := 4) hx hb dX7_cells_4 (by decide) ?_
  refine k_iald (pre := [oc m0 7 [.ref A0, .ref V0, .ref Z0, .int sm, .int th, .int pl, .int hz, .ref D0, .ref W0, .ref T0, .int tl, .int tw, .int tc]]) (l1 := []) C0 hw (i := 4) (kinN (n := 4) (by decide) (by decide)) dX7_cells_5 ?_
  refine W.eq (g2 := F0 mm 6 ls [.int (nI r2)]) (congrArg (fun z9 => F0 mm 6 ls [.int z9]) (show (M (Int32.toNatClampNeg 4) : Int32) = nI r2 from hR)) ?_
  refine lv_aload_n hx hb dX7_cells_6 rfl (lv_at hl 0 rfl) ?_
  refine k_get (pre := []) C0 hw hinX7 rfl 0 (by decide) (hts (.fieldLink RX7 7 "SlabDunesModel" "all" "[I") (by decide +kernel)) rfl rfl dX7_cells_7 ?_
  refine lv_iconst (v := 5) hx hb dX7_cells_10 (by decide) ?_
  refine k_iald (pre := [oc m0 7 [.ref A0, .ref V0, .ref Z0, .int sm, .int th, .int pl, .int hz, .ref D0, .ref W0, .ref T0, .int tl, .int tw, .int tc]]) (l1 := []) C0 hw (i := 5) (kinN (n := 5) (by decide) (by decide)) dX7_cells_11 ?_
  refine W.eq (g2 := F0 mm 12 ls [.int (nI c2), .int (nI r2)]) (congrArg (fun z9 => F0 mm 12 ls [.int z9, .int (nI r2)]) (show (M (Int32.toNatClampNeg 5) : Int32) = nI c2 from hC)) ?_
  refine lv_imul hx hb dX7_cells_12 ?_
  refine W.eq (g2 := F0 mm 13 ls [.int (nI (r2 * c2))]) (congrArg (fun z9 => F0 mm 13 ls [.int z9]) (show ((nI r2) * (nI c2) : Int32) = nI (r2 * c2) from pk_mul _ _)) ?_
  -- leaf 0
  exact k_iret C0 hr hlk hw () (rfl) (rfl) (Nat.le_of_ble_eq_true rfl) (Nat.le_of_ble_eq_true rfl) dX7_cells_13

abbrev rmX7_clears : Room := { frames := 1, cells := 0, slots := 0, locals := 21 }
set_option maxHeartbeats 4000000 in
set_option maxRecDepth 100000 in
theorem c_X7_clears (l : Launch) (E : kE) (m0 : Nat) (A0 : Nat) (V0 : Nat) (Z0 : Nat) (D0 : Nat) (W0 : Nat) (T0 : Nat) (sm : Int32) (th : Int32) (pl : Int32) (hz : Int32) (tl : Int32) (tw : Int32) (tc : Int32) (M : Nat → Int32) (r2 : Nat) (c2 : Nat) (hG : kG r2 c2) : kC E l yX7_clears wsX7_clears rmX7_clears [.ref m0, .int (nI r2), .int (nI c2)] (List.flatten [oc m0 7 [.ref A0, .ref V0, .ref Z0, .int sm, .int th, .int pl, .int hz, .ref D0, .ref W0, .ref T0, .int tl, .int tw, .int tc], ac E A0 985 M]) kV (fun (_ : Unit) (_ : Unit) => True) (fun _ => List.flatten [oc m0 7 [.ref A0, .ref V0, .ref Z0, .int sm, .int th, .int pl, .int hz, .ref D0, .ref W0, .ref T0, .int tl, .int tw, .int tc], ac E A0 985 (mA r2 c2 (M 6) (M 7) 0 M (fun _ => 0) (fun _ => 0) (fun _ => 0) (fun _ => (-1)) (fun _ => 0) (fun _ => 0) (fun _ => (-1)))]) 0 0 := by
  refine k_body (cc := cX7_clears) (maxL := 4) (ret := none) (by decide) rfl (Nat.le_of_ble_eq_true rfl) ?_
  intro pp ee sx mm aa bb me cd H locs AA ls C0 hr hlk hnm hl hw
  obtain ⟨hx, hb, hml, hown, hts⟩ := id C0
  have hl : lv_has ls 4 [(0, .ref m0), (1, .int (nI r2)), (2, .int (nI c2))] := hl
  have hw : kW E AA sx (List.flatten [oc m0 7 [.ref A0, .ref V0, .ref Z0, .int sm, .int th, .int pl, .int hz, .ref D0, .ref W0, .ref T0, .int tl, .int tw, .int tc], ac E A0 985 M]) H locs := hw
  have hn9 := kG_n hG
  have hinX7 : ∀ w ∈ u_ws RX7 TX7 13, w ∈ wsX7_clears := by decide +kernel
  refine lv_bipush (v := 8) hx hb dX7_clears_0 (by decide) ?_
  refine lv_istore_n (lv' := [(3, .int 8), (0, .ref m0), (1, .int (nI r2)), (2, .int (nI c2))]) hx hb dX7_clears_2 rfl hl (by decide) rfl (fun ls hl => ?_)
  have loop3 : ∀ (nn : Nat) (i : Nat) (g : Nat → Int32), (i ≤ 985) → (8 ≤ i) → (clA M i g) → 985 - i < nn → ∀ (H : Heap) (locs : List Loc) (ls : Array Slot), lv_has ls 4 [(3, .int (nI i)), (0, .ref m0), (1, .int (nI r2)), (2, .int (nI c2))] → kW E AA sx (List.flatten [oc m0 7 [.ref A0, .ref V0, .ref Z0, .int sm, .int th, .int pl, .int hz, .ref D0, .ref W0, .ref T0, .int tl, .int tw, .int tc], ac E A0 985 g]) H locs → W pp l ee rmX7_clears sx mm aa bb me cd H locs 0 0 (kEnd E kV (fun (_ : Unit) (_ : Unit) => True) (fun _ => List.flatten [oc m0 7 [.ref A0, .ref V0, .ref Z0, .int sm, .int th, .int pl, .int hz, .ref D0, .ref W0, .ref T0, .int tl, .int tw, .int tc], ac E A0 985 (mA r2 c2 (M 6) (M 7) 0 M (fun _ => 0) (fun _ => 0) (fun _ => 0) (fun _ => (-1)) (fun _ => 0) (fun _ => 0) (fun _ => (-1)))]) bb aa sx AA 0 0) (F0 mm 3 ls []) := by
    intro nn
    induction nn with
    | zero => intro i g hi hi8 hg hm3; exact absurd hm3 (Nat.not_lt_zero _)
    | succ nn ih3 =>
      intro i g hi hi8 hg hm3 H locs ls hl hw
      refine lv_iload_n hx hb dX7_clears_3 rfl (lv_at hl 0 rfl) ?_
      refine lv_sipush (v := 985) hx hb dX7_clears_4 (by decide) ?_
      refine lv_icmp_ge (tgt := 23) hx hb dX7_clears_7 (by decide) (fun c7 => ?_) (fun c7 => ?_)
      · have c7 : 985 ≤ i := (nI_leI (a := 985) (b := i) (by omega) (by omega)).mp c7
        have hie : i = 985 := by omega
        subst hie
        refine lv_aload_n hx hb dX7_clears_23 rfl (lv_at hl 1 rfl) ?_
        refine k_get (pre := []) C0 hw hinX7 rfl 0 (by decide) (hts (.fieldLink RX7 7 "SlabDunesModel" "all" "[I") (by decide +kernel)) rfl rfl dX7_clears_24 ?_
        refine lv_iconst (v := 4) hx hb dX7_clears_27 (by decide) ?_
        refine lv_iload_n hx hb dX7_clears_28 rfl (lv_at hl 2 rfl) ?_
        refine k_iast (pre := [oc m0 7 [.ref A0, .ref V0, .ref Z0, .int sm, .int th, .int pl, .int hz, .ref D0, .ref W0, .ref T0, .int tl, .int tw, .int tc]]) (l1 := []) C0 hw (i := 4) (kinN (n := 4) (by decide) (by decide)) dX7_clears_29 (fun H locs hw => ?_)
        have hw : kW E AA sx (List.flatten [oc m0 7 [.ref A0, .ref V0, .ref Z0, .int sm, .int th, .int pl, .int hz, .ref D0, .ref W0, .ref T0, .int tl, .int tw, .int tc], ac E A0 985 (upd g (Int32.toNatClampNeg 4) (nI r2))]) H locs := hw
        refine lv_aload_n hx hb dX7_clears_30 rfl (lv_at hl 1 rfl) ?_
        refine k_get (pre := []) C0 hw hinX7 rfl 0 (by decide) (hts (.fieldLink RX7 7 "SlabDunesModel" "all" "[I") (by decide +kernel)) rfl rfl dX7_clears_31 ?_
        refine lv_iconst (v := 5) hx hb dX7_clears_34 (by decide) ?_
        refine lv_iload_n hx hb dX7_clears_35 rfl (lv_at hl 3 rfl) ?_
        refine k_iast (pre := [oc m0 7 [.ref A0, .ref V0, .ref Z0, .int sm, .int th, .int pl, .int hz, .ref D0, .ref W0, .ref T0, .int tl, .int tw, .int tc]]) (l1 := []) C0 hw (i := 5) (kinN (n := 5) (by decide) (by decide)) dX7_clears_36 (fun H locs hw => ?_)
        have hw : kW E AA sx (List.flatten [oc m0 7 [.ref A0, .ref V0, .ref Z0, .int sm, .int th, .int pl, .int hz, .ref D0, .ref W0, .ref T0, .int tl, .int tw, .int tc], ac E A0 985 (upd (upd g (Int32.toNatClampNeg 4) (nI r2)) (Int32.toNatClampNeg 5) (nI c2))]) H locs := hw
        refine lv_bipush (v := 21) hx hb dX7_clears_37 (by decide) ?_
        refine lv_istore_n (lv' := [(3, .int 21), (0, .ref m0), (1, .int (nI r2)), (2, .int (nI c2))]) hx hb dX7_clears_39 rfl hl (by decide) rfl (fun ls hl => ?_)
        have loop40 : ∀ (nn : Nat) (i : Nat) (g : Nat → Int32), (i ≤ 25) → (21 ≤ i) → (clB r2 c2 M i g) → 25 - i < nn → ∀ (H : Heap) (locs : List Loc) (ls : Array Slot), lv_has ls 4 [(3, .int (nI i)), (0, .ref m0), (1, .int (nI r2)), (2, .int (nI c2))] → kW E AA sx (List.flatten [oc m0 7 [.ref A0, .ref V0, .ref Z0, .int sm, .int th, .int pl, .int hz, .ref D0, .ref W0, .ref T0, .int tl, .int tw, .int tc], ac E A0 985 g]) H locs → W pp l ee rmX7_clears sx mm aa bb me cd H locs 0 0 (kEnd E kV (fun (_ : Unit) (_ : Unit) => True) (fun _ => List.flatten [oc m0 7 [.ref A0, .ref V0, .ref Z0, .int sm, .int th, .int pl, .int hz, .ref D0, .ref W0, .ref T0, .int tl, .int tw, .int tc], ac E A0 985 (mA r2 c2 (M 6) (M 7) 0 M (fun _ => 0) (fun _ => 0) (fun _ => 0) (fun _ => (-1)) (fun _ => 0) (fun _ => 0) (fun _ => (-1)))]) bb aa sx AA 0 0) (F0 mm 40 ls []) := by
          intro nn
          induction nn with
          | zero => intro i g hi hi8 hg hm40; exact absurd hm40 (Nat.not_lt_zero _)
          | succ nn ih40 =>
            intro i g hi hi8 hg hm40 H locs ls hl hw
            refine lv_iload_n hx hb dX7_clears_40 rfl (lv_at hl 0 rfl) ?_
            refine lv_bipush (v := 25) hx hb dX7_clears_41 (by decide) ?_
            refine lv_icmp_ge (tgt := 59) hx hb dX7_clears_43 (by decide) (fun c43 => ?_) (fun c43 => ?_)
            · have c43 : 25 ≤ i := (nI_leI (a := 25) (b := i) (by omega) (by omega)).mp c43
              have hie : i = 25 := by omega
              subst hie
              refine lv_iconst (v := 0) hx hb dX7_clears_59 (by decide) ?_
              refine lv_istore_n (lv' := [(3, .int 0), (0, .ref m0), (1, .int (nI r2)), (2, .int (nI c2))]) hx hb dX7_clears_60 rfl hl (by decide) rfl (fun ls hl => ?_)
              have loop61 : ∀ (nn : Nat) (i : Nat) (g : Nat → Int32), (i ≤ r2 * c2) → (clC r2 c2 M i g) → r2 * c2 - i < nn → ∀ (H : Heap) (locs : List Loc) (ls : Array Slot), lv_has ls 4 [(3, .int (nI i)), (0, .ref m0), (1, .int (nI r2)), (2, .int (nI c2))] → kW E AA sx (List.flatten [oc m0 7 [.ref A0, .ref V0, .ref Z0, .int sm, .int th, .int pl, .int hz, .ref D0, .ref W0, .ref T0, .int tl, .int tw, .int tc], ac E A0 985 g]) H locs → W pp l ee rmX7_clears sx mm aa bb me cd H locs 0 0 (kEnd E kV (fun (_ : Unit) (_ : Unit) => True) (fun _ => List.flatten [oc m0 7 [.ref A0, .ref V0, .ref Z0, .int sm, .int th, .int pl, .int hz, .ref D0, .ref W0, .ref T0, .int tl, .int tw, .int tc], ac E A0 985 (mA r2 c2 (M 6) (M 7) 0 M (fun _ => 0) (fun _ => 0) (fun _ => 0) (fun _ => (-1)) (fun _ => 0) (fun _ => 0) (fun _ => (-1)))]) bb aa sx AA 0 0) (F0 mm 61 ls []) := by
                intro nn
                induction nn with
                | zero => intro i g hi hg hm61; exact absurd hm61 (Nat.not_lt_zero _)
                | succ nn ih61 =>
                  intro i g hi hg hm61 H locs ls hl hw
                  refine lv_iload_n hx hb dX7_clears_61 rfl (lv_at hl 0 rfl) ?_
                  refine lv_aload_n hx hb dX7_clears_62 rfl (lv_at hl 1 rfl) ?_
                  refine k_V (As := []) (rest := [.int (nI i)]) (pre := []) (mid := [oc m0 7 [.ref A0, .ref V0, .ref Z0, .int sm, .int th, .int pl, .int hz, .ref D0, .ref W0, .ref T0, .int tl, .int tw, .int tc], ac E A0 985 g]) C0 (c_X7_cells_M l E m0 A0 V0 Z0 D0 W0 T0 sm th pl hz tl tw tc g r2 c2 ((clC_R hg).1) ((clC_R hg).2)) (cwV 0 hts gX7_clears_X7_cells rfl rfl rfl (by decide +kernel) ⟨Nat.le_of_ble_eq_true rfl, Nat.le_of_ble_eq_true rfl⟩) hw rfl (fun _ => [oc m0 7 [.ref A0, .ref V0, .ref Z0, .int sm, .int th, .int pl, .int hz, .ref D0, .ref W0, .ref T0, .int tl, .int tw, .int tc], ac E A0 985 g]) (fun _ => rfl) 0 7 rfl rfl rfl rfl hl.1 rfl (Nat.le_of_ble_eq_true rfl) dX7_clears_63 ⟨Nat.le_of_ble_eq_true rfl, Nat.le_of_ble_eq_true rfl⟩ (fun r u H locs hq99 hw => ?_)
                  subst hq99
                  have hw : kW E AA sx (List.flatten [oc m0 7 [.ref A0, .ref V0, .ref Z0, .int sm, .int th, .int pl, .int hz, .ref D0, .ref W0, .ref T0, .int tl, .int tw, .int tc], ac E A0 985 g]) H locs := hw
                  refine W.eq (g2 := F0 mm 66 ls [.int (nI (r2 * c2)), .int (nI i)]) rfl ?_
                  refine lv_icmp_ge (tgt := 97) hx hb dX7_clears_66 (by decide) (fun c66 => ?_) (fun c66 => ?_)
                  · have c66 : (r2 * c2) ≤ i := (nI_leI (a := (r2 * c2)) (b := i) (by omega) (by omega)).mp c66
                    have hw : kW E AA sx (List.flatten [oc m0 7 [.ref A0, .ref V0, .ref Z0, .int sm, .int th, .int pl, .int hz, .ref D0, .ref W0, .ref T0, .int tl, .int tw, .int tc], ac E A0 985 (mA r2 c2 (M 6) (M 7) 0 M (fun _ => 0) (fun _ => 0) (fun _ => 0) (fun _ => (-1)) (fun _ => 0) (fun _ => 0) (fun _ => (-1)))]) H locs := kW.arr (pre := [oc m0 7 [.ref A0, .ref V0, .ref Z0, .int sm, .int th, .int pl, .int hz, .ref D0, .ref W0, .ref T0, .int tl, .int tw, .int tc]]) (l1 := []) hw (clC_e (by omega) hg)
                    -- leaf 0
                    exact k_vret C0 hr hlk hw () (rfl) (trivial) (Nat.le_of_ble_eq_true rfl) (Nat.le_of_ble_eq_true rfl) dX7_clears_97
                  · have c66 : ¬ (r2 * c2) ≤ i := fun h99 => c66 ((nI_leI (a := (r2 * c2)) (b := i) (by omega) (by omega)).mpr h99)
                    refine lv_aload_n hx hb dX7_clears_69 rfl (lv_at hl 1 rfl) ?_
                    refine k_get (pre := []) C0 hw hinX7 rfl 0 (by decide) (hts (.fieldLink RX7 7 "SlabDunesModel" "all" "[I") (by decide +kernel)) rfl rfl dX7_clears_70 ?_
                    refine lv_iload_n hx hb dX7_clears_73 rfl (lv_at hl 0 rfl) ?_
                    refine lv_iconst (v := 2) hx hb dX7_clears_74 (by decide) ?_
                    refine k_S (As := [.int (nI i), .int 2]) (rest := [.ref A0]) (pre := []) (mid := []) C0 (c_X7_at l E i 2 ) (va_cwS 2 hts gX7_clears_X7_at rfl rfl rfl (by decide +kernel) ⟨Nat.le_of_ble_eq_true rfl, Nat.le_of_ble_eq_true rfl⟩) hw rfl (fun _ => []) (fun _ => rfl) rfl hl.1 rfl (Nat.le_of_ble_eq_true rfl) dX7_clears_75 ⟨Nat.le_of_ble_eq_true rfl, Nat.le_of_ble_eq_true rfl⟩ (fun r u H locs hq99 hw => ?_)
                    subst hq99
                    have hw : kW E AA sx (List.flatten [oc m0 7 [.ref A0, .ref V0, .ref Z0, .int sm, .int th, .int pl, .int hz, .ref D0, .ref W0, .ref T0, .int tl, .int tw, .int tc], ac E A0 985 g]) H locs := hw
                    refine W.eq (g2 := F0 mm 78 ls [.int (nI (25 + 5 * i + 2)), .ref A0]) rfl ?_
                    refine lv_iconst (v := (-1)) hx hb dX7_clears_78 (by decide) ?_
                    refine k_iast (pre := [oc m0 7 [.ref A0, .ref V0, .ref Z0, .int sm, .int th, .int pl, .int hz, .ref D0, .ref W0, .ref T0, .int tl, .int tw, .int tc]]) (l1 := []) C0 hw (i := nI (25 + 5 * i + 2)) (kinN (by omega) (by decide)) dX7_clears_79 (fun H locs hw => ?_)
                    have hw : kW E AA sx (List.flatten [oc m0 7 [.ref A0, .ref V0, .ref Z0, .int sm, .int th, .int pl, .int hz, .ref D0, .ref W0, .ref T0, .int tl, .int tw, .int tc], ac E A0 985 (upd g (Int32.toNatClampNeg (nI (25 + 5 * i + 2))) (-1))]) H locs := hw
                    refine lv_aload_n hx hb dX7_clears_80 rfl (lv_at hl 1 rfl) ?_
                    refine k_get (pre := []) C0 hw hinX7 rfl 0 (by decide) (hts (.fieldLink RX7 7 "SlabDunesModel" "all" "[I") (by decide +kernel)) rfl rfl dX7_clears_81 ?_
                    refine lv_iload_n hx hb dX7_clears_84 rfl (lv_at hl 0 rfl) ?_
                    refine lv_iconst (v := 3) hx hb dX7_clears_85 (by decide) ?_
                    refine k_S (As := [.int (nI i), .int 3]) (rest := [.ref A0]) (pre := []) (mid := []) C0 (c_X7_at l E i 3 ) (va_cwS 2 hts gX7_clears_X7_at rfl rfl rfl (by decide +kernel) ⟨Nat.le_of_ble_eq_true rfl, Nat.le_of_ble_eq_true rfl⟩) hw rfl (fun _ => []) (fun _ => rfl) rfl hl.1 rfl (Nat.le_of_ble_eq_true rfl) dX7_clears_86 ⟨Nat.le_of_ble_eq_true rfl, Nat.le_of_ble_eq_true rfl⟩ (fun r u H locs hq99 hw => ?_)
                    subst hq99
                    have hw : kW E AA sx (List.flatten [oc m0 7 [.ref A0, .ref V0, .ref Z0, .int sm, .int th, .int pl, .int hz, .ref D0, .ref W0, .ref T0, .int tl, .int tw, .int tc], ac E A0 985 (upd g (Int32.toNatClampNeg (nI (25 + 5 * i + 2))) (-1))]) H locs := hw
                    refine W.eq (g2 := F0 mm 89 ls [.int (nI (25 + 5 * i + 3)), .ref A0]) rfl ?_
                    refine lv_iconst (v := (-1)) hx hb dX7_clears_89 (by decide) ?_
                    refine k_iast (pre := [oc m0 7 [.ref A0, .ref V0, .ref Z0, .int sm, .int th, .int pl, .int hz, .ref D0, .ref W0, .ref T0, .int tl, .int tw, .int tc]]) (l1 := []) C0 hw (i := nI (25 + 5 * i + 3)) (kinN (by omega) (by decide)) dX7_clears_90 (fun H locs hw => ?_)
                    have hw : kW E AA sx (List.flatten [oc m0 7 [.ref A0, .ref V0, .ref Z0, .int sm, .int th, .int pl, .int hz, .ref D0, .ref W0, .ref T0, .int tl, .int tw, .int tc], ac E A0 985 (upd (upd g (Int32.toNatClampNeg (nI (25 + 5 * i + 2))) (-1)) (Int32.toNatClampNeg (nI (25 + 5 * i + 3))) (-1))]) H locs := hw
                    refine lv_iinc (v := nI (i + 1)) (lv' := [(3, .int (nI (i + 1))), (0, .ref m0), (1, .int (nI r2)), (2, .int (nI c2))]) hx hb dX7_clears_91 hl (k := 0) rfl (nI_1 _) (by decide) rfl (fun ls hl => ?_)
                    refine lv_goto (tgt := 61) hx hb dX7_clears_94 (by decide) ?_
                    -- back 0
                    exact ih61 (i + 1) (upd (upd g (Int32.toNatClampNeg (nI (25 + 5 * i + 2))) (-1)) (Int32.toNatClampNeg (nI (25 + 5 * i + 3))) (-1)) (by first | assumption | omega) (clC_s (by omega) hn9.1 hg) (by omega) H _ ls (lv_sub hl [0, 1, 2, 3] rfl) hw
              exact loop61 ((r2 * c2 - 0) + 1) 0 g (by first | assumption | omega) (clC_0 hg) (Nat.lt_succ_self _) H _ ls (lv_sub hl [0, 1, 2, 3] rfl) hw
            · have c43 : ¬ 25 ≤ i := fun h99 => c43 ((nI_leI (a := 25) (b := i) (by omega) (by omega)).mpr h99)
              refine lv_aload_n hx hb dX7_clears_46 rfl (lv_at hl 1 rfl) ?_
              refine k_get (pre := []) C0 hw hinX7 rfl 0 (by decide) (hts (.fieldLink RX7 7 "SlabDunesModel" "all" "[I") (by decide +kernel)) rfl rfl dX7_clears_47 ?_
              refine lv_iload_n hx hb dX7_clears_50 rfl (lv_at hl 0 rfl) ?_
              refine lv_iconst (v := (-1)) hx hb dX7_clears_51 (by decide) ?_
              refine k_iast (pre := [oc m0 7 [.ref A0, .ref V0, .ref Z0, .int sm, .int th, .int pl, .int hz, .ref D0, .ref W0, .ref T0, .int tl, .int tw, .int tc]]) (l1 := []) C0 hw (i := nI i) (kinN (by omega) (by decide)) dX7_clears_52 (fun H locs hw => ?_)
              have hw : kW E AA sx (List.flatten [oc m0 7 [.ref A0, .ref V0, .ref Z0, .int sm, .int th, .int pl, .int hz, .ref D0, .ref W0, .ref T0, .int tl, .int tw, .int tc], ac E A0 985 (upd g (Int32.toNatClampNeg (nI i)) (-1))]) H locs := hw
              refine lv_iinc (v := nI (i + 1)) (lv' := [(3, .int (nI (i + 1))), (0, .ref m0), (1, .int (nI r2)), (2, .int (nI c2))]) hx hb dX7_clears_53 hl (k := 0) rfl (nI_1 _) (by decide) rfl (fun ls hl => ?_)
              refine lv_goto (tgt := 40) hx hb dX7_clears_56 (by decide) ?_
              -- back 0
              exact ih40 (i + 1) (upd g (Int32.toNatClampNeg (nI i)) (-1)) (by first | assumption | omega) (by first | assumption | omega) (clB_s hi8 (by omega) hg) (by omega) H _ ls (lv_sub hl [0, 1, 2, 3] rfl) hw
        exact loop40 ((25 - 21) + 1) 21 (upd (upd g (Int32.toNatClampNeg 4) (nI r2)) (Int32.toNatClampNeg 5) (nI c2)) (by first | assumption | omega) (by first | assumption | omega) (clB_0 hg) (Nat.lt_succ_self _) H _ ls (lv_sub hl [0, 1, 2, 3] rfl) hw
      · have c7 : ¬ 985 ≤ i := fun h99 => c7 ((nI_leI (a := 985) (b := i) (by omega) (by omega)).mpr h99)
        refine lv_aload_n hx hb dX7_clears_10 rfl (lv_at hl 1 rfl) ?_
        refine k_get (pre := []) C0 hw hinX7 rfl 0 (by decide) (hts (.fieldLink RX7 7 "SlabDunesModel" "all" "[I") (by decide +kernel)) rfl rfl dX7_clears_11 ?_
        refine lv_iload_n hx hb dX7_clears_14 rfl (lv_at hl 0 rfl) ?_
        refine lv_iconst (v := 0) hx hb dX7_clears_15 (by decide) ?_
        refine k_iast (pre := [oc m0 7 [.ref A0, .ref V0, .ref Z0, .int sm, .int th, .int pl, .int hz, .ref D0, .ref W0, .ref T0, .int tl, .int tw, .int tc]]) (l1 := []) C0 hw (i := nI i) (kinN (by omega) (by decide)) dX7_clears_16 (fun H locs hw => ?_)
        have hw : kW E AA sx (List.flatten [oc m0 7 [.ref A0, .ref V0, .ref Z0, .int sm, .int th, .int pl, .int hz, .ref D0, .ref W0, .ref T0, .int tl, .int tw, .int tc], ac E A0 985 (upd g (Int32.toNatClampNeg (nI i)) 0)]) H locs := hw
        refine lv_iinc (v := nI (i + 1)) (lv' := [(3, .int (nI (i + 1))), (0, .ref m0), (1, .int (nI r2)), (2, .int (nI c2))]) hx hb dX7_clears_17 hl (k := 0) rfl (nI_1 _) (by decide) rfl (fun ls hl => ?_)
        refine lv_goto (tgt := 3) hx hb dX7_clears_20 (by decide) ?_
        -- back 0
        exact ih3 (i + 1) (upd g (Int32.toNatClampNeg (nI i)) 0) (by first | assumption | omega) (by first | assumption | omega) (clA_s hi8 (by omega) hg) (by omega) H _ ls (lv_sub hl [0, 1, 2, 3] rfl) hw
  exact loop3 ((985 - 8) + 1) 8 M (by first | assumption | omega) (by first | assumption | omega) (fun j => ⟨fun _ => rfl, fun h98 h99 => absurd h99 (Nat.not_lt.mpr h98)⟩) (Nat.lt_succ_self _) H _ ls (lv_sub hl [0, 1, 2, 3] rfl) hw

abbrev rmX7_heightens : Room := { frames := 1, cells := 0, slots := 0, locals := 21 }
set_option maxHeartbeats 4000000 in
set_option maxRecDepth 100000 in
theorem c_X7_heightens (l : Launch) (E : kE) (m0 : Nat) (A0 : Nat) (V0 : Nat) (Z0 : Nat) (D0 : Nat) (W0 : Nat) (T0 : Nat) (sm : Int32) (th : Int32) (pl : Int32) (hz : Int32) (tl : Int32) (tw : Int32) (tc : Int32) (h : Nat) (w : Nat) (wd : Int32) (s0 : Int32) (z : Int32) (st : Nat → Int32) (he : Nat → Int32) (ke : Nat → Int32) (tu : Nat → Int32) (ca : Nat → Int32) (tr : Nat → Int32) (co : Nat → Int32) (la : Nat → Int32) (k : Nat) (v : Int32) (hG : kG h w) (hc : k < h * w) : kC E l yX7_heightens wsX7_heightens rmX7_heightens [.ref m0, .int (nI k), .int v] (List.flatten [oc m0 7 [.ref A0, .ref V0, .ref Z0, .int sm, .int th, .int pl, .int hz, .ref D0, .ref W0, .ref T0, .int tl, .int tw, .int tc], ac E A0 985 (mA h w wd s0 z st he ke tu ca tr co la)]) kV (fun (_ : Unit) (_ : Unit) => True) (fun _ => List.flatten [oc m0 7 [.ref A0, .ref V0, .ref Z0, .int sm, .int th, .int pl, .int hz, .ref D0, .ref W0, .ref T0, .int tl, .int tw, .int tc], ac E A0 985 (mA h w wd s0 z st (upd he k v) (upd ke k v) tu ca tr co la)]) 0 0 := by
  refine k_body (cc := cX7_heightens) (maxL := 3) (ret := none) (by decide) rfl (Nat.le_of_ble_eq_true rfl) ?_
  intro pp ee sx mm aa bb me cd H locs AA ls C0 hr hlk hnm hl hw
  obtain ⟨hx, hb, hml, hown, hts⟩ := id C0
  have hl : lv_has ls 3 [(0, .ref m0), (1, .int (nI k)), (2, .int v)] := hl
  have hw : kW E AA sx (List.flatten [oc m0 7 [.ref A0, .ref V0, .ref Z0, .int sm, .int th, .int pl, .int hz, .ref D0, .ref W0, .ref T0, .int tl, .int tw, .int tc], ac E A0 985 (mA h w wd s0 z st he ke tu ca tr co la)]) H locs := hw
  have hn9 := kG_n hG
  have hG9 := id hG
  obtain ⟨hG1, hG2, hG3, hG4⟩ := hG9
  have hinX7 : ∀ w ∈ u_ws RX7 TX7 13, w ∈ wsX7_heightens := by decide +kernel
  refine lv_aload_n hx hb dX7_heightens_0 rfl (lv_at hl 0 rfl) ?_
  refine k_get (pre := []) C0 hw hinX7 rfl 0 (by decide) (hts (.fieldLink RX7 7 "SlabDunesModel" "all" "[I") (by decide +kernel)) rfl rfl dX7_heightens_1 ?_
  refine lv_iload_n hx hb dX7_heightens_4 rfl (lv_at hl 1 rfl) ?_
  refine lv_iconst (v := 0) hx hb dX7_heightens_5 (by decide) ?_
  refine k_S (As := [.int (nI k), .int 0]) (rest := [.ref A0]) (pre := []) (mid := []) C0 (c_X7_at l E k 0 ) (va_cwS 2 hts gX7_heightens_X7_at rfl rfl rfl (by decide +kernel) ⟨Nat.le_of_ble_eq_true rfl, Nat.le_of_ble_eq_true rfl⟩) hw rfl (fun _ => []) (fun _ => rfl) rfl hl.1 rfl (Nat.le_of_ble_eq_true rfl) dX7_heightens_6 ⟨Nat.le_of_ble_eq_true rfl, Nat.le_of_ble_eq_true rfl⟩ (fun r u H locs hq99 hw => ?_)
  subst hq99
  have hw : kW E AA sx (List.flatten [oc m0 7 [.ref A0, .ref V0, .ref Z0, .int sm, .int th, .int pl, .int hz, .ref D0, .ref W0, .ref T0, .int tl, .int tw, .int tc], ac E A0 985 (mA h w wd s0 z st he ke tu ca tr co la)]) H locs := hw
  refine W.eq (g2 := F0 mm 9 ls [.int (nI (25 + 5 * k + 0)), .ref A0]) rfl ?_
  refine lv_iload_n hx hb dX7_heightens_9 rfl (lv_at hl 2 rfl) ?_
  refine k_iast (pre := [oc m0 7 [.ref A0, .ref V0, .ref Z0, .int sm, .int th, .int pl, .int hz, .ref D0, .ref W0, .ref T0, .int tl, .int tw, .int tc]]) (l1 := []) C0 hw (i := nI (25 + 5 * k + 0)) (kinN (by omega) (by decide)) dX7_heightens_10 (fun H locs hw => ?_)
  have hw : kW E AA sx (List.flatten [oc m0 7 [.ref A0, .ref V0, .ref Z0, .int sm, .int th, .int pl, .int hz, .ref D0, .ref W0, .ref T0, .int tl, .int tw, .int tc], ac E A0 985 (upd (mA h w wd s0 z st he ke tu ca tr co la) (Int32.toNatClampNeg (nI (25 + 5 * k + 0))) v)]) H locs := hw
  have hw : kW E AA sx (List.flatten [oc m0 7 [.ref A0, .ref V0, .ref Z0, .int sm, .int th, .int pl, .int hz, .ref D0, .ref W0, .ref T0, .int tl, .int tw, .int tc], ac E A0 985 (mA h w wd s0 z st (upd he k v) ke tu ca tr co la)]) H locs := kW.arr (pre := [oc m0 7 [.ref A0, .ref V0, .ref Z0, .int sm, .int th, .int pl, .int hz, .ref D0, .ref W0, .ref T0, .int tl, .int tw, .int tc]]) (l1 := []) hw (fun j _ => mA_wh hc hn9.1 j)
  refine lv_aload_n hx hb dX7_heightens_11 rfl (lv_at hl 0 rfl) ?_
  refine k_get (pre := []) C0 hw hinX7 rfl 0 (by decide) (hts (.fieldLink RX7 7 "SlabDunesModel" "all" "[I") (by decide +kernel)) rfl rfl dX7_heightens_12 ?_
  refine lv_iload_n hx hb dX7_heightens_15 rfl (lv_at hl 1 rfl) ?_
  refine lv_iconst (v := 4) hx hb dX7_heightens_16 (by decide) ?_
  refine k_S (As := [.int (nI k), .int 4]) (rest := [.ref A0]) (pre := []) (mid := []) C0 (c_X7_at l E k 4 ) (va_cwS 2 hts gX7_heightens_X7_at rfl rfl rfl (by decide +kernel) ⟨Nat.le_of_ble_eq_true rfl, Nat.le_of_ble_eq_true rfl⟩) hw rfl (fun _ => []) (fun _ => rfl) rfl hl.1 rfl (Nat.le_of_ble_eq_true rfl) dX7_heightens_17 ⟨Nat.le_of_ble_eq_true rfl, Nat.le_of_ble_eq_true rfl⟩ (fun r u H locs hq99 hw => ?_)
  subst hq99
  have hw : kW E AA sx (List.flatten [oc m0 7 [.ref A0, .ref V0, .ref Z0, .int sm, .int th, .int pl, .int hz, .ref D0, .ref W0, .ref T0, .int tl, .int tw, .int tc], ac E A0 985 (mA h w wd s0 z st (upd he k v) ke tu ca tr co la)]) H locs := hw
  refine W.eq (g2 := F0 mm 20 ls [.int (nI (25 + 5 * k + 4)), .ref A0]) rfl ?_
  refine lv_iload_n hx hb dX7_heightens_20 rfl (lv_at hl 2 rfl) ?_
  refine k_iast (pre := [oc m0 7 [.ref A0, .ref V0, .ref Z0, .int sm, .int th, .int pl, .int hz, .ref D0, .ref W0, .ref T0, .int tl, .int tw, .int tc]]) (l1 := []) C0 hw (i := nI (25 + 5 * k + 4)) (kinN (by omega) (by decide)) dX7_heightens_21 (fun H locs hw => ?_)
  have hw : kW E AA sx (List.flatten [oc m0 7 [.ref A0, .ref V0, .ref Z0, .int sm, .int th, .int pl, .int hz, .ref D0, .ref W0, .ref T0, .int tl, .int tw, .int tc], ac E A0 985 (upd (mA h w wd s0 z st (upd he k v) ke tu ca tr co la) (Int32.toNatClampNeg (nI (25 + 5 * k + 4))) v)]) H locs := hw
  have hw : kW E AA sx (List.flatten [oc m0 7 [.ref A0, .ref V0, .ref Z0, .int sm, .int th, .int pl, .int hz, .ref D0, .ref W0, .ref T0, .int tl, .int tw, .int tc], ac E A0 985 (mA h w wd s0 z st (upd he k v) (upd ke k v) tu ca tr co la)]) H locs := kW.arr (pre := [oc m0 7 [.ref A0, .ref V0, .ref Z0, .int sm, .int th, .int pl, .int hz, .ref D0, .ref W0, .ref T0, .int tl, .int tw, .int tc]]) (l1 := []) hw (fun j _ => mA_wk hc hn9.1 j)
  -- leaf 0
  exact k_vret C0 hr hlk hw () (rfl) (trivial) (Nat.le_of_ble_eq_true rfl) (Nat.le_of_ble_eq_true rfl) dX7_heightens_22

abbrev rmX7_fences : Room := { frames := 1, cells := 0, slots := 0, locals := 21 }
set_option maxHeartbeats 4000000 in
set_option maxRecDepth 100000 in
theorem c_X7_fences (l : Launch) (E : kE) (m0 : Nat) (A0 : Nat) (V0 : Nat) (Z0 : Nat) (D0 : Nat) (W0 : Nat) (T0 : Nat) (sm : Int32) (th : Int32) (pl : Int32) (hz : Int32) (tl : Int32) (tw : Int32) (tc : Int32) (h : Nat) (w : Nat) (wd : Int32) (s0 : Int32) (z : Int32) (st : Nat → Int32) (he : Nat → Int32) (ke : Nat → Int32) (tu : Nat → Int32) (ca : Nat → Int32) (tr : Nat → Int32) (co : Nat → Int32) (la : Nat → Int32) (k : Nat) (v : Int32) (hG : kG h w) (hc : k < h * w) : kC E l yX7_fences wsX7_fences rmX7_fences [.ref m0, .int (nI k), .int v] (List.flatten [oc m0 7 [.ref A0, .ref V0, .ref Z0, .int sm, .int th, .int pl, .int hz, .ref D0, .ref W0, .ref T0, .int tl, .int tw, .int tc], ac E A0 985 (mA h w wd s0 z st he ke tu ca tr co la)]) kV (fun (_ : Unit) (_ : Unit) => True) (fun _ => List.flatten [oc m0 7 [.ref A0, .ref V0, .ref Z0, .int sm, .int th, .int pl, .int hz, .ref D0, .ref W0, .ref T0, .int tl, .int tw, .int tc], ac E A0 985 (mA h w wd s0 z st he ke tu (upd ca k v) (upd tr k 0) co la)]) 0 0 := by
  refine k_body (cc := cX7_fences) (maxL := 3) (ret := none) (by decide) rfl (Nat.le_of_ble_eq_true rfl) ?_
  intro pp ee sx mm aa bb me cd H locs AA ls C0 hr hlk hnm hl hw
  obtain ⟨hx, hb, hml, hown, hts⟩ := id C0
  have hl : lv_has ls 3 [(0, .ref m0), (1, .int (nI k)), (2, .int v)] := hl
  have hw : kW E AA sx (List.flatten [oc m0 7 [.ref A0, .ref V0, .ref Z0, .int sm, .int th, .int pl, .int hz, .ref D0, .ref W0, .ref T0, .int tl, .int tw, .int tc], ac E A0 985 (mA h w wd s0 z st he ke tu ca tr co la)]) H locs := hw
  have hn9 := kG_n hG
  have hG9 := id hG
  obtain ⟨hG1, hG2, hG3, hG4⟩ := hG9
  have hinX7 : ∀ w ∈ u_ws RX7 TX7 13, w ∈ wsX7_fences := by decide +kernel
  refine lv_aload_n hx hb dX7_fences_0 rfl (lv_at hl 0 rfl) ?_
  refine k_get (pre := []) C0 hw hinX7 rfl 0 (by decide) (hts (.fieldLink RX7 7 "SlabDunesModel" "all" "[I") (by decide +kernel)) rfl rfl dX7_fences_1 ?_
  refine lv_iload_n hx hb dX7_fences_4 rfl (lv_at hl 1 rfl) ?_
  refine lv_iconst (v := 2) hx hb dX7_fences_5 (by decide) ?_
  refine k_S (As := [.int (nI k), .int 2]) (rest := [.ref A0]) (pre := []) (mid := []) C0 (c_X7_at l E k 2 ) (va_cwS 2 hts gX7_fences_X7_at rfl rfl rfl (by decide +kernel) ⟨Nat.le_of_ble_eq_true rfl, Nat.le_of_ble_eq_true rfl⟩) hw rfl (fun _ => []) (fun _ => rfl) rfl hl.1 rfl (Nat.le_of_ble_eq_true rfl) dX7_fences_6 ⟨Nat.le_of_ble_eq_true rfl, Nat.le_of_ble_eq_true rfl⟩ (fun r u H locs hq99 hw => ?_)
  subst hq99
  have hw : kW E AA sx (List.flatten [oc m0 7 [.ref A0, .ref V0, .ref Z0, .int sm, .int th, .int pl, .int hz, .ref D0, .ref W0, .ref T0, .int tl, .int tw, .int tc], ac E A0 985 (mA h w wd s0 z st he ke tu ca tr co la)]) H locs := hw
  refine W.eq (g2 := F0 mm 9 ls [.int (nI (25 + 5 * k + 2)), .ref A0]) rfl ?_
  refine lv_iload_n hx hb dX7_fences_9 rfl (lv_at hl 2 rfl) ?_
  refine k_iast (pre := [oc m0 7 [.ref A0, .ref V0, .ref Z0, .int sm, .int th, .int pl, .int hz, .ref D0, .ref W0, .ref T0, .int tl, .int tw, .int tc]]) (l1 := []) C0 hw (i := nI (25 + 5 * k + 2)) (kinN (by omega) (by decide)) dX7_fences_10 (fun H locs hw => ?_)
  have hw : kW E AA sx (List.flatten [oc m0 7 [.ref A0, .ref V0, .ref Z0, .int sm, .int th, .int pl, .int hz, .ref D0, .ref W0, .ref T0, .int tl, .int tw, .int tc], ac E A0 985 (upd (mA h w wd s0 z st he ke tu ca tr co la) (Int32.toNatClampNeg (nI (25 + 5 * k + 2))) v)]) H locs := hw
  refine lv_aload_n hx hb dX7_fences_11 rfl (lv_at hl 0 rfl) ?_
  refine k_get (pre := []) C0 hw hinX7 rfl 0 (by decide) (hts (.fieldLink RX7 7 "SlabDunesModel" "all" "[I") (by decide +kernel)) rfl rfl dX7_fences_12 ?_
  refine lv_iload_n hx hb dX7_fences_15 rfl (lv_at hl 1 rfl) ?_
  refine lv_iconst (v := 3) hx hb dX7_fences_16 (by decide) ?_
  refine k_S (As := [.int (nI k), .int 3]) (rest := [.ref A0]) (pre := []) (mid := []) C0 (c_X7_at l E k 3 ) (va_cwS 2 hts gX7_fences_X7_at rfl rfl rfl (by decide +kernel) ⟨Nat.le_of_ble_eq_true rfl, Nat.le_of_ble_eq_true rfl⟩) hw rfl (fun _ => []) (fun _ => rfl) rfl hl.1 rfl (Nat.le_of_ble_eq_true rfl) dX7_fences_17 ⟨Nat.le_of_ble_eq_true rfl, Nat.le_of_ble_eq_true rfl⟩ (fun r u H locs hq99 hw => ?_)
  subst hq99
  have hw : kW E AA sx (List.flatten [oc m0 7 [.ref A0, .ref V0, .ref Z0, .int sm, .int th, .int pl, .int hz, .ref D0, .ref W0, .ref T0, .int tl, .int tw, .int tc], ac E A0 985 (upd (mA h w wd s0 z st he ke tu ca tr co la) (Int32.toNatClampNeg (nI (25 + 5 * k + 2))) v)]) H locs := hw
  refine W.eq (g2 := F0 mm 20 ls [.int (nI (25 + 5 * k + 3)), .ref A0]) rfl ?_
  have join20 : ∀ (H : Heap) (locs : List Loc) (ls : Array Slot), lv_has ls 3 [(0, .ref m0), (1, .int (nI k)), (2, .int v)] → kW E AA sx (List.flatten [oc m0 7 [.ref A0, .ref V0, .ref Z0, .int sm, .int th, .int pl, .int hz, .ref D0, .ref W0, .ref T0, .int tl, .int tw, .int tc], ac E A0 985 (upd (mA h w wd s0 z st he ke tu ca tr co la) (Int32.toNatClampNeg (nI (25 + 5 * k + 2))) v)]) H locs → W pp l ee rmX7_fences sx mm aa bb me cd H locs 0 0 (kEnd E kV (fun (_ : Unit) (_ : Unit) => True) (fun _ => List.flatten [oc m0 7 [.ref A0, .ref V0, .ref Z0, .int sm, .int th, .int pl, .int hz, .ref D0, .ref W0, .ref T0, .int tl, .int tw, .int tc], ac E A0 985 (mA h w wd s0 z st he ke tu (upd ca k v) (upd tr k 0) co la)]) bb aa sx AA 0 0) (F0 mm 30 ls [.int (if v = -1 then -1 else 0), .int (nI (25 + 5 * k + 3)), .ref A0]) := by
    intro H locs ls hl hw
    refine k_iast (pre := [oc m0 7 [.ref A0, .ref V0, .ref Z0, .int sm, .int th, .int pl, .int hz, .ref D0, .ref W0, .ref T0, .int tl, .int tw, .int tc]]) (l1 := []) C0 hw (i := nI (25 + 5 * k + 3)) (kinN (by omega) (by decide)) dX7_fences_30 (fun H locs hw => ?_)
    have hw : kW E AA sx (List.flatten [oc m0 7 [.ref A0, .ref V0, .ref Z0, .int sm, .int th, .int pl, .int hz, .ref D0, .ref W0, .ref T0, .int tl, .int tw, .int tc], ac E A0 985 (upd (upd (mA h w wd s0 z st he ke tu ca tr co la) (Int32.toNatClampNeg (nI (25 + 5 * k + 2))) v) (Int32.toNatClampNeg (nI (25 + 5 * k + 3))) (if v = -1 then -1 else 0))]) H locs := hw
    have hw : kW E AA sx (List.flatten [oc m0 7 [.ref A0, .ref V0, .ref Z0, .int sm, .int th, .int pl, .int hz, .ref D0, .ref W0, .ref T0, .int tl, .int tw, .int tc], ac E A0 985 (mA h w wd s0 z st he ke tu (upd ca k v) (upd tr k 0) co la)]) H locs := kW.arr (pre := [oc m0 7 [.ref A0, .ref V0, .ref Z0, .int sm, .int th, .int pl, .int hz, .ref D0, .ref W0, .ref T0, .int tl, .int tw, .int tc]]) (l1 := []) hw (fun j _ => mA_fn hc hn9.1 j)
    -- leaf 0
    exact k_vret C0 hr hlk hw () (rfl) (trivial) (Nat.le_of_ble_eq_true rfl) (Nat.le_of_ble_eq_true rfl) dX7_fences_31
  refine lv_iload_n hx hb dX7_fences_20 rfl (lv_at hl 2 rfl) ?_
  refine lv_iconst (v := (-1)) hx hb dX7_fences_21 (by decide) ?_
  refine lv_icmp_ne (tgt := 29) hx hb dX7_fences_22 (by decide) (fun c22 => ?_) (fun c22 => ?_)
  · refine lv_iconst (v := 0) hx hb dX7_fences_29 (by decide) ?_
    refine W.eq (g2 := F0 mm 30 ls [.int (if v = -1 then -1 else 0), .int (nI (25 + 5 * k + 3)), .ref A0]) (congrArg (fun z9 => F0 mm 30 ls [.int z9, .int (nI (25 + 5 * k + 3)), .ref A0]) (show (0 : Int32) = if v = -1 then -1 else 0 from (if_neg c22).symm)) ?_
    exact join20 H _ ls (lv_sub hl [0, 1, 2] rfl) hw
  · refine lv_iconst (v := (-1)) hx hb dX7_fences_25 (by decide) ?_
    refine lv_goto (tgt := 30) hx hb dX7_fences_26 (by decide) ?_
    refine W.eq (g2 := F0 mm 30 ls [.int (if v = -1 then -1 else 0), .int (nI (25 + 5 * k + 3)), .ref A0]) (congrArg (fun z9 => F0 mm 30 ls [.int z9, .int (nI (25 + 5 * k + 3)), .ref A0]) (show ((-1) : Int32) = if v = -1 then -1 else 0 from (if_pos c22).symm)) ?_
    exact join20 H _ ls (lv_sub hl [0, 1, 2] rfl) hw
