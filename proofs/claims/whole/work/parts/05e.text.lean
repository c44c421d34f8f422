/-! THE TEXT: bytes and syntax; the static methods -/
/-- the parser: n bytes are left; rows, columns, digits in the row, place: the error's place or none, rows and columns then -/
def epL (f : Nat → Int32) (m : Nat) : Nat → Nat → Nat → Nat → Nat → Int32 × (Nat × Nat)
  | 0, r, c, i, _ => (if 3 ≤ r ∧ i = c then (-1, (r, c)) else (nI m, (r, c)))
  | n + 1, r, c, i, p =>
    if ¬ f p < 48 ∧ ¬ 57 < f p then
      (if i < (if r = 1 then 16 else c) then epL f m n r c (i + 1) (p + 1) else (nI p, (r, c)))
    else if f p = 47 then
      (if i < (if r = 1 then 3 else c) ∨ ¬ r < 12 then (nI p, (r, c)) else epL f m n (r + 1) i 0 (p + 1))
    else (nI p, (r, c))
theorem epL_s (f : Nat → Int32) (m n r c i p : Nat) : epL f m (n + 1) r c i p =
    if ¬ f p < 48 ∧ ¬ 57 < f p then
      (if i < (if r = 1 then 16 else c) then epL f m n r c (i + 1) (p + 1) else (nI p, (r, c)))
    else if f p = 47 then
      (if i < (if r = 1 then 3 else c) ∨ ¬ r < 12 then (nI p, (r, c)) else epL f m n (r + 1) i 0 (p + 1))
    else (nI p, (r, c)) := rfl
theorem epL_0 (f : Nat → Int32) (m r c i p : Nat) : epL f m 0 r c i p = (if 3 ≤ r ∧ i = c then (-1, (r, c)) else (nI m, (r, c))) := rfl
theorem khz (a b : Int32) (x : Int64) (h : x = 31 * a.toInt64 + b.toInt64) : x = 31 * a.toInt64 + b.toInt64 := h
abbrev rmX6_within : Room := { frames := 0, cells := 0, slots := 0, locals := 0 }
set_option maxHeartbeats 4000000 in
set_option maxRecDepth 100000 in
theorem c_X6_within (l : Launch) (E : kE) (v : Int32) (lo : Int32) (hi : Int32)  : kC E l yX6_within wsX6_within rmX6_within [.int v, .int lo, .int hi] (([] : va_W)) kI (fun (r : Int32) (_ : Unit) => r = if ¬ v < lo ∧ ¬ hi < v then 1 else 0) (fun _ => ([] : va_W)) 0 0 := by
  refine k_body (cc := cX6_within) (maxL := 3) (ret := (some .boolean)) (by decide) rfl (Nat.le_of_ble_eq_true rfl) ?_
  intro pp ee sx mm aa bb me cd H locs AA ls C0 hr hlk hnm hl hw
  obtain ⟨hx, hb, hml, hown, hts⟩ := id C0
  have hl : lv_has ls 3 [(0, .int v), (1, .int lo), (2, .int hi)] := hl
  have hw : kW E AA sx (List.flatten []) H locs := hw
  refine lv_iload_n hx hb dX6_within_0 rfl (lv_at hl 0 rfl) ?_
  refine lv_iload_n hx hb dX6_within_1 rfl (lv_at hl 1 rfl) ?_
  refine lv_icmp_lt (tgt := 14) hx hb dX6_within_2 (by decide) (fun c2 => ?_) (fun c2 => ?_)
  · refine lv_iconst (v := 0) hx hb dX6_within_14 (by decide) ?_
    -- leaf 0
    exact k_zret C0 hr hlk hw () (rfl) (by rw [if_neg (fun h99 => h99.1 c2)]) (rfl) (Nat.le_of_ble_eq_true rfl) (Nat.le_of_ble_eq_true rfl) dX6_within_15
  · refine lv_iload_n hx hb dX6_within_5 rfl (lv_at hl 0 rfl) ?_
    refine lv_iload_n hx hb dX6_within_6 rfl (lv_at hl 2 rfl) ?_
    refine lv_icmp_gt (tgt := 14) hx hb dX6_within_7 (by decide) (fun c7 => ?_) (fun c7 => ?_)
    · refine lv_iconst (v := 0) hx hb dX6_within_14 (by decide) ?_
      -- leaf 1
      exact k_zret C0 hr hlk hw () (rfl) (by rw [if_neg (fun h99 => h99.2 c7)]) (rfl) (Nat.le_of_ble_eq_true rfl) (Nat.le_of_ble_eq_true rfl) dX6_within_15
    · refine lv_iconst (v := 1) hx hb dX6_within_10 (by decide) ?_
      refine lv_goto (tgt := 15) hx hb dX6_within_11 (by decide) ?_
      -- leaf 2
      exact k_zret C0 hr hlk hw () (rfl) (by rw [if_pos ⟨c2, c7⟩]) (rfl) (Nat.le_of_ble_eq_true rfl) (Nat.le_of_ble_eq_true rfl) dX6_within_15

abbrev rmX6_hashed : Room := { frames := 0, cells := 0, slots := 0, locals := 0 }
set_option maxHeartbeats 4000000 in
set_option maxRecDepth 100000 in
theorem c_X6_hashed (l : Launch) (E : kE) (x : Int64) (v : Int32)  : kC E l yX6_hashed wsX6_hashed rmX6_hashed [.long x, .int v] (([] : va_W)) kL (fun (r : Int64) (_ : Unit) => r = 31 * x + v.toInt64) (fun _ => ([] : va_W)) 0 0 := by
  refine k_body (cc := cX6_hashed) (maxL := 3) (ret := (some .long)) (by decide) rfl (Nat.le_of_ble_eq_true rfl) ?_
  intro pp ee sx mm aa bb me cd H locs AA ls C0 hr hlk hnm hl hw
  obtain ⟨hx, hb, hml, hown, hts⟩ := id C0
  have hl : lv_has ls 3 [(0, .long x), (2, .int v)] := hl
  have hw : kW E AA sx (List.flatten []) H locs := hw
  refine lv_ldc2 (v := 31) hx hb hown (hts (.constantLong RX6 240 31) (by decide +kernel)) dX6_hashed_0 ?_
  refine lv_lload_n hx hb dX6_hashed_3 rfl (lv_at hl 0 rfl) ?_
  refine lv_lmul hx hb dX6_hashed_4 ?_
  refine lv_iload_n hx hb dX6_hashed_5 rfl (lv_at hl 1 rfl) ?_
  refine lv_i2l (v := v.toInt64) hx hb dX6_hashed_6 rfl ?_
  refine lv_ladd hx hb dX6_hashed_7 ?_
  -- leaf 0
  exact k_lret C0 hr hlk hw () (rfl) (rfl) (Nat.le_of_ble_eq_true rfl) (Nat.le_of_ble_eq_true rfl) dX6_hashed_8

abbrev rmX2_addByte : Room := { frames := 1, cells := 0, slots := 0, locals := 22 }
set_option maxHeartbeats 4000000 in
set_option maxRecDepth 100000 in
theorem c_X2_addByte (l : Launch) (E : kE) (t : Nat → Nat) (by0 : Nat → Int32) (m9 : Nat) (r9 : Nat) (c9 : Nat) (v : Int32) (hm9 : m9 < 220) : kC E l yX2_addByte wsX2_addByte rmX2_addByte [.ref (t 0), .int v] (tx E t by0 (nI m9) (nI r9) (nI c9)) kV (fun (_ : Unit) (_ : Unit) => True) (fun _ => tx E t (upd by0 m9 v) (nI (m9 + 1)) (nI r9) (nI c9)) 0 0 := by
  refine k_body (cc := cX2_addByte) (maxL := 2) (ret := none) (by decide) rfl (Nat.le_of_ble_eq_true rfl) ?_
  intro pp ee sx mm aa bb me cd H locs AA ls C0 hr hlk hnm hl hw
  obtain ⟨hx, hb, hml, hown, hts⟩ := id C0
  have hl : lv_has ls 2 [(0, .ref (t 0)), (1, .int v)] := hl
  have hw : kW E AA sx (List.flatten [oc (t 0) 2 [.ref (t 1), .int (nI m9), .int (nI r9), .int (nI c9)], rc E (t 1) (t 2) 220 by0]) H locs := hw
  have hinX2 : ∀ w ∈ u_ws RX2 TX2 4, w ∈ wsX2_addByte := by decide +kernel
  refine lv_aload_n hx hb dX2_addByte_0 rfl (lv_at hl 0 rfl) ?_
  refine k_get (pre := []) C0 hw hinX2 rfl 0 (by decide) (hts (.fieldLink RX2 14 "SlabDunes$FieldText" "bytes" "LSlabDunes$Row;") (by decide +kernel)) rfl rfl dX2_addByte_1 ?_
  refine lv_aload_n hx hb dX2_addByte_4 rfl (lv_at hl 0 rfl) ?_
  refine k_get (pre := []) C0 hw hinX2 rfl 1 (by decide) (hts (.fieldLink RX2 20 "SlabDunes$FieldText" "length" "I") (by decide +kernel)) rfl rfl dX2_addByte_5 ?_
  refine lv_iload_n hx hb dX2_addByte_8 rfl (lv_at hl 1 rfl) ?_
  refine k_V (As := [.int (nI m9), .int v]) (rest := []) (pre := [oc (t 0) 2 [.ref (t 1), .int (nI m9), .int (nI r9), .int (nI c9)]]) (mid := [rc E (t 1) (t 2) 220 by0]) C0 (c_X4_putN l E (t 1) (t 2) 220 by0 m9 v (by first | assumption | omega) (by first | assumption | omega)) (cwV 2 hts gX2_addByte_X4_put rfl rfl rfl (by decide +kernel) ⟨Nat.le_of_ble_eq_true rfl, Nat.le_of_ble_eq_true rfl⟩) hw rfl (fun _ => [rc E (t 1) (t 2) 220 (upd by0 m9 v)]) (fun _ => rfl) 0 4 rfl rfl rfl rfl hl.1 rfl (Nat.le_of_ble_eq_true rfl) dX2_addByte_9 ⟨Nat.le_of_ble_eq_true rfl, Nat.le_of_ble_eq_true rfl⟩ (fun r u H locs hq99 hw => ?_)
  have hw : kW E AA sx (List.flatten [oc (t 0) 2 [.ref (t 1), .int (nI m9), .int (nI r9), .int (nI c9)], rc E (t 1) (t 2) 220 (upd by0 m9 v)]) H locs := hw
  refine W.eq (g2 := F0 mm 12 ls []) rfl ?_
  refine lv_aload_n hx hb dX2_addByte_12 rfl (lv_at hl 0 rfl) ?_
  refine lv_dup hx hb dX2_addByte_13 rfl ?_
  refine k_get (pre := []) C0 hw hinX2 rfl 1 (by decide) (hts (.fieldLink RX2 20 "SlabDunes$FieldText" "length" "I") (by decide +kernel)) rfl rfl dX2_addByte_14 ?_
  refine lv_iconst (v := 1) hx hb dX2_addByte_17 (by decide) ?_
  refine lv_iadd hx hb dX2_addByte_18 ?_
  refine W.eq (g2 := F0 mm 19 ls [.int (nI (m9 + 1)), .ref (t 0)]) (congrArg (fun z9 => F0 mm 19 ls [.int z9, .ref (t 0)]) (show ((nI m9) + 1 : Int32) = nI (m9 + 1) from nI_1 _)) ?_
  refine k_put (pre := []) C0 hw hinX2 tyX2 tyX2_ok nmX2 rfl 1 (by decide) (hts (.fieldLink RX2 20 "SlabDunes$FieldText" "length" "I") (by decide +kernel)) rfl rfl (ty := .int) (by decide +kernel) rfl rfl (Nat.le_of_ble_eq_true rfl) dX2_addByte_19 (fun H locs hw => ?_)
  have hw : kW E AA sx (List.flatten [oc (t 0) 2 [.ref (t 1), .int (nI (m9 + 1)), .int (nI r9), .int (nI c9)], rc E (t 1) (t 2) 220 (upd by0 m9 v)]) H locs := hw
  -- leaf 0
  exact k_vret C0 hr hlk hw () (rfl) (trivial) (Nat.le_of_ble_eq_true rfl) (Nat.le_of_ble_eq_true rfl) dX2_addByte_22

abbrev rmX2_mostInRow : Room := { frames := 0, cells := 0, slots := 0, locals := 0 }
set_option maxHeartbeats 4000000 in
set_option maxRecDepth 100000 in
theorem c_X2_mostInRow (l : Launch) (E : kE) (t : Nat → Nat) (by0 : Nat → Int32) (m9 : Nat) (r9 : Nat) (c9 : Nat) (hr9 : r9 < 1000) : kC E l yX2_mostInRow wsX2_mostInRow rmX2_mostInRow [.ref (t 0)] (tx E t by0 (nI m9) (nI r9) (nI c9)) kI (fun (r : Int32) (_ : Unit) => r = nI (if r9 = 1 then 16 else c9)) (fun _ => tx E t by0 (nI m9) (nI r9) (nI c9)) 0 0 := by
  refine k_body (cc := cX2_mostInRow) (maxL := 1) (ret := (some .int)) (by decide) rfl (Nat.le_of_ble_eq_true rfl) ?_
  intro pp ee sx mm aa bb me cd H locs AA ls C0 hr hlk hnm hl hw
  obtain ⟨hx, hb, hml, hown, hts⟩ := id C0
  have hl : lv_has ls 1 [(0, .ref (t 0))] := hl
  have hw : kW E AA sx (List.flatten [oc (t 0) 2 [.ref (t 1), .int (nI m9), .int (nI r9), .int (nI c9)], rc E (t 1) (t 2) 220 by0]) H locs := hw
  have hinX2 : ∀ w ∈ u_ws RX2 TX2 4, w ∈ wsX2_mostInRow := by decide +kernel
  refine lv_aload_n hx hb dX2_mostInRow_0 rfl (lv_at hl 0 rfl) ?_
  refine k_get (pre := []) C0 hw hinX2 rfl 2 (by decide) (hts (.fieldLink RX2 28 "SlabDunes$FieldText" "rows" "I") (by decide +kernel)) rfl rfl dX2_mostInRow_1 ?_
  refine lv_iconst (v := 1) hx hb dX2_mostInRow_4 (by decide) ?_
  refine lv_icmp_ne (tgt := 13) hx hb dX2_mostInRow_5 (by decide) (fun c5 => ?_) (fun c5 => ?_)
  · have c5 : ¬ r9 = 1 := fun h99 => c5 ((nI_eq (a := r9) (b := 1) (by omega) (by omega)).mpr h99)
    refine lv_aload_n hx hb dX2_mostInRow_13 rfl (lv_at hl 0 rfl) ?_
    refine k_get (pre := []) C0 hw hinX2 rfl 3 (by decide) (hts (.fieldLink RX2 31 "SlabDunes$FieldText" "columns" "I") (by decide +kernel)) rfl rfl dX2_mostInRow_14 ?_
    -- leaf 0
    exact k_iret C0 hr hlk hw () (rfl) (by rw [if_neg c5]) (Nat.le_of_ble_eq_true rfl) (Nat.le_of_ble_eq_true rfl) dX2_mostInRow_17
  · have c5 : r9 = 1 := (nI_eq (a := r9) (b := 1) (by omega) (by omega)).mp c5
    refine lv_bipush (v := 16) hx hb dX2_mostInRow_8 (by decide) ?_
    refine lv_goto (tgt := 17) hx hb dX2_mostInRow_10 (by decide) ?_
    -- leaf 1
    exact k_iret C0 hr hlk hw () (rfl) (by rw [if_pos c5]; rfl) (Nat.le_of_ble_eq_true rfl) (Nat.le_of_ble_eq_true rfl) dX2_mostInRow_17

abbrev rmX2_leastInRow : Room := { frames := 0, cells := 0, slots := 0, locals := 0 }
set_option maxHeartbeats 4000000 in
set_option maxRecDepth 100000 in
theorem c_X2_leastInRow (l : Launch) (E : kE) (t : Nat → Nat) (by0 : Nat → Int32) (m9 : Nat) (r9 : Nat) (c9 : Nat) (hr9 : r9 < 1000) : kC E l yX2_leastInRow wsX2_leastInRow rmX2_leastInRow [.ref (t 0)] (tx E t by0 (nI m9) (nI r9) (nI c9)) kI (fun (r : Int32) (_ : Unit) => r = nI (if r9 = 1 then 3 else c9)) (fun _ => tx E t by0 (nI m9) (nI r9) (nI c9)) 0 0 := by
  refine k_body (cc := cX2_leastInRow) (maxL := 1) (ret := (some .int)) (by decide) rfl (Nat.le_of_ble_eq_true rfl) ?_
  intro pp ee sx mm aa bb me cd H locs AA ls C0 hr hlk hnm hl hw
  obtain ⟨hx, hb, hml, hown, hts⟩ := id C0
  have hl : lv_has ls 1 [(0, .ref (t 0))] := hl
  have hw : kW E AA sx (List.flatten [oc (t 0) 2 [.ref (t 1), .int (nI m9), .int (nI r9), .int (nI c9)], rc E (t 1) (t 2) 220 by0]) H locs := hw
  have hinX2 : ∀ w ∈ u_ws RX2 TX2 4, w ∈ wsX2_leastInRow := by decide +kernel
  refine lv_aload_n hx hb dX2_leastInRow_0 rfl (lv_at hl 0 rfl) ?_
  refine k_get (pre := []) C0 hw hinX2 rfl 2 (by decide) (hts (.fieldLink RX2 28 "SlabDunes$FieldText" "rows" "I") (by decide +kernel)) rfl rfl dX2_leastInRow_1 ?_
  refine lv_iconst (v := 1) hx hb dX2_leastInRow_4 (by decide) ?_
  refine lv_icmp_ne (tgt := 12) hx hb dX2_leastInRow_5 (by decide) (fun c5 => ?_) (fun c5 => ?_)
  · have c5 : ¬ r9 = 1 := fun h99 => c5 ((nI_eq (a := r9) (b := 1) (by omega) (by omega)).mpr h99)
    refine lv_aload_n hx hb dX2_leastInRow_12 rfl (lv_at hl 0 rfl) ?_
    refine k_get (pre := []) C0 hw hinX2 rfl 3 (by decide) (hts (.fieldLink RX2 31 "SlabDunes$FieldText" "columns" "I") (by decide +kernel)) rfl rfl dX2_leastInRow_13 ?_
    -- leaf 0
    exact k_iret C0 hr hlk hw () (rfl) (by rw [if_neg c5]) (Nat.le_of_ble_eq_true rfl) (Nat.le_of_ble_eq_true rfl) dX2_leastInRow_16
  · have c5 : r9 = 1 := (nI_eq (a := r9) (b := 1) (by omega) (by omega)).mp c5
    refine lv_iconst (v := 3) hx hb dX2_leastInRow_8 (by decide) ?_
    refine lv_goto (tgt := 16) hx hb dX2_leastInRow_9 (by decide) ?_
    -- leaf 1
    exact k_iret C0 hr hlk hw () (rfl) (by rw [if_pos c5]; rfl) (Nat.le_of_ble_eq_true rfl) (Nat.le_of_ble_eq_true rfl) dX2_leastInRow_16

abbrev rmX2_heightOf : Room := { frames := 1, cells := 0, slots := 0, locals := 21 }
set_option maxHeartbeats 4000000 in
set_option maxRecDepth 100000 in
theorem c_X2_heightOf (l : Launch) (E : kE) (t : Nat → Nat) (by0 : Nat → Int32) (m9 : Nat) (r9 : Nat) (c9 : Nat) (k : Nat) (hc0 : 0 < c9) (hc1 : c9 < 1000) (hk : k + k / c9 < 220) : kC E l yX2_heightOf wsX2_heightOf rmX2_heightOf [.ref (t 0), .int (nI k)] (tx E t by0 (nI m9) (nI r9) (nI c9)) kI (fun (r : Int32) (_ : Unit) => r = by0 (k + k / c9) - 48) (fun _ => tx E t by0 (nI m9) (nI r9) (nI c9)) 0 0 := by
  refine k_body (cc := cX2_heightOf) (maxL := 3) (ret := (some .int)) (by decide) rfl (Nat.le_of_ble_eq_true rfl) ?_
  intro pp ee sx mm aa bb me cd H locs AA ls C0 hr hlk hnm hl hw
  obtain ⟨hx, hb, hml, hown, hts⟩ := id C0
  have hl : lv_has ls 3 [(0, .ref (t 0)), (1, .int (nI k))] := hl
  have hw : kW E AA sx (List.flatten [oc (t 0) 2 [.ref (t 1), .int (nI m9), .int (nI r9), .int (nI c9)], rc E (t 1) (t 2) 220 by0]) H locs := hw
  have hinX2 : ∀ w ∈ u_ws RX2 TX2 4, w ∈ wsX2_heightOf := by decide +kernel
  have hk9 : k < 220 := Nat.lt_of_le_of_lt (Nat.le_add_right k (k / c9)) hk
  refine lv_aload_n hx hb dX2_heightOf_0 rfl (lv_at hl 0 rfl) ?_
  refine k_get (pre := []) C0 hw hinX2 rfl 3 (by decide) (hts (.fieldLink RX2 31 "SlabDunes$FieldText" "columns" "I") (by decide +kernel)) rfl rfl dX2_heightOf_1 ?_
  refine lv_if_gt (tgt := 9) hx hb dX2_heightOf_4 (by decide) (fun c4 => ?_) (fun c4 => absurd (nI_lt (a := 0) (b := c9) (by omega) (by omega)) c4)
  have c4 : 0 < c9 := (nI_ltI (a := 0) (b := c9) (by omega) (by omega)).mp c4
  refine lv_iload_n hx hb dX2_heightOf_9 rfl (lv_at hl 1 rfl) ?_
  refine lv_aload_n hx hb dX2_heightOf_10 rfl (lv_at hl 0 rfl) ?_
  refine k_get (pre := []) C0 hw hinX2 rfl 3 (by decide) (hts (.fieldLink RX2 31 "SlabDunes$FieldText" "columns" "I") (by decide +kernel)) rfl rfl dX2_heightOf_11 ?_
  refine lv_idiv hx hb dX2_heightOf_14 (nI_ne0 (by omega) (by omega)) ?_
  refine W.eq (g2 := F0 mm 15 ls [.int (nI (k / c9))]) (congrArg (fun z9 => F0 mm 15 ls [.int z9]) (show ((nI k) / (nI c9) : Int32) = nI (k / c9) from pk_div (by omega) (by omega) (by omega))) ?_
  refine lv_istore_n (lv' := [(2, .int (nI (k / c9))), (0, .ref (t 0)), (1, .int (nI k))]) hx hb dX2_heightOf_15 rfl hl (by decide) rfl (fun ls hl => ?_)
  refine lv_aload_n hx hb dX2_heightOf_16 rfl (lv_at hl 1 rfl) ?_
  refine k_get (pre := []) C0 hw hinX2 rfl 0 (by decide) (hts (.fieldLink RX2 14 "SlabDunes$FieldText" "bytes" "LSlabDunes$Row;") (by decide +kernel)) rfl rfl dX2_heightOf_17 ?_
  refine lv_iload_n hx hb dX2_heightOf_20 rfl (lv_at hl 2 rfl) ?_
  refine lv_iload_n hx hb dX2_heightOf_21 rfl (lv_at hl 0 rfl) ?_
  refine lv_iadd hx hb dX2_heightOf_22 ?_
  refine W.eq (g2 := F0 mm 23 ls [.int (nI (k + k / c9)), .ref (t 1)]) (congrArg (fun z9 => F0 mm 23 ls [.int z9, .ref (t 1)]) (show ((nI k) + (nI (k / c9)) : Int32) = nI (k + k / c9) from nI_add _ _)) ?_
  refine k_V (As := [.int (nI (k + k / c9))]) (rest := []) (pre := [oc (t 0) 2 [.ref (t 1), .int (nI m9), .int (nI r9), .int (nI c9)]]) (mid := [rc E (t 1) (t 2) 220 by0]) C0 (c_X4_atN l E (t 1) (t 2) 220 by0 (k + k / c9) (by first | assumption | omega) (by first | assumption | omega)) (cwV 1 hts gX2_heightOf_X4_at rfl rfl rfl (by decide +kernel) ⟨Nat.le_of_ble_eq_true rfl, Nat.le_of_ble_eq_true rfl⟩) hw rfl (fun _ => [rc E (t 1) (t 2) 220 by0]) (fun _ => rfl) 0 4 rfl rfl rfl rfl hl.1 rfl (Nat.le_of_ble_eq_true rfl) dX2_heightOf_23 ⟨Nat.le_of_ble_eq_true rfl, Nat.le_of_ble_eq_true rfl⟩ (fun r u H locs hq99 hw => ?_)
  subst hq99
  have hw : kW E AA sx (List.flatten [oc (t 0) 2 [.ref (t 1), .int (nI m9), .int (nI r9), .int (nI c9)], rc E (t 1) (t 2) 220 by0]) H locs := hw
  refine W.eq (g2 := F0 mm 26 ls [.int (by0 (k + k / c9))]) rfl ?_
  refine lv_bipush (v := 48) hx hb dX2_heightOf_26 (by decide) ?_
  refine lv_isub hx hb dX2_heightOf_28 ?_
  -- leaf 0
  exact k_iret C0 hr hlk hw () (rfl) (rfl) (Nat.le_of_ble_eq_true rfl) (Nat.le_of_ble_eq_true rfl) dX2_heightOf_29

abbrev rmX2_errorPosition : Room := { frames := 1, cells := 0, slots := 0, locals := 22 }
set_option maxHeartbeats 4000000 in
set_option maxRecDepth 100000 in
theorem c_X2_errorPosition (l : Launch) (E : kE) (t : Nat → Nat) (by0 : Nat → Int32) (m9 : Nat) (r9 : Nat) (c9 : Nat) (hm9 : m9 ≤ 220) : kC E l yX2_errorPosition wsX2_errorPosition rmX2_errorPosition [.ref (t 0)] (tx E t by0 (nI m9) (nI r9) (nI c9)) kI (fun (r : Int32) (_ : Unit) => r = (epL by0 m9 m9 1 0 0 0).1) (fun _ => tx E t by0 (nI m9) (nI (epL by0 m9 m9 1 0 0 0).2.1) (nI (epL by0 m9 m9 1 0 0 0).2.2)) 0 0 := by
  refine k_body (cc := cX2_errorPosition) (maxL := 4) (ret := (some .int)) (by decide) rfl (Nat.le_of_ble_eq_true rfl) ?_
  intro pp ee sx mm aa bb me cd H locs AA ls C0 hr hlk hnm hl hw
  obtain ⟨hx, hb, hml, hown, hts⟩ := id C0
  have hl : lv_has ls 4 [(0, .ref (t 0))] := hl
  have hw : kW E AA sx (List.flatten [oc (t 0) 2 [.ref (t 1), .int (nI m9), .int (nI r9), .int (nI c9)], rc E (t 1) (t 2) 220 by0]) H locs := hw
  have hinX2 : ∀ w ∈ u_ws RX2 TX2 4, w ∈ wsX2_errorPosition := by decide +kernel
  refine lv_aload_n hx hb dX2_errorPosition_0 rfl (lv_at hl 0 rfl) ?_
  refine lv_iconst (v := 1) hx hb dX2_errorPosition_1 (by decide) ?_
  refine k_put (pre := []) C0 hw hinX2 tyX2 tyX2_ok nmX2 rfl 2 (by decide) (hts (.fieldLink RX2 28 "SlabDunes$FieldText" "rows" "I") (by decide +kernel)) rfl rfl (ty := .int) (by decide +kernel) rfl rfl (Nat.le_of_ble_eq_true rfl) dX2_errorPosition_2 (fun H locs hw => ?_)
  have hw : kW E AA sx (List.flatten [oc (t 0) 2 [.ref (t 1), .int (nI m9), .int 1, .int (nI c9)], rc E (t 1) (t 2) 220 by0]) H locs := hw
  refine lv_aload_n hx hb dX2_errorPosition_5 rfl (lv_at hl 0 rfl) ?_
  refine lv_iconst (v := 0) hx hb dX2_errorPosition_6 (by decide) ?_
  refine k_put (pre := []) C0 hw hinX2 tyX2 tyX2_ok nmX2 rfl 3 (by decide) (hts (.fieldLink RX2 31 "SlabDunes$FieldText" "columns" "I") (by decide +kernel)) rfl rfl (ty := .int) (by decide +kernel) rfl rfl (Nat.le_of_ble_eq_true rfl) dX2_errorPosition_7 (fun H locs hw => ?_)
  have hw : kW E AA sx (List.flatten [oc (t 0) 2 [.ref (t 1), .int (nI m9), .int 1, .int 0], rc E (t 1) (t 2) 220 by0]) H locs := hw
  refine lv_iconst (v := 0) hx hb dX2_errorPosition_10 (by decide) ?_
  refine lv_istore_n (lv' := [(1, .int 0), (0, .ref (t 0))]) hx hb dX2_errorPosition_11 rfl hl (by decide) rfl (fun ls hl => ?_)
  refine lv_iconst (v := 0) hx hb dX2_errorPosition_12 (by decide) ?_
  refine lv_istore_n (lv' := [(2, .int 0), (1, .int 0), (0, .ref (t 0))]) hx hb dX2_errorPosition_13 rfl hl (by decide) rfl (fun ls hl => ?_)
  have loop14 : ∀ (nn : Nat) (r : Nat) (c : Nat) (i : Nat) (p : Nat), (p ≤ m9) → (r ≤ p + 1) → (c ≤ p) → (i ≤ p) → (epL by0 m9 (m9 - p) r c i p = epL by0 m9 m9 1 0 0 0) → m9 - p < nn → ∀ (H : Heap) (locs : List Loc) (ls : Array Slot), lv_has ls 4 [(2, .int (nI p)), (1, .int (nI i)), (0, .ref (t 0))] → kW E AA sx (List.flatten [oc (t 0) 2 [.ref (t 1), .int (nI m9), .int (nI r), .int (nI c)], rc E (t 1) (t 2) 220 by0]) H locs → W pp l ee rmX2_errorPosition sx mm aa bb me cd H locs 0 0 (kEnd E kI (fun (r : Int32) (_ : Unit) => r = (epL by0 m9 m9 1 0 0 0).1) (fun _ => tx E t by0 (nI m9) (nI (epL by0 m9 m9 1 0 0 0).2.1) (nI (epL by0 m9 m9 1 0 0 0).2.2)) bb aa sx AA 0 0) (F0 mm 14 ls []) := by
    intro nn
    induction nn with
    | zero => intro r c i p hpp hrr hcc hii hF hm14; exact absurd hm14 (Nat.not_lt_zero _)
    | succ nn ih14 =>
      intro r c i p hpp hrr hcc hii hF hm14 H locs ls hl hw
      refine lv_iload_n hx hb dX2_errorPosition_14 rfl (lv_at hl 0 rfl) ?_
      refine lv_aload_n hx hb dX2_errorPosition_15 rfl (lv_at hl 2 rfl) ?_
      refine k_get (pre := []) C0 hw hinX2 rfl 1 (by decide) (hts (.fieldLink RX2 20 "SlabDunes$FieldText" "length" "I") (by decide +kernel)) rfl rfl dX2_errorPosition_16 ?_
      refine lv_icmp_ge (tgt := 111) hx hb dX2_errorPosition_19 (by decide) (fun c19 => ?_) (fun c19 => ?_)
      · have c19 : m9 ≤ p := (nI_leI (a := m9) (b := p) (by omega) (by omega)).mp c19
        rw [show m9 - p = 0 by omega, epL_0] at hF
        refine lv_aload_n hx hb dX2_errorPosition_111 rfl (lv_at hl 2 rfl) ?_
        refine k_get (pre := []) C0 hw hinX2 rfl 2 (by decide) (hts (.fieldLink RX2 28 "SlabDunes$FieldText" "rows" "I") (by decide +kernel)) rfl rfl dX2_errorPosition_112 ?_
        refine lv_iconst (v := 3) hx hb dX2_errorPosition_115 (by decide) ?_
        refine lv_icmp_lt (tgt := 131) hx hb dX2_errorPosition_116 (by decide) (fun c116 => ?_) (fun c116 => ?_)
        · have c116 : r < 3 := (nI_ltI (a := r) (b := 3) (by omega) (by omega)).mp c116
          rw [if_neg (by omega)] at hF
          refine lv_aload_n hx hb dX2_errorPosition_131 rfl (lv_at hl 2 rfl) ?_
          refine k_get (pre := []) C0 hw hinX2 rfl 1 (by decide) (hts (.fieldLink RX2 20 "SlabDunes$FieldText" "length" "I") (by decide +kernel)) rfl rfl dX2_errorPosition_132 ?_
          -- leaf 0
          exact k_iret C0 hr hlk hw () (by rw [← hF]; rfl) (by rw [← hF]) (Nat.le_of_ble_eq_true rfl) (Nat.le_of_ble_eq_true rfl) dX2_errorPosition_135
        · have c116 : ¬ r < 3 := fun h99 => c116 ((nI_ltI (a := r) (b := 3) (by omega) (by omega)).mpr h99)
          refine lv_iload_n hx hb dX2_errorPosition_119 rfl (lv_at hl 1 rfl) ?_
          refine lv_aload_n hx hb dX2_errorPosition_120 rfl (lv_at hl 2 rfl) ?_
          refine k_get (pre := []) C0 hw hinX2 rfl 3 (by decide) (hts (.fieldLink RX2 31 "SlabDunes$FieldText" "columns" "I") (by decide +kernel)) rfl rfl dX2_errorPosition_121 ?_
          refine lv_icmp_ne (tgt := 131) hx hb dX2_errorPosition_124 (by decide) (fun c124 => ?_) (fun c124 => ?_)
          · have c124 : ¬ i = c := fun h99 => c124 ((nI_eq (a := i) (b := c) (by omega) (by omega)).mpr h99)
            rw [if_neg (by omega)] at hF
            refine lv_aload_n hx hb dX2_errorPosition_131 rfl (lv_at hl 2 rfl) ?_
            refine k_get (pre := []) C0 hw hinX2 rfl 1 (by decide) (hts (.fieldLink RX2 20 "SlabDunes$FieldText" "length" "I") (by decide +kernel)) rfl rfl dX2_errorPosition_132 ?_
            -- leaf 1
            exact k_iret C0 hr hlk hw () (by rw [← hF]; rfl) (by rw [← hF]) (Nat.le_of_ble_eq_true rfl) (Nat.le_of_ble_eq_true rfl) dX2_errorPosition_135
          · have c124 : i = c := (nI_eq (a := i) (b := c) (by omega) (by omega)).mp c124
            rw [if_pos ⟨by omega, by omega⟩] at hF
            refine lv_iconst (v := (-1)) hx hb dX2_errorPosition_127 (by decide) ?_
            refine lv_goto (tgt := 135) hx hb dX2_errorPosition_128 (by decide) ?_
            -- leaf 2
            exact k_iret C0 hr hlk hw () (by rw [← hF]; rfl) (by rw [← hF]) (Nat.le_of_ble_eq_true rfl) (Nat.le_of_ble_eq_true rfl) dX2_errorPosition_135
      · have c19 : ¬ m9 ≤ p := fun h99 => c19 ((nI_leI (a := m9) (b := p) (by omega) (by omega)).mpr h99)
        obtain ⟨n9, hn9⟩ : ∃ n9, m9 - p = n9 + 1 := ⟨m9 - p - 1, by omega⟩
        rw [hn9, epL_s] at hF
        refine lv_aload_n hx hb dX2_errorPosition_22 rfl (lv_at hl 2 rfl) ?_
        refine k_get (pre := []) C0 hw hinX2 rfl 0 (by decide) (hts (.fieldLink RX2 14 "SlabDunes$FieldText" "bytes" "LSlabDunes$Row;") (by decide +kernel)) rfl rfl dX2_errorPosition_23 ?_
        refine lv_iload_n hx hb dX2_errorPosition_26 rfl (lv_at hl 0 rfl) ?_
        refine k_V (As := [.int (nI p)]) (rest := []) (pre := [oc (t 0) 2 [.ref (t 1), .int (nI m9), .int (nI r), .int (nI c)]]) (mid := [rc E (t 1) (t 2) 220 by0]) C0 (c_X4_atN l E (t 1) (t 2) 220 by0 p (by first | assumption | omega) (by first | assumption | omega)) (cwV 1 hts gX2_errorPosition_X4_at rfl rfl rfl (by decide +kernel) ⟨Nat.le_of_ble_eq_true rfl, Nat.le_of_ble_eq_true rfl⟩) hw rfl (fun _ => [rc E (t 1) (t 2) 220 by0]) (fun _ => rfl) 0 4 rfl rfl rfl rfl hl.1 rfl (Nat.le_of_ble_eq_true rfl) dX2_errorPosition_27 ⟨Nat.le_of_ble_eq_true rfl, Nat.le_of_ble_eq_true rfl⟩ (fun r u H locs hq99 hw => ?_)
        subst hq99
        have hw : kW E AA sx (List.flatten [oc (t 0) 2 [.ref (t 1), .int (nI m9), .int (nI r), .int (nI c)], rc E (t 1) (t 2) 220 by0]) H locs := hw
        refine W.eq (g2 := F0 mm 30 ls [.int (by0 p)]) rfl ?_
        refine lv_istore_n (lv' := [(3, .int (by0 p)), (2, .int (nI p)), (1, .int (nI i)), (0, .ref (t 0))]) hx hb dX2_errorPosition_30 rfl hl (by decide) rfl (fun ls hl => ?_)
        refine lv_iload_n hx hb dX2_errorPosition_31 rfl (lv_at hl 0 rfl) ?_
        refine lv_bipush (v := 48) hx hb dX2_errorPosition_32 (by decide) ?_
        refine lv_bipush (v := 57) hx hb dX2_errorPosition_34 (by decide) ?_
        refine k_SN (As := [.int (by0 p), .int 48, .int 57]) (rest := []) (pre := []) (mid := []) C0 (c_X6_within l E (by0 p) 48 57 ) (va_cnB 3 hts gX2_errorPosition_X6_within_n38 rfl rfl rfl hw.2.2.1.2.2.1 (hts (.initialized RX6) (by decide +kernel)) (by decide +kernel) ⟨Nat.le_of_ble_eq_true rfl, Nat.le_of_ble_eq_true rfl⟩) (hts (.static yX6_within) (by decide +kernel)) hw rfl (fun _ => []) (fun _ => rfl) rfl hl.1 rfl (Nat.le_of_ble_eq_true rfl) dX2_errorPosition_36 ⟨Nat.le_of_ble_eq_true rfl, Nat.le_of_ble_eq_true rfl⟩ (fun r u H locs hq99 hw => ?_)
        subst hq99
        have hw : kW E AA sx (List.flatten [oc (t 0) 2 [.ref (t 1), .int (nI m9), .int (nI r), .int (nI c)], rc E (t 1) (t 2) 220 by0]) H locs := hw
        refine W.eq (g2 := F0 mm 39 ls [.int (if ¬ (by0 p) < 48 ∧ ¬ 57 < (by0 p) then 1 else 0)]) rfl ?_
        refine lv_if_eq (tgt := 58) hx hb dX2_errorPosition_39 (by decide) (fun c39 => ?_) (fun c39 => ?_)
        · have c39 := kb10t c39
          refine lv_iload_n hx hb dX2_errorPosition_58 rfl (lv_at hl 0 rfl) ?_
          refine lv_bipush (v := 47) hx hb dX2_errorPosition_59 (by decide) ?_
          refine lv_icmp_ne (tgt := 103) hx hb dX2_errorPosition_61 (by decide) (fun c61 => ?_) (fun c61 => ?_)
          · rw [if_neg c39, if_neg c61] at hF
            refine lv_iload_n hx hb dX2_errorPosition_103 rfl (lv_at hl 1 rfl) ?_
            -- leaf 3
            exact k_iret C0 hr hlk hw () (by rw [← hF]; rfl) (by rw [← hF]) (Nat.le_of_ble_eq_true rfl) (Nat.le_of_ble_eq_true rfl) dX2_errorPosition_104
          · refine lv_iload_n hx hb dX2_errorPosition_64 rfl (lv_at hl 2 rfl) ?_
            refine lv_aload_n hx hb dX2_errorPosition_65 rfl (lv_at hl 3 rfl) ?_
            refine k_V (As := []) (rest := [.int (nI i)]) (pre := []) (mid := [oc (t 0) 2 [.ref (t 1), .int (nI m9), .int (nI r), .int (nI c)], rc E (t 1) (t 2) 220 by0]) C0 (c_X2_leastInRow l E t by0 m9 r c (by first | assumption | omega)) (cwV 0 hts gX2_errorPosition_X2_leastInRow rfl rfl rfl (by decide +kernel) ⟨Nat.le_of_ble_eq_true rfl, Nat.le_of_ble_eq_true rfl⟩) hw rfl (fun _ => [oc (t 0) 2 [.ref (t 1), .int (nI m9), .int (nI r), .int (nI c)], rc E (t 1) (t 2) 220 by0]) (fun _ => rfl) 0 2 rfl rfl rfl rfl hl.1 rfl (Nat.le_of_ble_eq_true rfl) dX2_errorPosition_66 ⟨Nat.le_of_ble_eq_true rfl, Nat.le_of_ble_eq_true rfl⟩ (fun r u H locs hq99 hw => ?_)
            subst hq99
            have hw : kW E AA sx (List.flatten [oc (t 0) 2 [.ref (t 1), .int (nI m9), .int (nI r), .int (nI c)], rc E (t 1) (t 2) 220 by0]) H locs := hw
            refine W.eq (g2 := F0 mm 69 ls [.int (nI (if r = 1 then 3 else c)), .int (nI i)]) rfl ?_
            have hif9 : (if r = 1 then 3 else c) < 1000 := by split <;> omega
            refine lv_icmp_lt (tgt := 81) hx hb dX2_errorPosition_69 (by decide) (fun c69 => ?_) (fun c69 => ?_)
            · have c69 : i < (if r = 1 then 3 else c) := (nI_ltI (a := i) (b := (if r = 1 then 3 else c)) (by omega) (by omega)).mp c69
              rw [if_neg c39, if_pos c61, if_pos (by omega)] at hF
              refine lv_iload_n hx hb dX2_errorPosition_81 rfl (lv_at hl 1 rfl) ?_
              -- leaf 4
              exact k_iret C0 hr hlk hw () (by rw [← hF]; rfl) (by rw [← hF]) (Nat.le_of_ble_eq_true rfl) (Nat.le_of_ble_eq_true rfl) dX2_errorPosition_82
            · have c69 : ¬ i < (if r = 1 then 3 else c) := fun h99 => c69 ((nI_ltI (a := i) (b := (if r = 1 then 3 else c)) (by omega) (by omega)).mpr h99)
              refine lv_aload_n hx hb dX2_errorPosition_72 rfl (lv_at hl 3 rfl) ?_
              refine k_get (pre := []) C0 hw hinX2 rfl 2 (by decide) (hts (.fieldLink RX2 28 "SlabDunes$FieldText" "rows" "I") (by decide +kernel)) rfl rfl dX2_errorPosition_73 ?_
              refine lv_bipush (v := 12) hx hb dX2_errorPosition_76 (by decide) ?_
              refine lv_icmp_lt (tgt := 83) hx hb dX2_errorPosition_78 (by decide) (fun c78 => ?_) (fun c78 => ?_)
              · have c78 : r < 12 := (nI_ltI (a := r) (b := 12) (by omega) (by omega)).mp c78
                refine lv_aload_n hx hb dX2_errorPosition_83 rfl (lv_at hl 3 rfl) ?_
                refine lv_iload_n hx hb dX2_errorPosition_84 rfl (lv_at hl 2 rfl) ?_
                refine k_put (pre := []) C0 hw hinX2 tyX2 tyX2_ok nmX2 rfl 3 (by decide) (hts (.fieldLink RX2 31 "SlabDunes$FieldText" "columns" "I") (by decide +kernel)) rfl rfl (ty := .int) (by decide +kernel) rfl rfl (Nat.le_of_ble_eq_true rfl) dX2_errorPosition_85 (fun H locs hw => ?_)
                have hw : kW E AA sx (List.flatten [oc (t 0) 2 [.ref (t 1), .int (nI m9), .int (nI r), .int (nI i)], rc E (t 1) (t 2) 220 by0]) H locs := hw
                refine lv_aload_n hx hb dX2_errorPosition_88 rfl (lv_at hl 3 rfl) ?_
                refine lv_dup hx hb dX2_errorPosition_89 rfl ?_
                refine k_get (pre := []) C0 hw hinX2 rfl 2 (by decide) (hts (.fieldLink RX2 28 "SlabDunes$FieldText" "rows" "I") (by decide +kernel)) rfl rfl dX2_errorPosition_90 ?_
                refine lv_iconst (v := 1) hx hb dX2_errorPosition_93 (by decide) ?_
                refine lv_iadd hx hb dX2_errorPosition_94 ?_
                refine W.eq (g2 := F0 mm 95 ls [.int (nI (r + 1)), .ref (t 0)]) (congrArg (fun z9 => F0 mm 95 ls [.int z9, .ref (t 0)]) (show ((nI r) + 1 : Int32) = nI (r + 1) from nI_1 _)) ?_
                refine k_put (pre := []) C0 hw hinX2 tyX2 tyX2_ok nmX2 rfl 2 (by decide) (hts (.fieldLink RX2 28 "SlabDunes$FieldText" "rows" "I") (by decide +kernel)) rfl rfl (ty := .int) (by decide +kernel) rfl rfl (Nat.le_of_ble_eq_true rfl) dX2_errorPosition_95 (fun H locs hw => ?_)
                have hw : kW E AA sx (List.flatten [oc (t 0) 2 [.ref (t 1), .int (nI m9), .int (nI (r + 1)), .int (nI i)], rc E (t 1) (t 2) 220 by0]) H locs := hw
                refine lv_iconst (v := 0) hx hb dX2_errorPosition_98 (by decide) ?_
                refine lv_istore_n (lv' := [(1, .int 0), (3, .int (by0 p)), (2, .int (nI p)), (0, .ref (t 0))]) hx hb dX2_errorPosition_99 rfl hl (by decide) rfl (fun ls hl => ?_)
                refine lv_goto (tgt := 105) hx hb dX2_errorPosition_100 (by decide) ?_
                refine lv_iinc (v := nI (p + 1)) (lv' := [(2, .int (nI (p + 1))), (1, .int 0), (3, .int (by0 p)), (0, .ref (t 0))]) hx hb dX2_errorPosition_105 hl (k := 2) rfl (nI_1 _) (by decide) rfl (fun ls hl => ?_)
                refine lv_goto (tgt := 14) hx hb dX2_errorPosition_108 (by decide) ?_
                -- back 0
                exact ih14 (r + 1) i 0 (p + 1) (by first | assumption | omega) (by first | assumption | omega) (by first | assumption | omega) (by first | assumption | omega) (by rw [show m9 - (p + 1) = n9 by omega]; rw [if_neg c39, if_pos c61, if_neg (by omega)] at hF; exact hF) (by omega) H _ ls (lv_sub hl [0, 1, 3] rfl) hw
              · have c78 : ¬ r < 12 := fun h99 => c78 ((nI_ltI (a := r) (b := 12) (by omega) (by omega)).mpr h99)
                rw [if_neg c39, if_pos c61, if_pos (by omega)] at hF
                refine lv_iload_n hx hb dX2_errorPosition_81 rfl (lv_at hl 1 rfl) ?_
                -- leaf 5
                exact k_iret C0 hr hlk hw () (by rw [← hF]; rfl) (by rw [← hF]) (Nat.le_of_ble_eq_true rfl) (Nat.le_of_ble_eq_true rfl) dX2_errorPosition_82
        · have c39 := kb10f c39
          refine lv_iload_n hx hb dX2_errorPosition_42 rfl (lv_at hl 2 rfl) ?_
          refine lv_aload_n hx hb dX2_errorPosition_43 rfl (lv_at hl 3 rfl) ?_
          refine k_V (As := []) (rest := [.int (nI i)]) (pre := []) (mid := [oc (t 0) 2 [.ref (t 1), .int (nI m9), .int (nI r), .int (nI c)], rc E (t 1) (t 2) 220 by0]) C0 (c_X2_mostInRow l E t by0 m9 r c (by first | assumption | omega)) (cwV 0 hts gX2_errorPosition_X2_mostInRow rfl rfl rfl (by decide +kernel) ⟨Nat.le_of_ble_eq_true rfl, Nat.le_of_ble_eq_true rfl⟩) hw rfl (fun _ => [oc (t 0) 2 [.ref (t 1), .int (nI m9), .int (nI r), .int (nI c)], rc E (t 1) (t 2) 220 by0]) (fun _ => rfl) 0 2 rfl rfl rfl rfl hl.1 rfl (Nat.le_of_ble_eq_true rfl) dX2_errorPosition_44 ⟨Nat.le_of_ble_eq_true rfl, Nat.le_of_ble_eq_true rfl⟩ (fun r u H locs hq99 hw => ?_)
          subst hq99
          have hw : kW E AA sx (List.flatten [oc (t 0) 2 [.ref (t 1), .int (nI m9), .int (nI r), .int (nI c)], rc E (t 1) (t 2) 220 by0]) H locs := hw
          refine W.eq (g2 := F0 mm 47 ls [.int (nI (if r = 1 then 16 else c)), .int (nI i)]) rfl ?_
          have hif9 : (if r = 1 then 16 else c) < 1000 := by split <;> omega
          refine lv_icmp_lt (tgt := 52) hx hb dX2_errorPosition_47 (by decide) (fun c47 => ?_) (fun c47 => ?_)
          · have c47 : i < (if r = 1 then 16 else c) := (nI_ltI (a := i) (b := (if r = 1 then 16 else c)) (by omega) (by omega)).mp c47
            refine lv_iinc (v := nI (i + 1)) (lv' := [(1, .int (nI (i + 1))), (3, .int (by0 p)), (2, .int (nI p)), (0, .ref (t 0))]) hx hb dX2_errorPosition_52 hl (k := 2) rfl (nI_1 _) (by decide) rfl (fun ls hl => ?_)
            refine lv_goto (tgt := 105) hx hb dX2_errorPosition_55 (by decide) ?_
            refine lv_iinc (v := nI (p + 1)) (lv' := [(2, .int (nI (p + 1))), (1, .int (nI (i + 1))), (3, .int (by0 p)), (0, .ref (t 0))]) hx hb dX2_errorPosition_105 hl (k := 2) rfl (nI_1 _) (by decide) rfl (fun ls hl => ?_)
            refine lv_goto (tgt := 14) hx hb dX2_errorPosition_108 (by decide) ?_
            -- back 1
            exact ih14 r c (i + 1) (p + 1) (by first | assumption | omega) (by first | assumption | omega) (by first | assumption | omega) (by first | assumption | omega) (by rw [show m9 - (p + 1) = n9 by omega]; rw [if_pos c39, if_pos c47] at hF; exact hF) (by omega) H _ ls (lv_sub hl [0, 1, 3] rfl) hw
          · have c47 : ¬ i < (if r = 1 then 16 else c) := fun h99 => c47 ((nI_ltI (a := i) (b := (if r = 1 then 16 else c)) (by omega) (by omega)).mpr h99)
            rw [if_pos c39, if_neg c47] at hF
            refine lv_iload_n hx hb dX2_errorPosition_50 rfl (lv_at hl 1 rfl) ?_
            -- leaf 6
            exact k_iret C0 hr hlk hw () (by rw [← hF]; rfl) (by rw [← hF]) (Nat.le_of_ble_eq_true rfl) (Nat.le_of_ble_eq_true rfl) dX2_errorPosition_51
  exact loop14 ((m9 - 0) + 1) 1 0 0 0 (by first | assumption | omega) (by first | assumption | omega) (by first | assumption | omega) (by first | assumption | omega) (rfl) (Nat.lt_succ_self _) H _ ls (lv_sub hl [0, 1, 2] rfl) hw
