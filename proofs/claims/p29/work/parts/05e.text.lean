theorem khz (a b : Int32) (x : Int64) (h : x = 31 * a.toInt64 + b.toInt64) : x = 31 * a.toInt64 + b.toInt64 := h
abbrev rmX6_within : Room := { frames := 0, cells := 0, slots := 0, locals := 0 }
set_option maxHeartbeats 4000000 in
set_option maxRecDepth 100000 in
theorem c_X6_within (l : Launch) (E : kE) (v : Int32) (lo : Int32) (hi : Int32)  : kC E l yX6_within wsX6_within rmX6_within [.int v, .int lo, .int hi] (([] : va_W)) kI (fun (r : Int32) (_ : Unit) => r = if ¬ v < lo ∧ ¬ hi < v then 1 else 0) (fun _ => ([] : va_W)) 0 0 := by
  refine k_body (cc := cX6_within) (maxL := 3) (ret := (some .boolean)) (by decide) rfl (Nat.le_of_ble_eq_true rfl) ?_
  intro pp ee sx mm aa bb me cd H locs AA ls C0 hr hlk hnm hl hw
  obtain ⟨hx, hb, hml, hown, hts⟩ := id C0
  have hl : lv_has ls 3 [(0, .int v), (1, .int lo), (2, .int hi)] := hl
  have hw : kW E AA sx (List.flatten []) H locs := hw
  refine lv_iload_n hx hb dX6_within_0 rfl (lv_at hl 0 rfl) ?_
  refine lv_iload_n hx hb dX6_within_1 rfl (lv_at hl 1 rfl) ?_
  refine lv_icmp_lt (tgt := 14) hx hb dX6_within_2 (by decide) (fun c2 => ?_) (fun c2 => ?_)
  · refine lv_iconst (v := 0) hx hb dX6_within_14 (by decide) ?_
    -- leaf 0
    exact k_zret C0 hr hlk hw () (rfl) (by rw [if_neg (fun h99 => h99.1 c2)]) (rfl) (Nat.le_of_ble_eq_true rfl) (Nat.le_of_ble_eq_true rfl) dX6_within_15
  · refine lv_iload_n hx hb dX6_within_5 rfl (lv_at hl 0 rfl) ?_
    refine lv_iload_n hx hb dX6_within_6 rfl (lv_at hl 2 rfl) ?_
    refine lv_icmp_gt (tgt := 14) hx hb dX6_within_7 (by decide) (fun c7 => ?_) (fun c7 => ?_)
    · refine lv_iconst (v := 0) hx hb dX6_within_14 (by decide) ?_
      -- leaf 1
      exact k_zret C0 hr hlk hw () (rfl) (by rw [if_neg (fun h99 => h99.2 c7)]) (rfl) (Nat.le_of_ble_eq_true rfl) (Nat.le_of_ble_eq_true rfl) dX6_within_15
    · refine lv_iconst (v := 1) hx hb dX6_within_10 (by decide) ?_
      refine lv_goto (tgt := 15) hx hb dX6_within_11 (by decide) ?_
      -- leaf 2
      exact k_zret C0 hr hlk hw () (rfl) (by rw [if_pos ⟨c2, c7⟩]) (rfl) (Nat.le_of_ble_eq_true rfl) (Nat.le_of_ble_eq_true rfl) dX6_within_15

abbrev rmX6_hashed : Room := { frames := 0, cells := 0, slots := 0, locals := 0 }
set_option maxHeartbeats 4000000 in
set_option maxRecDepth 100000 in
theorem c_X6_hashed (l : Launch) (E : kE) (x : Int64) (v : Int32)  : kC E l yX6_hashed wsX6_hashed rmX6_hashed [.long x, .int v] (([] : va_W)) kL (fun (r : Int64) (_ : Unit) => r = 31 * x + v.toInt64) (fun _ => ([] : va_W)) 0 0 := by
  refine k_body (cc := cX6_hashed) (maxL := 3) (ret := (some .long)) (by decide) rfl (Nat.le_of_ble_eq_true rfl) ?_
  intro pp ee sx mm aa bb me cd H locs AA ls C0 hr hlk hnm hl hw
  obtain ⟨hx, hb, hml, hown, hts⟩ := id C0
  have hl : lv_has ls 3 [(0, .long x), (2, .int v)] := hl
  have hw : kW E AA sx (List.flatten []) H locs := hw
  refine lv_ldc2 (v := 31) hx hb hown (hts (.constantLong RX6 240 31) (by decide +kernel)) dX6_hashed_0 ?_
  refine lv_lload_n hx hb dX6_hashed_3 rfl (lv_at hl 0 rfl) ?_
  refine lv_lmul hx hb dX6_hashed_4 ?_
  refine lv_iload_n hx hb dX6_hashed_5 rfl (lv_at hl 1 rfl) ?_
  refine lv_i2l (v := v.toInt64) hx hb dX6_hashed_6 rfl ?_
  refine lv_ladd hx hb dX6_hashed_7 ?_
  -- leaf 0
  exact k_lret C0 hr hlk hw () (rfl) (rfl) (Nat.le_of_ble_eq_true rfl) (Nat.le_of_ble_eq_true rfl) dX6_hashed_8
