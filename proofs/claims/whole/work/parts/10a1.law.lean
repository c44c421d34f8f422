set_option maxHeartbeats 4000000 in
set_option maxRecDepth 100000 in
theorem c_X6_append_x2F (l : Launch) (hfl : l.stackTraces = false) (E : kE) (d0 : Nat) (q1 : Nat) (q2 : Nat) (a : Nat → Nat) (e : Nat → Nat) (m : Nat → Nat) (t : Nat → Nat) (q : Nat) (by0 : Nat → Int32) (m9 : Nat) (r9 : Nat) (c9 : Nat) (v : Int32) (hv : ¬ v < 0 ∧ ¬ 127 < v) (hm9 : m9 = 220) : kX E l yX6_append wsX6_append rmX6_append [.ref d0, .int v] (List.flatten [oc d0 6 [.ref (a 0), .ref q1, .ref (e 0), .ref q2, .ref (m 0), .ref q, .ref (t 0)], tx E t by0 (nI m9) (nI r9) (nI c9)]) kI (fun (_ : Int32) (_ : Unit) => False) (fun _ => List.flatten [oc d0 6 [.ref (a 0), .ref q1, .ref (e 0), .ref q2, .ref (m 0), .ref q, .ref (t 0)], tx E t by0 (nI m9) (nI r9) (nI c9)]) (fun X => X = "java/lang/IllegalStateException") 1 6 := by
  refine kX_body (cc := cX6_append) (maxL := 2) (ret := (some .int)) (by decide) rfl (Nat.le_of_ble_eq_true rfl) ?_
  intro pp ee sx mm aa bb me cd H locs AA ls C0 hr hlk hxt hZ hl hw
  obtain ⟨hx, hb, hml, hown, hts⟩ := id C0
  have hl : lv_has ls 2 [(0, .ref d0), (1, .int v)] := hl
  have hw : kW E AA sx (List.flatten [oc d0 6 [.ref (a 0), .ref q1, .ref (e 0), .ref q2, .ref (m 0), .ref q, .ref (t 0)], tx E t by0 (nI m9) (nI r9) (nI c9)]) H locs := hw
  have hinX2 : ∀ w ∈ u_ws RX2 TX2 4, w ∈ wsX6_append := by decide +kernel
  have hinX6 : ∀ w ∈ u_ws RX6 TX6 7, w ∈ wsX6_append := by decide +kernel
  refine lv_iload_n hx hb dX6_append_0 rfl (lv_at hl 1 rfl) ?_
  refine lv_iconst (v := 0) hx hb dX6_append_1 (by decide) ?_
  refine lv_bipush (v := 127) hx hb dX6_append_2 (by decide) ?_
  refine k_S (As := [.int v, .int 0, .int 127]) (rest := []) (pre := []) (mid := []) C0 (c_X6_within l E v 0 127 ) (va_cwS 3 hts gX6_append_X6_within rfl rfl rfl (by decide +kernel) ⟨Nat.le_of_ble_eq_true rfl, Nat.le_of_ble_eq_true rfl⟩) hw rfl (fun _ => []) (fun _ => rfl) rfl hl.1 rfl (Nat.le_of_ble_eq_true rfl) dX6_append_4 ⟨Nat.le_of_ble_eq_true rfl, Nat.le_of_ble_eq_true rfl⟩ (fun r u H locs hq99 hw => ?_)
  subst hq99
  have hw : kW E AA sx (List.flatten [oc d0 6 [.ref (a 0), .ref q1, .ref (e 0), .ref q2, .ref (m 0), .ref q, .ref (t 0)], tx E t by0 (nI m9) (nI r9) (nI c9)]) H locs := hw
  refine W.eq (g2 := F0 mm 7 ls [.int (if ¬ v < 0 ∧ ¬ 127 < v then 1 else 0)]) rfl ?_
  refine lv_if_ne (tgt := 20) hx hb dX6_append_7 (by decide) (fun c7 => ?_) (fun c7 => False.elim ((kb10t c7) hv))
  have c7 := kb10f c7
  refine lv_aload_n hx hb dX6_append_20 rfl (lv_at hl 0 rfl) ?_
  refine k_get (pre := []) C0 hw hinX6 rfl 6 (by decide) (hts (.fieldLink RX6 48 "SlabDunes" "text" "LSlabDunes$FieldText;") (by decide +kernel)) rfl rfl dX6_append_21 ?_
  refine k_getN (host := RX6) (pre := [oc d0 6 [.ref (a 0), .ref q1, .ref (e 0), .ref q2, .ref (m 0), .ref q, .ref (t 0)]]) C0 hw hinX2 rfl 1 (by decide) (kN.get hw.2.2.1.2 (by decide +kernel)) rfl rfl dX6_append_24 ?_
  refine lv_sipush (v := 220) hx hb dX6_append_27 (by decide) ?_
  refine lv_icmp_lt (tgt := 43) hx hb dX6_append_30 (by decide) (fun c30 => absurd c30 (nI_nlt (a := m9) (b := 220) (by omega) (by omega))) (fun c30 => ?_)
  have c30 : ¬ m9 < 220 := fun h99 => c30 ((nI_ltI (a := m9) (b := 220) (by omega) (by omega)).mpr h99)
  exact k_throw (X := "java/lang/IllegalStateException") (text := "the text is full") C0 hw rfl hZ hfl hxt hlk (by decide) (by decide) (hts (.classLink RX6 209 "java/lang/IllegalStateException") (by decide +kernel)) (hts (.initialized "java/lang/IllegalStateException") (by decide +kernel)) (by decide +kernel) (by decide +kernel) (by decide +kernel) (by decide +kernel) hl.1 dX6_append_33 dX6_append_36 dX6_append_37 dX6_append_39 dX6_append_42 (Nat.le_of_ble_eq_true rfl) (Nat.le_of_ble_eq_true rfl) (Nat.le_of_ble_eq_true rfl) (Nat.le_of_ble_eq_true rfl) (rfl) (Nat.le_of_ble_eq_true rfl) (Nat.le_of_ble_eq_true rfl)

set_option maxHeartbeats 4000000 in
set_option maxRecDepth 100000 in
theorem c_X6_append_x1F (l : Launch) (hfl : l.stackTraces = false) (E : kE) (d0 : Nat) (q1 : Nat) (q2 : Nat) (a : Nat → Nat) (e : Nat → Nat) (m : Nat → Nat) (t : Nat → Nat) (q : Nat) (by0 : Nat → Int32) (m9 : Nat) (r9 : Nat) (c9 : Nat) (x : Int32) (hv : ¬ (¬ x < 0 ∧ ¬ 127 < x)) : kX E l yX6_append wsX6_append rmX6_append [.ref d0, .int x] (List.flatten [oc d0 6 [.ref (a 0), .ref q1, .ref (e 0), .ref q2, .ref (m 0), .ref q, .ref (t 0)], tx E t by0 (nI m9) (nI r9) (nI c9)]) kI (fun (_ : Int32) (_ : Unit) => False) (fun _ => List.flatten [oc d0 6 [.ref (a 0), .ref q1, .ref (e 0), .ref q2, .ref (m 0), .ref q, .ref (t 0)], tx E t by0 (nI m9) (nI r9) (nI c9)]) (fun X => X = "java/lang/IllegalArgumentException") 1 6 := by
  refine kX_body (cc := cX6_append) (maxL := 2) (ret := (some .int)) (by decide) rfl (Nat.le_of_ble_eq_true rfl) ?_
  intro pp ee sx mm aa bb me cd H locs AA ls C0 hr hlk hxt hZ hl hw
  obtain ⟨hx, hb, hml, hown, hts⟩ := id C0
  have hl : lv_has ls 2 [(0, .ref d0), (1, .int x)] := hl
  have hw : kW E AA sx (List.flatten [oc d0 6 [.ref (a 0), .ref q1, .ref (e 0), .ref q2, .ref (m 0), .ref q, .ref (t 0)], tx E t by0 (nI m9) (nI r9) (nI c9)]) H locs := hw
  refine lv_iload_n hx hb dX6_append_0 rfl (lv_at hl 1 rfl) ?_
  refine lv_iconst (v := 0) hx hb dX6_append_1 (by decide) ?_
  refine lv_bipush (v := 127) hx hb dX6_append_2 (by decide) ?_
  refine k_S (As := [.int x, .int 0, .int 127]) (rest := []) (pre := []) (mid := []) C0 (c_X6_within l E x 0 127 ) (va_cwS 3 hts gX6_append_X6_within rfl rfl rfl (by decide +kernel) ⟨Nat.le_of_ble_eq_true rfl, Nat.le_of_ble_eq_true rfl⟩) hw rfl (fun _ => []) (fun _ => rfl) rfl hl.1 rfl (Nat.le_of_ble_eq_true rfl) dX6_append_4 ⟨Nat.le_of_ble_eq_true rfl, Nat.le_of_ble_eq_true rfl⟩ (fun r u H locs hq99 hw => ?_)
  subst hq99
  have hw : kW E AA sx (List.flatten [oc d0 6 [.ref (a 0), .ref q1, .ref (e 0), .ref q2, .ref (m 0), .ref q, .ref (t 0)], tx E t by0 (nI m9) (nI r9) (nI c9)]) H locs := hw
  refine W.eq (g2 := F0 mm 7 ls [.int (if ¬ x < 0 ∧ ¬ 127 < x then 1 else 0)]) rfl ?_
  refine lv_if_ne (tgt := 20) hx hb dX6_append_7 (by decide) (fun c7 => absurd c7 (fun h99 => h99 (if_neg hv))) (fun c7 => ?_)
  have c7 := kb10t c7
  exact k_throw (X := "java/lang/IllegalArgumentException") (text := "value is out of range") C0 hw rfl hZ hfl hxt hlk (by decide) (by decide) (hts (.classLink RX6 56 "java/lang/IllegalArgumentException") (by decide +kernel)) (hts (.initialized "java/lang/IllegalArgumentException") (by decide +kernel)) (by decide +kernel) (by decide +kernel) (by decide +kernel) (by decide +kernel) hl.1 dX6_append_10 dX6_append_13 dX6_append_14 dX6_append_16 dX6_append_19 (Nat.le_of_ble_eq_true rfl) (Nat.le_of_ble_eq_true rfl) (Nat.le_of_ble_eq_true rfl) (Nat.le_of_ble_eq_true rfl) (rfl) (Nat.le_of_ble_eq_true rfl) (Nat.le_of_ble_eq_true rfl)

set_option maxHeartbeats 4000000 in
set_option maxRecDepth 100000 in
theorem c_X6_begin_x2F (l : Launch) (hfl : l.stackTraces = false) (E : kE) (d0 : Nat) (q1 : Nat) (q2 : Nat) (a : Nat → Nat) (e : Nat → Nat) (m : Nat → Nat) (t : Nat → Nat) (q : Nat) (n : Nat) (b : Nat → Nat → Nat) (G : Nat → cT) (o : Nat) (k9 : Nat) (h : Nat) (w : Nat) (wd : Int32) (s0 : Int32) (z : Int32) (st : Nat → Int32) (he : Nat → Int32) (ke : Nat → Int32) (tu : Nat → Int32) (ca : Nat → Int32) (tr : Nat → Int32) (co : Nat → Int32) (la : Nat → Int32) (r2 : Nat) (c2 : Nat) (v : Int32) (hG8 : kG r2 c2) (hv : ¬ (¬ v < 0 ∧ ¬ 20 < v)) : kX E l yX6_begin wsX6_begin rmX6_begin [.ref d0, .int (nI r2), .int (nI c2), .int v] (List.flatten [oc d0 6 [.ref (a 0), .ref q1, .ref (e 0), .ref q2, .ref (m 0), .ref q, .ref (t 0)], fc E a (nI h) (nI w) wd s0 z st he ke tu ca tr co la, hw4 E q n b (nI o) (nI k9) G]) kI (fun (_ : Int32) (_ : Unit) => False) (fun _ => List.flatten [oc d0 6 [.ref (a 0), .ref q1, .ref (e 0), .ref q2, .ref (m 0), .ref q, .ref (t 0)], fc E a (nI h) (nI w) wd s0 z st he ke tu ca tr co la, hw4 E q n b (nI o) (nI k9) G]) (fun X => X = "java/lang/IllegalArgumentException") 1 6 := by
  refine kX_body (cc := cX6_begin) (maxL := 4) (ret := (some .int)) (by decide) rfl (Nat.le_of_ble_eq_true rfl) ?_
  intro pp ee sx mm aa bb me cd H locs AA ls C0 hr hlk hxt hZ hl hw
  obtain ⟨hx, hb, hml, hown, hts⟩ := id C0
  have hl : lv_has ls 4 [(0, .ref d0), (1, .int (nI r2)), (2, .int (nI c2)), (3, .int v)] := hl
  have hw : kW E AA sx (List.flatten [oc d0 6 [.ref (a 0), .ref q1, .ref (e 0), .ref q2, .ref (m 0), .ref q, .ref (t 0)], oc (a 0) 1 [.int (nI h), .int (nI w), .int wd, .int s0, .int z, .ref (a 1), .ref (a 2), .ref (a 3), .ref (a 4), .ref (a 5), .ref (a 6), .ref (a 7), .ref (a 8)], rc E (a 1) (a 9) 4 st, rc E (a 2) (a 10) 192 he, rc E (a 3) (a 11) 192 ke, rc E (a 4) (a 12) 192 tu, rc E (a 5) (a 13) 192 ca, rc E (a 6) (a 14) 192 tr, rc E (a 7) (a 15) 12 co, rc E (a 8) (a 16) 4 la, hw4 E q n b (nI o) (nI k9) G]) H locs := hw
  obtain ⟨hG81, hG82, hG83, hG84⟩ := id hG8
  refine lv_iload_n hx hb dX6_begin_0 rfl (lv_at hl 1 rfl) ?_
  refine lv_iconst (v := 3) hx hb dX6_begin_1 (by decide) ?_
  refine lv_bipush (v := 12) hx hb dX6_begin_2 (by decide) ?_
  refine k_S (As := [.int (nI r2), .int 3, .int 12]) (rest := []) (pre := []) (mid := []) C0 (c_X6_within l E (nI r2) 3 12 ) (va_cwS 3 hts gX6_begin_X6_within rfl rfl rfl (by decide +kernel) ⟨Nat.le_of_ble_eq_true rfl, Nat.le_of_ble_eq_true rfl⟩) hw rfl (fun _ => []) (fun _ => rfl) rfl hl.1 rfl (Nat.le_of_ble_eq_true rfl) dX6_begin_4 ⟨Nat.le_of_ble_eq_true rfl, Nat.le_of_ble_eq_true rfl⟩ (fun r u H locs hq99 hw => ?_)
  subst hq99
  have hw : kW E AA sx (List.flatten [oc d0 6 [.ref (a 0), .ref q1, .ref (e 0), .ref q2, .ref (m 0), .ref q, .ref (t 0)], oc (a 0) 1 [.int (nI h), .int (nI w), .int wd, .int s0, .int z, .ref (a 1), .ref (a 2), .ref (a 3), .ref (a 4), .ref (a 5), .ref (a 6), .ref (a 7), .ref (a 8)], rc E (a 1) (a 9) 4 st, rc E (a 2) (a 10) 192 he, rc E (a 3) (a 11) 192 ke, rc E (a 4) (a 12) 192 tu, rc E (a 5) (a 13) 192 ca, rc E (a 6) (a 14) 192 tr, rc E (a 7) (a 15) 12 co, rc E (a 8) (a 16) 4 la, hw4 E q n b (nI o) (nI k9) G]) H locs := hw
  refine W.eq (g2 := F0 mm 7 ls [.int (if ¬ (nI r2) < 3 ∧ ¬ 12 < (nI r2) then 1 else 0)]) rfl ?_
  refine lv_if_eq (tgt := 20) hx hb dX6_begin_7 (by decide) (fun c7 => absurd c7 (fun h99 => (kb10t h99) ⟨nI_nlt (a := r2) (b := 3) (by omega) (by omega), nI_nlt (a := 12) (b := r2) (by omega) (by omega)⟩)) (fun c7 => ?_)
  have c7 := kb10f c7
  refine lv_iload_n hx hb dX6_begin_10 rfl (lv_at hl 2 rfl) ?_
  refine lv_iconst (v := 3) hx hb dX6_begin_11 (by decide) ?_
  refine lv_bipush (v := 16) hx hb dX6_begin_12 (by decide) ?_
  refine k_S (As := [.int (nI c2), .int 3, .int 16]) (rest := []) (pre := []) (mid := []) C0 (c_X6_within l E (nI c2) 3 16 ) (va_cwS 3 hts gX6_begin_X6_within rfl rfl rfl (by decide +kernel) ⟨Nat.le_of_ble_eq_true rfl, Nat.le_of_ble_eq_true rfl⟩) hw rfl (fun _ => []) (fun _ => rfl) rfl hl.1 rfl (Nat.le_of_ble_eq_true rfl) dX6_begin_14 ⟨Nat.le_of_ble_eq_true rfl, Nat.le_of_ble_eq_true rfl⟩ (fun r u H locs hq99 hw => ?_)
  subst hq99
  have hw : kW E AA sx (List.flatten [oc d0 6 [.ref (a 0), .ref q1, .ref (e 0), .ref q2, .ref (m 0), .ref q, .ref (t 0)], oc (a 0) 1 [.int (nI h), .int (nI w), .int wd, .int s0, .int z, .ref (a 1), .ref (a 2), .ref (a 3), .ref (a 4), .ref (a 5), .ref (a 6), .ref (a 7), .ref (a 8)], rc E (a 1) (a 9) 4 st, rc E (a 2) (a 10) 192 he, rc E (a 3) (a 11) 192 ke, rc E (a 4) (a 12) 192 tu, rc E (a 5) (a 13) 192 ca, rc E (a 6) (a 14) 192 tr, rc E (a 7) (a 15) 12 co, rc E (a 8) (a 16) 4 la, hw4 E q n b (nI o) (nI k9) G]) H locs := hw
  refine W.eq (g2 := F0 mm 17 ls [.int (if ¬ (nI c2) < 3 ∧ ¬ 16 < (nI c2) then 1 else 0)]) rfl ?_
  refine lv_if_ne (tgt := 30) hx hb dX6_begin_17 (by decide) (fun c17 => ?_) (fun c17 => False.elim ((kb10t c17) ⟨nI_nlt (a := c2) (b := 3) (by omega) (by omega), nI_nlt (a := 16) (b := c2) (by omega) (by omega)⟩))
  have c17 := kb10f c17
  refine lv_iload_n hx hb dX6_begin_30 rfl (lv_at hl 3 rfl) ?_
  refine lv_iconst (v := 0) hx hb dX6_begin_31 (by decide) ?_
  refine lv_bipush (v := 20) hx hb dX6_begin_32 (by decide) ?_
  refine k_S (As := [.int v, .int 0, .int 20]) (rest := []) (pre := []) (mid := []) C0 (c_X6_within l E v 0 20 ) (va_cwS 3 hts gX6_begin_X6_within rfl rfl rfl (by decide +kernel) ⟨Nat.le_of_ble_eq_true rfl, Nat.le_of_ble_eq_true rfl⟩) hw rfl (fun _ => []) (fun _ => rfl) rfl hl.1 rfl (Nat.le_of_ble_eq_true rfl) dX6_begin_34 ⟨Nat.le_of_ble_eq_true rfl, Nat.le_of_ble_eq_true rfl⟩ (fun r u H locs hq99 hw => ?_)
  subst hq99
  have hw : kW E AA sx (List.flatten [oc d0 6 [.ref (a 0), .ref q1, .ref (e 0), .ref q2, .ref (m 0), .ref q, .ref (t 0)], oc (a 0) 1 [.int (nI h), .int (nI w), .int wd, .int s0, .int z, .ref (a 1), .ref (a 2), .ref (a 3), .ref (a 4), .ref (a 5), .ref (a 6), .ref (a 7), .ref (a 8)], rc E (a 1) (a 9) 4 st, rc E (a 2) (a 10) 192 he, rc E (a 3) (a 11) 192 ke, rc E (a 4) (a 12) 192 tu, rc E (a 5) (a 13) 192 ca, rc E (a 6) (a 14) 192 tr, rc E (a 7) (a 15) 12 co, rc E (a 8) (a 16) 4 la, hw4 E q n b (nI o) (nI k9) G]) H locs := hw
  refine W.eq (g2 := F0 mm 37 ls [.int (if ¬ v < 0 ∧ ¬ 20 < v then 1 else 0)]) rfl ?_
  refine lv_if_ne (tgt := 50) hx hb dX6_begin_37 (by decide) (fun c37 => absurd c37 (fun h99 => h99 (if_neg hv))) (fun c37 => ?_)
  have c37 := kb10t c37
  exact k_throw (X := "java/lang/IllegalArgumentException") (text := "height is out of range") C0 hw rfl hZ hfl hxt hlk (by decide) (by decide) (hts (.classLink RX6 56 "java/lang/IllegalArgumentException") (by decide +kernel)) (hts (.initialized "java/lang/IllegalArgumentException") (by decide +kernel)) (by decide +kernel) (by decide +kernel) (by decide +kernel) (by decide +kernel) hl.1 dX6_begin_40 dX6_begin_43 dX6_begin_44 dX6_begin_46 dX6_begin_49 (Nat.le_of_ble_eq_true rfl) (Nat.le_of_ble_eq_true rfl) (Nat.le_of_ble_eq_true rfl) (Nat.le_of_ble_eq_true rfl) (rfl) (Nat.le_of_ble_eq_true rfl) (Nat.le_of_ble_eq_true rfl)

set_option maxHeartbeats 4000000 in
set_option maxRecDepth 100000 in
theorem c_X6_begin_x1F (l : Launch) (hfl : l.stackTraces = false) (E : kE) (d0 : Nat) (q1 : Nat) (q2 : Nat) (a : Nat → Nat) (e : Nat → Nat) (m : Nat → Nat) (t : Nat → Nat) (q : Nat) (n : Nat) (b : Nat → Nat → Nat) (G : Nat → cT) (o : Nat) (k9 : Nat) (h : Nat) (w : Nat) (wd : Int32) (s0 : Int32) (z : Int32) (st : Nat → Int32) (he : Nat → Int32) (ke : Nat → Int32) (tu : Nat → Int32) (ca : Nat → Int32) (tr : Nat → Int32) (co : Nat → Int32) (la : Nat → Int32) (x : Int32) (y : Int32) (v : Int32) (hv : ¬ ((¬ x < 3 ∧ ¬ 12 < x) ∧ (¬ y < 3 ∧ ¬ 16 < y))) : kX E l yX6_begin wsX6_begin rmX6_begin [.ref d0, .int x, .int y, .int v] (List.flatten [oc d0 6 [.ref (a 0), .ref q1, .ref (e 0), .ref q2, .ref (m 0), .ref q, .ref (t 0)], fc E a (nI h) (nI w) wd s0 z st he ke tu ca tr co la, hw4 E q n b (nI o) (nI k9) G]) kI (fun (_ : Int32) (_ : Unit) => False) (fun _ => List.flatten [oc d0 6 [.ref (a 0), .ref q1, .ref (e 0), .ref q2, .ref (m 0), .ref q, .ref (t 0)], fc E a (nI h) (nI w) wd s0 z st he ke tu ca tr co la, hw4 E q n b (nI o) (nI k9) G]) (fun X => X = "java/lang/IllegalArgumentException") 1 6 := by
  refine kX_body (cc := cX6_begin) (maxL := 4) (ret := (some .int)) (by decide) rfl (Nat.le_of_ble_eq_true rfl) ?_
  intro pp ee sx mm aa bb me cd H locs AA ls C0 hr hlk hxt hZ hl hw
  obtain ⟨hx, hb, hml, hown, hts⟩ := id C0
  have hl : lv_has ls 4 [(0, .ref d0), (1, .int x), (2, .int y), (3, .int v)] := hl
  have hw : kW E AA sx (List.flatten [oc d0 6 [.ref (a 0), .ref q1, .ref (e 0), .ref q2, .ref (m 0), .ref q, .ref (t 0)], oc (a 0) 1 [.int (nI h), .int (nI w), .int wd, .int s0, .int z, .ref (a 1), .ref (a 2), .ref (a 3), .ref (a 4), .ref (a 5), .ref (a 6), .ref (a 7), .ref (a 8)], rc E (a 1) (a 9) 4 st, rc E (a 2) (a 10) 192 he, rc E (a 3) (a 11) 192 ke, rc E (a 4) (a 12) 192 tu, rc E (a 5) (a 13) 192 ca, rc E (a 6) (a 14) 192 tr, rc E (a 7) (a 15) 12 co, rc E (a 8) (a 16) 4 la, hw4 E q n b (nI o) (nI k9) G]) H locs := hw
  refine lv_iload_n hx hb dX6_begin_0 rfl (lv_at hl 1 rfl) ?_
  refine lv_iconst (v := 3) hx hb dX6_begin_1 (by decide) ?_
  refine lv_bipush (v := 12) hx hb dX6_begin_2 (by decide) ?_
  refine k_S (As := [.int x, .int 3, .int 12]) (rest := []) (pre := []) (mid := []) C0 (c_X6_within l E x 3 12 ) (va_cwS 3 hts gX6_begin_X6_within rfl rfl rfl (by decide +kernel) ⟨Nat.le_of_ble_eq_true rfl, Nat.le_of_ble_eq_true rfl⟩) hw rfl (fun _ => []) (fun _ => rfl) rfl hl.1 rfl (Nat.le_of_ble_eq_true rfl) dX6_begin_4 ⟨Nat.le_of_ble_eq_true rfl, Nat.le_of_ble_eq_true rfl⟩ (fun r u H locs hq99 hw => ?_)
  subst hq99
  have hw : kW E AA sx (List.flatten [oc d0 6 [.ref (a 0), .ref q1, .ref (e 0), .ref q2, .ref (m 0), .ref q, .ref (t 0)], oc (a 0) 1 [.int (nI h), .int (nI w), .int wd, .int s0, .int z, .ref (a 1), .ref (a 2), .ref (a 3), .ref (a 4), .ref (a 5), .ref (a 6), .ref (a 7), .ref (a 8)], rc E (a 1) (a 9) 4 st, rc E (a 2) (a 10) 192 he, rc E (a 3) (a 11) 192 ke, rc E (a 4) (a 12) 192 tu, rc E (a 5) (a 13) 192 ca, rc E (a 6) (a 14) 192 tr, rc E (a 7) (a 15) 12 co, rc E (a 8) (a 16) 4 la, hw4 E q n b (nI o) (nI k9) G]) H locs := hw
  refine W.eq (g2 := F0 mm 7 ls [.int (if ¬ x < 3 ∧ ¬ 12 < x then 1 else 0)]) rfl ?_
  refine lv_if_eq (tgt := 20) hx hb dX6_begin_7 (by decide) (fun c7 => ?_) (fun c7 => ?_)
  · have c7 := kb10t c7
    exact k_throw (X := "java/lang/IllegalArgumentException") (text := "rows or columns are out of range") C0 hw rfl hZ hfl hxt hlk (by decide) (by decide) (hts (.classLink RX6 56 "java/lang/IllegalArgumentException") (by decide +kernel)) (hts (.initialized "java/lang/IllegalArgumentException") (by decide +kernel)) (by decide +kernel) (by decide +kernel) (by decide +kernel) (by decide +kernel) hl.1 dX6_begin_20 dX6_begin_23 dX6_begin_24 dX6_begin_26 dX6_begin_29 (Nat.le_of_ble_eq_true rfl) (Nat.le_of_ble_eq_true rfl) (Nat.le_of_ble_eq_true rfl) (Nat.le_of_ble_eq_true rfl) (rfl) (Nat.le_of_ble_eq_true rfl) (Nat.le_of_ble_eq_true rfl)
  · have c7 := kb10f c7
    refine lv_iload_n hx hb dX6_begin_10 rfl (lv_at hl 2 rfl) ?_
    refine lv_iconst (v := 3) hx hb dX6_begin_11 (by decide) ?_
    refine lv_bipush (v := 16) hx hb dX6_begin_12 (by decide) ?_
    refine k_S (As := [.int y, .int 3, .int 16]) (rest := []) (pre := []) (mid := []) C0 (c_X6_within l E y 3 16 ) (va_cwS 3 hts gX6_begin_X6_within rfl rfl rfl (by decide +kernel) ⟨Nat.le_of_ble_eq_true rfl, Nat.le_of_ble_eq_true rfl⟩) hw rfl (fun _ => []) (fun _ => rfl) rfl hl.1 rfl (Nat.le_of_ble_eq_true rfl) dX6_begin_14 ⟨Nat.le_of_ble_eq_true rfl, Nat.le_of_ble_eq_true rfl⟩ (fun r u H locs hq99 hw => ?_)
    subst hq99
    have hw : kW E AA sx (List.flatten [oc d0 6 [.ref (a 0), .ref q1, .ref (e 0), .ref q2, .ref (m 0), .ref q, .ref (t 0)], oc (a 0) 1 [.int (nI h), .int (nI w), .int wd, .int s0, .int z, .ref (a 1), .ref (a 2), .ref (a 3), .ref (a 4), .ref (a 5), .ref (a 6), .ref (a 7), .ref (a 8)], rc E (a 1) (a 9) 4 st, rc E (a 2) (a 10) 192 he, rc E (a 3) (a 11) 192 ke, rc E (a 4) (a 12) 192 tu, rc E (a 5) (a 13) 192 ca, rc E (a 6) (a 14) 192 tr, rc E (a 7) (a 15) 12 co, rc E (a 8) (a 16) 4 la, hw4 E q n b (nI o) (nI k9) G]) H locs := hw
    refine W.eq (g2 := F0 mm 17 ls [.int (if ¬ y < 3 ∧ ¬ 16 < y then 1 else 0)]) rfl ?_
    refine lv_if_ne (tgt := 30) hx hb dX6_begin_17 (by decide) (fun c17 => absurd c17 (fun h99 => hv ⟨c7, kb10f h99⟩)) (fun c17 => ?_)
    have c17 := kb10t c17
    exact k_throw (X := "java/lang/IllegalArgumentException") (text := "rows or columns are out of range") C0 hw rfl hZ hfl hxt hlk (by decide) (by decide) (hts (.classLink RX6 56 "java/lang/IllegalArgumentException") (by decide +kernel)) (hts (.initialized "java/lang/IllegalArgumentException") (by decide +kernel)) (by decide +kernel) (by decide +kernel) (by decide +kernel) (by decide +kernel) hl.1 dX6_begin_20 dX6_begin_23 dX6_begin_24 dX6_begin_26 dX6_begin_29 (Nat.le_of_ble_eq_true rfl) (Nat.le_of_ble_eq_true rfl) (Nat.le_of_ble_eq_true rfl) (Nat.le_of_ble_eq_true rfl) (rfl) (Nat.le_of_ble_eq_true rfl) (Nat.le_of_ble_eq_true rfl)

set_option maxHeartbeats 4000000 in
set_option maxRecDepth 100000 in
theorem c_X6_bestFence_x2F (l : Launch) (hfl : l.stackTraces = false) (E : kE) (d0 : Nat) (q1 : Nat) (q2 : Nat) (a : Nat → Nat) (e : Nat → Nat) (m : Nat → Nat) (t : Nat → Nat) (q : Nat) (h : Nat) (w : Nat) (wd : Int32) (s0 : Int32) (z : Int32) (st : Nat → Int32) (he : Nat → Int32) (ke : Nat → Int32) (tu : Nat → Int32) (ca : Nat → Int32) (tr : Nat → Int32) (co : Nat → Int32) (la : Nat → Int32) (c0 : Nat) (v : Int32) (hG : kG h w) (hc0 : c0 < w) (hv : ¬ (¬ v < 0 ∧ ¬ 500 < v)) : kX E l yX6_bestFence wsX6_bestFence rmX6_bestFence [.ref d0, .int (nI c0), .int v] (List.flatten [oc d0 6 [.ref (a 0), .ref q1, .ref (e 0), .ref q2, .ref (m 0), .ref q, .ref (t 0)], fc E a (nI h) (nI w) wd s0 z st he ke tu ca tr co la]) kI (fun (_ : Int32) (_ : Unit) => False) (fun _ => List.flatten [oc d0 6 [.ref (a 0), .ref q1, .ref (e 0), .ref q2, .ref (m 0), .ref q, .ref (t 0)], fc E a (nI h) (nI w) wd s0 z st he ke tu ca tr co la]) (fun X => X = "java/lang/IllegalArgumentException") 1 6 := by
  refine kX_body (cc := cX6_bestFence) (maxL := 9) (ret := (some .int)) (by decide) rfl (Nat.le_of_ble_eq_true rfl) ?_
  intro pp ee sx mm aa bb me cd H locs AA ls C0 hr hlk hxt hZ hl hw
  obtain ⟨hx, hb, hml, hown, hts⟩ := id C0
  have hl : lv_has ls 9 [(0, .ref d0), (1, .int (nI c0)), (2, .int v)] := hl
  have hw : kW E AA sx (List.flatten [oc d0 6 [.ref (a 0), .ref q1, .ref (e 0), .ref q2, .ref (m 0), .ref q, .ref (t 0)], fc E a (nI h) (nI w) wd s0 z st he ke tu ca tr co la]) H locs := hw
  have hn9 := kG_n hG
  have hG9 := id hG
  obtain ⟨hG1, hG2, hG3, hG4⟩ := hG9
  have hinX1 : ∀ w ∈ u_ws RX1 TX1 13, w ∈ wsX6_bestFence := by decide +kernel
  have hinX6 : ∀ w ∈ u_ws RX6 TX6 7, w ∈ wsX6_bestFence := by decide +kernel
  refine lv_iload_n hx hb dX6_bestFence_0 rfl (lv_at hl 1 rfl) ?_
  refine lv_iconst (v := 0) hx hb dX6_bestFence_1 (by decide) ?_
  refine lv_aload_n hx hb dX6_bestFence_2 rfl (lv_at hl 0 rfl) ?_
  refine k_get (pre := []) C0 hw hinX6 rfl 0 (by decide) (hts (.fieldLink RX6 10 "SlabDunes" "field" "LSlabDunes$Field;") (by decide +kernel)) rfl rfl dX6_bestFence_3 ?_
  refine k_getN (host := RX6) (pre := [oc d0 6 [.ref (a 0), .ref q1, .ref (e 0), .ref q2, .ref (m 0), .ref q, .ref (t 0)]]) C0 hw hinX1 rfl 1 (by decide) (kN.get hw.2.2.1.2 (by decide +kernel)) rfl rfl dX6_bestFence_6 ?_
  refine lv_iconst (v := 1) hx hb dX6_bestFence_9 (by decide) ?_
  refine lv_isub hx hb dX6_bestFence_10 ?_
  refine W.eq (g2 := F0 mm 11 ls [.int (nI (w - 1)), .int 0, .int (nI c0)]) (congrArg (fun z9 => F0 mm 11 ls [.int z9, .int 0, .int (nI c0)]) (show ((nI w) - 1 : Int32) = nI (w - 1) from pk_sub (b := 1) (by omega))) ?_
  refine k_S (As := [.int (nI c0), .int 0, .int (nI (w - 1))]) (rest := []) (pre := []) (mid := []) C0 (c_X6_within l E (nI c0) 0 (nI (w - 1)) ) (va_cwS 3 hts gX6_bestFence_X6_within rfl rfl rfl (by decide +kernel) ⟨Nat.le_of_ble_eq_true rfl, Nat.le_of_ble_eq_true rfl⟩) hw rfl (fun _ => []) (fun _ => rfl) rfl hl.1 rfl (Nat.le_of_ble_eq_true rfl) dX6_bestFence_11 ⟨Nat.le_of_ble_eq_true rfl, Nat.le_of_ble_eq_true rfl⟩ (fun r u H locs hq99 hw => ?_)
  subst hq99
  have hw : kW E AA sx (List.flatten [oc d0 6 [.ref (a 0), .ref q1, .ref (e 0), .ref q2, .ref (m 0), .ref q, .ref (t 0)], fc E a (nI h) (nI w) wd s0 z st he ke tu ca tr co la]) H locs := hw
  refine W.eq (g2 := F0 mm 14 ls [.int (if ¬ (nI c0) < 0 ∧ ¬ (nI (w - 1)) < (nI c0) then 1 else 0)]) rfl ?_
  refine lv_if_ne (tgt := 27) hx hb dX6_bestFence_14 (by decide) (fun c14 => ?_) (fun c14 => False.elim ((kb10t c14) ⟨nI_pos (by omega), nI_nlt (a := w - 1) (b := c0) (by omega) (by omega)⟩))
  have c14 := kb10f c14
  refine lv_iload_n hx hb dX6_bestFence_27 rfl (lv_at hl 2 rfl) ?_
  refine lv_iconst (v := 0) hx hb dX6_bestFence_28 (by decide) ?_
  refine lv_sipush (v := 500) hx hb dX6_bestFence_29 (by decide) ?_
  refine k_S (As := [.int v, .int 0, .int 500]) (rest := []) (pre := []) (mid := []) C0 (c_X6_within l E v 0 500 ) (va_cwS 3 hts gX6_bestFence_X6_within rfl rfl rfl (by decide +kernel) ⟨Nat.le_of_ble_eq_true rfl, Nat.le_of_ble_eq_true rfl⟩) hw rfl (fun _ => []) (fun _ => rfl) rfl hl.1 rfl (Nat.le_of_ble_eq_true rfl) dX6_bestFence_32 ⟨Nat.le_of_ble_eq_true rfl, Nat.le_of_ble_eq_true rfl⟩ (fun r u H locs hq99 hw => ?_)
  subst hq99
  have hw : kW E AA sx (List.flatten [oc d0 6 [.ref (a 0), .ref q1, .ref (e 0), .ref q2, .ref (m 0), .ref q, .ref (t 0)], fc E a (nI h) (nI w) wd s0 z st he ke tu ca tr co la]) H locs := hw
  refine W.eq (g2 := F0 mm 35 ls [.int (if ¬ v < 0 ∧ ¬ 500 < v then 1 else 0)]) rfl ?_
  refine lv_if_ne (tgt := 48) hx hb dX6_bestFence_35 (by decide) (fun c35 => absurd c35 (fun h99 => h99 (if_neg hv))) (fun c35 => ?_)
  have c35 := kb10t c35
  exact k_throw (X := "java/lang/IllegalArgumentException") (text := "steps is out of range") C0 hw rfl hZ hfl hxt hlk (by decide) (by decide) (hts (.classLink RX6 56 "java/lang/IllegalArgumentException") (by decide +kernel)) (hts (.initialized "java/lang/IllegalArgumentException") (by decide +kernel)) (by decide +kernel) (by decide +kernel) (by decide +kernel) (by decide +kernel) hl.1 dX6_bestFence_38 dX6_bestFence_41 dX6_bestFence_42 dX6_bestFence_44 dX6_bestFence_47 (Nat.le_of_ble_eq_true rfl) (Nat.le_of_ble_eq_true rfl) (Nat.le_of_ble_eq_true rfl) (Nat.le_of_ble_eq_true rfl) (rfl) (Nat.le_of_ble_eq_true rfl) (Nat.le_of_ble_eq_true rfl)

set_option maxHeartbeats 4000000 in
set_option maxRecDepth 100000 in
theorem c_X6_bestFence_x1F (l : Launch) (hfl : l.stackTraces = false) (E : kE) (d0 : Nat) (q1 : Nat) (q2 : Nat) (a : Nat → Nat) (e : Nat → Nat) (m : Nat → Nat) (t : Nat → Nat) (q : Nat) (h : Nat) (w : Nat) (wd : Int32) (s0 : Int32) (z : Int32) (st : Nat → Int32) (he : Nat → Int32) (ke : Nat → Int32) (tu : Nat → Int32) (ca : Nat → Int32) (tr : Nat → Int32) (co : Nat → Int32) (la : Nat → Int32) (x : Int32) (v : Int32) (hG : kG h w) (hv : ¬ (¬ x < 0 ∧ ¬ nI (w - 1) < x)) : kX E l yX6_bestFence wsX6_bestFence rmX6_bestFence [.ref d0, .int x, .int v] (List.flatten [oc d0 6 [.ref (a 0), .ref q1, .ref (e 0), .ref q2, .ref (m 0), .ref q, .ref (t 0)], fc E a (nI h) (nI w) wd s0 z st he ke tu ca tr co la]) kI (fun (_ : Int32) (_ : Unit) => False) (fun _ => List.flatten [oc d0 6 [.ref (a 0), .ref q1, .ref (e 0), .ref q2, .ref (m 0), .ref q, .ref (t 0)], fc E a (nI h) (nI w) wd s0 z st he ke tu ca tr co la]) (fun X => X = "java/lang/IndexOutOfBoundsException") 1 6 := by
  refine kX_body (cc := cX6_bestFence) (maxL := 9) (ret := (some .int)) (by decide) rfl (Nat.le_of_ble_eq_true rfl) ?_
  intro pp ee sx mm aa bb me cd H locs AA ls C0 hr hlk hxt hZ hl hw
  obtain ⟨hx, hb, hml, hown, hts⟩ := id C0
  have hl : lv_has ls 9 [(0, .ref d0), (1, .int x), (2, .int v)] := hl
  have hw : kW E AA sx (List.flatten [oc d0 6 [.ref (a 0), .ref q1, .ref (e 0), .ref q2, .ref (m 0), .ref q, .ref (t 0)], fc E a (nI h) (nI w) wd s0 z st he ke tu ca tr co la]) H locs := hw
  have hn9 := kG_n hG
  have hG9 := id hG
  obtain ⟨hG1, hG2, hG3, hG4⟩ := hG9
  have hinX1 : ∀ w ∈ u_ws RX1 TX1 13, w ∈ wsX6_bestFence := by decide +kernel
  have hinX6 : ∀ w ∈ u_ws RX6 TX6 7, w ∈ wsX6_bestFence := by decide +kernel
  refine lv_iload_n hx hb dX6_bestFence_0 rfl (lv_at hl 1 rfl) ?_
  refine lv_iconst (v := 0) hx hb dX6_bestFence_1 (by decide) ?_
  refine lv_aload_n hx hb dX6_bestFence_2 rfl (lv_at hl 0 rfl) ?_
  refine k_get (pre := []) C0 hw hinX6 rfl 0 (by decide) (hts (.fieldLink RX6 10 "SlabDunes" "field" "LSlabDunes$Field;") (by decide +kernel)) rfl rfl dX6_bestFence_3 ?_
  refine k_getN (host := RX6) (pre := [oc d0 6 [.ref (a 0), .ref q1, .ref (e 0), .ref q2, .ref (m 0), .ref q, .ref (t 0)]]) C0 hw hinX1 rfl 1 (by decide) (kN.get hw.2.2.1.2 (by decide +kernel)) rfl rfl dX6_bestFence_6 ?_
  refine lv_iconst (v := 1) hx hb dX6_bestFence_9 (by decide) ?_
  refine lv_isub hx hb dX6_bestFence_10 ?_
  refine W.eq (g2 := F0 mm 11 ls [.int (nI (w - 1)), .int 0, .int x]) (congrArg (fun z9 => F0 mm 11 ls [.int z9, .int 0, .int x]) (show ((nI w) - 1 : Int32) = nI (w - 1) from pk_sub (b := 1) (by omega))) ?_
  refine k_S (As := [.int x, .int 0, .int (nI (w - 1))]) (rest := []) (pre := []) (mid := []) C0 (c_X6_within l E x 0 (nI (w - 1)) ) (va_cwS 3 hts gX6_bestFence_X6_within rfl rfl rfl (by decide +kernel) ⟨Nat.le_of_ble_eq_true rfl, Nat.le_of_ble_eq_true rfl⟩) hw rfl (fun _ => []) (fun _ => rfl) rfl hl.1 rfl (Nat.le_of_ble_eq_true rfl) dX6_bestFence_11 ⟨Nat.le_of_ble_eq_true rfl, Nat.le_of_ble_eq_true rfl⟩ (fun r u H locs hq99 hw => ?_)
  subst hq99
  have hw : kW E AA sx (List.flatten [oc d0 6 [.ref (a 0), .ref q1, .ref (e 0), .ref q2, .ref (m 0), .ref q, .ref (t 0)], fc E a (nI h) (nI w) wd s0 z st he ke tu ca tr co la]) H locs := hw
  refine W.eq (g2 := F0 mm 14 ls [.int (if ¬ x < 0 ∧ ¬ (nI (w - 1)) < x then 1 else 0)]) rfl ?_
  refine lv_if_ne (tgt := 27) hx hb dX6_bestFence_14 (by decide) (fun c14 => absurd c14 (fun h99 => h99 (if_neg hv))) (fun c14 => ?_)
  have c14 := kb10t c14
  exact k_throw (X := "java/lang/IndexOutOfBoundsException") (text := "no such column") C0 hw rfl hZ hfl hxt hlk (by decide) (by decide) (hts (.classLink RX6 79 "java/lang/IndexOutOfBoundsException") (by decide +kernel)) (hts (.initialized "java/lang/IndexOutOfBoundsException") (by decide +kernel)) (by decide +kernel) (by decide +kernel) (by decide +kernel) (by decide +kernel) hl.1 dX6_bestFence_17 dX6_bestFence_20 dX6_bestFence_21 dX6_bestFence_23 dX6_bestFence_26 (Nat.le_of_ble_eq_true rfl) (Nat.le_of_ble_eq_true rfl) (Nat.le_of_ble_eq_true rfl) (Nat.le_of_ble_eq_true rfl) (rfl) (Nat.le_of_ble_eq_true rfl) (Nat.le_of_ble_eq_true rfl)

set_option maxHeartbeats 4000000 in
set_option maxRecDepth 100000 in
theorem c_X6_cell_x2F (l : Launch) (hfl : l.stackTraces = false) (E : kE) (d0 : Nat) (q1 : Nat) (q2 : Nat) (a : Nat → Nat) (e : Nat → Nat) (m : Nat → Nat) (t : Nat → Nat) (q : Nat) (h : Nat) (w : Nat) (wd : Int32) (s0 : Int32) (z : Int32) (st : Nat → Int32) (he : Nat → Int32) (ke : Nat → Int32) (tu : Nat → Int32) (ca : Nat → Int32) (tr : Nat → Int32) (co : Nat → Int32) (la : Nat → Int32) (k : Nat) (v : Int32) (hG : kG h w) (hc : k < h * w) (hv : ¬ (¬ v < 0 ∧ ¬ 5 < v)) : kX E l yX6_cell wsX6_cell rmX6_cell [.ref d0, .int (nI k), .int v] (List.flatten [oc d0 6 [.ref (a 0), .ref q1, .ref (e 0), .ref q2, .ref (m 0), .ref q, .ref (t 0)], fc E a (nI h) (nI w) wd s0 z st he ke tu ca tr co la]) kI (fun (_ : Int32) (_ : Unit) => False) (fun _ => List.flatten [oc d0 6 [.ref (a 0), .ref q1, .ref (e 0), .ref q2, .ref (m 0), .ref q, .ref (t 0)], fc E a (nI h) (nI w) wd s0 z st he ke tu ca tr co la]) (fun X => X = "java/lang/IllegalArgumentException") 1 6 := by
  refine kX_body (cc := cX6_cell) (maxL := 3) (ret := (some .int)) (by decide) rfl (Nat.le_of_ble_eq_true rfl) ?_
  intro pp ee sx mm aa bb me cd H locs AA ls C0 hr hlk hxt hZ hl hw
  obtain ⟨hx, hb, hml, hown, hts⟩ := id C0
  have hl : lv_has ls 3 [(0, .ref d0), (1, .int (nI k)), (2, .int v)] := hl
  have hw : kW E AA sx (List.flatten [oc d0 6 [.ref (a 0), .ref q1, .ref (e 0), .ref q2, .ref (m 0), .ref q, .ref (t 0)], oc (a 0) 1 [.int (nI h), .int (nI w), .int wd, .int s0, .int z, .ref (a 1), .ref (a 2), .ref (a 3), .ref (a 4), .ref (a 5), .ref (a 6), .ref (a 7), .ref (a 8)], rc E (a 1) (a 9) 4 st, rc E (a 2) (a 10) 192 he, rc E (a 3) (a 11) 192 ke, rc E (a 4) (a 12) 192 tu, rc E (a 5) (a 13) 192 ca, rc E (a 6) (a 14) 192 tr, rc E (a 7) (a 15) 12 co, rc E (a 8) (a 16) 4 la]) H locs := hw
  have hn9 := kG_n hG
  have hG9 := id hG
  obtain ⟨hG1, hG2, hG3, hG4⟩ := hG9
  have hinX6 : ∀ w ∈ u_ws RX6 TX6 7, w ∈ wsX6_cell := by decide +kernel
  refine lv_iload_n hx hb dX6_cell_0 rfl (lv_at hl 1 rfl) ?_
  refine lv_iconst (v := 0) hx hb dX6_cell_1 (by decide) ?_
  refine lv_aload_n hx hb dX6_cell_2 rfl (lv_at hl 0 rfl) ?_
  refine k_get (pre := []) C0 hw hinX6 rfl 0 (by decide) (hts (.fieldLink RX6 10 "SlabDunes" "field" "LSlabDunes$Field;") (by decide +kernel)) rfl rfl dX6_cell_3 ?_
  refine k_V (As := []) (rest := [.int 0, .int (nI k)]) (pre := [oc d0 6 [.ref (a 0), .ref q1, .ref (e 0), .ref q2, .ref (m 0), .ref q, .ref (t 0)]]) (mid := [oc (a 0) 1 [.int (nI h), .int (nI w), .int wd, .int s0, .int z, .ref (a 1), .ref (a 2), .ref (a 3), .ref (a 4), .ref (a 5), .ref (a 6), .ref (a 7), .ref (a 8)], rc E (a 1) (a 9) 4 st, rc E (a 2) (a 10) 192 he, rc E (a 3) (a 11) 192 ke, rc E (a 4) (a 12) 192 tu, rc E (a 5) (a 13) 192 ca, rc E (a 6) (a 14) 192 tr, rc E (a 7) (a 15) 12 co, rc E (a 8) (a 16) 4 la]) C0 (c_X1_cells l E a h w wd s0 z st he ke tu ca tr co la (by first | assumption | omega)) (cwV 0 hts gX6_cell_X1_cells rfl rfl rfl (by decide +kernel) ⟨Nat.le_of_ble_eq_true rfl, Nat.le_of_ble_eq_true rfl⟩) hw rfl (fun _ => [oc (a 0) 1 [.int (nI h), .int (nI w), .int wd, .int s0, .int z, .ref (a 1), .ref (a 2), .ref (a 3), .ref (a 4), .ref (a 5), .ref (a 6), .ref (a 7), .ref (a 8)], rc E (a 1) (a 9) 4 st, rc E (a 2) (a 10) 192 he, rc E (a 3) (a 11) 192 ke, rc E (a 4) (a 12) 192 tu, rc E (a 5) (a 13) 192 ca, rc E (a 6) (a 14) 192 tr, rc E (a 7) (a 15) 12 co, rc E (a 8) (a 16) 4 la]) (fun _ => rfl) 0 1 rfl rfl rfl rfl hl.1 rfl (Nat.le_of_ble_eq_true rfl) dX6_cell_6 ⟨Nat.le_of_ble_eq_true rfl, Nat.le_of_ble_eq_true rfl⟩ (fun r u H locs hq99 hw => ?_)
  subst hq99
  have hw : kW E AA sx (List.flatten [oc d0 6 [.ref (a 0), .ref q1, .ref (e 0), .ref q2, .ref (m 0), .ref q, .ref (t 0)], oc (a 0) 1 [.int (nI h), .int (nI w), .int wd, .int s0, .int z, .ref (a 1), .ref (a 2), .ref (a 3), .ref (a 4), .ref (a 5), .ref (a 6), .ref (a 7), .ref (a 8)], rc E (a 1) (a 9) 4 st, rc E (a 2) (a 10) 192 he, rc E (a 3) (a 11) 192 ke, rc E (a 4) (a 12) 192 tu, rc E (a 5) (a 13) 192 ca, rc E (a 6) (a 14) 192 tr, rc E (a 7) (a 15) 12 co, rc E (a 8) (a 16) 4 la]) H locs := hw
  refine W.eq (g2 := F0 mm 9 ls [.int (nI (h * w)), .int 0, .int (nI k)]) rfl ?_
  refine lv_iconst (v := 1) hx hb dX6_cell_9 (by decide) ?_
  refine lv_isub hx hb dX6_cell_10 ?_
  refine W.eq (g2 := F0 mm 11 ls [.int (nI (h * w - 1)), .int 0, .int (nI k)]) (congrArg (fun z9 => F0 mm 11 ls [.int z9, .int 0, .int (nI k)]) (show ((nI (h * w)) - 1 : Int32) = nI (h * w - 1) from pk_sub (b := 1) (by omega))) ?_
  refine k_S (As := [.int (nI k), .int 0, .int (nI (h * w - 1))]) (rest := []) (pre := []) (mid := []) C0 (c_X6_within l E (nI k) 0 (nI (h * w - 1)) ) (va_cwS 3 hts gX6_cell_X6_within rfl rfl rfl (by decide +kernel) ⟨Nat.le_of_ble_eq_true rfl, Nat.le_of_ble_eq_true rfl⟩) hw rfl (fun _ => []) (fun _ => rfl) rfl hl.1 rfl (Nat.le_of_ble_eq_true rfl) dX6_cell_11 ⟨Nat.le_of_ble_eq_true rfl, Nat.le_of_ble_eq_true rfl⟩ (fun r u H locs hq99 hw => ?_)
  subst hq99
  have hw : kW E AA sx (List.flatten [oc d0 6 [.ref (a 0), .ref q1, .ref (e 0), .ref q2, .ref (m 0), .ref q, .ref (t 0)], oc (a 0) 1 [.int (nI h), .int (nI w), .int wd, .int s0, .int z, .ref (a 1), .ref (a 2), .ref (a 3), .ref (a 4), .ref (a 5), .ref (a 6), .ref (a 7), .ref (a 8)], rc E (a 1) (a 9) 4 st, rc E (a 2) (a 10) 192 he, rc E (a 3) (a 11) 192 ke, rc E (a 4) (a 12) 192 tu, rc E (a 5) (a 13) 192 ca, rc E (a 6) (a 14) 192 tr, rc E (a 7) (a 15) 12 co, rc E (a 8) (a 16) 4 la]) H locs := hw
  refine W.eq (g2 := F0 mm 14 ls [.int (if ¬ (nI k) < 0 ∧ ¬ (nI (h * w - 1)) < (nI k) then 1 else 0)]) rfl ?_
  refine lv_if_ne (tgt := 27) hx hb dX6_cell_14 (by decide) (fun c14 => ?_) (fun c14 => False.elim ((kb10t c14) ⟨nI_pos (by omega), nI_nlt (a := h * w - 1) (by omega) (by omega)⟩))
  have c14 := kb10f c14
  refine lv_iload_n hx hb dX6_cell_27 rfl (lv_at hl 2 rfl) ?_
  refine lv_iconst (v := 0) hx hb dX6_cell_28 (by decide) ?_
  refine lv_iconst (v := 5) hx hb dX6_cell_29 (by decide) ?_
  refine k_S (As := [.int v, .int 0, .int 5]) (rest := []) (pre := []) (mid := []) C0 (c_X6_within l E v 0 5 ) (va_cwS 3 hts gX6_cell_X6_within rfl rfl rfl (by decide +kernel) ⟨Nat.le_of_ble_eq_true rfl, Nat.le_of_ble_eq_true rfl⟩) hw rfl (fun _ => []) (fun _ => rfl) rfl hl.1 rfl (Nat.le_of_ble_eq_true rfl) dX6_cell_30 ⟨Nat.le_of_ble_eq_true rfl, Nat.le_of_ble_eq_true rfl⟩ (fun r u H locs hq99 hw => ?_)
  subst hq99
  have hw : kW E AA sx (List.flatten [oc d0 6 [.ref (a 0), .ref q1, .ref (e 0), .ref q2, .ref (m 0), .ref q, .ref (t 0)], oc (a 0) 1 [.int (nI h), .int (nI w), .int wd, .int s0, .int z, .ref (a 1), .ref (a 2), .ref (a 3), .ref (a 4), .ref (a 5), .ref (a 6), .ref (a 7), .ref (a 8)], rc E (a 1) (a 9) 4 st, rc E (a 2) (a 10) 192 he, rc E (a 3) (a 11) 192 ke, rc E (a 4) (a 12) 192 tu, rc E (a 5) (a 13) 192 ca, rc E (a 6) (a 14) 192 tr, rc E (a 7) (a 15) 12 co, rc E (a 8) (a 16) 4 la]) H locs := hw
  refine W.eq (g2 := F0 mm 33 ls [.int (if ¬ v < 0 ∧ ¬ 5 < v then 1 else 0)]) rfl ?_
  refine lv_if_ne (tgt := 46) hx hb dX6_cell_33 (by decide) (fun c33 => absurd c33 (fun h99 => h99 (if_neg hv))) (fun c33 => ?_)
  have c33 := kb10t c33
  exact k_throw (X := "java/lang/IllegalArgumentException") (text := "what is out of range") C0 hw rfl hZ hfl hxt hlk (by decide) (by decide) (hts (.classLink RX6 56 "java/lang/IllegalArgumentException") (by decide +kernel)) (hts (.initialized "java/lang/IllegalArgumentException") (by decide +kernel)) (by decide +kernel) (by decide +kernel) (by decide +kernel) (by decide +kernel) hl.1 dX6_cell_36 dX6_cell_39 dX6_cell_40 dX6_cell_42 dX6_cell_45 (Nat.le_of_ble_eq_true rfl) (Nat.le_of_ble_eq_true rfl) (Nat.le_of_ble_eq_true rfl) (Nat.le_of_ble_eq_true rfl) (rfl) (Nat.le_of_ble_eq_true rfl) (Nat.le_of_ble_eq_true rfl)

set_option maxHeartbeats 4000000 in
set_option maxRecDepth 100000 in
theorem c_X6_cell_x1F (l : Launch) (hfl : l.stackTraces = false) (E : kE) (d0 : Nat) (q1 : Nat) (q2 : Nat) (a : Nat → Nat) (e : Nat → Nat) (m : Nat → Nat) (t : Nat → Nat) (q : Nat) (h : Nat) (w : Nat) (wd : Int32) (s0 : Int32) (z : Int32) (st : Nat → Int32) (he : Nat → Int32) (ke : Nat → Int32) (tu : Nat → Int32) (ca : Nat → Int32) (tr : Nat → Int32) (co : Nat → Int32) (la : Nat → Int32) (x : Int32) (v : Int32) (hG : kG h w) (hv : ¬ (¬ x < 0 ∧ ¬ nI (h * w - 1) < x)) : kX E l yX6_cell wsX6_cell rmX6_cell [.ref d0, .int x, .int v] (List.flatten [oc d0 6 [.ref (a 0), .ref q1, .ref (e 0), .ref q2, .ref (m 0), .ref q, .ref (t 0)], fc E a (nI h) (nI w) wd s0 z st he ke tu ca tr co la]) kI (fun (_ : Int32) (_ : Unit) => False) (fun _ => List.flatten [oc d0 6 [.ref (a 0), .ref q1, .ref (e 0), .ref q2, .ref (m 0), .ref q, .ref (t 0)], fc E a (nI h) (nI w) wd s0 z st he ke tu ca tr co la]) (fun X => X = "java/lang/IndexOutOfBoundsException") 1 6 := by
  refine kX_body (cc := cX6_cell) (maxL := 3) (ret := (some .int)) (by decide) rfl (Nat.le_of_ble_eq_true rfl) ?_
  intro pp ee sx mm aa bb me cd H locs AA ls C0 hr hlk hxt hZ hl hw
  obtain ⟨hx, hb, hml, hown, hts⟩ := id C0
  have hl : lv_has ls 3 [(0, .ref d0), (1, .int x), (2, .int v)] := hl
  have hw : kW E AA sx (List.flatten [oc d0 6 [.ref (a 0), .ref q1, .ref (e 0), .ref q2, .ref (m 0), .ref q, .ref (t 0)], oc (a 0) 1 [.int (nI h), .int (nI w), .int wd, .int s0, .int z, .ref (a 1), .ref (a 2), .ref (a 3), .ref (a 4), .ref (a 5), .ref (a 6), .ref (a 7), .ref (a 8)], rc E (a 1) (a 9) 4 st, rc E (a 2) (a 10) 192 he, rc E (a 3) (a 11) 192 ke, rc E (a 4) (a 12) 192 tu, rc E (a 5) (a 13) 192 ca, rc E (a 6) (a 14) 192 tr, rc E (a 7) (a 15) 12 co, rc E (a 8) (a 16) 4 la]) H locs := hw
  have hn9 := kG_n hG
  have hG9 := id hG
  obtain ⟨hG1, hG2, hG3, hG4⟩ := hG9
  have hinX6 : ∀ w ∈ u_ws RX6 TX6 7, w ∈ wsX6_cell := by decide +kernel
  refine lv_iload_n hx hb dX6_cell_0 rfl (lv_at hl 1 rfl) ?_
  refine lv_iconst (v := 0) hx hb dX6_cell_1 (by decide) ?_
  refine lv_aload_n hx hb dX6_cell_2 rfl (lv_at hl 0 rfl) ?_
  refine k_get (pre := []) C0 hw hinX6 rfl 0 (by decide) (hts (.fieldLink RX6 10 "SlabDunes" "field" "LSlabDunes$Field;") (by decide +kernel)) rfl rfl dX6_cell_3 ?_
  refine k_V (As := []) (rest := [.int 0, .int x]) (pre := [oc d0 6 [.ref (a 0), .ref q1, .ref (e 0), .ref q2, .ref (m 0), .ref q, .ref (t 0)]]) (mid := [oc (a 0) 1 [.int (nI h), .int (nI w), .int wd, .int s0, .int z, .ref (a 1), .ref (a 2), .ref (a 3), .ref (a 4), .ref (a 5), .ref (a 6), .ref (a 7), .ref (a 8)], rc E (a 1) (a 9) 4 st, rc E (a 2) (a 10) 192 he, rc E (a 3) (a 11) 192 ke, rc E (a 4) (a 12) 192 tu, rc E (a 5) (a 13) 192 ca, rc E (a 6) (a 14) 192 tr, rc E (a 7) (a 15) 12 co, rc E (a 8) (a 16) 4 la]) C0 (c_X1_cells l E a h w wd s0 z st he ke tu ca tr co la (by first | assumption | omega)) (cwV 0 hts gX6_cell_X1_cells rfl rfl rfl (by decide +kernel) ⟨Nat.le_of_ble_eq_true rfl, Nat.le_of_ble_eq_true rfl⟩) hw rfl (fun _ => [oc (a 0) 1 [.int (nI h), .int (nI w), .int wd, .int s0, .int z, .ref (a 1), .ref (a 2), .ref (a 3), .ref (a 4), .ref (a 5), .ref (a 6), .ref (a 7), .ref (a 8)], rc E (a 1) (a 9) 4 st, rc E (a 2) (a 10) 192 he, rc E (a 3) (a 11) 192 ke, rc E (a 4) (a 12) 192 tu, rc E (a 5) (a 13) 192 ca, rc E (a 6) (a 14) 192 tr, rc E (a 7) (a 15) 12 co, rc E (a 8) (a 16) 4 la]) (fun _ => rfl) 0 1 rfl rfl rfl rfl hl.1 rfl (Nat.le_of_ble_eq_true rfl) dX6_cell_6 ⟨Nat.le_of_ble_eq_true rfl, Nat.le_of_ble_eq_true rfl⟩ (fun r u H locs hq99 hw => ?_)
  subst hq99
  have hw : kW E AA sx (List.flatten [oc d0 6 [.ref (a 0), .ref q1, .ref (e 0), .ref q2, .ref (m 0), .ref q, .ref (t 0)], oc (a 0) 1 [.int (nI h), .int (nI w), .int wd, .int s0, .int z, .ref (a 1), .ref (a 2), .ref (a 3), .ref (a 4), .ref (a 5), .ref (a 6), .ref (a 7), .ref (a 8)], rc E (a 1) (a 9) 4 st, rc E (a 2) (a 10) 192 he, rc E (a 3) (a 11) 192 ke, rc E (a 4) (a 12) 192 tu, rc E (a 5) (a 13) 192 ca, rc E (a 6) (a 14) 192 tr, rc E (a 7) (a 15) 12 co, rc E (a 8) (a 16) 4 la]) H locs := hw
  refine W.eq (g2 := F0 mm 9 ls [.int (nI (h * w)), .int 0, .int x]) rfl ?_
  refine lv_iconst (v := 1) hx hb dX6_cell_9 (by decide) ?_
  refine lv_isub hx hb dX6_cell_10 ?_
  refine W.eq (g2 := F0 mm 11 ls [.int (nI (h * w - 1)), .int 0, .int x]) (congrArg (fun z9 => F0 mm 11 ls [.int z9, .int 0, .int x]) (show ((nI (h * w)) - 1 : Int32) = nI (h * w - 1) from pk_sub (b := 1) (by omega))) ?_
  refine k_S (As := [.int x, .int 0, .int (nI (h * w - 1))]) (rest := []) (pre := []) (mid := []) C0 (c_X6_within l E x 0 (nI (h * w - 1)) ) (va_cwS 3 hts gX6_cell_X6_within rfl rfl rfl (by decide +kernel) ⟨Nat.le_of_ble_eq_true rfl, Nat.le_of_ble_eq_true rfl⟩) hw rfl (fun _ => []) (fun _ => rfl) rfl hl.1 rfl (Nat.le_of_ble_eq_true rfl) dX6_cell_11 ⟨Nat.le_of_ble_eq_true rfl, Nat.le_of_ble_eq_true rfl⟩ (fun r u H locs hq99 hw => ?_)
  subst hq99
  have hw : kW E AA sx (List.flatten [oc d0 6 [.ref (a 0), .ref q1, .ref (e 0), .ref q2, .ref (m 0), .ref q, .ref (t 0)], oc (a 0) 1 [.int (nI h), .int (nI w), .int wd, .int s0, .int z, .ref (a 1), .ref (a 2), .ref (a 3), .ref (a 4), .ref (a 5), .ref (a 6), .ref (a 7), .ref (a 8)], rc E (a 1) (a 9) 4 st, rc E (a 2) (a 10) 192 he, rc E (a 3) (a 11) 192 ke, rc E (a 4) (a 12) 192 tu, rc E (a 5) (a 13) 192 ca, rc E (a 6) (a 14) 192 tr, rc E (a 7) (a 15) 12 co, rc E (a 8) (a 16) 4 la]) H locs := hw
  refine W.eq (g2 := F0 mm 14 ls [.int (if ¬ x < 0 ∧ ¬ (nI (h * w - 1)) < x then 1 else 0)]) rfl ?_
  refine lv_if_ne (tgt := 27) hx hb dX6_cell_14 (by decide) (fun c14 => absurd c14 (fun h99 => h99 (if_neg hv))) (fun c14 => ?_)
  have c14 := kb10t c14
  exact k_throw (X := "java/lang/IndexOutOfBoundsException") (text := "no such cell") C0 hw rfl hZ hfl hxt hlk (by decide) (by decide) (hts (.classLink RX6 79 "java/lang/IndexOutOfBoundsException") (by decide +kernel)) (hts (.initialized "java/lang/IndexOutOfBoundsException") (by decide +kernel)) (by decide +kernel) (by decide +kernel) (by decide +kernel) (by decide +kernel) hl.1 dX6_cell_17 dX6_cell_20 dX6_cell_21 dX6_cell_23 dX6_cell_26 (Nat.le_of_ble_eq_true rfl) (Nat.le_of_ble_eq_true rfl) (Nat.le_of_ble_eq_true rfl) (Nat.le_of_ble_eq_true rfl) (rfl) (Nat.le_of_ble_eq_true rfl) (Nat.le_of_ble_eq_true rfl)

set_option maxHeartbeats 4000000 in
set_option maxRecDepth 100000 in
theorem c_X6_count_x1F (l : Launch) (hfl : l.stackTraces = false) (E : kE) (d0 : Nat) (q1 : Nat) (q2 : Nat) (a : Nat → Nat) (e : Nat → Nat) (m : Nat → Nat) (t : Nat → Nat) (q : Nat) (h : Nat) (w : Nat) (wd : Int32) (s0 : Int32) (z : Int32) (st : Nat → Int32) (he : Nat → Int32) (ke : Nat → Int32) (tu : Nat → Int32) (ca : Nat → Int32) (tr : Nat → Int32) (co : Nat → Int32) (la : Nat → Int32) (x : Int32) (hv : ¬ (¬ x < 0 ∧ ¬ 11 < x)) : kX E l yX6_count wsX6_count rmX6_count [.ref d0, .int x] (List.flatten [oc d0 6 [.ref (a 0), .ref q1, .ref (e 0), .ref q2, .ref (m 0), .ref q, .ref (t 0)], fc E a (nI h) (nI w) wd s0 z st he ke tu ca tr co la]) kI (fun (_ : Int32) (_ : Unit) => False) (fun _ => List.flatten [oc d0 6 [.ref (a 0), .ref q1, .ref (e 0), .ref q2, .ref (m 0), .ref q, .ref (t 0)], fc E a (nI h) (nI w) wd s0 z st he ke tu ca tr co la]) (fun X => X = "java/lang/IllegalArgumentException") 1 6 := by
  refine kX_body (cc := cX6_count) (maxL := 2) (ret := (some .int)) (by decide) rfl (Nat.le_of_ble_eq_true rfl) ?_
  intro pp ee sx mm aa bb me cd H locs AA ls C0 hr hlk hxt hZ hl hw
  obtain ⟨hx, hb, hml, hown, hts⟩ := id C0
  have hl : lv_has ls 2 [(0, .ref d0), (1, .int x)] := hl
  have hw : kW E AA sx (List.flatten [oc d0 6 [.ref (a 0), .ref q1, .ref (e 0), .ref q2, .ref (m 0), .ref q, .ref (t 0)], oc (a 0) 1 [.int (nI h), .int (nI w), .int wd, .int s0, .int z, .ref (a 1), .ref (a 2), .ref (a 3), .ref (a 4), .ref (a 5), .ref (a 6), .ref (a 7), .ref (a 8)], rc E (a 1) (a 9) 4 st, rc E (a 2) (a 10) 192 he, rc E (a 3) (a 11) 192 ke, rc E (a 4) (a 12) 192 tu, rc E (a 5) (a 13) 192 ca, rc E (a 6) (a 14) 192 tr, rc E (a 7) (a 15) 12 co, rc E (a 8) (a 16) 4 la]) H locs := hw
  refine lv_iload_n hx hb dX6_count_0 rfl (lv_at hl 1 rfl) ?_
  refine lv_iconst (v := 0) hx hb dX6_count_1 (by decide) ?_
  refine lv_bipush (v := 11) hx hb dX6_count_2 (by decide) ?_
  refine k_S (As := [.int x, .int 0, .int 11]) (rest := []) (pre := []) (mid := []) C0 (c_X6_within l E x 0 11 ) (va_cwS 3 hts gX6_count_X6_within rfl rfl rfl (by decide +kernel) ⟨Nat.le_of_ble_eq_true rfl, Nat.le_of_ble_eq_true rfl⟩) hw rfl (fun _ => []) (fun _ => rfl) rfl hl.1 rfl (Nat.le_of_ble_eq_true rfl) dX6_count_4 ⟨Nat.le_of_ble_eq_true rfl, Nat.le_of_ble_eq_true rfl⟩ (fun r u H locs hq99 hw => ?_)
  subst hq99
  have hw : kW E AA sx (List.flatten [oc d0 6 [.ref (a 0), .ref q1, .ref (e 0), .ref q2, .ref (m 0), .ref q, .ref (t 0)], oc (a 0) 1 [.int (nI h), .int (nI w), .int wd, .int s0, .int z, .ref (a 1), .ref (a 2), .ref (a 3), .ref (a 4), .ref (a 5), .ref (a 6), .ref (a 7), .ref (a 8)], rc E (a 1) (a 9) 4 st, rc E (a 2) (a 10) 192 he, rc E (a 3) (a 11) 192 ke, rc E (a 4) (a 12) 192 tu, rc E (a 5) (a 13) 192 ca, rc E (a 6) (a 14) 192 tr, rc E (a 7) (a 15) 12 co, rc E (a 8) (a 16) 4 la]) H locs := hw
  refine W.eq (g2 := F0 mm 7 ls [.int (if ¬ x < 0 ∧ ¬ 11 < x then 1 else 0)]) rfl ?_
  refine lv_if_ne (tgt := 20) hx hb dX6_count_7 (by decide) (fun c7 => absurd c7 (fun h99 => h99 (if_neg hv))) (fun c7 => ?_)
  have c7 := kb10t c7
  exact k_throw (X := "java/lang/IllegalArgumentException") (text := "what is out of range") C0 hw rfl hZ hfl hxt hlk (by decide) (by decide) (hts (.classLink RX6 56 "java/lang/IllegalArgumentException") (by decide +kernel)) (hts (.initialized "java/lang/IllegalArgumentException") (by decide +kernel)) (by decide +kernel) (by decide +kernel) (by decide +kernel) (by decide +kernel) hl.1 dX6_count_10 dX6_count_13 dX6_count_14 dX6_count_16 dX6_count_19 (Nat.le_of_ble_eq_true rfl) (Nat.le_of_ble_eq_true rfl) (Nat.le_of_ble_eq_true rfl) (Nat.le_of_ble_eq_true rfl) (rfl) (Nat.le_of_ble_eq_true rfl) (Nat.le_of_ble_eq_true rfl)

set_option maxHeartbeats 4000000 in
set_option maxRecDepth 100000 in
theorem c_X6_duneOf_x2F (l : Launch) (hfl : l.stackTraces = false) (E : kE) (d0 : Nat) (q1 : Nat) (q2 : Nat) (a : Nat → Nat) (e : Nat → Nat) (m : Nat → Nat) (t : Nat → Nat) (q : Nat) (h : Nat) (w : Nat) (wd : Int32) (s0 : Int32) (z : Int32) (st : Nat → Int32) (he : Nat → Int32) (ke : Nat → Int32) (tu : Nat → Int32) (ca : Nat → Int32) (tr : Nat → Int32) (co : Nat → Int32) (la : Nat → Int32) (k : Nat) (v : Int32) (hG : kG h w) (hc : k < h * w) (hv : ¬ (¬ v < 1 ∧ ¬ 99 < v)) : kX E l yX6_duneOf wsX6_duneOf rmX6_duneOf [.ref d0, .int (nI k), .int v] (List.flatten [oc d0 6 [.ref (a 0), .ref q1, .ref (e 0), .ref q2, .ref (m 0), .ref q, .ref (t 0)], fc E a (nI h) (nI w) wd s0 z st he ke tu ca tr co la]) kI (fun (_ : Int32) (_ : Unit) => False) (fun _ => List.flatten [oc d0 6 [.ref (a 0), .ref q1, .ref (e 0), .ref q2, .ref (m 0), .ref q, .ref (t 0)], fc E a (nI h) (nI w) wd s0 z st he ke tu ca tr co la]) (fun X => X = "java/lang/IllegalArgumentException") 1 6 := by
  refine kX_body (cc := cX6_duneOf) (maxL := 3) (ret := (some .int)) (by decide) rfl (Nat.le_of_ble_eq_true rfl) ?_
  intro pp ee sx mm aa bb me cd H locs AA ls C0 hr hlk hxt hZ hl hw
  obtain ⟨hx, hb, hml, hown, hts⟩ := id C0
  have hl : lv_has ls 3 [(0, .ref d0), (1, .int (nI k)), (2, .int v)] := hl
  have hw : kW E AA sx (List.flatten [oc d0 6 [.ref (a 0), .ref q1, .ref (e 0), .ref q2, .ref (m 0), .ref q, .ref (t 0)], fc E a (nI h) (nI w) wd s0 z st he ke tu ca tr co la]) H locs := hw
  have hn9 := kG_n hG
  have hG9 := id hG
  obtain ⟨hG1, hG2, hG3, hG4⟩ := hG9
  have hinX6 : ∀ w ∈ u_ws RX6 TX6 7, w ∈ wsX6_duneOf := by decide +kernel
  refine lv_iload_n hx hb dX6_duneOf_0 rfl (lv_at hl 1 rfl) ?_
  refine lv_iconst (v := 0) hx hb dX6_duneOf_1 (by decide) ?_
  refine lv_aload_n hx hb dX6_duneOf_2 rfl (lv_at hl 0 rfl) ?_
  refine k_get (pre := []) C0 hw hinX6 rfl 0 (by decide) (hts (.fieldLink RX6 10 "SlabDunes" "field" "LSlabDunes$Field;") (by decide +kernel)) rfl rfl dX6_duneOf_3 ?_
  refine k_V (As := []) (rest := [.int 0, .int (nI k)]) (pre := [oc d0 6 [.ref (a 0), .ref q1, .ref (e 0), .ref q2, .ref (m 0), .ref q, .ref (t 0)]]) (mid := [fc E a (nI h) (nI w) wd s0 z st he ke tu ca tr co la]) C0 (c_X1_cells l E a h w wd s0 z st he ke tu ca tr co la (by first | assumption | omega)) (cwV 0 hts gX6_duneOf_X1_cells rfl rfl rfl (by decide +kernel) ⟨Nat.le_of_ble_eq_true rfl, Nat.le_of_ble_eq_true rfl⟩) hw rfl (fun _ => [fc E a (nI h) (nI w) wd s0 z st he ke tu ca tr co la]) (fun _ => rfl) 0 1 rfl rfl rfl rfl hl.1 rfl (Nat.le_of_ble_eq_true rfl) dX6_duneOf_6 ⟨Nat.le_of_ble_eq_true rfl, Nat.le_of_ble_eq_true rfl⟩ (fun r u H locs hq99 hw => ?_)
  subst hq99
  have hw : kW E AA sx (List.flatten [oc d0 6 [.ref (a 0), .ref q1, .ref (e 0), .ref q2, .ref (m 0), .ref q, .ref (t 0)], fc E a (nI h) (nI w) wd s0 z st he ke tu ca tr co la]) H locs := hw
  refine W.eq (g2 := F0 mm 9 ls [.int (nI (h * w)), .int 0, .int (nI k)]) rfl ?_
  refine lv_iconst (v := 1) hx hb dX6_duneOf_9 (by decide) ?_
  refine lv_isub hx hb dX6_duneOf_10 ?_
  refine W.eq (g2 := F0 mm 11 ls [.int (nI (h * w - 1)), .int 0, .int (nI k)]) (congrArg (fun z9 => F0 mm 11 ls [.int z9, .int 0, .int (nI k)]) (show ((nI (h * w)) - 1 : Int32) = nI (h * w - 1) from pk_sub (b := 1) (by omega))) ?_
  refine k_S (As := [.int (nI k), .int 0, .int (nI (h * w - 1))]) (rest := []) (pre := []) (mid := []) C0 (c_X6_within l E (nI k) 0 (nI (h * w - 1)) ) (va_cwS 3 hts gX6_duneOf_X6_within rfl rfl rfl (by decide +kernel) ⟨Nat.le_of_ble_eq_true rfl, Nat.le_of_ble_eq_true rfl⟩) hw rfl (fun _ => []) (fun _ => rfl) rfl hl.1 rfl (Nat.le_of_ble_eq_true rfl) dX6_duneOf_11 ⟨Nat.le_of_ble_eq_true rfl, Nat.le_of_ble_eq_true rfl⟩ (fun r u H locs hq99 hw => ?_)
  subst hq99
  have hw : kW E AA sx (List.flatten [oc d0 6 [.ref (a 0), .ref q1, .ref (e 0), .ref q2, .ref (m 0), .ref q, .ref (t 0)], fc E a (nI h) (nI w) wd s0 z st he ke tu ca tr co la]) H locs := hw
  refine W.eq (g2 := F0 mm 14 ls [.int (if ¬ (nI k) < 0 ∧ ¬ (nI (h * w - 1)) < (nI k) then 1 else 0)]) rfl ?_
  refine lv_if_ne (tgt := 27) hx hb dX6_duneOf_14 (by decide) (fun c14 => ?_) (fun c14 => False.elim ((kb10t c14) ⟨nI_pos (by omega), nI_nlt (a := h * w - 1) (by omega) (by omega)⟩))
  have c14 := kb10f c14
  refine lv_iload_n hx hb dX6_duneOf_27 rfl (lv_at hl 2 rfl) ?_
  refine lv_iconst (v := 1) hx hb dX6_duneOf_28 (by decide) ?_
  refine lv_bipush (v := 99) hx hb dX6_duneOf_29 (by decide) ?_
  refine k_S (As := [.int v, .int 1, .int 99]) (rest := []) (pre := []) (mid := []) C0 (c_X6_within l E v 1 99 ) (va_cwS 3 hts gX6_duneOf_X6_within rfl rfl rfl (by decide +kernel) ⟨Nat.le_of_ble_eq_true rfl, Nat.le_of_ble_eq_true rfl⟩) hw rfl (fun _ => []) (fun _ => rfl) rfl hl.1 rfl (Nat.le_of_ble_eq_true rfl) dX6_duneOf_31 ⟨Nat.le_of_ble_eq_true rfl, Nat.le_of_ble_eq_true rfl⟩ (fun r u H locs hq99 hw => ?_)
  subst hq99
  have hw : kW E AA sx (List.flatten [oc d0 6 [.ref (a 0), .ref q1, .ref (e 0), .ref q2, .ref (m 0), .ref q, .ref (t 0)], fc E a (nI h) (nI w) wd s0 z st he ke tu ca tr co la]) H locs := hw
  refine W.eq (g2 := F0 mm 34 ls [.int (if ¬ v < 1 ∧ ¬ 99 < v then 1 else 0)]) rfl ?_
  refine lv_if_ne (tgt := 47) hx hb dX6_duneOf_34 (by decide) (fun c34 => absurd c34 (fun h99 => h99 (if_neg hv))) (fun c34 => ?_)
  have c34 := kb10t c34
  exact k_throw (X := "java/lang/IllegalArgumentException") (text := "threshold is out of range") C0 hw rfl hZ hfl hxt hlk (by decide) (by decide) (hts (.classLink RX6 56 "java/lang/IllegalArgumentException") (by decide +kernel)) (hts (.initialized "java/lang/IllegalArgumentException") (by decide +kernel)) (by decide +kernel) (by decide +kernel) (by decide +kernel) (by decide +kernel) hl.1 dX6_duneOf_37 dX6_duneOf_40 dX6_duneOf_41 dX6_duneOf_43 dX6_duneOf_46 (Nat.le_of_ble_eq_true rfl) (Nat.le_of_ble_eq_true rfl) (Nat.le_of_ble_eq_true rfl) (Nat.le_of_ble_eq_true rfl) (rfl) (Nat.le_of_ble_eq_true rfl) (Nat.le_of_ble_eq_true rfl)

set_option maxHeartbeats 4000000 in
set_option maxRecDepth 100000 in
theorem c_X6_duneOf_x1F (l : Launch) (hfl : l.stackTraces = false) (E : kE) (d0 : Nat) (q1 : Nat) (q2 : Nat) (a : Nat → Nat) (e : Nat → Nat) (m : Nat → Nat) (t : Nat → Nat) (q : Nat) (h : Nat) (w : Nat) (wd : Int32) (s0 : Int32) (z : Int32) (st : Nat → Int32) (he : Nat → Int32) (ke : Nat → Int32) (tu : Nat → Int32) (ca : Nat → Int32) (tr : Nat → Int32) (co : Nat → Int32) (la : Nat → Int32) (x : Int32) (v : Int32) (hG : kG h w) (hv : ¬ (¬ x < 0 ∧ ¬ nI (h * w - 1) < x)) : kX E l yX6_duneOf wsX6_duneOf rmX6_duneOf [.ref d0, .int x, .int v] (List.flatten [oc d0 6 [.ref (a 0), .ref q1, .ref (e 0), .ref q2, .ref (m 0), .ref q, .ref (t 0)], fc E a (nI h) (nI w) wd s0 z st he ke tu ca tr co la]) kI (fun (_ : Int32) (_ : Unit) => False) (fun _ => List.flatten [oc d0 6 [.ref (a 0), .ref q1, .ref (e 0), .ref q2, .ref (m 0), .ref q, .ref (t 0)], fc E a (nI h) (nI w) wd s0 z st he ke tu ca tr co la]) (fun X => X = "java/lang/IndexOutOfBoundsException") 1 6 := by
  refine kX_body (cc := cX6_duneOf) (maxL := 3) (ret := (some .int)) (by decide) rfl (Nat.le_of_ble_eq_true rfl) ?_
  intro pp ee sx mm aa bb me cd H locs AA ls C0 hr hlk hxt hZ hl hw
  obtain ⟨hx, hb, hml, hown, hts⟩ := id C0
  have hl : lv_has ls 3 [(0, .ref d0), (1, .int x), (2, .int v)] := hl
  have hw : kW E AA sx (List.flatten [oc d0 6 [.ref (a 0), .ref q1, .ref (e 0), .ref q2, .ref (m 0), .ref q, .ref (t 0)], fc E a (nI h) (nI w) wd s0 z st he ke tu ca tr co la]) H locs := hw
  have hn9 := kG_n hG
  have hG9 := id hG
  obtain ⟨hG1, hG2, hG3, hG4⟩ := hG9
  have hinX6 : ∀ w ∈ u_ws RX6 TX6 7, w ∈ wsX6_duneOf := by decide +kernel
  refine lv_iload_n hx hb dX6_duneOf_0 rfl (lv_at hl 1 rfl) ?_
  refine lv_iconst (v := 0) hx hb dX6_duneOf_1 (by decide) ?_
  refine lv_aload_n hx hb dX6_duneOf_2 rfl (lv_at hl 0 rfl) ?_
  refine k_get (pre := []) C0 hw hinX6 rfl 0 (by decide) (hts (.fieldLink RX6 10 "SlabDunes" "field" "LSlabDunes$Field;") (by decide +kernel)) rfl rfl dX6_duneOf_3 ?_
  refine k_V (As := []) (rest := [.int 0, .int x]) (pre := [oc d0 6 [.ref (a 0), .ref q1, .ref (e 0), .ref q2, .ref (m 0), .ref q, .ref (t 0)]]) (mid := [fc E a (nI h) (nI w) wd s0 z st he ke tu ca tr co la]) C0 (c_X1_cells l E a h w wd s0 z st he ke tu ca tr co la (by first | assumption | omega)) (cwV 0 hts gX6_duneOf_X1_cells rfl rfl rfl (by decide +kernel) ⟨Nat.le_of_ble_eq_true rfl, Nat.le_of_ble_eq_true rfl⟩) hw rfl (fun _ => [fc E a (nI h) (nI w) wd s0 z st he ke tu ca tr co la]) (fun _ => rfl) 0 1 rfl rfl rfl rfl hl.1 rfl (Nat.le_of_ble_eq_true rfl) dX6_duneOf_6 ⟨Nat.le_of_ble_eq_true rfl, Nat.le_of_ble_eq_true rfl⟩ (fun r u H locs hq99 hw => ?_)
  subst hq99
  have hw : kW E AA sx (List.flatten [oc d0 6 [.ref (a 0), .ref q1, .ref (e 0), .ref q2, .ref (m 0), .ref q, .ref (t 0)], fc E a (nI h) (nI w) wd s0 z st he ke tu ca tr co la]) H locs := hw
  refine W.eq (g2 := F0 mm 9 ls [.int (nI (h * w)), .int 0, .int x]) rfl ?_
  refine lv_iconst (v := 1) hx hb dX6_duneOf_9 (by decide) ?_
  refine lv_isub hx hb dX6_duneOf_10 ?_
  refine W.eq (g2 := F0 mm 11 ls [.int (nI (h * w - 1)), .int 0, .int x]) (congrArg (fun z9 => F0 mm 11 ls [.int z9, .int 0, .int x]) (show ((nI (h * w)) - 1 : Int32) = nI (h * w - 1) from pk_sub (b := 1) (by omega))) ?_
  refine k_S (As := [.int x, .int 0, .int (nI (h * w - 1))]) (rest := []) (pre := []) (mid := []) C0 (c_X6_within l E x 0 (nI (h * w - 1)) ) (va_cwS 3 hts gX6_duneOf_X6_within rfl rfl rfl (by decide +kernel) ⟨Nat.le_of_ble_eq_true rfl, Nat.le_of_ble_eq_true rfl⟩) hw rfl (fun _ => []) (fun _ => rfl) rfl hl.1 rfl (Nat.le_of_ble_eq_true rfl) dX6_duneOf_11 ⟨Nat.le_of_ble_eq_true rfl, Nat.le_of_ble_eq_true rfl⟩ (fun r u H locs hq99 hw => ?_)
  subst hq99
  have hw : kW E AA sx (List.flatten [oc d0 6 [.ref (a 0), .ref q1, .ref (e 0), .ref q2, .ref (m 0), .ref q, .ref (t 0)], fc E a (nI h) (nI w) wd s0 z st he ke tu ca tr co la]) H locs := hw
  refine W.eq (g2 := F0 mm 14 ls [.int (if ¬ x < 0 ∧ ¬ (nI (h * w - 1)) < x then 1 else 0)]) rfl ?_
  refine lv_if_ne (tgt := 27) hx hb dX6_duneOf_14 (by decide) (fun c14 => absurd c14 (fun h99 => h99 (if_neg hv))) (fun c14 => ?_)
  have c14 := kb10t c14
  exact k_throw (X := "java/lang/IndexOutOfBoundsException") (text := "no such cell") C0 hw rfl hZ hfl hxt hlk (by decide) (by decide) (hts (.classLink RX6 79 "java/lang/IndexOutOfBoundsException") (by decide +kernel)) (hts (.initialized "java/lang/IndexOutOfBoundsException") (by decide +kernel)) (by decide +kernel) (by decide +kernel) (by decide +kernel) (by decide +kernel) hl.1 dX6_duneOf_17 dX6_duneOf_20 dX6_duneOf_21 dX6_duneOf_23 dX6_duneOf_26 (Nat.le_of_ble_eq_true rfl) (Nat.le_of_ble_eq_true rfl) (Nat.le_of_ble_eq_true rfl) (Nat.le_of_ble_eq_true rfl) (rfl) (Nat.le_of_ble_eq_true rfl) (Nat.le_of_ble_eq_true rfl)

set_option maxHeartbeats 4000000 in
set_option maxRecDepth 100000 in
theorem c_X6_dunes_x1F (l : Launch) (hfl : l.stackTraces = false) (E : kE) (d0 : Nat) (q1 : Nat) (q2 : Nat) (a : Nat → Nat) (e : Nat → Nat) (m : Nat → Nat) (t : Nat → Nat) (q : Nat) (x : Int32) (hv : ¬ (¬ x < 1 ∧ ¬ 99 < x)) : kX E l yX6_dunes wsX6_dunes rmX6_dunes [.ref d0, .int x] (oc d0 6 [.ref (a 0), .ref q1, .ref (e 0), .ref q2, .ref (m 0), .ref q, .ref (t 0)]) kI (fun (_ : Int32) (_ : Unit) => False) (fun _ => oc d0 6 [.ref (a 0), .ref q1, .ref (e 0), .ref q2, .ref (m 0), .ref q, .ref (t 0)]) (fun X => X = "java/lang/IllegalArgumentException") 1 6 := by
  refine kX_body (cc := cX6_dunes) (maxL := 2) (ret := (some .int)) (by decide) rfl (Nat.le_of_ble_eq_true rfl) ?_
  intro pp ee sx mm aa bb me cd H locs AA ls C0 hr hlk hxt hZ hl hw
  obtain ⟨hx, hb, hml, hown, hts⟩ := id C0
  have hl : lv_has ls 2 [(0, .ref d0), (1, .int x)] := hl
  have hw : kW E AA sx (List.flatten [oc d0 6 [.ref (a 0), .ref q1, .ref (e 0), .ref q2, .ref (m 0), .ref q, .ref (t 0)]]) H locs := hw
  refine lv_iload_n hx hb dX6_dunes_0 rfl (lv_at hl 1 rfl) ?_
  refine lv_iconst (v := 1) hx hb dX6_dunes_1 (by decide) ?_
  refine lv_bipush (v := 99) hx hb dX6_dunes_2 (by decide) ?_
  refine k_S (As := [.int x, .int 1, .int 99]) (rest := []) (pre := []) (mid := []) C0 (c_X6_within l E x 1 99 ) (va_cwS 3 hts gX6_dunes_X6_within rfl rfl rfl (by decide +kernel) ⟨Nat.le_of_ble_eq_true rfl, Nat.le_of_ble_eq_true rfl⟩) hw rfl (fun _ => []) (fun _ => rfl) rfl hl.1 rfl (Nat.le_of_ble_eq_true rfl) dX6_dunes_4 ⟨Nat.le_of_ble_eq_true rfl, Nat.le_of_ble_eq_true rfl⟩ (fun r u H locs hq99 hw => ?_)
  subst hq99
  have hw : kW E AA sx (List.flatten [oc d0 6 [.ref (a 0), .ref q1, .ref (e 0), .ref q2, .ref (m 0), .ref q, .ref (t 0)]]) H locs := hw
  refine W.eq (g2 := F0 mm 7 ls [.int (if ¬ x < 1 ∧ ¬ 99 < x then 1 else 0)]) rfl ?_
  refine lv_if_ne (tgt := 20) hx hb dX6_dunes_7 (by decide) (fun c7 => absurd c7 (fun h99 => h99 (if_neg hv))) (fun c7 => ?_)
  have c7 := kb10t c7
  exact k_throw (X := "java/lang/IllegalArgumentException") (text := "threshold is out of range") C0 hw rfl hZ hfl hxt hlk (by decide) (by decide) (hts (.classLink RX6 56 "java/lang/IllegalArgumentException") (by decide +kernel)) (hts (.initialized "java/lang/IllegalArgumentException") (by decide +kernel)) (by decide +kernel) (by decide +kernel) (by decide +kernel) (by decide +kernel) hl.1 dX6_dunes_10 dX6_dunes_13 dX6_dunes_14 dX6_dunes_16 dX6_dunes_19 (Nat.le_of_ble_eq_true rfl) (Nat.le_of_ble_eq_true rfl) (Nat.le_of_ble_eq_true rfl) (Nat.le_of_ble_eq_true rfl) (rfl) (Nat.le_of_ble_eq_true rfl) (Nat.le_of_ble_eq_true rfl)

set_option maxHeartbeats 4000000 in
set_option maxRecDepth 100000 in
theorem c_X6_dunesAfter_x2F (l : Launch) (hfl : l.stackTraces = false) (E : kE) (d0 : Nat) (q1 : Nat) (q2 : Nat) (a : Nat → Nat) (e : Nat → Nat) (m : Nat → Nat) (t : Nat → Nat) (q : Nat) (m9 : Nat) (v : Int32) (hm9 : m9 ≤ 1000) (hv : ¬ (¬ v < 1 ∧ ¬ 99 < v)) : kX E l yX6_dunesAfter wsX6_dunesAfter rmX6_dunesAfter [.ref d0, .int (nI m9), .int v] (oc d0 6 [.ref (a 0), .ref q1, .ref (e 0), .ref q2, .ref (m 0), .ref q, .ref (t 0)]) kI (fun (_ : Int32) (_ : Unit) => False) (fun _ => oc d0 6 [.ref (a 0), .ref q1, .ref (e 0), .ref q2, .ref (m 0), .ref q, .ref (t 0)]) (fun X => X = "java/lang/IllegalArgumentException") 1 6 := by
  refine kX_body (cc := cX6_dunesAfter) (maxL := 3) (ret := (some .int)) (by decide) rfl (Nat.le_of_ble_eq_true rfl) ?_
  intro pp ee sx mm aa bb me cd H locs AA ls C0 hr hlk hxt hZ hl hw
  obtain ⟨hx, hb, hml, hown, hts⟩ := id C0
  have hl : lv_has ls 3 [(0, .ref d0), (1, .int (nI m9)), (2, .int v)] := hl
  have hw : kW E AA sx (List.flatten [oc d0 6 [.ref (a 0), .ref q1, .ref (e 0), .ref q2, .ref (m 0), .ref q, .ref (t 0)]]) H locs := hw
  refine lv_iload_n hx hb dX6_dunesAfter_0 rfl (lv_at hl 1 rfl) ?_
  refine lv_iconst (v := 0) hx hb dX6_dunesAfter_1 (by decide) ?_
  refine lv_sipush (v := 1000) hx hb dX6_dunesAfter_2 (by decide) ?_
  refine k_S (As := [.int (nI m9), .int 0, .int 1000]) (rest := []) (pre := []) (mid := []) C0 (c_X6_within l E (nI m9) 0 1000 ) (va_cwS 3 hts gX6_dunesAfter_X6_within rfl rfl rfl (by decide +kernel) ⟨Nat.le_of_ble_eq_true rfl, Nat.le_of_ble_eq_true rfl⟩) hw rfl (fun _ => []) (fun _ => rfl) rfl hl.1 rfl (Nat.le_of_ble_eq_true rfl) dX6_dunesAfter_5 ⟨Nat.le_of_ble_eq_true rfl, Nat.le_of_ble_eq_true rfl⟩ (fun r u H locs hq99 hw => ?_)
  subst hq99
  have hw : kW E AA sx (List.flatten [oc d0 6 [.ref (a 0), .ref q1, .ref (e 0), .ref q2, .ref (m 0), .ref q, .ref (t 0)]]) H locs := hw
  refine W.eq (g2 := F0 mm 8 ls [.int (if ¬ (nI m9) < 0 ∧ ¬ 1000 < (nI m9) then 1 else 0)]) rfl ?_
  refine lv_if_ne (tgt := 21) hx hb dX6_dunesAfter_8 (by decide) (fun c8 => ?_) (fun c8 => False.elim ((kb10t c8) ⟨nI_pos (by omega), nI_nlt (a := 1000) (b := m9) (by omega) (by omega)⟩))
  have c8 := kb10f c8
  refine lv_iload_n hx hb dX6_dunesAfter_21 rfl (lv_at hl 2 rfl) ?_
  refine lv_iconst (v := 1) hx hb dX6_dunesAfter_22 (by decide) ?_
  refine lv_bipush (v := 99) hx hb dX6_dunesAfter_23 (by decide) ?_
  refine k_S (As := [.int v, .int 1, .int 99]) (rest := []) (pre := []) (mid := []) C0 (c_X6_within l E v 1 99 ) (va_cwS 3 hts gX6_dunesAfter_X6_within rfl rfl rfl (by decide +kernel) ⟨Nat.le_of_ble_eq_true rfl, Nat.le_of_ble_eq_true rfl⟩) hw rfl (fun _ => []) (fun _ => rfl) rfl hl.1 rfl (Nat.le_of_ble_eq_true rfl) dX6_dunesAfter_25 ⟨Nat.le_of_ble_eq_true rfl, Nat.le_of_ble_eq_true rfl⟩ (fun r u H locs hq99 hw => ?_)
  subst hq99
  have hw : kW E AA sx (List.flatten [oc d0 6 [.ref (a 0), .ref q1, .ref (e 0), .ref q2, .ref (m 0), .ref q, .ref (t 0)]]) H locs := hw
  refine W.eq (g2 := F0 mm 28 ls [.int (if ¬ v < 1 ∧ ¬ 99 < v then 1 else 0)]) rfl ?_
  refine lv_if_ne (tgt := 41) hx hb dX6_dunesAfter_28 (by decide) (fun c28 => absurd c28 (fun h99 => h99 (if_neg hv))) (fun c28 => ?_)
  have c28 := kb10t c28
  exact k_throw (X := "java/lang/IllegalArgumentException") (text := "threshold is out of range") C0 hw rfl hZ hfl hxt hlk (by decide) (by decide) (hts (.classLink RX6 56 "java/lang/IllegalArgumentException") (by decide +kernel)) (hts (.initialized "java/lang/IllegalArgumentException") (by decide +kernel)) (by decide +kernel) (by decide +kernel) (by decide +kernel) (by decide +kernel) hl.1 dX6_dunesAfter_31 dX6_dunesAfter_34 dX6_dunesAfter_35 dX6_dunesAfter_37 dX6_dunesAfter_40 (Nat.le_of_ble_eq_true rfl) (Nat.le_of_ble_eq_true rfl) (Nat.le_of_ble_eq_true rfl) (Nat.le_of_ble_eq_true rfl) (rfl) (Nat.le_of_ble_eq_true rfl) (Nat.le_of_ble_eq_true rfl)

set_option maxHeartbeats 4000000 in
set_option maxRecDepth 100000 in
theorem c_X6_dunesAfter_x1F (l : Launch) (hfl : l.stackTraces = false) (E : kE) (d0 : Nat) (q1 : Nat) (q2 : Nat) (a : Nat → Nat) (e : Nat → Nat) (m : Nat → Nat) (t : Nat → Nat) (q : Nat) (x : Int32) (v : Int32) (hv : ¬ (¬ x < 0 ∧ ¬ 1000 < x)) : kX E l yX6_dunesAfter wsX6_dunesAfter rmX6_dunesAfter [.ref d0, .int x, .int v] (oc d0 6 [.ref (a 0), .ref q1, .ref (e 0), .ref q2, .ref (m 0), .ref q, .ref (t 0)]) kI (fun (_ : Int32) (_ : Unit) => False) (fun _ => oc d0 6 [.ref (a 0), .ref q1, .ref (e 0), .ref q2, .ref (m 0), .ref q, .ref (t 0)]) (fun X => X = "java/lang/IllegalArgumentException") 1 6 := by
  refine kX_body (cc := cX6_dunesAfter) (maxL := 3) (ret := (some .int)) (by decide) rfl (Nat.le_of_ble_eq_true rfl) ?_
  intro pp ee sx mm aa bb me cd H locs AA ls C0 hr hlk hxt hZ hl hw
  obtain ⟨hx, hb, hml, hown, hts⟩ := id C0
  have hl : lv_has ls 3 [(0, .ref d0), (1, .int x), (2, .int v)] := hl
  have hw : kW E AA sx (List.flatten [oc d0 6 [.ref (a 0), .ref q1, .ref (e 0), .ref q2, .ref (m 0), .ref q, .ref (t 0)]]) H locs := hw
  refine lv_iload_n hx hb dX6_dunesAfter_0 rfl (lv_at hl 1 rfl) ?_
  refine lv_iconst (v := 0) hx hb dX6_dunesAfter_1 (by decide) ?_
  refine lv_sipush (v := 1000) hx hb dX6_dunesAfter_2 (by decide) ?_
  refine k_S (As := [.int x, .int 0, .int 1000]) (rest := []) (pre := []) (mid := []) C0 (c_X6_within l E x 0 1000 ) (va_cwS 3 hts gX6_dunesAfter_X6_within rfl rfl rfl (by decide +kernel) ⟨Nat.le_of_ble_eq_true rfl, Nat.le_of_ble_eq_true rfl⟩) hw rfl (fun _ => []) (fun _ => rfl) rfl hl.1 rfl (Nat.le_of_ble_eq_true rfl) dX6_dunesAfter_5 ⟨Nat.le_of_ble_eq_true rfl, Nat.le_of_ble_eq_true rfl⟩ (fun r u H locs hq99 hw => ?_)
  subst hq99
  have hw : kW E AA sx (List.flatten [oc d0 6 [.ref (a 0), .ref q1, .ref (e 0), .ref q2, .ref (m 0), .ref q, .ref (t 0)]]) H locs := hw
  refine W.eq (g2 := F0 mm 8 ls [.int (if ¬ x < 0 ∧ ¬ 1000 < x then 1 else 0)]) rfl ?_
  refine lv_if_ne (tgt := 21) hx hb dX6_dunesAfter_8 (by decide) (fun c8 => absurd c8 (fun h99 => h99 (if_neg hv))) (fun c8 => ?_)
  have c8 := kb10t c8
  exact k_throw (X := "java/lang/IllegalArgumentException") (text := "steps is out of range") C0 hw rfl hZ hfl hxt hlk (by decide) (by decide) (hts (.classLink RX6 56 "java/lang/IllegalArgumentException") (by decide +kernel)) (hts (.initialized "java/lang/IllegalArgumentException") (by decide +kernel)) (by decide +kernel) (by decide +kernel) (by decide +kernel) (by decide +kernel) hl.1 dX6_dunesAfter_11 dX6_dunesAfter_14 dX6_dunesAfter_15 dX6_dunesAfter_17 dX6_dunesAfter_20 (Nat.le_of_ble_eq_true rfl) (Nat.le_of_ble_eq_true rfl) (Nat.le_of_ble_eq_true rfl) (Nat.le_of_ble_eq_true rfl) (rfl) (Nat.le_of_ble_eq_true rfl) (Nat.le_of_ble_eq_true rfl)

set_option maxHeartbeats 4000000 in
set_option maxRecDepth 100000 in
theorem c_X6_greatestDune_x1F (l : Launch) (hfl : l.stackTraces = false) (E : kE) (d0 : Nat) (q1 : Nat) (q2 : Nat) (a : Nat → Nat) (e : Nat → Nat) (m : Nat → Nat) (t : Nat → Nat) (q : Nat) (x : Int32) (hv : ¬ (¬ x < 1 ∧ ¬ 99 < x)) : kX E l yX6_greatestDune wsX6_greatestDune rmX6_greatestDune [.ref d0, .int x] (oc d0 6 [.ref (a 0), .ref q1, .ref (e 0), .ref q2, .ref (m 0), .ref q, .ref (t 0)]) kI (fun (_ : Int32) (_ : Unit) => False) (fun _ => oc d0 6 [.ref (a 0), .ref q1, .ref (e 0), .ref q2, .ref (m 0), .ref q, .ref (t 0)]) (fun X => X = "java/lang/IllegalArgumentException") 1 6 := by
  refine kX_body (cc := cX6_greatestDune) (maxL := 2) (ret := (some .int)) (by decide) rfl (Nat.le_of_ble_eq_true rfl) ?_
  intro pp ee sx mm aa bb me cd H locs AA ls C0 hr hlk hxt hZ hl hw
  obtain ⟨hx, hb, hml, hown, hts⟩ := id C0
  have hl : lv_has ls 2 [(0, .ref d0), (1, .int x)] := hl
  have hw : kW E AA sx (List.flatten [oc d0 6 [.ref (a 0), .ref q1, .ref (e 0), .ref q2, .ref (m 0), .ref q, .ref (t 0)]]) H locs := hw
  refine lv_iload_n hx hb dX6_greatestDune_0 rfl (lv_at hl 1 rfl) ?_
  refine lv_iconst (v := 1) hx hb dX6_greatestDune_1 (by decide) ?_
  refine lv_bipush (v := 99) hx hb dX6_greatestDune_2 (by decide) ?_
  refine k_S (As := [.int x, .int 1, .int 99]) (rest := []) (pre := []) (mid := []) C0 (c_X6_within l E x 1 99 ) (va_cwS 3 hts gX6_greatestDune_X6_within rfl rfl rfl (by decide +kernel) ⟨Nat.le_of_ble_eq_true rfl, Nat.le_of_ble_eq_true rfl⟩) hw rfl (fun _ => []) (fun _ => rfl) rfl hl.1 rfl (Nat.le_of_ble_eq_true rfl) dX6_greatestDune_4 ⟨Nat.le_of_ble_eq_true rfl, Nat.le_of_ble_eq_true rfl⟩ (fun r u H locs hq99 hw => ?_)
  subst hq99
  have hw : kW E AA sx (List.flatten [oc d0 6 [.ref (a 0), .ref q1, .ref (e 0), .ref q2, .ref (m 0), .ref q, .ref (t 0)]]) H locs := hw
  refine W.eq (g2 := F0 mm 7 ls [.int (if ¬ x < 1 ∧ ¬ 99 < x then 1 else 0)]) rfl ?_
  refine lv_if_ne (tgt := 20) hx hb dX6_greatestDune_7 (by decide) (fun c7 => absurd c7 (fun h99 => h99 (if_neg hv))) (fun c7 => ?_)
  have c7 := kb10t c7
  exact k_throw (X := "java/lang/IllegalArgumentException") (text := "threshold is out of range") C0 hw rfl hZ hfl hxt hlk (by decide) (by decide) (hts (.classLink RX6 56 "java/lang/IllegalArgumentException") (by decide +kernel)) (hts (.initialized "java/lang/IllegalArgumentException") (by decide +kernel)) (by decide +kernel) (by decide +kernel) (by decide +kernel) (by decide +kernel) hl.1 dX6_greatestDune_10 dX6_greatestDune_13 dX6_greatestDune_14 dX6_greatestDune_16 dX6_greatestDune_19 (Nat.le_of_ble_eq_true rfl) (Nat.le_of_ble_eq_true rfl) (Nat.le_of_ble_eq_true rfl) (Nat.le_of_ble_eq_true rfl) (rfl) (Nat.le_of_ble_eq_true rfl) (Nat.le_of_ble_eq_true rfl)

set_option maxHeartbeats 4000000 in
set_option maxRecDepth 100000 in
theorem c_X6_latest_x1F (l : Launch) (hfl : l.stackTraces = false) (E : kE) (d0 : Nat) (q1 : Nat) (q2 : Nat) (a : Nat → Nat) (e : Nat → Nat) (m : Nat → Nat) (t : Nat → Nat) (q : Nat) (h : Nat) (w : Nat) (wd : Int32) (s0 : Int32) (z : Int32) (st : Nat → Int32) (he : Nat → Int32) (ke : Nat → Int32) (tu : Nat → Int32) (ca : Nat → Int32) (tr : Nat → Int32) (co : Nat → Int32) (la : Nat → Int32) (x : Int32) (hv : ¬ (¬ x < 0 ∧ ¬ 3 < x)) : kX E l yX6_latest wsX6_latest rmX6_latest [.ref d0, .int x] (List.flatten [oc d0 6 [.ref (a 0), .ref q1, .ref (e 0), .ref q2, .ref (m 0), .ref q, .ref (t 0)], fc E a (nI h) (nI w) wd s0 z st he ke tu ca tr co la]) kI (fun (_ : Int32) (_ : Unit) => False) (fun _ => List.flatten [oc d0 6 [.ref (a 0), .ref q1, .ref (e 0), .ref q2, .ref (m 0), .ref q, .ref (t 0)], fc E a (nI h) (nI w) wd s0 z st he ke tu ca tr co la]) (fun X => X = "java/lang/IllegalArgumentException") 1 6 := by
  refine kX_body (cc := cX6_latest) (maxL := 2) (ret := (some .int)) (by decide) rfl (Nat.le_of_ble_eq_true rfl) ?_
  intro pp ee sx mm aa bb me cd H locs AA ls C0 hr hlk hxt hZ hl hw
  obtain ⟨hx, hb, hml, hown, hts⟩ := id C0
  have hl : lv_has ls 2 [(0, .ref d0), (1, .int x)] := hl
  have hw : kW E AA sx (List.flatten [oc d0 6 [.ref (a 0), .ref q1, .ref (e 0), .ref q2, .ref (m 0), .ref q, .ref (t 0)], oc (a 0) 1 [.int (nI h), .int (nI w), .int wd, .int s0, .int z, .ref (a 1), .ref (a 2), .ref (a 3), .ref (a 4), .ref (a 5), .ref (a 6), .ref (a 7), .ref (a 8)], rc E (a 1) (a 9) 4 st, rc E (a 2) (a 10) 192 he, rc E (a 3) (a 11) 192 ke, rc E (a 4) (a 12) 192 tu, rc E (a 5) (a 13) 192 ca, rc E (a 6) (a 14) 192 tr, rc E (a 7) (a 15) 12 co, rc E (a 8) (a 16) 4 la]) H locs := hw
  refine lv_iload_n hx hb dX6_latest_0 rfl (lv_at hl 1 rfl) ?_
  refine lv_iconst (v := 0) hx hb dX6_latest_1 (by decide) ?_
  refine lv_iconst (v := 3) hx hb dX6_latest_2 (by decide) ?_
  refine k_S (As := [.int x, .int 0, .int 3]) (rest := []) (pre := []) (mid := []) C0 (c_X6_within l E x 0 3 ) (va_cwS 3 hts gX6_latest_X6_within rfl rfl rfl (by decide +kernel) ⟨Nat.le_of_ble_eq_true rfl, Nat.le_of_ble_eq_true rfl⟩) hw rfl (fun _ => []) (fun _ => rfl) rfl hl.1 rfl (Nat.le_of_ble_eq_true rfl) dX6_latest_3 ⟨Nat.le_of_ble_eq_true rfl, Nat.le_of_ble_eq_true rfl⟩ (fun r u H locs hq99 hw => ?_)
  subst hq99
  have hw : kW E AA sx (List.flatten [oc d0 6 [.ref (a 0), .ref q1, .ref (e 0), .ref q2, .ref (m 0), .ref q, .ref (t 0)], oc (a 0) 1 [.int (nI h), .int (nI w), .int wd, .int s0, .int z, .ref (a 1), .ref (a 2), .ref (a 3), .ref (a 4), .ref (a 5), .ref (a 6), .ref (a 7), .ref (a 8)], rc E (a 1) (a 9) 4 st, rc E (a 2) (a 10) 192 he, rc E (a 3) (a 11) 192 ke, rc E (a 4) (a 12) 192 tu, rc E (a 5) (a 13) 192 ca, rc E (a 6) (a 14) 192 tr, rc E (a 7) (a 15) 12 co, rc E (a 8) (a 16) 4 la]) H locs := hw
  refine W.eq (g2 := F0 mm 6 ls [.int (if ¬ x < 0 ∧ ¬ 3 < x then 1 else 0)]) rfl ?_
  refine lv_if_ne (tgt := 19) hx hb dX6_latest_6 (by decide) (fun c6 => absurd c6 (fun h99 => h99 (if_neg hv))) (fun c6 => ?_)
  have c6 := kb10t c6
  exact k_throw (X := "java/lang/IllegalArgumentException") (text := "what is out of range") C0 hw rfl hZ hfl hxt hlk (by decide) (by decide) (hts (.classLink RX6 56 "java/lang/IllegalArgumentException") (by decide +kernel)) (hts (.initialized "java/lang/IllegalArgumentException") (by decide +kernel)) (by decide +kernel) (by decide +kernel) (by decide +kernel) (by decide +kernel) hl.1 dX6_latest_9 dX6_latest_12 dX6_latest_13 dX6_latest_15 dX6_latest_18 (Nat.le_of_ble_eq_true rfl) (Nat.le_of_ble_eq_true rfl) (Nat.le_of_ble_eq_true rfl) (Nat.le_of_ble_eq_true rfl) (rfl) (Nat.le_of_ble_eq_true rfl) (Nat.le_of_ble_eq_true rfl)

set_option maxHeartbeats 4000000 in
set_option maxRecDepth 100000 in
theorem c_X6_liveliestWind_x1F (l : Launch) (hfl : l.stackTraces = false) (E : kE) (d0 : Nat) (q1 : Nat) (q2 : Nat) (a : Nat → Nat) (e : Nat → Nat) (m : Nat → Nat) (t : Nat → Nat) (q : Nat) (x : Int32) (hv : ¬ (¬ x < 0 ∧ ¬ 500 < x)) : kX E l yX6_liveliestWind wsX6_liveliestWind rmX6_liveliestWind [.ref d0, .int x] (oc d0 6 [.ref (a 0), .ref q1, .ref (e 0), .ref q2, .ref (m 0), .ref q, .ref (t 0)]) kI (fun (_ : Int32) (_ : Unit) => False) (fun _ => oc d0 6 [.ref (a 0), .ref q1, .ref (e 0), .ref q2, .ref (m 0), .ref q, .ref (t 0)]) (fun X => X = "java/lang/IllegalArgumentException") 1 6 := by
  refine kX_body (cc := cX6_liveliestWind) (maxL := 6) (ret := (some .int)) (by decide) rfl (Nat.le_of_ble_eq_true rfl) ?_
  intro pp ee sx mm aa bb me cd H locs AA ls C0 hr hlk hxt hZ hl hw
  obtain ⟨hx, hb, hml, hown, hts⟩ := id C0
  have hl : lv_has ls 6 [(0, .ref d0), (1, .int x)] := hl
  have hw : kW E AA sx (List.flatten [oc d0 6 [.ref (a 0), .ref q1, .ref (e 0), .ref q2, .ref (m 0), .ref q, .ref (t 0)]]) H locs := hw
  refine lv_iload_n hx hb dX6_liveliestWind_0 rfl (lv_at hl 1 rfl) ?_
  refine lv_iconst (v := 0) hx hb dX6_liveliestWind_1 (by decide) ?_
  refine lv_sipush (v := 500) hx hb dX6_liveliestWind_2 (by decide) ?_
  refine k_S (As := [.int x, .int 0, .int 500]) (rest := []) (pre := []) (mid := []) C0 (c_X6_within l E x 0 500 ) (va_cwS 3 hts gX6_liveliestWind_X6_within rfl rfl rfl (by decide +kernel) ⟨Nat.le_of_ble_eq_true rfl, Nat.le_of_ble_eq_true rfl⟩) hw rfl (fun _ => []) (fun _ => rfl) rfl hl.1 rfl (Nat.le_of_ble_eq_true rfl) dX6_liveliestWind_5 ⟨Nat.le_of_ble_eq_true rfl, Nat.le_of_ble_eq_true rfl⟩ (fun r u H locs hq99 hw => ?_)
  subst hq99
  have hw : kW E AA sx (List.flatten [oc d0 6 [.ref (a 0), .ref q1, .ref (e 0), .ref q2, .ref (m 0), .ref q, .ref (t 0)]]) H locs := hw
  refine W.eq (g2 := F0 mm 8 ls [.int (if ¬ x < 0 ∧ ¬ 500 < x then 1 else 0)]) rfl ?_
  refine lv_if_ne (tgt := 21) hx hb dX6_liveliestWind_8 (by decide) (fun c8 => absurd c8 (fun h99 => h99 (if_neg hv))) (fun c8 => ?_)
  have c8 := kb10t c8
  exact k_throw (X := "java/lang/IllegalArgumentException") (text := "steps is out of range") C0 hw rfl hZ hfl hxt hlk (by decide) (by decide) (hts (.classLink RX6 56 "java/lang/IllegalArgumentException") (by decide +kernel)) (hts (.initialized "java/lang/IllegalArgumentException") (by decide +kernel)) (by decide +kernel) (by decide +kernel) (by decide +kernel) (by decide +kernel) hl.1 dX6_liveliestWind_11 dX6_liveliestWind_14 dX6_liveliestWind_15 dX6_liveliestWind_17 dX6_liveliestWind_20 (Nat.le_of_ble_eq_true rfl) (Nat.le_of_ble_eq_true rfl) (Nat.le_of_ble_eq_true rfl) (Nat.le_of_ble_eq_true rfl) (rfl) (Nat.le_of_ble_eq_true rfl) (Nat.le_of_ble_eq_true rfl)

set_option maxHeartbeats 4000000 in
set_option maxRecDepth 100000 in
theorem c_X6_relief_x1F (l : Launch) (hfl : l.stackTraces = false) (E : kE) (d0 : Nat) (q1 : Nat) (q2 : Nat) (a : Nat → Nat) (e : Nat → Nat) (m : Nat → Nat) (t : Nat → Nat) (q : Nat) (h : Nat) (w : Nat) (wd : Int32) (s0 : Int32) (z : Int32) (st : Nat → Int32) (he : Nat → Int32) (ke : Nat → Int32) (tu : Nat → Int32) (ca : Nat → Int32) (tr : Nat → Int32) (co : Nat → Int32) (la : Nat → Int32) (x : Int32) (hv : ¬ (¬ x < 0 ∧ ¬ nI 3 < x)) : kX E l yX6_relief wsX6_relief rmX6_relief [.ref d0, .int x] (List.flatten [oc d0 6 [.ref (a 0), .ref q1, .ref (e 0), .ref q2, .ref (m 0), .ref q, .ref (t 0)], fc E a (nI h) (nI w) wd s0 z st he ke tu ca tr co la]) kI (fun (_ : Int32) (_ : Unit) => False) (fun _ => List.flatten [oc d0 6 [.ref (a 0), .ref q1, .ref (e 0), .ref q2, .ref (m 0), .ref q, .ref (t 0)], fc E a (nI h) (nI w) wd s0 z st he ke tu ca tr co la]) (fun X => X = "java/lang/IllegalArgumentException") 1 6 := by
  refine kX_body (cc := cX6_relief) (maxL := 2) (ret := (some .int)) (by decide) rfl (Nat.le_of_ble_eq_true rfl) ?_
  intro pp ee sx mm aa bb me cd H locs AA ls C0 hr hlk hxt hZ hl hw
  obtain ⟨hx, hb, hml, hown, hts⟩ := id C0
  have hl : lv_has ls 2 [(0, .ref d0), (1, .int x)] := hl
  have hw : kW E AA sx (List.flatten [oc d0 6 [.ref (a 0), .ref q1, .ref (e 0), .ref q2, .ref (m 0), .ref q, .ref (t 0)], oc (a 0) 1 [.int (nI h), .int (nI w), .int wd, .int s0, .int z, .ref (a 1), .ref (a 2), .ref (a 3), .ref (a 4), .ref (a 5), .ref (a 6), .ref (a 7), .ref (a 8)], rc E (a 1) (a 9) 4 st, rc E (a 2) (a 10) 192 he, rc E (a 3) (a 11) 192 ke, rc E (a 4) (a 12) 192 tu, rc E (a 5) (a 13) 192 ca, rc E (a 6) (a 14) 192 tr, rc E (a 7) (a 15) 12 co, rc E (a 8) (a 16) 4 la]) H locs := hw
  refine lv_iload_n hx hb dX6_relief_0 rfl (lv_at hl 1 rfl) ?_
  refine lv_tableOut (tgt := 74) hx hb dX6_relief_1 (by have h99 := kout hv (by decide); omega) (by decide) ?_
  exact k_throw (X := "java/lang/IllegalArgumentException") (text := "what is out of range") C0 hw rfl hZ hfl hxt hlk (by decide) (by decide) (hts (.classLink RX6 56 "java/lang/IllegalArgumentException") (by decide +kernel)) (hts (.initialized "java/lang/IllegalArgumentException") (by decide +kernel)) (by decide +kernel) (by decide +kernel) (by decide +kernel) (by decide +kernel) hl.1 dX6_relief_74 dX6_relief_77 dX6_relief_78 dX6_relief_80 dX6_relief_83 (Nat.le_of_ble_eq_true rfl) (Nat.le_of_ble_eq_true rfl) (Nat.le_of_ble_eq_true rfl) (Nat.le_of_ble_eq_true rfl) (rfl) (Nat.le_of_ble_eq_true rfl) (Nat.le_of_ble_eq_true rfl)

set_option maxHeartbeats 4000000 in
set_option maxRecDepth 100000 in
theorem c_X6_run_x1F (l : Launch) (hfl : l.stackTraces = false) (E : kE) (d0 : Nat) (q1 : Nat) (q2 : Nat) (a : Nat → Nat) (e : Nat → Nat) (m : Nat → Nat) (t : Nat → Nat) (q : Nat) (n : Nat) (b : Nat → Nat → Nat) (G : Nat → cT) (o : Nat) (k9 : Nat) (h : Nat) (w : Nat) (wd : Int32) (s0 : Int32) (z : Int32) (st : Nat → Int32) (he : Nat → Int32) (ke : Nat → Int32) (tu : Nat → Int32) (ca : Nat → Int32) (tr : Nat → Int32) (co : Nat → Int32) (la : Nat → Int32) (x : Int32) (hv : ¬ (¬ x < 0 ∧ ¬ 2000 < x)) : kX E l yX6_run wsX6_run rmX6_run [.ref d0, .int x] (List.flatten [oc d0 6 [.ref (a 0), .ref q1, .ref (e 0), .ref q2, .ref (m 0), .ref q, .ref (t 0)], fc E a (nI h) (nI w) wd s0 z st he ke tu ca tr co la, hw4 E q n b (nI o) (nI k9) G]) kI (fun (_ : Int32) (_ : Unit) => False) (fun _ => List.flatten [oc d0 6 [.ref (a 0), .ref q1, .ref (e 0), .ref q2, .ref (m 0), .ref q, .ref (t 0)], fc E a (nI h) (nI w) wd s0 z st he ke tu ca tr co la, hw4 E q n b (nI o) (nI k9) G]) (fun X => X = "java/lang/IllegalArgumentException") 1 6 := by
  refine kX_body (cc := cX6_run) (maxL := 2) (ret := (some .int)) (by decide) rfl (Nat.le_of_ble_eq_true rfl) ?_
  intro pp ee sx mm aa bb me cd H locs AA ls C0 hr hlk hxt hZ hl hw
  obtain ⟨hx, hb, hml, hown, hts⟩ := id C0
  have hl : lv_has ls 2 [(0, .ref d0), (1, .int x)] := hl
  have hw : kW E AA sx (List.flatten [oc d0 6 [.ref (a 0), .ref q1, .ref (e 0), .ref q2, .ref (m 0), .ref q, .ref (t 0)], oc (a 0) 1 [.int (nI h), .int (nI w), .int wd, .int s0, .int z, .ref (a 1), .ref (a 2), .ref (a 3), .ref (a 4), .ref (a 5), .ref (a 6), .ref (a 7), .ref (a 8)], rc E (a 1) (a 9) 4 st, rc E (a 2) (a 10) 192 he, rc E (a 3) (a 11) 192 ke, rc E (a 4) (a 12) 192 tu, rc E (a 5) (a 13) 192 ca, rc E (a 6) (a 14) 192 tr, rc E (a 7) (a 15) 12 co, rc E (a 8) (a 16) 4 la, hw4 E q n b (nI o) (nI k9) G]) H locs := hw
  refine lv_iload_n hx hb dX6_run_0 rfl (lv_at hl 1 rfl) ?_
  refine lv_iconst (v := 0) hx hb dX6_run_1 (by decide) ?_
  refine lv_sipush (v := 2000) hx hb dX6_run_2 (by decide) ?_
  refine k_S (As := [.int x, .int 0, .int 2000]) (rest := []) (pre := []) (mid := []) C0 (c_X6_within l E x 0 2000 ) (va_cwS 3 hts gX6_run_X6_within rfl rfl rfl (by decide +kernel) ⟨Nat.le_of_ble_eq_true rfl, Nat.le_of_ble_eq_true rfl⟩) hw rfl (fun _ => []) (fun _ => rfl) rfl hl.1 rfl (Nat.le_of_ble_eq_true rfl) dX6_run_5 ⟨Nat.le_of_ble_eq_true rfl, Nat.le_of_ble_eq_true rfl⟩ (fun r u H locs hq99 hw => ?_)
  subst hq99
  have hw : kW E AA sx (List.flatten [oc d0 6 [.ref (a 0), .ref q1, .ref (e 0), .ref q2, .ref (m 0), .ref q, .ref (t 0)], oc (a 0) 1 [.int (nI h), .int (nI w), .int wd, .int s0, .int z, .ref (a 1), .ref (a 2), .ref (a 3), .ref (a 4), .ref (a 5), .ref (a 6), .ref (a 7), .ref (a 8)], rc E (a 1) (a 9) 4 st, rc E (a 2) (a 10) 192 he, rc E (a 3) (a 11) 192 ke, rc E (a 4) (a 12) 192 tu, rc E (a 5) (a 13) 192 ca, rc E (a 6) (a 14) 192 tr, rc E (a 7) (a 15) 12 co, rc E (a 8) (a 16) 4 la, hw4 E q n b (nI o) (nI k9) G]) H locs := hw
  refine W.eq (g2 := F0 mm 8 ls [.int (if ¬ x < 0 ∧ ¬ 2000 < x then 1 else 0)]) rfl ?_
  refine lv_if_ne (tgt := 21) hx hb dX6_run_8 (by decide) (fun c8 => absurd c8 (fun h99 => h99 (if_neg hv))) (fun c8 => ?_)
  have c8 := kb10t c8
  exact k_throw (X := "java/lang/IllegalArgumentException") (text := "steps is out of range") C0 hw rfl hZ hfl hxt hlk (by decide) (by decide) (hts (.classLink RX6 56 "java/lang/IllegalArgumentException") (by decide +kernel)) (hts (.initialized "java/lang/IllegalArgumentException") (by decide +kernel)) (by decide +kernel) (by decide +kernel) (by decide +kernel) (by decide +kernel) hl.1 dX6_run_11 dX6_run_14 dX6_run_15 dX6_run_17 dX6_run_20 (Nat.le_of_ble_eq_true rfl) (Nat.le_of_ble_eq_true rfl) (Nat.le_of_ble_eq_true rfl) (Nat.le_of_ble_eq_true rfl) (rfl) (Nat.le_of_ble_eq_true rfl) (Nat.le_of_ble_eq_true rfl)

set_option maxHeartbeats 4000000 in
set_option maxRecDepth 100000 in
theorem c_X6_set_x1F (l : Launch) (hfl : l.stackTraces = false) (E : kE) (d0 : Nat) (q1 : Nat) (q2 : Nat) (a : Nat → Nat) (e : Nat → Nat) (m : Nat → Nat) (t : Nat → Nat) (q : Nat) (n : Nat) (b : Nat → Nat → Nat) (G : Nat → cT) (o : Nat) (k9 : Nat) (h : Nat) (w : Nat) (wd : Int32) (s0 : Int32) (z : Int32) (st : Nat → Int32) (he : Nat → Int32) (ke : Nat → Int32) (tu : Nat → Int32) (ca : Nat → Int32) (tr : Nat → Int32) (co : Nat → Int32) (la : Nat → Int32) (x : Int32) (v : Int32) (hv : ¬ stB x v = true) : kX E l yX6_set wsX6_set rmX6_set [.ref d0, .int x, .int v] (List.flatten [oc d0 6 [.ref (a 0), .ref q1, .ref (e 0), .ref q2, .ref (m 0), .ref q, .ref (t 0)], fc E a (nI h) (nI w) wd s0 z st he ke tu ca tr co la, hw4 E q n b (nI o) (nI k9) G]) kI (fun (_ : Int32) (_ : Unit) => False) (fun _ => List.flatten [oc d0 6 [.ref (a 0), .ref q1, .ref (e 0), .ref q2, .ref (m 0), .ref q, .ref (t 0)], fc E a (nI h) (nI w) wd s0 z st he ke tu ca tr co la, hw4 E q n b (nI o) (nI k9) G]) (fun X => X = "java/lang/IllegalArgumentException") 1 6 := by
  refine kX_body (cc := cX6_set) (maxL := 4) (ret := (some .int)) (by decide) rfl (Nat.le_of_ble_eq_true rfl) ?_
  intro pp ee sx mm aa bb me cd H locs AA ls C0 hr hlk hxt hZ hl hw
  obtain ⟨hx, hb, hml, hown, hts⟩ := id C0
  have hl : lv_has ls 4 [(0, .ref d0), (1, .int x), (2, .int v)] := hl
  have hw : kW E AA sx (List.flatten [oc d0 6 [.ref (a 0), .ref q1, .ref (e 0), .ref q2, .ref (m 0), .ref q, .ref (t 0)], oc (a 0) 1 [.int (nI h), .int (nI w), .int wd, .int s0, .int z, .ref (a 1), .ref (a 2), .ref (a 3), .ref (a 4), .ref (a 5), .ref (a 6), .ref (a 7), .ref (a 8)], rc E (a 1) (a 9) 4 st, rc E (a 2) (a 10) 192 he, rc E (a 3) (a 11) 192 ke, rc E (a 4) (a 12) 192 tu, rc E (a 5) (a 13) 192 ca, rc E (a 6) (a 14) 192 tr, rc E (a 7) (a 15) 12 co, rc E (a 8) (a 16) 4 la, hw4 E q n b (nI o) (nI k9) G]) H locs := hw
  refine lv_iload_n hx hb dX6_set_0 rfl (lv_at hl 1 rfl) ?_
  refine lv_iload_n hx hb dX6_set_1 rfl (lv_at hl 2 rfl) ?_
  refine k_S (As := [.int x, .int v]) (rest := []) (pre := []) (mid := []) C0 (c_X6_isSetting l E x v ) (va_cwS 2 hts gX6_set_X6_isSetting rfl rfl rfl (by decide +kernel) ⟨Nat.le_of_ble_eq_true rfl, Nat.le_of_ble_eq_true rfl⟩) hw rfl (fun _ => []) (fun _ => rfl) rfl hl.1 rfl (Nat.le_of_ble_eq_true rfl) dX6_set_2 ⟨Nat.le_of_ble_eq_true rfl, Nat.le_of_ble_eq_true rfl⟩ (fun r u H locs hq99 hw => ?_)
  subst hq99
  have hw : kW E AA sx (List.flatten [oc d0 6 [.ref (a 0), .ref q1, .ref (e 0), .ref q2, .ref (m 0), .ref q, .ref (t 0)], oc (a 0) 1 [.int (nI h), .int (nI w), .int wd, .int s0, .int z, .ref (a 1), .ref (a 2), .ref (a 3), .ref (a 4), .ref (a 5), .ref (a 6), .ref (a 7), .ref (a 8)], rc E (a 1) (a 9) 4 st, rc E (a 2) (a 10) 192 he, rc E (a 3) (a 11) 192 ke, rc E (a 4) (a 12) 192 tu, rc E (a 5) (a 13) 192 ca, rc E (a 6) (a 14) 192 tr, rc E (a 7) (a 15) 12 co, rc E (a 8) (a 16) 4 la, hw4 E q n b (nI o) (nI k9) G]) H locs := hw
  refine W.eq (g2 := F0 mm 5 ls [.int (if stB x v then 1 else 0)]) rfl ?_
  refine lv_if_ne (tgt := 18) hx hb dX6_set_5 (by decide) (fun c5 => absurd c5 (fun h99 => h99 (if_neg hv))) (fun c5 => ?_)
  have c5 := kb10t c5
  exact k_throw (X := "java/lang/IllegalArgumentException") (text := "what or value is out of range") C0 hw rfl hZ hfl hxt hlk (by decide) (by decide) (hts (.classLink RX6 56 "java/lang/IllegalArgumentException") (by decide +kernel)) (hts (.initialized "java/lang/IllegalArgumentException") (by decide +kernel)) (by decide +kernel) (by decide +kernel) (by decide +kernel) (by decide +kernel) hl.1 dX6_set_8 dX6_set_11 dX6_set_12 dX6_set_14 dX6_set_17 (Nat.le_of_ble_eq_true rfl) (Nat.le_of_ble_eq_true rfl) (Nat.le_of_ble_eq_true rfl) (Nat.le_of_ble_eq_true rfl) (rfl) (Nat.le_of_ble_eq_true rfl) (Nat.le_of_ble_eq_true rfl)

set_option maxHeartbeats 4000000 in
set_option maxRecDepth 100000 in
theorem c_X6_setFence_x2F (l : Launch) (hfl : l.stackTraces = false) (E : kE) (d0 : Nat) (q1 : Nat) (q2 : Nat) (a : Nat → Nat) (e : Nat → Nat) (m : Nat → Nat) (t : Nat → Nat) (q : Nat) (n : Nat) (b : Nat → Nat → Nat) (G : Nat → cT) (o : Nat) (k9 : Nat) (h : Nat) (w : Nat) (wd : Int32) (s0 : Int32) (z : Int32) (st : Nat → Int32) (he : Nat → Int32) (ke : Nat → Int32) (tu : Nat → Int32) (ca : Nat → Int32) (tr : Nat → Int32) (co : Nat → Int32) (la : Nat → Int32) (k : Nat) (v : Int32) (hG : kG h w) (hc : k < h * w) (hv : ¬ (v = -1 ∨ (¬ v < 1 ∧ ¬ 50 < v))) : kX E l yX6_setFence wsX6_setFence rmX6_setFence [.ref d0, .int (nI k), .int v] (List.flatten [oc d0 6 [.ref (a 0), .ref q1, .ref (e 0), .ref q2, .ref (m 0), .ref q, .ref (t 0)], fc E a (nI h) (nI w) wd s0 z st he ke tu ca tr co la, hw4 E q n b (nI o) (nI k9) G]) kI (fun (_ : Int32) (_ : Unit) => False) (fun _ => List.flatten [oc d0 6 [.ref (a 0), .ref q1, .ref (e 0), .ref q2, .ref (m 0), .ref q, .ref (t 0)], fc E a (nI h) (nI w) wd s0 z st he ke tu ca tr co la, hw4 E q n b (nI o) (nI k9) G]) (fun X => X = "java/lang/IllegalArgumentException") 1 6 := by
  refine kX_body (cc := cX6_setFence) (maxL := 4) (ret := (some .int)) (by decide) rfl (Nat.le_of_ble_eq_true rfl) ?_
  intro pp ee sx mm aa bb me cd H locs AA ls C0 hr hlk hxt hZ hl hw
  obtain ⟨hx, hb, hml, hown, hts⟩ := id C0
  have hl : lv_has ls 4 [(0, .ref d0), (1, .int (nI k)), (2, .int v)] := hl
  have hw : kW E AA sx (List.flatten [oc d0 6 [.ref (a 0), .ref q1, .ref (e 0), .ref q2, .ref (m 0), .ref q, .ref (t 0)], oc (a 0) 1 [.int (nI h), .int (nI w), .int wd, .int s0, .int z, .ref (a 1), .ref (a 2), .ref (a 3), .ref (a 4), .ref (a 5), .ref (a 6), .ref (a 7), .ref (a 8)], rc E (a 1) (a 9) 4 st, rc E (a 2) (a 10) 192 he, rc E (a 3) (a 11) 192 ke, rc E (a 4) (a 12) 192 tu, rc E (a 5) (a 13) 192 ca, rc E (a 6) (a 14) 192 tr, rc E (a 7) (a 15) 12 co, rc E (a 8) (a 16) 4 la, hw4 E q n b (nI o) (nI k9) G]) H locs := hw
  have hn9 := kG_n hG
  have hG9 := id hG
  obtain ⟨hG1, hG2, hG3, hG4⟩ := hG9
  have hinX6 : ∀ w ∈ u_ws RX6 TX6 7, w ∈ wsX6_setFence := by decide +kernel
  refine lv_iload_n hx hb dX6_setFence_0 rfl (lv_at hl 1 rfl) ?_
  refine lv_iconst (v := 0) hx hb dX6_setFence_1 (by decide) ?_
  refine lv_aload_n hx hb dX6_setFence_2 rfl (lv_at hl 0 rfl) ?_
  refine k_get (pre := []) C0 hw hinX6 rfl 0 (by decide) (hts (.fieldLink RX6 10 "SlabDunes" "field" "LSlabDunes$Field;") (by decide +kernel)) rfl rfl dX6_setFence_3 ?_
  refine k_V (As := []) (rest := [.int 0, .int (nI k)]) (pre := [oc d0 6 [.ref (a 0), .ref q1, .ref (e 0), .ref q2, .ref (m 0), .ref q, .ref (t 0)]]) (mid := [oc (a 0) 1 [.int (nI h), .int (nI w), .int wd, .int s0, .int z, .ref (a 1), .ref (a 2), .ref (a 3), .ref (a 4), .ref (a 5), .ref (a 6), .ref (a 7), .ref (a 8)], rc E (a 1) (a 9) 4 st, rc E (a 2) (a 10) 192 he, rc E (a 3) (a 11) 192 ke, rc E (a 4) (a 12) 192 tu, rc E (a 5) (a 13) 192 ca, rc E (a 6) (a 14) 192 tr, rc E (a 7) (a 15) 12 co, rc E (a 8) (a 16) 4 la]) C0 (c_X1_cells l E a h w wd s0 z st he ke tu ca tr co la (by first | assumption | omega)) (cwV 0 hts gX6_setFence_X1_cells rfl rfl rfl (by decide +kernel) ⟨Nat.le_of_ble_eq_true rfl, Nat.le_of_ble_eq_true rfl⟩) hw rfl (fun _ => [oc (a 0) 1 [.int (nI h), .int (nI w), .int wd, .int s0, .int z, .ref (a 1), .ref (a 2), .ref (a 3), .ref (a 4), .ref (a 5), .ref (a 6), .ref (a 7), .ref (a 8)], rc E (a 1) (a 9) 4 st, rc E (a 2) (a 10) 192 he, rc E (a 3) (a 11) 192 ke, rc E (a 4) (a 12) 192 tu, rc E (a 5) (a 13) 192 ca, rc E (a 6) (a 14) 192 tr, rc E (a 7) (a 15) 12 co, rc E (a 8) (a 16) 4 la]) (fun _ => rfl) 0 1 rfl rfl rfl rfl hl.1 rfl (Nat.le_of_ble_eq_true rfl) dX6_setFence_6 ⟨Nat.le_of_ble_eq_true rfl, Nat.le_of_ble_eq_true rfl⟩ (fun r u H locs hq99 hw => ?_)
  subst hq99
  have hw : kW E AA sx (List.flatten [oc d0 6 [.ref (a 0), .ref q1, .ref (e 0), .ref q2, .ref (m 0), .ref q, .ref (t 0)], oc (a 0) 1 [.int (nI h), .int (nI w), .int wd, .int s0, .int z, .ref (a 1), .ref (a 2), .ref (a 3), .ref (a 4), .ref (a 5), .ref (a 6), .ref (a 7), .ref (a 8)], rc E (a 1) (a 9) 4 st, rc E (a 2) (a 10) 192 he, rc E (a 3) (a 11) 192 ke, rc E (a 4) (a 12) 192 tu, rc E (a 5) (a 13) 192 ca, rc E (a 6) (a 14) 192 tr, rc E (a 7) (a 15) 12 co, rc E (a 8) (a 16) 4 la, hw4 E q n b (nI o) (nI k9) G]) H locs := hw
  refine W.eq (g2 := F0 mm 9 ls [.int (nI (h * w)), .int 0, .int (nI k)]) rfl ?_
  refine lv_iconst (v := 1) hx hb dX6_setFence_9 (by decide) ?_
  refine lv_isub hx hb dX6_setFence_10 ?_
  refine W.eq (g2 := F0 mm 11 ls [.int (nI (h * w - 1)), .int 0, .int (nI k)]) (congrArg (fun z9 => F0 mm 11 ls [.int z9, .int 0, .int (nI k)]) (show ((nI (h * w)) - 1 : Int32) = nI (h * w - 1) from pk_sub (b := 1) (by omega))) ?_
  refine k_S (As := [.int (nI k), .int 0, .int (nI (h * w - 1))]) (rest := []) (pre := []) (mid := []) C0 (c_X6_within l E (nI k) 0 (nI (h * w - 1)) ) (va_cwS 3 hts gX6_setFence_X6_within rfl rfl rfl (by decide +kernel) ⟨Nat.le_of_ble_eq_true rfl, Nat.le_of_ble_eq_true rfl⟩) hw rfl (fun _ => []) (fun _ => rfl) rfl hl.1 rfl (Nat.le_of_ble_eq_true rfl) dX6_setFence_11 ⟨Nat.le_of_ble_eq_true rfl, Nat.le_of_ble_eq_true rfl⟩ (fun r u H locs hq99 hw => ?_)
  subst hq99
  have hw : kW E AA sx (List.flatten [oc d0 6 [.ref (a 0), .ref q1, .ref (e 0), .ref q2, .ref (m 0), .ref q, .ref (t 0)], oc (a 0) 1 [.int (nI h), .int (nI w), .int wd, .int s0, .int z, .ref (a 1), .ref (a 2), .ref (a 3), .ref (a 4), .ref (a 5), .ref (a 6), .ref (a 7), .ref (a 8)], rc E (a 1) (a 9) 4 st, rc E (a 2) (a 10) 192 he, rc E (a 3) (a 11) 192 ke, rc E (a 4) (a 12) 192 tu, rc E (a 5) (a 13) 192 ca, rc E (a 6) (a 14) 192 tr, rc E (a 7) (a 15) 12 co, rc E (a 8) (a 16) 4 la, hw4 E q n b (nI o) (nI k9) G]) H locs := hw
  refine W.eq (g2 := F0 mm 14 ls [.int (if ¬ (nI k) < 0 ∧ ¬ (nI (h * w - 1)) < (nI k) then 1 else 0)]) rfl ?_
  refine lv_if_ne (tgt := 27) hx hb dX6_setFence_14 (by decide) (fun c14 => ?_) (fun c14 => False.elim ((kb10t c14) ⟨nI_pos (by omega), nI_nlt (a := h * w - 1) (by omega) (by omega)⟩))
  have c14 := kb10f c14
  refine lv_iload_n hx hb dX6_setFence_27 rfl (lv_at hl 2 rfl) ?_
  refine lv_iconst (v := (-1)) hx hb dX6_setFence_28 (by decide) ?_
  refine lv_icmp_eq (tgt := 52) hx hb dX6_setFence_29 (by decide) (fun c29 => absurd c29 (fun h99 => hv (Or.inl h99))) (fun c29 => ?_)
  refine lv_iload_n hx hb dX6_setFence_32 rfl (lv_at hl 2 rfl) ?_
  refine lv_iconst (v := 1) hx hb dX6_setFence_33 (by decide) ?_
  refine lv_bipush (v := 50) hx hb dX6_setFence_34 (by decide) ?_
  refine k_S (As := [.int v, .int 1, .int 50]) (rest := []) (pre := []) (mid := []) C0 (c_X6_within l E v 1 50 ) (va_cwS 3 hts gX6_setFence_X6_within rfl rfl rfl (by decide +kernel) ⟨Nat.le_of_ble_eq_true rfl, Nat.le_of_ble_eq_true rfl⟩) hw rfl (fun _ => []) (fun _ => rfl) rfl hl.1 rfl (Nat.le_of_ble_eq_true rfl) dX6_setFence_36 ⟨Nat.le_of_ble_eq_true rfl, Nat.le_of_ble_eq_true rfl⟩ (fun r u H locs hq99 hw => ?_)
  subst hq99
  have hw : kW E AA sx (List.flatten [oc d0 6 [.ref (a 0), .ref q1, .ref (e 0), .ref q2, .ref (m 0), .ref q, .ref (t 0)], oc (a 0) 1 [.int (nI h), .int (nI w), .int wd, .int s0, .int z, .ref (a 1), .ref (a 2), .ref (a 3), .ref (a 4), .ref (a 5), .ref (a 6), .ref (a 7), .ref (a 8)], rc E (a 1) (a 9) 4 st, rc E (a 2) (a 10) 192 he, rc E (a 3) (a 11) 192 ke, rc E (a 4) (a 12) 192 tu, rc E (a 5) (a 13) 192 ca, rc E (a 6) (a 14) 192 tr, rc E (a 7) (a 15) 12 co, rc E (a 8) (a 16) 4 la, hw4 E q n b (nI o) (nI k9) G]) H locs := hw
  refine W.eq (g2 := F0 mm 39 ls [.int (if ¬ v < 1 ∧ ¬ 50 < v then 1 else 0)]) rfl ?_
  refine lv_if_ne (tgt := 52) hx hb dX6_setFence_39 (by decide) (fun c39 => absurd c39 (fun h99 => h99 (if_neg (fun h98 => hv (Or.inr h98))))) (fun c39 => ?_)
  have c39 := kb10t c39
  exact k_throw (X := "java/lang/IllegalArgumentException") (text := "capacity is out of range") C0 hw rfl hZ hfl hxt hlk (by decide) (by decide) (hts (.classLink RX6 56 "java/lang/IllegalArgumentException") (by decide +kernel)) (hts (.initialized "java/lang/IllegalArgumentException") (by decide +kernel)) (by decide +kernel) (by decide +kernel) (by decide +kernel) (by decide +kernel) hl.1 dX6_setFence_42 dX6_setFence_45 dX6_setFence_46 dX6_setFence_48 dX6_setFence_51 (Nat.le_of_ble_eq_true rfl) (Nat.le_of_ble_eq_true rfl) (Nat.le_of_ble_eq_true rfl) (Nat.le_of_ble_eq_true rfl) (rfl) (Nat.le_of_ble_eq_true rfl) (Nat.le_of_ble_eq_true rfl)

set_option maxHeartbeats 4000000 in
set_option maxRecDepth 100000 in
theorem c_X6_setFence_x1F (l : Launch) (hfl : l.stackTraces = false) (E : kE) (d0 : Nat) (q1 : Nat) (q2 : Nat) (a : Nat → Nat) (e : Nat → Nat) (m : Nat → Nat) (t : Nat → Nat) (q : Nat) (n : Nat) (b : Nat → Nat → Nat) (G : Nat → cT) (o : Nat) (k9 : Nat) (h : Nat) (w : Nat) (wd : Int32) (s0 : Int32) (z : Int32) (st : Nat → Int32) (he : Nat → Int32) (ke : Nat → Int32) (tu : Nat → Int32) (ca : Nat → Int32) (tr : Nat → Int32) (co : Nat → Int32) (la : Nat → Int32) (x : Int32) (v : Int32) (hG : kG h w) (hv : ¬ (¬ x < 0 ∧ ¬ nI (h * w - 1) < x)) : kX E l yX6_setFence wsX6_setFence rmX6_setFence [.ref d0, .int x, .int v] (List.flatten [oc d0 6 [.ref (a 0), .ref q1, .ref (e 0), .ref q2, .ref (m 0), .ref q, .ref (t 0)], fc E a (nI h) (nI w) wd s0 z st he ke tu ca tr co la, hw4 E q n b (nI o) (nI k9) G]) kI (fun (_ : Int32) (_ : Unit) => False) (fun _ => List.flatten [oc d0 6 [.ref (a 0), .ref q1, .ref (e 0), .ref q2, .ref (m 0), .ref q, .ref (t 0)], fc E a (nI h) (nI w) wd s0 z st he ke tu ca tr co la, hw4 E q n b (nI o) (nI k9) G]) (fun X => X = "java/lang/IndexOutOfBoundsException") 1 6 := by
  refine kX_body (cc := cX6_setFence) (maxL := 4) (ret := (some .int)) (by decide) rfl (Nat.le_of_ble_eq_true rfl) ?_
  intro pp ee sx mm aa bb me cd H locs AA ls C0 hr hlk hxt hZ hl hw
  obtain ⟨hx, hb, hml, hown, hts⟩ := id C0
  have hl : lv_has ls 4 [(0, .ref d0), (1, .int x), (2, .int v)] := hl
  have hw : kW E AA sx (List.flatten [oc d0 6 [.ref (a 0), .ref q1, .ref (e 0), .ref q2, .ref (m 0), .ref q, .ref (t 0)], oc (a 0) 1 [.int (nI h), .int (nI w), .int wd, .int s0, .int z, .ref (a 1), .ref (a 2), .ref (a 3), .ref (a 4), .ref (a 5), .ref (a 6), .ref (a 7), .ref (a 8)], rc E (a 1) (a 9) 4 st, rc E (a 2) (a 10) 192 he, rc E (a 3) (a 11) 192 ke, rc E (a 4) (a 12) 192 tu, rc E (a 5) (a 13) 192 ca, rc E (a 6) (a 14) 192 tr, rc E (a 7) (a 15) 12 co, rc E (a 8) (a 16) 4 la, hw4 E q n b (nI o) (nI k9) G]) H locs := hw
  have hn9 := kG_n hG
  have hG9 := id hG
  obtain ⟨hG1, hG2, hG3, hG4⟩ := hG9
  have hinX6 : ∀ w ∈ u_ws RX6 TX6 7, w ∈ wsX6_setFence := by decide +kernel
  refine lv_iload_n hx hb dX6_setFence_0 rfl (lv_at hl 1 rfl) ?_
  refine lv_iconst (v := 0) hx hb dX6_setFence_1 (by decide) ?_
  refine lv_aload_n hx hb dX6_setFence_2 rfl (lv_at hl 0 rfl) ?_
  refine k_get (pre := []) C0 hw hinX6 rfl 0 (by decide) (hts (.fieldLink RX6 10 "SlabDunes" "field" "LSlabDunes$Field;") (by decide +kernel)) rfl rfl dX6_setFence_3 ?_
  refine k_V (As := []) (rest := [.int 0, .int x]) (pre := [oc d0 6 [.ref (a 0), .ref q1, .ref (e 0), .ref q2, .ref (m 0), .ref q, .ref (t 0)]]) (mid := [oc (a 0) 1 [.int (nI h), .int (nI w), .int wd, .int s0, .int z, .ref (a 1), .ref (a 2), .ref (a 3), .ref (a 4), .ref (a 5), .ref (a 6), .ref (a 7), .ref (a 8)], rc E (a 1) (a 9) 4 st, rc E (a 2) (a 10) 192 he, rc E (a 3) (a 11) 192 ke, rc E (a 4) (a 12) 192 tu, rc E (a 5) (a 13) 192 ca, rc E (a 6) (a 14) 192 tr, rc E (a 7) (a 15) 12 co, rc E (a 8) (a 16) 4 la]) C0 (c_X1_cells l E a h w wd s0 z st he ke tu ca tr co la (by first | assumption | omega)) (cwV 0 hts gX6_setFence_X1_cells rfl rfl rfl (by decide +kernel) ⟨Nat.le_of_ble_eq_true rfl, Nat.le_of_ble_eq_true rfl⟩) hw rfl (fun _ => [oc (a 0) 1 [.int (nI h), .int (nI w), .int wd, .int s0, .int z, .ref (a 1), .ref (a 2), .ref (a 3), .ref (a 4), .ref (a 5), .ref (a 6), .ref (a 7), .ref (a 8)], rc E (a 1) (a 9) 4 st, rc E (a 2) (a 10) 192 he, rc E (a 3) (a 11) 192 ke, rc E (a 4) (a 12) 192 tu, rc E (a 5) (a 13) 192 ca, rc E (a 6) (a 14) 192 tr, rc E (a 7) (a 15) 12 co, rc E (a 8) (a 16) 4 la]) (fun _ => rfl) 0 1 rfl rfl rfl rfl hl.1 rfl (Nat.le_of_ble_eq_true rfl) dX6_setFence_6 ⟨Nat.le_of_ble_eq_true rfl, Nat.le_of_ble_eq_true rfl⟩ (fun r u H locs hq99 hw => ?_)
  subst hq99
  have hw : kW E AA sx (List.flatten [oc d0 6 [.ref (a 0), .ref q1, .ref (e 0), .ref q2, .ref (m 0), .ref q, .ref (t 0)], oc (a 0) 1 [.int (nI h), .int (nI w), .int wd, .int s0, .int z, .ref (a 1), .ref (a 2), .ref (a 3), .ref (a 4), .ref (a 5), .ref (a 6), .ref (a 7), .ref (a 8)], rc E (a 1) (a 9) 4 st, rc E (a 2) (a 10) 192 he, rc E (a 3) (a 11) 192 ke, rc E (a 4) (a 12) 192 tu, rc E (a 5) (a 13) 192 ca, rc E (a 6) (a 14) 192 tr, rc E (a 7) (a 15) 12 co, rc E (a 8) (a 16) 4 la, hw4 E q n b (nI o) (nI k9) G]) H locs := hw
  refine W.eq (g2 := F0 mm 9 ls [.int (nI (h * w)), .int 0, .int x]) rfl ?_
  refine lv_iconst (v := 1) hx hb dX6_setFence_9 (by decide) ?_
  refine lv_isub hx hb dX6_setFence_10 ?_
  refine W.eq (g2 := F0 mm 11 ls [.int (nI (h * w - 1)), .int 0, .int x]) (congrArg (fun z9 => F0 mm 11 ls [.int z9, .int 0, .int x]) (show ((nI (h * w)) - 1 : Int32) = nI (h * w - 1) from pk_sub (b := 1) (by omega))) ?_
  refine k_S (As := [.int x, .int 0, .int (nI (h * w - 1))]) (rest := []) (pre := []) (mid := []) C0 (c_X6_within l E x 0 (nI (h * w - 1)) ) (va_cwS 3 hts gX6_setFence_X6_within rfl rfl rfl (by decide +kernel) ⟨Nat.le_of_ble_eq_true rfl, Nat.le_of_ble_eq_true rfl⟩) hw rfl (fun _ => []) (fun _ => rfl) rfl hl.1 rfl (Nat.le_of_ble_eq_true rfl) dX6_setFence_11 ⟨Nat.le_of_ble_eq_true rfl, Nat.le_of_ble_eq_true rfl⟩ (fun r u H locs hq99 hw => ?_)
  subst hq99
  have hw : kW E AA sx (List.flatten [oc d0 6 [.ref (a 0), .ref q1, .ref (e 0), .ref q2, .ref (m 0), .ref q, .ref (t 0)], oc (a 0) 1 [.int (nI h), .int (nI w), .int wd, .int s0, .int z, .ref (a 1), .ref (a 2), .ref (a 3), .ref (a 4), .ref (a 5), .ref (a 6), .ref (a 7), .ref (a 8)], rc E (a 1) (a 9) 4 st, rc E (a 2) (a 10) 192 he, rc E (a 3) (a 11) 192 ke, rc E (a 4) (a 12) 192 tu, rc E (a 5) (a 13) 192 ca, rc E (a 6) (a 14) 192 tr, rc E (a 7) (a 15) 12 co, rc E (a 8) (a 16) 4 la, hw4 E q n b (nI o) (nI k9) G]) H locs := hw
  refine W.eq (g2 := F0 mm 14 ls [.int (if ¬ x < 0 ∧ ¬ (nI (h * w - 1)) < x then 1 else 0)]) rfl ?_
  refine lv_if_ne (tgt := 27) hx hb dX6_setFence_14 (by decide) (fun c14 => absurd c14 (fun h99 => h99 (if_neg hv))) (fun c14 => ?_)
  have c14 := kb10t c14
  exact k_throw (X := "java/lang/IndexOutOfBoundsException") (text := "no such cell") C0 hw rfl hZ hfl hxt hlk (by decide) (by decide) (hts (.classLink RX6 79 "java/lang/IndexOutOfBoundsException") (by decide +kernel)) (hts (.initialized "java/lang/IndexOutOfBoundsException") (by decide +kernel)) (by decide +kernel) (by decide +kernel) (by decide +kernel) (by decide +kernel) hl.1 dX6_setFence_17 dX6_setFence_20 dX6_setFence_21 dX6_setFence_23 dX6_setFence_26 (Nat.le_of_ble_eq_true rfl) (Nat.le_of_ble_eq_true rfl) (Nat.le_of_ble_eq_true rfl) (Nat.le_of_ble_eq_true rfl) (rfl) (Nat.le_of_ble_eq_true rfl) (Nat.le_of_ble_eq_true rfl)

set_option maxHeartbeats 4000000 in
set_option maxRecDepth 100000 in
theorem c_X6_setHeight_x2F (l : Launch) (hfl : l.stackTraces = false) (E : kE) (d0 : Nat) (q1 : Nat) (q2 : Nat) (a : Nat → Nat) (e : Nat → Nat) (m : Nat → Nat) (t : Nat → Nat) (q : Nat) (n : Nat) (b : Nat → Nat → Nat) (G : Nat → cT) (o : Nat) (k9 : Nat) (h : Nat) (w : Nat) (wd : Int32) (s0 : Int32) (z : Int32) (st : Nat → Int32) (he : Nat → Int32) (ke : Nat → Int32) (tu : Nat → Int32) (ca : Nat → Int32) (tr : Nat → Int32) (co : Nat → Int32) (la : Nat → Int32) (k : Nat) (v : Int32) (hG : kG h w) (hc : k < h * w) (hv : ¬ (¬ v < 0 ∧ ¬ 99 < v)) : kX E l yX6_setHeight wsX6_setHeight rmX6_setHeight [.ref d0, .int (nI k), .int v] (List.flatten [oc d0 6 [.ref (a 0), .ref q1, .ref (e 0), .ref q2, .ref (m 0), .ref q, .ref (t 0)], fc E a (nI h) (nI w) wd s0 z st he ke tu ca tr co la, hw4 E q n b (nI o) (nI k9) G]) kI (fun (_ : Int32) (_ : Unit) => False) (fun _ => List.flatten [oc d0 6 [.ref (a 0), .ref q1, .ref (e 0), .ref q2, .ref (m 0), .ref q, .ref (t 0)], fc E a (nI h) (nI w) wd s0 z st he ke tu ca tr co la, hw4 E q n b (nI o) (nI k9) G]) (fun X => X = "java/lang/IllegalArgumentException") 1 6 := by
  refine kX_body (cc := cX6_setHeight) (maxL := 4) (ret := (some .int)) (by decide) rfl (Nat.le_of_ble_eq_true rfl) ?_
  intro pp ee sx mm aa bb me cd H locs AA ls C0 hr hlk hxt hZ hl hw
  obtain ⟨hx, hb, hml, hown, hts⟩ := id C0
  have hl : lv_has ls 4 [(0, .ref d0), (1, .int (nI k)), (2, .int v)] := hl
  have hw : kW E AA sx (List.flatten [oc d0 6 [.ref (a 0), .ref q1, .ref (e 0), .ref q2, .ref (m 0), .ref q, .ref (t 0)], oc (a 0) 1 [.int (nI h), .int (nI w), .int wd, .int s0, .int z, .ref (a 1), .ref (a 2), .ref (a 3), .ref (a 4), .ref (a 5), .ref (a 6), .ref (a 7), .ref (a 8)], rc E (a 1) (a 9) 4 st, rc E (a 2) (a 10) 192 he, rc E (a 3) (a 11) 192 ke, rc E (a 4) (a 12) 192 tu, rc E (a 5) (a 13) 192 ca, rc E (a 6) (a 14) 192 tr, rc E (a 7) (a 15) 12 co, rc E (a 8) (a 16) 4 la, hw4 E q n b (nI o) (nI k9) G]) H locs := hw
  have hn9 := kG_n hG
  have hG9 := id hG
  obtain ⟨hG1, hG2, hG3, hG4⟩ := hG9
  have hinX6 : ∀ w ∈ u_ws RX6 TX6 7, w ∈ wsX6_setHeight := by decide +kernel
  refine lv_iload_n hx hb dX6_setHeight_0 rfl (lv_at hl 1 rfl) ?_
  refine lv_iconst (v := 0) hx hb dX6_setHeight_1 (by decide) ?_
  refine lv_aload_n hx hb dX6_setHeight_2 rfl (lv_at hl 0 rfl) ?_
  refine k_get (pre := []) C0 hw hinX6 rfl 0 (by decide) (hts (.fieldLink RX6 10 "SlabDunes" "field" "LSlabDunes$Field;") (by decide +kernel)) rfl rfl dX6_setHeight_3 ?_
  refine k_V (As := []) (rest := [.int 0, .int (nI k)]) (pre := [oc d0 6 [.ref (a 0), .ref q1, .ref (e 0), .ref q2, .ref (m 0), .ref q, .ref (t 0)]]) (mid := [oc (a 0) 1 [.int (nI h), .int (nI w), .int wd, .int s0, .int z, .ref (a 1), .ref (a 2), .ref (a 3), .ref (a 4), .ref (a 5), .ref (a 6), .ref (a 7), .ref (a 8)], rc E (a 1) (a 9) 4 st, rc E (a 2) (a 10) 192 he, rc E (a 3) (a 11) 192 ke, rc E (a 4) (a 12) 192 tu, rc E (a 5) (a 13) 192 ca, rc E (a 6) (a 14) 192 tr, rc E (a 7) (a 15) 12 co, rc E (a 8) (a 16) 4 la]) C0 (c_X1_cells l E a h w wd s0 z st he ke tu ca tr co la (by first | assumption | omega)) (cwV 0 hts gX6_setHeight_X1_cells rfl rfl rfl (by decide +kernel) ⟨Nat.le_of_ble_eq_true rfl, Nat.le_of_ble_eq_true rfl⟩) hw rfl (fun _ => [oc (a 0) 1 [.int (nI h), .int (nI w), .int wd, .int s0, .int z, .ref (a 1), .ref (a 2), .ref (a 3), .ref (a 4), .ref (a 5), .ref (a 6), .ref (a 7), .ref (a 8)], rc E (a 1) (a 9) 4 st, rc E (a 2) (a 10) 192 he, rc E (a 3) (a 11) 192 ke, rc E (a 4) (a 12) 192 tu, rc E (a 5) (a 13) 192 ca, rc E (a 6) (a 14) 192 tr, rc E (a 7) (a 15) 12 co, rc E (a 8) (a 16) 4 la]) (fun _ => rfl) 0 1 rfl rfl rfl rfl hl.1 rfl (Nat.le_of_ble_eq_true rfl) dX6_setHeight_6 ⟨Nat.le_of_ble_eq_true rfl, Nat.le_of_ble_eq_true rfl⟩ (fun r u H locs hq99 hw => ?_)
  subst hq99
  have hw : kW E AA sx (List.flatten [oc d0 6 [.ref (a 0), .ref q1, .ref (e 0), .ref q2, .ref (m 0), .ref q, .ref (t 0)], oc (a 0) 1 [.int (nI h), .int (nI w), .int wd, .int s0, .int z, .ref (a 1), .ref (a 2), .ref (a 3), .ref (a 4), .ref (a 5), .ref (a 6), .ref (a 7), .ref (a 8)], rc E (a 1) (a 9) 4 st, rc E (a 2) (a 10) 192 he, rc E (a 3) (a 11) 192 ke, rc E (a 4) (a 12) 192 tu, rc E (a 5) (a 13) 192 ca, rc E (a 6) (a 14) 192 tr, rc E (a 7) (a 15) 12 co, rc E (a 8) (a 16) 4 la, hw4 E q n b (nI o) (nI k9) G]) H locs := hw
  refine W.eq (g2 := F0 mm 9 ls [.int (nI (h * w)), .int 0, .int (nI k)]) rfl ?_
  refine lv_iconst (v := 1) hx hb dX6_setHeight_9 (by decide) ?_
  refine lv_isub hx hb dX6_setHeight_10 ?_
  refine W.eq (g2 := F0 mm 11 ls [.int (nI (h * w - 1)), .int 0, .int (nI k)]) (congrArg (fun z9 => F0 mm 11 ls [.int z9, .int 0, .int (nI k)]) (show ((nI (h * w)) - 1 : Int32) = nI (h * w - 1) from pk_sub (b := 1) (by omega))) ?_
  refine k_S (As := [.int (nI k), .int 0, .int (nI (h * w - 1))]) (rest := []) (pre := []) (mid := []) C0 (c_X6_within l E (nI k) 0 (nI (h * w - 1)) ) (va_cwS 3 hts gX6_setHeight_X6_within rfl rfl rfl (by decide +kernel) ⟨Nat.le_of_ble_eq_true rfl, Nat.le_of_ble_eq_true rfl⟩) hw rfl (fun _ => []) (fun _ => rfl) rfl hl.1 rfl (Nat.le_of_ble_eq_true rfl) dX6_setHeight_11 ⟨Nat.le_of_ble_eq_true rfl, Nat.le_of_ble_eq_true rfl⟩ (fun r u H locs hq99 hw => ?_)
  subst hq99
  have hw : kW E AA sx (List.flatten [oc d0 6 [.ref (a 0), .ref q1, .ref (e 0), .ref q2, .ref (m 0), .ref q, .ref (t 0)], oc (a 0) 1 [.int (nI h), .int (nI w), .int wd, .int s0, .int z, .ref (a 1), .ref (a 2), .ref (a 3), .ref (a 4), .ref (a 5), .ref (a 6), .ref (a 7), .ref (a 8)], rc E (a 1) (a 9) 4 st, rc E (a 2) (a 10) 192 he, rc E (a 3) (a 11) 192 ke, rc E (a 4) (a 12) 192 tu, rc E (a 5) (a 13) 192 ca, rc E (a 6) (a 14) 192 tr, rc E (a 7) (a 15) 12 co, rc E (a 8) (a 16) 4 la, hw4 E q n b (nI o) (nI k9) G]) H locs := hw
  refine W.eq (g2 := F0 mm 14 ls [.int (if ¬ (nI k) < 0 ∧ ¬ (nI (h * w - 1)) < (nI k) then 1 else 0)]) rfl ?_
  refine lv_if_ne (tgt := 27) hx hb dX6_setHeight_14 (by decide) (fun c14 => ?_) (fun c14 => False.elim ((kb10t c14) ⟨nI_pos (by omega), nI_nlt (a := h * w - 1) (by omega) (by omega)⟩))
  have c14 := kb10f c14
  refine lv_iload_n hx hb dX6_setHeight_27 rfl (lv_at hl 2 rfl) ?_
  refine lv_iconst (v := 0) hx hb dX6_setHeight_28 (by decide) ?_
  refine lv_bipush (v := 99) hx hb dX6_setHeight_29 (by decide) ?_
  refine k_S (As := [.int v, .int 0, .int 99]) (rest := []) (pre := []) (mid := []) C0 (c_X6_within l E v 0 99 ) (va_cwS 3 hts gX6_setHeight_X6_within rfl rfl rfl (by decide +kernel) ⟨Nat.le_of_ble_eq_true rfl, Nat.le_of_ble_eq_true rfl⟩) hw rfl (fun _ => []) (fun _ => rfl) rfl hl.1 rfl (Nat.le_of_ble_eq_true rfl) dX6_setHeight_31 ⟨Nat.le_of_ble_eq_true rfl, Nat.le_of_ble_eq_true rfl⟩ (fun r u H locs hq99 hw => ?_)
  subst hq99
  have hw : kW E AA sx (List.flatten [oc d0 6 [.ref (a 0), .ref q1, .ref (e 0), .ref q2, .ref (m 0), .ref q, .ref (t 0)], oc (a 0) 1 [.int (nI h), .int (nI w), .int wd, .int s0, .int z, .ref (a 1), .ref (a 2), .ref (a 3), .ref (a 4), .ref (a 5), .ref (a 6), .ref (a 7), .ref (a 8)], rc E (a 1) (a 9) 4 st, rc E (a 2) (a 10) 192 he, rc E (a 3) (a 11) 192 ke, rc E (a 4) (a 12) 192 tu, rc E (a 5) (a 13) 192 ca, rc E (a 6) (a 14) 192 tr, rc E (a 7) (a 15) 12 co, rc E (a 8) (a 16) 4 la, hw4 E q n b (nI o) (nI k9) G]) H locs := hw
  refine W.eq (g2 := F0 mm 34 ls [.int (if ¬ v < 0 ∧ ¬ 99 < v then 1 else 0)]) rfl ?_
  refine lv_if_ne (tgt := 47) hx hb dX6_setHeight_34 (by decide) (fun c34 => absurd c34 (fun h99 => h99 (if_neg hv))) (fun c34 => ?_)
  have c34 := kb10t c34
  exact k_throw (X := "java/lang/IllegalArgumentException") (text := "height is out of range") C0 hw rfl hZ hfl hxt hlk (by decide) (by decide) (hts (.classLink RX6 56 "java/lang/IllegalArgumentException") (by decide +kernel)) (hts (.initialized "java/lang/IllegalArgumentException") (by decide +kernel)) (by decide +kernel) (by decide +kernel) (by decide +kernel) (by decide +kernel) hl.1 dX6_setHeight_37 dX6_setHeight_40 dX6_setHeight_41 dX6_setHeight_43 dX6_setHeight_46 (Nat.le_of_ble_eq_true rfl) (Nat.le_of_ble_eq_true rfl) (Nat.le_of_ble_eq_true rfl) (Nat.le_of_ble_eq_true rfl) (rfl) (Nat.le_of_ble_eq_true rfl) (Nat.le_of_ble_eq_true rfl)

set_option maxHeartbeats 4000000 in
set_option maxRecDepth 100000 in
theorem c_X6_setHeight_x1F (l : Launch) (hfl : l.stackTraces = false) (E : kE) (d0 : Nat) (q1 : Nat) (q2 : Nat) (a : Nat → Nat) (e : Nat → Nat) (m : Nat → Nat) (t : Nat → Nat) (q : Nat) (n : Nat) (b : Nat → Nat → Nat) (G : Nat → cT) (o : Nat) (k9 : Nat) (h : Nat) (w : Nat) (wd : Int32) (s0 : Int32) (z : Int32) (st : Nat → Int32) (he : Nat → Int32) (ke : Nat → Int32) (tu : Nat → Int32) (ca : Nat → Int32) (tr : Nat → Int32) (co : Nat → Int32) (la : Nat → Int32) (x : Int32) (v : Int32) (hG : kG h w) (hv : ¬ (¬ x < 0 ∧ ¬ nI (h * w - 1) < x)) : kX E l yX6_setHeight wsX6_setHeight rmX6_setHeight [.ref d0, .int x, .int v] (List.flatten [oc d0 6 [.ref (a 0), .ref q1, .ref (e 0), .ref q2, .ref (m 0), .ref q, .ref (t 0)], fc E a (nI h) (nI w) wd s0 z st he ke tu ca tr co la, hw4 E q n b (nI o) (nI k9) G]) kI (fun (_ : Int32) (_ : Unit) => False) (fun _ => List.flatten [oc d0 6 [.ref (a 0), .ref q1, .ref (e 0), .ref q2, .ref (m 0), .ref q, .ref (t 0)], fc E a (nI h) (nI w) wd s0 z st he ke tu ca tr co la, hw4 E q n b (nI o) (nI k9) G]) (fun X => X = "java/lang/IndexOutOfBoundsException") 1 6 := by
  refine kX_body (cc := cX6_setHeight) (maxL := 4) (ret := (some .int)) (by decide) rfl (Nat.le_of_ble_eq_true rfl) ?_
  intro pp ee sx mm aa bb me cd H locs AA ls C0 hr hlk hxt hZ hl hw
  obtain ⟨hx, hb, hml, hown, hts⟩ := id C0
  have hl : lv_has ls 4 [(0, .ref d0), (1, .int x), (2, .int v)] := hl
  have hw : kW E AA sx (List.flatten [oc d0 6 [.ref (a 0), .ref q1, .ref (e 0), .ref q2, .ref (m 0), .ref q, .ref (t 0)], oc (a 0) 1 [.int (nI h), .int (nI w), .int wd, .int s0, .int z, .ref (a 1), .ref (a 2), .ref (a 3), .ref (a 4), .ref (a 5), .ref (a 6), .ref (a 7), .ref (a 8)], rc E (a 1) (a 9) 4 st, rc E (a 2) (a 10) 192 he, rc E (a 3) (a 11) 192 ke, rc E (a 4) (a 12) 192 tu, rc E (a 5) (a 13) 192 ca, rc E (a 6) (a 14) 192 tr, rc E (a 7) (a 15) 12 co, rc E (a 8) (a 16) 4 la, hw4 E q n b (nI o) (nI k9) G]) H locs := hw
  have hn9 := kG_n hG
  have hG9 := id hG
  obtain ⟨hG1, hG2, hG3, hG4⟩ := hG9
  have hinX6 : ∀ w ∈ u_ws RX6 TX6 7, w ∈ wsX6_setHeight := by decide +kernel
  refine lv_iload_n hx hb dX6_setHeight_0 rfl (lv_at hl 1 rfl) ?_
  refine lv_iconst (v := 0) hx hb dX6_setHeight_1 (by decide) ?_
  refine lv_aload_n hx hb dX6_setHeight_2 rfl (lv_at hl 0 rfl) ?_
  refine k_get (pre := []) C0 hw hinX6 rfl 0 (by decide) (hts (.fieldLink RX6 10 "SlabDunes" "field" "LSlabDunes$Field;") (by decide +kernel)) rfl rfl dX6_setHeight_3 ?_
  refine k_V (As := []) (rest := [.int 0, .int x]) (pre := [oc d0 6 [.ref (a 0), .ref q1, .ref (e 0), .ref q2, .ref (m 0), .ref q, .ref (t 0)]]) (mid := [oc (a 0) 1 [.int (nI h), .int (nI w), .int wd, .int s0, .int z, .ref (a 1), .ref (a 2), .ref (a 3), .ref (a 4), .ref (a 5), .ref (a 6), .ref (a 7), .ref (a 8)], rc E (a 1) (a 9) 4 st, rc E (a 2) (a 10) 192 he, rc E (a 3) (a 11) 192 ke, rc E (a 4) (a 12) 192 tu, rc E (a 5) (a 13) 192 ca, rc E (a 6) (a 14) 192 tr, rc E (a 7) (a 15) 12 co, rc E (a 8) (a 16) 4 la]) C0 (c_X1_cells l E a h w wd s0 z st he ke tu ca tr co la (by first | assumption | omega)) (cwV 0 hts gX6_setHeight_X1_cells rfl rfl rfl (by decide +kernel) ⟨Nat.le_of_ble_eq_true rfl, Nat.le_of_ble_eq_true rfl⟩) hw rfl (fun _ => [oc (a 0) 1 [.int (nI h), .int (nI w), .int wd, .int s0, .int z, .ref (a 1), .ref (a 2), .ref (a 3), .ref (a 4), .ref (a 5), .ref (a 6), .ref (a 7), .ref (a 8)], rc E (a 1) (a 9) 4 st, rc E (a 2) (a 10) 192 he, rc E (a 3) (a 11) 192 ke, rc E (a 4) (a 12) 192 tu, rc E (a 5) (a 13) 192 ca, rc E (a 6) (a 14) 192 tr, rc E (a 7) (a 15) 12 co, rc E (a 8) (a 16) 4 la]) (fun _ => rfl) 0 1 rfl rfl rfl rfl hl.1 rfl (Nat.le_of_ble_eq_true rfl) dX6_setHeight_6 ⟨Nat.le_of_ble_eq_true rfl, Nat.le_of_ble_eq_true rfl⟩ (fun r u H locs hq99 hw => ?_)
  subst hq99
  have hw : kW E AA sx (List.flatten [oc d0 6 [.ref (a 0), .ref q1, .ref (e 0), .ref q2, .ref (m 0), .ref q, .ref (t 0)], oc (a 0) 1 [.int (nI h), .int (nI w), .int wd, .int s0, .int z, .ref (a 1), .ref (a 2), .ref (a 3), .ref (a 4), .ref (a 5), .ref (a 6), .ref (a 7), .ref (a 8)], rc E (a 1) (a 9) 4 st, rc E (a 2) (a 10) 192 he, rc E (a 3) (a 11) 192 ke, rc E (a 4) (a 12) 192 tu, rc E (a 5) (a 13) 192 ca, rc E (a 6) (a 14) 192 tr, rc E (a 7) (a 15) 12 co, rc E (a 8) (a 16) 4 la, hw4 E q n b (nI o) (nI k9) G]) H locs := hw
  refine W.eq (g2 := F0 mm 9 ls [.int (nI (h * w)), .int 0, .int x]) rfl ?_
  refine lv_iconst (v := 1) hx hb dX6_setHeight_9 (by decide) ?_
  refine lv_isub hx hb dX6_setHeight_10 ?_
  refine W.eq (g2 := F0 mm 11 ls [.int (nI (h * w - 1)), .int 0, .int x]) (congrArg (fun z9 => F0 mm 11 ls [.int z9, .int 0, .int x]) (show ((nI (h * w)) - 1 : Int32) = nI (h * w - 1) from pk_sub (b := 1) (by omega))) ?_
  refine k_S (As := [.int x, .int 0, .int (nI (h * w - 1))]) (rest := []) (pre := []) (mid := []) C0 (c_X6_within l E x 0 (nI (h * w - 1)) ) (va_cwS 3 hts gX6_setHeight_X6_within rfl rfl rfl (by decide +kernel) ⟨Nat.le_of_ble_eq_true rfl, Nat.le_of_ble_eq_true rfl⟩) hw rfl (fun _ => []) (fun _ => rfl) rfl hl.1 rfl (Nat.le_of_ble_eq_true rfl) dX6_setHeight_11 ⟨Nat.le_of_ble_eq_true rfl, Nat.le_of_ble_eq_true rfl⟩ (fun r u H locs hq99 hw => ?_)
  subst hq99
  have hw : kW E AA sx (List.flatten [oc d0 6 [.ref (a 0), .ref q1, .ref (e 0), .ref q2, .ref (m 0), .ref q, .ref (t 0)], oc (a 0) 1 [.int (nI h), .int (nI w), .int wd, .int s0, .int z, .ref (a 1), .ref (a 2), .ref (a 3), .ref (a 4), .ref (a 5), .ref (a 6), .ref (a 7), .ref (a 8)], rc E (a 1) (a 9) 4 st, rc E (a 2) (a 10) 192 he, rc E (a 3) (a 11) 192 ke, rc E (a 4) (a 12) 192 tu, rc E (a 5) (a 13) 192 ca, rc E (a 6) (a 14) 192 tr, rc E (a 7) (a 15) 12 co, rc E (a 8) (a 16) 4 la, hw4 E q n b (nI o) (nI k9) G]) H locs := hw
  refine W.eq (g2 := F0 mm 14 ls [.int (if ¬ x < 0 ∧ ¬ (nI (h * w - 1)) < x then 1 else 0)]) rfl ?_
  refine lv_if_ne (tgt := 27) hx hb dX6_setHeight_14 (by decide) (fun c14 => absurd c14 (fun h99 => h99 (if_neg hv))) (fun c14 => ?_)
  have c14 := kb10t c14
  exact k_throw (X := "java/lang/IndexOutOfBoundsException") (text := "no such cell") C0 hw rfl hZ hfl hxt hlk (by decide) (by decide) (hts (.classLink RX6 79 "java/lang/IndexOutOfBoundsException") (by decide +kernel)) (hts (.initialized "java/lang/IndexOutOfBoundsException") (by decide +kernel)) (by decide +kernel) (by decide +kernel) (by decide +kernel) (by decide +kernel) hl.1 dX6_setHeight_17 dX6_setHeight_20 dX6_setHeight_21 dX6_setHeight_23 dX6_setHeight_26 (Nat.le_of_ble_eq_true rfl) (Nat.le_of_ble_eq_true rfl) (Nat.le_of_ble_eq_true rfl) (Nat.le_of_ble_eq_true rfl) (rfl) (Nat.le_of_ble_eq_true rfl) (Nat.le_of_ble_eq_true rfl)

set_option maxHeartbeats 4000000 in
set_option maxRecDepth 100000 in
theorem c_X6_setTuft_x2F (l : Launch) (hfl : l.stackTraces = false) (E : kE) (d0 : Nat) (q1 : Nat) (q2 : Nat) (a : Nat → Nat) (e : Nat → Nat) (m : Nat → Nat) (t : Nat → Nat) (q : Nat) (n : Nat) (b : Nat → Nat → Nat) (G : Nat → cT) (o : Nat) (k9 : Nat) (h : Nat) (w : Nat) (wd : Int32) (s0 : Int32) (z : Int32) (st : Nat → Int32) (he : Nat → Int32) (ke : Nat → Int32) (tu : Nat → Int32) (ca : Nat → Int32) (tr : Nat → Int32) (co : Nat → Int32) (la : Nat → Int32) (k : Nat) (v : Int32) (hG : kG h w) (hc : k < h * w) (hv : ¬ (¬ v < 0 ∧ ¬ 100 < v)) : kX E l yX6_setTuft wsX6_setTuft rmX6_setTuft [.ref d0, .int (nI k), .int v] (List.flatten [oc d0 6 [.ref (a 0), .ref q1, .ref (e 0), .ref q2, .ref (m 0), .ref q, .ref (t 0)], fc E a (nI h) (nI w) wd s0 z st he ke tu ca tr co la, hw4 E q n b (nI o) (nI k9) G]) kI (fun (_ : Int32) (_ : Unit) => False) (fun _ => List.flatten [oc d0 6 [.ref (a 0), .ref q1, .ref (e 0), .ref q2, .ref (m 0), .ref q, .ref (t 0)], fc E a (nI h) (nI w) wd s0 z st he ke tu ca tr co la, hw4 E q n b (nI o) (nI k9) G]) (fun X => X = "java/lang/IllegalArgumentException") 1 6 := by
  refine kX_body (cc := cX6_setTuft) (maxL := 4) (ret := (some .int)) (by decide) rfl (Nat.le_of_ble_eq_true rfl) ?_
  intro pp ee sx mm aa bb me cd H locs AA ls C0 hr hlk hxt hZ hl hw
  obtain ⟨hx, hb, hml, hown, hts⟩ := id C0
  have hl : lv_has ls 4 [(0, .ref d0), (1, .int (nI k)), (2, .int v)] := hl
  have hw : kW E AA sx (List.flatten [oc d0 6 [.ref (a 0), .ref q1, .ref (e 0), .ref q2, .ref (m 0), .ref q, .ref (t 0)], oc (a 0) 1 [.int (nI h), .int (nI w), .int wd, .int s0, .int z, .ref (a 1), .ref (a 2), .ref (a 3), .ref (a 4), .ref (a 5), .ref (a 6), .ref (a 7), .ref (a 8)], rc E (a 1) (a 9) 4 st, rc E (a 2) (a 10) 192 he, rc E (a 3) (a 11) 192 ke, rc E (a 4) (a 12) 192 tu, rc E (a 5) (a 13) 192 ca, rc E (a 6) (a 14) 192 tr, rc E (a 7) (a 15) 12 co, rc E (a 8) (a 16) 4 la, hw4 E q n b (nI o) (nI k9) G]) H locs := hw
  have hn9 := kG_n hG
  have hG9 := id hG
  obtain ⟨hG1, hG2, hG3, hG4⟩ := hG9
  have hinX6 : ∀ w ∈ u_ws RX6 TX6 7, w ∈ wsX6_setTuft := by decide +kernel
  refine lv_iload_n hx hb dX6_setTuft_0 rfl (lv_at hl 1 rfl) ?_
  refine lv_iconst (v := 0) hx hb dX6_setTuft_1 (by decide) ?_
  refine lv_aload_n hx hb dX6_setTuft_2 rfl (lv_at hl 0 rfl) ?_
  refine k_get (pre := []) C0 hw hinX6 rfl 0 (by decide) (hts (.fieldLink RX6 10 "SlabDunes" "field" "LSlabDunes$Field;") (by decide +kernel)) rfl rfl dX6_setTuft_3 ?_
  refine k_V (As := []) (rest := [.int 0, .int (nI k)]) (pre := [oc d0 6 [.ref (a 0), .ref q1, .ref (e 0), .ref q2, .ref (m 0), .ref q, .ref (t 0)]]) (mid := [oc (a 0) 1 [.int (nI h), .int (nI w), .int wd, .int s0, .int z, .ref (a 1), .ref (a 2), .ref (a 3), .ref (a 4), .ref (a 5), .ref (a 6), .ref (a 7), .ref (a 8)], rc E (a 1) (a 9) 4 st, rc E (a 2) (a 10) 192 he, rc E (a 3) (a 11) 192 ke, rc E (a 4) (a 12) 192 tu, rc E (a 5) (a 13) 192 ca, rc E (a 6) (a 14) 192 tr, rc E (a 7) (a 15) 12 co, rc E (a 8) (a 16) 4 la]) C0 (c_X1_cells l E a h w wd s0 z st he ke tu ca tr co la (by first | assumption | omega)) (cwV 0 hts gX6_setTuft_X1_cells rfl rfl rfl (by decide +kernel) ⟨Nat.le_of_ble_eq_true rfl, Nat.le_of_ble_eq_true rfl⟩) hw rfl (fun _ => [oc (a 0) 1 [.int (nI h), .int (nI w), .int wd, .int s0, .int z, .ref (a 1), .ref (a 2), .ref (a 3), .ref (a 4), .ref (a 5), .ref (a 6), .ref (a 7), .ref (a 8)], rc E (a 1) (a 9) 4 st, rc E (a 2) (a 10) 192 he, rc E (a 3) (a 11) 192 ke, rc E (a 4) (a 12) 192 tu, rc E (a 5) (a 13) 192 ca, rc E (a 6) (a 14) 192 tr, rc E (a 7) (a 15) 12 co, rc E (a 8) (a 16) 4 la]) (fun _ => rfl) 0 1 rfl rfl rfl rfl hl.1 rfl (Nat.le_of_ble_eq_true rfl) dX6_setTuft_6 ⟨Nat.le_of_ble_eq_true rfl, Nat.le_of_ble_eq_true rfl⟩ (fun r u H locs hq99 hw => ?_)
  subst hq99
  have hw : kW E AA sx (List.flatten [oc d0 6 [.ref (a 0), .ref q1, .ref (e 0), .ref q2, .ref (m 0), .ref q, .ref (t 0)], oc (a 0) 1 [.int (nI h), .int (nI w), .int wd, .int s0, .int z, .ref (a 1), .ref (a 2), .ref (a 3), .ref (a 4), .ref (a 5), .ref (a 6), .ref (a 7), .ref (a 8)], rc E (a 1) (a 9) 4 st, rc E (a 2) (a 10) 192 he, rc E (a 3) (a 11) 192 ke, rc E (a 4) (a 12) 192 tu, rc E (a 5) (a 13) 192 ca, rc E (a 6) (a 14) 192 tr, rc E (a 7) (a 15) 12 co, rc E (a 8) (a 16) 4 la, hw4 E q n b (nI o) (nI k9) G]) H locs := hw
  refine W.eq (g2 := F0 mm 9 ls [.int (nI (h * w)), .int 0, .int (nI k)]) rfl ?_
  refine lv_iconst (v := 1) hx hb dX6_setTuft_9 (by decide) ?_
  refine lv_isub hx hb dX6_setTuft_10 ?_
  refine W.eq (g2 := F0 mm 11 ls [.int (nI (h * w - 1)), .int 0, .int (nI k)]) (congrArg (fun z9 => F0 mm 11 ls [.int z9, .int 0, .int (nI k)]) (show ((nI (h * w)) - 1 : Int32) = nI (h * w - 1) from pk_sub (b := 1) (by omega))) ?_
  refine k_S (As := [.int (nI k), .int 0, .int (nI (h * w - 1))]) (rest := []) (pre := []) (mid := []) C0 (c_X6_within l E (nI k) 0 (nI (h * w - 1)) ) (va_cwS 3 hts gX6_setTuft_X6_within rfl rfl rfl (by decide +kernel) ⟨Nat.le_of_ble_eq_true rfl, Nat.le_of_ble_eq_true rfl⟩) hw rfl (fun _ => []) (fun _ => rfl) rfl hl.1 rfl (Nat.le_of_ble_eq_true rfl) dX6_setTuft_11 ⟨Nat.le_of_ble_eq_true rfl, Nat.le_of_ble_eq_true rfl⟩ (fun r u H locs hq99 hw => ?_)
  subst hq99
  have hw : kW E AA sx (List.flatten [oc d0 6 [.ref (a 0), .ref q1, .ref (e 0), .ref q2, .ref (m 0), .ref q, .ref (t 0)], oc (a 0) 1 [.int (nI h), .int (nI w), .int wd, .int s0, .int z, .ref (a 1), .ref (a 2), .ref (a 3), .ref (a 4), .ref (a 5), .ref (a 6), .ref (a 7), .ref (a 8)], rc E (a 1) (a 9) 4 st, rc E (a 2) (a 10) 192 he, rc E (a 3) (a 11) 192 ke, rc E (a 4) (a 12) 192 tu, rc E (a 5) (a 13) 192 ca, rc E (a 6) (a 14) 192 tr, rc E (a 7) (a 15) 12 co, rc E (a 8) (a 16) 4 la, hw4 E q n b (nI o) (nI k9) G]) H locs := hw
  refine W.eq (g2 := F0 mm 14 ls [.int (if ¬ (nI k) < 0 ∧ ¬ (nI (h * w - 1)) < (nI k) then 1 else 0)]) rfl ?_
  refine lv_if_ne (tgt := 27) hx hb dX6_setTuft_14 (by decide) (fun c14 => ?_) (fun c14 => False.elim ((kb10t c14) ⟨nI_pos (by omega), nI_nlt (a := h * w - 1) (by omega) (by omega)⟩))
  have c14 := kb10f c14
  refine lv_iload_n hx hb dX6_setTuft_27 rfl (lv_at hl 2 rfl) ?_
  refine lv_iconst (v := 0) hx hb dX6_setTuft_28 (by decide) ?_
  refine lv_bipush (v := 100) hx hb dX6_setTuft_29 (by decide) ?_
  refine k_S (As := [.int v, .int 0, .int 100]) (rest := []) (pre := []) (mid := []) C0 (c_X6_within l E v 0 100 ) (va_cwS 3 hts gX6_setTuft_X6_within rfl rfl rfl (by decide +kernel) ⟨Nat.le_of_ble_eq_true rfl, Nat.le_of_ble_eq_true rfl⟩) hw rfl (fun _ => []) (fun _ => rfl) rfl hl.1 rfl (Nat.le_of_ble_eq_true rfl) dX6_setTuft_31 ⟨Nat.le_of_ble_eq_true rfl, Nat.le_of_ble_eq_true rfl⟩ (fun r u H locs hq99 hw => ?_)
  subst hq99
  have hw : kW E AA sx (List.flatten [oc d0 6 [.ref (a 0), .ref q1, .ref (e 0), .ref q2, .ref (m 0), .ref q, .ref (t 0)], oc (a 0) 1 [.int (nI h), .int (nI w), .int wd, .int s0, .int z, .ref (a 1), .ref (a 2), .ref (a 3), .ref (a 4), .ref (a 5), .ref (a 6), .ref (a 7), .ref (a 8)], rc E (a 1) (a 9) 4 st, rc E (a 2) (a 10) 192 he, rc E (a 3) (a 11) 192 ke, rc E (a 4) (a 12) 192 tu, rc E (a 5) (a 13) 192 ca, rc E (a 6) (a 14) 192 tr, rc E (a 7) (a 15) 12 co, rc E (a 8) (a 16) 4 la, hw4 E q n b (nI o) (nI k9) G]) H locs := hw
  refine W.eq (g2 := F0 mm 34 ls [.int (if ¬ v < 0 ∧ ¬ 100 < v then 1 else 0)]) rfl ?_
  refine lv_if_ne (tgt := 47) hx hb dX6_setTuft_34 (by decide) (fun c34 => absurd c34 (fun h99 => h99 (if_neg hv))) (fun c34 => ?_)
  have c34 := kb10t c34
  exact k_throw (X := "java/lang/IllegalArgumentException") (text := "tuft is out of range") C0 hw rfl hZ hfl hxt hlk (by decide) (by decide) (hts (.classLink RX6 56 "java/lang/IllegalArgumentException") (by decide +kernel)) (hts (.initialized "java/lang/IllegalArgumentException") (by decide +kernel)) (by decide +kernel) (by decide +kernel) (by decide +kernel) (by decide +kernel) hl.1 dX6_setTuft_37 dX6_setTuft_40 dX6_setTuft_41 dX6_setTuft_43 dX6_setTuft_46 (Nat.le_of_ble_eq_true rfl) (Nat.le_of_ble_eq_true rfl) (Nat.le_of_ble_eq_true rfl) (Nat.le_of_ble_eq_true rfl) (rfl) (Nat.le_of_ble_eq_true rfl) (Nat.le_of_ble_eq_true rfl)

set_option maxHeartbeats 4000000 in
set_option maxRecDepth 100000 in
theorem c_X6_setTuft_x1F (l : Launch) (hfl : l.stackTraces = false) (E : kE) (d0 : Nat) (q1 : Nat) (q2 : Nat) (a : Nat → Nat) (e : Nat → Nat) (m : Nat → Nat) (t : Nat → Nat) (q : Nat) (n : Nat) (b : Nat → Nat → Nat) (G : Nat → cT) (o : Nat) (k9 : Nat) (h : Nat) (w : Nat) (wd : Int32) (s0 : Int32) (z : Int32) (st : Nat → Int32) (he : Nat → Int32) (ke : Nat → Int32) (tu : Nat → Int32) (ca : Nat → Int32) (tr : Nat → Int32) (co : Nat → Int32) (la : Nat → Int32) (x : Int32) (v : Int32) (hG : kG h w) (hv : ¬ (¬ x < 0 ∧ ¬ nI (h * w - 1) < x)) : kX E l yX6_setTuft wsX6_setTuft rmX6_setTuft [.ref d0, .int x, .int v] (List.flatten [oc d0 6 [.ref (a 0), .ref q1, .ref (e 0), .ref q2, .ref (m 0), .ref q, .ref (t 0)], fc E a (nI h) (nI w) wd s0 z st he ke tu ca tr co la, hw4 E q n b (nI o) (nI k9) G]) kI (fun (_ : Int32) (_ : Unit) => False) (fun _ => List.flatten [oc d0 6 [.ref (a 0), .ref q1, .ref (e 0), .ref q2, .ref (m 0), .ref q, .ref (t 0)], fc E a (nI h) (nI w) wd s0 z st he ke tu ca tr co la, hw4 E q n b (nI o) (nI k9) G]) (fun X => X = "java/lang/IndexOutOfBoundsException") 1 6 := by
  refine kX_body (cc := cX6_setTuft) (maxL := 4) (ret := (some .int)) (by decide) rfl (Nat.le_of_ble_eq_true rfl) ?_
  intro pp ee sx mm aa bb me cd H locs AA ls C0 hr hlk hxt hZ hl hw
  obtain ⟨hx, hb, hml, hown, hts⟩ := id C0
  have hl : lv_has ls 4 [(0, .ref d0), (1, .int x), (2, .int v)] := hl
  have hw : kW E AA sx (List.flatten [oc d0 6 [.ref (a 0), .ref q1, .ref (e 0), .ref q2, .ref (m 0), .ref q, .ref (t 0)], oc (a 0) 1 [.int (nI h), .int (nI w), .int wd, .int s0, .int z, .ref (a 1), .ref (a 2), .ref (a 3), .ref (a 4), .ref (a 5), .ref (a 6), .ref (a 7), .ref (a 8)], rc E (a 1) (a 9) 4 st, rc E (a 2) (a 10) 192 he, rc E (a 3) (a 11) 192 ke, rc E (a 4) (a 12) 192 tu, rc E (a 5) (a 13) 192 ca, rc E (a 6) (a 14) 192 tr, rc E (a 7) (a 15) 12 co, rc E (a 8) (a 16) 4 la, hw4 E q n b (nI o) (nI k9) G]) H locs := hw
  have hn9 := kG_n hG
  have hG9 := id hG
  obtain ⟨hG1, hG2, hG3, hG4⟩ := hG9
  have hinX6 : ∀ w ∈ u_ws RX6 TX6 7, w ∈ wsX6_setTuft := by decide +kernel
  refine lv_iload_n hx hb dX6_setTuft_0 rfl (lv_at hl 1 rfl) ?_
  refine lv_iconst (v := 0) hx hb dX6_setTuft_1 (by decide) ?_
  refine lv_aload_n hx hb dX6_setTuft_2 rfl (lv_at hl 0 rfl) ?_
  refine k_get (pre := []) C0 hw hinX6 rfl 0 (by decide) (hts (.fieldLink RX6 10 "SlabDunes" "field" "LSlabDunes$Field;") (by decide +kernel)) rfl rfl dX6_setTuft_3 ?_
  refine k_V (As := []) (rest := [.int 0, .int x]) (pre := [oc d0 6 [.ref (a 0), .ref q1, .ref (e 0), .ref q2, .ref (m 0), .ref q, .ref (t 0)]]) (mid := [oc (a 0) 1 [.int (nI h), .int (nI w), .int wd, .int s0, .int z, .ref (a 1), .ref (a 2), .ref (a 3), .ref (a 4), .ref (a 5), .ref (a 6), .ref (a 7), .ref (a 8)], rc E (a 1) (a 9) 4 st, rc E (a 2) (a 10) 192 he, rc E (a 3) (a 11) 192 ke, rc E (a 4) (a 12) 192 tu, rc E (a 5) (a 13) 192 ca, rc E (a 6) (a 14) 192 tr, rc E (a 7) (a 15) 12 co, rc E (a 8) (a 16) 4 la]) C0 (c_X1_cells l E a h w wd s0 z st he ke tu ca tr co la (by first | assumption | omega)) (cwV 0 hts gX6_setTuft_X1_cells rfl rfl rfl (by decide +kernel) ⟨Nat.le_of_ble_eq_true rfl, Nat.le_of_ble_eq_true rfl⟩) hw rfl (fun _ => [oc (a 0) 1 [.int (nI h), .int (nI w), .int wd, .int s0, .int z, .ref (a 1), .ref (a 2), .ref (a 3), .ref (a 4), .ref (a 5), .ref (a 6), .ref (a 7), .ref (a 8)], rc E (a 1) (a 9) 4 st, rc E (a 2) (a 10) 192 he, rc E (a 3) (a 11) 192 ke, rc E (a 4) (a 12) 192 tu, rc E (a 5) (a 13) 192 ca, rc E (a 6) (a 14) 192 tr, rc E (a 7) (a 15) 12 co, rc E (a 8) (a 16) 4 la]) (fun _ => rfl) 0 1 rfl rfl rfl rfl hl.1 rfl (Nat.le_of_ble_eq_true rfl) dX6_setTuft_6 ⟨Nat.le_of_ble_eq_true rfl, Nat.le_of_ble_eq_true rfl⟩ (fun r u H locs hq99 hw => ?_)
  subst hq99
  have hw : kW E AA sx (List.flatten [oc d0 6 [.ref (a 0), .ref q1, .ref (e 0), .ref q2, .ref (m 0), .ref q, .ref (t 0)], oc (a 0) 1 [.int (nI h), .int (nI w), .int wd, .int s0, .int z, .ref (a 1), .ref (a 2), .ref (a 3), .ref (a 4), .ref (a 5), .ref (a 6), .ref (a 7), .ref (a 8)], rc E (a 1) (a 9) 4 st, rc E (a 2) (a 10) 192 he, rc E (a 3) (a 11) 192 ke, rc E (a 4) (a 12) 192 tu, rc E (a 5) (a 13) 192 ca, rc E (a 6) (a 14) 192 tr, rc E (a 7) (a 15) 12 co, rc E (a 8) (a 16) 4 la, hw4 E q n b (nI o) (nI k9) G]) H locs := hw
  refine W.eq (g2 := F0 mm 9 ls [.int (nI (h * w)), .int 0, .int x]) rfl ?_
  refine lv_iconst (v := 1) hx hb dX6_setTuft_9 (by decide) ?_
  refine lv_isub hx hb dX6_setTuft_10 ?_
  refine W.eq (g2 := F0 mm 11 ls [.int (nI (h * w - 1)), .int 0, .int x]) (congrArg (fun z9 => F0 mm 11 ls [.int z9, .int 0, .int x]) (show ((nI (h * w)) - 1 : Int32) = nI (h * w - 1) from pk_sub (b := 1) (by omega))) ?_
  refine k_S (As := [.int x, .int 0, .int (nI (h * w - 1))]) (rest := []) (pre := []) (mid := []) C0 (c_X6_within l E x 0 (nI (h * w - 1)) ) (va_cwS 3 hts gX6_setTuft_X6_within rfl rfl rfl (by decide +kernel) ⟨Nat.le_of_ble_eq_true rfl, Nat.le_of_ble_eq_true rfl⟩) hw rfl (fun _ => []) (fun _ => rfl) rfl hl.1 rfl (Nat.le_of_ble_eq_true rfl) dX6_setTuft_11 ⟨Nat.le_of_ble_eq_true rfl, Nat.le_of_ble_eq_true rfl⟩ (fun r u H locs hq99 hw => ?_)
  subst hq99
  have hw : kW E AA sx (List.flatten [oc d0 6 [.ref (a 0), .ref q1, .ref (e 0), .ref q2, .ref (m 0), .ref q, .ref (t 0)], oc (a 0) 1 [.int (nI h), .int (nI w), .int wd, .int s0, .int z, .ref (a 1), .ref (a 2), .ref (a 3), .ref (a 4), .ref (a 5), .ref (a 6), .ref (a 7), .ref (a 8)], rc E (a 1) (a 9) 4 st, rc E (a 2) (a 10) 192 he, rc E (a 3) (a 11) 192 ke, rc E (a 4) (a 12) 192 tu, rc E (a 5) (a 13) 192 ca, rc E (a 6) (a 14) 192 tr, rc E (a 7) (a 15) 12 co, rc E (a 8) (a 16) 4 la, hw4 E q n b (nI o) (nI k9) G]) H locs := hw
  refine W.eq (g2 := F0 mm 14 ls [.int (if ¬ x < 0 ∧ ¬ (nI (h * w - 1)) < x then 1 else 0)]) rfl ?_
  refine lv_if_ne (tgt := 27) hx hb dX6_setTuft_14 (by decide) (fun c14 => absurd c14 (fun h99 => h99 (if_neg hv))) (fun c14 => ?_)
  have c14 := kb10t c14
  exact k_throw (X := "java/lang/IndexOutOfBoundsException") (text := "no such cell") C0 hw rfl hZ hfl hxt hlk (by decide) (by decide) (hts (.classLink RX6 79 "java/lang/IndexOutOfBoundsException") (by decide +kernel)) (hts (.initialized "java/lang/IndexOutOfBoundsException") (by decide +kernel)) (by decide +kernel) (by decide +kernel) (by decide +kernel) (by decide +kernel) hl.1 dX6_setTuft_17 dX6_setTuft_20 dX6_setTuft_21 dX6_setTuft_23 dX6_setTuft_26 (Nat.le_of_ble_eq_true rfl) (Nat.le_of_ble_eq_true rfl) (Nat.le_of_ble_eq_true rfl) (Nat.le_of_ble_eq_true rfl) (rfl) (Nat.le_of_ble_eq_true rfl) (Nat.le_of_ble_eq_true rfl)

set_option maxHeartbeats 4000000 in
set_option maxRecDepth 100000 in
theorem c_X6_setWind_x2F (l : Launch) (hfl : l.stackTraces = false) (E : kE) (d0 : Nat) (q1 : Nat) (q2 : Nat) (a : Nat → Nat) (e : Nat → Nat) (m : Nat → Nat) (t : Nat → Nat) (q : Nat) (n : Nat) (b : Nat → Nat → Nat) (G : Nat → cT) (o : Nat) (k9 : Nat) (h : Nat) (w : Nat) (wd : Int32) (s0 : Int32) (z : Int32) (st : Nat → Int32) (he : Nat → Int32) (ke : Nat → Int32) (tu : Nat → Int32) (ca : Nat → Int32) (tr : Nat → Int32) (co : Nat → Int32) (la : Nat → Int32) (d2 : Nat) (v : Int32) (hd2 : d2 < 4) (hv1 : ¬ v = -1) (hv : ¬ (¬ v < 0 ∧ ¬ 999999 < v)) : kX E l yX6_setWind wsX6_setWind rmX6_setWind [.ref d0, .int (nI d2), .int v] (List.flatten [oc d0 6 [.ref (a 0), .ref q1, .ref (e 0), .ref q2, .ref (m 0), .ref q, .ref (t 0)], fc E a (nI h) (nI w) wd s0 z st he ke tu ca tr co la, hw4 E q n b (nI o) (nI k9) G]) kI (fun (_ : Int32) (_ : Unit) => False) (fun _ => List.flatten [oc d0 6 [.ref (a 0), .ref q1, .ref (e 0), .ref q2, .ref (m 0), .ref q, .ref (t 0)], fc E a (nI h) (nI w) wd s0 z st he ke tu ca tr co la, hw4 E q n b (nI o) (nI k9) G]) (fun X => X = "java/lang/IllegalArgumentException") 1 6 := by
  refine kX_body (cc := cX6_setWind) (maxL := 4) (ret := (some .int)) (by decide) rfl (Nat.le_of_ble_eq_true rfl) ?_
  intro pp ee sx mm aa bb me cd H locs AA ls C0 hr hlk hxt hZ hl hw
  obtain ⟨hx, hb, hml, hown, hts⟩ := id C0
  have hl : lv_has ls 4 [(0, .ref d0), (1, .int (nI d2)), (2, .int v)] := hl
  have hw : kW E AA sx (List.flatten [oc d0 6 [.ref (a 0), .ref q1, .ref (e 0), .ref q2, .ref (m 0), .ref q, .ref (t 0)], oc (a 0) 1 [.int (nI h), .int (nI w), .int wd, .int s0, .int z, .ref (a 1), .ref (a 2), .ref (a 3), .ref (a 4), .ref (a 5), .ref (a 6), .ref (a 7), .ref (a 8)], rc E (a 1) (a 9) 4 st, rc E (a 2) (a 10) 192 he, rc E (a 3) (a 11) 192 ke, rc E (a 4) (a 12) 192 tu, rc E (a 5) (a 13) 192 ca, rc E (a 6) (a 14) 192 tr, rc E (a 7) (a 15) 12 co, rc E (a 8) (a 16) 4 la, hw4 E q n b (nI o) (nI k9) G]) H locs := hw
  refine lv_iload_n hx hb dX6_setWind_0 rfl (lv_at hl 1 rfl) ?_
  refine lv_iconst (v := 0) hx hb dX6_setWind_1 (by decide) ?_
  refine lv_iconst (v := 3) hx hb dX6_setWind_2 (by decide) ?_
  refine k_S (As := [.int (nI d2), .int 0, .int 3]) (rest := []) (pre := []) (mid := []) C0 (c_X6_within l E (nI d2) 0 3 ) (va_cwS 3 hts gX6_setWind_X6_within rfl rfl rfl (by decide +kernel) ⟨Nat.le_of_ble_eq_true rfl, Nat.le_of_ble_eq_true rfl⟩) hw rfl (fun _ => []) (fun _ => rfl) rfl hl.1 rfl (Nat.le_of_ble_eq_true rfl) dX6_setWind_3 ⟨Nat.le_of_ble_eq_true rfl, Nat.le_of_ble_eq_true rfl⟩ (fun r u H locs hq99 hw => ?_)
  subst hq99
  have hw : kW E AA sx (List.flatten [oc d0 6 [.ref (a 0), .ref q1, .ref (e 0), .ref q2, .ref (m 0), .ref q, .ref (t 0)], oc (a 0) 1 [.int (nI h), .int (nI w), .int wd, .int s0, .int z, .ref (a 1), .ref (a 2), .ref (a 3), .ref (a 4), .ref (a 5), .ref (a 6), .ref (a 7), .ref (a 8)], rc E (a 1) (a 9) 4 st, rc E (a 2) (a 10) 192 he, rc E (a 3) (a 11) 192 ke, rc E (a 4) (a 12) 192 tu, rc E (a 5) (a 13) 192 ca, rc E (a 6) (a 14) 192 tr, rc E (a 7) (a 15) 12 co, rc E (a 8) (a 16) 4 la, hw4 E q n b (nI o) (nI k9) G]) H locs := hw
  refine W.eq (g2 := F0 mm 6 ls [.int (if ¬ (nI d2) < 0 ∧ ¬ 3 < (nI d2) then 1 else 0)]) rfl ?_
  refine lv_if_ne (tgt := 19) hx hb dX6_setWind_6 (by decide) (fun c6 => ?_) (fun c6 => False.elim ((kb10t c6) ⟨nI_pos (by omega), nI_nlt (a := 3) (b := d2) (by omega) (by omega)⟩))
  have c6 := kb10f c6
  refine lv_iload_n hx hb dX6_setWind_19 rfl (lv_at hl 2 rfl) ?_
  refine lv_iconst (v := (-1)) hx hb dX6_setWind_20 (by decide) ?_
  refine lv_icmp_eq (tgt := 44) hx hb dX6_setWind_21 (by decide) (fun c21 => absurd c21 (hv1)) (fun c21 => ?_)
  refine lv_iload_n hx hb dX6_setWind_24 rfl (lv_at hl 2 rfl) ?_
  refine lv_iconst (v := 0) hx hb dX6_setWind_25 (by decide) ?_
  refine lv_ldc (v := 999999) hx hb hown (hts (.constant RX6 125 999999) (by decide +kernel)) dX6_setWind_26 ?_
  refine k_S (As := [.int v, .int 0, .int 999999]) (rest := []) (pre := []) (mid := []) C0 (c_X6_within l E v 0 999999 ) (va_cwS 3 hts gX6_setWind_X6_within rfl rfl rfl (by decide +kernel) ⟨Nat.le_of_ble_eq_true rfl, Nat.le_of_ble_eq_true rfl⟩) hw rfl (fun _ => []) (fun _ => rfl) rfl hl.1 rfl (Nat.le_of_ble_eq_true rfl) dX6_setWind_28 ⟨Nat.le_of_ble_eq_true rfl, Nat.le_of_ble_eq_true rfl⟩ (fun r u H locs hq99 hw => ?_)
  subst hq99
  have hw : kW E AA sx (List.flatten [oc d0 6 [.ref (a 0), .ref q1, .ref (e 0), .ref q2, .ref (m 0), .ref q, .ref (t 0)], oc (a 0) 1 [.int (nI h), .int (nI w), .int wd, .int s0, .int z, .ref (a 1), .ref (a 2), .ref (a 3), .ref (a 4), .ref (a 5), .ref (a 6), .ref (a 7), .ref (a 8)], rc E (a 1) (a 9) 4 st, rc E (a 2) (a 10) 192 he, rc E (a 3) (a 11) 192 ke, rc E (a 4) (a 12) 192 tu, rc E (a 5) (a 13) 192 ca, rc E (a 6) (a 14) 192 tr, rc E (a 7) (a 15) 12 co, rc E (a 8) (a 16) 4 la, hw4 E q n b (nI o) (nI k9) G]) H locs := hw
  refine W.eq (g2 := F0 mm 31 ls [.int (if ¬ v < 0 ∧ ¬ 999999 < v then 1 else 0)]) rfl ?_
  refine lv_if_ne (tgt := 44) hx hb dX6_setWind_31 (by decide) (fun c31 => absurd c31 (fun h99 => h99 (if_neg hv))) (fun c31 => ?_)
  have c31 := kb10t c31
  exact k_throw (X := "java/lang/IllegalArgumentException") (text := "s is out of range") C0 hw rfl hZ hfl hxt hlk (by decide) (by decide) (hts (.classLink RX6 56 "java/lang/IllegalArgumentException") (by decide +kernel)) (hts (.initialized "java/lang/IllegalArgumentException") (by decide +kernel)) (by decide +kernel) (by decide +kernel) (by decide +kernel) (by decide +kernel) hl.1 dX6_setWind_34 dX6_setWind_37 dX6_setWind_38 dX6_setWind_40 dX6_setWind_43 (Nat.le_of_ble_eq_true rfl) (Nat.le_of_ble_eq_true rfl) (Nat.le_of_ble_eq_true rfl) (Nat.le_of_ble_eq_true rfl) (rfl) (Nat.le_of_ble_eq_true rfl) (Nat.le_of_ble_eq_true rfl)

set_option maxHeartbeats 4000000 in
set_option maxRecDepth 100000 in
theorem c_X6_setWind_x1F (l : Launch) (hfl : l.stackTraces = false) (E : kE) (d0 : Nat) (q1 : Nat) (q2 : Nat) (a : Nat → Nat) (e : Nat → Nat) (m : Nat → Nat) (t : Nat → Nat) (q : Nat) (n : Nat) (b : Nat → Nat → Nat) (G : Nat → cT) (o : Nat) (k9 : Nat) (h : Nat) (w : Nat) (wd : Int32) (s0 : Int32) (z : Int32) (st : Nat → Int32) (he : Nat → Int32) (ke : Nat → Int32) (tu : Nat → Int32) (ca : Nat → Int32) (tr : Nat → Int32) (co : Nat → Int32) (la : Nat → Int32) (x : Int32) (v : Int32) (hv : ¬ (¬ x < 0 ∧ ¬ 3 < x)) : kX E l yX6_setWind wsX6_setWind rmX6_setWind [.ref d0, .int x, .int v] (List.flatten [oc d0 6 [.ref (a 0), .ref q1, .ref (e 0), .ref q2, .ref (m 0), .ref q, .ref (t 0)], fc E a (nI h) (nI w) wd s0 z st he ke tu ca tr co la, hw4 E q n b (nI o) (nI k9) G]) kI (fun (_ : Int32) (_ : Unit) => False) (fun _ => List.flatten [oc d0 6 [.ref (a 0), .ref q1, .ref (e 0), .ref q2, .ref (m 0), .ref q, .ref (t 0)], fc E a (nI h) (nI w) wd s0 z st he ke tu ca tr co la, hw4 E q n b (nI o) (nI k9) G]) (fun X => X = "java/lang/IllegalArgumentException") 1 6 := by
  refine kX_body (cc := cX6_setWind) (maxL := 4) (ret := (some .int)) (by decide) rfl (Nat.le_of_ble_eq_true rfl) ?_
  intro pp ee sx mm aa bb me cd H locs AA ls C0 hr hlk hxt hZ hl hw
  obtain ⟨hx, hb, hml, hown, hts⟩ := id C0
  have hl : lv_has ls 4 [(0, .ref d0), (1, .int x), (2, .int v)] := hl
  have hw : kW E AA sx (List.flatten [oc d0 6 [.ref (a 0), .ref q1, .ref (e 0), .ref q2, .ref (m 0), .ref q, .ref (t 0)], oc (a 0) 1 [.int (nI h), .int (nI w), .int wd, .int s0, .int z, .ref (a 1), .ref (a 2), .ref (a 3), .ref (a 4), .ref (a 5), .ref (a 6), .ref (a 7), .ref (a 8)], rc E (a 1) (a 9) 4 st, rc E (a 2) (a 10) 192 he, rc E (a 3) (a 11) 192 ke, rc E (a 4) (a 12) 192 tu, rc E (a 5) (a 13) 192 ca, rc E (a 6) (a 14) 192 tr, rc E (a 7) (a 15) 12 co, rc E (a 8) (a 16) 4 la, hw4 E q n b (nI o) (nI k9) G]) H locs := hw
  refine lv_iload_n hx hb dX6_setWind_0 rfl (lv_at hl 1 rfl) ?_
  refine lv_iconst (v := 0) hx hb dX6_setWind_1 (by decide) ?_
  refine lv_iconst (v := 3) hx hb dX6_setWind_2 (by decide) ?_
  refine k_S (As := [.int x, .int 0, .int 3]) (rest := []) (pre := []) (mid := []) C0 (c_X6_within l E x 0 3 ) (va_cwS 3 hts gX6_setWind_X6_within rfl rfl rfl (by decide +kernel) ⟨Nat.le_of_ble_eq_true rfl, Nat.le_of_ble_eq_true rfl⟩) hw rfl (fun _ => []) (fun _ => rfl) rfl hl.1 rfl (Nat.le_of_ble_eq_true rfl) dX6_setWind_3 ⟨Nat.le_of_ble_eq_true rfl, Nat.le_of_ble_eq_true rfl⟩ (fun r u H locs hq99 hw => ?_)
  subst hq99
  have hw : kW E AA sx (List.flatten [oc d0 6 [.ref (a 0), .ref q1, .ref (e 0), .ref q2, .ref (m 0), .ref q, .ref (t 0)], oc (a 0) 1 [.int (nI h), .int (nI w), .int wd, .int s0, .int z, .ref (a 1), .ref (a 2), .ref (a 3), .ref (a 4), .ref (a 5), .ref (a 6), .ref (a 7), .ref (a 8)], rc E (a 1) (a 9) 4 st, rc E (a 2) (a 10) 192 he, rc E (a 3) (a 11) 192 ke, rc E (a 4) (a 12) 192 tu, rc E (a 5) (a 13) 192 ca, rc E (a 6) (a 14) 192 tr, rc E (a 7) (a 15) 12 co, rc E (a 8) (a 16) 4 la, hw4 E q n b (nI o) (nI k9) G]) H locs := hw
  refine W.eq (g2 := F0 mm 6 ls [.int (if ¬ x < 0 ∧ ¬ 3 < x then 1 else 0)]) rfl ?_
  refine lv_if_ne (tgt := 19) hx hb dX6_setWind_6 (by decide) (fun c6 => absurd c6 (fun h99 => h99 (if_neg hv))) (fun c6 => ?_)
  have c6 := kb10t c6
  exact k_throw (X := "java/lang/IllegalArgumentException") (text := "direction is out of range") C0 hw rfl hZ hfl hxt hlk (by decide) (by decide) (hts (.classLink RX6 56 "java/lang/IllegalArgumentException") (by decide +kernel)) (hts (.initialized "java/lang/IllegalArgumentException") (by decide +kernel)) (by decide +kernel) (by decide +kernel) (by decide +kernel) (by decide +kernel) hl.1 dX6_setWind_9 dX6_setWind_12 dX6_setWind_13 dX6_setWind_15 dX6_setWind_18 (Nat.le_of_ble_eq_true rfl) (Nat.le_of_ble_eq_true rfl) (Nat.le_of_ble_eq_true rfl) (Nat.le_of_ble_eq_true rfl) (rfl) (Nat.le_of_ble_eq_true rfl) (Nat.le_of_ble_eq_true rfl)

set_option maxHeartbeats 4000000 in
set_option maxRecDepth 100000 in
theorem c_X6_undo_x1F (l : Launch) (hfl : l.stackTraces = false) (E : kE) (d0 : Nat) (q1 : Nat) (q2 : Nat) (a : Nat → Nat) (e : Nat → Nat) (m : Nat → Nat) (t : Nat → Nat) (q : Nat) (n : Nat) (b : Nat → Nat → Nat) (G : Nat → cT) (o : Nat) (h : Nat) (w : Nat) (wd : Int32) (s0 : Int32) (z : Int32) (st : Nat → Int32) (he : Nat → Int32) (ke : Nat → Int32) (tu : Nat → Int32) (ca : Nat → Int32) (tr : Nat → Int32) (co : Nat → Int32) (la : Nat → Int32)  : kX E l yX6_undo wsX6_undo rmX6_undo [.ref d0] (List.flatten [oc d0 6 [.ref (a 0), .ref q1, .ref (e 0), .ref q2, .ref (m 0), .ref q, .ref (t 0)], fc E a (nI h) (nI w) wd s0 z st he ke tu ca tr co la, hw4 E q n b (nI o) (nI 0) G]) kI (fun (_ : Int32) (_ : Unit) => False) (fun _ => List.flatten [oc d0 6 [.ref (a 0), .ref q1, .ref (e 0), .ref q2, .ref (m 0), .ref q, .ref (t 0)], fc E a (nI h) (nI w) wd s0 z st he ke tu ca tr co la, hw4 E q n b (nI o) (nI 0) G]) (fun X => X = "java/lang/IllegalStateException") 1 6 := by
  refine kX_body (cc := cX6_undo) (maxL := 1) (ret := (some .int)) (by decide) rfl (Nat.le_of_ble_eq_true rfl) ?_
  intro pp ee sx mm aa bb me cd H locs AA ls C0 hr hlk hxt hZ hl hw
  obtain ⟨hx, hb, hml, hown, hts⟩ := id C0
  have hl : lv_has ls 1 [(0, .ref d0)] := hl
  have hw : kW E AA sx (List.flatten [oc d0 6 [.ref (a 0), .ref q1, .ref (e 0), .ref q2, .ref (m 0), .ref q, .ref (t 0)], oc (a 0) 1 [.int (nI h), .int (nI w), .int wd, .int s0, .int z, .ref (a 1), .ref (a 2), .ref (a 3), .ref (a 4), .ref (a 5), .ref (a 6), .ref (a 7), .ref (a 8)], rc E (a 1) (a 9) 4 st, rc E (a 2) (a 10) 192 he, rc E (a 3) (a 11) 192 ke, rc E (a 4) (a 12) 192 tu, rc E (a 5) (a 13) 192 ca, rc E (a 6) (a 14) 192 tr, rc E (a 7) (a 15) 12 co, rc E (a 8) (a 16) 4 la, hw4 E q n b (nI o) (nI 0) G]) H locs := hw
  have hinX3 : ∀ w ∈ u_ws RX3 TX3 3, w ∈ wsX6_undo := by decide +kernel
  have hinX6 : ∀ w ∈ u_ws RX6 TX6 7, w ∈ wsX6_undo := by decide +kernel
  refine lv_aload_n hx hb dX6_undo_0 rfl (lv_at hl 0 rfl) ?_
  refine k_get (pre := []) C0 hw hinX6 rfl 5 (by decide) (hts (.fieldLink RX6 41 "SlabDunes" "history" "LSlabDunes$History;") (by decide +kernel)) rfl rfl dX6_undo_1 ?_
  refine k_getN (host := RX6) (pre := [oc d0 6 [.ref (a 0), .ref q1, .ref (e 0), .ref q2, .ref (m 0), .ref q, .ref (t 0)], oc (a 0) 1 [.int (nI h), .int (nI w), .int wd, .int s0, .int z, .ref (a 1), .ref (a 2), .ref (a 3), .ref (a 4), .ref (a 5), .ref (a 6), .ref (a 7), .ref (a 8)], rc E (a 1) (a 9) 4 st, rc E (a 2) (a 10) 192 he, rc E (a 3) (a 11) 192 ke, rc E (a 4) (a 12) 192 tu, rc E (a 5) (a 13) 192 ca, rc E (a 6) (a 14) 192 tr, rc E (a 7) (a 15) 12 co, rc E (a 8) (a 16) 4 la]) C0 hw hinX3 rfl 2 (by decide) (kN.get hw.2.2.1.2 (by decide +kernel)) rfl rfl dX6_undo_4 ?_
  refine lv_if_gt (tgt := 20) hx hb dX6_undo_7 (by decide) (fun c7 => absurd c7 (nI_nlt (a := 0) (b := 0) (by omega) (by omega))) (fun c7 => ?_)
  have c7 : ¬ 0 < 0 := fun h99 => c7 ((nI_ltI (a := 0) (b := 0) (by omega) (by omega)).mpr h99)
  exact k_throw (X := "java/lang/IllegalStateException") (text := "no saved state") C0 hw rfl hZ hfl hxt hlk (by decide) (by decide) (hts (.classLink RX6 209 "java/lang/IllegalStateException") (by decide +kernel)) (hts (.initialized "java/lang/IllegalStateException") (by decide +kernel)) (by decide +kernel) (by decide +kernel) (by decide +kernel) (by decide +kernel) hl.1 dX6_undo_10 dX6_undo_13 dX6_undo_14 dX6_undo_16 dX6_undo_19 (Nat.le_of_ble_eq_true rfl) (Nat.le_of_ble_eq_true rfl) (Nat.le_of_ble_eq_true rfl) (Nat.le_of_ble_eq_true rfl) (rfl) (Nat.le_of_ble_eq_true rfl) (Nat.le_of_ble_eq_true rfl)

set_option maxHeartbeats 4000000 in
set_option maxRecDepth 100000 in
theorem c_X6_value_x1F (l : Launch) (hfl : l.stackTraces = false) (E : kE) (d0 : Nat) (q1 : Nat) (q2 : Nat) (a : Nat → Nat) (e : Nat → Nat) (m : Nat → Nat) (t : Nat → Nat) (q : Nat) (h : Nat) (w : Nat) (wd : Int32) (s0 : Int32) (z : Int32) (st : Nat → Int32) (he : Nat → Int32) (ke : Nat → Int32) (tu : Nat → Int32) (ca : Nat → Int32) (tr : Nat → Int32) (co : Nat → Int32) (la : Nat → Int32) (x : Int32) (hv : ¬ (¬ x < 0 ∧ ¬ 8 < x)) : kX E l yX6_value wsX6_value rmX6_value [.ref d0, .int x] (List.flatten [oc d0 6 [.ref (a 0), .ref q1, .ref (e 0), .ref q2, .ref (m 0), .ref q, .ref (t 0)], fc E a (nI h) (nI w) wd s0 z st he ke tu ca tr co la]) kI (fun (_ : Int32) (_ : Unit) => False) (fun _ => List.flatten [oc d0 6 [.ref (a 0), .ref q1, .ref (e 0), .ref q2, .ref (m 0), .ref q, .ref (t 0)], fc E a (nI h) (nI w) wd s0 z st he ke tu ca tr co la]) (fun X => X = "java/lang/IllegalArgumentException") 1 6 := by
  refine kX_body (cc := cX6_value) (maxL := 2) (ret := (some .int)) (by decide) rfl (Nat.le_of_ble_eq_true rfl) ?_
  intro pp ee sx mm aa bb me cd H locs AA ls C0 hr hlk hxt hZ hl hw
  obtain ⟨hx, hb, hml, hown, hts⟩ := id C0
  have hl : lv_has ls 2 [(0, .ref d0), (1, .int x)] := hl
  have hw : kW E AA sx (List.flatten [oc d0 6 [.ref (a 0), .ref q1, .ref (e 0), .ref q2, .ref (m 0), .ref q, .ref (t 0)], oc (a 0) 1 [.int (nI h), .int (nI w), .int wd, .int s0, .int z, .ref (a 1), .ref (a 2), .ref (a 3), .ref (a 4), .ref (a 5), .ref (a 6), .ref (a 7), .ref (a 8)], rc E (a 1) (a 9) 4 st, rc E (a 2) (a 10) 192 he, rc E (a 3) (a 11) 192 ke, rc E (a 4) (a 12) 192 tu, rc E (a 5) (a 13) 192 ca, rc E (a 6) (a 14) 192 tr, rc E (a 7) (a 15) 12 co, rc E (a 8) (a 16) 4 la]) H locs := hw
  refine lv_iload_n hx hb dX6_value_0 rfl (lv_at hl 1 rfl) ?_
  refine lv_iconst (v := 0) hx hb dX6_value_1 (by decide) ?_
  refine lv_bipush (v := 8) hx hb dX6_value_2 (by decide) ?_
  refine k_S (As := [.int x, .int 0, .int 8]) (rest := []) (pre := []) (mid := []) C0 (c_X6_within l E x 0 8 ) (va_cwS 3 hts gX6_value_X6_within rfl rfl rfl (by decide +kernel) ⟨Nat.le_of_ble_eq_true rfl, Nat.le_of_ble_eq_true rfl⟩) hw rfl (fun _ => []) (fun _ => rfl) rfl hl.1 rfl (Nat.le_of_ble_eq_true rfl) dX6_value_4 ⟨Nat.le_of_ble_eq_true rfl, Nat.le_of_ble_eq_true rfl⟩ (fun r u H locs hq99 hw => ?_)
  subst hq99
  have hw : kW E AA sx (List.flatten [oc d0 6 [.ref (a 0), .ref q1, .ref (e 0), .ref q2, .ref (m 0), .ref q, .ref (t 0)], oc (a 0) 1 [.int (nI h), .int (nI w), .int wd, .int s0, .int z, .ref (a 1), .ref (a 2), .ref (a 3), .ref (a 4), .ref (a 5), .ref (a 6), .ref (a 7), .ref (a 8)], rc E (a 1) (a 9) 4 st, rc E (a 2) (a 10) 192 he, rc E (a 3) (a 11) 192 ke, rc E (a 4) (a 12) 192 tu, rc E (a 5) (a 13) 192 ca, rc E (a 6) (a 14) 192 tr, rc E (a 7) (a 15) 12 co, rc E (a 8) (a 16) 4 la]) H locs := hw
  refine W.eq (g2 := F0 mm 7 ls [.int (if ¬ x < 0 ∧ ¬ 8 < x then 1 else 0)]) rfl ?_
  refine lv_if_ne (tgt := 20) hx hb dX6_value_7 (by decide) (fun c7 => absurd c7 (fun h99 => h99 (if_neg hv))) (fun c7 => ?_)
  have c7 := kb10t c7
  exact k_throw (X := "java/lang/IllegalArgumentException") (text := "what is out of range") C0 hw rfl hZ hfl hxt hlk (by decide) (by decide) (hts (.classLink RX6 56 "java/lang/IllegalArgumentException") (by decide +kernel)) (hts (.initialized "java/lang/IllegalArgumentException") (by decide +kernel)) (by decide +kernel) (by decide +kernel) (by decide +kernel) (by decide +kernel) hl.1 dX6_value_10 dX6_value_13 dX6_value_14 dX6_value_16 dX6_value_19 (Nat.le_of_ble_eq_true rfl) (Nat.le_of_ble_eq_true rfl) (Nat.le_of_ble_eq_true rfl) (Nat.le_of_ble_eq_true rfl) (rfl) (Nat.le_of_ble_eq_true rfl) (Nat.le_of_ble_eq_true rfl)
