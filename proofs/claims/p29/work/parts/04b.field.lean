abbrev rmX1_cells : Room := { frames := 0, cells := 0, slots := 0, locals := 0 }
set_option maxHeartbeats 4000000 in
set_option maxRecDepth 100000 in
theorem c_X1_cells (l : Launch) (E : kE) (a : Nat → Nat) (h : Nat) (w : Nat) (wd : Int32) (s0 : Int32) (z : Int32) (st : Nat → Int32) (he : Nat → Int32) (ke : Nat → Int32) (tu : Nat → Int32) (ca : Nat → Int32) (tr : Nat → Int32) (co : Nat → Int32) (la : Nat → Int32) (hG : kG h w) : kC E l yX1_cells wsX1_cells rmX1_cells [.ref (a 0)] (fc E a (nI h) (nI w) wd s0 z st he ke tu ca tr co la) kI (fun (r : Int32) (_ : Unit) => r = nI (h * w)) (fun _ => fc E a (nI h) (nI w) wd s0 z st he ke tu ca tr co la) 0 0 := by
  refine k_body (cc := cX1_cells) (maxL := 1) (ret := (some .int)) (by decide) rfl (Nat.le_of_ble_eq_true rfl) ?_
  intro pp ee sx mm aa bb me cd H locs AA ls C0 hr hlk hnm hl hw
  obtain ⟨hx, hb, hml, hown, hts⟩ := id C0
  have hl : lv_has ls 1 [(0, .ref (a 0))] := hl
  have hw : kW E AA sx (List.flatten [oc (a 0) 1 [.int (nI h), .int (nI w), .int wd, .int s0, .int z, .ref (a 1), .ref (a 2), .ref (a 3), .ref (a 4), .ref (a 5), .ref (a 6), .ref (a 7), .ref (a 8)], rc E (a 1) (a 9) 4 st, rc E (a 2) (a 10) 192 he, rc E (a 3) (a 11) 192 ke, rc E (a 4) (a 12) 192 tu, rc E (a 5) (a 13) 192 ca, rc E (a 6) (a 14) 192 tr, rc E (a 7) (a 15) 12 co, rc E (a 8) (a 16) 4 la]) H locs := hw
  have hn9 := kG_n hG
  have hG9 := id hG
  obtain ⟨hG1, hG2, hG3, hG4⟩ := hG9
  have hinX1 : ∀ w ∈ u_ws RX1 TX1 13, w ∈ wsX1_cells := by decide +kernel
  refine lv_aload_n hx hb dX1_cells_0 rfl (lv_at hl 0 rfl) ?_
  refine k_get (pre := []) C0 hw hinX1 rfl 0 (by decide) (hts (.fieldLink RX1 59 "SlabDunes$Field" "rows" "I") (by decide +kernel)) rfl rfl dX1_cells_1 ?_
  refine lv_aload_n hx hb dX1_cells_4 rfl (lv_at hl 0 rfl) ?_
  refine k_get (pre := []) C0 hw hinX1 rfl 1 (by decide) (hts (.fieldLink RX1 62 "SlabDunes$Field" "columns" "I") (by decide +kernel)) rfl rfl dX1_cells_5 ?_
  refine lv_imul hx hb dX1_cells_8 ?_
  refine W.eq (g2 := F0 mm 9 ls [.int (nI (h * w))]) (congrArg (fun z9 => F0 mm 9 ls [.int z9]) (show ((nI h) * (nI w) : Int32) = nI (h * w) from pk_mul _ _)) ?_
  -- leaf 0
  exact k_iret C0 hr hlk hw () (rfl) (rfl) (Nat.le_of_ble_eq_true rfl) (Nat.le_of_ble_eq_true rfl) dX1_cells_9

abbrev rmX1_growth : Room := { frames := 1, cells := 0, slots := 0, locals := 21 }
set_option maxHeartbeats 4000000 in
set_option maxRecDepth 100000 in
theorem c_X1_growth (l : Launch) (E : kE) (a : Nat → Nat) (h : Nat) (w : Nat) (wd : Int32) (s0 : Int32) (z : Int32) (st : Nat → Int32) (he : Nat → Int32) (ke : Nat → Int32) (tu : Nat → Int32) (ca : Nat → Int32) (tr : Nat → Int32) (co : Nat → Int32) (la : Nat → Int32) (k : Nat) (hG : kG h w) (hc : k < h * w) : kC E l yX1_growth wsX1_growth rmX1_growth [.ref (a 0), .int (nI k)] (fc E a (nI h) (nI w) wd s0 z st he ke tu ca tr co la) kI (fun (r : Int32) (_ : Unit) => r = he k - ke k) (fun _ => fc E a (nI h) (nI w) wd s0 z st he ke tu ca tr co la) 0 0 := by
  refine k_body (cc := cX1_growth) (maxL := 2) (ret := (some .int)) (by decide) rfl (Nat.le_of_ble_eq_true rfl) ?_
  intro pp ee sx mm aa bb me cd H locs AA ls C0 hr hlk hnm hl hw
  obtain ⟨hx, hb, hml, hown, hts⟩ := id C0
  have hl : lv_has ls 2 [(0, .ref (a 0)), (1, .int (nI k))] := hl
  have hw : kW E AA sx (List.flatten [oc (a 0) 1 [.int (nI h), .int (nI w), .int wd, .int s0, .int z, .ref (a 1), .ref (a 2), .ref (a 3), .ref (a 4), .ref (a 5), .ref (a 6), .ref (a 7), .ref (a 8)], rc E (a 1) (a 9) 4 st, rc E (a 2) (a 10) 192 he, rc E (a 3) (a 11) 192 ke, rc E (a 4) (a 12) 192 tu, rc E (a 5) (a 13) 192 ca, rc E (a 6) (a 14) 192 tr, rc E (a 7) (a 15) 12 co, rc E (a 8) (a 16) 4 la]) H locs := hw
  have hn9 := kG_n hG
  have hG9 := id hG
  obtain ⟨hG1, hG2, hG3, hG4⟩ := hG9
  have hinX1 : ∀ w ∈ u_ws RX1 TX1 13, w ∈ wsX1_growth := by decide +kernel
  refine lv_aload_n hx hb dX1_growth_0 rfl (lv_at hl 0 rfl) ?_
  refine k_get (pre := []) C0 hw hinX1 rfl 6 (by decide) (hts (.fieldLink RX1 20 "SlabDunes$Field" "heights" "LSlabDunes$Row;") (by decide +kernel)) rfl rfl dX1_growth_1 ?_
  refine lv_iload_n hx hb dX1_growth_4 rfl (lv_at hl 1 rfl) ?_
  refine k_V (As := [.int (nI k)]) (rest := []) (pre := [oc (a 0) 1 [.int (nI h), .int (nI w), .int wd, .int s0, .int z, .ref (a 1), .ref (a 2), .ref (a 3), .ref (a 4), .ref (a 5), .ref (a 6), .ref (a 7), .ref (a 8)], rc E (a 1) (a 9) 4 st]) (mid := [rc E (a 2) (a 10) 192 he]) C0 (c_X4_atN l E (a 2) (a 10) 192 he k (by first | assumption | omega) (by first | assumption | omega)) (cwV 1 hts gX1_growth_X4_at rfl rfl rfl (by decide +kernel) ⟨Nat.le_of_ble_eq_true rfl, Nat.le_of_ble_eq_true rfl⟩) hw rfl (fun _ => [rc E (a 2) (a 10) 192 he]) (fun _ => rfl) 0 4 rfl rfl rfl rfl hl.1 rfl (Nat.le_of_ble_eq_true rfl) dX1_growth_5 ⟨Nat.le_of_ble_eq_true rfl, Nat.le_of_ble_eq_true rfl⟩ (fun r u H locs hq99 hw => ?_)
  subst hq99
  have hw : kW E AA sx (List.flatten [oc (a 0) 1 [.int (nI h), .int (nI w), .int wd, .int s0, .int z, .ref (a 1), .ref (a 2), .ref (a 3), .ref (a 4), .ref (a 5), .ref (a 6), .ref (a 7), .ref (a 8)], rc E (a 1) (a 9) 4 st, rc E (a 2) (a 10) 192 he, rc E (a 3) (a 11) 192 ke, rc E (a 4) (a 12) 192 tu, rc E (a 5) (a 13) 192 ca, rc E (a 6) (a 14) 192 tr, rc E (a 7) (a 15) 12 co, rc E (a 8) (a 16) 4 la]) H locs := hw
  refine W.eq (g2 := F0 mm 8 ls [.int (he k)]) rfl ?_
  refine lv_aload_n hx hb dX1_growth_8 rfl (lv_at hl 0 rfl) ?_
  refine k_get (pre := []) C0 hw hinX1 rfl 7 (by decide) (hts (.fieldLink RX1 23 "SlabDunes$Field" "keptHeights" "LSlabDunes$Row;") (by decide +kernel)) rfl rfl dX1_growth_9 ?_
  refine lv_iload_n hx hb dX1_growth_12 rfl (lv_at hl 1 rfl) ?_
  refine k_V (As := [.int (nI k)]) (rest := [.int (he k)]) (pre := [oc (a 0) 1 [.int (nI h), .int (nI w), .int wd, .int s0, .int z, .ref (a 1), .ref (a 2), .ref (a 3), .ref (a 4), .ref (a 5), .ref (a 6), .ref (a 7), .ref (a 8)], rc E (a 1) (a 9) 4 st, rc E (a 2) (a 10) 192 he]) (mid := [rc E (a 3) (a 11) 192 ke]) C0 (c_X4_atN l E (a 3) (a 11) 192 ke k (by first | assumption | omega) (by first | assumption | omega)) (cwV 1 hts gX1_growth_X4_at rfl rfl rfl (by decide +kernel) ⟨Nat.le_of_ble_eq_true rfl, Nat.le_of_ble_eq_true rfl⟩) hw rfl (fun _ => [rc E (a 3) (a 11) 192 ke]) (fun _ => rfl) 0 4 rfl rfl rfl rfl hl.1 rfl (Nat.le_of_ble_eq_true rfl) dX1_growth_13 ⟨Nat.le_of_ble_eq_true rfl, Nat.le_of_ble_eq_true rfl⟩ (fun r u H locs hq99 hw => ?_)
  subst hq99
  have hw : kW E AA sx (List.flatten [oc (a 0) 1 [.int (nI h), .int (nI w), .int wd, .int s0, .int z, .ref (a 1), .ref (a 2), .ref (a 3), .ref (a 4), .ref (a 5), .ref (a 6), .ref (a 7), .ref (a 8)], rc E (a 1) (a 9) 4 st, rc E (a 2) (a 10) 192 he, rc E (a 3) (a 11) 192 ke, rc E (a 4) (a 12) 192 tu, rc E (a 5) (a 13) 192 ca, rc E (a 6) (a 14) 192 tr, rc E (a 7) (a 15) 12 co, rc E (a 8) (a 16) 4 la]) H locs := hw
  refine W.eq (g2 := F0 mm 16 ls [.int (ke k), .int (he k)]) rfl ?_
  refine lv_isub hx hb dX1_growth_16 ?_
  -- leaf 0
  exact k_iret C0 hr hlk hw () (rfl) (rfl) (Nat.le_of_ble_eq_true rfl) (Nat.le_of_ble_eq_true rfl) dX1_growth_17

abbrev rmX1_giveHeight : Room := { frames := 1, cells := 0, slots := 0, locals := 22 }
set_option maxHeartbeats 4000000 in
set_option maxRecDepth 100000 in
theorem c_X1_giveHeight (l : Launch) (E : kE) (a : Nat → Nat) (h : Nat) (w : Nat) (wd : Int32) (s0 : Int32) (z : Int32) (st : Nat → Int32) (he : Nat → Int32) (ke : Nat → Int32) (tu : Nat → Int32) (ca : Nat → Int32) (tr : Nat → Int32) (co : Nat → Int32) (la : Nat → Int32) (k : Nat) (v : Int32) (hG : kG h w) (hc : k < h * w) : kC E l yX1_giveHeight wsX1_giveHeight rmX1_giveHeight [.ref (a 0), .int (nI k), .int v] (fc E a (nI h) (nI w) wd s0 z st he ke tu ca tr co la) kV (fun (_ : Unit) (_ : Unit) => True) (fun _ => fc E a (nI h) (nI w) wd s0 z st (upd he k v) (upd ke k v) tu ca tr co la) 0 0 := by
  refine k_body (cc := cX1_giveHeight) (maxL := 3) (ret := none) (by decide) rfl (Nat.le_of_ble_eq_true rfl) ?_
  intro pp ee sx mm aa bb me cd H locs AA ls C0 hr hlk hnm hl hw
  obtain ⟨hx, hb, hml, hown, hts⟩ := id C0
  have hl : lv_has ls 3 [(0, .ref (a 0)), (1, .int (nI k)), (2, .int v)] := hl
  have hw : kW E AA sx (List.flatten [oc (a 0) 1 [.int (nI h), .int (nI w), .int wd, .int s0, .int z, .ref (a 1), .ref (a 2), .ref (a 3), .ref (a 4), .ref (a 5), .ref (a 6), .ref (a 7), .ref (a 8)], rc E (a 1) (a 9) 4 st, rc E (a 2) (a 10) 192 he, rc E (a 3) (a 11) 192 ke, rc E (a 4) (a 12) 192 tu, rc E (a 5) (a 13) 192 ca, rc E (a 6) (a 14) 192 tr, rc E (a 7) (a 15) 12 co, rc E (a 8) (a 16) 4 la]) H locs := hw
  have hn9 := kG_n hG
  have hG9 := id hG
  obtain ⟨hG1, hG2, hG3, hG4⟩ := hG9
  have hinX1 : ∀ w ∈ u_ws RX1 TX1 13, w ∈ wsX1_giveHeight := by decide +kernel
  refine lv_aload_n hx hb dX1_giveHeight_0 rfl (lv_at hl 0 rfl) ?_
  refine k_get (pre := []) C0 hw hinX1 rfl 6 (by decide) (hts (.fieldLink RX1 20 "SlabDunes$Field" "heights" "LSlabDunes$Row;") (by decide +kernel)) rfl rfl dX1_giveHeight_1 ?_
  refine lv_iload_n hx hb dX1_giveHeight_4 rfl (lv_at hl 1 rfl) ?_
  refine lv_iload_n hx hb dX1_giveHeight_5 rfl (lv_at hl 2 rfl) ?_
  refine k_V (As := [.int (nI k), .int v]) (rest := []) (pre := [oc (a 0) 1 [.int (nI h), .int (nI w), .int wd, .int s0, .int z, .ref (a 1), .ref (a 2), .ref (a 3), .ref (a 4), .ref (a 5), .ref (a 6), .ref (a 7), .ref (a 8)], rc E (a 1) (a 9) 4 st]) (mid := [rc E (a 2) (a 10) 192 he]) C0 (c_X4_putN l E (a 2) (a 10) 192 he k v (by first | assumption | omega) (by first | assumption | omega)) (cwV 2 hts gX1_giveHeight_X4_put rfl rfl rfl (by decide +kernel) ⟨Nat.le_of_ble_eq_true rfl, Nat.le_of_ble_eq_true rfl⟩) hw rfl (fun _ => [rc E (a 2) (a 10) 192 (upd he k v)]) (fun _ => rfl) 0 4 rfl rfl rfl rfl hl.1 rfl (Nat.le_of_ble_eq_true rfl) dX1_giveHeight_6 ⟨Nat.le_of_ble_eq_true rfl, Nat.le_of_ble_eq_true rfl⟩ (fun r u H locs hq99 hw => ?_)
  have hw : kW E AA sx (List.flatten [oc (a 0) 1 [.int (nI h), .int (nI w), .int wd, .int s0, .int z, .ref (a 1), .ref (a 2), .ref (a 3), .ref (a 4), .ref (a 5), .ref (a 6), .ref (a 7), .ref (a 8)], rc E (a 1) (a 9) 4 st, rc E (a 2) (a 10) 192 (upd he k v), rc E (a 3) (a 11) 192 ke, rc E (a 4) (a 12) 192 tu, rc E (a 5) (a 13) 192 ca, rc E (a 6) (a 14) 192 tr, rc E (a 7) (a 15) 12 co, rc E (a 8) (a 16) 4 la]) H locs := hw
  refine W.eq (g2 := F0 mm 9 ls []) rfl ?_
  refine lv_aload_n hx hb dX1_giveHeight_9 rfl (lv_at hl 0 rfl) ?_
  refine k_get (pre := []) C0 hw hinX1 rfl 7 (by decide) (hts (.fieldLink RX1 23 "SlabDunes$Field" "keptHeights" "LSlabDunes$Row;") (by decide +kernel)) rfl rfl dX1_giveHeight_10 ?_
  refine lv_iload_n hx hb dX1_giveHeight_13 rfl (lv_at hl 1 rfl) ?_
  refine lv_iload_n hx hb dX1_giveHeight_14 rfl (lv_at hl 2 rfl) ?_
  refine k_V (As := [.int (nI k), .int v]) (rest := []) (pre := [oc (a 0) 1 [.int (nI h), .int (nI w), .int wd, .int s0, .int z, .ref (a 1), .ref (a 2), .ref (a 3), .ref (a 4), .ref (a 5), .ref (a 6), .ref (a 7), .ref (a 8)], rc E (a 1) (a 9) 4 st, rc E (a 2) (a 10) 192 (upd he k v)]) (mid := [rc E (a 3) (a 11) 192 ke]) C0 (c_X4_putN l E (a 3) (a 11) 192 ke k v (by first | assumption | omega) (by first | assumption | omega)) (cwV 2 hts gX1_giveHeight_X4_put rfl rfl rfl (by decide +kernel) ⟨Nat.le_of_ble_eq_true rfl, Nat.le_of_ble_eq_true rfl⟩) hw rfl (fun _ => [rc E (a 3) (a 11) 192 (upd ke k v)]) (fun _ => rfl) 0 4 rfl rfl rfl rfl hl.1 rfl (Nat.le_of_ble_eq_true rfl) dX1_giveHeight_15 ⟨Nat.le_of_ble_eq_true rfl, Nat.le_of_ble_eq_true rfl⟩ (fun r u H locs hq99 hw => ?_)
  have hw : kW E AA sx (List.flatten [oc (a 0) 1 [.int (nI h), .int (nI w), .int wd, .int s0, .int z, .ref (a 1), .ref (a 2), .ref (a 3), .ref (a 4), .ref (a 5), .ref (a 6), .ref (a 7), .ref (a 8)], rc E (a 1) (a 9) 4 st, rc E (a 2) (a 10) 192 (upd he k v), rc E (a 3) (a 11) 192 (upd ke k v), rc E (a 4) (a 12) 192 tu, rc E (a 5) (a 13) 192 ca, rc E (a 6) (a 14) 192 tr, rc E (a 7) (a 15) 12 co, rc E (a 8) (a 16) 4 la]) H locs := hw
  refine W.eq (g2 := F0 mm 18 ls []) rfl ?_
  -- leaf 0
  exact k_vret C0 hr hlk hw () (rfl) (trivial) (Nat.le_of_ble_eq_true rfl) (Nat.le_of_ble_eq_true rfl) dX1_giveHeight_18

abbrev rmX1_hasFence : Room := { frames := 1, cells := 0, slots := 0, locals := 21 }
set_option maxHeartbeats 4000000 in
set_option maxRecDepth 100000 in
theorem c_X1_hasFence (l : Launch) (E : kE) (a : Nat → Nat) (h : Nat) (w : Nat) (wd : Int32) (s0 : Int32) (z : Int32) (st : Nat → Int32) (he : Nat → Int32) (ke : Nat → Int32) (tu : Nat → Int32) (ca : Nat → Int32) (tr : Nat → Int32) (co : Nat → Int32) (la : Nat → Int32) (k : Nat) (hG : kG h w) (hc : k < h * w) : kC E l yX1_hasFence wsX1_hasFence rmX1_hasFence [.ref (a 0), .int (nI k)] (fc E a (nI h) (nI w) wd s0 z st he ke tu ca tr co la) kI (fun (r : Int32) (_ : Unit) => r = if ca k = -1 then 0 else 1) (fun _ => fc E a (nI h) (nI w) wd s0 z st he ke tu ca tr co la) 0 0 := by
  refine k_body (cc := cX1_hasFence) (maxL := 2) (ret := (some .boolean)) (by decide) rfl (Nat.le_of_ble_eq_true rfl) ?_
  intro pp ee sx mm aa bb me cd H locs AA ls C0 hr hlk hnm hl hw
  obtain ⟨hx, hb, hml, hown, hts⟩ := id C0
  have hl : lv_has ls 2 [(0, .ref (a 0)), (1, .int (nI k))] := hl
  have hw : kW E AA sx (List.flatten [oc (a 0) 1 [.int (nI h), .int (nI w), .int wd, .int s0, .int z, .ref (a 1), .ref (a 2), .ref (a 3), .ref (a 4), .ref (a 5), .ref (a 6), .ref (a 7), .ref (a 8)], rc E (a 1) (a 9) 4 st, rc E (a 2) (a 10) 192 he, rc E (a 3) (a 11) 192 ke, rc E (a 4) (a 12) 192 tu, rc E (a 5) (a 13) 192 ca, rc E (a 6) (a 14) 192 tr, rc E (a 7) (a 15) 12 co, rc E (a 8) (a 16) 4 la]) H locs := hw
  have hn9 := kG_n hG
  have hG9 := id hG
  obtain ⟨hG1, hG2, hG3, hG4⟩ := hG9
  have hinX1 : ∀ w ∈ u_ws RX1 TX1 13, w ∈ wsX1_hasFence := by decide +kernel
  refine lv_aload_n hx hb dX1_hasFence_0 rfl (lv_at hl 0 rfl) ?_
  refine k_get (pre := []) C0 hw hinX1 rfl 9 (by decide) (hts (.fieldLink RX1 29 "SlabDunes$Field" "capacities" "LSlabDunes$Row;") (by decide +kernel)) rfl rfl dX1_hasFence_1 ?_
  refine lv_iload_n hx hb dX1_hasFence_4 rfl (lv_at hl 1 rfl) ?_
  refine k_V (As := [.int (nI k)]) (rest := []) (pre := [oc (a 0) 1 [.int (nI h), .int (nI w), .int wd, .int s0, .int z, .ref (a 1), .ref (a 2), .ref (a 3), .ref (a 4), .ref (a 5), .ref (a 6), .ref (a 7), .ref (a 8)], rc E (a 1) (a 9) 4 st, rc E (a 2) (a 10) 192 he, rc E (a 3) (a 11) 192 ke, rc E (a 4) (a 12) 192 tu]) (mid := [rc E (a 5) (a 13) 192 ca]) C0 (c_X4_atN l E (a 5) (a 13) 192 ca k (by first | assumption | omega) (by first | assumption | omega)) (cwV 1 hts gX1_hasFence_X4_at rfl rfl rfl (by decide +kernel) ⟨Nat.le_of_ble_eq_true rfl, Nat.le_of_ble_eq_true rfl⟩) hw rfl (fun _ => [rc E (a 5) (a 13) 192 ca]) (fun _ => rfl) 0 4 rfl rfl rfl rfl hl.1 rfl (Nat.le_of_ble_eq_true rfl) dX1_hasFence_5 ⟨Nat.le_of_ble_eq_true rfl, Nat.le_of_ble_eq_true rfl⟩ (fun r u H locs hq99 hw => ?_)
  subst hq99
  have hw : kW E AA sx (List.flatten [oc (a 0) 1 [.int (nI h), .int (nI w), .int wd, .int s0, .int z, .ref (a 1), .ref (a 2), .ref (a 3), .ref (a 4), .ref (a 5), .ref (a 6), .ref (a 7), .ref (a 8)], rc E (a 1) (a 9) 4 st, rc E (a 2) (a 10) 192 he, rc E (a 3) (a 11) 192 ke, rc E (a 4) (a 12) 192 tu, rc E (a 5) (a 13) 192 ca, rc E (a 6) (a 14) 192 tr, rc E (a 7) (a 15) 12 co, rc E (a 8) (a 16) 4 la]) H locs := hw
  refine W.eq (g2 := F0 mm 8 ls [.int (ca k)]) rfl ?_
  refine lv_iconst (v := (-1)) hx hb dX1_hasFence_8 (by decide) ?_
  refine lv_icmp_eq (tgt := 16) hx hb dX1_hasFence_9 (by decide) (fun c9 => ?_) (fun c9 => ?_)
  · refine lv_iconst (v := 0) hx hb dX1_hasFence_16 (by decide) ?_
    -- leaf 0
    exact k_zret C0 hr hlk hw () (rfl) (by simp [*]) (rfl) (Nat.le_of_ble_eq_true rfl) (Nat.le_of_ble_eq_true rfl) dX1_hasFence_17
  · refine lv_iconst (v := 1) hx hb dX1_hasFence_12 (by decide) ?_
    refine lv_goto (tgt := 17) hx hb dX1_hasFence_13 (by decide) ?_
    -- leaf 1
    exact k_zret C0 hr hlk hw () (rfl) (by simp [*]) (rfl) (Nat.le_of_ble_eq_true rfl) (Nat.le_of_ble_eq_true rfl) dX1_hasFence_17

abbrev rmX1_hasOpenFence : Room := { frames := 1, cells := 0, slots := 0, locals := 21 }
set_option maxHeartbeats 4000000 in
set_option maxRecDepth 100000 in
theorem c_X1_hasOpenFence (l : Launch) (E : kE) (a : Nat → Nat) (h : Nat) (w : Nat) (wd : Int32) (s0 : Int32) (z : Int32) (st : Nat → Int32) (he : Nat → Int32) (ke : Nat → Int32) (tu : Nat → Int32) (ca : Nat → Int32) (tr : Nat → Int32) (co : Nat → Int32) (la : Nat → Int32) (k : Nat) (hG : kG h w) (hc : k < h * w) : kC E l yX1_hasOpenFence wsX1_hasOpenFence rmX1_hasOpenFence [.ref (a 0), .int (nI k)] (fc E a (nI h) (nI w) wd s0 z st he ke tu ca tr co la) kI (fun (r : Int32) (_ : Unit) => r = if opnB ca tr k then 1 else 0) (fun _ => fc E a (nI h) (nI w) wd s0 z st he ke tu ca tr co la) 0 0 := by
  refine k_body (cc := cX1_hasOpenFence) (maxL := 3) (ret := (some .boolean)) (by decide) rfl (Nat.le_of_ble_eq_true rfl) ?_
  intro pp ee sx mm aa bb me cd H locs AA ls C0 hr hlk hnm hl hw
  obtain ⟨hx, hb, hml, hown, hts⟩ := id C0
  have hl : lv_has ls 3 [(0, .ref (a 0)), (1, .int (nI k))] := hl
  have hw : kW E AA sx (List.flatten [oc (a 0) 1 [.int (nI h), .int (nI w), .int wd, .int s0, .int z, .ref (a 1), .ref (a 2), .ref (a 3), .ref (a 4), .ref (a 5), .ref (a 6), .ref (a 7), .ref (a 8)], rc E (a 1) (a 9) 4 st, rc E (a 2) (a 10) 192 he, rc E (a 3) (a 11) 192 ke, rc E (a 4) (a 12) 192 tu, rc E (a 5) (a 13) 192 ca, rc E (a 6) (a 14) 192 tr, rc E (a 7) (a 15) 12 co, rc E (a 8) (a 16) 4 la]) H locs := hw
  have hn9 := kG_n hG
  have hG9 := id hG
  obtain ⟨hG1, hG2, hG3, hG4⟩ := hG9
  have hinX1 : ∀ w ∈ u_ws RX1 TX1 13, w ∈ wsX1_hasOpenFence := by decide +kernel
  refine lv_aload_n hx hb dX1_hasOpenFence_0 rfl (lv_at hl 0 rfl) ?_
  refine k_get (pre := []) C0 hw hinX1 rfl 9 (by decide) (hts (.fieldLink RX1 29 "SlabDunes$Field" "capacities" "LSlabDunes$Row;") (by decide +kernel)) rfl rfl dX1_hasOpenFence_1 ?_
  refine lv_iload_n hx hb dX1_hasOpenFence_4 rfl (lv_at hl 1 rfl) ?_
  refine k_V (As := [.int (nI k)]) (rest := []) (pre := [oc (a 0) 1 [.int (nI h), .int (nI w), .int wd, .int s0, .int z, .ref (a 1), .ref (a 2), .ref (a 3), .ref (a 4), .ref (a 5), .ref (a 6), .ref (a 7), .ref (a 8)], rc E (a 1) (a 9) 4 st, rc E (a 2) (a 10) 192 he, rc E (a 3) (a 11) 192 ke, rc E (a 4) (a 12) 192 tu]) (mid := [rc E (a 5) (a 13) 192 ca]) C0 (c_X4_atN l E (a 5) (a 13) 192 ca k (by first | assumption | omega) (by first | assumption | omega)) (cwV 1 hts gX1_hasOpenFence_X4_at rfl rfl rfl (by decide +kernel) ⟨Nat.le_of_ble_eq_true rfl, Nat.le_of_ble_eq_true rfl⟩) hw rfl (fun _ => [rc E (a 5) (a 13) 192 ca]) (fun _ => rfl) 0 4 rfl rfl rfl rfl hl.1 rfl (Nat.le_of_ble_eq_true rfl) dX1_hasOpenFence_5 ⟨Nat.le_of_ble_eq_true rfl, Nat.le_of_ble_eq_true rfl⟩ (fun r u H locs hq99 hw => ?_)
  subst hq99
  have hw : kW E AA sx (List.flatten [oc (a 0) 1 [.int (nI h), .int (nI w), .int wd, .int s0, .int z, .ref (a 1), .ref (a 2), .ref (a 3), .ref (a 4), .ref (a 5), .ref (a 6), .ref (a 7), .ref (a 8)], rc E (a 1) (a 9) 4 st, rc E (a 2) (a 10) 192 he, rc E (a 3) (a 11) 192 ke, rc E (a 4) (a 12) 192 tu, rc E (a 5) (a 13) 192 ca, rc E (a 6) (a 14) 192 tr, rc E (a 7) (a 15) 12 co, rc E (a 8) (a 16) 4 la]) H locs := hw
  refine W.eq (g2 := F0 mm 8 ls [.int (ca k)]) rfl ?_
  refine lv_istore_n (lv' := [(2, .int (ca k)), (0, .ref (a 0)), (1, .int (nI k))]) hx hb dX1_hasOpenFence_8 rfl hl (by decide) rfl (fun ls hl => ?_)
  refine lv_iload_n hx hb dX1_hasOpenFence_9 rfl (lv_at hl 0 rfl) ?_
  refine lv_iconst (v := (-1)) hx hb dX1_hasOpenFence_10 (by decide) ?_
  refine lv_icmp_eq (tgt := 30) hx hb dX1_hasOpenFence_11 (by decide) (fun c11 => ?_) (fun c11 => ?_)
  · refine lv_iconst (v := 0) hx hb dX1_hasOpenFence_30 (by decide) ?_
    -- leaf 0
    exact k_zret C0 hr hlk hw () (rfl) (by simp [opnB, *]) (rfl) (Nat.le_of_ble_eq_true rfl) (Nat.le_of_ble_eq_true rfl) dX1_hasOpenFence_31
  · refine lv_aload_n hx hb dX1_hasOpenFence_14 rfl (lv_at hl 1 rfl) ?_
    refine k_get (pre := []) C0 hw hinX1 rfl 10 (by decide) (hts (.fieldLink RX1 32 "SlabDunes$Field" "trapped" "LSlabDunes$Row;") (by decide +kernel)) rfl rfl dX1_hasOpenFence_15 ?_
    refine lv_iload_n hx hb dX1_hasOpenFence_18 rfl (lv_at hl 2 rfl) ?_
    refine k_V (As := [.int (nI k)]) (rest := []) (pre := [oc (a 0) 1 [.int (nI h), .int (nI w), .int wd, .int s0, .int z, .ref (a 1), .ref (a 2), .ref (a 3), .ref (a 4), .ref (a 5), .ref (a 6), .ref (a 7), .ref (a 8)], rc E (a 1) (a 9) 4 st, rc E (a 2) (a 10) 192 he, rc E (a 3) (a 11) 192 ke, rc E (a 4) (a 12) 192 tu, rc E (a 5) (a 13) 192 ca]) (mid := [rc E (a 6) (a 14) 192 tr]) C0 (c_X4_atN l E (a 6) (a 14) 192 tr k (by first | assumption | omega) (by first | assumption | omega)) (cwV 1 hts gX1_hasOpenFence_X4_at rfl rfl rfl (by decide +kernel) ⟨Nat.le_of_ble_eq_true rfl, Nat.le_of_ble_eq_true rfl⟩) hw rfl (fun _ => [rc E (a 6) (a 14) 192 tr]) (fun _ => rfl) 0 4 rfl rfl rfl rfl hl.1 rfl (Nat.le_of_ble_eq_true rfl) dX1_hasOpenFence_19 ⟨Nat.le_of_ble_eq_true rfl, Nat.le_of_ble_eq_true rfl⟩ (fun r u H locs hq99 hw => ?_)
    subst hq99
    have hw : kW E AA sx (List.flatten [oc (a 0) 1 [.int (nI h), .int (nI w), .int wd, .int s0, .int z, .ref (a 1), .ref (a 2), .ref (a 3), .ref (a 4), .ref (a 5), .ref (a 6), .ref (a 7), .ref (a 8)], rc E (a 1) (a 9) 4 st, rc E (a 2) (a 10) 192 he, rc E (a 3) (a 11) 192 ke, rc E (a 4) (a 12) 192 tu, rc E (a 5) (a 13) 192 ca, rc E (a 6) (a 14) 192 tr, rc E (a 7) (a 15) 12 co, rc E (a 8) (a 16) 4 la]) H locs := hw
    refine W.eq (g2 := F0 mm 22 ls [.int (tr k)]) rfl ?_
    refine lv_iload_n hx hb dX1_hasOpenFence_22 rfl (lv_at hl 0 rfl) ?_
    refine lv_icmp_ge (tgt := 30) hx hb dX1_hasOpenFence_23 (by decide) (fun c23 => ?_) (fun c23 => ?_)
    · refine lv_iconst (v := 0) hx hb dX1_hasOpenFence_30 (by decide) ?_
      -- leaf 1
      exact k_zret C0 hr hlk hw () (rfl) (by simp [opnB, c11, c23]) (rfl) (Nat.le_of_ble_eq_true rfl) (Nat.le_of_ble_eq_true rfl) dX1_hasOpenFence_31
    · refine lv_iconst (v := 1) hx hb dX1_hasOpenFence_26 (by decide) ?_
      refine lv_goto (tgt := 31) hx hb dX1_hasOpenFence_27 (by decide) ?_
      -- leaf 2
      exact k_zret C0 hr hlk hw () (rfl) (by simp [opnB, c11]; exact Int32.not_le.mp c23) (rfl) (Nat.le_of_ble_eq_true rfl) (Nat.le_of_ble_eq_true rfl) dX1_hasOpenFence_31

abbrev rmX1_trappedBy : Room := { frames := 2, cells := 0, slots := 0, locals := 42 }
set_option maxHeartbeats 4000000 in
set_option maxRecDepth 100000 in
theorem c_X1_trappedBy (l : Launch) (E : kE) (a : Nat → Nat) (h : Nat) (w : Nat) (wd : Int32) (s0 : Int32) (z : Int32) (st : Nat → Int32) (he : Nat → Int32) (ke : Nat → Int32) (tu : Nat → Int32) (ca : Nat → Int32) (tr : Nat → Int32) (co : Nat → Int32) (la : Nat → Int32) (k : Nat) (hG : kG h w) (hc : k < h * w) : kC E l yX1_trappedBy wsX1_trappedBy rmX1_trappedBy [.ref (a 0), .int (nI k)] (fc E a (nI h) (nI w) wd s0 z st he ke tu ca tr co la) kI (fun (r : Int32) (_ : Unit) => r = trpN ca tr k) (fun _ => fc E a (nI h) (nI w) wd s0 z st he ke tu ca tr co la) 0 0 := by
  refine k_body (cc := cX1_trappedBy) (maxL := 2) (ret := (some .int)) (by decide) rfl (Nat.le_of_ble_eq_true rfl) ?_
  intro pp ee sx mm aa bb me cd H locs AA ls C0 hr hlk hnm hl hw
  obtain ⟨hx, hb, hml, hown, hts⟩ := id C0
  have hl : lv_has ls 2 [(0, .ref (a 0)), (1, .int (nI k))] := hl
  have hw : kW E AA sx (List.flatten [oc (a 0) 1 [.int (nI h), .int (nI w), .int wd, .int s0, .int z, .ref (a 1), .ref (a 2), .ref (a 3), .ref (a 4), .ref (a 5), .ref (a 6), .ref (a 7), .ref (a 8)], rc E (a 1) (a 9) 4 st, rc E (a 2) (a 10) 192 he, rc E (a 3) (a 11) 192 ke, rc E (a 4) (a 12) 192 tu, rc E (a 5) (a 13) 192 ca, rc E (a 6) (a 14) 192 tr, rc E (a 7) (a 15) 12 co, rc E (a 8) (a 16) 4 la]) H locs := hw
  have hn9 := kG_n hG
  have hG9 := id hG
  obtain ⟨hG1, hG2, hG3, hG4⟩ := hG9
  have hinX1 : ∀ w ∈ u_ws RX1 TX1 13, w ∈ wsX1_trappedBy := by decide +kernel
  refine lv_aload_n hx hb dX1_trappedBy_0 rfl (lv_at hl 0 rfl) ?_
  refine lv_iload_n hx hb dX1_trappedBy_1 rfl (lv_at hl 1 rfl) ?_
  refine k_V (As := [.int (nI k)]) (rest := []) (pre := []) (mid := [oc (a 0) 1 [.int (nI h), .int (nI w), .int wd, .int s0, .int z, .ref (a 1), .ref (a 2), .ref (a 3), .ref (a 4), .ref (a 5), .ref (a 6), .ref (a 7), .ref (a 8)], rc E (a 1) (a 9) 4 st, rc E (a 2) (a 10) 192 he, rc E (a 3) (a 11) 192 ke, rc E (a 4) (a 12) 192 tu, rc E (a 5) (a 13) 192 ca, rc E (a 6) (a 14) 192 tr, rc E (a 7) (a 15) 12 co, rc E (a 8) (a 16) 4 la]) C0 (c_X1_hasFence l E a h w wd s0 z st he ke tu ca tr co la k (by first | assumption | omega) (by first | assumption | omega)) (cwV 1 hts gX1_trappedBy_X1_hasFence rfl rfl rfl (by decide +kernel) ⟨Nat.le_of_ble_eq_true rfl, Nat.le_of_ble_eq_true rfl⟩) hw rfl (fun _ => [oc (a 0) 1 [.int (nI h), .int (nI w), .int wd, .int s0, .int z, .ref (a 1), .ref (a 2), .ref (a 3), .ref (a 4), .ref (a 5), .ref (a 6), .ref (a 7), .ref (a 8)], rc E (a 1) (a 9) 4 st, rc E (a 2) (a 10) 192 he, rc E (a 3) (a 11) 192 ke, rc E (a 4) (a 12) 192 tu, rc E (a 5) (a 13) 192 ca, rc E (a 6) (a 14) 192 tr, rc E (a 7) (a 15) 12 co, rc E (a 8) (a 16) 4 la]) (fun _ => rfl) 0 1 rfl rfl rfl rfl hl.1 rfl (Nat.le_of_ble_eq_true rfl) dX1_trappedBy_2 ⟨Nat.le_of_ble_eq_true rfl, Nat.le_of_ble_eq_true rfl⟩ (fun r u H locs hq99 hw => ?_)
  subst hq99
  have hw : kW E AA sx (List.flatten [oc (a 0) 1 [.int (nI h), .int (nI w), .int wd, .int s0, .int z, .ref (a 1), .ref (a 2), .ref (a 3), .ref (a 4), .ref (a 5), .ref (a 6), .ref (a 7), .ref (a 8)], rc E (a 1) (a 9) 4 st, rc E (a 2) (a 10) 192 he, rc E (a 3) (a 11) 192 ke, rc E (a 4) (a 12) 192 tu, rc E (a 5) (a 13) 192 ca, rc E (a 6) (a 14) 192 tr, rc E (a 7) (a 15) 12 co, rc E (a 8) (a 16) 4 la]) H locs := hw
  refine W.eq (g2 := F0 mm 5 ls [.int (if ca k = -1 then 0 else 1)]) rfl ?_
  refine lv_if_eq (tgt := 19) hx hb dX1_trappedBy_5 (by decide) (fun c5 => ?_) (fun c5 => ?_)
  · have c5 := kb01t c5
    refine lv_iconst (v := (-1)) hx hb dX1_trappedBy_19 (by decide) ?_
    -- leaf 0
    exact k_iret C0 hr hlk hw () (rfl) (by simp [trpN, *]) (Nat.le_of_ble_eq_true rfl) (Nat.le_of_ble_eq_true rfl) dX1_trappedBy_20
  · have c5 := kb01f c5
    refine lv_aload_n hx hb dX1_trappedBy_8 rfl (lv_at hl 0 rfl) ?_
    refine k_get (pre := []) C0 hw hinX1 rfl 10 (by decide) (hts (.fieldLink RX1 32 "SlabDunes$Field" "trapped" "LSlabDunes$Row;") (by decide +kernel)) rfl rfl dX1_trappedBy_9 ?_
    refine lv_iload_n hx hb dX1_trappedBy_12 rfl (lv_at hl 1 rfl) ?_
    refine k_V (As := [.int (nI k)]) (rest := []) (pre := [oc (a 0) 1 [.int (nI h), .int (nI w), .int wd, .int s0, .int z, .ref (a 1), .ref (a 2), .ref (a 3), .ref (a 4), .ref (a 5), .ref (a 6), .ref (a 7), .ref (a 8)], rc E (a 1) (a 9) 4 st, rc E (a 2) (a 10) 192 he, rc E (a 3) (a 11) 192 ke, rc E (a 4) (a 12) 192 tu, rc E (a 5) (a 13) 192 ca]) (mid := [rc E (a 6) (a 14) 192 tr]) C0 (c_X4_atN l E (a 6) (a 14) 192 tr k (by first | assumption | omega) (by first | assumption | omega)) (cwV 1 hts gX1_trappedBy_X4_at rfl rfl rfl (by decide +kernel) ⟨Nat.le_of_ble_eq_true rfl, Nat.le_of_ble_eq_true rfl⟩) hw rfl (fun _ => [rc E (a 6) (a 14) 192 tr]) (fun _ => rfl) 0 4 rfl rfl rfl rfl hl.1 rfl (Nat.le_of_ble_eq_true rfl) dX1_trappedBy_13 ⟨Nat.le_of_ble_eq_true rfl, Nat.le_of_ble_eq_true rfl⟩ (fun r u H locs hq99 hw => ?_)
    subst hq99
    have hw : kW E AA sx (List.flatten [oc (a 0) 1 [.int (nI h), .int (nI w), .int wd, .int s0, .int z, .ref (a 1), .ref (a 2), .ref (a 3), .ref (a 4), .ref (a 5), .ref (a 6), .ref (a 7), .ref (a 8)], rc E (a 1) (a 9) 4 st, rc E (a 2) (a 10) 192 he, rc E (a 3) (a 11) 192 ke, rc E (a 4) (a 12) 192 tu, rc E (a 5) (a 13) 192 ca, rc E (a 6) (a 14) 192 tr, rc E (a 7) (a 15) 12 co, rc E (a 8) (a 16) 4 la]) H locs := hw
    refine W.eq (g2 := F0 mm 16 ls [.int (tr k)]) rfl ?_
    refine lv_goto (tgt := 20) hx hb dX1_trappedBy_16 (by decide) ?_
    -- leaf 1
    exact k_iret C0 hr hlk hw () (rfl) (by simp [trpN, *]) (Nat.le_of_ble_eq_true rfl) (Nat.le_of_ble_eq_true rfl) dX1_trappedBy_20

abbrev rmX1_putFence : Room := { frames := 1, cells := 0, slots := 0, locals := 22 }
set_option maxHeartbeats 4000000 in
set_option maxRecDepth 100000 in
theorem c_X1_putFence (l : Launch) (E : kE) (a : Nat → Nat) (h : Nat) (w : Nat) (wd : Int32) (s0 : Int32) (z : Int32) (st : Nat → Int32) (he : Nat → Int32) (ke : Nat → Int32) (tu : Nat → Int32) (ca : Nat → Int32) (tr : Nat → Int32) (co : Nat → Int32) (la : Nat → Int32) (k : Nat) (v : Int32) (hG : kG h w) (hc : k < h * w) : kC E l yX1_putFence wsX1_putFence rmX1_putFence [.ref (a 0), .int (nI k), .int v] (fc E a (nI h) (nI w) wd s0 z st he ke tu ca tr co la) kV (fun (_ : Unit) (_ : Unit) => True) (fun _ => fc E a (nI h) (nI w) wd s0 z st he ke tu (upd ca k v) (upd tr k 0) co la) 0 0 := by
  refine k_body (cc := cX1_putFence) (maxL := 3) (ret := none) (by decide) rfl (Nat.le_of_ble_eq_true rfl) ?_
  intro pp ee sx mm aa bb me cd H locs AA ls C0 hr hlk hnm hl hw
  obtain ⟨hx, hb, hml, hown, hts⟩ := id C0
  have hl : lv_has ls 3 [(0, .ref (a 0)), (1, .int (nI k)), (2, .int v)] := hl
  have hw : kW E AA sx (List.flatten [oc (a 0) 1 [.int (nI h), .int (nI w), .int wd, .int s0, .int z, .ref (a 1), .ref (a 2), .ref (a 3), .ref (a 4), .ref (a 5), .ref (a 6), .ref (a 7), .ref (a 8)], rc E (a 1) (a 9) 4 st, rc E (a 2) (a 10) 192 he, rc E (a 3) (a 11) 192 ke, rc E (a 4) (a 12) 192 tu, rc E (a 5) (a 13) 192 ca, rc E (a 6) (a 14) 192 tr, rc E (a 7) (a 15) 12 co, rc E (a 8) (a 16) 4 la]) H locs := hw
  have hn9 := kG_n hG
  have hG9 := id hG
  obtain ⟨hG1, hG2, hG3, hG4⟩ := hG9
  have hinX1 : ∀ w ∈ u_ws RX1 TX1 13, w ∈ wsX1_putFence := by decide +kernel
  refine lv_aload_n hx hb dX1_putFence_0 rfl (lv_at hl 0 rfl) ?_
  refine k_get (pre := []) C0 hw hinX1 rfl 9 (by decide) (hts (.fieldLink RX1 29 "SlabDunes$Field" "capacities" "LSlabDunes$Row;") (by decide +kernel)) rfl rfl dX1_putFence_1 ?_
  refine lv_iload_n hx hb dX1_putFence_4 rfl (lv_at hl 1 rfl) ?_
  refine lv_iload_n hx hb dX1_putFence_5 rfl (lv_at hl 2 rfl) ?_
  refine k_V (As := [.int (nI k), .int v]) (rest := []) (pre := [oc (a 0) 1 [.int (nI h), .int (nI w), .int wd, .int s0, .int z, .ref (a 1), .ref (a 2), .ref (a 3), .ref (a 4), .ref (a 5), .ref (a 6), .ref (a 7), .ref (a 8)], rc E (a 1) (a 9) 4 st, rc E (a 2) (a 10) 192 he, rc E (a 3) (a 11) 192 ke, rc E (a 4) (a 12) 192 tu]) (mid := [rc E (a 5) (a 13) 192 ca]) C0 (c_X4_putN l E (a 5) (a 13) 192 ca k v (by first | assumption | omega) (by first | assumption | omega)) (cwV 2 hts gX1_putFence_X4_put rfl rfl rfl (by decide +kernel) ⟨Nat.le_of_ble_eq_true rfl, Nat.le_of_ble_eq_true rfl⟩) hw rfl (fun _ => [rc E (a 5) (a 13) 192 (upd ca k v)]) (fun _ => rfl) 0 4 rfl rfl rfl rfl hl.1 rfl (Nat.le_of_ble_eq_true rfl) dX1_putFence_6 ⟨Nat.le_of_ble_eq_true rfl, Nat.le_of_ble_eq_true rfl⟩ (fun r u H locs hq99 hw => ?_)
  have hw : kW E AA sx (List.flatten [oc (a 0) 1 [.int (nI h), .int (nI w), .int wd, .int s0, .int z, .ref (a 1), .ref (a 2), .ref (a 3), .ref (a 4), .ref (a 5), .ref (a 6), .ref (a 7), .ref (a 8)], rc E (a 1) (a 9) 4 st, rc E (a 2) (a 10) 192 he, rc E (a 3) (a 11) 192 ke, rc E (a 4) (a 12) 192 tu, rc E (a 5) (a 13) 192 (upd ca k v), rc E (a 6) (a 14) 192 tr, rc E (a 7) (a 15) 12 co, rc E (a 8) (a 16) 4 la]) H locs := hw
  refine W.eq (g2 := F0 mm 9 ls []) rfl ?_
  refine lv_aload_n hx hb dX1_putFence_9 rfl (lv_at hl 0 rfl) ?_
  refine k_get (pre := []) C0 hw hinX1 rfl 10 (by decide) (hts (.fieldLink RX1 32 "SlabDunes$Field" "trapped" "LSlabDunes$Row;") (by decide +kernel)) rfl rfl dX1_putFence_10 ?_
  refine lv_iload_n hx hb dX1_putFence_13 rfl (lv_at hl 1 rfl) ?_
  refine lv_iconst (v := 0) hx hb dX1_putFence_14 (by decide) ?_
  refine k_V (As := [.int (nI k), .int 0]) (rest := []) (pre := [oc (a 0) 1 [.int (nI h), .int (nI w), .int wd, .int s0, .int z, .ref (a 1), .ref (a 2), .ref (a 3), .ref (a 4), .ref (a 5), .ref (a 6), .ref (a 7), .ref (a 8)], rc E (a 1) (a 9) 4 st, rc E (a 2) (a 10) 192 he, rc E (a 3) (a 11) 192 ke, rc E (a 4) (a 12) 192 tu, rc E (a 5) (a 13) 192 (upd ca k v)]) (mid := [rc E (a 6) (a 14) 192 tr]) C0 (c_X4_putN l E (a 6) (a 14) 192 tr k 0 (by first | assumption | omega) (by first | assumption | omega)) (cwV 2 hts gX1_putFence_X4_put rfl rfl rfl (by decide +kernel) ⟨Nat.le_of_ble_eq_true rfl, Nat.le_of_ble_eq_true rfl⟩) hw rfl (fun _ => [rc E (a 6) (a 14) 192 (upd tr k 0)]) (fun _ => rfl) 0 4 rfl rfl rfl rfl hl.1 rfl (Nat.le_of_ble_eq_true rfl) dX1_putFence_15 ⟨Nat.le_of_ble_eq_true rfl, Nat.le_of_ble_eq_true rfl⟩ (fun r u H locs hq99 hw => ?_)
  have hw : kW E AA sx (List.flatten [oc (a 0) 1 [.int (nI h), .int (nI w), .int wd, .int s0, .int z, .ref (a 1), .ref (a 2), .ref (a 3), .ref (a 4), .ref (a 5), .ref (a 6), .ref (a 7), .ref (a 8)], rc E (a 1) (a 9) 4 st, rc E (a 2) (a 10) 192 he, rc E (a 3) (a 11) 192 ke, rc E (a 4) (a 12) 192 tu, rc E (a 5) (a 13) 192 (upd ca k v), rc E (a 6) (a 14) 192 (upd tr k 0), rc E (a 7) (a 15) 12 co, rc E (a 8) (a 16) 4 la]) H locs := hw
  refine W.eq (g2 := F0 mm 18 ls []) rfl ?_
  -- leaf 0
  exact k_vret C0 hr hlk hw () (rfl) (trivial) (Nat.le_of_ble_eq_true rfl) (Nat.le_of_ble_eq_true rfl) dX1_putFence_18

abbrev rmX1_neighbor : Room := { frames := 0, cells := 0, slots := 0, locals := 0 }
set_option maxHeartbeats 4000000 in
set_option maxRecDepth 100000 in
theorem c_X1_neighbor (l : Launch) (E : kE) (a : Nat → Nat) (h : Nat) (w : Nat) (wd : Int32) (s0 : Int32) (z : Int32) (st : Nat → Int32) (he : Nat → Int32) (ke : Nat → Int32) (tu : Nat → Int32) (ca : Nat → Int32) (tr : Nat → Int32) (co : Nat → Int32) (la : Nat → Int32) (k : Nat) (j : Nat) (hG : kG h w) (hc : k < h * w) (hj : j < 4) : kC E l yX1_neighbor wsX1_neighbor rmX1_neighbor [.ref (a 0), .int (nI k), .int (nI j)] (fc E a (nI h) (nI w) wd s0 z st he ke tu ca tr co la) kI (fun (r : Int32) (_ : Unit) => r = nI (nbr h w k j)) (fun _ => fc E a (nI h) (nI w) wd s0 z st he ke tu ca tr co la) 0 0 := by
  refine k_body (cc := cX1_neighbor) (maxL := 5) (ret := (some .int)) (by decide) rfl (Nat.le_of_ble_eq_true rfl) ?_
  intro pp ee sx mm aa bb me cd H locs AA ls C0 hr hlk hnm hl hw
  obtain ⟨hx, hb, hml, hown, hts⟩ := id C0
  have hl : lv_has ls 5 [(0, .ref (a 0)), (1, .int (nI k)), (2, .int (nI j))] := hl
  have hw : kW E AA sx (List.flatten [oc (a 0) 1 [.int (nI h), .int (nI w), .int wd, .int s0, .int z, .ref (a 1), .ref (a 2), .ref (a 3), .ref (a 4), .ref (a 5), .ref (a 6), .ref (a 7), .ref (a 8)], rc E (a 1) (a 9) 4 st, rc E (a 2) (a 10) 192 he, rc E (a 3) (a 11) 192 ke, rc E (a 4) (a 12) 192 tu, rc E (a 5) (a 13) 192 ca, rc E (a 6) (a 14) 192 tr, rc E (a 7) (a 15) 12 co, rc E (a 8) (a 16) 4 la]) H locs := hw
  have hn9 := kG_n hG
  have hG9 := id hG
  obtain ⟨hG1, hG2, hG3, hG4⟩ := hG9
  have hinX1 : ∀ w ∈ u_ws RX1 TX1 13, w ∈ wsX1_neighbor := by decide +kernel
  refine lv_aload_n hx hb dX1_neighbor_0 rfl (lv_at hl 0 rfl) ?_
  refine k_get (pre := []) C0 hw hinX1 rfl 1 (by decide) (hts (.fieldLink RX1 62 "SlabDunes$Field" "columns" "I") (by decide +kernel)) rfl rfl dX1_neighbor_1 ?_
  refine lv_if_gt (tgt := 9) hx hb dX1_neighbor_4 (by decide) (fun c4 => ?_) (fun c4 => absurd (nI_lt (a := 0) (b := w) (by omega) (by omega)) c4)
  have c4 : 0 < w := (nI_ltI (a := 0) (b := w) (by omega) (by omega)).mp c4
  refine lv_iload_n hx hb dX1_neighbor_9 rfl (lv_at hl 1 rfl) ?_
  refine lv_aload_n hx hb dX1_neighbor_10 rfl (lv_at hl 0 rfl) ?_
  refine k_get (pre := []) C0 hw hinX1 rfl 1 (by decide) (hts (.fieldLink RX1 62 "SlabDunes$Field" "columns" "I") (by decide +kernel)) rfl rfl dX1_neighbor_11 ?_
  refine lv_idiv hx hb dX1_neighbor_14 (nI_ne0 (by omega) (by omega)) ?_
  refine W.eq (g2 := F0 mm 15 ls [.int (nI (k / w))]) (congrArg (fun z9 => F0 mm 15 ls [.int z9]) (show ((nI k) / (nI w) : Int32) = nI (k / w) from pk_div (by omega) (by omega) (by omega))) ?_
  refine lv_istore_n (lv' := [(3, .int (nI (k / w))), (0, .ref (a 0)), (1, .int (nI k)), (2, .int (nI j))]) hx hb dX1_neighbor_15 rfl hl (by decide) rfl (fun ls hl => ?_)
  refine lv_iload_n hx hb dX1_neighbor_16 rfl (lv_at hl 2 rfl) ?_
  refine lv_aload_n hx hb dX1_neighbor_17 rfl (lv_at hl 1 rfl) ?_
  refine k_get (pre := []) C0 hw hinX1 rfl 1 (by decide) (hts (.fieldLink RX1 62 "SlabDunes$Field" "columns" "I") (by decide +kernel)) rfl rfl dX1_neighbor_18 ?_
  refine lv_irem hx hb dX1_neighbor_21 (nI_ne0 (by omega) (by omega)) ?_
  refine W.eq (g2 := F0 mm 22 ls [.int (nI (k % w))]) (congrArg (fun z9 => F0 mm 22 ls [.int z9]) (show ((nI k) - (nI k) / (nI w) * (nI w) : Int32) = nI (k % w) from pk_rem (by omega) (by omega) (by omega))) ?_
  refine lv_istore (lv' := [(4, .int (nI (k % w))), (3, .int (nI (k / w))), (0, .ref (a 0)), (1, .int (nI k)), (2, .int (nI j))]) hx hb dX1_neighbor_22 hl (by decide) rfl (fun ls hl => ?_)
  have hq9 := Nat.div_le_self k w
  have hr9 := Nat.mod_le k w
  refine lv_iload_n hx hb dX1_neighbor_24 rfl (lv_at hl 4 rfl) ?_
  have ht25 : (nI j).toInt = ((j : Nat) : Int) := nI_toInt (by omega)
  rcases kswitch (nI j) 0 3 with hs25 | ⟨js25, hj25, hs25⟩
  · refine lv_tableOut (tgt := 123) hx hb dX1_neighbor_25 (by omega) (by decide) ?_
    refine lv_iload hx hb dX1_neighbor_123 (lv_at hl 0 rfl) ?_
    refine lv_if_le (tgt := 134) hx hb dX1_neighbor_125 (by decide) (fun c125 => ?_) (fun c125 => ?_)
    · have c125 : (k % w) ≤ 0 := (nI_leI (a := (k % w)) (b := 0) (by omega) (by omega)).mp c125
      refine lv_iload_n hx hb dX1_neighbor_134 rfl (lv_at hl 3 rfl) ?_
      refine lv_aload_n hx hb dX1_neighbor_135 rfl (lv_at hl 2 rfl) ?_
      refine k_get (pre := []) C0 hw hinX1 rfl 1 (by decide) (hts (.fieldLink RX1 62 "SlabDunes$Field" "columns" "I") (by decide +kernel)) rfl rfl dX1_neighbor_136 ?_
      refine lv_iadd hx hb dX1_neighbor_139 ?_
      refine lv_iconst (v := 1) hx hb dX1_neighbor_140 (by decide) ?_
      refine lv_isub hx hb dX1_neighbor_141 ?_
      -- leaf 0
      exact k_iret C0 hr hlk hw () (rfl) (nbr_31 hG (by omega) (by omega)) (Nat.le_of_ble_eq_true rfl) (Nat.le_of_ble_eq_true rfl) dX1_neighbor_142
    · have c125 : ¬ (k % w) ≤ 0 := fun h99 => c125 ((nI_leI (a := (k % w)) (b := 0) (by omega) (by omega)).mpr h99)
      refine lv_iload_n hx hb dX1_neighbor_128 rfl (lv_at hl 3 rfl) ?_
      refine lv_iconst (v := 1) hx hb dX1_neighbor_129 (by decide) ?_
      refine lv_isub hx hb dX1_neighbor_130 ?_
      refine lv_goto (tgt := 142) hx hb dX1_neighbor_131 (by decide) ?_
      -- leaf 1
      exact k_iret C0 hr hlk hw () (rfl) (nbr_30 (by omega) (by omega)) (Nat.le_of_ble_eq_true rfl) (Nat.le_of_ble_eq_true rfl) dX1_neighbor_142
  · rcases (show js25 = 0 ∨ js25 = 1 ∨ js25 = 2 by omega) with rfl | rfl | rfl
    · refine lv_tableIn (tgt := 52) (off := 27) hx hb dX1_neighbor_25 (by rw [hs25]; decide) (by rw [hs25]; decide) (by rw [hs25]; rfl) (by decide) ?_
      have hk25 : j = 0 := by omega
      refine lv_iload_n hx hb dX1_neighbor_52 rfl (lv_at hl 1 rfl) ?_
      refine lv_if_le (tgt := 65) hx hb dX1_neighbor_53 (by decide) (fun c53 => ?_) (fun c53 => ?_)
      · have c53 : (k / w) ≤ 0 := (nI_leI (a := (k / w)) (b := 0) (by omega) (by omega)).mp c53
        refine lv_iload_n hx hb dX1_neighbor_65 rfl (lv_at hl 3 rfl) ?_
        refine lv_aload_n hx hb dX1_neighbor_66 rfl (lv_at hl 2 rfl) ?_
        refine k_get (pre := []) C0 hw hinX1 rfl 0 (by decide) (hts (.fieldLink RX1 59 "SlabDunes$Field" "rows" "I") (by decide +kernel)) rfl rfl dX1_neighbor_67 ?_
        refine lv_iconst (v := 1) hx hb dX1_neighbor_70 (by decide) ?_
        refine lv_isub hx hb dX1_neighbor_71 ?_
        refine lv_aload_n hx hb dX1_neighbor_72 rfl (lv_at hl 2 rfl) ?_
        refine k_get (pre := []) C0 hw hinX1 rfl 1 (by decide) (hts (.fieldLink RX1 62 "SlabDunes$Field" "columns" "I") (by decide +kernel)) rfl rfl dX1_neighbor_73 ?_
        refine lv_imul hx hb dX1_neighbor_76 ?_
        refine lv_iadd hx hb dX1_neighbor_77 ?_
        -- leaf 2
        exact k_iret C0 hr hlk hw () (rfl) (nbr_01 hG (by omega) (by omega)) (Nat.le_of_ble_eq_true rfl) (Nat.le_of_ble_eq_true rfl) dX1_neighbor_78
      · have c53 : ¬ (k / w) ≤ 0 := fun h99 => c53 ((nI_leI (a := (k / w)) (b := 0) (by omega) (by omega)).mpr h99)
        refine lv_iload_n hx hb dX1_neighbor_56 rfl (lv_at hl 3 rfl) ?_
        refine lv_aload_n hx hb dX1_neighbor_57 rfl (lv_at hl 2 rfl) ?_
        refine k_get (pre := []) C0 hw hinX1 rfl 1 (by decide) (hts (.fieldLink RX1 62 "SlabDunes$Field" "columns" "I") (by decide +kernel)) rfl rfl dX1_neighbor_58 ?_
        refine lv_isub hx hb dX1_neighbor_61 ?_
        refine lv_goto (tgt := 78) hx hb dX1_neighbor_62 (by decide) ?_
        -- leaf 3
        exact k_iret C0 hr hlk hw () (rfl) (nbr_00 (by omega) (by omega)) (Nat.le_of_ble_eq_true rfl) (Nat.le_of_ble_eq_true rfl) dX1_neighbor_78
    · refine lv_tableIn (tgt := 79) (off := 54) hx hb dX1_neighbor_25 (by rw [hs25]; decide) (by rw [hs25]; decide) (by rw [hs25]; rfl) (by decide) ?_
      have hk25 : j = 1 := by omega
      refine lv_iload hx hb dX1_neighbor_79 (lv_at hl 0 rfl) ?_
      refine lv_aload_n hx hb dX1_neighbor_81 rfl (lv_at hl 2 rfl) ?_
      refine k_get (pre := []) C0 hw hinX1 rfl 1 (by decide) (hts (.fieldLink RX1 62 "SlabDunes$Field" "columns" "I") (by decide +kernel)) rfl rfl dX1_neighbor_82 ?_
      refine lv_iconst (v := 1) hx hb dX1_neighbor_85 (by decide) ?_
      refine lv_isub hx hb dX1_neighbor_86 ?_
      refine W.eq (g2 := F0 mm 87 ls [.int (nI (w - 1)), .int (nI (k % w))]) (congrArg (fun z9 => F0 mm 87 ls [.int z9, .int (nI (k % w))]) (show ((nI w) - 1 : Int32) = nI (w - 1) from pk_sub (b := 1) (by omega))) ?_
      refine lv_icmp_ge (tgt := 96) hx hb dX1_neighbor_87 (by decide) (fun c87 => ?_) (fun c87 => ?_)
      · have c87 : (w - 1) ≤ (k % w) := (nI_leI (a := (w - 1)) (b := (k % w)) (by omega) (by omega)).mp c87
        refine lv_iload_n hx hb dX1_neighbor_96 rfl (lv_at hl 3 rfl) ?_
        refine lv_iload hx hb dX1_neighbor_97 (lv_at hl 0 rfl) ?_
        refine lv_isub hx hb dX1_neighbor_99 ?_
        -- leaf 4
        exact k_iret C0 hr hlk hw () (rfl) (nbr_11 (by omega) (by omega)) (Nat.le_of_ble_eq_true rfl) (Nat.le_of_ble_eq_true rfl) dX1_neighbor_100
      · have c87 : ¬ (w - 1) ≤ (k % w) := fun h99 => c87 ((nI_leI (a := (w - 1)) (b := (k % w)) (by omega) (by omega)).mpr h99)
        refine lv_iload_n hx hb dX1_neighbor_90 rfl (lv_at hl 3 rfl) ?_
        refine lv_iconst (v := 1) hx hb dX1_neighbor_91 (by decide) ?_
        refine lv_iadd hx hb dX1_neighbor_92 ?_
        refine lv_goto (tgt := 100) hx hb dX1_neighbor_93 (by decide) ?_
        -- leaf 5
        exact k_iret C0 hr hlk hw () (rfl) (nbr_10 (by omega) (by omega)) (Nat.le_of_ble_eq_true rfl) (Nat.le_of_ble_eq_true rfl) dX1_neighbor_100
    · refine lv_tableIn (tgt := 101) (off := 76) hx hb dX1_neighbor_25 (by rw [hs25]; decide) (by rw [hs25]; decide) (by rw [hs25]; rfl) (by decide) ?_
      have hk25 : j = 2 := by omega
      refine lv_iload_n hx hb dX1_neighbor_101 rfl (lv_at hl 1 rfl) ?_
      refine lv_aload_n hx hb dX1_neighbor_102 rfl (lv_at hl 2 rfl) ?_
      refine k_get (pre := []) C0 hw hinX1 rfl 0 (by decide) (hts (.fieldLink RX1 59 "SlabDunes$Field" "rows" "I") (by decide +kernel)) rfl rfl dX1_neighbor_103 ?_
      refine lv_iconst (v := 1) hx hb dX1_neighbor_106 (by decide) ?_
      refine lv_isub hx hb dX1_neighbor_107 ?_
      refine W.eq (g2 := F0 mm 108 ls [.int (nI (h - 1)), .int (nI (k / w))]) (congrArg (fun z9 => F0 mm 108 ls [.int z9, .int (nI (k / w))]) (show ((nI h) - 1 : Int32) = nI (h - 1) from pk_sub (b := 1) (by omega))) ?_
      refine lv_icmp_ge (tgt := 120) hx hb dX1_neighbor_108 (by decide) (fun c108 => ?_) (fun c108 => ?_)
      · have c108 : (h - 1) ≤ (k / w) := (nI_leI (a := (h - 1)) (b := (k / w)) (by omega) (by omega)).mp c108
        refine lv_iload hx hb dX1_neighbor_120 (lv_at hl 0 rfl) ?_
        -- leaf 6
        exact k_iret C0 hr hlk hw () (rfl) (nbr_21 (by omega) (by omega)) (Nat.le_of_ble_eq_true rfl) (Nat.le_of_ble_eq_true rfl) dX1_neighbor_122
      · have c108 : ¬ (h - 1) ≤ (k / w) := fun h99 => c108 ((nI_leI (a := (h - 1)) (b := (k / w)) (by omega) (by omega)).mpr h99)
        refine lv_iload_n hx hb dX1_neighbor_111 rfl (lv_at hl 3 rfl) ?_
        refine lv_aload_n hx hb dX1_neighbor_112 rfl (lv_at hl 2 rfl) ?_
        refine k_get (pre := []) C0 hw hinX1 rfl 1 (by decide) (hts (.fieldLink RX1 62 "SlabDunes$Field" "columns" "I") (by decide +kernel)) rfl rfl dX1_neighbor_113 ?_
        refine lv_iadd hx hb dX1_neighbor_116 ?_
        refine lv_goto (tgt := 122) hx hb dX1_neighbor_117 (by decide) ?_
        -- leaf 7
        exact k_iret C0 hr hlk hw () (rfl) (nbr_20 (by omega) (by omega)) (Nat.le_of_ble_eq_true rfl) (Nat.le_of_ble_eq_true rfl) dX1_neighbor_122

abbrev rmX1_downwindSide : Room := { frames := 0, cells := 0, slots := 0, locals := 0 }
set_option maxHeartbeats 4000000 in
set_option maxRecDepth 100000 in
theorem c_X1_downwindSide (l : Launch) (E : kE) (a : Nat → Nat) (h : Nat) (w : Nat) (s0 : Int32) (z : Int32) (d : Nat) (st : Nat → Int32) (he : Nat → Int32) (ke : Nat → Int32) (tu : Nat → Int32) (ca : Nat → Int32) (tr : Nat → Int32) (co : Nat → Int32) (la : Nat → Int32) (hG : kG h w) (hd : d < 4) : kC E l yX1_downwindSide wsX1_downwindSide rmX1_downwindSide [.ref (a 0)] (fc E a (nI h) (nI w) (nI d) s0 z st he ke tu ca tr co la) kI (fun (r : Int32) (_ : Unit) => r = nI ((d + 1) % 4)) (fun _ => fc E a (nI h) (nI w) (nI d) s0 z st he ke tu ca tr co la) 0 0 := by
  refine k_body (cc := cX1_downwindSide) (maxL := 1) (ret := (some .int)) (by decide) rfl (Nat.le_of_ble_eq_true rfl) ?_
  intro pp ee sx mm aa bb me cd H locs AA ls C0 hr hlk hnm hl hw
  obtain ⟨hx, hb, hml, hown, hts⟩ := id C0
  have hl : lv_has ls 1 [(0, .ref (a 0))] := hl
  have hw : kW E AA sx (List.flatten [oc (a 0) 1 [.int (nI h), .int (nI w), .int (nI d), .int s0, .int z, .ref (a 1), .ref (a 2), .ref (a 3), .ref (a 4), .ref (a 5), .ref (a 6), .ref (a 7), .ref (a 8)], rc E (a 1) (a 9) 4 st, rc E (a 2) (a 10) 192 he, rc E (a 3) (a 11) 192 ke, rc E (a 4) (a 12) 192 tu, rc E (a 5) (a 13) 192 ca, rc E (a 6) (a 14) 192 tr, rc E (a 7) (a 15) 12 co, rc E (a 8) (a 16) 4 la]) H locs := hw
  have hn9 := kG_n hG
  have hG9 := id hG
  obtain ⟨hG1, hG2, hG3, hG4⟩ := hG9
  have hinX1 : ∀ w ∈ u_ws RX1 TX1 13, w ∈ wsX1_downwindSide := by decide +kernel
  refine lv_aload_n hx hb dX1_downwindSide_0 rfl (lv_at hl 0 rfl) ?_
  refine k_get (pre := []) C0 hw hinX1 rfl 2 (by decide) (hts (.fieldLink RX1 52 "SlabDunes$Field" "wind" "I") (by decide +kernel)) rfl rfl dX1_downwindSide_1 ?_
  refine lv_iconst (v := 1) hx hb dX1_downwindSide_4 (by decide) ?_
  refine lv_iadd hx hb dX1_downwindSide_5 ?_
  refine W.eq (g2 := F0 mm 6 ls [.int (nI (d + 1))]) (congrArg (fun z9 => F0 mm 6 ls [.int z9]) (show ((nI d) + 1 : Int32) = nI (d + 1) from nI_1 _)) ?_
  refine lv_iconst (v := 4) hx hb dX1_downwindSide_6 (by decide) ?_
  refine lv_irem hx hb dX1_downwindSide_7 (by decide) ?_
  refine W.eq (g2 := F0 mm 8 ls [.int (nI ((d + 1) % 4))]) (congrArg (fun z9 => F0 mm 8 ls [.int z9]) (show ((nI (d + 1)) - (nI (d + 1)) / 4 * 4 : Int32) = nI ((d + 1) % 4) from pk_rem (d := 4) (by omega) (by omega) (by omega))) ?_
  -- leaf 0
  exact k_iret C0 hr hlk hw () (rfl) (rfl) (Nat.le_of_ble_eq_true rfl) (Nat.le_of_ble_eq_true rfl) dX1_downwindSide_8

abbrev rmX1_upwindSide : Room := { frames := 0, cells := 0, slots := 0, locals := 0 }
set_option maxHeartbeats 4000000 in
set_option maxRecDepth 100000 in
theorem c_X1_upwindSide (l : Launch) (E : kE) (a : Nat → Nat) (h : Nat) (w : Nat) (s0 : Int32) (z : Int32) (d : Nat) (st : Nat → Int32) (he : Nat → Int32) (ke : Nat → Int32) (tu : Nat → Int32) (ca : Nat → Int32) (tr : Nat → Int32) (co : Nat → Int32) (la : Nat → Int32) (hG : kG h w) (hd : d < 4) : kC E l yX1_upwindSide wsX1_upwindSide rmX1_upwindSide [.ref (a 0)] (fc E a (nI h) (nI w) (nI d) s0 z st he ke tu ca tr co la) kI (fun (r : Int32) (_ : Unit) => r = nI ((d + 3) % 4)) (fun _ => fc E a (nI h) (nI w) (nI d) s0 z st he ke tu ca tr co la) 0 0 := by
  refine k_body (cc := cX1_upwindSide) (maxL := 1) (ret := (some .int)) (by decide) rfl (Nat.le_of_ble_eq_true rfl) ?_
  intro pp ee sx mm aa bb me cd H locs AA ls C0 hr hlk hnm hl hw
  obtain ⟨hx, hb, hml, hown, hts⟩ := id C0
  have hl : lv_has ls 1 [(0, .ref (a 0))] := hl
  have hw : kW E AA sx (List.flatten [oc (a 0) 1 [.int (nI h), .int (nI w), .int (nI d), .int s0, .int z, .ref (a 1), .ref (a 2), .ref (a 3), .ref (a 4), .ref (a 5), .ref (a 6), .ref (a 7), .ref (a 8)], rc E (a 1) (a 9) 4 st, rc E (a 2) (a 10) 192 he, rc E (a 3) (a 11) 192 ke, rc E (a 4) (a 12) 192 tu, rc E (a 5) (a 13) 192 ca, rc E (a 6) (a 14) 192 tr, rc E (a 7) (a 15) 12 co, rc E (a 8) (a 16) 4 la]) H locs := hw
  have hn9 := kG_n hG
  have hG9 := id hG
  obtain ⟨hG1, hG2, hG3, hG4⟩ := hG9
  have hinX1 : ∀ w ∈ u_ws RX1 TX1 13, w ∈ wsX1_upwindSide := by decide +kernel
  refine lv_aload_n hx hb dX1_upwindSide_0 rfl (lv_at hl 0 rfl) ?_
  refine k_get (pre := []) C0 hw hinX1 rfl 2 (by decide) (hts (.fieldLink RX1 52 "SlabDunes$Field" "wind" "I") (by decide +kernel)) rfl rfl dX1_upwindSide_1 ?_
  refine lv_iconst (v := 3) hx hb dX1_upwindSide_4 (by decide) ?_
  refine lv_iadd hx hb dX1_upwindSide_5 ?_
  refine W.eq (g2 := F0 mm 6 ls [.int (nI (d + 3))]) (congrArg (fun z9 => F0 mm 6 ls [.int z9]) (show ((nI d) + 3 : Int32) = nI (d + 3) from nI_add d 3)) ?_
  refine lv_iconst (v := 4) hx hb dX1_upwindSide_6 (by decide) ?_
  refine lv_irem hx hb dX1_upwindSide_7 (by decide) ?_
  refine W.eq (g2 := F0 mm 8 ls [.int (nI ((d + 3) % 4))]) (congrArg (fun z9 => F0 mm 8 ls [.int z9]) (show ((nI (d + 3)) - (nI (d + 3)) / 4 * 4 : Int32) = nI ((d + 3) % 4) from pk_rem (d := 4) (by omega) (by omega) (by omega))) ?_
  -- leaf 0
  exact k_iret C0 hr hlk hw () (rfl) (rfl) (Nat.le_of_ble_eq_true rfl) (Nat.le_of_ble_eq_true rfl) dX1_upwindSide_8

abbrev rmX1_inShadow : Room := { frames := 1, cells := 0, slots := 0, locals := 24 }
set_option maxHeartbeats 4000000 in
set_option maxRecDepth 100000 in
theorem c_X1_inShadow (l : Launch) (E : kE) (a : Nat → Nat) (h : Nat) (w : Nat) (s0 : Int32) (z : Int32) (d : Nat) (st : Nat → Int32) (he : Nat → Int32) (ke : Nat → Int32) (tu : Nat → Int32) (ca : Nat → Int32) (tr : Nat → Int32) (co : Nat → Int32) (la : Nat → Int32) (k : Nat) (hG : kG h w) (hc : k < h * w) (hd : d < 4) : kC E l yX1_inShadow wsX1_inShadow rmX1_inShadow [.ref (a 0), .int (nI k)] (fc E a (nI h) (nI w) (nI d) s0 z st he ke tu ca tr co la) kI (fun (r : Int32) (_ : Unit) => r = if shd h w d he k then 1 else 0) (fun _ => fc E a (nI h) (nI w) (nI d) s0 z st he ke tu ca tr co la) 0 0 := by
  refine k_body (cc := cX1_inShadow) (maxL := 7) (ret := (some .boolean)) (by decide) rfl (Nat.le_of_ble_eq_true rfl) ?_
  intro pp ee sx mm aa bb me cd H locs AA ls C0 hr hlk hnm hl hw
  obtain ⟨hx, hb, hml, hown, hts⟩ := id C0
  have hl : lv_has ls 7 [(0, .ref (a 0)), (1, .int (nI k))] := hl
  have hw : kW E AA sx (List.flatten [oc (a 0) 1 [.int (nI h), .int (nI w), .int (nI d), .int s0, .int z, .ref (a 1), .ref (a 2), .ref (a 3), .ref (a 4), .ref (a 5), .ref (a 6), .ref (a 7), .ref (a 8)], rc E (a 1) (a 9) 4 st, rc E (a 2) (a 10) 192 he, rc E (a 3) (a 11) 192 ke, rc E (a 4) (a 12) 192 tu, rc E (a 5) (a 13) 192 ca, rc E (a 6) (a 14) 192 tr, rc E (a 7) (a 15) 12 co, rc E (a 8) (a 16) 4 la]) H locs := hw
  have hn9 := kG_n hG
  have hG9 := id hG
  obtain ⟨hG1, hG2, hG3, hG4⟩ := hG9
  have hinX1 : ∀ w ∈ u_ws RX1 TX1 13, w ∈ wsX1_inShadow := by decide +kernel
  refine lv_aload_n hx hb dX1_inShadow_0 rfl (lv_at hl 0 rfl) ?_
  refine k_V (As := []) (rest := []) (pre := []) (mid := [oc (a 0) 1 [.int (nI h), .int (nI w), .int (nI d), .int s0, .int z, .ref (a 1), .ref (a 2), .ref (a 3), .ref (a 4), .ref (a 5), .ref (a 6), .ref (a 7), .ref (a 8)], rc E (a 1) (a 9) 4 st, rc E (a 2) (a 10) 192 he, rc E (a 3) (a 11) 192 ke, rc E (a 4) (a 12) 192 tu, rc E (a 5) (a 13) 192 ca, rc E (a 6) (a 14) 192 tr, rc E (a 7) (a 15) 12 co, rc E (a 8) (a 16) 4 la]) C0 (c_X1_upwindSide l E a h w s0 z d st he ke tu ca tr co la (by first | assumption | omega) (by first | assumption | omega)) (cwV 0 hts gX1_inShadow_X1_upwindSide rfl rfl rfl (by decide +kernel) ⟨Nat.le_of_ble_eq_true rfl, Nat.le_of_ble_eq_true rfl⟩) hw rfl (fun _ => [oc (a 0) 1 [.int (nI h), .int (nI w), .int (nI d), .int s0, .int z, .ref (a 1), .ref (a 2), .ref (a 3), .ref (a 4), .ref (a 5), .ref (a 6), .ref (a 7), .ref (a 8)], rc E (a 1) (a 9) 4 st, rc E (a 2) (a 10) 192 he, rc E (a 3) (a 11) 192 ke, rc E (a 4) (a 12) 192 tu, rc E (a 5) (a 13) 192 ca, rc E (a 6) (a 14) 192 tr, rc E (a 7) (a 15) 12 co, rc E (a 8) (a 16) 4 la]) (fun _ => rfl) 0 1 rfl rfl rfl rfl hl.1 rfl (Nat.le_of_ble_eq_true rfl) dX1_inShadow_1 ⟨Nat.le_of_ble_eq_true rfl, Nat.le_of_ble_eq_true rfl⟩ (fun r u H locs hq99 hw => ?_)
  subst hq99
  have hw : kW E AA sx (List.flatten [oc (a 0) 1 [.int (nI h), .int (nI w), .int (nI d), .int s0, .int z, .ref (a 1), .ref (a 2), .ref (a 3), .ref (a 4), .ref (a 5), .ref (a 6), .ref (a 7), .ref (a 8)], rc E (a 1) (a 9) 4 st, rc E (a 2) (a 10) 192 he, rc E (a 3) (a 11) 192 ke, rc E (a 4) (a 12) 192 tu, rc E (a 5) (a 13) 192 ca, rc E (a 6) (a 14) 192 tr, rc E (a 7) (a 15) 12 co, rc E (a 8) (a 16) 4 la]) H locs := hw
  refine W.eq (g2 := F0 mm 4 ls [.int (nI ((d + 3) % 4))]) rfl ?_
  refine lv_istore_n (lv' := [(2, .int (nI ((d + 3) % 4))), (0, .ref (a 0)), (1, .int (nI k))]) hx hb dX1_inShadow_4 rfl hl (by decide) rfl (fun ls hl => ?_)
  have join5 : ∀ (H : Heap) (locs : List Loc) (ls : Array Slot), lv_has ls 7 [(2, .int (nI ((d + 3) % 4))), (0, .ref (a 0)), (1, .int (nI k))] → kW E AA sx (List.flatten [oc (a 0) 1 [.int (nI h), .int (nI w), .int (nI d), .int s0, .int z, .ref (a 1), .ref (a 2), .ref (a 3), .ref (a 4), .ref (a 5), .ref (a 6), .ref (a 7), .ref (a 8)], rc E (a 1) (a 9) 4 st, rc E (a 2) (a 10) 192 he, rc E (a 3) (a 11) 192 ke, rc E (a 4) (a 12) 192 tu, rc E (a 5) (a 13) 192 ca, rc E (a 6) (a 14) 192 tr, rc E (a 7) (a 15) 12 co, rc E (a 8) (a 16) 4 la]) H locs → W pp l ee rmX1_inShadow sx mm aa bb me cd H locs 0 0 (kEnd E kI (fun (r : Int32) (_ : Unit) => r = if shd h w d he k then 1 else 0) (fun _ => fc E a (nI h) (nI w) (nI d) s0 z st he ke tu ca tr co la) bb aa sx AA 0 0) (F0 mm 25 ls [.int (nI (lineN d h w))]) := by
    intro H locs ls hl hw
    have hL9 : lineN d h w ≤ 16 := by unfold lineN; split <;> omega
    refine lv_istore_n (lv' := [(3, .int (nI (lineN d h w))), (2, .int (nI ((d + 3) % 4))), (0, .ref (a 0)), (1, .int (nI k))]) hx hb dX1_inShadow_25 rfl hl (by decide) rfl (fun ls hl => ?_)
    refine lv_aload_n hx hb dX1_inShadow_26 rfl (lv_at hl 2 rfl) ?_
    refine k_get (pre := []) C0 hw hinX1 rfl 6 (by decide) (hts (.fieldLink RX1 20 "SlabDunes$Field" "heights" "LSlabDunes$Row;") (by decide +kernel)) rfl rfl dX1_inShadow_27 ?_
    refine lv_iload_n hx hb dX1_inShadow_30 rfl (lv_at hl 3 rfl) ?_
    refine k_V (As := [.int (nI k)]) (rest := []) (pre := [oc (a 0) 1 [.int (nI h), .int (nI w), .int (nI d), .int s0, .int z, .ref (a 1), .ref (a 2), .ref (a 3), .ref (a 4), .ref (a 5), .ref (a 6), .ref (a 7), .ref (a 8)], rc E (a 1) (a 9) 4 st]) (mid := [rc E (a 2) (a 10) 192 he]) C0 (c_X4_atN l E (a 2) (a 10) 192 he k (by first | assumption | omega) (by first | assumption | omega)) (cwV 1 hts gX1_inShadow_X4_at rfl rfl rfl (by decide +kernel) ⟨Nat.le_of_ble_eq_true rfl, Nat.le_of_ble_eq_true rfl⟩) hw rfl (fun _ => [rc E (a 2) (a 10) 192 he]) (fun _ => rfl) 0 4 rfl rfl rfl rfl hl.1 rfl (Nat.le_of_ble_eq_true rfl) dX1_inShadow_31 ⟨Nat.le_of_ble_eq_true rfl, Nat.le_of_ble_eq_true rfl⟩ (fun r u H locs hq99 hw => ?_)
    subst hq99
    have hw : kW E AA sx (List.flatten [oc (a 0) 1 [.int (nI h), .int (nI w), .int (nI d), .int s0, .int z, .ref (a 1), .ref (a 2), .ref (a 3), .ref (a 4), .ref (a 5), .ref (a 6), .ref (a 7), .ref (a 8)], rc E (a 1) (a 9) 4 st, rc E (a 2) (a 10) 192 he, rc E (a 3) (a 11) 192 ke, rc E (a 4) (a 12) 192 tu, rc E (a 5) (a 13) 192 ca, rc E (a 6) (a 14) 192 tr, rc E (a 7) (a 15) 12 co, rc E (a 8) (a 16) 4 la]) H locs := hw
    refine W.eq (g2 := F0 mm 34 ls [.int (he k)]) rfl ?_
    refine lv_istore (lv' := [(4, .int (he k)), (3, .int (nI (lineN d h w))), (2, .int (nI ((d + 3) % 4))), (0, .ref (a 0)), (1, .int (nI k))]) hx hb dX1_inShadow_34 hl (by decide) rfl (fun ls hl => ?_)
    refine lv_iload_n hx hb dX1_inShadow_36 rfl (lv_at hl 4 rfl) ?_
    refine lv_istore (lv' := [(5, .int (nI k)), (4, .int (he k)), (3, .int (nI (lineN d h w))), (2, .int (nI ((d + 3) % 4))), (0, .ref (a 0)), (1, .int (nI k))]) hx hb dX1_inShadow_37 hl (by decide) rfl (fun ls hl => ?_)
    refine lv_iconst (v := 1) hx hb dX1_inShadow_39 (by decide) ?_
    refine lv_istore (lv' := [(6, .int 1), (5, .int (nI k)), (4, .int (he k)), (3, .int (nI (lineN d h w))), (2, .int (nI ((d + 3) % 4))), (0, .ref (a 0)), (1, .int (nI k))]) hx hb dX1_inShadow_40 hl (by decide) rfl (fun ls hl => ?_)
    have loop42 : ∀ (nn : Nat) (i : Nat), (i + 1 ≤ lineN d h w) → (∀ t, 1 ≤ t → t ≤ i → shc he (upw h w ((d + 3) % 4) k t) k t = false) → lineN d h w - i < nn → ∀ (H : Heap) (locs : List Loc) (ls : Array Slot), lv_has ls 7 [(6, .int (nI (i + 1))), (5, .int (nI (upw h w ((d + 3) % 4) k i))), (4, .int (he k)), (3, .int (nI (lineN d h w))), (2, .int (nI ((d + 3) % 4))), (0, .ref (a 0)), (1, .int (nI k))] → kW E AA sx (List.flatten [oc (a 0) 1 [.int (nI h), .int (nI w), .int (nI d), .int s0, .int z, .ref (a 1), .ref (a 2), .ref (a 3), .ref (a 4), .ref (a 5), .ref (a 6), .ref (a 7), .ref (a 8)], rc E (a 1) (a 9) 4 st, rc E (a 2) (a 10) 192 he, rc E (a 3) (a 11) 192 ke, rc E (a 4) (a 12) 192 tu, rc E (a 5) (a 13) 192 ca, rc E (a 6) (a 14) 192 tr, rc E (a 7) (a 15) 12 co, rc E (a 8) (a 16) 4 la]) H locs → W pp l ee rmX1_inShadow sx mm aa bb me cd H locs 0 0 (kEnd E kI (fun (r : Int32) (_ : Unit) => r = if shd h w d he k then 1 else 0) (fun _ => fc E a (nI h) (nI w) (nI d) s0 z st he ke tu ca tr co la) bb aa sx AA 0 0) (F0 mm 42 ls []) := by
      intro nn
      induction nn with
      | zero => intro i hi hno hm42; exact absurd hm42 (Nat.not_lt_zero _)
      | succ nn ih42 =>
        intro i hi hno hm42 H locs ls hl hw
        refine lv_iload hx hb dX1_inShadow_42 (lv_at hl 0 rfl) ?_
        refine lv_iload_n hx hb dX1_inShadow_44 rfl (lv_at hl 3 rfl) ?_
        refine lv_icmp_ge (tgt := 86) hx hb dX1_inShadow_45 (by decide) (fun c45 => ?_) (fun c45 => ?_)
        · have c45 : (lineN d h w) ≤ (i + 1) := (nI_leI (a := (lineN d h w)) (b := (i + 1)) (by omega) (by omega)).mp c45
          refine lv_iconst (v := 0) hx hb dX1_inShadow_86 (by decide) ?_
          -- leaf 0
          exact k_zret C0 hr hlk hw () (rfl) (shd_miss (by omega) hno) (rfl) (Nat.le_of_ble_eq_true rfl) (Nat.le_of_ble_eq_true rfl) dX1_inShadow_87
        · have c45 : ¬ (lineN d h w) ≤ (i + 1) := fun h99 => c45 ((nI_leI (a := (lineN d h w)) (b := (i + 1)) (by omega) (by omega)).mpr h99)
          refine lv_aload_n hx hb dX1_inShadow_48 rfl (lv_at hl 5 rfl) ?_
          refine lv_iload hx hb dX1_inShadow_49 (lv_at hl 1 rfl) ?_
          refine lv_iload_n hx hb dX1_inShadow_51 rfl (lv_at hl 4 rfl) ?_
          refine k_V (As := [.int (nI (upw h w ((d + 3) % 4) k i)), .int (nI ((d + 3) % 4))]) (rest := []) (pre := []) (mid := [oc (a 0) 1 [.int (nI h), .int (nI w), .int (nI d), .int s0, .int z, .ref (a 1), .ref (a 2), .ref (a 3), .ref (a 4), .ref (a 5), .ref (a 6), .ref (a 7), .ref (a 8)], rc E (a 1) (a 9) 4 st, rc E (a 2) (a 10) 192 he, rc E (a 3) (a 11) 192 ke, rc E (a 4) (a 12) 192 tu, rc E (a 5) (a 13) 192 ca, rc E (a 6) (a 14) 192 tr, rc E (a 7) (a 15) 12 co, rc E (a 8) (a 16) 4 la]) C0 (c_X1_neighbor l E a h w (nI d) s0 z st he ke tu ca tr co la (upw h w ((d + 3) % 4) k i) ((d + 3) % 4) (by first | assumption | omega) (upw_lt hG hc i) (by omega)) (cwV 2 hts gX1_inShadow_X1_neighbor rfl rfl rfl (by decide +kernel) ⟨Nat.le_of_ble_eq_true rfl, Nat.le_of_ble_eq_true rfl⟩) hw rfl (fun _ => [oc (a 0) 1 [.int (nI h), .int (nI w), .int (nI d), .int s0, .int z, .ref (a 1), .ref (a 2), .ref (a 3), .ref (a 4), .ref (a 5), .ref (a 6), .ref (a 7), .ref (a 8)], rc E (a 1) (a 9) 4 st, rc E (a 2) (a 10) 192 he, rc E (a 3) (a 11) 192 ke, rc E (a 4) (a 12) 192 tu, rc E (a 5) (a 13) 192 ca, rc E (a 6) (a 14) 192 tr, rc E (a 7) (a 15) 12 co, rc E (a 8) (a 16) 4 la]) (fun _ => rfl) 0 1 rfl rfl rfl rfl hl.1 rfl (Nat.le_of_ble_eq_true rfl) dX1_inShadow_52 ⟨Nat.le_of_ble_eq_true rfl, Nat.le_of_ble_eq_true rfl⟩ (fun r u H locs hq99 hw => ?_)
          subst hq99
          have hw : kW E AA sx (List.flatten [oc (a 0) 1 [.int (nI h), .int (nI w), .int (nI d), .int s0, .int z, .ref (a 1), .ref (a 2), .ref (a 3), .ref (a 4), .ref (a 5), .ref (a 6), .ref (a 7), .ref (a 8)], rc E (a 1) (a 9) 4 st, rc E (a 2) (a 10) 192 he, rc E (a 3) (a 11) 192 ke, rc E (a 4) (a 12) 192 tu, rc E (a 5) (a 13) 192 ca, rc E (a 6) (a 14) 192 tr, rc E (a 7) (a 15) 12 co, rc E (a 8) (a 16) 4 la]) H locs := hw
          refine W.eq (g2 := F0 mm 55 ls [.int (nI (nbr h w (upw h w ((d + 3) % 4) k i) ((d + 3) % 4)))]) rfl ?_
          refine W.eq (g2 := F0 mm 55 ls [.int (nI (upw h w ((d + 3) % 4) k (i + 1)))]) (congrArg (fun z9 => F0 mm 55 ls [.int z9]) (show (nI (nbr h w (upw h w ((d + 3) % 4) k i) ((d + 3) % 4)) : Int32) = nI (upw h w ((d + 3) % 4) k (i + 1)) from rfl)) ?_
          refine lv_istore (lv' := [(5, .int (nI (upw h w ((d + 3) % 4) k (i + 1)))), (6, .int (nI (i + 1))), (4, .int (he k)), (3, .int (nI (lineN d h w))), (2, .int (nI ((d + 3) % 4))), (0, .ref (a 0)), (1, .int (nI k))]) hx hb dX1_inShadow_55 hl (by decide) rfl (fun ls hl => ?_)
          refine lv_aload_n hx hb dX1_inShadow_57 rfl (lv_at hl 5 rfl) ?_
          refine k_get (pre := []) C0 hw hinX1 rfl 6 (by decide) (hts (.fieldLink RX1 20 "SlabDunes$Field" "heights" "LSlabDunes$Row;") (by decide +kernel)) rfl rfl dX1_inShadow_58 ?_
          refine lv_iload hx hb dX1_inShadow_61 (lv_at hl 0 rfl) ?_
          refine k_V (As := [.int (nI (upw h w ((d + 3) % 4) k (i + 1)))]) (rest := []) (pre := [oc (a 0) 1 [.int (nI h), .int (nI w), .int (nI d), .int s0, .int z, .ref (a 1), .ref (a 2), .ref (a 3), .ref (a 4), .ref (a 5), .ref (a 6), .ref (a 7), .ref (a 8)], rc E (a 1) (a 9) 4 st]) (mid := [rc E (a 2) (a 10) 192 he]) C0 (c_X4_atN l E (a 2) (a 10) 192 he (upw h w ((d + 3) % 4) k (i + 1)) (Nat.lt_of_lt_of_le (upw_lt hG hc (i + 1)) hn9.1) (by first | assumption | omega)) (cwV 1 hts gX1_inShadow_X4_at rfl rfl rfl (by decide +kernel) ⟨Nat.le_of_ble_eq_true rfl, Nat.le_of_ble_eq_true rfl⟩) hw rfl (fun _ => [rc E (a 2) (a 10) 192 he]) (fun _ => rfl) 0 4 rfl rfl rfl rfl hl.1 rfl (Nat.le_of_ble_eq_true rfl) dX1_inShadow_63 ⟨Nat.le_of_ble_eq_true rfl, Nat.le_of_ble_eq_true rfl⟩ (fun r u H locs hq99 hw => ?_)
          subst hq99
          have hw : kW E AA sx (List.flatten [oc (a 0) 1 [.int (nI h), .int (nI w), .int (nI d), .int s0, .int z, .ref (a 1), .ref (a 2), .ref (a 3), .ref (a 4), .ref (a 5), .ref (a 6), .ref (a 7), .ref (a 8)], rc E (a 1) (a 9) 4 st, rc E (a 2) (a 10) 192 he, rc E (a 3) (a 11) 192 ke, rc E (a 4) (a 12) 192 tu, rc E (a 5) (a 13) 192 ca, rc E (a 6) (a 14) 192 tr, rc E (a 7) (a 15) 12 co, rc E (a 8) (a 16) 4 la]) H locs := hw
          refine W.eq (g2 := F0 mm 66 ls [.int (he (upw h w ((d + 3) % 4) k (i + 1)))]) rfl ?_
          refine lv_iload hx hb dX1_inShadow_66 (lv_at hl 2 rfl) ?_
          refine lv_isub hx hb dX1_inShadow_68 ?_
          refine lv_iconst (v := 5) hx hb dX1_inShadow_69 (by decide) ?_
          refine lv_imul hx hb dX1_inShadow_70 ?_
          refine lv_iconst (v := 4) hx hb dX1_inShadow_71 (by decide) ?_
          refine lv_iload hx hb dX1_inShadow_72 (lv_at hl 1 rfl) ?_
          refine lv_imul hx hb dX1_inShadow_74 ?_
          refine lv_icmp_le (tgt := 80) hx hb dX1_inShadow_75 (by decide) (fun c75 => ?_) (fun c75 => ?_)
          · refine lv_iinc (v := nI (i + 1 + 1)) (lv' := [(6, .int (nI (i + 1 + 1))), (5, .int (nI (upw h w ((d + 3) % 4) k (i + 1)))), (4, .int (he k)), (3, .int (nI (lineN d h w))), (2, .int (nI ((d + 3) % 4))), (0, .ref (a 0)), (1, .int (nI k))]) hx hb dX1_inShadow_80 hl (k := 1) rfl (nI_1 _) (by decide) rfl (fun ls hl => ?_)
            refine lv_goto (tgt := 42) hx hb dX1_inShadow_83 (by decide) ?_
            -- back 0
            exact ih42 (i + 1) (by first | assumption | omega) (shd_step hno c75) (by omega) H _ ls (lv_sub hl [0, 1, 2, 3, 4, 5, 6] rfl) hw
          · refine lv_iconst (v := 1) hx hb dX1_inShadow_78 (by decide) ?_
            -- leaf 1
            exact k_zret C0 hr hlk hw () (rfl) (shd_hit (by omega) c75) (rfl) (Nat.le_of_ble_eq_true rfl) (Nat.le_of_ble_eq_true rfl) dX1_inShadow_79
    exact loop42 ((lineN d h w - 0) + 1) 0 (by unfold lineN; split <;> omega) (fun t h1 h2 => absurd h2 (by omega)) (Nat.lt_succ_self _) H _ ls (lv_sub hl [0, 1, 2, 3, 4, 5, 6] rfl) hw
  refine lv_iload_n hx hb dX1_inShadow_5 rfl (lv_at hl 0 rfl) ?_
  refine lv_if_eq (tgt := 14) hx hb dX1_inShadow_6 (by decide) (fun c6 => ?_) (fun c6 => ?_)
  · have c6 : ((d + 3) % 4) = 0 := (nI_eq (a := ((d + 3) % 4)) (b := 0) (by omega) (by omega)).mp c6
    refine lv_aload_n hx hb dX1_inShadow_14 rfl (lv_at hl 1 rfl) ?_
    refine k_get (pre := []) C0 hw hinX1 rfl 0 (by decide) (hts (.fieldLink RX1 59 "SlabDunes$Field" "rows" "I") (by decide +kernel)) rfl rfl dX1_inShadow_15 ?_
    refine lv_goto (tgt := 25) hx hb dX1_inShadow_18 (by decide) ?_
    have hL9 : lineN d h w ≤ 16 := by unfold lineN; split <;> omega
    refine W.eq (g2 := F0 mm 25 ls [.int (nI (lineN d h w))]) (congrArg (fun z9 => F0 mm 25 ls [.int z9]) (show (nI h : Int32) = nI (lineN d h w) from by rw [show lineN d h w = h from if_neg (by omega)])) ?_
    exact join5 H _ ls (lv_sub hl [0, 1, 2] rfl) hw
  · have c6 : ¬ ((d + 3) % 4) = 0 := fun h99 => c6 ((nI_eq (a := ((d + 3) % 4)) (b := 0) (by omega) (by omega)).mpr h99)
    refine lv_iload_n hx hb dX1_inShadow_9 rfl (lv_at hl 0 rfl) ?_
    refine lv_iconst (v := 2) hx hb dX1_inShadow_10 (by decide) ?_
    refine lv_icmp_ne (tgt := 21) hx hb dX1_inShadow_11 (by decide) (fun c11 => ?_) (fun c11 => ?_)
    · have c11 : ¬ ((d + 3) % 4) = 2 := fun h99 => c11 ((nI_eq (a := ((d + 3) % 4)) (b := 2) (by omega) (by omega)).mpr h99)
      refine lv_aload_n hx hb dX1_inShadow_21 rfl (lv_at hl 1 rfl) ?_
      refine k_get (pre := []) C0 hw hinX1 rfl 1 (by decide) (hts (.fieldLink RX1 62 "SlabDunes$Field" "columns" "I") (by decide +kernel)) rfl rfl dX1_inShadow_22 ?_
      have hL9 : lineN d h w ≤ 16 := by unfold lineN; split <;> omega
      refine W.eq (g2 := F0 mm 25 ls [.int (nI (lineN d h w))]) (congrArg (fun z9 => F0 mm 25 ls [.int z9]) (show (nI w : Int32) = nI (lineN d h w) from by rw [show lineN d h w = w from if_pos (by omega)])) ?_
      exact join5 H _ ls (lv_sub hl [0, 1, 2] rfl) hw
    · have c11 : ((d + 3) % 4) = 2 := (nI_eq (a := ((d + 3) % 4)) (b := 2) (by omega) (by omega)).mp c11
      refine lv_aload_n hx hb dX1_inShadow_14 rfl (lv_at hl 1 rfl) ?_
      refine k_get (pre := []) C0 hw hinX1 rfl 0 (by decide) (hts (.fieldLink RX1 59 "SlabDunes$Field" "rows" "I") (by decide +kernel)) rfl rfl dX1_inShadow_15 ?_
      refine lv_goto (tgt := 25) hx hb dX1_inShadow_18 (by decide) ?_
      have hL9 : lineN d h w ≤ 16 := by unfold lineN; split <;> omega
      refine W.eq (g2 := F0 mm 25 ls [.int (nI (lineN d h w))]) (congrArg (fun z9 => F0 mm 25 ls [.int z9]) (show (nI h : Int32) = nI (lineN d h w) from by rw [show lineN d h w = h from if_neg (by omega)])) ?_
      exact join5 H _ ls (lv_sub hl [0, 1, 2] rfl) hw

abbrev rmX1_draw : Room := { frames := 0, cells := 0, slots := 0, locals := 0 }
set_option maxHeartbeats 4000000 in
set_option maxRecDepth 100000 in
theorem c_X1_draw (l : Launch) (E : kE) (a : Nat → Nat) (h : Nat) (w : Nat) (wd : Int32) (z : Int32) (n0 : Nat) (st : Nat → Int32) (he : Nat → Int32) (ke : Nat → Int32) (tu : Nat → Int32) (ca : Nat → Int32) (tr : Nat → Int32) (co : Nat → Int32) (la : Nat → Int32) (m9 : Nat) (hG : kG h w) (hn0 : n0 < 2147483648) (hm : 0 < m9) (hm2 : m9 < 2147483648) : kC E l yX1_draw wsX1_draw rmX1_draw [.ref (a 0), .int (nI m9)] (fc E a (nI h) (nI w) wd (nI n0) z st he ke tu ca tr co la) kI (fun (r : Int32) (_ : Unit) => r = nI (drwS n0 / 65536 % m9)) (fun _ => fc E a (nI h) (nI w) wd (nI (drwS n0)) z st he ke tu ca tr co la) 0 0 := by
  refine k_body (cc := cX1_draw) (maxL := 2) (ret := (some .int)) (by decide) rfl (Nat.le_of_ble_eq_true rfl) ?_
  intro pp ee sx mm aa bb me cd H locs AA ls C0 hr hlk hnm hl hw
  obtain ⟨hx, hb, hml, hown, hts⟩ := id C0
  have hl : lv_has ls 2 [(0, .ref (a 0)), (1, .int (nI m9))] := hl
  have hw : kW E AA sx (List.flatten [oc (a 0) 1 [.int (nI h), .int (nI w), .int wd, .int (nI n0), .int z, .ref (a 1), .ref (a 2), .ref (a 3), .ref (a 4), .ref (a 5), .ref (a 6), .ref (a 7), .ref (a 8)], rc E (a 1) (a 9) 4 st, rc E (a 2) (a 10) 192 he, rc E (a 3) (a 11) 192 ke, rc E (a 4) (a 12) 192 tu, rc E (a 5) (a 13) 192 ca, rc E (a 6) (a 14) 192 tr, rc E (a 7) (a 15) 12 co, rc E (a 8) (a 16) 4 la]) H locs := hw
  have hn9 := kG_n hG
  have hG9 := id hG
  obtain ⟨hG1, hG2, hG3, hG4⟩ := hG9
  have hinX1 : ∀ w ∈ u_ws RX1 TX1 13, w ∈ wsX1_draw := by decide +kernel
  refine lv_aload_n hx hb dX1_draw_0 rfl (lv_at hl 0 rfl) ?_
  refine lv_ldc2 (v := 1103515245) hx hb hown (hts (.constantLong RX1 100 1103515245) (by decide +kernel)) dX1_draw_1 ?_
  refine lv_aload_n hx hb dX1_draw_4 rfl (lv_at hl 0 rfl) ?_
  refine k_get (pre := []) C0 hw hinX1 rfl 3 (by decide) (hts (.fieldLink RX1 56 "SlabDunes$Field" "s" "I") (by decide +kernel)) rfl rfl dX1_draw_5 ?_
  refine lv_i2l (v := (nI n0).toInt64) hx hb dX1_draw_8 rfl ?_
  refine lv_lmul hx hb dX1_draw_9 ?_
  refine lv_ldc2 (v := 12345) hx hb hown (hts (.constantLong RX1 102 12345) (by decide +kernel)) dX1_draw_10 ?_
  refine lv_ladd hx hb dX1_draw_13 ?_
  refine lv_ldc2 (v := 2147483648) hx hb hown (hts (.constantLong RX1 104 2147483648) (by decide +kernel)) dX1_draw_14 ?_
  refine lv_lrem hx hb dX1_draw_17 (by decide) ?_
  refine lv_l2i (v := (((1103515245 * ((nI n0).toInt64)) + 12345) - ((1103515245 * ((nI n0).toInt64)) + 12345) / 2147483648 * 2147483648).toInt32) hx hb dX1_draw_18 rfl ?_
  refine W.eq (g2 := F0 mm 19 ls [.int (nI (drwS n0)), .ref (a 0)]) (congrArg (fun z9 => F0 mm 19 ls [.int z9, .ref (a 0)]) (show ((((1103515245 * ((nI n0).toInt64)) + 12345) - ((1103515245 * ((nI n0).toInt64)) + 12345) / 2147483648 * 2147483648).toInt32 : Int32) = nI (drwS n0) from drw_1 hn0)) ?_
  refine k_put (pre := []) C0 hw hinX1 tyX1 tyX1_ok nmX1 rfl 3 (by decide) (hts (.fieldLink RX1 56 "SlabDunes$Field" "s" "I") (by decide +kernel)) rfl rfl (ty := .int) (by decide +kernel) rfl rfl (Nat.le_of_ble_eq_true rfl) dX1_draw_19 (fun H locs hw => ?_)
  have hw : kW E AA sx (List.flatten [oc (a 0) 1 [.int (nI h), .int (nI w), .int wd, .int (nI (drwS n0)), .int z, .ref (a 1), .ref (a 2), .ref (a 3), .ref (a 4), .ref (a 5), .ref (a 6), .ref (a 7), .ref (a 8)], rc E (a 1) (a 9) 4 st, rc E (a 2) (a 10) 192 he, rc E (a 3) (a 11) 192 ke, rc E (a 4) (a 12) 192 tu, rc E (a 5) (a 13) 192 ca, rc E (a 6) (a 14) 192 tr, rc E (a 7) (a 15) 12 co, rc E (a 8) (a 16) 4 la]) H locs := hw
  refine lv_iload_n hx hb dX1_draw_22 rfl (lv_at hl 1 rfl) ?_
  refine lv_if_le (tgt := 38) hx hb dX1_draw_23 (by decide) (fun c23 => absurd c23 (nI_nle (by omega) (by omega))) (fun c23 => ?_)
  have c23 : ¬ m9 ≤ 0 := fun h99 => c23 ((nI_leI (a := m9) (b := 0) (by omega) (by omega)).mpr h99)
  refine lv_aload_n hx hb dX1_draw_26 rfl (lv_at hl 0 rfl) ?_
  refine k_get (pre := []) C0 hw hinX1 rfl 3 (by decide) (hts (.fieldLink RX1 56 "SlabDunes$Field" "s" "I") (by decide +kernel)) rfl rfl dX1_draw_27 ?_
  refine lv_ldc (v := 65536) hx hb hown (hts (.constant RX1 106 65536) (by decide +kernel)) dX1_draw_30 ?_
  refine lv_idiv hx hb dX1_draw_32 (by decide) ?_
  refine W.eq (g2 := F0 mm 33 ls [.int (nI (drwS n0 / 65536))]) (congrArg (fun z9 => F0 mm 33 ls [.int z9]) (show ((nI (drwS n0)) / 65536 : Int32) = nI (drwS n0 / 65536) from pk_div (d := 65536) (by have := drwS_lt n0; omega) (by omega) (by omega))) ?_
  refine lv_iload_n hx hb dX1_draw_33 rfl (lv_at hl 1 rfl) ?_
  refine lv_irem hx hb dX1_draw_34 (nI_ne0 (by omega) (by omega)) ?_
  refine W.eq (g2 := F0 mm 35 ls [.int (nI (drwS n0 / 65536 % m9))]) (congrArg (fun z9 => F0 mm 35 ls [.int z9]) (show ((nI (drwS n0 / 65536)) - (nI (drwS n0 / 65536)) / (nI m9) * (nI m9) : Int32) = nI (drwS n0 / 65536 % m9) from pk_rem (by have := drwS_lt n0; omega) (by omega) (by omega))) ?_
  refine lv_goto (tgt := 39) hx hb dX1_draw_35 (by decide) ?_
  -- leaf 0
  exact k_iret C0 hr hlk hw () (rfl) (rfl) (Nat.le_of_ble_eq_true rfl) (Nat.le_of_ble_eq_true rfl) dX1_draw_39
