abbrev rmL_begin : Room := { frames := 7, cells := 1, slots := 6, locals := 133 }
set_option maxHeartbeats 4000000 in
set_option maxRecDepth 100000 in
theorem c_L_begin_x2 (l : Launch) (hfl : l.stackTraces = false) (E : kE) (d0 : Nat) (q1 : Nat) (q2 : Nat) (a : Nat → Nat) (e : Nat → Nat) (m : Nat → Nat) (t : Nat → Nat) (q : Nat) (n : Nat) (b : Nat → Nat → Nat) (G : Nat → cT) (o : Nat) (k9 : Nat) (h : Nat) (w : Nat) (wd : Int32) (s0 : Int32) (z : Int32) (st : Nat → Int32) (he : Nat → Int32) (ke : Nat → Int32) (tu : Nat → Int32) (ca : Nat → Int32) (tr : Nat → Int32) (co : Nat → Int32) (la : Nat → Int32) (r2 : Nat) (c2 : Nat) (v : Int32) (o0 : Nat) (f : Nat → Int64) (hG8 : kG r2 c2) (hv : ¬ (¬ v < 0 ∧ ¬ 20 < v)) : kH E l yL_begin wsL_begin rmL_begin [.ref d0, .int (nI r2), .int (nI c2), .int v, .ref o0] (List.flatten [oc d0 6 [.ref (a 0), .ref q1, .ref (e 0), .ref q2, .ref (m 0), .ref q, .ref (t 0)], fc E a (nI h) (nI w) wd s0 z st he ke tu ca tr co la, hw4 E q n b (nI o) (nI k9) G, lc E o0 1 f]) kI (fun (r : Int32) (_ : Unit) => r = 1) (fun _ => List.flatten [oc d0 6 [.ref (a 0), .ref q1, .ref (e 0), .ref q2, .ref (m 0), .ref q, .ref (t 0)], fc E a (nI h) (nI w) wd s0 z st he ke tu ca tr co la, hw4 E q n b (nI o) (nI k9) G, lc E o0 1 f]) 1 6 := by
  refine kH_body (cc := cL_begin) (maxL := 6) (ret := (some .int)) (hh := [(0, 12, 15, 13)]) (by decide) rfl (Nat.le_of_ble_eq_true rfl) ?_
  intro pp ee sx mm aa bb me cd H locs AA ls C0 hr hlk hxt hZ hl hw
  obtain ⟨hx, hb, hml, hown, hts⟩ := id C0
  have hl : lv_has ls 6 [(0, .ref d0), (1, .int (nI r2)), (2, .int (nI c2)), (3, .int v), (4, .ref o0)] := hl
  have hw : kW E AA sx (List.flatten [oc d0 6 [.ref (a 0), .ref q1, .ref (e 0), .ref q2, .ref (m 0), .ref q, .ref (t 0)], fc E a (nI h) (nI w) wd s0 z st he ke tu ca tr co la, hw4 E q n b (nI o) (nI k9) G, lc E o0 1 f]) H locs := hw
  refine lv_aload hx hb dL_begin_0 (lv_at hl 4 rfl) ?_
  refine lv_iconst (v := 0) hx hb dL_begin_2 (by decide) ?_
  refine lv_aload_n hx hb dL_begin_3 rfl (lv_at hl 0 rfl) ?_
  refine lv_iload_n hx hb dL_begin_4 rfl (lv_at hl 1 rfl) ?_
  refine lv_iload_n hx hb dL_begin_5 rfl (lv_at hl 2 rfl) ?_
  refine lv_iload_n hx hb dL_begin_6 rfl (lv_at hl 3 rfl) ?_
  refine k_VX (As := [.int (nI r2), .int (nI c2), .int v]) (rest := [.int 0, .ref o0]) (pre := []) (mid := [oc d0 6 [.ref (a 0), .ref q1, .ref (e 0), .ref q2, .ref (m 0), .ref q, .ref (t 0)], fc E a (nI h) (nI w) wd s0 z st he ke tu ca tr co la, hw4 E q n b (nI o) (nI k9) G]) C0 (c_X6_begin_x2F l hfl E d0 q1 q2 a e m t q n b G o k9 h w wd s0 z st he ke tu ca tr co la r2 c2 v (by first | assumption | omega) (by first | assumption | omega)) (cwV 3 hts gL_begin_X6_begin rfl rfl rfl (by decide +kernel) ⟨Nat.le_of_ble_eq_true rfl, Nat.le_of_ble_eq_true rfl⟩) hw rfl hZ (fun _ => [oc d0 6 [.ref (a 0), .ref q1, .ref (e 0), .ref q2, .ref (m 0), .ref q, .ref (t 0)], fc E a (nI h) (nI w) wd s0 z st he ke tu ca tr co la, hw4 E q n b (nI o) (nI k9) G]) (fun _ => rfl) 0 6 rfl rfl rfl rfl hl.1 rfl (Nat.le_of_ble_eq_true rfl) dL_begin_7 ⟨Nat.le_of_ble_eq_true rfl, Nat.le_of_ble_eq_true rfl⟩ (fun X9 ce9 q9 H locs hx9 hw hc9 hv9 hcl9 => ?_) (fun r u H locs hq99 hw => False.elim hq99)
  have hx9 : X9 = "java/lang/IllegalArgumentException" := hx9
  subst hx9
  refine vx_catch hown [] ⟨0, 12, 15, 13⟩ [] (hxt.trans rfl) (fun z hz => by cases hz) (by decide) (by decide) (hts (.classLink RL 13 "java/lang/IllegalArgumentException") (by decide +kernel)) (va_Nw.use rfl (hw.2.2.1.2.2.2.1 "java/lang/IllegalArgumentException" (by decide))) hc9 hv9 hcl9 ?_
  refine W.eq (g2 := F0 mm 15 ls [.ref q9]) rfl ?_
  refine lv_astore (lv' := [(5, .ref q9), (0, .ref d0), (1, .int (nI r2)), (2, .int (nI c2)), (3, .int v), (4, .ref o0)]) hx hb dL_begin_15 hl (by decide) rfl (fun ls hl => ?_)
  refine lv_iconst (v := 1) hx hb dL_begin_17 (by decide) ?_
  -- leaf 0
  exact k_iret C0 hr hlk hw () (rfl) (rfl) (Nat.le_of_ble_eq_true rfl) (Nat.le_of_ble_eq_true rfl) dL_begin_18

set_option maxHeartbeats 4000000 in
set_option maxRecDepth 100000 in
theorem c_L_begin_x1 (l : Launch) (hfl : l.stackTraces = false) (E : kE) (d0 : Nat) (q1 : Nat) (q2 : Nat) (a : Nat → Nat) (e : Nat → Nat) (m : Nat → Nat) (t : Nat → Nat) (q : Nat) (n : Nat) (b : Nat → Nat → Nat) (G : Nat → cT) (o : Nat) (k9 : Nat) (h : Nat) (w : Nat) (wd : Int32) (s0 : Int32) (z : Int32) (st : Nat → Int32) (he : Nat → Int32) (ke : Nat → Int32) (tu : Nat → Int32) (ca : Nat → Int32) (tr : Nat → Int32) (co : Nat → Int32) (la : Nat → Int32) (x : Int32) (y : Int32) (v : Int32) (o0 : Nat) (f : Nat → Int64) (hv : ¬ ((¬ x < 3 ∧ ¬ 12 < x) ∧ (¬ y < 3 ∧ ¬ 16 < y))) : kH E l yL_begin wsL_begin rmL_begin [.ref d0, .int x, .int y, .int v, .ref o0] (List.flatten [oc d0 6 [.ref (a 0), .ref q1, .ref (e 0), .ref q2, .ref (m 0), .ref q, .ref (t 0)], fc E a (nI h) (nI w) wd s0 z st he ke tu ca tr co la, hw4 E q n b (nI o) (nI k9) G, lc E o0 1 f]) kI (fun (r : Int32) (_ : Unit) => r = 1) (fun _ => List.flatten [oc d0 6 [.ref (a 0), .ref q1, .ref (e 0), .ref q2, .ref (m 0), .ref q, .ref (t 0)], fc E a (nI h) (nI w) wd s0 z st he ke tu ca tr co la, hw4 E q n b (nI o) (nI k9) G, lc E o0 1 f]) 1 6 := by
  refine kH_body (cc := cL_begin) (maxL := 6) (ret := (some .int)) (hh := [(0, 12, 15, 13)]) (by decide) rfl (Nat.le_of_ble_eq_true rfl) ?_
  intro pp ee sx mm aa bb me cd H locs AA ls C0 hr hlk hxt hZ hl hw
  obtain ⟨hx, hb, hml, hown, hts⟩ := id C0
  have hl : lv_has ls 6 [(0, .ref d0), (1, .int x), (2, .int y), (3, .int v), (4, .ref o0)] := hl
  have hw : kW E AA sx (List.flatten [oc d0 6 [.ref (a 0), .ref q1, .ref (e 0), .ref q2, .ref (m 0), .ref q, .ref (t 0)], fc E a (nI h) (nI w) wd s0 z st he ke tu ca tr co la, hw4 E q n b (nI o) (nI k9) G, lc E o0 1 f]) H locs := hw
  refine lv_aload hx hb dL_begin_0 (lv_at hl 4 rfl) ?_
  refine lv_iconst (v := 0) hx hb dL_begin_2 (by decide) ?_
  refine lv_aload_n hx hb dL_begin_3 rfl (lv_at hl 0 rfl) ?_
  refine lv_iload_n hx hb dL_begin_4 rfl (lv_at hl 1 rfl) ?_
  refine lv_iload_n hx hb dL_begin_5 rfl (lv_at hl 2 rfl) ?_
  refine lv_iload_n hx hb dL_begin_6 rfl (lv_at hl 3 rfl) ?_
  refine k_VX (As := [.int x, .int y, .int v]) (rest := [.int 0, .ref o0]) (pre := []) (mid := [oc d0 6 [.ref (a 0), .ref q1, .ref (e 0), .ref q2, .ref (m 0), .ref q, .ref (t 0)], fc E a (nI h) (nI w) wd s0 z st he ke tu ca tr co la, hw4 E q n b (nI o) (nI k9) G]) C0 (c_X6_begin_x1F l hfl E d0 q1 q2 a e m t q n b G o k9 h w wd s0 z st he ke tu ca tr co la x y v (by first | assumption | omega)) (cwV 3 hts gL_begin_X6_begin rfl rfl rfl (by decide +kernel) ⟨Nat.le_of_ble_eq_true rfl, Nat.le_of_ble_eq_true rfl⟩) hw rfl hZ (fun _ => [oc d0 6 [.ref (a 0), .ref q1, .ref (e 0), .ref q2, .ref (m 0), .ref q, .ref (t 0)], fc E a (nI h) (nI w) wd s0 z st he ke tu ca tr co la, hw4 E q n b (nI o) (nI k9) G]) (fun _ => rfl) 0 6 rfl rfl rfl rfl hl.1 rfl (Nat.le_of_ble_eq_true rfl) dL_begin_7 ⟨Nat.le_of_ble_eq_true rfl, Nat.le_of_ble_eq_true rfl⟩ (fun X9 ce9 q9 H locs hx9 hw hc9 hv9 hcl9 => ?_) (fun r u H locs hq99 hw => False.elim hq99)
  have hx9 : X9 = "java/lang/IllegalArgumentException" := hx9
  subst hx9
  refine vx_catch hown [] ⟨0, 12, 15, 13⟩ [] (hxt.trans rfl) (fun z hz => by cases hz) (by decide) (by decide) (hts (.classLink RL 13 "java/lang/IllegalArgumentException") (by decide +kernel)) (va_Nw.use rfl (hw.2.2.1.2.2.2.1 "java/lang/IllegalArgumentException" (by decide))) hc9 hv9 hcl9 ?_
  refine W.eq (g2 := F0 mm 15 ls [.ref q9]) rfl ?_
  refine lv_astore (lv' := [(5, .ref q9), (0, .ref d0), (1, .int x), (2, .int y), (3, .int v), (4, .ref o0)]) hx hb dL_begin_15 hl (by decide) rfl (fun ls hl => ?_)
  refine lv_iconst (v := 1) hx hb dL_begin_17 (by decide) ?_
  -- leaf 0
  exact k_iret C0 hr hlk hw () (rfl) (rfl) (Nat.le_of_ble_eq_true rfl) (Nat.le_of_ble_eq_true rfl) dL_begin_18

set_option maxHeartbeats 4000000 in
set_option maxRecDepth 100000 in
theorem c_L_begin_ok (l : Launch) (hfl : l.stackTraces = false) (E : kE) (d0 : Nat) (q1 : Nat) (q2 : Nat) (a : Nat → Nat) (e : Nat → Nat) (m : Nat → Nat) (t : Nat → Nat) (q : Nat) (n : Nat) (b : Nat → Nat → Nat) (G : Nat → cT) (o : Nat) (k9 : Nat) (h : Nat) (w : Nat) (wd : Int32) (s0 : Int32) (z : Int32) (st : Nat → Int32) (he : Nat → Int32) (ke : Nat → Int32) (tu : Nat → Int32) (ca : Nat → Int32) (tr : Nat → Int32) (co : Nat → Int32) (la : Nat → Int32) (r2 : Nat) (c2 : Nat) (v : Int32) (o0 : Nat) (f : Nat → Int64) (hG8 : kG r2 c2) (hv : ¬ v < 0 ∧ ¬ 20 < v) (ho : o < 4) (hk9 : k9 ≤ 4) : kH E l yL_begin wsL_begin rmL_begin [.ref d0, .int (nI r2), .int (nI c2), .int v, .ref o0] (List.flatten [oc d0 6 [.ref (a 0), .ref q1, .ref (e 0), .ref q2, .ref (m 0), .ref q, .ref (t 0)], fc E a (nI h) (nI w) wd s0 z st he ke tu ca tr co la, hw4 E q n b (nI o) (nI k9) G, lc E o0 1 f]) kI (fun (r : Int32) (_ : Unit) => r = 0) (fun _ => List.flatten [oc d0 6 [.ref (a 0), .ref q1, .ref (e 0), .ref q2, .ref (m 0), .ref q, .ref (t 0)], fc E a (nI r2) (nI c2) 0 1 0 st0F (fun _ => v) (fun _ => v) (fun _ => 0) (fun _ => (-1)) (fun _ => 0) (fun _ => 0) (fun _ => (-1)), hw4 E q n b (nI (svO o k9)) (nI (svK k9)) (cup G (svI o k9) (nI h, nI w, wd, s0, z, st, he, ke, tu, ca, tr, co, la)), lc E o0 1 (vp_updL f 0 (Int32.toInt64 (nI (r2 * c2))))]) 1 6 := by
  refine kH_body (cc := cL_begin) (maxL := 6) (ret := (some .int)) (hh := [(0, 12, 15, 13)]) (by decide) rfl (Nat.le_of_ble_eq_true rfl) ?_
  intro pp ee sx mm aa bb me cd H locs AA ls C0 hr hlk hxt hZ hl hw
  obtain ⟨hx, hb, hml, hown, hts⟩ := id C0
  have hl : lv_has ls 6 [(0, .ref d0), (1, .int (nI r2)), (2, .int (nI c2)), (3, .int v), (4, .ref o0)] := hl
  have hw : kW E AA sx (List.flatten [oc d0 6 [.ref (a 0), .ref q1, .ref (e 0), .ref q2, .ref (m 0), .ref q, .ref (t 0)], fc E a (nI h) (nI w) wd s0 z st he ke tu ca tr co la, hw4 E q n b (nI o) (nI k9) G, lc E o0 1 f]) H locs := hw
  refine lv_aload hx hb dL_begin_0 (lv_at hl 4 rfl) ?_
  refine lv_iconst (v := 0) hx hb dL_begin_2 (by decide) ?_
  refine lv_aload_n hx hb dL_begin_3 rfl (lv_at hl 0 rfl) ?_
  refine lv_iload_n hx hb dL_begin_4 rfl (lv_at hl 1 rfl) ?_
  refine lv_iload_n hx hb dL_begin_5 rfl (lv_at hl 2 rfl) ?_
  refine lv_iload_n hx hb dL_begin_6 rfl (lv_at hl 3 rfl) ?_
  refine k_VX (As := [.int (nI r2), .int (nI c2), .int v]) (rest := [.int 0, .ref o0]) (pre := []) (mid := [oc d0 6 [.ref (a 0), .ref q1, .ref (e 0), .ref q2, .ref (m 0), .ref q, .ref (t 0)], fc E a (nI h) (nI w) wd s0 z st he ke tu ca tr co la, hw4 E q n b (nI o) (nI k9) G]) C0 (c_X6_begin_ok l hfl E d0 q1 q2 a e m t q n b G o k9 h w wd s0 z st he ke tu ca tr co la r2 c2 v (by first | assumption | omega) (by first | assumption | omega) (by first | assumption | omega) (by first | assumption | omega)) (cwV 3 hts gL_begin_X6_begin rfl rfl rfl (by decide +kernel) ⟨Nat.le_of_ble_eq_true rfl, Nat.le_of_ble_eq_true rfl⟩) hw rfl hZ (fun _ => [oc d0 6 [.ref (a 0), .ref q1, .ref (e 0), .ref q2, .ref (m 0), .ref q, .ref (t 0)], fc E a (nI r2) (nI c2) 0 1 0 st0F (fun _ => v) (fun _ => v) (fun _ => 0) (fun _ => (-1)) (fun _ => 0) (fun _ => 0) (fun _ => (-1)), hw4 E q n b (nI (svO o k9)) (nI (svK k9)) (cup G (svI o k9) (nI h, nI w, wd, s0, z, st, he, ke, tu, ca, tr, co, la))]) (fun _ => rfl) 0 6 rfl rfl rfl rfl hl.1 rfl (Nat.le_of_ble_eq_true rfl) dL_begin_7 ⟨Nat.le_of_ble_eq_true rfl, Nat.le_of_ble_eq_true rfl⟩ (fun X9 ce9 q9 H locs hx9 hw hc9 hv9 hcl9 => False.elim hx9) (fun r u H locs hq99 hw => ?_)
  subst hq99
  have hw : kW E AA sx (List.flatten [oc d0 6 [.ref (a 0), .ref q1, .ref (e 0), .ref q2, .ref (m 0), .ref q, .ref (t 0)], fc E a (nI r2) (nI c2) 0 1 0 st0F (fun _ => v) (fun _ => v) (fun _ => 0) (fun _ => (-1)) (fun _ => 0) (fun _ => 0) (fun _ => (-1)), hw4 E q n b (nI (svO o k9)) (nI (svK k9)) (cup G (svI o k9) (nI h, nI w, wd, s0, z, st, he, ke, tu, ca, tr, co, la)), lc E o0 1 f]) H locs := hw
  refine W.eq (g2 := F0 mm 10 ls [.int (nI (r2 * c2)), .int 0, .ref o0]) rfl ?_
  refine lv_i2l (v := Int32.toInt64 (nI (r2 * c2))) hx hb dL_begin_10 rfl ?_
  refine k_last (pre := [oc d0 6 [.ref (a 0), .ref q1, .ref (e 0), .ref q2, .ref (m 0), .ref q, .ref (t 0)], fc E a (nI r2) (nI c2) 0 1 0 st0F (fun _ => v) (fun _ => v) (fun _ => 0) (fun _ => (-1)) (fun _ => 0) (fun _ => 0) (fun _ => (-1)), hw4 E q n b (nI (svO o k9)) (nI (svK k9)) (cup G (svI o k9) (nI h, nI w, wd, s0, z, st, he, ke, tu, ca, tr, co, la))]) C0 hw (i := 0) (kinN (n := 0) (by decide) (by decide)) dL_begin_11 (fun H locs hw => ?_)
  have hw : kW E AA sx (List.flatten [oc d0 6 [.ref (a 0), .ref q1, .ref (e 0), .ref q2, .ref (m 0), .ref q, .ref (t 0)], fc E a (nI r2) (nI c2) 0 1 0 st0F (fun _ => v) (fun _ => v) (fun _ => 0) (fun _ => (-1)) (fun _ => 0) (fun _ => 0) (fun _ => (-1)), hw4 E q n b (nI (svO o k9)) (nI (svK k9)) (cup G (svI o k9) (nI h, nI w, wd, s0, z, st, he, ke, tu, ca, tr, co, la)), lc E o0 1 (vp_updL f 0 (Int32.toInt64 (nI (r2 * c2))))]) H locs := hw
  refine lv_goto (tgt := 19) hx hb dL_begin_12 (by decide) ?_
  refine lv_iconst (v := 0) hx hb dL_begin_19 (by decide) ?_
  -- leaf 0
  exact k_iret C0 hr hlk hw () (rfl) (rfl) (Nat.le_of_ble_eq_true rfl) (Nat.le_of_ble_eq_true rfl) dL_begin_20

abbrev rmL_setHeight : Room := { frames := 7, cells := 1, slots := 6, locals := 133 }
set_option maxHeartbeats 4000000 in
set_option maxRecDepth 100000 in
theorem c_L_setHeight_x2 (l : Launch) (hfl : l.stackTraces = false) (E : kE) (d0 : Nat) (q1 : Nat) (q2 : Nat) (a : Nat → Nat) (e : Nat → Nat) (m : Nat → Nat) (t : Nat → Nat) (q : Nat) (n : Nat) (b : Nat → Nat → Nat) (G : Nat → cT) (o : Nat) (k9 : Nat) (h : Nat) (w : Nat) (wd : Int32) (s0 : Int32) (z : Int32) (st : Nat → Int32) (he : Nat → Int32) (ke : Nat → Int32) (tu : Nat → Int32) (ca : Nat → Int32) (tr : Nat → Int32) (co : Nat → Int32) (la : Nat → Int32) (k : Nat) (v : Int32) (o0 : Nat) (f : Nat → Int64) (hG : kG h w) (hc : k < h * w) (hv : ¬ (¬ v < 0 ∧ ¬ 99 < v)) : kH E l yL_setHeight wsL_setHeight rmL_setHeight [.ref d0, .int (nI k), .int v, .ref o0] (List.flatten [oc d0 6 [.ref (a 0), .ref q1, .ref (e 0), .ref q2, .ref (m 0), .ref q, .ref (t 0)], fc E a (nI h) (nI w) wd s0 z st he ke tu ca tr co la, hw4 E q n b (nI o) (nI k9) G, lc E o0 1 f]) kI (fun (r : Int32) (_ : Unit) => r = 2) (fun _ => List.flatten [oc d0 6 [.ref (a 0), .ref q1, .ref (e 0), .ref q2, .ref (m 0), .ref q, .ref (t 0)], fc E a (nI h) (nI w) wd s0 z st he ke tu ca tr co la, hw4 E q n b (nI o) (nI k9) G, lc E o0 1 f]) 1 6 := by
  refine kH_body (cc := cL_setHeight) (maxL := 5) (ret := (some .int)) (hh := [(0, 10, 13, 19), (0, 10, 17, 13)]) (by decide) rfl (Nat.le_of_ble_eq_true rfl) ?_
  intro pp ee sx mm aa bb me cd H locs AA ls C0 hr hlk hxt hZ hl hw
  obtain ⟨hx, hb, hml, hown, hts⟩ := id C0
  have hl : lv_has ls 5 [(0, .ref d0), (1, .int (nI k)), (2, .int v), (3, .ref o0)] := hl
  have hw : kW E AA sx (List.flatten [oc d0 6 [.ref (a 0), .ref q1, .ref (e 0), .ref q2, .ref (m 0), .ref q, .ref (t 0)], fc E a (nI h) (nI w) wd s0 z st he ke tu ca tr co la, hw4 E q n b (nI o) (nI k9) G, lc E o0 1 f]) H locs := hw
  refine lv_aload_n hx hb dL_setHeight_0 rfl (lv_at hl 3 rfl) ?_
  refine lv_iconst (v := 0) hx hb dL_setHeight_1 (by decide) ?_
  refine lv_aload_n hx hb dL_setHeight_2 rfl (lv_at hl 0 rfl) ?_
  refine lv_iload_n hx hb dL_setHeight_3 rfl (lv_at hl 1 rfl) ?_
  refine lv_iload_n hx hb dL_setHeight_4 rfl (lv_at hl 2 rfl) ?_
  refine k_VX (As := [.int (nI k), .int v]) (rest := [.int 0, .ref o0]) (pre := []) (mid := [oc d0 6 [.ref (a 0), .ref q1, .ref (e 0), .ref q2, .ref (m 0), .ref q, .ref (t 0)], fc E a (nI h) (nI w) wd s0 z st he ke tu ca tr co la, hw4 E q n b (nI o) (nI k9) G]) C0 (c_X6_setHeight_x2F l hfl E d0 q1 q2 a e m t q n b G o k9 h w wd s0 z st he ke tu ca tr co la k v (by first | assumption | omega) (by first | assumption | omega) (by first | assumption | omega)) (cwV 2 hts gL_setHeight_X6_setHeight rfl rfl rfl (by decide +kernel) ⟨Nat.le_of_ble_eq_true rfl, Nat.le_of_ble_eq_true rfl⟩) hw rfl hZ (fun _ => [oc d0 6 [.ref (a 0), .ref q1, .ref (e 0), .ref q2, .ref (m 0), .ref q, .ref (t 0)], fc E a (nI h) (nI w) wd s0 z st he ke tu ca tr co la, hw4 E q n b (nI o) (nI k9) G]) (fun _ => rfl) 0 6 rfl rfl rfl rfl hl.1 rfl (Nat.le_of_ble_eq_true rfl) dL_setHeight_5 ⟨Nat.le_of_ble_eq_true rfl, Nat.le_of_ble_eq_true rfl⟩ (fun X9 ce9 q9 H locs hx9 hw hc9 hv9 hcl9 => ?_) (fun r u H locs hq99 hw => False.elim hq99)
  have hx9 : X9 = "java/lang/IllegalArgumentException" := hx9
  subst hx9
  refine vx_catch hown [⟨0, 10, 13, 19⟩] ⟨0, 10, 17, 13⟩ [] (hxt.trans rfl) (fun z hz => by cases List.mem_singleton.mp hz; exact Or.inr ⟨by decide, "java/lang/IndexOutOfBoundsException", hts (.classLink RL 19 "java/lang/IndexOutOfBoundsException") (by decide +kernel), hw.2.2.1.2.2.2.2.2.1 ("java/lang/IllegalArgumentException", "java/lang/IndexOutOfBoundsException") (by decide)⟩) (by decide) (by decide) (hts (.classLink RL 13 "java/lang/IllegalArgumentException") (by decide +kernel)) (va_Nw.use rfl (hw.2.2.1.2.2.2.1 "java/lang/IllegalArgumentException" (by decide))) hc9 hv9 hcl9 ?_
  refine W.eq (g2 := F0 mm 17 ls [.ref q9]) rfl ?_
  refine lv_astore (lv' := [(4, .ref q9), (0, .ref d0), (1, .int (nI k)), (2, .int v), (3, .ref o0)]) hx hb dL_setHeight_17 hl (by decide) rfl (fun ls hl => ?_)
  refine lv_iconst (v := 2) hx hb dL_setHeight_19 (by decide) ?_
  -- leaf 0
  exact k_iret C0 hr hlk hw () (rfl) (rfl) (Nat.le_of_ble_eq_true rfl) (Nat.le_of_ble_eq_true rfl) dL_setHeight_20

set_option maxHeartbeats 4000000 in
set_option maxRecDepth 100000 in
theorem c_L_setHeight_x1 (l : Launch) (hfl : l.stackTraces = false) (E : kE) (d0 : Nat) (q1 : Nat) (q2 : Nat) (a : Nat → Nat) (e : Nat → Nat) (m : Nat → Nat) (t : Nat → Nat) (q : Nat) (n : Nat) (b : Nat → Nat → Nat) (G : Nat → cT) (o : Nat) (k9 : Nat) (h : Nat) (w : Nat) (wd : Int32) (s0 : Int32) (z : Int32) (st : Nat → Int32) (he : Nat → Int32) (ke : Nat → Int32) (tu : Nat → Int32) (ca : Nat → Int32) (tr : Nat → Int32) (co : Nat → Int32) (la : Nat → Int32) (x : Int32) (v : Int32) (o0 : Nat) (f : Nat → Int64) (hG : kG h w) (hv : ¬ (¬ x < 0 ∧ ¬ nI (h * w - 1) < x)) : kH E l yL_setHeight wsL_setHeight rmL_setHeight [.ref d0, .int x, .int v, .ref o0] (List.flatten [oc d0 6 [.ref (a 0), .ref q1, .ref (e 0), .ref q2, .ref (m 0), .ref q, .ref (t 0)], fc E a (nI h) (nI w) wd s0 z st he ke tu ca tr co la, hw4 E q n b (nI o) (nI k9) G, lc E o0 1 f]) kI (fun (r : Int32) (_ : Unit) => r = 1) (fun _ => List.flatten [oc d0 6 [.ref (a 0), .ref q1, .ref (e 0), .ref q2, .ref (m 0), .ref q, .ref (t 0)], fc E a (nI h) (nI w) wd s0 z st he ke tu ca tr co la, hw4 E q n b (nI o) (nI k9) G, lc E o0 1 f]) 1 6 := by
  refine kH_body (cc := cL_setHeight) (maxL := 5) (ret := (some .int)) (hh := [(0, 10, 13, 19), (0, 10, 17, 13)]) (by decide) rfl (Nat.le_of_ble_eq_true rfl) ?_
  intro pp ee sx mm aa bb me cd H locs AA ls C0 hr hlk hxt hZ hl hw
  obtain ⟨hx, hb, hml, hown, hts⟩ := id C0
  have hl : lv_has ls 5 [(0, .ref d0), (1, .int x), (2, .int v), (3, .ref o0)] := hl
  have hw : kW E AA sx (List.flatten [oc d0 6 [.ref (a 0), .ref q1, .ref (e 0), .ref q2, .ref (m 0), .ref q, .ref (t 0)], fc E a (nI h) (nI w) wd s0 z st he ke tu ca tr co la, hw4 E q n b (nI o) (nI k9) G, lc E o0 1 f]) H locs := hw
  refine lv_aload_n hx hb dL_setHeight_0 rfl (lv_at hl 3 rfl) ?_
  refine lv_iconst (v := 0) hx hb dL_setHeight_1 (by decide) ?_
  refine lv_aload_n hx hb dL_setHeight_2 rfl (lv_at hl 0 rfl) ?_
  refine lv_iload_n hx hb dL_setHeight_3 rfl (lv_at hl 1 rfl) ?_
  refine lv_iload_n hx hb dL_setHeight_4 rfl (lv_at hl 2 rfl) ?_
  refine k_VX (As := [.int x, .int v]) (rest := [.int 0, .ref o0]) (pre := []) (mid := [oc d0 6 [.ref (a 0), .ref q1, .ref (e 0), .ref q2, .ref (m 0), .ref q, .ref (t 0)], fc E a (nI h) (nI w) wd s0 z st he ke tu ca tr co la, hw4 E q n b (nI o) (nI k9) G]) C0 (c_X6_setHeight_x1F l hfl E d0 q1 q2 a e m t q n b G o k9 h w wd s0 z st he ke tu ca tr co la x v (by first | assumption | omega) (by first | assumption | omega)) (cwV 2 hts gL_setHeight_X6_setHeight rfl rfl rfl (by decide +kernel) ⟨Nat.le_of_ble_eq_true rfl, Nat.le_of_ble_eq_true rfl⟩) hw rfl hZ (fun _ => [oc d0 6 [.ref (a 0), .ref q1, .ref (e 0), .ref q2, .ref (m 0), .ref q, .ref (t 0)], fc E a (nI h) (nI w) wd s0 z st he ke tu ca tr co la, hw4 E q n b (nI o) (nI k9) G]) (fun _ => rfl) 0 6 rfl rfl rfl rfl hl.1 rfl (Nat.le_of_ble_eq_true rfl) dL_setHeight_5 ⟨Nat.le_of_ble_eq_true rfl, Nat.le_of_ble_eq_true rfl⟩ (fun X9 ce9 q9 H locs hx9 hw hc9 hv9 hcl9 => ?_) (fun r u H locs hq99 hw => False.elim hq99)
  have hx9 : X9 = "java/lang/IndexOutOfBoundsException" := hx9
  subst hx9
  refine vx_catch hown [] ⟨0, 10, 13, 19⟩ [⟨0, 10, 17, 13⟩] (hxt.trans rfl) (fun z hz => by cases hz) (by decide) (by decide) (hts (.classLink RL 19 "java/lang/IndexOutOfBoundsException") (by decide +kernel)) (va_Nw.use rfl (hw.2.2.1.2.2.2.1 "java/lang/IndexOutOfBoundsException" (by decide))) hc9 hv9 hcl9 ?_
  refine W.eq (g2 := F0 mm 13 ls [.ref q9]) rfl ?_
  refine lv_astore (lv' := [(4, .ref q9), (0, .ref d0), (1, .int x), (2, .int v), (3, .ref o0)]) hx hb dL_setHeight_13 hl (by decide) rfl (fun ls hl => ?_)
  refine lv_iconst (v := 1) hx hb dL_setHeight_15 (by decide) ?_
  -- leaf 0
  exact k_iret C0 hr hlk hw () (rfl) (rfl) (Nat.le_of_ble_eq_true rfl) (Nat.le_of_ble_eq_true rfl) dL_setHeight_16

set_option maxHeartbeats 4000000 in
set_option maxRecDepth 100000 in
theorem c_L_setHeight_ok (l : Launch) (hfl : l.stackTraces = false) (E : kE) (d0 : Nat) (q1 : Nat) (q2 : Nat) (a : Nat → Nat) (e : Nat → Nat) (m : Nat → Nat) (t : Nat → Nat) (q : Nat) (n : Nat) (b : Nat → Nat → Nat) (G : Nat → cT) (o : Nat) (k9 : Nat) (h : Nat) (w : Nat) (wd : Int32) (s0 : Int32) (z : Int32) (st : Nat → Int32) (he : Nat → Int32) (ke : Nat → Int32) (tu : Nat → Int32) (ca : Nat → Int32) (tr : Nat → Int32) (co : Nat → Int32) (la : Nat → Int32) (k : Nat) (v : Int32) (o0 : Nat) (f : Nat → Int64) (hG : kG h w) (hc : k < h * w) (hv : ¬ v < 0 ∧ ¬ 99 < v) (ho : o < 4) (hk9 : k9 ≤ 4) : kH E l yL_setHeight wsL_setHeight rmL_setHeight [.ref d0, .int (nI k), .int v, .ref o0] (List.flatten [oc d0 6 [.ref (a 0), .ref q1, .ref (e 0), .ref q2, .ref (m 0), .ref q, .ref (t 0)], fc E a (nI h) (nI w) wd s0 z st he ke tu ca tr co la, hw4 E q n b (nI o) (nI k9) G, lc E o0 1 f]) kI (fun (r : Int32) (_ : Unit) => r = 0) (fun _ => List.flatten [oc d0 6 [.ref (a 0), .ref q1, .ref (e 0), .ref q2, .ref (m 0), .ref q, .ref (t 0)], fc E a (nI h) (nI w) wd s0 z st (upd he k v) (upd ke k v) tu ca tr co la, hw4 E q n b (nI (svO o k9)) (nI (svK k9)) (cup G (svI o k9) (nI h, nI w, wd, s0, z, st, he, ke, tu, ca, tr, co, la)), lc E o0 1 (vp_updL f 0 (Int32.toInt64 (he k)))]) 1 6 := by
  refine kH_body (cc := cL_setHeight) (maxL := 5) (ret := (some .int)) (hh := [(0, 10, 13, 19), (0, 10, 17, 13)]) (by decide) rfl (Nat.le_of_ble_eq_true rfl) ?_
  intro pp ee sx mm aa bb me cd H locs AA ls C0 hr hlk hxt hZ hl hw
  obtain ⟨hx, hb, hml, hown, hts⟩ := id C0
  have hl : lv_has ls 5 [(0, .ref d0), (1, .int (nI k)), (2, .int v), (3, .ref o0)] := hl
  have hw : kW E AA sx (List.flatten [oc d0 6 [.ref (a 0), .ref q1, .ref (e 0), .ref q2, .ref (m 0), .ref q, .ref (t 0)], fc E a (nI h) (nI w) wd s0 z st he ke tu ca tr co la, hw4 E q n b (nI o) (nI k9) G, lc E o0 1 f]) H locs := hw
  refine lv_aload_n hx hb dL_setHeight_0 rfl (lv_at hl 3 rfl) ?_
  refine lv_iconst (v := 0) hx hb dL_setHeight_1 (by decide) ?_
  refine lv_aload_n hx hb dL_setHeight_2 rfl (lv_at hl 0 rfl) ?_
  refine lv_iload_n hx hb dL_setHeight_3 rfl (lv_at hl 1 rfl) ?_
  refine lv_iload_n hx hb dL_setHeight_4 rfl (lv_at hl 2 rfl) ?_
  refine k_VX (As := [.int (nI k), .int v]) (rest := [.int 0, .ref o0]) (pre := []) (mid := [oc d0 6 [.ref (a 0), .ref q1, .ref (e 0), .ref q2, .ref (m 0), .ref q, .ref (t 0)], fc E a (nI h) (nI w) wd s0 z st he ke tu ca tr co la, hw4 E q n b (nI o) (nI k9) G]) C0 (c_X6_setHeight_ok l hfl E d0 q1 q2 a e m t q n b G o k9 h w wd s0 z st he ke tu ca tr co la k v (by first | assumption | omega) (by first | assumption | omega) (by first | assumption | omega) (by first | assumption | omega) (by first | assumption | omega)) (cwV 2 hts gL_setHeight_X6_setHeight rfl rfl rfl (by decide +kernel) ⟨Nat.le_of_ble_eq_true rfl, Nat.le_of_ble_eq_true rfl⟩) hw rfl hZ (fun _ => [oc d0 6 [.ref (a 0), .ref q1, .ref (e 0), .ref q2, .ref (m 0), .ref q, .ref (t 0)], fc E a (nI h) (nI w) wd s0 z st (upd he k v) (upd ke k v) tu ca tr co la, hw4 E q n b (nI (svO o k9)) (nI (svK k9)) (cup G (svI o k9) (nI h, nI w, wd, s0, z, st, he, ke, tu, ca, tr, co, la))]) (fun _ => rfl) 0 6 rfl rfl rfl rfl hl.1 rfl (Nat.le_of_ble_eq_true rfl) dL_setHeight_5 ⟨Nat.le_of_ble_eq_true rfl, Nat.le_of_ble_eq_true rfl⟩ (fun X9 ce9 q9 H locs hx9 hw hc9 hv9 hcl9 => False.elim hx9) (fun r u H locs hq99 hw => ?_)
  subst hq99
  have hw : kW E AA sx (List.flatten [oc d0 6 [.ref (a 0), .ref q1, .ref (e 0), .ref q2, .ref (m 0), .ref q, .ref (t 0)], fc E a (nI h) (nI w) wd s0 z st (upd he k v) (upd ke k v) tu ca tr co la, hw4 E q n b (nI (svO o k9)) (nI (svK k9)) (cup G (svI o k9) (nI h, nI w, wd, s0, z, st, he, ke, tu, ca, tr, co, la)), lc E o0 1 f]) H locs := hw
  refine W.eq (g2 := F0 mm 8 ls [.int (he k), .int 0, .ref o0]) rfl ?_
  refine lv_i2l (v := Int32.toInt64 (he k)) hx hb dL_setHeight_8 rfl ?_
  refine k_last (pre := [oc d0 6 [.ref (a 0), .ref q1, .ref (e 0), .ref q2, .ref (m 0), .ref q, .ref (t 0)], fc E a (nI h) (nI w) wd s0 z st (upd he k v) (upd ke k v) tu ca tr co la, hw4 E q n b (nI (svO o k9)) (nI (svK k9)) (cup G (svI o k9) (nI h, nI w, wd, s0, z, st, he, ke, tu, ca, tr, co, la))]) C0 hw (i := 0) (kinN (n := 0) (by decide) (by decide)) dL_setHeight_9 (fun H locs hw => ?_)
  have hw : kW E AA sx (List.flatten [oc d0 6 [.ref (a 0), .ref q1, .ref (e 0), .ref q2, .ref (m 0), .ref q, .ref (t 0)], fc E a (nI h) (nI w) wd s0 z st (upd he k v) (upd ke k v) tu ca tr co la, hw4 E q n b (nI (svO o k9)) (nI (svK k9)) (cup G (svI o k9) (nI h, nI w, wd, s0, z, st, he, ke, tu, ca, tr, co, la)), lc E o0 1 (vp_updL f 0 (Int32.toInt64 (he k)))]) H locs := hw
  refine lv_goto (tgt := 21) hx hb dL_setHeight_10 (by decide) ?_
  refine lv_iconst (v := 0) hx hb dL_setHeight_21 (by decide) ?_
  -- leaf 0
  exact k_iret C0 hr hlk hw () (rfl) (rfl) (Nat.le_of_ble_eq_true rfl) (Nat.le_of_ble_eq_true rfl) dL_setHeight_22

abbrev rmL_setTuft : Room := { frames := 7, cells := 1, slots := 6, locals := 133 }
set_option maxHeartbeats 4000000 in
set_option maxRecDepth 100000 in
theorem c_L_setTuft_x2 (l : Launch) (hfl : l.stackTraces = false) (E : kE) (d0 : Nat) (q1 : Nat) (q2 : Nat) (a : Nat → Nat) (e : Nat → Nat) (m : Nat → Nat) (t : Nat → Nat) (q : Nat) (n : Nat) (b : Nat → Nat → Nat) (G : Nat → cT) (o : Nat) (k9 : Nat) (h : Nat) (w : Nat) (wd : Int32) (s0 : Int32) (z : Int32) (st : Nat → Int32) (he : Nat → Int32) (ke : Nat → Int32) (tu : Nat → Int32) (ca : Nat → Int32) (tr : Nat → Int32) (co : Nat → Int32) (la : Nat → Int32) (k : Nat) (v : Int32) (o0 : Nat) (f : Nat → Int64) (hG : kG h w) (hc : k < h * w) (hv : ¬ (¬ v < 0 ∧ ¬ 100 < v)) : kH E l yL_setTuft wsL_setTuft rmL_setTuft [.ref d0, .int (nI k), .int v, .ref o0] (List.flatten [oc d0 6 [.ref (a 0), .ref q1, .ref (e 0), .ref q2, .ref (m 0), .ref q, .ref (t 0)], fc E a (nI h) (nI w) wd s0 z st he ke tu ca tr co la, hw4 E q n b (nI o) (nI k9) G, lc E o0 1 f]) kI (fun (r : Int32) (_ : Unit) => r = 2) (fun _ => List.flatten [oc d0 6 [.ref (a 0), .ref q1, .ref (e 0), .ref q2, .ref (m 0), .ref q, .ref (t 0)], fc E a (nI h) (nI w) wd s0 z st he ke tu ca tr co la, hw4 E q n b (nI o) (nI k9) G, lc E o0 1 f]) 1 6 := by
  refine kH_body (cc := cL_setTuft) (maxL := 5) (ret := (some .int)) (hh := [(0, 10, 13, 19), (0, 10, 17, 13)]) (by decide) rfl (Nat.le_of_ble_eq_true rfl) ?_
  intro pp ee sx mm aa bb me cd H locs AA ls C0 hr hlk hxt hZ hl hw
  obtain ⟨hx, hb, hml, hown, hts⟩ := id C0
  have hl : lv_has ls 5 [(0, .ref d0), (1, .int (nI k)), (2, .int v), (3, .ref o0)] := hl
  have hw : kW E AA sx (List.flatten [oc d0 6 [.ref (a 0), .ref q1, .ref (e 0), .ref q2, .ref (m 0), .ref q, .ref (t 0)], fc E a (nI h) (nI w) wd s0 z st he ke tu ca tr co la, hw4 E q n b (nI o) (nI k9) G, lc E o0 1 f]) H locs := hw
  refine lv_aload_n hx hb dL_setTuft_0 rfl (lv_at hl 3 rfl) ?_
  refine lv_iconst (v := 0) hx hb dL_setTuft_1 (by decide) ?_
  refine lv_aload_n hx hb dL_setTuft_2 rfl (lv_at hl 0 rfl) ?_
  refine lv_iload_n hx hb dL_setTuft_3 rfl (lv_at hl 1 rfl) ?_
  refine lv_iload_n hx hb dL_setTuft_4 rfl (lv_at hl 2 rfl) ?_
  refine k_VX (As := [.int (nI k), .int v]) (rest := [.int 0, .ref o0]) (pre := []) (mid := [oc d0 6 [.ref (a 0), .ref q1, .ref (e 0), .ref q2, .ref (m 0), .ref q, .ref (t 0)], fc E a (nI h) (nI w) wd s0 z st he ke tu ca tr co la, hw4 E q n b (nI o) (nI k9) G]) C0 (c_X6_setTuft_x2F l hfl E d0 q1 q2 a e m t q n b G o k9 h w wd s0 z st he ke tu ca tr co la k v (by first | assumption | omega) (by first | assumption | omega) (by first | assumption | omega)) (cwV 2 hts gL_setTuft_X6_setTuft rfl rfl rfl (by decide +kernel) ⟨Nat.le_of_ble_eq_true rfl, Nat.le_of_ble_eq_true rfl⟩) hw rfl hZ (fun _ => [oc d0 6 [.ref (a 0), .ref q1, .ref (e 0), .ref q2, .ref (m 0), .ref q, .ref (t 0)], fc E a (nI h) (nI w) wd s0 z st he ke tu ca tr co la, hw4 E q n b (nI o) (nI k9) G]) (fun _ => rfl) 0 6 rfl rfl rfl rfl hl.1 rfl (Nat.le_of_ble_eq_true rfl) dL_setTuft_5 ⟨Nat.le_of_ble_eq_true rfl, Nat.le_of_ble_eq_true rfl⟩ (fun X9 ce9 q9 H locs hx9 hw hc9 hv9 hcl9 => ?_) (fun r u H locs hq99 hw => False.elim hq99)
  have hx9 : X9 = "java/lang/IllegalArgumentException" := hx9
  subst hx9
  refine vx_catch hown [⟨0, 10, 13, 19⟩] ⟨0, 10, 17, 13⟩ [] (hxt.trans rfl) (fun z hz => by cases List.mem_singleton.mp hz; exact Or.inr ⟨by decide, "java/lang/IndexOutOfBoundsException", hts (.classLink RL 19 "java/lang/IndexOutOfBoundsException") (by decide +kernel), hw.2.2.1.2.2.2.2.2.1 ("java/lang/IllegalArgumentException", "java/lang/IndexOutOfBoundsException") (by decide)⟩) (by decide) (by decide) (hts (.classLink RL 13 "java/lang/IllegalArgumentException") (by decide +kernel)) (va_Nw.use rfl (hw.2.2.1.2.2.2.1 "java/lang/IllegalArgumentException" (by decide))) hc9 hv9 hcl9 ?_
  refine W.eq (g2 := F0 mm 17 ls [.ref q9]) rfl ?_
  refine lv_astore (lv' := [(4, .ref q9), (0, .ref d0), (1, .int (nI k)), (2, .int v), (3, .ref o0)]) hx hb dL_setTuft_17 hl (by decide) rfl (fun ls hl => ?_)
  refine lv_iconst (v := 2) hx hb dL_setTuft_19 (by decide) ?_
  -- leaf 0
  exact k_iret C0 hr hlk hw () (rfl) (rfl) (Nat.le_of_ble_eq_true rfl) (Nat.le_of_ble_eq_true rfl) dL_setTuft_20

set_option maxHeartbeats 4000000 in
set_option maxRecDepth 100000 in
theorem c_L_setTuft_x1 (l : Launch) (hfl : l.stackTraces = false) (E : kE) (d0 : Nat) (q1 : Nat) (q2 : Nat) (a : Nat → Nat) (e : Nat → Nat) (m : Nat → Nat) (t : Nat → Nat) (q : Nat) (n : Nat) (b : Nat → Nat → Nat) (G : Nat → cT) (o : Nat) (k9 : Nat) (h : Nat) (w : Nat) (wd : Int32) (s0 : Int32) (z : Int32) (st : Nat → Int32) (he : Nat → Int32) (ke : Nat → Int32) (tu : Nat → Int32) (ca : Nat → Int32) (tr : Nat → Int32) (co : Nat → Int32) (la : Nat → Int32) (x : Int32) (v : Int32) (o0 : Nat) (f : Nat → Int64) (hG : kG h w) (hv : ¬ (¬ x < 0 ∧ ¬ nI (h * w - 1) < x)) : kH E l yL_setTuft wsL_setTuft rmL_setTuft [.ref d0, .int x, .int v, .ref o0] (List.flatten [oc d0 6 [.ref (a 0), .ref q1, .ref (e 0), .ref q2, .ref (m 0), .ref q, .ref (t 0)], fc E a (nI h) (nI w) wd s0 z st he ke tu ca tr co la, hw4 E q n b (nI o) (nI k9) G, lc E o0 1 f]) kI (fun (r : Int32) (_ : Unit) => r = 1) (fun _ => List.flatten [oc d0 6 [.ref (a 0), .ref q1, .ref (e 0), .ref q2, .ref (m 0), .ref q, .ref (t 0)], fc E a (nI h) (nI w) wd s0 z st he ke tu ca tr co la, hw4 E q n b (nI o) (nI k9) G, lc E o0 1 f]) 1 6 := by
  refine kH_body (cc := cL_setTuft) (maxL := 5) (ret := (some .int)) (hh := [(0, 10, 13, 19), (0, 10, 17, 13)]) (by decide) rfl (Nat.le_of_ble_eq_true rfl) ?_
  intro pp ee sx mm aa bb me cd H locs AA ls C0 hr hlk hxt hZ hl hw
  obtain ⟨hx, hb, hml, hown, hts⟩ := id C0
  have hl : lv_has ls 5 [(0, .ref d0), (1, .int x), (2, .int v), (3, .ref o0)] := hl
  have hw : kW E AA sx (List.flatten [oc d0 6 [.ref (a 0), .ref q1, .ref (e 0), .ref q2, .ref (m 0), .ref q, .ref (t 0)], fc E a (nI h) (nI w) wd s0 z st he ke tu ca tr co la, hw4 E q n b (nI o) (nI k9) G, lc E o0 1 f]) H locs := hw
  refine lv_aload_n hx hb dL_setTuft_0 rfl (lv_at hl 3 rfl) ?_
  refine lv_iconst (v := 0) hx hb dL_setTuft_1 (by decide) ?_
  refine lv_aload_n hx hb dL_setTuft_2 rfl (lv_at hl 0 rfl) ?_
  refine lv_iload_n hx hb dL_setTuft_3 rfl (lv_at hl 1 rfl) ?_
  refine lv_iload_n hx hb dL_setTuft_4 rfl (lv_at hl 2 rfl) ?_
  refine k_VX (As := [.int x, .int v]) (rest := [.int 0, .ref o0]) (pre := []) (mid := [oc d0 6 [.ref (a 0), .ref q1, .ref (e 0), .ref q2, .ref (m 0), .ref q, .ref (t 0)], fc E a (nI h) (nI w) wd s0 z st he ke tu ca tr co la, hw4 E q n b (nI o) (nI k9) G]) C0 (c_X6_setTuft_x1F l hfl E d0 q1 q2 a e m t q n b G o k9 h w wd s0 z st he ke tu ca tr co la x v (by first | assumption | omega) (by first | assumption | omega)) (cwV 2 hts gL_setTuft_X6_setTuft rfl rfl rfl (by decide +kernel) ⟨Nat.le_of_ble_eq_true rfl, Nat.le_of_ble_eq_true rfl⟩) hw rfl hZ (fun _ => [oc d0 6 [.ref (a 0), .ref q1, .ref (e 0), .ref q2, .ref (m 0), .ref q, .ref (t 0)], fc E a (nI h) (nI w) wd s0 z st he ke tu ca tr co la, hw4 E q n b (nI o) (nI k9) G]) (fun _ => rfl) 0 6 rfl rfl rfl rfl hl.1 rfl (Nat.le_of_ble_eq_true rfl) dL_setTuft_5 ⟨Nat.le_of_ble_eq_true rfl, Nat.le_of_ble_eq_true rfl⟩ (fun X9 ce9 q9 H locs hx9 hw hc9 hv9 hcl9 => ?_) (fun r u H locs hq99 hw => False.elim hq99)
  have hx9 : X9 = "java/lang/IndexOutOfBoundsException" := hx9
  subst hx9
  refine vx_catch hown [] ⟨0, 10, 13, 19⟩ [⟨0, 10, 17, 13⟩] (hxt.trans rfl) (fun z hz => by cases hz) (by decide) (by decide) (hts (.classLink RL 19 "java/lang/IndexOutOfBoundsException") (by decide +kernel)) (va_Nw.use rfl (hw.2.2.1.2.2.2.1 "java/lang/IndexOutOfBoundsException" (by decide))) hc9 hv9 hcl9 ?_
  refine W.eq (g2 := F0 mm 13 ls [.ref q9]) rfl ?_
  refine lv_astore (lv' := [(4, .ref q9), (0, .ref d0), (1, .int x), (2, .int v), (3, .ref o0)]) hx hb dL_setTuft_13 hl (by decide) rfl (fun ls hl => ?_)
  refine lv_iconst (v := 1) hx hb dL_setTuft_15 (by decide) ?_
  -- leaf 0
  exact k_iret C0 hr hlk hw () (rfl) (rfl) (Nat.le_of_ble_eq_true rfl) (Nat.le_of_ble_eq_true rfl) dL_setTuft_16

set_option maxHeartbeats 4000000 in
set_option maxRecDepth 100000 in
theorem c_L_setTuft_ok (l : Launch) (hfl : l.stackTraces = false) (E : kE) (d0 : Nat) (q1 : Nat) (q2 : Nat) (a : Nat → Nat) (e : Nat → Nat) (m : Nat → Nat) (t : Nat → Nat) (q : Nat) (n : Nat) (b : Nat → Nat → Nat) (G : Nat → cT) (o : Nat) (k9 : Nat) (h : Nat) (w : Nat) (wd : Int32) (s0 : Int32) (z : Int32) (st : Nat → Int32) (he : Nat → Int32) (ke : Nat → Int32) (tu : Nat → Int32) (ca : Nat → Int32) (tr : Nat → Int32) (co : Nat → Int32) (la : Nat → Int32) (k : Nat) (v : Int32) (o0 : Nat) (f : Nat → Int64) (hG : kG h w) (hc : k < h * w) (hv : ¬ v < 0 ∧ ¬ 100 < v) (ho : o < 4) (hk9 : k9 ≤ 4) : kH E l yL_setTuft wsL_setTuft rmL_setTuft [.ref d0, .int (nI k), .int v, .ref o0] (List.flatten [oc d0 6 [.ref (a 0), .ref q1, .ref (e 0), .ref q2, .ref (m 0), .ref q, .ref (t 0)], fc E a (nI h) (nI w) wd s0 z st he ke tu ca tr co la, hw4 E q n b (nI o) (nI k9) G, lc E o0 1 f]) kI (fun (r : Int32) (_ : Unit) => r = 0) (fun _ => List.flatten [oc d0 6 [.ref (a 0), .ref q1, .ref (e 0), .ref q2, .ref (m 0), .ref q, .ref (t 0)], fc E a (nI h) (nI w) wd s0 z st he ke (upd tu k v) ca tr co la, hw4 E q n b (nI (svO o k9)) (nI (svK k9)) (cup G (svI o k9) (nI h, nI w, wd, s0, z, st, he, ke, tu, ca, tr, co, la)), lc E o0 1 (vp_updL f 0 (Int32.toInt64 (tu k)))]) 1 6 := by
  refine kH_body (cc := cL_setTuft) (maxL := 5) (ret := (some .int)) (hh := [(0, 10, 13, 19), (0, 10, 17, 13)]) (by decide) rfl (Nat.le_of_ble_eq_true rfl) ?_
  intro pp ee sx mm aa bb me cd H locs AA ls C0 hr hlk hxt hZ hl hw
  obtain ⟨hx, hb, hml, hown, hts⟩ := id C0
  have hl : lv_has ls 5 [(0, .ref d0), (1, .int (nI k)), (2, .int v), (3, .ref o0)] := hl
  have hw : kW E AA sx (List.flatten [oc d0 6 [.ref (a 0), .ref q1, .ref (e 0), .ref q2, .ref (m 0), .ref q, .ref (t 0)], fc E a (nI h) (nI w) wd s0 z st he ke tu ca tr co la, hw4 E q n b (nI o) (nI k9) G, lc E o0 1 f]) H locs := hw
  refine lv_aload_n hx hb dL_setTuft_0 rfl (lv_at hl 3 rfl) ?_
  refine lv_iconst (v := 0) hx hb dL_setTuft_1 (by decide) ?_
  refine lv_aload_n hx hb dL_setTuft_2 rfl (lv_at hl 0 rfl) ?_
  refine lv_iload_n hx hb dL_setTuft_3 rfl (lv_at hl 1 rfl) ?_
  refine lv_iload_n hx hb dL_setTuft_4 rfl (lv_at hl 2 rfl) ?_
  refine k_VX (As := [.int (nI k), .int v]) (rest := [.int 0, .ref o0]) (pre := []) (mid := [oc d0 6 [.ref (a 0), .ref q1, .ref (e 0), .ref q2, .ref (m 0), .ref q, .ref (t 0)], fc E a (nI h) (nI w) wd s0 z st he ke tu ca tr co la, hw4 E q n b (nI o) (nI k9) G]) C0 (c_X6_setTuft_ok l hfl E d0 q1 q2 a e m t q n b G o k9 h w wd s0 z st he ke tu ca tr co la k v (by first | assumption | omega) (by first | assumption | omega) (by first | assumption | omega) (by first | assumption | omega) (by first | assumption | omega)) (cwV 2 hts gL_setTuft_X6_setTuft rfl rfl rfl (by decide +kernel) ⟨Nat.le_of_ble_eq_true rfl, Nat.le_of_ble_eq_true rfl⟩) hw rfl hZ (fun _ => [oc d0 6 [.ref (a 0), .ref q1, .ref (e 0), .ref q2, .ref (m 0), .ref q, .ref (t 0)], fc E a (nI h) (nI w) wd s0 z st he ke (upd tu k v) ca tr co la, hw4 E q n b (nI (svO o k9)) (nI (svK k9)) (cup G (svI o k9) (nI h, nI w, wd, s0, z, st, he, ke, tu, ca, tr, co, la))]) (fun _ => rfl) 0 6 rfl rfl rfl rfl hl.1 rfl (Nat.le_of_ble_eq_true rfl) dL_setTuft_5 ⟨Nat.le_of_ble_eq_true rfl, Nat.le_of_ble_eq_true rfl⟩ (fun X9 ce9 q9 H locs hx9 hw hc9 hv9 hcl9 => False.elim hx9) (fun r u H locs hq99 hw => ?_)
  subst hq99
  have hw : kW E AA sx (List.flatten [oc d0 6 [.ref (a 0), .ref q1, .ref (e 0), .ref q2, .ref (m 0), .ref q, .ref (t 0)], fc E a (nI h) (nI w) wd s0 z st he ke (upd tu k v) ca tr co la, hw4 E q n b (nI (svO o k9)) (nI (svK k9)) (cup G (svI o k9) (nI h, nI w, wd, s0, z, st, he, ke, tu, ca, tr, co, la)), lc E o0 1 f]) H locs := hw
  refine W.eq (g2 := F0 mm 8 ls [.int (tu k), .int 0, .ref o0]) rfl ?_
  refine lv_i2l (v := Int32.toInt64 (tu k)) hx hb dL_setTuft_8 rfl ?_
  refine k_last (pre := [oc d0 6 [.ref (a 0), .ref q1, .ref (e 0), .ref q2, .ref (m 0), .ref q, .ref (t 0)], fc E a (nI h) (nI w) wd s0 z st he ke (upd tu k v) ca tr co la, hw4 E q n b (nI (svO o k9)) (nI (svK k9)) (cup G (svI o k9) (nI h, nI w, wd, s0, z, st, he, ke, tu, ca, tr, co, la))]) C0 hw (i := 0) (kinN (n := 0) (by decide) (by decide)) dL_setTuft_9 (fun H locs hw => ?_)
  have hw : kW E AA sx (List.flatten [oc d0 6 [.ref (a 0), .ref q1, .ref (e 0), .ref q2, .ref (m 0), .ref q, .ref (t 0)], fc E a (nI h) (nI w) wd s0 z st he ke (upd tu k v) ca tr co la, hw4 E q n b (nI (svO o k9)) (nI (svK k9)) (cup G (svI o k9) (nI h, nI w, wd, s0, z, st, he, ke, tu, ca, tr, co, la)), lc E o0 1 (vp_updL f 0 (Int32.toInt64 (tu k)))]) H locs := hw
  refine lv_goto (tgt := 21) hx hb dL_setTuft_10 (by decide) ?_
  refine lv_iconst (v := 0) hx hb dL_setTuft_21 (by decide) ?_
  -- leaf 0
  exact k_iret C0 hr hlk hw () (rfl) (rfl) (Nat.le_of_ble_eq_true rfl) (Nat.le_of_ble_eq_true rfl) dL_setTuft_22

abbrev rmL_setFence : Room := { frames := 7, cells := 1, slots := 6, locals := 133 }
set_option maxHeartbeats 4000000 in
set_option maxRecDepth 100000 in
theorem c_L_setFence_x2 (l : Launch) (hfl : l.stackTraces = false) (E : kE) (d0 : Nat) (q1 : Nat) (q2 : Nat) (a : Nat → Nat) (e : Nat → Nat) (m : Nat → Nat) (t : Nat → Nat) (q : Nat) (n : Nat) (b : Nat → Nat → Nat) (G : Nat → cT) (o : Nat) (k9 : Nat) (h : Nat) (w : Nat) (wd : Int32) (s0 : Int32) (z : Int32) (st : Nat → Int32) (he : Nat → Int32) (ke : Nat → Int32) (tu : Nat → Int32) (ca : Nat → Int32) (tr : Nat → Int32) (co : Nat → Int32) (la : Nat → Int32) (k : Nat) (v : Int32) (o0 : Nat) (f : Nat → Int64) (hG : kG h w) (hc : k < h * w) (hv : ¬ (v = -1 ∨ (¬ v < 1 ∧ ¬ 50 < v))) : kH E l yL_setFence wsL_setFence rmL_setFence [.ref d0, .int (nI k), .int v, .ref o0] (List.flatten [oc d0 6 [.ref (a 0), .ref q1, .ref (e 0), .ref q2, .ref (m 0), .ref q, .ref (t 0)], fc E a (nI h) (nI w) wd s0 z st he ke tu ca tr co la, hw4 E q n b (nI o) (nI k9) G, lc E o0 1 f]) kI (fun (r : Int32) (_ : Unit) => r = 2) (fun _ => List.flatten [oc d0 6 [.ref (a 0), .ref q1, .ref (e 0), .ref q2, .ref (m 0), .ref q, .ref (t 0)], fc E a (nI h) (nI w) wd s0 z st he ke tu ca tr co la, hw4 E q n b (nI o) (nI k9) G, lc E o0 1 f]) 1 6 := by
  refine kH_body (cc := cL_setFence) (maxL := 5) (ret := (some .int)) (hh := [(0, 10, 13, 19), (0, 10, 17, 13)]) (by decide) rfl (Nat.le_of_ble_eq_true rfl) ?_
  intro pp ee sx mm aa bb me cd H locs AA ls C0 hr hlk hxt hZ hl hw
  obtain ⟨hx, hb, hml, hown, hts⟩ := id C0
  have hl : lv_has ls 5 [(0, .ref d0), (1, .int (nI k)), (2, .int v), (3, .ref o0)] := hl
  have hw : kW E AA sx (List.flatten [oc d0 6 [.ref (a 0), .ref q1, .ref (e 0), .ref q2, .ref (m 0), .ref q, .ref (t 0)], fc E a (nI h) (nI w) wd s0 z st he ke tu ca tr co la, hw4 E q n b (nI o) (nI k9) G, lc E o0 1 f]) H locs := hw
  refine lv_aload_n hx hb dL_setFence_0 rfl (lv_at hl 3 rfl) ?_
  refine lv_iconst (v := 0) hx hb dL_setFence_1 (by decide) ?_
  refine lv_aload_n hx hb dL_setFence_2 rfl (lv_at hl 0 rfl) ?_
  refine lv_iload_n hx hb dL_setFence_3 rfl (lv_at hl 1 rfl) ?_
  refine lv_iload_n hx hb dL_setFence_4 rfl (lv_at hl 2 rfl) ?_
  refine k_VX (As := [.int (nI k), .int v]) (rest := [.int 0, .ref o0]) (pre := []) (mid := [oc d0 6 [.ref (a 0), .ref q1, .ref (e 0), .ref q2, .ref (m 0), .ref q, .ref (t 0)], fc E a (nI h) (nI w) wd s0 z st he ke tu ca tr co la, hw4 E q n b (nI o) (nI k9) G]) C0 (c_X6_setFence_x2F l hfl E d0 q1 q2 a e m t q n b G o k9 h w wd s0 z st he ke tu ca tr co la k v (by first | assumption | omega) (by first | assumption | omega) (by first | assumption | omega)) (cwV 2 hts gL_setFence_X6_setFence rfl rfl rfl (by decide +kernel) ⟨Nat.le_of_ble_eq_true rfl, Nat.le_of_ble_eq_true rfl⟩) hw rfl hZ (fun _ => [oc d0 6 [.ref (a 0), .ref q1, .ref (e 0), .ref q2, .ref (m 0), .ref q, .ref (t 0)], fc E a (nI h) (nI w) wd s0 z st he ke tu ca tr co la, hw4 E q n b (nI o) (nI k9) G]) (fun _ => rfl) 0 6 rfl rfl rfl rfl hl.1 rfl (Nat.le_of_ble_eq_true rfl) dL_setFence_5 ⟨Nat.le_of_ble_eq_true rfl, Nat.le_of_ble_eq_true rfl⟩ (fun X9 ce9 q9 H locs hx9 hw hc9 hv9 hcl9 => ?_) (fun r u H locs hq99 hw => False.elim hq99)
  have hx9 : X9 = "java/lang/IllegalArgumentException" := hx9
  subst hx9
  refine vx_catch hown [⟨0, 10, 13, 19⟩] ⟨0, 10, 17, 13⟩ [] (hxt.trans rfl) (fun z hz => by cases List.mem_singleton.mp hz; exact Or.inr ⟨by decide, "java/lang/IndexOutOfBoundsException", hts (.classLink RL 19 "java/lang/IndexOutOfBoundsException") (by decide +kernel), hw.2.2.1.2.2.2.2.2.1 ("java/lang/IllegalArgumentException", "java/lang/IndexOutOfBoundsException") (by decide)⟩) (by decide) (by decide) (hts (.classLink RL 13 "java/lang/IllegalArgumentException") (by decide +kernel)) (va_Nw.use rfl (hw.2.2.1.2.2.2.1 "java/lang/IllegalArgumentException" (by decide))) hc9 hv9 hcl9 ?_
  refine W.eq (g2 := F0 mm 17 ls [.ref q9]) rfl ?_
  refine lv_astore (lv' := [(4, .ref q9), (0, .ref d0), (1, .int (nI k)), (2, .int v), (3, .ref o0)]) hx hb dL_setFence_17 hl (by decide) rfl (fun ls hl => ?_)
  refine lv_iconst (v := 2) hx hb dL_setFence_19 (by decide) ?_
  -- leaf 0
  exact k_iret C0 hr hlk hw () (rfl) (rfl) (Nat.le_of_ble_eq_true rfl) (Nat.le_of_ble_eq_true rfl) dL_setFence_20

set_option maxHeartbeats 4000000 in
set_option maxRecDepth 100000 in
theorem c_L_setFence_x1 (l : Launch) (hfl : l.stackTraces = false) (E : kE) (d0 : Nat) (q1 : Nat) (q2 : Nat) (a : Nat → Nat) (e : Nat → Nat) (m : Nat → Nat) (t : Nat → Nat) (q : Nat) (n : Nat) (b : Nat → Nat → Nat) (G : Nat → cT) (o : Nat) (k9 : Nat) (h : Nat) (w : Nat) (wd : Int32) (s0 : Int32) (z : Int32) (st : Nat → Int32) (he : Nat → Int32) (ke : Nat → Int32) (tu : Nat → Int32) (ca : Nat → Int32) (tr : Nat → Int32) (co : Nat → Int32) (la : Nat → Int32) (x : Int32) (v : Int32) (o0 : Nat) (f : Nat → Int64) (hG : kG h w) (hv : ¬ (¬ x < 0 ∧ ¬ nI (h * w - 1) < x)) : kH E l yL_setFence wsL_setFence rmL_setFence [.ref d0, .int x, .int v, .ref o0] (List.flatten [oc d0 6 [.ref (a 0), .ref q1, .ref (e 0), .ref q2, .ref (m 0), .ref q, .ref (t 0)], fc E a (nI h) (nI w) wd s0 z st he ke tu ca tr co la, hw4 E q n b (nI o) (nI k9) G, lc E o0 1 f]) kI (fun (r : Int32) (_ : Unit) => r = 1) (fun _ => List.flatten [oc d0 6 [.ref (a 0), .ref q1, .ref (e 0), .ref q2, .ref (m 0), .ref q, .ref (t 0)], fc E a (nI h) (nI w) wd s0 z st he ke tu ca tr co la, hw4 E q n b (nI o) (nI k9) G, lc E o0 1 f]) 1 6 := by
  refine kH_body (cc := cL_setFence) (maxL := 5) (ret := (some .int)) (hh := [(0, 10, 13, 19), (0, 10, 17, 13)]) (by decide) rfl (Nat.le_of_ble_eq_true rfl) ?_
  intro pp ee sx mm aa bb me cd H locs AA ls C0 hr hlk hxt hZ hl hw
  obtain ⟨hx, hb, hml, hown, hts⟩ := id C0
  have hl : lv_has ls 5 [(0, .ref d0), (1, .int x), (2, .int v), (3, .ref o0)] := hl
  have hw : kW E AA sx (List.flatten [oc d0 6 [.ref (a 0), .ref q1, .ref (e 0), .ref q2, .ref (m 0), .ref q, .ref (t 0)], fc E a (nI h) (nI w) wd s0 z st he ke tu ca tr co la, hw4 E q n b (nI o) (nI k9) G, lc E o0 1 f]) H locs := hw
  refine lv_aload_n hx hb dL_setFence_0 rfl (lv_at hl 3 rfl) ?_
  refine lv_iconst (v := 0) hx hb dL_setFence_1 (by decide) ?_
  refine lv_aload_n hx hb dL_setFence_2 rfl (lv_at hl 0 rfl) ?_
  refine lv_iload_n hx hb dL_setFence_3 rfl (lv_at hl 1 rfl) ?_
  refine lv_iload_n hx hb dL_setFence_4 rfl (lv_at hl 2 rfl) ?_
  refine k_VX (As := [.int x, .int v]) (rest := [.int 0, .ref o0]) (pre := []) (mid := [oc d0 6 [.ref (a 0), .ref q1, .ref (e 0), .ref q2, .ref (m 0), .ref q, .ref (t 0)], fc E a (nI h) (nI w) wd s0 z st he ke tu ca tr co la, hw4 E q n b (nI o) (nI k9) G]) C0 (c_X6_setFence_x1F l hfl E d0 q1 q2 a e m t q n b G o k9 h w wd s0 z st he ke tu ca tr co la x v (by first | assumption | omega) (by first | assumption | omega)) (cwV 2 hts gL_setFence_X6_setFence rfl rfl rfl (by decide +kernel) ⟨Nat.le_of_ble_eq_true rfl, Nat.le_of_ble_eq_true rfl⟩) hw rfl hZ (fun _ => [oc d0 6 [.ref (a 0), .ref q1, .ref (e 0), .ref q2, .ref (m 0), .ref q, .ref (t 0)], fc E a (nI h) (nI w) wd s0 z st he ke tu ca tr co la, hw4 E q n b (nI o) (nI k9) G]) (fun _ => rfl) 0 6 rfl rfl rfl rfl hl.1 rfl (Nat.le_of_ble_eq_true rfl) dL_setFence_5 ⟨Nat.le_of_ble_eq_true rfl, Nat.le_of_ble_eq_true rfl⟩ (fun X9 ce9 q9 H locs hx9 hw hc9 hv9 hcl9 => ?_) (fun r u H locs hq99 hw => False.elim hq99)
  have hx9 : X9 = "java/lang/IndexOutOfBoundsException" := hx9
  subst hx9
  refine vx_catch hown [] ⟨0, 10, 13, 19⟩ [⟨0, 10, 17, 13⟩] (hxt.trans rfl) (fun z hz => by cases hz) (by decide) (by decide) (hts (.classLink RL 19 "java/lang/IndexOutOfBoundsException") (by decide +kernel)) (va_Nw.use rfl (hw.2.2.1.2.2.2.1 "java/lang/IndexOutOfBoundsException" (by decide))) hc9 hv9 hcl9 ?_
  refine W.eq (g2 := F0 mm 13 ls [.ref q9]) rfl ?_
  refine lv_astore (lv' := [(4, .ref q9), (0, .ref d0), (1, .int x), (2, .int v), (3, .ref o0)]) hx hb dL_setFence_13 hl (by decide) rfl (fun ls hl => ?_)
  refine lv_iconst (v := 1) hx hb dL_setFence_15 (by decide) ?_
  -- leaf 0
  exact k_iret C0 hr hlk hw () (rfl) (rfl) (Nat.le_of_ble_eq_true rfl) (Nat.le_of_ble_eq_true rfl) dL_setFence_16

set_option maxHeartbeats 4000000 in
set_option maxRecDepth 100000 in
theorem c_L_setFence_ok (l : Launch) (hfl : l.stackTraces = false) (E : kE) (d0 : Nat) (q1 : Nat) (q2 : Nat) (a : Nat → Nat) (e : Nat → Nat) (m : Nat → Nat) (t : Nat → Nat) (q : Nat) (n : Nat) (b : Nat → Nat → Nat) (G : Nat → cT) (o : Nat) (k9 : Nat) (h : Nat) (w : Nat) (wd : Int32) (s0 : Int32) (z : Int32) (st : Nat → Int32) (he : Nat → Int32) (ke : Nat → Int32) (tu : Nat → Int32) (ca : Nat → Int32) (tr : Nat → Int32) (co : Nat → Int32) (la : Nat → Int32) (k : Nat) (v : Int32) (o0 : Nat) (f : Nat → Int64) (hG : kG h w) (hc : k < h * w) (hv : v = -1 ∨ (¬ v < 1 ∧ ¬ 50 < v)) (ho : o < 4) (hk9 : k9 ≤ 4) : kH E l yL_setFence wsL_setFence rmL_setFence [.ref d0, .int (nI k), .int v, .ref o0] (List.flatten [oc d0 6 [.ref (a 0), .ref q1, .ref (e 0), .ref q2, .ref (m 0), .ref q, .ref (t 0)], fc E a (nI h) (nI w) wd s0 z st he ke tu ca tr co la, hw4 E q n b (nI o) (nI k9) G, lc E o0 1 f]) kI (fun (r : Int32) (_ : Unit) => r = 0) (fun _ => List.flatten [oc d0 6 [.ref (a 0), .ref q1, .ref (e 0), .ref q2, .ref (m 0), .ref q, .ref (t 0)], fc E a (nI h) (nI w) wd s0 z st he ke tu (upd ca k v) (upd tr k 0) co la, hw4 E q n b (nI (svO o k9)) (nI (svK k9)) (cup G (svI o k9) (nI h, nI w, wd, s0, z, st, he, ke, tu, ca, tr, co, la)), lc E o0 1 (vp_updL f 0 (Int32.toInt64 (trpN ca tr k)))]) 1 6 := by
  refine kH_body (cc := cL_setFence) (maxL := 5) (ret := (some .int)) (hh := [(0, 10, 13, 19), (0, 10, 17, 13)]) (by decide) rfl (Nat.le_of_ble_eq_true rfl) ?_
  intro pp ee sx mm aa bb me cd H locs AA ls C0 hr hlk hxt hZ hl hw
  obtain ⟨hx, hb, hml, hown, hts⟩ := id C0
  have hl : lv_has ls 5 [(0, .ref d0), (1, .int (nI k)), (2, .int v), (3, .ref o0)] := hl
  have hw : kW E AA sx (List.flatten [oc d0 6 [.ref (a 0), .ref q1, .ref (e 0), .ref q2, .ref (m 0), .ref q, .ref (t 0)], fc E a (nI h) (nI w) wd s0 z st he ke tu ca tr co la, hw4 E q n b (nI o) (nI k9) G, lc E o0 1 f]) H locs := hw
  refine lv_aload_n hx hb dL_setFence_0 rfl (lv_at hl 3 rfl) ?_
  refine lv_iconst (v := 0) hx hb dL_setFence_1 (by decide) ?_
  refine lv_aload_n hx hb dL_setFence_2 rfl (lv_at hl 0 rfl) ?_
  refine lv_iload_n hx hb dL_setFence_3 rfl (lv_at hl 1 rfl) ?_
  refine lv_iload_n hx hb dL_setFence_4 rfl (lv_at hl 2 rfl) ?_
  refine k_VX (As := [.int (nI k), .int v]) (rest := [.int 0, .ref o0]) (pre := []) (mid := [oc d0 6 [.ref (a 0), .ref q1, .ref (e 0), .ref q2, .ref (m 0), .ref q, .ref (t 0)], fc E a (nI h) (nI w) wd s0 z st he ke tu ca tr co la, hw4 E q n b (nI o) (nI k9) G]) C0 (c_X6_setFence_ok l hfl E d0 q1 q2 a e m t q n b G o k9 h w wd s0 z st he ke tu ca tr co la k v (by first | assumption | omega) (by first | assumption | omega) (by first | assumption | omega) (by first | assumption | omega) (by first | assumption | omega)) (cwV 2 hts gL_setFence_X6_setFence rfl rfl rfl (by decide +kernel) ⟨Nat.le_of_ble_eq_true rfl, Nat.le_of_ble_eq_true rfl⟩) hw rfl hZ (fun _ => [oc d0 6 [.ref (a 0), .ref q1, .ref (e 0), .ref q2, .ref (m 0), .ref q, .ref (t 0)], fc E a (nI h) (nI w) wd s0 z st he ke tu (upd ca k v) (upd tr k 0) co la, hw4 E q n b (nI (svO o k9)) (nI (svK k9)) (cup G (svI o k9) (nI h, nI w, wd, s0, z, st, he, ke, tu, ca, tr, co, la))]) (fun _ => rfl) 0 6 rfl rfl rfl rfl hl.1 rfl (Nat.le_of_ble_eq_true rfl) dL_setFence_5 ⟨Nat.le_of_ble_eq_true rfl, Nat.le_of_ble_eq_true rfl⟩ (fun X9 ce9 q9 H locs hx9 hw hc9 hv9 hcl9 => False.elim hx9) (fun r u H locs hq99 hw => ?_)
  subst hq99
  have hw : kW E AA sx (List.flatten [oc d0 6 [.ref (a 0), .ref q1, .ref (e 0), .ref q2, .ref (m 0), .ref q, .ref (t 0)], fc E a (nI h) (nI w) wd s0 z st he ke tu (upd ca k v) (upd tr k 0) co la, hw4 E q n b (nI (svO o k9)) (nI (svK k9)) (cup G (svI o k9) (nI h, nI w, wd, s0, z, st, he, ke, tu, ca, tr, co, la)), lc E o0 1 f]) H locs := hw
  refine W.eq (g2 := F0 mm 8 ls [.int (trpN ca tr k), .int 0, .ref o0]) rfl ?_
  refine lv_i2l (v := Int32.toInt64 (trpN ca tr k)) hx hb dL_setFence_8 rfl ?_
  refine k_last (pre := [oc d0 6 [.ref (a 0), .ref q1, .ref (e 0), .ref q2, .ref (m 0), .ref q, .ref (t 0)], fc E a (nI h) (nI w) wd s0 z st he ke tu (upd ca k v) (upd tr k 0) co la, hw4 E q n b (nI (svO o k9)) (nI (svK k9)) (cup G (svI o k9) (nI h, nI w, wd, s0, z, st, he, ke, tu, ca, tr, co, la))]) C0 hw (i := 0) (kinN (n := 0) (by decide) (by decide)) dL_setFence_9 (fun H locs hw => ?_)
  have hw : kW E AA sx (List.flatten [oc d0 6 [.ref (a 0), .ref q1, .ref (e 0), .ref q2, .ref (m 0), .ref q, .ref (t 0)], fc E a (nI h) (nI w) wd s0 z st he ke tu (upd ca k v) (upd tr k 0) co la, hw4 E q n b (nI (svO o k9)) (nI (svK k9)) (cup G (svI o k9) (nI h, nI w, wd, s0, z, st, he, ke, tu, ca, tr, co, la)), lc E o0 1 (vp_updL f 0 (Int32.toInt64 (trpN ca tr k)))]) H locs := hw
  refine lv_goto (tgt := 21) hx hb dL_setFence_10 (by decide) ?_
  refine lv_iconst (v := 0) hx hb dL_setFence_21 (by decide) ?_
  -- leaf 0
  exact k_iret C0 hr hlk hw () (rfl) (rfl) (Nat.le_of_ble_eq_true rfl) (Nat.le_of_ble_eq_true rfl) dL_setFence_22

abbrev rmL_set : Room := { frames := 7, cells := 1, slots := 6, locals := 133 }
set_option maxHeartbeats 4000000 in
set_option maxRecDepth 100000 in
theorem c_L_set_x1 (l : Launch) (hfl : l.stackTraces = false) (E : kE) (d0 : Nat) (q1 : Nat) (q2 : Nat) (a : Nat → Nat) (e : Nat → Nat) (m : Nat → Nat) (t : Nat → Nat) (q : Nat) (n : Nat) (b : Nat → Nat → Nat) (G : Nat → cT) (o : Nat) (k9 : Nat) (h : Nat) (w : Nat) (wd : Int32) (s0 : Int32) (z : Int32) (st : Nat → Int32) (he : Nat → Int32) (ke : Nat → Int32) (tu : Nat → Int32) (ca : Nat → Int32) (tr : Nat → Int32) (co : Nat → Int32) (la : Nat → Int32) (x : Int32) (v : Int32) (o0 : Nat) (f : Nat → Int64) (hv : ¬ stB x v = true) : kH E l yL_set wsL_set rmL_set [.ref d0, .int x, .int v, .ref o0] (List.flatten [oc d0 6 [.ref (a 0), .ref q1, .ref (e 0), .ref q2, .ref (m 0), .ref q, .ref (t 0)], fc E a (nI h) (nI w) wd s0 z st he ke tu ca tr co la, hw4 E q n b (nI o) (nI k9) G, lc E o0 1 f]) kI (fun (r : Int32) (_ : Unit) => r = 1) (fun _ => List.flatten [oc d0 6 [.ref (a 0), .ref q1, .ref (e 0), .ref q2, .ref (m 0), .ref q, .ref (t 0)], fc E a (nI h) (nI w) wd s0 z st he ke tu ca tr co la, hw4 E q n b (nI o) (nI k9) G, lc E o0 1 f]) 1 6 := by
  refine kH_body (cc := cL_set) (maxL := 5) (ret := (some .int)) (hh := [(0, 10, 13, 13)]) (by decide) rfl (Nat.le_of_ble_eq_true rfl) ?_
  intro pp ee sx mm aa bb me cd H locs AA ls C0 hr hlk hxt hZ hl hw
  obtain ⟨hx, hb, hml, hown, hts⟩ := id C0
  have hl : lv_has ls 5 [(0, .ref d0), (1, .int x), (2, .int v), (3, .ref o0)] := hl
  have hw : kW E AA sx (List.flatten [oc d0 6 [.ref (a 0), .ref q1, .ref (e 0), .ref q2, .ref (m 0), .ref q, .ref (t 0)], fc E a (nI h) (nI w) wd s0 z st he ke tu ca tr co la, hw4 E q n b (nI o) (nI k9) G, lc E o0 1 f]) H locs := hw
  refine lv_aload_n hx hb dL_set_0 rfl (lv_at hl 3 rfl) ?_
  refine lv_iconst (v := 0) hx hb dL_set_1 (by decide) ?_
  refine lv_aload_n hx hb dL_set_2 rfl (lv_at hl 0 rfl) ?_
  refine lv_iload_n hx hb dL_set_3 rfl (lv_at hl 1 rfl) ?_
  refine lv_iload_n hx hb dL_set_4 rfl (lv_at hl 2 rfl) ?_
  refine k_VX (As := [.int x, .int v]) (rest := [.int 0, .ref o0]) (pre := []) (mid := [oc d0 6 [.ref (a 0), .ref q1, .ref (e 0), .ref q2, .ref (m 0), .ref q, .ref (t 0)], fc E a (nI h) (nI w) wd s0 z st he ke tu ca tr co la, hw4 E q n b (nI o) (nI k9) G]) C0 (c_X6_set_x1F l hfl E d0 q1 q2 a e m t q n b G o k9 h w wd s0 z st he ke tu ca tr co la x v (by first | assumption | omega)) (cwV 2 hts gL_set_X6_set rfl rfl rfl (by decide +kernel) ⟨Nat.le_of_ble_eq_true rfl, Nat.le_of_ble_eq_true rfl⟩) hw rfl hZ (fun _ => [oc d0 6 [.ref (a 0), .ref q1, .ref (e 0), .ref q2, .ref (m 0), .ref q, .ref (t 0)], fc E a (nI h) (nI w) wd s0 z st he ke tu ca tr co la, hw4 E q n b (nI o) (nI k9) G]) (fun _ => rfl) 0 6 rfl rfl rfl rfl hl.1 rfl (Nat.le_of_ble_eq_true rfl) dL_set_5 ⟨Nat.le_of_ble_eq_true rfl, Nat.le_of_ble_eq_true rfl⟩ (fun X9 ce9 q9 H locs hx9 hw hc9 hv9 hcl9 => ?_) (fun r u H locs hq99 hw => False.elim hq99)
  have hx9 : X9 = "java/lang/IllegalArgumentException" := hx9
  subst hx9
  refine vx_catch hown [] ⟨0, 10, 13, 13⟩ [] (hxt.trans rfl) (fun z hz => by cases hz) (by decide) (by decide) (hts (.classLink RL 13 "java/lang/IllegalArgumentException") (by decide +kernel)) (va_Nw.use rfl (hw.2.2.1.2.2.2.1 "java/lang/IllegalArgumentException" (by decide))) hc9 hv9 hcl9 ?_
  refine W.eq (g2 := F0 mm 13 ls [.ref q9]) rfl ?_
  refine lv_astore (lv' := [(4, .ref q9), (0, .ref d0), (1, .int x), (2, .int v), (3, .ref o0)]) hx hb dL_set_13 hl (by decide) rfl (fun ls hl => ?_)
  refine lv_iconst (v := 1) hx hb dL_set_15 (by decide) ?_
  -- leaf 0
  exact k_iret C0 hr hlk hw () (rfl) (rfl) (Nat.le_of_ble_eq_true rfl) (Nat.le_of_ble_eq_true rfl) dL_set_16

set_option maxHeartbeats 4000000 in
set_option maxRecDepth 100000 in
theorem c_L_set_ok (l : Launch) (hfl : l.stackTraces = false) (E : kE) (d0 : Nat) (q1 : Nat) (q2 : Nat) (a : Nat → Nat) (e : Nat → Nat) (m : Nat → Nat) (t : Nat → Nat) (q : Nat) (n : Nat) (b : Nat → Nat → Nat) (G : Nat → cT) (o : Nat) (k9 : Nat) (h : Nat) (w : Nat) (wd : Int32) (s0 : Int32) (z : Int32) (st : Nat → Int32) (he : Nat → Int32) (ke : Nat → Int32) (tu : Nat → Int32) (ca : Nat → Int32) (tr : Nat → Int32) (co : Nat → Int32) (la : Nat → Int32) (j9 : Nat) (v : Int32) (o0 : Nat) (f : Nat → Int64) (hj9 : j9 < 4) (hv : stB (nI j9) v = true) (ho : o < 4) (hk9 : k9 ≤ 4) : kH E l yL_set wsL_set rmL_set [.ref d0, .int (nI j9), .int v, .ref o0] (List.flatten [oc d0 6 [.ref (a 0), .ref q1, .ref (e 0), .ref q2, .ref (m 0), .ref q, .ref (t 0)], fc E a (nI h) (nI w) wd s0 z st he ke tu ca tr co la, hw4 E q n b (nI o) (nI k9) G, lc E o0 1 f]) kI (fun (r : Int32) (_ : Unit) => r = 0) (fun _ => List.flatten [oc d0 6 [.ref (a 0), .ref q1, .ref (e 0), .ref q2, .ref (m 0), .ref q, .ref (t 0)], fc E a (nI h) (nI w) wd s0 z (upd st j9 v) he ke tu ca tr co la, hw4 E q n b (nI (svO o k9)) (nI (svK k9)) (cup G (svI o k9) (nI h, nI w, wd, s0, z, st, he, ke, tu, ca, tr, co, la)), lc E o0 1 (vp_updL f 0 (Int32.toInt64 (st j9)))]) 1 6 := by
  refine kH_body (cc := cL_set) (maxL := 5) (ret := (some .int)) (hh := [(0, 10, 13, 13)]) (by decide) rfl (Nat.le_of_ble_eq_true rfl) ?_
  intro pp ee sx mm aa bb me cd H locs AA ls C0 hr hlk hxt hZ hl hw
  obtain ⟨hx, hb, hml, hown, hts⟩ := id C0
  have hl : lv_has ls 5 [(0, .ref d0), (1, .int (nI j9)), (2, .int v), (3, .ref o0)] := hl
  have hw : kW E AA sx (List.flatten [oc d0 6 [.ref (a 0), .ref q1, .ref (e 0), .ref q2, .ref (m 0), .ref q, .ref (t 0)], fc E a (nI h) (nI w) wd s0 z st he ke tu ca tr co la, hw4 E q n b (nI o) (nI k9) G, lc E o0 1 f]) H locs := hw
  refine lv_aload_n hx hb dL_set_0 rfl (lv_at hl 3 rfl) ?_
  refine lv_iconst (v := 0) hx hb dL_set_1 (by decide) ?_
  refine lv_aload_n hx hb dL_set_2 rfl (lv_at hl 0 rfl) ?_
  refine lv_iload_n hx hb dL_set_3 rfl (lv_at hl 1 rfl) ?_
  refine lv_iload_n hx hb dL_set_4 rfl (lv_at hl 2 rfl) ?_
  refine k_VX (As := [.int (nI j9), .int v]) (rest := [.int 0, .ref o0]) (pre := []) (mid := [oc d0 6 [.ref (a 0), .ref q1, .ref (e 0), .ref q2, .ref (m 0), .ref q, .ref (t 0)], fc E a (nI h) (nI w) wd s0 z st he ke tu ca tr co la, hw4 E q n b (nI o) (nI k9) G]) C0 (c_X6_set_ok l hfl E d0 q1 q2 a e m t q n b G o k9 h w wd s0 z st he ke tu ca tr co la j9 v (by first | assumption | omega) (by first | assumption | omega) (by first | assumption | omega) (by first | assumption | omega)) (cwV 2 hts gL_set_X6_set rfl rfl rfl (by decide +kernel) ⟨Nat.le_of_ble_eq_true rfl, Nat.le_of_ble_eq_true rfl⟩) hw rfl hZ (fun _ => [oc d0 6 [.ref (a 0), .ref q1, .ref (e 0), .ref q2, .ref (m 0), .ref q, .ref (t 0)], fc E a (nI h) (nI w) wd s0 z (upd st j9 v) he ke tu ca tr co la, hw4 E q n b (nI (svO o k9)) (nI (svK k9)) (cup G (svI o k9) (nI h, nI w, wd, s0, z, st, he, ke, tu, ca, tr, co, la))]) (fun _ => rfl) 0 6 rfl rfl rfl rfl hl.1 rfl (Nat.le_of_ble_eq_true rfl) dL_set_5 ⟨Nat.le_of_ble_eq_true rfl, Nat.le_of_ble_eq_true rfl⟩ (fun X9 ce9 q9 H locs hx9 hw hc9 hv9 hcl9 => False.elim hx9) (fun r u H locs hq99 hw => ?_)
  subst hq99
  have hw : kW E AA sx (List.flatten [oc d0 6 [.ref (a 0), .ref q1, .ref (e 0), .ref q2, .ref (m 0), .ref q, .ref (t 0)], fc E a (nI h) (nI w) wd s0 z (upd st j9 v) he ke tu ca tr co la, hw4 E q n b (nI (svO o k9)) (nI (svK k9)) (cup G (svI o k9) (nI h, nI w, wd, s0, z, st, he, ke, tu, ca, tr, co, la)), lc E o0 1 f]) H locs := hw
  refine W.eq (g2 := F0 mm 8 ls [.int (st j9), .int 0, .ref o0]) rfl ?_
  refine lv_i2l (v := Int32.toInt64 (st j9)) hx hb dL_set_8 rfl ?_
  refine k_last (pre := [oc d0 6 [.ref (a 0), .ref q1, .ref (e 0), .ref q2, .ref (m 0), .ref q, .ref (t 0)], fc E a (nI h) (nI w) wd s0 z (upd st j9 v) he ke tu ca tr co la, hw4 E q n b (nI (svO o k9)) (nI (svK k9)) (cup G (svI o k9) (nI h, nI w, wd, s0, z, st, he, ke, tu, ca, tr, co, la))]) C0 hw (i := 0) (kinN (n := 0) (by decide) (by decide)) dL_set_9 (fun H locs hw => ?_)
  have hw : kW E AA sx (List.flatten [oc d0 6 [.ref (a 0), .ref q1, .ref (e 0), .ref q2, .ref (m 0), .ref q, .ref (t 0)], fc E a (nI h) (nI w) wd s0 z (upd st j9 v) he ke tu ca tr co la, hw4 E q n b (nI (svO o k9)) (nI (svK k9)) (cup G (svI o k9) (nI h, nI w, wd, s0, z, st, he, ke, tu, ca, tr, co, la)), lc E o0 1 (vp_updL f 0 (Int32.toInt64 (st j9)))]) H locs := hw
  refine lv_goto (tgt := 17) hx hb dL_set_10 (by decide) ?_
  refine lv_iconst (v := 0) hx hb dL_set_17 (by decide) ?_
  -- leaf 0
  exact k_iret C0 hr hlk hw () (rfl) (rfl) (Nat.le_of_ble_eq_true rfl) (Nat.le_of_ble_eq_true rfl) dL_set_18

abbrev rmL_setWind : Room := { frames := 7, cells := 1, slots := 6, locals := 133 }
set_option maxHeartbeats 4000000 in
set_option maxRecDepth 100000 in
theorem c_L_setWind_x2 (l : Launch) (hfl : l.stackTraces = false) (E : kE) (d0 : Nat) (q1 : Nat) (q2 : Nat) (a : Nat → Nat) (e : Nat → Nat) (m : Nat → Nat) (t : Nat → Nat) (q : Nat) (n : Nat) (b : Nat → Nat → Nat) (G : Nat → cT) (o : Nat) (k9 : Nat) (h : Nat) (w : Nat) (wd : Int32) (s0 : Int32) (z : Int32) (st : Nat → Int32) (he : Nat → Int32) (ke : Nat → Int32) (tu : Nat → Int32) (ca : Nat → Int32) (tr : Nat → Int32) (co : Nat → Int32) (la : Nat → Int32) (d2 : Nat) (v : Int32) (o0 : Nat) (f : Nat → Int64) (hd2 : d2 < 4) (hv1 : ¬ v = -1) (hv : ¬ (¬ v < 0 ∧ ¬ 999999 < v)) : kH E l yL_setWind wsL_setWind rmL_setWind [.ref d0, .int (nI d2), .int v, .ref o0] (List.flatten [oc d0 6 [.ref (a 0), .ref q1, .ref (e 0), .ref q2, .ref (m 0), .ref q, .ref (t 0)], fc E a (nI h) (nI w) wd s0 z st he ke tu ca tr co la, hw4 E q n b (nI o) (nI k9) G, lc E o0 1 f]) kI (fun (r : Int32) (_ : Unit) => r = 1) (fun _ => List.flatten [oc d0 6 [.ref (a 0), .ref q1, .ref (e 0), .ref q2, .ref (m 0), .ref q, .ref (t 0)], fc E a (nI h) (nI w) wd s0 z st he ke tu ca tr co la, hw4 E q n b (nI o) (nI k9) G, lc E o0 1 f]) 1 6 := by
  refine kH_body (cc := cL_setWind) (maxL := 5) (ret := (some .int)) (hh := [(0, 10, 13, 13)]) (by decide) rfl (Nat.le_of_ble_eq_true rfl) ?_
  intro pp ee sx mm aa bb me cd H locs AA ls C0 hr hlk hxt hZ hl hw
  obtain ⟨hx, hb, hml, hown, hts⟩ := id C0
  have hl : lv_has ls 5 [(0, .ref d0), (1, .int (nI d2)), (2, .int v), (3, .ref o0)] := hl
  have hw : kW E AA sx (List.flatten [oc d0 6 [.ref (a 0), .ref q1, .ref (e 0), .ref q2, .ref (m 0), .ref q, .ref (t 0)], fc E a (nI h) (nI w) wd s0 z st he ke tu ca tr co la, hw4 E q n b (nI o) (nI k9) G, lc E o0 1 f]) H locs := hw
  refine lv_aload_n hx hb dL_setWind_0 rfl (lv_at hl 3 rfl) ?_
  refine lv_iconst (v := 0) hx hb dL_setWind_1 (by decide) ?_
  refine lv_aload_n hx hb dL_setWind_2 rfl (lv_at hl 0 rfl) ?_
  refine lv_iload_n hx hb dL_setWind_3 rfl (lv_at hl 1 rfl) ?_
  refine lv_iload_n hx hb dL_setWind_4 rfl (lv_at hl 2 rfl) ?_
  refine k_VX (As := [.int (nI d2), .int v]) (rest := [.int 0, .ref o0]) (pre := []) (mid := [oc d0 6 [.ref (a 0), .ref q1, .ref (e 0), .ref q2, .ref (m 0), .ref q, .ref (t 0)], fc E a (nI h) (nI w) wd s0 z st he ke tu ca tr co la, hw4 E q n b (nI o) (nI k9) G]) C0 (c_X6_setWind_x2F l hfl E d0 q1 q2 a e m t q n b G o k9 h w wd s0 z st he ke tu ca tr co la d2 v (by first | assumption | omega) (by first | assumption | omega) (by first | assumption | omega)) (cwV 2 hts gL_setWind_X6_setWind rfl rfl rfl (by decide +kernel) ⟨Nat.le_of_ble_eq_true rfl, Nat.le_of_ble_eq_true rfl⟩) hw rfl hZ (fun _ => [oc d0 6 [.ref (a 0), .ref q1, .ref (e 0), .ref q2, .ref (m 0), .ref q, .ref (t 0)], fc E a (nI h) (nI w) wd s0 z st he ke tu ca tr co la, hw4 E q n b (nI o) (nI k9) G]) (fun _ => rfl) 0 6 rfl rfl rfl rfl hl.1 rfl (Nat.le_of_ble_eq_true rfl) dL_setWind_5 ⟨Nat.le_of_ble_eq_true rfl, Nat.le_of_ble_eq_true rfl⟩ (fun X9 ce9 q9 H locs hx9 hw hc9 hv9 hcl9 => ?_) (fun r u H locs hq99 hw => False.elim hq99)
  have hx9 : X9 = "java/lang/IllegalArgumentException" := hx9
  subst hx9
  refine vx_catch hown [] ⟨0, 10, 13, 13⟩ [] (hxt.trans rfl) (fun z hz => by cases hz) (by decide) (by decide) (hts (.classLink RL 13 "java/lang/IllegalArgumentException") (by decide +kernel)) (va_Nw.use rfl (hw.2.2.1.2.2.2.1 "java/lang/IllegalArgumentException" (by decide))) hc9 hv9 hcl9 ?_
  refine W.eq (g2 := F0 mm 13 ls [.ref q9]) rfl ?_
  refine lv_astore (lv' := [(4, .ref q9), (0, .ref d0), (1, .int (nI d2)), (2, .int v), (3, .ref o0)]) hx hb dL_setWind_13 hl (by decide) rfl (fun ls hl => ?_)
  refine lv_iconst (v := 1) hx hb dL_setWind_15 (by decide) ?_
  -- leaf 0
  exact k_iret C0 hr hlk hw () (rfl) (rfl) (Nat.le_of_ble_eq_true rfl) (Nat.le_of_ble_eq_true rfl) dL_setWind_16

set_option maxHeartbeats 4000000 in
set_option maxRecDepth 100000 in
theorem c_L_setWind_x1 (l : Launch) (hfl : l.stackTraces = false) (E : kE) (d0 : Nat) (q1 : Nat) (q2 : Nat) (a : Nat → Nat) (e : Nat → Nat) (m : Nat → Nat) (t : Nat → Nat) (q : Nat) (n : Nat) (b : Nat → Nat → Nat) (G : Nat → cT) (o : Nat) (k9 : Nat) (h : Nat) (w : Nat) (wd : Int32) (s0 : Int32) (z : Int32) (st : Nat → Int32) (he : Nat → Int32) (ke : Nat → Int32) (tu : Nat → Int32) (ca : Nat → Int32) (tr : Nat → Int32) (co : Nat → Int32) (la : Nat → Int32) (x : Int32) (v : Int32) (o0 : Nat) (f : Nat → Int64) (hv : ¬ (¬ x < 0 ∧ ¬ 3 < x)) : kH E l yL_setWind wsL_setWind rmL_setWind [.ref d0, .int x, .int v, .ref o0] (List.flatten [oc d0 6 [.ref (a 0), .ref q1, .ref (e 0), .ref q2, .ref (m 0), .ref q, .ref (t 0)], fc E a (nI h) (nI w) wd s0 z st he ke tu ca tr co la, hw4 E q n b (nI o) (nI k9) G, lc E o0 1 f]) kI (fun (r : Int32) (_ : Unit) => r = 1) (fun _ => List.flatten [oc d0 6 [.ref (a 0), .ref q1, .ref (e 0), .ref q2, .ref (m 0), .ref q, .ref (t 0)], fc E a (nI h) (nI w) wd s0 z st he ke tu ca tr co la, hw4 E q n b (nI o) (nI k9) G, lc E o0 1 f]) 1 6 := by
  refine kH_body (cc := cL_setWind) (maxL := 5) (ret := (some .int)) (hh := [(0, 10, 13, 13)]) (by decide) rfl (Nat.le_of_ble_eq_true rfl) ?_
  intro pp ee sx mm aa bb me cd H locs AA ls C0 hr hlk hxt hZ hl hw
  obtain ⟨hx, hb, hml, hown, hts⟩ := id C0
  have hl : lv_has ls 5 [(0, .ref d0), (1, .int x), (2, .int v), (3, .ref o0)] := hl
  have hw : kW E AA sx (List.flatten [oc d0 6 [.ref (a 0), .ref q1, .ref (e 0), .ref q2, .ref (m 0), .ref q, .ref (t 0)], fc E a (nI h) (nI w) wd s0 z st he ke tu ca tr co la, hw4 E q n b (nI o) (nI k9) G, lc E o0 1 f]) H locs := hw
  refine lv_aload_n hx hb dL_setWind_0 rfl (lv_at hl 3 rfl) ?_
  refine lv_iconst (v := 0) hx hb dL_setWind_1 (by decide) ?_
  refine lv_aload_n hx hb dL_setWind_2 rfl (lv_at hl 0 rfl) ?_
  refine lv_iload_n hx hb dL_setWind_3 rfl (lv_at hl 1 rfl) ?_
  refine lv_iload_n hx hb dL_setWind_4 rfl (lv_at hl 2 rfl) ?_
  refine k_VX (As := [.int x, .int v]) (rest := [.int 0, .ref o0]) (pre := []) (mid := [oc d0 6 [.ref (a 0), .ref q1, .ref (e 0), .ref q2, .ref (m 0), .ref q, .ref (t 0)], fc E a (nI h) (nI w) wd s0 z st he ke tu ca tr co la, hw4 E q n b (nI o) (nI k9) G]) C0 (c_X6_setWind_x1F l hfl E d0 q1 q2 a e m t q n b G o k9 h w wd s0 z st he ke tu ca tr co la x v (by first | assumption | omega)) (cwV 2 hts gL_setWind_X6_setWind rfl rfl rfl (by decide +kernel) ⟨Nat.le_of_ble_eq_true rfl, Nat.le_of_ble_eq_true rfl⟩) hw rfl hZ (fun _ => [oc d0 6 [.ref (a 0), .ref q1, .ref (e 0), .ref q2, .ref (m 0), .ref q, .ref (t 0)], fc E a (nI h) (nI w) wd s0 z st he ke tu ca tr co la, hw4 E q n b (nI o) (nI k9) G]) (fun _ => rfl) 0 6 rfl rfl rfl rfl hl.1 rfl (Nat.le_of_ble_eq_true rfl) dL_setWind_5 ⟨Nat.le_of_ble_eq_true rfl, Nat.le_of_ble_eq_true rfl⟩ (fun X9 ce9 q9 H locs hx9 hw hc9 hv9 hcl9 => ?_) (fun r u H locs hq99 hw => False.elim hq99)
  have hx9 : X9 = "java/lang/IllegalArgumentException" := hx9
  subst hx9
  refine vx_catch hown [] ⟨0, 10, 13, 13⟩ [] (hxt.trans rfl) (fun z hz => by cases hz) (by decide) (by decide) (hts (.classLink RL 13 "java/lang/IllegalArgumentException") (by decide +kernel)) (va_Nw.use rfl (hw.2.2.1.2.2.2.1 "java/lang/IllegalArgumentException" (by decide))) hc9 hv9 hcl9 ?_
  refine W.eq (g2 := F0 mm 13 ls [.ref q9]) rfl ?_
  refine lv_astore (lv' := [(4, .ref q9), (0, .ref d0), (1, .int x), (2, .int v), (3, .ref o0)]) hx hb dL_setWind_13 hl (by decide) rfl (fun ls hl => ?_)
  refine lv_iconst (v := 1) hx hb dL_setWind_15 (by decide) ?_
  -- leaf 0
  exact k_iret C0 hr hlk hw () (rfl) (rfl) (Nat.le_of_ble_eq_true rfl) (Nat.le_of_ble_eq_true rfl) dL_setWind_16

set_option maxHeartbeats 4000000 in
set_option maxRecDepth 100000 in
theorem c_L_setWind_ok2 (l : Launch) (hfl : l.stackTraces = false) (E : kE) (d0 : Nat) (q1 : Nat) (q2 : Nat) (a : Nat → Nat) (e : Nat → Nat) (m : Nat → Nat) (t : Nat → Nat) (q : Nat) (n : Nat) (b : Nat → Nat → Nat) (G : Nat → cT) (o : Nat) (k9 : Nat) (h : Nat) (w : Nat) (wd : Int32) (s0 : Int32) (z : Int32) (st : Nat → Int32) (he : Nat → Int32) (ke : Nat → Int32) (tu : Nat → Int32) (ca : Nat → Int32) (tr : Nat → Int32) (co : Nat → Int32) (la : Nat → Int32) (d2 : Nat) (v : Int32) (o0 : Nat) (f : Nat → Int64) (hd2 : d2 < 4) (hv1 : ¬ v = -1) (hv : ¬ v < 0 ∧ ¬ 999999 < v) (ho : o < 4) (hk9 : k9 ≤ 4) : kH E l yL_setWind wsL_setWind rmL_setWind [.ref d0, .int (nI d2), .int v, .ref o0] (List.flatten [oc d0 6 [.ref (a 0), .ref q1, .ref (e 0), .ref q2, .ref (m 0), .ref q, .ref (t 0)], fc E a (nI h) (nI w) wd s0 z st he ke tu ca tr co la, hw4 E q n b (nI o) (nI k9) G, lc E o0 1 f]) kI (fun (r : Int32) (_ : Unit) => r = 0) (fun _ => List.flatten [oc d0 6 [.ref (a 0), .ref q1, .ref (e 0), .ref q2, .ref (m 0), .ref q, .ref (t 0)], fc E a (nI h) (nI w) (nI d2) v z st he ke tu ca tr co la, hw4 E q n b (nI (svO o k9)) (nI (svK k9)) (cup G (svI o k9) (nI h, nI w, wd, s0, z, st, he, ke, tu, ca, tr, co, la)), lc E o0 1 (vp_updL f 0 (Int32.toInt64 wd))]) 1 6 := by
  refine kH_body (cc := cL_setWind) (maxL := 5) (ret := (some .int)) (hh := [(0, 10, 13, 13)]) (by decide) rfl (Nat.le_of_ble_eq_true rfl) ?_
  intro pp ee sx mm aa bb me cd H locs AA ls C0 hr hlk hxt hZ hl hw
  obtain ⟨hx, hb, hml, hown, hts⟩ := id C0
  have hl : lv_has ls 5 [(0, .ref d0), (1, .int (nI d2)), (2, .int v), (3, .ref o0)] := hl
  have hw : kW E AA sx (List.flatten [oc d0 6 [.ref (a 0), .ref q1, .ref (e 0), .ref q2, .ref (m 0), .ref q, .ref (t 0)], fc E a (nI h) (nI w) wd s0 z st he ke tu ca tr co la, hw4 E q n b (nI o) (nI k9) G, lc E o0 1 f]) H locs := hw
  refine lv_aload_n hx hb dL_setWind_0 rfl (lv_at hl 3 rfl) ?_
  refine lv_iconst (v := 0) hx hb dL_setWind_1 (by decide) ?_
  refine lv_aload_n hx hb dL_setWind_2 rfl (lv_at hl 0 rfl) ?_
  refine lv_iload_n hx hb dL_setWind_3 rfl (lv_at hl 1 rfl) ?_
  refine lv_iload_n hx hb dL_setWind_4 rfl (lv_at hl 2 rfl) ?_
  refine k_VX (As := [.int (nI d2), .int v]) (rest := [.int 0, .ref o0]) (pre := []) (mid := [oc d0 6 [.ref (a 0), .ref q1, .ref (e 0), .ref q2, .ref (m 0), .ref q, .ref (t 0)], fc E a (nI h) (nI w) wd s0 z st he ke tu ca tr co la, hw4 E q n b (nI o) (nI k9) G]) C0 (c_X6_setWind_ok2 l hfl E d0 q1 q2 a e m t q n b G o k9 h w wd s0 z st he ke tu ca tr co la d2 v (by first | assumption | omega) (by first | assumption | omega) (by first | assumption | omega) (by first | assumption | omega) (by first | assumption | omega)) (cwV 2 hts gL_setWind_X6_setWind rfl rfl rfl (by decide +kernel) ⟨Nat.le_of_ble_eq_true rfl, Nat.le_of_ble_eq_true rfl⟩) hw rfl hZ (fun _ => [oc d0 6 [.ref (a 0), .ref q1, .ref (e 0), .ref q2, .ref (m 0), .ref q, .ref (t 0)], fc E a (nI h) (nI w) (nI d2) v z st he ke tu ca tr co la, hw4 E q n b (nI (svO o k9)) (nI (svK k9)) (cup G (svI o k9) (nI h, nI w, wd, s0, z, st, he, ke, tu, ca, tr, co, la))]) (fun _ => rfl) 0 6 rfl rfl rfl rfl hl.1 rfl (Nat.le_of_ble_eq_true rfl) dL_setWind_5 ⟨Nat.le_of_ble_eq_true rfl, Nat.le_of_ble_eq_true rfl⟩ (fun X9 ce9 q9 H locs hx9 hw hc9 hv9 hcl9 => False.elim hx9) (fun r u H locs hq99 hw => ?_)
  subst r
  have hw : kW E AA sx (List.flatten [oc d0 6 [.ref (a 0), .ref q1, .ref (e 0), .ref q2, .ref (m 0), .ref q, .ref (t 0)], fc E a (nI h) (nI w) (nI d2) v z st he ke tu ca tr co la, hw4 E q n b (nI (svO o k9)) (nI (svK k9)) (cup G (svI o k9) (nI h, nI w, wd, s0, z, st, he, ke, tu, ca, tr, co, la)), lc E o0 1 f]) H locs := hw
  refine W.eq (g2 := F0 mm 8 ls [.int wd, .int 0, .ref o0]) rfl ?_
  refine lv_i2l (v := Int32.toInt64 wd) hx hb dL_setWind_8 rfl ?_
  refine k_last (pre := [oc d0 6 [.ref (a 0), .ref q1, .ref (e 0), .ref q2, .ref (m 0), .ref q, .ref (t 0)], fc E a (nI h) (nI w) (nI d2) v z st he ke tu ca tr co la, hw4 E q n b (nI (svO o k9)) (nI (svK k9)) (cup G (svI o k9) (nI h, nI w, wd, s0, z, st, he, ke, tu, ca, tr, co, la))]) C0 hw (i := 0) (kinN (n := 0) (by decide) (by decide)) dL_setWind_9 (fun H locs hw => ?_)
  have hw : kW E AA sx (List.flatten [oc d0 6 [.ref (a 0), .ref q1, .ref (e 0), .ref q2, .ref (m 0), .ref q, .ref (t 0)], fc E a (nI h) (nI w) (nI d2) v z st he ke tu ca tr co la, hw4 E q n b (nI (svO o k9)) (nI (svK k9)) (cup G (svI o k9) (nI h, nI w, wd, s0, z, st, he, ke, tu, ca, tr, co, la)), lc E o0 1 (vp_updL f 0 (Int32.toInt64 wd))]) H locs := hw
  refine lv_goto (tgt := 17) hx hb dL_setWind_10 (by decide) ?_
  refine lv_iconst (v := 0) hx hb dL_setWind_17 (by decide) ?_
  -- leaf 0
  exact k_iret C0 hr hlk hw () (rfl) (rfl) (Nat.le_of_ble_eq_true rfl) (Nat.le_of_ble_eq_true rfl) dL_setWind_18

set_option maxHeartbeats 4000000 in
set_option maxRecDepth 100000 in
theorem c_L_setWind_ok1 (l : Launch) (hfl : l.stackTraces = false) (E : kE) (d0 : Nat) (q1 : Nat) (q2 : Nat) (a : Nat → Nat) (e : Nat → Nat) (m : Nat → Nat) (t : Nat → Nat) (q : Nat) (n : Nat) (b : Nat → Nat → Nat) (G : Nat → cT) (o : Nat) (k9 : Nat) (h : Nat) (w : Nat) (wd : Int32) (s0 : Int32) (z : Int32) (st : Nat → Int32) (he : Nat → Int32) (ke : Nat → Int32) (tu : Nat → Int32) (ca : Nat → Int32) (tr : Nat → Int32) (co : Nat → Int32) (la : Nat → Int32) (d2 : Nat) (v : Int32) (o0 : Nat) (f : Nat → Int64) (hd2 : d2 < 4) (hv : v = -1) (ho : o < 4) (hk9 : k9 ≤ 4) : kH E l yL_setWind wsL_setWind rmL_setWind [.ref d0, .int (nI d2), .int v, .ref o0] (List.flatten [oc d0 6 [.ref (a 0), .ref q1, .ref (e 0), .ref q2, .ref (m 0), .ref q, .ref (t 0)], fc E a (nI h) (nI w) wd s0 z st he ke tu ca tr co la, hw4 E q n b (nI o) (nI k9) G, lc E o0 1 f]) kI (fun (r : Int32) (_ : Unit) => r = 0) (fun _ => List.flatten [oc d0 6 [.ref (a 0), .ref q1, .ref (e 0), .ref q2, .ref (m 0), .ref q, .ref (t 0)], fc E a (nI h) (nI w) (nI d2) s0 z st he ke tu ca tr co la, hw4 E q n b (nI (svO o k9)) (nI (svK k9)) (cup G (svI o k9) (nI h, nI w, wd, s0, z, st, he, ke, tu, ca, tr, co, la)), lc E o0 1 (vp_updL f 0 (Int32.toInt64 wd))]) 1 6 := by
  refine kH_body (cc := cL_setWind) (maxL := 5) (ret := (some .int)) (hh := [(0, 10, 13, 13)]) (by decide) rfl (Nat.le_of_ble_eq_true rfl) ?_
  intro pp ee sx mm aa bb me cd H locs AA ls C0 hr hlk hxt hZ hl hw
  obtain ⟨hx, hb, hml, hown, hts⟩ := id C0
  have hl : lv_has ls 5 [(0, .ref d0), (1, .int (nI d2)), (2, .int v), (3, .ref o0)] := hl
  have hw : kW E AA sx (List.flatten [oc d0 6 [.ref (a 0), .ref q1, .ref (e 0), .ref q2, .ref (m 0), .ref q, .ref (t 0)], fc E a (nI h) (nI w) wd s0 z st he ke tu ca tr co la, hw4 E q n b (nI o) (nI k9) G, lc E o0 1 f]) H locs := hw
  refine lv_aload_n hx hb dL_setWind_0 rfl (lv_at hl 3 rfl) ?_
  refine lv_iconst (v := 0) hx hb dL_setWind_1 (by decide) ?_
  refine lv_aload_n hx hb dL_setWind_2 rfl (lv_at hl 0 rfl) ?_
  refine lv_iload_n hx hb dL_setWind_3 rfl (lv_at hl 1 rfl) ?_
  refine lv_iload_n hx hb dL_setWind_4 rfl (lv_at hl 2 rfl) ?_
  refine k_VX (As := [.int (nI d2), .int v]) (rest := [.int 0, .ref o0]) (pre := []) (mid := [oc d0 6 [.ref (a 0), .ref q1, .ref (e 0), .ref q2, .ref (m 0), .ref q, .ref (t 0)], fc E a (nI h) (nI w) wd s0 z st he ke tu ca tr co la, hw4 E q n b (nI o) (nI k9) G]) C0 (c_X6_setWind_ok1 l hfl E d0 q1 q2 a e m t q n b G o k9 h w wd s0 z st he ke tu ca tr co la d2 v (by first | assumption | omega) (by first | assumption | omega) (by first | assumption | omega) (by first | assumption | omega)) (cwV 2 hts gL_setWind_X6_setWind rfl rfl rfl (by decide +kernel) ⟨Nat.le_of_ble_eq_true rfl, Nat.le_of_ble_eq_true rfl⟩) hw rfl hZ (fun _ => [oc d0 6 [.ref (a 0), .ref q1, .ref (e 0), .ref q2, .ref (m 0), .ref q, .ref (t 0)], fc E a (nI h) (nI w) (nI d2) s0 z st he ke tu ca tr co la, hw4 E q n b (nI (svO o k9)) (nI (svK k9)) (cup G (svI o k9) (nI h, nI w, wd, s0, z, st, he, ke, tu, ca, tr, co, la))]) (fun _ => rfl) 0 6 rfl rfl rfl rfl hl.1 rfl (Nat.le_of_ble_eq_true rfl) dL_setWind_5 ⟨Nat.le_of_ble_eq_true rfl, Nat.le_of_ble_eq_true rfl⟩ (fun X9 ce9 q9 H locs hx9 hw hc9 hv9 hcl9 => False.elim hx9) (fun r u H locs hq99 hw => ?_)
  subst r
  have hw : kW E AA sx (List.flatten [oc d0 6 [.ref (a 0), .ref q1, .ref (e 0), .ref q2, .ref (m 0), .ref q, .ref (t 0)], fc E a (nI h) (nI w) (nI d2) s0 z st he ke tu ca tr co la, hw4 E q n b (nI (svO o k9)) (nI (svK k9)) (cup G (svI o k9) (nI h, nI w, wd, s0, z, st, he, ke, tu, ca, tr, co, la)), lc E o0 1 f]) H locs := hw
  refine W.eq (g2 := F0 mm 8 ls [.int wd, .int 0, .ref o0]) rfl ?_
  refine lv_i2l (v := Int32.toInt64 wd) hx hb dL_setWind_8 rfl ?_
  refine k_last (pre := [oc d0 6 [.ref (a 0), .ref q1, .ref (e 0), .ref q2, .ref (m 0), .ref q, .ref (t 0)], fc E a (nI h) (nI w) (nI d2) s0 z st he ke tu ca tr co la, hw4 E q n b (nI (svO o k9)) (nI (svK k9)) (cup G (svI o k9) (nI h, nI w, wd, s0, z, st, he, ke, tu, ca, tr, co, la))]) C0 hw (i := 0) (kinN (n := 0) (by decide) (by decide)) dL_setWind_9 (fun H locs hw => ?_)
  have hw : kW E AA sx (List.flatten [oc d0 6 [.ref (a 0), .ref q1, .ref (e 0), .ref q2, .ref (m 0), .ref q, .ref (t 0)], fc E a (nI h) (nI w) (nI d2) s0 z st he ke tu ca tr co la, hw4 E q n b (nI (svO o k9)) (nI (svK k9)) (cup G (svI o k9) (nI h, nI w, wd, s0, z, st, he, ke, tu, ca, tr, co, la)), lc E o0 1 (vp_updL f 0 (Int32.toInt64 wd))]) H locs := hw
  refine lv_goto (tgt := 17) hx hb dL_setWind_10 (by decide) ?_
  refine lv_iconst (v := 0) hx hb dL_setWind_17 (by decide) ?_
  -- leaf 0
  exact k_iret C0 hr hlk hw () (rfl) (rfl) (Nat.le_of_ble_eq_true rfl) (Nat.le_of_ble_eq_true rfl) dL_setWind_18

abbrev rmL_run : Room := { frames := 7, cells := 1, slots := 6, locals := 143 }
set_option maxHeartbeats 4000000 in
set_option maxRecDepth 100000 in
theorem c_L_run_x1 (l : Launch) (hfl : l.stackTraces = false) (E : kE) (d0 : Nat) (q1 : Nat) (q2 : Nat) (a : Nat → Nat) (e : Nat → Nat) (m : Nat → Nat) (t : Nat → Nat) (q : Nat) (n : Nat) (b : Nat → Nat → Nat) (G : Nat → cT) (o : Nat) (k9 : Nat) (h : Nat) (w : Nat) (wd : Int32) (s0 : Int32) (z : Int32) (st : Nat → Int32) (he : Nat → Int32) (ke : Nat → Int32) (tu : Nat → Int32) (ca : Nat → Int32) (tr : Nat → Int32) (co : Nat → Int32) (la : Nat → Int32) (x : Int32) (o0 : Nat) (f : Nat → Int64) (hv : ¬ (¬ x < 0 ∧ ¬ 2000 < x)) : kH E l yL_run wsL_run rmL_run [.ref d0, .int x, .ref o0] (List.flatten [oc d0 6 [.ref (a 0), .ref q1, .ref (e 0), .ref q2, .ref (m 0), .ref q, .ref (t 0)], fc E a (nI h) (nI w) wd s0 z st he ke tu ca tr co la, hw4 E q n b (nI o) (nI k9) G, lc E o0 1 f]) kI (fun (r : Int32) (_ : Unit) => r = 1) (fun _ => List.flatten [oc d0 6 [.ref (a 0), .ref q1, .ref (e 0), .ref q2, .ref (m 0), .ref q, .ref (t 0)], fc E a (nI h) (nI w) wd s0 z st he ke tu ca tr co la, hw4 E q n b (nI o) (nI k9) G, lc E o0 1 f]) 1 6 := by
  refine kH_body (cc := cL_run) (maxL := 4) (ret := (some .int)) (hh := [(0, 9, 12, 13)]) (by decide) rfl (Nat.le_of_ble_eq_true rfl) ?_
  intro pp ee sx mm aa bb me cd H locs AA ls C0 hr hlk hxt hZ hl hw
  obtain ⟨hx, hb, hml, hown, hts⟩ := id C0
  have hl : lv_has ls 4 [(0, .ref d0), (1, .int x), (2, .ref o0)] := hl
  have hw : kW E AA sx (List.flatten [oc d0 6 [.ref (a 0), .ref q1, .ref (e 0), .ref q2, .ref (m 0), .ref q, .ref (t 0)], fc E a (nI h) (nI w) wd s0 z st he ke tu ca tr co la, hw4 E q n b (nI o) (nI k9) G, lc E o0 1 f]) H locs := hw
  refine lv_aload_n hx hb dL_run_0 rfl (lv_at hl 2 rfl) ?_
  refine lv_iconst (v := 0) hx hb dL_run_1 (by decide) ?_
  refine lv_aload_n hx hb dL_run_2 rfl (lv_at hl 0 rfl) ?_
  refine lv_iload_n hx hb dL_run_3 rfl (lv_at hl 1 rfl) ?_
  refine k_VX (As := [.int x]) (rest := [.int 0, .ref o0]) (pre := []) (mid := [oc d0 6 [.ref (a 0), .ref q1, .ref (e 0), .ref q2, .ref (m 0), .ref q, .ref (t 0)], fc E a (nI h) (nI w) wd s0 z st he ke tu ca tr co la, hw4 E q n b (nI o) (nI k9) G]) C0 (c_X6_run_x1F l hfl E d0 q1 q2 a e m t q n b G o k9 h w wd s0 z st he ke tu ca tr co la x (by first | assumption | omega)) (cwV 1 hts gL_run_X6_run rfl rfl rfl (by decide +kernel) ⟨Nat.le_of_ble_eq_true rfl, Nat.le_of_ble_eq_true rfl⟩) hw rfl hZ (fun _ => [oc d0 6 [.ref (a 0), .ref q1, .ref (e 0), .ref q2, .ref (m 0), .ref q, .ref (t 0)], fc E a (nI h) (nI w) wd s0 z st he ke tu ca tr co la, hw4 E q n b (nI o) (nI k9) G]) (fun _ => rfl) 0 6 rfl rfl rfl rfl hl.1 rfl (Nat.le_of_ble_eq_true rfl) dL_run_4 ⟨Nat.le_of_ble_eq_true rfl, Nat.le_of_ble_eq_true rfl⟩ (fun X9 ce9 q9 H locs hx9 hw hc9 hv9 hcl9 => ?_) (fun r u H locs hq99 hw => False.elim hq99)
  have hx9 : X9 = "java/lang/IllegalArgumentException" := hx9
  subst hx9
  refine vx_catch hown [] ⟨0, 9, 12, 13⟩ [] (hxt.trans rfl) (fun z hz => by cases hz) (by decide) (by decide) (hts (.classLink RL 13 "java/lang/IllegalArgumentException") (by decide +kernel)) (va_Nw.use rfl (hw.2.2.1.2.2.2.1 "java/lang/IllegalArgumentException" (by decide))) hc9 hv9 hcl9 ?_
  refine W.eq (g2 := F0 mm 12 ls [.ref q9]) rfl ?_
  refine lv_astore_n (lv' := [(3, .ref q9), (0, .ref d0), (1, .int x), (2, .ref o0)]) hx hb dL_run_12 rfl hl (by decide) rfl (fun ls hl => ?_)
  refine lv_iconst (v := 1) hx hb dL_run_13 (by decide) ?_
  -- leaf 0
  exact k_iret C0 hr hlk hw () (rfl) (rfl) (Nat.le_of_ble_eq_true rfl) (Nat.le_of_ble_eq_true rfl) dL_run_14

set_option maxHeartbeats 4000000 in
set_option maxRecDepth 100000 in
theorem c_L_run_ok (l : Launch) (hfl : l.stackTraces = false) (E : kE) (d0 : Nat) (q1 : Nat) (q2 : Nat) (a : Nat → Nat) (e : Nat → Nat) (m : Nat → Nat) (t : Nat → Nat) (q : Nat) (n : Nat) (b : Nat → Nat → Nat) (G : Nat → cT) (o : Nat) (k9 : Nat) (h : Nat) (w : Nat) (z : Int32) (st : Nat → Int32) (he : Nat → Int32) (ke : Nat → Int32) (tu : Nat → Int32) (ca : Nat → Int32) (tr : Nat → Int32) (co : Nat → Int32) (la : Nat → Int32) (d : Nat) (n0 : Nat) (m9 : Nat) (hp : Nat) (o0 : Nat) (f : Nat → Int64) (hG : kG h w) (hm9 : m9 ≤ 2000) (hd : d < 4) (hn0 : n0 < 2147483648) (hst0 : st 0 = nI hp) (hp8 : hp ≤ 8) (ho : o < 4) (hk9 : k9 ≤ 4) : kH E l yL_run wsL_run rmL_run [.ref d0, .int (nI m9), .ref o0] (List.flatten [oc d0 6 [.ref (a 0), .ref q1, .ref (e 0), .ref q2, .ref (m 0), .ref q, .ref (t 0)], oc q1 5 [.ref (a 0), .ref (a 2)], fc E a (nI h) (nI w) (nI d) (nI n0) z st he ke tu ca tr co la, hw4 E q n b (nI o) (nI k9) G, lc E o0 1 f]) kI (fun (r : Int32) (_ : Unit) => r = 0) (fun _ => List.flatten [oc d0 6 [.ref (a 0), .ref q1, .ref (e 0), .ref q2, .ref (m 0), .ref q, .ref (t 0)], oc q1 5 [.ref (a 0), .ref (a 2)], fc E a (nI h) (nI w) (nI d) (nI (blo h w d hp st tu ca m9 (n0, he, tr, co, la)).2.1) z st ((blo h w d hp st tu ca m9 (n0, he, tr, co, la)).2.2.1) ke tu ca ((blo h w d hp st tu ca m9 (n0, he, tr, co, la)).2.2.2.1) ((blo h w d hp st tu ca m9 (n0, he, tr, co, la)).2.2.2.2.1) ((blo h w d hp st tu ca m9 (n0, he, tr, co, la)).2.2.2.2.2), hw4 E q n b (nI (svO o k9)) (nI (svK k9)) (cup G (svI o k9) (nI h, nI w, nI d, nI n0, z, st, he, ke, tu, ca, tr, co, la)), lc E o0 1 (vp_updL f 0 (Int32.toInt64 (nI (blo h w d hp st tu ca m9 (n0, he, tr, co, la)).1)))]) 1 6 := by
  refine kH_body (cc := cL_run) (maxL := 4) (ret := (some .int)) (hh := [(0, 9, 12, 13)]) (by decide) rfl (Nat.le_of_ble_eq_true rfl) ?_
  intro pp ee sx mm aa bb me cd H locs AA ls C0 hr hlk hxt hZ hl hw
  obtain ⟨hx, hb, hml, hown, hts⟩ := id C0
  have hl : lv_has ls 4 [(0, .ref d0), (1, .int (nI m9)), (2, .ref o0)] := hl
  have hw : kW E AA sx (List.flatten [oc d0 6 [.ref (a 0), .ref q1, .ref (e 0), .ref q2, .ref (m 0), .ref q, .ref (t 0)], oc q1 5 [.ref (a 0), .ref (a 2)], fc E a (nI h) (nI w) (nI d) (nI n0) z st he ke tu ca tr co la, hw4 E q n b (nI o) (nI k9) G, lc E o0 1 f]) H locs := hw
  refine lv_aload_n hx hb dL_run_0 rfl (lv_at hl 2 rfl) ?_
  refine lv_iconst (v := 0) hx hb dL_run_1 (by decide) ?_
  refine lv_aload_n hx hb dL_run_2 rfl (lv_at hl 0 rfl) ?_
  refine lv_iload_n hx hb dL_run_3 rfl (lv_at hl 1 rfl) ?_
  refine k_VX (As := [.int (nI m9)]) (rest := [.int 0, .ref o0]) (pre := []) (mid := [oc d0 6 [.ref (a 0), .ref q1, .ref (e 0), .ref q2, .ref (m 0), .ref q, .ref (t 0)], oc q1 5 [.ref (a 0), .ref (a 2)], fc E a (nI h) (nI w) (nI d) (nI n0) z st he ke tu ca tr co la, hw4 E q n b (nI o) (nI k9) G]) C0 (c_X6_run_ok l hfl E d0 q1 q2 a e m t q n b G o k9 h w z st he ke tu ca tr co la d n0 m9 hp (by first | assumption | omega) (by first | assumption | omega) (by first | assumption | omega) (by first | assumption | omega) (by first | assumption | omega) (by first | assumption | omega) (by first | assumption | omega) (by first | assumption | omega)) (cwV 1 hts gL_run_X6_run rfl rfl rfl (by decide +kernel) ⟨Nat.le_of_ble_eq_true rfl, Nat.le_of_ble_eq_true rfl⟩) hw rfl hZ (fun _ => [oc d0 6 [.ref (a 0), .ref q1, .ref (e 0), .ref q2, .ref (m 0), .ref q, .ref (t 0)], oc q1 5 [.ref (a 0), .ref (a 2)], fc E a (nI h) (nI w) (nI d) (nI (blo h w d hp st tu ca m9 (n0, he, tr, co, la)).2.1) z st ((blo h w d hp st tu ca m9 (n0, he, tr, co, la)).2.2.1) ke tu ca ((blo h w d hp st tu ca m9 (n0, he, tr, co, la)).2.2.2.1) ((blo h w d hp st tu ca m9 (n0, he, tr, co, la)).2.2.2.2.1) ((blo h w d hp st tu ca m9 (n0, he, tr, co, la)).2.2.2.2.2), hw4 E q n b (nI (svO o k9)) (nI (svK k9)) (cup G (svI o k9) (nI h, nI w, nI d, nI n0, z, st, he, ke, tu, ca, tr, co, la))]) (fun _ => rfl) 0 6 rfl rfl rfl rfl hl.1 rfl (Nat.le_of_ble_eq_true rfl) dL_run_4 ⟨Nat.le_of_ble_eq_true rfl, Nat.le_of_ble_eq_true rfl⟩ (fun X9 ce9 q9 H locs hx9 hw hc9 hv9 hcl9 => False.elim hx9) (fun r u H locs hq99 hw => ?_)
  subst hq99
  have hw : kW E AA sx (List.flatten [oc d0 6 [.ref (a 0), .ref q1, .ref (e 0), .ref q2, .ref (m 0), .ref q, .ref (t 0)], oc q1 5 [.ref (a 0), .ref (a 2)], fc E a (nI h) (nI w) (nI d) (nI (blo h w d hp st tu ca m9 (n0, he, tr, co, la)).2.1) z st ((blo h w d hp st tu ca m9 (n0, he, tr, co, la)).2.2.1) ke tu ca ((blo h w d hp st tu ca m9 (n0, he, tr, co, la)).2.2.2.1) ((blo h w d hp st tu ca m9 (n0, he, tr, co, la)).2.2.2.2.1) ((blo h w d hp st tu ca m9 (n0, he, tr, co, la)).2.2.2.2.2), hw4 E q n b (nI (svO o k9)) (nI (svK k9)) (cup G (svI o k9) (nI h, nI w, nI d, nI n0, z, st, he, ke, tu, ca, tr, co, la)), lc E o0 1 f]) H locs := hw
  refine W.eq (g2 := F0 mm 7 ls [.int (nI (blo h w d hp st tu ca m9 (n0, he, tr, co, la)).1), .int 0, .ref o0]) rfl ?_
  refine lv_i2l (v := Int32.toInt64 (nI (blo h w d hp st tu ca m9 (n0, he, tr, co, la)).1)) hx hb dL_run_7 rfl ?_
  refine k_last (pre := [oc d0 6 [.ref (a 0), .ref q1, .ref (e 0), .ref q2, .ref (m 0), .ref q, .ref (t 0)], oc q1 5 [.ref (a 0), .ref (a 2)], fc E a (nI h) (nI w) (nI d) (nI (blo h w d hp st tu ca m9 (n0, he, tr, co, la)).2.1) z st ((blo h w d hp st tu ca m9 (n0, he, tr, co, la)).2.2.1) ke tu ca ((blo h w d hp st tu ca m9 (n0, he, tr, co, la)).2.2.2.1) ((blo h w d hp st tu ca m9 (n0, he, tr, co, la)).2.2.2.2.1) ((blo h w d hp st tu ca m9 (n0, he, tr, co, la)).2.2.2.2.2), hw4 E q n b (nI (svO o k9)) (nI (svK k9)) (cup G (svI o k9) (nI h, nI w, nI d, nI n0, z, st, he, ke, tu, ca, tr, co, la))]) C0 hw (i := 0) (kinN (n := 0) (by decide) (by decide)) dL_run_8 (fun H locs hw => ?_)
  have hw : kW E AA sx (List.flatten [oc d0 6 [.ref (a 0), .ref q1, .ref (e 0), .ref q2, .ref (m 0), .ref q, .ref (t 0)], oc q1 5 [.ref (a 0), .ref (a 2)], fc E a (nI h) (nI w) (nI d) (nI (blo h w d hp st tu ca m9 (n0, he, tr, co, la)).2.1) z st ((blo h w d hp st tu ca m9 (n0, he, tr, co, la)).2.2.1) ke tu ca ((blo h w d hp st tu ca m9 (n0, he, tr, co, la)).2.2.2.1) ((blo h w d hp st tu ca m9 (n0, he, tr, co, la)).2.2.2.2.1) ((blo h w d hp st tu ca m9 (n0, he, tr, co, la)).2.2.2.2.2), hw4 E q n b (nI (svO o k9)) (nI (svK k9)) (cup G (svI o k9) (nI h, nI w, nI d, nI n0, z, st, he, ke, tu, ca, tr, co, la)), lc E o0 1 (vp_updL f 0 (Int32.toInt64 (nI (blo h w d hp st tu ca m9 (n0, he, tr, co, la)).1)))]) H locs := hw
  refine lv_goto (tgt := 15) hx hb dL_run_9 (by decide) ?_
  refine lv_iconst (v := 0) hx hb dL_run_15 (by decide) ?_
  -- leaf 0
  exact k_iret C0 hr hlk hw () (rfl) (rfl) (Nat.le_of_ble_eq_true rfl) (Nat.le_of_ble_eq_true rfl) dL_run_16

abbrev rmL_value : Room := { frames := 7, cells := 1, slots := 6, locals := 131 }
set_option maxHeartbeats 4000000 in
set_option maxRecDepth 100000 in
theorem c_L_value_x1 (l : Launch) (hfl : l.stackTraces = false) (E : kE) (d0 : Nat) (q1 : Nat) (q2 : Nat) (a : Nat → Nat) (e : Nat → Nat) (m : Nat → Nat) (t : Nat → Nat) (q : Nat) (h : Nat) (w : Nat) (wd : Int32) (s0 : Int32) (z : Int32) (st : Nat → Int32) (he : Nat → Int32) (ke : Nat → Int32) (tu : Nat → Int32) (ca : Nat → Int32) (tr : Nat → Int32) (co : Nat → Int32) (la : Nat → Int32) (x : Int32) (o0 : Nat) (f : Nat → Int64) (hv : ¬ (¬ x < 0 ∧ ¬ 8 < x)) : kH E l yL_value wsL_value rmL_value [.ref d0, .int x, .ref o0] (List.flatten [oc d0 6 [.ref (a 0), .ref q1, .ref (e 0), .ref q2, .ref (m 0), .ref q, .ref (t 0)], fc E a (nI h) (nI w) wd s0 z st he ke tu ca tr co la, lc E o0 1 f]) kI (fun (r : Int32) (_ : Unit) => r = 1) (fun _ => List.flatten [oc d0 6 [.ref (a 0), .ref q1, .ref (e 0), .ref q2, .ref (m 0), .ref q, .ref (t 0)], fc E a (nI h) (nI w) wd s0 z st he ke tu ca tr co la, lc E o0 1 f]) 1 6 := by
  refine kH_body (cc := cL_value) (maxL := 4) (ret := (some .int)) (hh := [(0, 9, 12, 13)]) (by decide) rfl (Nat.le_of_ble_eq_true rfl) ?_
  intro pp ee sx mm aa bb me cd H locs AA ls C0 hr hlk hxt hZ hl hw
  obtain ⟨hx, hb, hml, hown, hts⟩ := id C0
  have hl : lv_has ls 4 [(0, .ref d0), (1, .int x), (2, .ref o0)] := hl
  have hw : kW E AA sx (List.flatten [oc d0 6 [.ref (a 0), .ref q1, .ref (e 0), .ref q2, .ref (m 0), .ref q, .ref (t 0)], fc E a (nI h) (nI w) wd s0 z st he ke tu ca tr co la, lc E o0 1 f]) H locs := hw
  refine lv_aload_n hx hb dL_value_0 rfl (lv_at hl 2 rfl) ?_
  refine lv_iconst (v := 0) hx hb dL_value_1 (by decide) ?_
  refine lv_aload_n hx hb dL_value_2 rfl (lv_at hl 0 rfl) ?_
  refine lv_iload_n hx hb dL_value_3 rfl (lv_at hl 1 rfl) ?_
  refine k_VX (As := [.int x]) (rest := [.int 0, .ref o0]) (pre := []) (mid := [oc d0 6 [.ref (a 0), .ref q1, .ref (e 0), .ref q2, .ref (m 0), .ref q, .ref (t 0)], fc E a (nI h) (nI w) wd s0 z st he ke tu ca tr co la]) C0 (c_X6_value_x1F l hfl E d0 q1 q2 a e m t q h w wd s0 z st he ke tu ca tr co la x (by first | assumption | omega)) (cwV 1 hts gL_value_X6_value rfl rfl rfl (by decide +kernel) ⟨Nat.le_of_ble_eq_true rfl, Nat.le_of_ble_eq_true rfl⟩) hw rfl hZ (fun _ => [oc d0 6 [.ref (a 0), .ref q1, .ref (e 0), .ref q2, .ref (m 0), .ref q, .ref (t 0)], fc E a (nI h) (nI w) wd s0 z st he ke tu ca tr co la]) (fun _ => rfl) 0 6 rfl rfl rfl rfl hl.1 rfl (Nat.le_of_ble_eq_true rfl) dL_value_4 ⟨Nat.le_of_ble_eq_true rfl, Nat.le_of_ble_eq_true rfl⟩ (fun X9 ce9 q9 H locs hx9 hw hc9 hv9 hcl9 => ?_) (fun r u H locs hq99 hw => False.elim hq99)
  have hx9 : X9 = "java/lang/IllegalArgumentException" := hx9
  subst hx9
  refine vx_catch hown [] ⟨0, 9, 12, 13⟩ [] (hxt.trans rfl) (fun z hz => by cases hz) (by decide) (by decide) (hts (.classLink RL 13 "java/lang/IllegalArgumentException") (by decide +kernel)) (va_Nw.use rfl (hw.2.2.1.2.2.2.1 "java/lang/IllegalArgumentException" (by decide))) hc9 hv9 hcl9 ?_
  refine W.eq (g2 := F0 mm 12 ls [.ref q9]) rfl ?_
  refine lv_astore_n (lv' := [(3, .ref q9), (0, .ref d0), (1, .int x), (2, .ref o0)]) hx hb dL_value_12 rfl hl (by decide) rfl (fun ls hl => ?_)
  refine lv_iconst (v := 1) hx hb dL_value_13 (by decide) ?_
  -- leaf 0
  exact k_iret C0 hr hlk hw () (rfl) (rfl) (Nat.le_of_ble_eq_true rfl) (Nat.le_of_ble_eq_true rfl) dL_value_14

set_option maxHeartbeats 4000000 in
set_option maxRecDepth 100000 in
theorem c_L_value_ok (l : Launch) (hfl : l.stackTraces = false) (E : kE) (d0 : Nat) (q1 : Nat) (q2 : Nat) (a : Nat → Nat) (e : Nat → Nat) (m : Nat → Nat) (t : Nat → Nat) (q : Nat) (h : Nat) (w : Nat) (wd : Int32) (s0 : Int32) (z : Int32) (st : Nat → Int32) (he : Nat → Int32) (ke : Nat → Int32) (tu : Nat → Int32) (ca : Nat → Int32) (tr : Nat → Int32) (co : Nat → Int32) (la : Nat → Int32) (j9 : Nat) (o0 : Nat) (f : Nat → Int64) (hG : kG h w) (hj9 : j9 < 9) : kH E l yL_value wsL_value rmL_value [.ref d0, .int (nI j9), .ref o0] (List.flatten [oc d0 6 [.ref (a 0), .ref q1, .ref (e 0), .ref q2, .ref (m 0), .ref q, .ref (t 0)], fc E a (nI h) (nI w) wd s0 z st he ke tu ca tr co la, lc E o0 1 f]) kI (fun (r : Int32) (_ : Unit) => r = 0) (fun _ => List.flatten [oc d0 6 [.ref (a 0), .ref q1, .ref (e 0), .ref q2, .ref (m 0), .ref q, .ref (t 0)], fc E a (nI h) (nI w) wd s0 z st he ke tu ca tr co la, lc E o0 1 (vp_updL f 0 (Int32.toInt64 (valN (nI h) (nI w) wd s0 z st j9)))]) 1 6 := by
  refine kH_body (cc := cL_value) (maxL := 4) (ret := (some .int)) (hh := [(0, 9, 12, 13)]) (by decide) rfl (Nat.le_of_ble_eq_true rfl) ?_
  intro pp ee sx mm aa bb me cd H locs AA ls C0 hr hlk hxt hZ hl hw
  obtain ⟨hx, hb, hml, hown, hts⟩ := id C0
  have hl : lv_has ls 4 [(0, .ref d0), (1, .int (nI j9)), (2, .ref o0)] := hl
  have hw : kW E AA sx (List.flatten [oc d0 6 [.ref (a 0), .ref q1, .ref (e 0), .ref q2, .ref (m 0), .ref q, .ref (t 0)], fc E a (nI h) (nI w) wd s0 z st he ke tu ca tr co la, lc E o0 1 f]) H locs := hw
  refine lv_aload_n hx hb dL_value_0 rfl (lv_at hl 2 rfl) ?_
  refine lv_iconst (v := 0) hx hb dL_value_1 (by decide) ?_
  refine lv_aload_n hx hb dL_value_2 rfl (lv_at hl 0 rfl) ?_
  refine lv_iload_n hx hb dL_value_3 rfl (lv_at hl 1 rfl) ?_
  refine k_VX (As := [.int (nI j9)]) (rest := [.int 0, .ref o0]) (pre := []) (mid := [oc d0 6 [.ref (a 0), .ref q1, .ref (e 0), .ref q2, .ref (m 0), .ref q, .ref (t 0)], fc E a (nI h) (nI w) wd s0 z st he ke tu ca tr co la]) C0 (c_X6_value_ok l hfl E d0 q1 q2 a e m t q h w wd s0 z st he ke tu ca tr co la j9 (by first | assumption | omega) (by first | assumption | omega)) (cwV 1 hts gL_value_X6_value rfl rfl rfl (by decide +kernel) ⟨Nat.le_of_ble_eq_true rfl, Nat.le_of_ble_eq_true rfl⟩) hw rfl hZ (fun _ => [oc d0 6 [.ref (a 0), .ref q1, .ref (e 0), .ref q2, .ref (m 0), .ref q, .ref (t 0)], fc E a (nI h) (nI w) wd s0 z st he ke tu ca tr co la]) (fun _ => rfl) 0 6 rfl rfl rfl rfl hl.1 rfl (Nat.le_of_ble_eq_true rfl) dL_value_4 ⟨Nat.le_of_ble_eq_true rfl, Nat.le_of_ble_eq_true rfl⟩ (fun X9 ce9 q9 H locs hx9 hw hc9 hv9 hcl9 => False.elim hx9) (fun r u H locs hq99 hw => ?_)
  subst hq99
  have hw : kW E AA sx (List.flatten [oc d0 6 [.ref (a 0), .ref q1, .ref (e 0), .ref q2, .ref (m 0), .ref q, .ref (t 0)], fc E a (nI h) (nI w) wd s0 z st he ke tu ca tr co la, lc E o0 1 f]) H locs := hw
  refine W.eq (g2 := F0 mm 7 ls [.int (valN (nI h) (nI w) wd s0 z st j9), .int 0, .ref o0]) rfl ?_
  refine lv_i2l (v := Int32.toInt64 (valN (nI h) (nI w) wd s0 z st j9)) hx hb dL_value_7 rfl ?_
  refine k_last (pre := [oc d0 6 [.ref (a 0), .ref q1, .ref (e 0), .ref q2, .ref (m 0), .ref q, .ref (t 0)], fc E a (nI h) (nI w) wd s0 z st he ke tu ca tr co la]) C0 hw (i := 0) (kinN (n := 0) (by decide) (by decide)) dL_value_8 (fun H locs hw => ?_)
  have hw : kW E AA sx (List.flatten [oc d0 6 [.ref (a 0), .ref q1, .ref (e 0), .ref q2, .ref (m 0), .ref q, .ref (t 0)], fc E a (nI h) (nI w) wd s0 z st he ke tu ca tr co la, lc E o0 1 (vp_updL f 0 (Int32.toInt64 (valN (nI h) (nI w) wd s0 z st j9)))]) H locs := hw
  refine lv_goto (tgt := 15) hx hb dL_value_9 (by decide) ?_
  refine lv_iconst (v := 0) hx hb dL_value_15 (by decide) ?_
  -- leaf 0
  exact k_iret C0 hr hlk hw () (rfl) (rfl) (Nat.le_of_ble_eq_true rfl) (Nat.le_of_ble_eq_true rfl) dL_value_16

abbrev rmL_cell : Room := { frames := 7, cells := 1, slots := 6, locals := 132 }
set_option maxHeartbeats 4000000 in
set_option maxRecDepth 100000 in
theorem c_L_cell_x2 (l : Launch) (hfl : l.stackTraces = false) (E : kE) (d0 : Nat) (q1 : Nat) (q2 : Nat) (a : Nat → Nat) (e : Nat → Nat) (m : Nat → Nat) (t : Nat → Nat) (q : Nat) (h : Nat) (w : Nat) (wd : Int32) (s0 : Int32) (z : Int32) (st : Nat → Int32) (he : Nat → Int32) (ke : Nat → Int32) (tu : Nat → Int32) (ca : Nat → Int32) (tr : Nat → Int32) (co : Nat → Int32) (la : Nat → Int32) (k : Nat) (v : Int32) (o0 : Nat) (f : Nat → Int64) (hG : kG h w) (hc : k < h * w) (hv : ¬ (¬ v < 0 ∧ ¬ 5 < v)) : kH E l yL_cell wsL_cell rmL_cell [.ref d0, .int (nI k), .int v, .ref o0] (List.flatten [oc d0 6 [.ref (a 0), .ref q1, .ref (e 0), .ref q2, .ref (m 0), .ref q, .ref (t 0)], fc E a (nI h) (nI w) wd s0 z st he ke tu ca tr co la, lc E o0 1 f]) kI (fun (r : Int32) (_ : Unit) => r = 2) (fun _ => List.flatten [oc d0 6 [.ref (a 0), .ref q1, .ref (e 0), .ref q2, .ref (m 0), .ref q, .ref (t 0)], fc E a (nI h) (nI w) wd s0 z st he ke tu ca tr co la, lc E o0 1 f]) 1 6 := by
  refine kH_body (cc := cL_cell) (maxL := 5) (ret := (some .int)) (hh := [(0, 10, 13, 19), (0, 10, 17, 13)]) (by decide) rfl (Nat.le_of_ble_eq_true rfl) ?_
  intro pp ee sx mm aa bb me cd H locs AA ls C0 hr hlk hxt hZ hl hw
  obtain ⟨hx, hb, hml, hown, hts⟩ := id C0
  have hl : lv_has ls 5 [(0, .ref d0), (1, .int (nI k)), (2, .int v), (3, .ref o0)] := hl
  have hw : kW E AA sx (List.flatten [oc d0 6 [.ref (a 0), .ref q1, .ref (e 0), .ref q2, .ref (m 0), .ref q, .ref (t 0)], fc E a (nI h) (nI w) wd s0 z st he ke tu ca tr co la, lc E o0 1 f]) H locs := hw
  refine lv_aload_n hx hb dL_cell_0 rfl (lv_at hl 3 rfl) ?_
  refine lv_iconst (v := 0) hx hb dL_cell_1 (by decide) ?_
  refine lv_aload_n hx hb dL_cell_2 rfl (lv_at hl 0 rfl) ?_
  refine lv_iload_n hx hb dL_cell_3 rfl (lv_at hl 1 rfl) ?_
  refine lv_iload_n hx hb dL_cell_4 rfl (lv_at hl 2 rfl) ?_
  refine k_VX (As := [.int (nI k), .int v]) (rest := [.int 0, .ref o0]) (pre := []) (mid := [oc d0 6 [.ref (a 0), .ref q1, .ref (e 0), .ref q2, .ref (m 0), .ref q, .ref (t 0)], fc E a (nI h) (nI w) wd s0 z st he ke tu ca tr co la]) C0 (c_X6_cell_x2F l hfl E d0 q1 q2 a e m t q h w wd s0 z st he ke tu ca tr co la k v (by first | assumption | omega) (by first | assumption | omega) (by first | assumption | omega)) (cwV 2 hts gL_cell_X6_cell rfl rfl rfl (by decide +kernel) ⟨Nat.le_of_ble_eq_true rfl, Nat.le_of_ble_eq_true rfl⟩) hw rfl hZ (fun _ => [oc d0 6 [.ref (a 0), .ref q1, .ref (e 0), .ref q2, .ref (m 0), .ref q, .ref (t 0)], fc E a (nI h) (nI w) wd s0 z st he ke tu ca tr co la]) (fun _ => rfl) 0 6 rfl rfl rfl rfl hl.1 rfl (Nat.le_of_ble_eq_true rfl) dL_cell_5 ⟨Nat.le_of_ble_eq_true rfl, Nat.le_of_ble_eq_true rfl⟩ (fun X9 ce9 q9 H locs hx9 hw hc9 hv9 hcl9 => ?_) (fun r u H locs hq99 hw => False.elim hq99)
  have hx9 : X9 = "java/lang/IllegalArgumentException" := hx9
  subst hx9
  refine vx_catch hown [⟨0, 10, 13, 19⟩] ⟨0, 10, 17, 13⟩ [] (hxt.trans rfl) (fun z hz => by cases List.mem_singleton.mp hz; exact Or.inr ⟨by decide, "java/lang/IndexOutOfBoundsException", hts (.classLink RL 19 "java/lang/IndexOutOfBoundsException") (by decide +kernel), hw.2.2.1.2.2.2.2.2.1 ("java/lang/IllegalArgumentException", "java/lang/IndexOutOfBoundsException") (by decide)⟩) (by decide) (by decide) (hts (.classLink RL 13 "java/lang/IllegalArgumentException") (by decide +kernel)) (va_Nw.use rfl (hw.2.2.1.2.2.2.1 "java/lang/IllegalArgumentException" (by decide))) hc9 hv9 hcl9 ?_
  refine W.eq (g2 := F0 mm 17 ls [.ref q9]) rfl ?_
  refine lv_astore (lv' := [(4, .ref q9), (0, .ref d0), (1, .int (nI k)), (2, .int v), (3, .ref o0)]) hx hb dL_cell_17 hl (by decide) rfl (fun ls hl => ?_)
  refine lv_iconst (v := 2) hx hb dL_cell_19 (by decide) ?_
  -- leaf 0
  exact k_iret C0 hr hlk hw () (rfl) (rfl) (Nat.le_of_ble_eq_true rfl) (Nat.le_of_ble_eq_true rfl) dL_cell_20

set_option maxHeartbeats 4000000 in
set_option maxRecDepth 100000 in
theorem c_L_cell_x1 (l : Launch) (hfl : l.stackTraces = false) (E : kE) (d0 : Nat) (q1 : Nat) (q2 : Nat) (a : Nat → Nat) (e : Nat → Nat) (m : Nat → Nat) (t : Nat → Nat) (q : Nat) (h : Nat) (w : Nat) (wd : Int32) (s0 : Int32) (z : Int32) (st : Nat → Int32) (he : Nat → Int32) (ke : Nat → Int32) (tu : Nat → Int32) (ca : Nat → Int32) (tr : Nat → Int32) (co : Nat → Int32) (la : Nat → Int32) (x : Int32) (v : Int32) (o0 : Nat) (f : Nat → Int64) (hG : kG h w) (hv : ¬ (¬ x < 0 ∧ ¬ nI (h * w - 1) < x)) : kH E l yL_cell wsL_cell rmL_cell [.ref d0, .int x, .int v, .ref o0] (List.flatten [oc d0 6 [.ref (a 0), .ref q1, .ref (e 0), .ref q2, .ref (m 0), .ref q, .ref (t 0)], fc E a (nI h) (nI w) wd s0 z st he ke tu ca tr co la, lc E o0 1 f]) kI (fun (r : Int32) (_ : Unit) => r = 1) (fun _ => List.flatten [oc d0 6 [.ref (a 0), .ref q1, .ref (e 0), .ref q2, .ref (m 0), .ref q, .ref (t 0)], fc E a (nI h) (nI w) wd s0 z st he ke tu ca tr co la, lc E o0 1 f]) 1 6 := by
  refine kH_body (cc := cL_cell) (maxL := 5) (ret := (some .int)) (hh := [(0, 10, 13, 19), (0, 10, 17, 13)]) (by decide) rfl (Nat.le_of_ble_eq_true rfl) ?_
  intro pp ee sx mm aa bb me cd H locs AA ls C0 hr hlk hxt hZ hl hw
  obtain ⟨hx, hb, hml, hown, hts⟩ := id C0
  have hl : lv_has ls 5 [(0, .ref d0), (1, .int x), (2, .int v), (3, .ref o0)] := hl
  have hw : kW E AA sx (List.flatten [oc d0 6 [.ref (a 0), .ref q1, .ref (e 0), .ref q2, .ref (m 0), .ref q, .ref (t 0)], fc E a (nI h) (nI w) wd s0 z st he ke tu ca tr co la, lc E o0 1 f]) H locs := hw
  refine lv_aload_n hx hb dL_cell_0 rfl (lv_at hl 3 rfl) ?_
  refine lv_iconst (v := 0) hx hb dL_cell_1 (by decide) ?_
  refine lv_aload_n hx hb dL_cell_2 rfl (lv_at hl 0 rfl) ?_
  refine lv_iload_n hx hb dL_cell_3 rfl (lv_at hl 1 rfl) ?_
  refine lv_iload_n hx hb dL_cell_4 rfl (lv_at hl 2 rfl) ?_
  refine k_VX (As := [.int x, .int v]) (rest := [.int 0, .ref o0]) (pre := []) (mid := [oc d0 6 [.ref (a 0), .ref q1, .ref (e 0), .ref q2, .ref (m 0), .ref q, .ref (t 0)], fc E a (nI h) (nI w) wd s0 z st he ke tu ca tr co la]) C0 (c_X6_cell_x1F l hfl E d0 q1 q2 a e m t q h w wd s0 z st he ke tu ca tr co la x v (by first | assumption | omega) (by first | assumption | omega)) (cwV 2 hts gL_cell_X6_cell rfl rfl rfl (by decide +kernel) ⟨Nat.le_of_ble_eq_true rfl, Nat.le_of_ble_eq_true rfl⟩) hw rfl hZ (fun _ => [oc d0 6 [.ref (a 0), .ref q1, .ref (e 0), .ref q2, .ref (m 0), .ref q, .ref (t 0)], fc E a (nI h) (nI w) wd s0 z st he ke tu ca tr co la]) (fun _ => rfl) 0 6 rfl rfl rfl rfl hl.1 rfl (Nat.le_of_ble_eq_true rfl) dL_cell_5 ⟨Nat.le_of_ble_eq_true rfl, Nat.le_of_ble_eq_true rfl⟩ (fun X9 ce9 q9 H locs hx9 hw hc9 hv9 hcl9 => ?_) (fun r u H locs hq99 hw => False.elim hq99)
  have hx9 : X9 = "java/lang/IndexOutOfBoundsException" := hx9
  subst hx9
  refine vx_catch hown [] ⟨0, 10, 13, 19⟩ [⟨0, 10, 17, 13⟩] (hxt.trans rfl) (fun z hz => by cases hz) (by decide) (by decide) (hts (.classLink RL 19 "java/lang/IndexOutOfBoundsException") (by decide +kernel)) (va_Nw.use rfl (hw.2.2.1.2.2.2.1 "java/lang/IndexOutOfBoundsException" (by decide))) hc9 hv9 hcl9 ?_
  refine W.eq (g2 := F0 mm 13 ls [.ref q9]) rfl ?_
  refine lv_astore (lv' := [(4, .ref q9), (0, .ref d0), (1, .int x), (2, .int v), (3, .ref o0)]) hx hb dL_cell_13 hl (by decide) rfl (fun ls hl => ?_)
  refine lv_iconst (v := 1) hx hb dL_cell_15 (by decide) ?_
  -- leaf 0
  exact k_iret C0 hr hlk hw () (rfl) (rfl) (Nat.le_of_ble_eq_true rfl) (Nat.le_of_ble_eq_true rfl) dL_cell_16

set_option maxHeartbeats 4000000 in
set_option maxRecDepth 100000 in
theorem c_L_cell_ok (l : Launch) (hfl : l.stackTraces = false) (E : kE) (d0 : Nat) (q1 : Nat) (q2 : Nat) (a : Nat → Nat) (e : Nat → Nat) (m : Nat → Nat) (t : Nat → Nat) (q : Nat) (h : Nat) (w : Nat) (s0 : Int32) (z : Int32) (st : Nat → Int32) (he : Nat → Int32) (ke : Nat → Int32) (tu : Nat → Int32) (ca : Nat → Int32) (tr : Nat → Int32) (co : Nat → Int32) (la : Nat → Int32) (d : Nat) (k : Nat) (j9 : Nat) (o0 : Nat) (f : Nat → Int64) (hG : kG h w) (hc : k < h * w) (hd : d < 4) (hj9 : j9 < 6) : kH E l yL_cell wsL_cell rmL_cell [.ref d0, .int (nI k), .int (nI j9), .ref o0] (List.flatten [oc d0 6 [.ref (a 0), .ref q1, .ref (e 0), .ref q2, .ref (m 0), .ref q, .ref (t 0)], fc E a (nI h) (nI w) (nI d) s0 z st he ke tu ca tr co la, lc E o0 1 f]) kI (fun (r : Int32) (_ : Unit) => r = 0) (fun _ => List.flatten [oc d0 6 [.ref (a 0), .ref q1, .ref (e 0), .ref q2, .ref (m 0), .ref q, .ref (t 0)], fc E a (nI h) (nI w) (nI d) s0 z st he ke tu ca tr co la, lc E o0 1 (vp_updL f 0 (Int32.toInt64 (cvN h w d he ke tu ca tr k j9)))]) 1 6 := by
  refine kH_body (cc := cL_cell) (maxL := 5) (ret := (some .int)) (hh := [(0, 10, 13, 19), (0, 10, 17, 13)]) (by decide) rfl (Nat.le_of_ble_eq_true rfl) ?_
  intro pp ee sx mm aa bb me cd H locs AA ls C0 hr hlk hxt hZ hl hw
  obtain ⟨hx, hb, hml, hown, hts⟩ := id C0
  have hl : lv_has ls 5 [(0, .ref d0), (1, .int (nI k)), (2, .int (nI j9)), (3, .ref o0)] := hl
  have hw : kW E AA sx (List.flatten [oc d0 6 [.ref (a 0), .ref q1, .ref (e 0), .ref q2, .ref (m 0), .ref q, .ref (t 0)], fc E a (nI h) (nI w) (nI d) s0 z st he ke tu ca tr co la, lc E o0 1 f]) H locs := hw
  refine lv_aload_n hx hb dL_cell_0 rfl (lv_at hl 3 rfl) ?_
  refine lv_iconst (v := 0) hx hb dL_cell_1 (by decide) ?_
  refine lv_aload_n hx hb dL_cell_2 rfl (lv_at hl 0 rfl) ?_
  refine lv_iload_n hx hb dL_cell_3 rfl (lv_at hl 1 rfl) ?_
  refine lv_iload_n hx hb dL_cell_4 rfl (lv_at hl 2 rfl) ?_
  refine k_VX (As := [.int (nI k), .int (nI j9)]) (rest := [.int 0, .ref o0]) (pre := []) (mid := [oc d0 6 [.ref (a 0), .ref q1, .ref (e 0), .ref q2, .ref (m 0), .ref q, .ref (t 0)], fc E a (nI h) (nI w) (nI d) s0 z st he ke tu ca tr co la]) C0 (c_X6_cell_ok l hfl E d0 q1 q2 a e m t q h w s0 z st he ke tu ca tr co la d k j9 (by first | assumption | omega) (by first | assumption | omega) (by first | assumption | omega) (by first | assumption | omega)) (cwV 2 hts gL_cell_X6_cell rfl rfl rfl (by decide +kernel) ⟨Nat.le_of_ble_eq_true rfl, Nat.le_of_ble_eq_true rfl⟩) hw rfl hZ (fun _ => [oc d0 6 [.ref (a 0), .ref q1, .ref (e 0), .ref q2, .ref (m 0), .ref q, .ref (t 0)], fc E a (nI h) (nI w) (nI d) s0 z st he ke tu ca tr co la]) (fun _ => rfl) 0 6 rfl rfl rfl rfl hl.1 rfl (Nat.le_of_ble_eq_true rfl) dL_cell_5 ⟨Nat.le_of_ble_eq_true rfl, Nat.le_of_ble_eq_true rfl⟩ (fun X9 ce9 q9 H locs hx9 hw hc9 hv9 hcl9 => False.elim hx9) (fun r u H locs hq99 hw => ?_)
  subst hq99
  have hw : kW E AA sx (List.flatten [oc d0 6 [.ref (a 0), .ref q1, .ref (e 0), .ref q2, .ref (m 0), .ref q, .ref (t 0)], fc E a (nI h) (nI w) (nI d) s0 z st he ke tu ca tr co la, lc E o0 1 f]) H locs := hw
  refine W.eq (g2 := F0 mm 8 ls [.int (cvN h w d he ke tu ca tr k j9), .int 0, .ref o0]) rfl ?_
  refine lv_i2l (v := Int32.toInt64 (cvN h w d he ke tu ca tr k j9)) hx hb dL_cell_8 rfl ?_
  refine k_last (pre := [oc d0 6 [.ref (a 0), .ref q1, .ref (e 0), .ref q2, .ref (m 0), .ref q, .ref (t 0)], fc E a (nI h) (nI w) (nI d) s0 z st he ke tu ca tr co la]) C0 hw (i := 0) (kinN (n := 0) (by decide) (by decide)) dL_cell_9 (fun H locs hw => ?_)
  have hw : kW E AA sx (List.flatten [oc d0 6 [.ref (a 0), .ref q1, .ref (e 0), .ref q2, .ref (m 0), .ref q, .ref (t 0)], fc E a (nI h) (nI w) (nI d) s0 z st he ke tu ca tr co la, lc E o0 1 (vp_updL f 0 (Int32.toInt64 (cvN h w d he ke tu ca tr k j9)))]) H locs := hw
  refine lv_goto (tgt := 21) hx hb dL_cell_10 (by decide) ?_
  refine lv_iconst (v := 0) hx hb dL_cell_21 (by decide) ?_
  -- leaf 0
  exact k_iret C0 hr hlk hw () (rfl) (rfl) (Nat.le_of_ble_eq_true rfl) (Nat.le_of_ble_eq_true rfl) dL_cell_22

abbrev rmL_count : Room := { frames := 7, cells := 1, slots := 6, locals := 131 }
set_option maxHeartbeats 4000000 in
set_option maxRecDepth 100000 in
theorem c_L_count_x1 (l : Launch) (hfl : l.stackTraces = false) (E : kE) (d0 : Nat) (q1 : Nat) (q2 : Nat) (a : Nat → Nat) (e : Nat → Nat) (m : Nat → Nat) (t : Nat → Nat) (q : Nat) (h : Nat) (w : Nat) (wd : Int32) (s0 : Int32) (z : Int32) (st : Nat → Int32) (he : Nat → Int32) (ke : Nat → Int32) (tu : Nat → Int32) (ca : Nat → Int32) (tr : Nat → Int32) (co : Nat → Int32) (la : Nat → Int32) (x : Int32) (o0 : Nat) (f : Nat → Int64) (hv : ¬ (¬ x < 0 ∧ ¬ 11 < x)) : kH E l yL_count wsL_count rmL_count [.ref d0, .int x, .ref o0] (List.flatten [oc d0 6 [.ref (a 0), .ref q1, .ref (e 0), .ref q2, .ref (m 0), .ref q, .ref (t 0)], fc E a (nI h) (nI w) wd s0 z st he ke tu ca tr co la, lc E o0 1 f]) kI (fun (r : Int32) (_ : Unit) => r = 1) (fun _ => List.flatten [oc d0 6 [.ref (a 0), .ref q1, .ref (e 0), .ref q2, .ref (m 0), .ref q, .ref (t 0)], fc E a (nI h) (nI w) wd s0 z st he ke tu ca tr co la, lc E o0 1 f]) 1 6 := by
  refine kH_body (cc := cL_count) (maxL := 4) (ret := (some .int)) (hh := [(0, 9, 12, 13)]) (by decide) rfl (Nat.le_of_ble_eq_true rfl) ?_
  intro pp ee sx mm aa bb me cd H locs AA ls C0 hr hlk hxt hZ hl hw
  obtain ⟨hx, hb, hml, hown, hts⟩ := id C0
  have hl : lv_has ls 4 [(0, .ref d0), (1, .int x), (2, .ref o0)] := hl
  have hw : kW E AA sx (List.flatten [oc d0 6 [.ref (a 0), .ref q1, .ref (e 0), .ref q2, .ref (m 0), .ref q, .ref (t 0)], fc E a (nI h) (nI w) wd s0 z st he ke tu ca tr co la, lc E o0 1 f]) H locs := hw
  refine lv_aload_n hx hb dL_count_0 rfl (lv_at hl 2 rfl) ?_
  refine lv_iconst (v := 0) hx hb dL_count_1 (by decide) ?_
  refine lv_aload_n hx hb dL_count_2 rfl (lv_at hl 0 rfl) ?_
  refine lv_iload_n hx hb dL_count_3 rfl (lv_at hl 1 rfl) ?_
  refine k_VX (As := [.int x]) (rest := [.int 0, .ref o0]) (pre := []) (mid := [oc d0 6 [.ref (a 0), .ref q1, .ref (e 0), .ref q2, .ref (m 0), .ref q, .ref (t 0)], fc E a (nI h) (nI w) wd s0 z st he ke tu ca tr co la]) C0 (c_X6_count_x1F l hfl E d0 q1 q2 a e m t q h w wd s0 z st he ke tu ca tr co la x (by first | assumption | omega)) (cwV 1 hts gL_count_X6_count rfl rfl rfl (by decide +kernel) ⟨Nat.le_of_ble_eq_true rfl, Nat.le_of_ble_eq_true rfl⟩) hw rfl hZ (fun _ => [oc d0 6 [.ref (a 0), .ref q1, .ref (e 0), .ref q2, .ref (m 0), .ref q, .ref (t 0)], fc E a (nI h) (nI w) wd s0 z st he ke tu ca tr co la]) (fun _ => rfl) 0 6 rfl rfl rfl rfl hl.1 rfl (Nat.le_of_ble_eq_true rfl) dL_count_4 ⟨Nat.le_of_ble_eq_true rfl, Nat.le_of_ble_eq_true rfl⟩ (fun X9 ce9 q9 H locs hx9 hw hc9 hv9 hcl9 => ?_) (fun r u H locs hq99 hw => False.elim hq99)
  have hx9 : X9 = "java/lang/IllegalArgumentException" := hx9
  subst hx9
  refine vx_catch hown [] ⟨0, 9, 12, 13⟩ [] (hxt.trans rfl) (fun z hz => by cases hz) (by decide) (by decide) (hts (.classLink RL 13 "java/lang/IllegalArgumentException") (by decide +kernel)) (va_Nw.use rfl (hw.2.2.1.2.2.2.1 "java/lang/IllegalArgumentException" (by decide))) hc9 hv9 hcl9 ?_
  refine W.eq (g2 := F0 mm 12 ls [.ref q9]) rfl ?_
  refine lv_astore_n (lv' := [(3, .ref q9), (0, .ref d0), (1, .int x), (2, .ref o0)]) hx hb dL_count_12 rfl hl (by decide) rfl (fun ls hl => ?_)
  refine lv_iconst (v := 1) hx hb dL_count_13 (by decide) ?_
  -- leaf 0
  exact k_iret C0 hr hlk hw () (rfl) (rfl) (Nat.le_of_ble_eq_true rfl) (Nat.le_of_ble_eq_true rfl) dL_count_14

set_option maxHeartbeats 4000000 in
set_option maxRecDepth 100000 in
theorem c_L_count_ok (l : Launch) (hfl : l.stackTraces = false) (E : kE) (d0 : Nat) (q1 : Nat) (q2 : Nat) (a : Nat → Nat) (e : Nat → Nat) (m : Nat → Nat) (t : Nat → Nat) (q : Nat) (h : Nat) (w : Nat) (wd : Int32) (s0 : Int32) (z : Int32) (st : Nat → Int32) (he : Nat → Int32) (ke : Nat → Int32) (tu : Nat → Int32) (ca : Nat → Int32) (tr : Nat → Int32) (co : Nat → Int32) (la : Nat → Int32) (j9 : Nat) (o0 : Nat) (f : Nat → Int64) (hj9 : j9 < 12) : kH E l yL_count wsL_count rmL_count [.ref d0, .int (nI j9), .ref o0] (List.flatten [oc d0 6 [.ref (a 0), .ref q1, .ref (e 0), .ref q2, .ref (m 0), .ref q, .ref (t 0)], fc E a (nI h) (nI w) wd s0 z st he ke tu ca tr co la, lc E o0 1 f]) kI (fun (r : Int32) (_ : Unit) => r = 0) (fun _ => List.flatten [oc d0 6 [.ref (a 0), .ref q1, .ref (e 0), .ref q2, .ref (m 0), .ref q, .ref (t 0)], fc E a (nI h) (nI w) wd s0 z st he ke tu ca tr co la, lc E o0 1 (vp_updL f 0 (Int32.toInt64 (co j9)))]) 1 6 := by
  refine kH_body (cc := cL_count) (maxL := 4) (ret := (some .int)) (hh := [(0, 9, 12, 13)]) (by decide) rfl (Nat.le_of_ble_eq_true rfl) ?_
  intro pp ee sx mm aa bb me cd H locs AA ls C0 hr hlk hxt hZ hl hw
  obtain ⟨hx, hb, hml, hown, hts⟩ := id C0
  have hl : lv_has ls 4 [(0, .ref d0), (1, .int (nI j9)), (2, .ref o0)] := hl
  have hw : kW E AA sx (List.flatten [oc d0 6 [.ref (a 0), .ref q1, .ref (e 0), .ref q2, .ref (m 0), .ref q, .ref (t 0)], fc E a (nI h) (nI w) wd s0 z st he ke tu ca tr co la, lc E o0 1 f]) H locs := hw
  refine lv_aload_n hx hb dL_count_0 rfl (lv_at hl 2 rfl) ?_
  refine lv_iconst (v := 0) hx hb dL_count_1 (by decide) ?_
  refine lv_aload_n hx hb dL_count_2 rfl (lv_at hl 0 rfl) ?_
  refine lv_iload_n hx hb dL_count_3 rfl (lv_at hl 1 rfl) ?_
  refine k_VX (As := [.int (nI j9)]) (rest := [.int 0, .ref o0]) (pre := []) (mid := [oc d0 6 [.ref (a 0), .ref q1, .ref (e 0), .ref q2, .ref (m 0), .ref q, .ref (t 0)], fc E a (nI h) (nI w) wd s0 z st he ke tu ca tr co la]) C0 (c_X6_count_ok l hfl E d0 q1 q2 a e m t q h w wd s0 z st he ke tu ca tr co la j9 (by first | assumption | omega)) (cwV 1 hts gL_count_X6_count rfl rfl rfl (by decide +kernel) ⟨Nat.le_of_ble_eq_true rfl, Nat.le_of_ble_eq_true rfl⟩) hw rfl hZ (fun _ => [oc d0 6 [.ref (a 0), .ref q1, .ref (e 0), .ref q2, .ref (m 0), .ref q, .ref (t 0)], fc E a (nI h) (nI w) wd s0 z st he ke tu ca tr co la]) (fun _ => rfl) 0 6 rfl rfl rfl rfl hl.1 rfl (Nat.le_of_ble_eq_true rfl) dL_count_4 ⟨Nat.le_of_ble_eq_true rfl, Nat.le_of_ble_eq_true rfl⟩ (fun X9 ce9 q9 H locs hx9 hw hc9 hv9 hcl9 => False.elim hx9) (fun r u H locs hq99 hw => ?_)
  subst hq99
  have hw : kW E AA sx (List.flatten [oc d0 6 [.ref (a 0), .ref q1, .ref (e 0), .ref q2, .ref (m 0), .ref q, .ref (t 0)], fc E a (nI h) (nI w) wd s0 z st he ke tu ca tr co la, lc E o0 1 f]) H locs := hw
  refine W.eq (g2 := F0 mm 7 ls [.int (co j9), .int 0, .ref o0]) rfl ?_
  refine lv_i2l (v := Int32.toInt64 (co j9)) hx hb dL_count_7 rfl ?_
  refine k_last (pre := [oc d0 6 [.ref (a 0), .ref q1, .ref (e 0), .ref q2, .ref (m 0), .ref q, .ref (t 0)], fc E a (nI h) (nI w) wd s0 z st he ke tu ca tr co la]) C0 hw (i := 0) (kinN (n := 0) (by decide) (by decide)) dL_count_8 (fun H locs hw => ?_)
  have hw : kW E AA sx (List.flatten [oc d0 6 [.ref (a 0), .ref q1, .ref (e 0), .ref q2, .ref (m 0), .ref q, .ref (t 0)], fc E a (nI h) (nI w) wd s0 z st he ke tu ca tr co la, lc E o0 1 (vp_updL f 0 (Int32.toInt64 (co j9)))]) H locs := hw
  refine lv_goto (tgt := 15) hx hb dL_count_9 (by decide) ?_
  refine lv_iconst (v := 0) hx hb dL_count_15 (by decide) ?_
  -- leaf 0
  exact k_iret C0 hr hlk hw () (rfl) (rfl) (Nat.le_of_ble_eq_true rfl) (Nat.le_of_ble_eq_true rfl) dL_count_16

abbrev rmL_latest : Room := { frames := 7, cells := 1, slots := 6, locals := 131 }
set_option maxHeartbeats 4000000 in
set_option maxRecDepth 100000 in
theorem c_L_latest_x1 (l : Launch) (hfl : l.stackTraces = false) (E : kE) (d0 : Nat) (q1 : Nat) (q2 : Nat) (a : Nat → Nat) (e : Nat → Nat) (m : Nat → Nat) (t : Nat → Nat) (q : Nat) (h : Nat) (w : Nat) (wd : Int32) (s0 : Int32) (z : Int32) (st : Nat → Int32) (he : Nat → Int32) (ke : Nat → Int32) (tu : Nat → Int32) (ca : Nat → Int32) (tr : Nat → Int32) (co : Nat → Int32) (la : Nat → Int32) (x : Int32) (o0 : Nat) (f : Nat → Int64) (hv : ¬ (¬ x < 0 ∧ ¬ 3 < x)) : kH E l yL_latest wsL_latest rmL_latest [.ref d0, .int x, .ref o0] (List.flatten [oc d0 6 [.ref (a 0), .ref q1, .ref (e 0), .ref q2, .ref (m 0), .ref q, .ref (t 0)], fc E a (nI h) (nI w) wd s0 z st he ke tu ca tr co la, lc E o0 1 f]) kI (fun (r : Int32) (_ : Unit) => r = 1) (fun _ => List.flatten [oc d0 6 [.ref (a 0), .ref q1, .ref (e 0), .ref q2, .ref (m 0), .ref q, .ref (t 0)], fc E a (nI h) (nI w) wd s0 z st he ke tu ca tr co la, lc E o0 1 f]) 1 6 := by
  refine kH_body (cc := cL_latest) (maxL := 4) (ret := (some .int)) (hh := [(0, 9, 12, 13)]) (by decide) rfl (Nat.le_of_ble_eq_true rfl) ?_
  intro pp ee sx mm aa bb me cd H locs AA ls C0 hr hlk hxt hZ hl hw
  obtain ⟨hx, hb, hml, hown, hts⟩ := id C0
  have hl : lv_has ls 4 [(0, .ref d0), (1, .int x), (2, .ref o0)] := hl
  have hw : kW E AA sx (List.flatten [oc d0 6 [.ref (a 0), .ref q1, .ref (e 0), .ref q2, .ref (m 0), .ref q, .ref (t 0)], fc E a (nI h) (nI w) wd s0 z st he ke tu ca tr co la, lc E o0 1 f]) H locs := hw
  refine lv_aload_n hx hb dL_latest_0 rfl (lv_at hl 2 rfl) ?_
  refine lv_iconst (v := 0) hx hb dL_latest_1 (by decide) ?_
  refine lv_aload_n hx hb dL_latest_2 rfl (lv_at hl 0 rfl) ?_
  refine lv_iload_n hx hb dL_latest_3 rfl (lv_at hl 1 rfl) ?_
  refine k_VX (As := [.int x]) (rest := [.int 0, .ref o0]) (pre := []) (mid := [oc d0 6 [.ref (a 0), .ref q1, .ref (e 0), .ref q2, .ref (m 0), .ref q, .ref (t 0)], fc E a (nI h) (nI w) wd s0 z st he ke tu ca tr co la]) C0 (c_X6_latest_x1F l hfl E d0 q1 q2 a e m t q h w wd s0 z st he ke tu ca tr co la x (by first | assumption | omega)) (cwV 1 hts gL_latest_X6_latest rfl rfl rfl (by decide +kernel) ⟨Nat.le_of_ble_eq_true rfl, Nat.le_of_ble_eq_true rfl⟩) hw rfl hZ (fun _ => [oc d0 6 [.ref (a 0), .ref q1, .ref (e 0), .ref q2, .ref (m 0), .ref q, .ref (t 0)], fc E a (nI h) (nI w) wd s0 z st he ke tu ca tr co la]) (fun _ => rfl) 0 6 rfl rfl rfl rfl hl.1 rfl (Nat.le_of_ble_eq_true rfl) dL_latest_4 ⟨Nat.le_of_ble_eq_true rfl, Nat.le_of_ble_eq_true rfl⟩ (fun X9 ce9 q9 H locs hx9 hw hc9 hv9 hcl9 => ?_) (fun r u H locs hq99 hw => False.elim hq99)
  have hx9 : X9 = "java/lang/IllegalArgumentException" := hx9
  subst hx9
  refine vx_catch hown [] ⟨0, 9, 12, 13⟩ [] (hxt.trans rfl) (fun z hz => by cases hz) (by decide) (by decide) (hts (.classLink RL 13 "java/lang/IllegalArgumentException") (by decide +kernel)) (va_Nw.use rfl (hw.2.2.1.2.2.2.1 "java/lang/IllegalArgumentException" (by decide))) hc9 hv9 hcl9 ?_
  refine W.eq (g2 := F0 mm 12 ls [.ref q9]) rfl ?_
  refine lv_astore_n (lv' := [(3, .ref q9), (0, .ref d0), (1, .int x), (2, .ref o0)]) hx hb dL_latest_12 rfl hl (by decide) rfl (fun ls hl => ?_)
  refine lv_iconst (v := 1) hx hb dL_latest_13 (by decide) ?_
  -- leaf 0
  exact k_iret C0 hr hlk hw () (rfl) (rfl) (Nat.le_of_ble_eq_true rfl) (Nat.le_of_ble_eq_true rfl) dL_latest_14

set_option maxHeartbeats 4000000 in
set_option maxRecDepth 100000 in
theorem c_L_latest_ok (l : Launch) (hfl : l.stackTraces = false) (E : kE) (d0 : Nat) (q1 : Nat) (q2 : Nat) (a : Nat → Nat) (e : Nat → Nat) (m : Nat → Nat) (t : Nat → Nat) (q : Nat) (h : Nat) (w : Nat) (wd : Int32) (s0 : Int32) (z : Int32) (st : Nat → Int32) (he : Nat → Int32) (ke : Nat → Int32) (tu : Nat → Int32) (ca : Nat → Int32) (tr : Nat → Int32) (co : Nat → Int32) (la : Nat → Int32) (j9 : Nat) (o0 : Nat) (f : Nat → Int64) (hj9 : j9 < 4) : kH E l yL_latest wsL_latest rmL_latest [.ref d0, .int (nI j9), .ref o0] (List.flatten [oc d0 6 [.ref (a 0), .ref q1, .ref (e 0), .ref q2, .ref (m 0), .ref q, .ref (t 0)], fc E a (nI h) (nI w) wd s0 z st he ke tu ca tr co la, lc E o0 1 f]) kI (fun (r : Int32) (_ : Unit) => r = 0) (fun _ => List.flatten [oc d0 6 [.ref (a 0), .ref q1, .ref (e 0), .ref q2, .ref (m 0), .ref q, .ref (t 0)], fc E a (nI h) (nI w) wd s0 z st he ke tu ca tr co la, lc E o0 1 (vp_updL f 0 (Int32.toInt64 (la j9)))]) 1 6 := by
  refine kH_body (cc := cL_latest) (maxL := 4) (ret := (some .int)) (hh := [(0, 9, 12, 13)]) (by decide) rfl (Nat.le_of_ble_eq_true rfl) ?_
  intro pp ee sx mm aa bb me cd H locs AA ls C0 hr hlk hxt hZ hl hw
  obtain ⟨hx, hb, hml, hown, hts⟩ := id C0
  have hl : lv_has ls 4 [(0, .ref d0), (1, .int (nI j9)), (2, .ref o0)] := hl
  have hw : kW E AA sx (List.flatten [oc d0 6 [.ref (a 0), .ref q1, .ref (e 0), .ref q2, .ref (m 0), .ref q, .ref (t 0)], fc E a (nI h) (nI w) wd s0 z st he ke tu ca tr co la, lc E o0 1 f]) H locs := hw
  refine lv_aload_n hx hb dL_latest_0 rfl (lv_at hl 2 rfl) ?_
  refine lv_iconst (v := 0) hx hb dL_latest_1 (by decide) ?_
  refine lv_aload_n hx hb dL_latest_2 rfl (lv_at hl 0 rfl) ?_
  refine lv_iload_n hx hb dL_latest_3 rfl (lv_at hl 1 rfl) ?_
  refine k_VX (As := [.int (nI j9)]) (rest := [.int 0, .ref o0]) (pre := []) (mid := [oc d0 6 [.ref (a 0), .ref q1, .ref (e 0), .ref q2, .ref (m 0), .ref q, .ref (t 0)], fc E a (nI h) (nI w) wd s0 z st he ke tu ca tr co la]) C0 (c_X6_latest_ok l hfl E d0 q1 q2 a e m t q h w wd s0 z st he ke tu ca tr co la j9 (by first | assumption | omega)) (cwV 1 hts gL_latest_X6_latest rfl rfl rfl (by decide +kernel) ⟨Nat.le_of_ble_eq_true rfl, Nat.le_of_ble_eq_true rfl⟩) hw rfl hZ (fun _ => [oc d0 6 [.ref (a 0), .ref q1, .ref (e 0), .ref q2, .ref (m 0), .ref q, .ref (t 0)], fc E a (nI h) (nI w) wd s0 z st he ke tu ca tr co la]) (fun _ => rfl) 0 6 rfl rfl rfl rfl hl.1 rfl (Nat.le_of_ble_eq_true rfl) dL_latest_4 ⟨Nat.le_of_ble_eq_true rfl, Nat.le_of_ble_eq_true rfl⟩ (fun X9 ce9 q9 H locs hx9 hw hc9 hv9 hcl9 => False.elim hx9) (fun r u H locs hq99 hw => ?_)
  subst hq99
  have hw : kW E AA sx (List.flatten [oc d0 6 [.ref (a 0), .ref q1, .ref (e 0), .ref q2, .ref (m 0), .ref q, .ref (t 0)], fc E a (nI h) (nI w) wd s0 z st he ke tu ca tr co la, lc E o0 1 f]) H locs := hw
  refine W.eq (g2 := F0 mm 7 ls [.int (la j9), .int 0, .ref o0]) rfl ?_
  refine lv_i2l (v := Int32.toInt64 (la j9)) hx hb dL_latest_7 rfl ?_
  refine k_last (pre := [oc d0 6 [.ref (a 0), .ref q1, .ref (e 0), .ref q2, .ref (m 0), .ref q, .ref (t 0)], fc E a (nI h) (nI w) wd s0 z st he ke tu ca tr co la]) C0 hw (i := 0) (kinN (n := 0) (by decide) (by decide)) dL_latest_8 (fun H locs hw => ?_)
  have hw : kW E AA sx (List.flatten [oc d0 6 [.ref (a 0), .ref q1, .ref (e 0), .ref q2, .ref (m 0), .ref q, .ref (t 0)], fc E a (nI h) (nI w) wd s0 z st he ke tu ca tr co la, lc E o0 1 (vp_updL f 0 (Int32.toInt64 (la j9)))]) H locs := hw
  refine lv_goto (tgt := 15) hx hb dL_latest_9 (by decide) ?_
  refine lv_iconst (v := 0) hx hb dL_latest_15 (by decide) ?_
  -- leaf 0
  exact k_iret C0 hr hlk hw () (rfl) (rfl) (Nat.le_of_ble_eq_true rfl) (Nat.le_of_ble_eq_true rfl) dL_latest_16

abbrev rmL_relief : Room := { frames := 7, cells := 1, slots := 6, locals := 131 }
set_option maxHeartbeats 4000000 in
set_option maxRecDepth 100000 in
theorem c_L_relief_x1 (l : Launch) (hfl : l.stackTraces = false) (E : kE) (d0 : Nat) (q1 : Nat) (q2 : Nat) (a : Nat → Nat) (e : Nat → Nat) (m : Nat → Nat) (t : Nat → Nat) (q : Nat) (h : Nat) (w : Nat) (wd : Int32) (s0 : Int32) (z : Int32) (st : Nat → Int32) (he : Nat → Int32) (ke : Nat → Int32) (tu : Nat → Int32) (ca : Nat → Int32) (tr : Nat → Int32) (co : Nat → Int32) (la : Nat → Int32) (x : Int32) (o0 : Nat) (f : Nat → Int64) (hv : ¬ (¬ x < 0 ∧ ¬ nI 3 < x)) : kH E l yL_relief wsL_relief rmL_relief [.ref d0, .int x, .ref o0] (List.flatten [oc d0 6 [.ref (a 0), .ref q1, .ref (e 0), .ref q2, .ref (m 0), .ref q, .ref (t 0)], fc E a (nI h) (nI w) wd s0 z st he ke tu ca tr co la, lc E o0 1 f]) kI (fun (r : Int32) (_ : Unit) => r = 1) (fun _ => List.flatten [oc d0 6 [.ref (a 0), .ref q1, .ref (e 0), .ref q2, .ref (m 0), .ref q, .ref (t 0)], fc E a (nI h) (nI w) wd s0 z st he ke tu ca tr co la, lc E o0 1 f]) 1 6 := by
  refine kH_body (cc := cL_relief) (maxL := 4) (ret := (some .int)) (hh := [(0, 9, 12, 13)]) (by decide) rfl (Nat.le_of_ble_eq_true rfl) ?_
  intro pp ee sx mm aa bb me cd H locs AA ls C0 hr hlk hxt hZ hl hw
  obtain ⟨hx, hb, hml, hown, hts⟩ := id C0
  have hl : lv_has ls 4 [(0, .ref d0), (1, .int x), (2, .ref o0)] := hl
  have hw : kW E AA sx (List.flatten [oc d0 6 [.ref (a 0), .ref q1, .ref (e 0), .ref q2, .ref (m 0), .ref q, .ref (t 0)], fc E a (nI h) (nI w) wd s0 z st he ke tu ca tr co la, lc E o0 1 f]) H locs := hw
  refine lv_aload_n hx hb dL_relief_0 rfl (lv_at hl 2 rfl) ?_
  refine lv_iconst (v := 0) hx hb dL_relief_1 (by decide) ?_
  refine lv_aload_n hx hb dL_relief_2 rfl (lv_at hl 0 rfl) ?_
  refine lv_iload_n hx hb dL_relief_3 rfl (lv_at hl 1 rfl) ?_
  refine k_VX (As := [.int x]) (rest := [.int 0, .ref o0]) (pre := []) (mid := [oc d0 6 [.ref (a 0), .ref q1, .ref (e 0), .ref q2, .ref (m 0), .ref q, .ref (t 0)], fc E a (nI h) (nI w) wd s0 z st he ke tu ca tr co la]) C0 (c_X6_relief_x1F l hfl E d0 q1 q2 a e m t q h w wd s0 z st he ke tu ca tr co la x (by first | assumption | omega)) (cwV 1 hts gL_relief_X6_relief rfl rfl rfl (by decide +kernel) ⟨Nat.le_of_ble_eq_true rfl, Nat.le_of_ble_eq_true rfl⟩) hw rfl hZ (fun _ => [oc d0 6 [.ref (a 0), .ref q1, .ref (e 0), .ref q2, .ref (m 0), .ref q, .ref (t 0)], fc E a (nI h) (nI w) wd s0 z st he ke tu ca tr co la]) (fun _ => rfl) 0 6 rfl rfl rfl rfl hl.1 rfl (Nat.le_of_ble_eq_true rfl) dL_relief_4 ⟨Nat.le_of_ble_eq_true rfl, Nat.le_of_ble_eq_true rfl⟩ (fun X9 ce9 q9 H locs hx9 hw hc9 hv9 hcl9 => ?_) (fun r u H locs hq99 hw => False.elim hq99)
  have hx9 : X9 = "java/lang/IllegalArgumentException" := hx9
  subst hx9
  refine vx_catch hown [] ⟨0, 9, 12, 13⟩ [] (hxt.trans rfl) (fun z hz => by cases hz) (by decide) (by decide) (hts (.classLink RL 13 "java/lang/IllegalArgumentException") (by decide +kernel)) (va_Nw.use rfl (hw.2.2.1.2.2.2.1 "java/lang/IllegalArgumentException" (by decide))) hc9 hv9 hcl9 ?_
  refine W.eq (g2 := F0 mm 12 ls [.ref q9]) rfl ?_
  refine lv_astore_n (lv' := [(3, .ref q9), (0, .ref d0), (1, .int x), (2, .ref o0)]) hx hb dL_relief_12 rfl hl (by decide) rfl (fun ls hl => ?_)
  refine lv_iconst (v := 1) hx hb dL_relief_13 (by decide) ?_
  -- leaf 0
  exact k_iret C0 hr hlk hw () (rfl) (rfl) (Nat.le_of_ble_eq_true rfl) (Nat.le_of_ble_eq_true rfl) dL_relief_14

set_option maxHeartbeats 4000000 in
set_option maxRecDepth 100000 in
theorem c_L_relief_ok (l : Launch) (hfl : l.stackTraces = false) (E : kE) (d0 : Nat) (q1 : Nat) (q2 : Nat) (a : Nat → Nat) (e : Nat → Nat) (m : Nat → Nat) (t : Nat → Nat) (q : Nat) (h : Nat) (w : Nat) (wd : Int32) (s0 : Int32) (z : Int32) (st : Nat → Int32) (he : Nat → Int32) (ke : Nat → Int32) (tu : Nat → Int32) (ca : Nat → Int32) (tr : Nat → Int32) (co : Nat → Int32) (la : Nat → Int32) (j9 : Nat) (o0 : Nat) (f : Nat → Int64) (hG : kG h w) (hj9 : j9 < 4) : kH E l yL_relief wsL_relief rmL_relief [.ref d0, .int (nI j9), .ref o0] (List.flatten [oc d0 6 [.ref (a 0), .ref q1, .ref (e 0), .ref q2, .ref (m 0), .ref q, .ref (t 0)], fc E a (nI h) (nI w) wd s0 z st he ke tu ca tr co la, lc E o0 1 f]) kI (fun (r : Int32) (_ : Unit) => r = 0) (fun _ => List.flatten [oc d0 6 [.ref (a 0), .ref q1, .ref (e 0), .ref q2, .ref (m 0), .ref q, .ref (t 0)], fc E a (nI h) (nI w) wd s0 z st he ke tu ca tr co la, lc E o0 1 (vp_updL f 0 (Int32.toInt64 (rlfN h w he j9)))]) 1 6 := by
  refine kH_body (cc := cL_relief) (maxL := 4) (ret := (some .int)) (hh := [(0, 9, 12, 13)]) (by decide) rfl (Nat.le_of_ble_eq_true rfl) ?_
  intro pp ee sx mm aa bb me cd H locs AA ls C0 hr hlk hxt hZ hl hw
  obtain ⟨hx, hb, hml, hown, hts⟩ := id C0
  have hl : lv_has ls 4 [(0, .ref d0), (1, .int (nI j9)), (2, .ref o0)] := hl
  have hw : kW E AA sx (List.flatten [oc d0 6 [.ref (a 0), .ref q1, .ref (e 0), .ref q2, .ref (m 0), .ref q, .ref (t 0)], fc E a (nI h) (nI w) wd s0 z st he ke tu ca tr co la, lc E o0 1 f]) H locs := hw
  refine lv_aload_n hx hb dL_relief_0 rfl (lv_at hl 2 rfl) ?_
  refine lv_iconst (v := 0) hx hb dL_relief_1 (by decide) ?_
  refine lv_aload_n hx hb dL_relief_2 rfl (lv_at hl 0 rfl) ?_
  refine lv_iload_n hx hb dL_relief_3 rfl (lv_at hl 1 rfl) ?_
  refine k_VX (As := [.int (nI j9)]) (rest := [.int 0, .ref o0]) (pre := []) (mid := [oc d0 6 [.ref (a 0), .ref q1, .ref (e 0), .ref q2, .ref (m 0), .ref q, .ref (t 0)], fc E a (nI h) (nI w) wd s0 z st he ke tu ca tr co la]) C0 (c_X6_relief_ok l hfl E d0 q1 q2 a e m t q h w wd s0 z st he ke tu ca tr co la j9 (by first | assumption | omega) (by first | assumption | omega)) (cwV 1 hts gL_relief_X6_relief rfl rfl rfl (by decide +kernel) ⟨Nat.le_of_ble_eq_true rfl, Nat.le_of_ble_eq_true rfl⟩) hw rfl hZ (fun _ => [oc d0 6 [.ref (a 0), .ref q1, .ref (e 0), .ref q2, .ref (m 0), .ref q, .ref (t 0)], fc E a (nI h) (nI w) wd s0 z st he ke tu ca tr co la]) (fun _ => rfl) 0 6 rfl rfl rfl rfl hl.1 rfl (Nat.le_of_ble_eq_true rfl) dL_relief_4 ⟨Nat.le_of_ble_eq_true rfl, Nat.le_of_ble_eq_true rfl⟩ (fun X9 ce9 q9 H locs hx9 hw hc9 hv9 hcl9 => False.elim hx9) (fun r u H locs hq99 hw => ?_)
  subst hq99
  have hw : kW E AA sx (List.flatten [oc d0 6 [.ref (a 0), .ref q1, .ref (e 0), .ref q2, .ref (m 0), .ref q, .ref (t 0)], fc E a (nI h) (nI w) wd s0 z st he ke tu ca tr co la, lc E o0 1 f]) H locs := hw
  refine W.eq (g2 := F0 mm 7 ls [.int (rlfN h w he j9), .int 0, .ref o0]) rfl ?_
  refine lv_i2l (v := Int32.toInt64 (rlfN h w he j9)) hx hb dL_relief_7 rfl ?_
  refine k_last (pre := [oc d0 6 [.ref (a 0), .ref q1, .ref (e 0), .ref q2, .ref (m 0), .ref q, .ref (t 0)], fc E a (nI h) (nI w) wd s0 z st he ke tu ca tr co la]) C0 hw (i := 0) (kinN (n := 0) (by decide) (by decide)) dL_relief_8 (fun H locs hw => ?_)
  have hw : kW E AA sx (List.flatten [oc d0 6 [.ref (a 0), .ref q1, .ref (e 0), .ref q2, .ref (m 0), .ref q, .ref (t 0)], fc E a (nI h) (nI w) wd s0 z st he ke tu ca tr co la, lc E o0 1 (vp_updL f 0 (Int32.toInt64 (rlfN h w he j9)))]) H locs := hw
  refine lv_goto (tgt := 15) hx hb dL_relief_9 (by decide) ?_
  refine lv_iconst (v := 0) hx hb dL_relief_15 (by decide) ?_
  -- leaf 0
  exact k_iret C0 hr hlk hw () (rfl) (rfl) (Nat.le_of_ble_eq_true rfl) (Nat.le_of_ble_eq_true rfl) dL_relief_16

abbrev rmL_dunes : Room := { frames := 7, cells := 1, slots := 6, locals := 131 }
set_option maxHeartbeats 4000000 in
set_option maxRecDepth 100000 in
theorem c_L_dunes_x1 (l : Launch) (hfl : l.stackTraces = false) (E : kE) (d0 : Nat) (q1 : Nat) (q2 : Nat) (a : Nat → Nat) (e : Nat → Nat) (m : Nat → Nat) (t : Nat → Nat) (q : Nat) (x : Int32) (o0 : Nat) (f : Nat → Int64) (hv : ¬ (¬ x < 1 ∧ ¬ 99 < x)) : kH E l yL_dunes wsL_dunes rmL_dunes [.ref d0, .int x, .ref o0] (List.flatten [oc d0 6 [.ref (a 0), .ref q1, .ref (e 0), .ref q2, .ref (m 0), .ref q, .ref (t 0)], lc E o0 1 f]) kI (fun (r : Int32) (_ : Unit) => r = 1) (fun _ => List.flatten [oc d0 6 [.ref (a 0), .ref q1, .ref (e 0), .ref q2, .ref (m 0), .ref q, .ref (t 0)], lc E o0 1 f]) 1 6 := by
  refine kH_body (cc := cL_dunes) (maxL := 4) (ret := (some .int)) (hh := [(0, 9, 12, 13)]) (by decide) rfl (Nat.le_of_ble_eq_true rfl) ?_
  intro pp ee sx mm aa bb me cd H locs AA ls C0 hr hlk hxt hZ hl hw
  obtain ⟨hx, hb, hml, hown, hts⟩ := id C0
  have hl : lv_has ls 4 [(0, .ref d0), (1, .int x), (2, .ref o0)] := hl
  have hw : kW E AA sx (List.flatten [oc d0 6 [.ref (a 0), .ref q1, .ref (e 0), .ref q2, .ref (m 0), .ref q, .ref (t 0)], lc E o0 1 f]) H locs := hw
  refine lv_aload_n hx hb dL_dunes_0 rfl (lv_at hl 2 rfl) ?_
  refine lv_iconst (v := 0) hx hb dL_dunes_1 (by decide) ?_
  refine lv_aload_n hx hb dL_dunes_2 rfl (lv_at hl 0 rfl) ?_
  refine lv_iload_n hx hb dL_dunes_3 rfl (lv_at hl 1 rfl) ?_
  refine k_VX (As := [.int x]) (rest := [.int 0, .ref o0]) (pre := []) (mid := [oc d0 6 [.ref (a 0), .ref q1, .ref (e 0), .ref q2, .ref (m 0), .ref q, .ref (t 0)]]) C0 (c_X6_dunes_x1F l hfl E d0 q1 q2 a e m t q x (by first | assumption | omega)) (cwV 1 hts gL_dunes_X6_dunes rfl rfl rfl (by decide +kernel) ⟨Nat.le_of_ble_eq_true rfl, Nat.le_of_ble_eq_true rfl⟩) hw rfl hZ (fun _ => [oc d0 6 [.ref (a 0), .ref q1, .ref (e 0), .ref q2, .ref (m 0), .ref q, .ref (t 0)]]) (fun _ => rfl) 0 6 rfl rfl rfl rfl hl.1 rfl (Nat.le_of_ble_eq_true rfl) dL_dunes_4 ⟨Nat.le_of_ble_eq_true rfl, Nat.le_of_ble_eq_true rfl⟩ (fun X9 ce9 q9 H locs hx9 hw hc9 hv9 hcl9 => ?_) (fun r u H locs hq99 hw => False.elim hq99)
  have hx9 : X9 = "java/lang/IllegalArgumentException" := hx9
  subst hx9
  refine vx_catch hown [] ⟨0, 9, 12, 13⟩ [] (hxt.trans rfl) (fun z hz => by cases hz) (by decide) (by decide) (hts (.classLink RL 13 "java/lang/IllegalArgumentException") (by decide +kernel)) (va_Nw.use rfl (hw.2.2.1.2.2.2.1 "java/lang/IllegalArgumentException" (by decide))) hc9 hv9 hcl9 ?_
  refine W.eq (g2 := F0 mm 12 ls [.ref q9]) rfl ?_
  refine lv_astore_n (lv' := [(3, .ref q9), (0, .ref d0), (1, .int x), (2, .ref o0)]) hx hb dL_dunes_12 rfl hl (by decide) rfl (fun ls hl => ?_)
  refine lv_iconst (v := 1) hx hb dL_dunes_13 (by decide) ?_
  -- leaf 0
  exact k_iret C0 hr hlk hw () (rfl) (rfl) (Nat.le_of_ble_eq_true rfl) (Nat.le_of_ble_eq_true rfl) dL_dunes_14

set_option maxHeartbeats 4000000 in
set_option maxRecDepth 100000 in
theorem c_L_dunes_ok (l : Launch) (hfl : l.stackTraces = false) (E : kE) (d0 : Nat) (q1 : Nat) (q2 : Nat) (a : Nat → Nat) (e : Nat → Nat) (m : Nat → Nat) (t : Nat → Nat) (q : Nat) (h : Nat) (w : Nat) (wd : Int32) (s0 : Int32) (z : Int32) (st : Nat → Int32) (he : Nat → Int32) (ke : Nat → Int32) (tu : Nat → Int32) (ca : Nat → Int32) (tr : Nat → Int32) (co : Nat → Int32) (la : Nat → Int32) (dn : Nat → Int32) (sz : Nat → Int32) (sm : Nat → Int32) (qu : Nat → Int32) (f0 : Int32) (th : Int32) (o0 : Nat) (f : Nat → Int64) (hG : kG h w) (hv : ¬ th < 1 ∧ ¬ 99 < th) : kH E l yL_dunes wsL_dunes rmL_dunes [.ref d0, .int th, .ref o0] (List.flatten [oc d0 6 [.ref (a 0), .ref q1, .ref (e 0), .ref q2, .ref (m 0), .ref q, .ref (t 0)], dm E m dn sz sm qu f0, fc E a (nI h) (nI w) wd s0 z st he ke tu ca tr co la, lc E o0 1 f]) kI (fun (r : Int32) (u : fP × fP) => r = 0) (fun (u : fP × fP) => List.flatten [oc d0 6 [.ref (a 0), .ref q1, .ref (e 0), .ref q2, .ref (m 0), .ref q, .ref (t 0)], dm E m u.1.1 u.1.2 u.2.1 u.2.2 (nI (dnL h w he th (h * w)).2), fc E a (nI h) (nI w) wd s0 z st he ke tu ca tr co la, lc E o0 1 (vp_updL f 0 (Int32.toInt64 (nI (dnN h w he th))))]) 1 6 := by
  refine kH_body (cc := cL_dunes) (maxL := 4) (ret := (some .int)) (hh := [(0, 9, 12, 13)]) (by decide) rfl (Nat.le_of_ble_eq_true rfl) ?_
  intro pp ee sx mm aa bb me cd H locs AA ls C0 hr hlk hxt hZ hl hw
  obtain ⟨hx, hb, hml, hown, hts⟩ := id C0
  have hl : lv_has ls 4 [(0, .ref d0), (1, .int th), (2, .ref o0)] := hl
  have hw : kW E AA sx (List.flatten [oc d0 6 [.ref (a 0), .ref q1, .ref (e 0), .ref q2, .ref (m 0), .ref q, .ref (t 0)], dm E m dn sz sm qu f0, fc E a (nI h) (nI w) wd s0 z st he ke tu ca tr co la, lc E o0 1 f]) H locs := hw
  refine lv_aload_n hx hb dL_dunes_0 rfl (lv_at hl 2 rfl) ?_
  refine lv_iconst (v := 0) hx hb dL_dunes_1 (by decide) ?_
  refine lv_aload_n hx hb dL_dunes_2 rfl (lv_at hl 0 rfl) ?_
  refine lv_iload_n hx hb dL_dunes_3 rfl (lv_at hl 1 rfl) ?_
  refine k_VX (As := [.int th]) (rest := [.int 0, .ref o0]) (pre := []) (mid := [oc d0 6 [.ref (a 0), .ref q1, .ref (e 0), .ref q2, .ref (m 0), .ref q, .ref (t 0)], dm E m dn sz sm qu f0, fc E a (nI h) (nI w) wd s0 z st he ke tu ca tr co la]) C0 (c_X6_dunes_ok l hfl E d0 q1 q2 a e m t q h w wd s0 z st he ke tu ca tr co la dn sz sm qu f0 th (by first | assumption | omega) (by first | assumption | omega)) (cwV 1 hts gL_dunes_X6_dunes rfl rfl rfl (by decide +kernel) ⟨Nat.le_of_ble_eq_true rfl, Nat.le_of_ble_eq_true rfl⟩) hw rfl hZ (fun (u4 : fP × fP) => [oc d0 6 [.ref (a 0), .ref q1, .ref (e 0), .ref q2, .ref (m 0), .ref q, .ref (t 0)], dm E m u4.1.1 u4.1.2 u4.2.1 u4.2.2 (nI (dnL h w he th (h * w)).2), fc E a (nI h) (nI w) wd s0 z st he ke tu ca tr co la]) (fun _ => rfl) 0 6 rfl rfl rfl rfl hl.1 rfl (Nat.le_of_ble_eq_true rfl) dL_dunes_4 ⟨Nat.le_of_ble_eq_true rfl, Nat.le_of_ble_eq_true rfl⟩ (fun X9 ce9 q9 H locs hx9 hw hc9 hv9 hcl9 => False.elim hx9) (fun r u4 H locs hq99 hw => ?_)
  obtain ⟨r4, rfl⟩ : ∃ z, z = r := ⟨_, rfl⟩
  have h4 : r4 = nI (dnN h w he th) := hq99
  have hw : kW E AA sx (List.flatten [oc d0 6 [.ref (a 0), .ref q1, .ref (e 0), .ref q2, .ref (m 0), .ref q, .ref (t 0)], dm E m u4.1.1 u4.1.2 u4.2.1 u4.2.2 (nI (dnL h w he th (h * w)).2), fc E a (nI h) (nI w) wd s0 z st he ke tu ca tr co la, lc E o0 1 f]) H locs := hw
  refine W.eq (g2 := F0 mm 7 ls [.int r4, .int 0, .ref o0]) rfl ?_
  refine W.eq (g2 := F0 mm 7 ls [.int (nI (dnN h w he th)), .int 0, .ref o0]) (congrArg (fun z9 => F0 mm 7 ls [.int z9, .int 0, .ref o0]) (show (r4 : Int32) = nI (dnN h w he th) from h4)) ?_
  refine lv_i2l (v := Int32.toInt64 (nI (dnN h w he th))) hx hb dL_dunes_7 rfl ?_
  refine k_last (pre := [oc d0 6 [.ref (a 0), .ref q1, .ref (e 0), .ref q2, .ref (m 0), .ref q, .ref (t 0)], dm E m u4.1.1 u4.1.2 u4.2.1 u4.2.2 (nI (dnL h w he th (h * w)).2), fc E a (nI h) (nI w) wd s0 z st he ke tu ca tr co la]) C0 hw (i := 0) (kinN (n := 0) (by decide) (by decide)) dL_dunes_8 (fun H locs hw => ?_)
  have hw : kW E AA sx (List.flatten [oc d0 6 [.ref (a 0), .ref q1, .ref (e 0), .ref q2, .ref (m 0), .ref q, .ref (t 0)], dm E m u4.1.1 u4.1.2 u4.2.1 u4.2.2 (nI (dnL h w he th (h * w)).2), fc E a (nI h) (nI w) wd s0 z st he ke tu ca tr co la, lc E o0 1 (vp_updL f 0 (Int32.toInt64 (nI (dnN h w he th))))]) H locs := hw
  refine lv_goto (tgt := 15) hx hb dL_dunes_9 (by decide) ?_
  refine lv_iconst (v := 0) hx hb dL_dunes_15 (by decide) ?_
  -- leaf 0
  exact k_iret C0 hr hlk hw u4 (rfl) (rfl) (Nat.le_of_ble_eq_true rfl) (Nat.le_of_ble_eq_true rfl) dL_dunes_16

abbrev rmL_greatestDune : Room := { frames := 7, cells := 1, slots := 6, locals := 131 }
set_option maxHeartbeats 4000000 in
set_option maxRecDepth 100000 in
theorem c_L_greatestDune_x1 (l : Launch) (hfl : l.stackTraces = false) (E : kE) (d0 : Nat) (q1 : Nat) (q2 : Nat) (a : Nat → Nat) (e : Nat → Nat) (m : Nat → Nat) (t : Nat → Nat) (q : Nat) (x : Int32) (o0 : Nat) (f : Nat → Int64) (hv : ¬ (¬ x < 1 ∧ ¬ 99 < x)) : kH E l yL_greatestDune wsL_greatestDune rmL_greatestDune [.ref d0, .int x, .ref o0] (List.flatten [oc d0 6 [.ref (a 0), .ref q1, .ref (e 0), .ref q2, .ref (m 0), .ref q, .ref (t 0)], lc E o0 1 f]) kI (fun (r : Int32) (_ : Unit) => r = 1) (fun _ => List.flatten [oc d0 6 [.ref (a 0), .ref q1, .ref (e 0), .ref q2, .ref (m 0), .ref q, .ref (t 0)], lc E o0 1 f]) 1 6 := by
  refine kH_body (cc := cL_greatestDune) (maxL := 4) (ret := (some .int)) (hh := [(0, 9, 12, 13)]) (by decide) rfl (Nat.le_of_ble_eq_true rfl) ?_
  intro pp ee sx mm aa bb me cd H locs AA ls C0 hr hlk hxt hZ hl hw
  obtain ⟨hx, hb, hml, hown, hts⟩ := id C0
  have hl : lv_has ls 4 [(0, .ref d0), (1, .int x), (2, .ref o0)] := hl
  have hw : kW E AA sx (List.flatten [oc d0 6 [.ref (a 0), .ref q1, .ref (e 0), .ref q2, .ref (m 0), .ref q, .ref (t 0)], lc E o0 1 f]) H locs := hw
  refine lv_aload_n hx hb dL_greatestDune_0 rfl (lv_at hl 2 rfl) ?_
  refine lv_iconst (v := 0) hx hb dL_greatestDune_1 (by decide) ?_
  refine lv_aload_n hx hb dL_greatestDune_2 rfl (lv_at hl 0 rfl) ?_
  refine lv_iload_n hx hb dL_greatestDune_3 rfl (lv_at hl 1 rfl) ?_
  refine k_VX (As := [.int x]) (rest := [.int 0, .ref o0]) (pre := []) (mid := [oc d0 6 [.ref (a 0), .ref q1, .ref (e 0), .ref q2, .ref (m 0), .ref q, .ref (t 0)]]) C0 (c_X6_greatestDune_x1F l hfl E d0 q1 q2 a e m t q x (by first | assumption | omega)) (cwV 1 hts gL_greatestDune_X6_greatestDune rfl rfl rfl (by decide +kernel) ⟨Nat.le_of_ble_eq_true rfl, Nat.le_of_ble_eq_true rfl⟩) hw rfl hZ (fun _ => [oc d0 6 [.ref (a 0), .ref q1, .ref (e 0), .ref q2, .ref (m 0), .ref q, .ref (t 0)]]) (fun _ => rfl) 0 6 rfl rfl rfl rfl hl.1 rfl (Nat.le_of_ble_eq_true rfl) dL_greatestDune_4 ⟨Nat.le_of_ble_eq_true rfl, Nat.le_of_ble_eq_true rfl⟩ (fun X9 ce9 q9 H locs hx9 hw hc9 hv9 hcl9 => ?_) (fun r u H locs hq99 hw => False.elim hq99)
  have hx9 : X9 = "java/lang/IllegalArgumentException" := hx9
  subst hx9
  refine vx_catch hown [] ⟨0, 9, 12, 13⟩ [] (hxt.trans rfl) (fun z hz => by cases hz) (by decide) (by decide) (hts (.classLink RL 13 "java/lang/IllegalArgumentException") (by decide +kernel)) (va_Nw.use rfl (hw.2.2.1.2.2.2.1 "java/lang/IllegalArgumentException" (by decide))) hc9 hv9 hcl9 ?_
  refine W.eq (g2 := F0 mm 12 ls [.ref q9]) rfl ?_
  refine lv_astore_n (lv' := [(3, .ref q9), (0, .ref d0), (1, .int x), (2, .ref o0)]) hx hb dL_greatestDune_12 rfl hl (by decide) rfl (fun ls hl => ?_)
  refine lv_iconst (v := 1) hx hb dL_greatestDune_13 (by decide) ?_
  -- leaf 0
  exact k_iret C0 hr hlk hw () (rfl) (rfl) (Nat.le_of_ble_eq_true rfl) (Nat.le_of_ble_eq_true rfl) dL_greatestDune_14

set_option maxHeartbeats 4000000 in
set_option maxRecDepth 100000 in
theorem c_L_greatestDune_ok (l : Launch) (hfl : l.stackTraces = false) (E : kE) (d0 : Nat) (q1 : Nat) (q2 : Nat) (a : Nat → Nat) (e : Nat → Nat) (m : Nat → Nat) (t : Nat → Nat) (q : Nat) (h : Nat) (w : Nat) (wd : Int32) (s0 : Int32) (z : Int32) (st : Nat → Int32) (he : Nat → Int32) (ke : Nat → Int32) (tu : Nat → Int32) (ca : Nat → Int32) (tr : Nat → Int32) (co : Nat → Int32) (la : Nat → Int32) (dn : Nat → Int32) (sz : Nat → Int32) (sm : Nat → Int32) (qu : Nat → Int32) (f0 : Int32) (th : Int32) (o0 : Nat) (f : Nat → Int64) (hG : kG h w) (hv : ¬ th < 1 ∧ ¬ 99 < th) : kH E l yL_greatestDune wsL_greatestDune rmL_greatestDune [.ref d0, .int th, .ref o0] (List.flatten [oc d0 6 [.ref (a 0), .ref q1, .ref (e 0), .ref q2, .ref (m 0), .ref q, .ref (t 0)], dm E m dn sz sm qu f0, fc E a (nI h) (nI w) wd s0 z st he ke tu ca tr co la, lc E o0 1 f]) kI (fun (r : Int32) (u : fP × fP) => r = 0) (fun (u : fP × fP) => List.flatten [oc d0 6 [.ref (a 0), .ref q1, .ref (e 0), .ref q2, .ref (m 0), .ref q, .ref (t 0)], dm E m u.1.1 u.1.2 u.2.1 u.2.2 (nI (dnL h w he th (h * w)).2), fc E a (nI h) (nI w) wd s0 z st he ke tu ca tr co la, lc E o0 1 (vp_updL f 0 (Int32.toInt64 (gdN h w he th)))]) 1 6 := by
  refine kH_body (cc := cL_greatestDune) (maxL := 4) (ret := (some .int)) (hh := [(0, 9, 12, 13)]) (by decide) rfl (Nat.le_of_ble_eq_true rfl) ?_
  intro pp ee sx mm aa bb me cd H locs AA ls C0 hr hlk hxt hZ hl hw
  obtain ⟨hx, hb, hml, hown, hts⟩ := id C0
  have hl : lv_has ls 4 [(0, .ref d0), (1, .int th), (2, .ref o0)] := hl
  have hw : kW E AA sx (List.flatten [oc d0 6 [.ref (a 0), .ref q1, .ref (e 0), .ref q2, .ref (m 0), .ref q, .ref (t 0)], dm E m dn sz sm qu f0, fc E a (nI h) (nI w) wd s0 z st he ke tu ca tr co la, lc E o0 1 f]) H locs := hw
  refine lv_aload_n hx hb dL_greatestDune_0 rfl (lv_at hl 2 rfl) ?_
  refine lv_iconst (v := 0) hx hb dL_greatestDune_1 (by decide) ?_
  refine lv_aload_n hx hb dL_greatestDune_2 rfl (lv_at hl 0 rfl) ?_
  refine lv_iload_n hx hb dL_greatestDune_3 rfl (lv_at hl 1 rfl) ?_
  refine k_VX (As := [.int th]) (rest := [.int 0, .ref o0]) (pre := []) (mid := [oc d0 6 [.ref (a 0), .ref q1, .ref (e 0), .ref q2, .ref (m 0), .ref q, .ref (t 0)], dm E m dn sz sm qu f0, fc E a (nI h) (nI w) wd s0 z st he ke tu ca tr co la]) C0 (c_X6_greatestDune_ok l hfl E d0 q1 q2 a e m t q h w wd s0 z st he ke tu ca tr co la dn sz sm qu f0 th (by first | assumption | omega) (by first | assumption | omega)) (cwV 1 hts gL_greatestDune_X6_greatestDune rfl rfl rfl (by decide +kernel) ⟨Nat.le_of_ble_eq_true rfl, Nat.le_of_ble_eq_true rfl⟩) hw rfl hZ (fun (u4 : fP × fP) => [oc d0 6 [.ref (a 0), .ref q1, .ref (e 0), .ref q2, .ref (m 0), .ref q, .ref (t 0)], dm E m u4.1.1 u4.1.2 u4.2.1 u4.2.2 (nI (dnL h w he th (h * w)).2), fc E a (nI h) (nI w) wd s0 z st he ke tu ca tr co la]) (fun _ => rfl) 0 6 rfl rfl rfl rfl hl.1 rfl (Nat.le_of_ble_eq_true rfl) dL_greatestDune_4 ⟨Nat.le_of_ble_eq_true rfl, Nat.le_of_ble_eq_true rfl⟩ (fun X9 ce9 q9 H locs hx9 hw hc9 hv9 hcl9 => False.elim hx9) (fun r u4 H locs hq99 hw => ?_)
  obtain ⟨r4, rfl⟩ : ∃ z, z = r := ⟨_, rfl⟩
  have h4 : r4 = gdN h w he th := hq99
  have hw : kW E AA sx (List.flatten [oc d0 6 [.ref (a 0), .ref q1, .ref (e 0), .ref q2, .ref (m 0), .ref q, .ref (t 0)], dm E m u4.1.1 u4.1.2 u4.2.1 u4.2.2 (nI (dnL h w he th (h * w)).2), fc E a (nI h) (nI w) wd s0 z st he ke tu ca tr co la, lc E o0 1 f]) H locs := hw
  refine W.eq (g2 := F0 mm 7 ls [.int r4, .int 0, .ref o0]) rfl ?_
  refine W.eq (g2 := F0 mm 7 ls [.int (gdN h w he th), .int 0, .ref o0]) (congrArg (fun z9 => F0 mm 7 ls [.int z9, .int 0, .ref o0]) (show (r4 : Int32) = gdN h w he th from h4)) ?_
  refine lv_i2l (v := Int32.toInt64 (gdN h w he th)) hx hb dL_greatestDune_7 rfl ?_
  refine k_last (pre := [oc d0 6 [.ref (a 0), .ref q1, .ref (e 0), .ref q2, .ref (m 0), .ref q, .ref (t 0)], dm E m u4.1.1 u4.1.2 u4.2.1 u4.2.2 (nI (dnL h w he th (h * w)).2), fc E a (nI h) (nI w) wd s0 z st he ke tu ca tr co la]) C0 hw (i := 0) (kinN (n := 0) (by decide) (by decide)) dL_greatestDune_8 (fun H locs hw => ?_)
  have hw : kW E AA sx (List.flatten [oc d0 6 [.ref (a 0), .ref q1, .ref (e 0), .ref q2, .ref (m 0), .ref q, .ref (t 0)], dm E m u4.1.1 u4.1.2 u4.2.1 u4.2.2 (nI (dnL h w he th (h * w)).2), fc E a (nI h) (nI w) wd s0 z st he ke tu ca tr co la, lc E o0 1 (vp_updL f 0 (Int32.toInt64 (gdN h w he th)))]) H locs := hw
  refine lv_goto (tgt := 15) hx hb dL_greatestDune_9 (by decide) ?_
  refine lv_iconst (v := 0) hx hb dL_greatestDune_15 (by decide) ?_
  -- leaf 0
  exact k_iret C0 hr hlk hw u4 (rfl) (rfl) (Nat.le_of_ble_eq_true rfl) (Nat.le_of_ble_eq_true rfl) dL_greatestDune_16

abbrev rmL_duneOf : Room := { frames := 7, cells := 1, slots := 6, locals := 132 }
set_option maxHeartbeats 4000000 in
set_option maxRecDepth 100000 in
theorem c_L_duneOf_x2 (l : Launch) (hfl : l.stackTraces = false) (E : kE) (d0 : Nat) (q1 : Nat) (q2 : Nat) (a : Nat → Nat) (e : Nat → Nat) (m : Nat → Nat) (t : Nat → Nat) (q : Nat) (h : Nat) (w : Nat) (wd : Int32) (s0 : Int32) (z : Int32) (st : Nat → Int32) (he : Nat → Int32) (ke : Nat → Int32) (tu : Nat → Int32) (ca : Nat → Int32) (tr : Nat → Int32) (co : Nat → Int32) (la : Nat → Int32) (k : Nat) (v : Int32) (o0 : Nat) (f : Nat → Int64) (hG : kG h w) (hc : k < h * w) (hv : ¬ (¬ v < 1 ∧ ¬ 99 < v)) : kH E l yL_duneOf wsL_duneOf rmL_duneOf [.ref d0, .int (nI k), .int v, .ref o0] (List.flatten [oc d0 6 [.ref (a 0), .ref q1, .ref (e 0), .ref q2, .ref (m 0), .ref q, .ref (t 0)], fc E a (nI h) (nI w) wd s0 z st he ke tu ca tr co la, lc E o0 1 f]) kI (fun (r : Int32) (_ : Unit) => r = 2) (fun _ => List.flatten [oc d0 6 [.ref (a 0), .ref q1, .ref (e 0), .ref q2, .ref (m 0), .ref q, .ref (t 0)], fc E a (nI h) (nI w) wd s0 z st he ke tu ca tr co la, lc E o0 1 f]) 1 6 := by
  refine kH_body (cc := cL_duneOf) (maxL := 5) (ret := (some .int)) (hh := [(0, 10, 13, 19), (0, 10, 17, 13)]) (by decide) rfl (Nat.le_of_ble_eq_true rfl) ?_
  intro pp ee sx mm aa bb me cd H locs AA ls C0 hr hlk hxt hZ hl hw
  obtain ⟨hx, hb, hml, hown, hts⟩ := id C0
  have hl : lv_has ls 5 [(0, .ref d0), (1, .int (nI k)), (2, .int v), (3, .ref o0)] := hl
  have hw : kW E AA sx (List.flatten [oc d0 6 [.ref (a 0), .ref q1, .ref (e 0), .ref q2, .ref (m 0), .ref q, .ref (t 0)], fc E a (nI h) (nI w) wd s0 z st he ke tu ca tr co la, lc E o0 1 f]) H locs := hw
  refine lv_aload_n hx hb dL_duneOf_0 rfl (lv_at hl 3 rfl) ?_
  refine lv_iconst (v := 0) hx hb dL_duneOf_1 (by decide) ?_
  refine lv_aload_n hx hb dL_duneOf_2 rfl (lv_at hl 0 rfl) ?_
  refine lv_iload_n hx hb dL_duneOf_3 rfl (lv_at hl 1 rfl) ?_
  refine lv_iload_n hx hb dL_duneOf_4 rfl (lv_at hl 2 rfl) ?_
  refine k_VX (As := [.int (nI k), .int v]) (rest := [.int 0, .ref o0]) (pre := []) (mid := [oc d0 6 [.ref (a 0), .ref q1, .ref (e 0), .ref q2, .ref (m 0), .ref q, .ref (t 0)], fc E a (nI h) (nI w) wd s0 z st he ke tu ca tr co la]) C0 (c_X6_duneOf_x2F l hfl E d0 q1 q2 a e m t q h w wd s0 z st he ke tu ca tr co la k v (by first | assumption | omega) (by first | assumption | omega) (by first | assumption | omega)) (cwV 2 hts gL_duneOf_X6_duneOf rfl rfl rfl (by decide +kernel) ⟨Nat.le_of_ble_eq_true rfl, Nat.le_of_ble_eq_true rfl⟩) hw rfl hZ (fun _ => [oc d0 6 [.ref (a 0), .ref q1, .ref (e 0), .ref q2, .ref (m 0), .ref q, .ref (t 0)], fc E a (nI h) (nI w) wd s0 z st he ke tu ca tr co la]) (fun _ => rfl) 0 6 rfl rfl rfl rfl hl.1 rfl (Nat.le_of_ble_eq_true rfl) dL_duneOf_5 ⟨Nat.le_of_ble_eq_true rfl, Nat.le_of_ble_eq_true rfl⟩ (fun X9 ce9 q9 H locs hx9 hw hc9 hv9 hcl9 => ?_) (fun r u H locs hq99 hw => False.elim hq99)
  have hx9 : X9 = "java/lang/IllegalArgumentException" := hx9
  subst hx9
  refine vx_catch hown [⟨0, 10, 13, 19⟩] ⟨0, 10, 17, 13⟩ [] (hxt.trans rfl) (fun z hz => by cases List.mem_singleton.mp hz; exact Or.inr ⟨by decide, "java/lang/IndexOutOfBoundsException", hts (.classLink RL 19 "java/lang/IndexOutOfBoundsException") (by decide +kernel), hw.2.2.1.2.2.2.2.2.1 ("java/lang/IllegalArgumentException", "java/lang/IndexOutOfBoundsException") (by decide)⟩) (by decide) (by decide) (hts (.classLink RL 13 "java/lang/IllegalArgumentException") (by decide +kernel)) (va_Nw.use rfl (hw.2.2.1.2.2.2.1 "java/lang/IllegalArgumentException" (by decide))) hc9 hv9 hcl9 ?_
  refine W.eq (g2 := F0 mm 17 ls [.ref q9]) rfl ?_
  refine lv_astore (lv' := [(4, .ref q9), (0, .ref d0), (1, .int (nI k)), (2, .int v), (3, .ref o0)]) hx hb dL_duneOf_17 hl (by decide) rfl (fun ls hl => ?_)
  refine lv_iconst (v := 2) hx hb dL_duneOf_19 (by decide) ?_
  -- leaf 0
  exact k_iret C0 hr hlk hw () (rfl) (rfl) (Nat.le_of_ble_eq_true rfl) (Nat.le_of_ble_eq_true rfl) dL_duneOf_20

set_option maxHeartbeats 4000000 in
set_option maxRecDepth 100000 in
theorem c_L_duneOf_x1 (l : Launch) (hfl : l.stackTraces = false) (E : kE) (d0 : Nat) (q1 : Nat) (q2 : Nat) (a : Nat → Nat) (e : Nat → Nat) (m : Nat → Nat) (t : Nat → Nat) (q : Nat) (h : Nat) (w : Nat) (wd : Int32) (s0 : Int32) (z : Int32) (st : Nat → Int32) (he : Nat → Int32) (ke : Nat → Int32) (tu : Nat → Int32) (ca : Nat → Int32) (tr : Nat → Int32) (co : Nat → Int32) (la : Nat → Int32) (x : Int32) (v : Int32) (o0 : Nat) (f : Nat → Int64) (hG : kG h w) (hv : ¬ (¬ x < 0 ∧ ¬ nI (h * w - 1) < x)) : kH E l yL_duneOf wsL_duneOf rmL_duneOf [.ref d0, .int x, .int v, .ref o0] (List.flatten [oc d0 6 [.ref (a 0), .ref q1, .ref (e 0), .ref q2, .ref (m 0), .ref q, .ref (t 0)], fc E a (nI h) (nI w) wd s0 z st he ke tu ca tr co la, lc E o0 1 f]) kI (fun (r : Int32) (_ : Unit) => r = 1) (fun _ => List.flatten [oc d0 6 [.ref (a 0), .ref q1, .ref (e 0), .ref q2, .ref (m 0), .ref q, .ref (t 0)], fc E a (nI h) (nI w) wd s0 z st he ke tu ca tr co la, lc E o0 1 f]) 1 6 := by
  refine kH_body (cc := cL_duneOf) (maxL := 5) (ret := (some .int)) (hh := [(0, 10, 13, 19), (0, 10, 17, 13)]) (by decide) rfl (Nat.le_of_ble_eq_true rfl) ?_
  intro pp ee sx mm aa bb me cd H locs AA ls C0 hr hlk hxt hZ hl hw
  obtain ⟨hx, hb, hml, hown, hts⟩ := id C0
  have hl : lv_has ls 5 [(0, .ref d0), (1, .int x), (2, .int v), (3, .ref o0)] := hl
  have hw : kW E AA sx (List.flatten [oc d0 6 [.ref (a 0), .ref q1, .ref (e 0), .ref q2, .ref (m 0), .ref q, .ref (t 0)], fc E a (nI h) (nI w) wd s0 z st he ke tu ca tr co la, lc E o0 1 f]) H locs := hw
  refine lv_aload_n hx hb dL_duneOf_0 rfl (lv_at hl 3 rfl) ?_
  refine lv_iconst (v := 0) hx hb dL_duneOf_1 (by decide) ?_
  refine lv_aload_n hx hb dL_duneOf_2 rfl (lv_at hl 0 rfl) ?_
  refine lv_iload_n hx hb dL_duneOf_3 rfl (lv_at hl 1 rfl) ?_
  refine lv_iload_n hx hb dL_duneOf_4 rfl (lv_at hl 2 rfl) ?_
  refine k_VX (As := [.int x, .int v]) (rest := [.int 0, .ref o0]) (pre := []) (mid := [oc d0 6 [.ref (a 0), .ref q1, .ref (e 0), .ref q2, .ref (m 0), .ref q, .ref (t 0)], fc E a (nI h) (nI w) wd s0 z st he ke tu ca tr co la]) C0 (c_X6_duneOf_x1F l hfl E d0 q1 q2 a e m t q h w wd s0 z st he ke tu ca tr co la x v (by first | assumption | omega) (by first | assumption | omega)) (cwV 2 hts gL_duneOf_X6_duneOf rfl rfl rfl (by decide +kernel) ⟨Nat.le_of_ble_eq_true rfl, Nat.le_of_ble_eq_true rfl⟩) hw rfl hZ (fun _ => [oc d0 6 [.ref (a 0), .ref q1, .ref (e 0), .ref q2, .ref (m 0), .ref q, .ref (t 0)], fc E a (nI h) (nI w) wd s0 z st he ke tu ca tr co la]) (fun _ => rfl) 0 6 rfl rfl rfl rfl hl.1 rfl (Nat.le_of_ble_eq_true rfl) dL_duneOf_5 ⟨Nat.le_of_ble_eq_true rfl, Nat.le_of_ble_eq_true rfl⟩ (fun X9 ce9 q9 H locs hx9 hw hc9 hv9 hcl9 => ?_) (fun r u H locs hq99 hw => False.elim hq99)
  have hx9 : X9 = "java/lang/IndexOutOfBoundsException" := hx9
  subst hx9
  refine vx_catch hown [] ⟨0, 10, 13, 19⟩ [⟨0, 10, 17, 13⟩] (hxt.trans rfl) (fun z hz => by cases hz) (by decide) (by decide) (hts (.classLink RL 19 "java/lang/IndexOutOfBoundsException") (by decide +kernel)) (va_Nw.use rfl (hw.2.2.1.2.2.2.1 "java/lang/IndexOutOfBoundsException" (by decide))) hc9 hv9 hcl9 ?_
  refine W.eq (g2 := F0 mm 13 ls [.ref q9]) rfl ?_
  refine lv_astore (lv' := [(4, .ref q9), (0, .ref d0), (1, .int x), (2, .int v), (3, .ref o0)]) hx hb dL_duneOf_13 hl (by decide) rfl (fun ls hl => ?_)
  refine lv_iconst (v := 1) hx hb dL_duneOf_15 (by decide) ?_
  -- leaf 0
  exact k_iret C0 hr hlk hw () (rfl) (rfl) (Nat.le_of_ble_eq_true rfl) (Nat.le_of_ble_eq_true rfl) dL_duneOf_16

set_option maxHeartbeats 4000000 in
set_option maxRecDepth 100000 in
theorem c_L_duneOf_ok (l : Launch) (hfl : l.stackTraces = false) (E : kE) (d0 : Nat) (q1 : Nat) (q2 : Nat) (a : Nat → Nat) (e : Nat → Nat) (m : Nat → Nat) (t : Nat → Nat) (q : Nat) (h : Nat) (w : Nat) (wd : Int32) (s0 : Int32) (z : Int32) (st : Nat → Int32) (he : Nat → Int32) (ke : Nat → Int32) (tu : Nat → Int32) (ca : Nat → Int32) (tr : Nat → Int32) (co : Nat → Int32) (la : Nat → Int32) (dn : Nat → Int32) (sz : Nat → Int32) (sm : Nat → Int32) (qu : Nat → Int32) (f0 : Int32) (k : Nat) (th : Int32) (o0 : Nat) (f : Nat → Int64) (hG : kG h w) (hc : k < h * w) (hv : ¬ th < 1 ∧ ¬ 99 < th) : kH E l yL_duneOf wsL_duneOf rmL_duneOf [.ref d0, .int (nI k), .int th, .ref o0] (List.flatten [oc d0 6 [.ref (a 0), .ref q1, .ref (e 0), .ref q2, .ref (m 0), .ref q, .ref (t 0)], dm E m dn sz sm qu f0, fc E a (nI h) (nI w) wd s0 z st he ke tu ca tr co la, lc E o0 1 f]) kI (fun (r : Int32) (u : fP × fP) => r = 0) (fun (u : fP × fP) => List.flatten [oc d0 6 [.ref (a 0), .ref q1, .ref (e 0), .ref q2, .ref (m 0), .ref q, .ref (t 0)], dm E m u.1.1 u.1.2 u.2.1 u.2.2 (nI (dnL h w he th (h * w)).2), fc E a (nI h) (nI w) wd s0 z st he ke tu ca tr co la, lc E o0 1 (vp_updL f 0 (Int32.toInt64 (nI (doN h w he th k))))]) 1 6 := by
  refine kH_body (cc := cL_duneOf) (maxL := 5) (ret := (some .int)) (hh := [(0, 10, 13, 19), (0, 10, 17, 13)]) (by decide) rfl (Nat.le_of_ble_eq_true rfl) ?_
  intro pp ee sx mm aa bb me cd H locs AA ls C0 hr hlk hxt hZ hl hw
  obtain ⟨hx, hb, hml, hown, hts⟩ := id C0
  have hl : lv_has ls 5 [(0, .ref d0), (1, .int (nI k)), (2, .int th), (3, .ref o0)] := hl
  have hw : kW E AA sx (List.flatten [oc d0 6 [.ref (a 0), .ref q1, .ref (e 0), .ref q2, .ref (m 0), .ref q, .ref (t 0)], dm E m dn sz sm qu f0, fc E a (nI h) (nI w) wd s0 z st he ke tu ca tr co la, lc E o0 1 f]) H locs := hw
  refine lv_aload_n hx hb dL_duneOf_0 rfl (lv_at hl 3 rfl) ?_
  refine lv_iconst (v := 0) hx hb dL_duneOf_1 (by decide) ?_
  refine lv_aload_n hx hb dL_duneOf_2 rfl (lv_at hl 0 rfl) ?_
  refine lv_iload_n hx hb dL_duneOf_3 rfl (lv_at hl 1 rfl) ?_
  refine lv_iload_n hx hb dL_duneOf_4 rfl (lv_at hl 2 rfl) ?_
  refine k_VX (As := [.int (nI k), .int th]) (rest := [.int 0, .ref o0]) (pre := []) (mid := [oc d0 6 [.ref (a 0), .ref q1, .ref (e 0), .ref q2, .ref (m 0), .ref q, .ref (t 0)], dm E m dn sz sm qu f0, fc E a (nI h) (nI w) wd s0 z st he ke tu ca tr co la]) C0 (c_X6_duneOf_ok l hfl E d0 q1 q2 a e m t q h w wd s0 z st he ke tu ca tr co la dn sz sm qu f0 k th (by first | assumption | omega) (by first | assumption | omega) (by first | assumption | omega)) (cwV 2 hts gL_duneOf_X6_duneOf rfl rfl rfl (by decide +kernel) ⟨Nat.le_of_ble_eq_true rfl, Nat.le_of_ble_eq_true rfl⟩) hw rfl hZ (fun (u5 : fP × fP) => [oc d0 6 [.ref (a 0), .ref q1, .ref (e 0), .ref q2, .ref (m 0), .ref q, .ref (t 0)], dm E m u5.1.1 u5.1.2 u5.2.1 u5.2.2 (nI (dnL h w he th (h * w)).2), fc E a (nI h) (nI w) wd s0 z st he ke tu ca tr co la]) (fun _ => rfl) 0 6 rfl rfl rfl rfl hl.1 rfl (Nat.le_of_ble_eq_true rfl) dL_duneOf_5 ⟨Nat.le_of_ble_eq_true rfl, Nat.le_of_ble_eq_true rfl⟩ (fun X9 ce9 q9 H locs hx9 hw hc9 hv9 hcl9 => False.elim hx9) (fun r u5 H locs hq99 hw => ?_)
  obtain ⟨r5, rfl⟩ : ∃ z, z = r := ⟨_, rfl⟩
  have h5 : r5 = nI (doN h w he th k) := hq99
  have hw : kW E AA sx (List.flatten [oc d0 6 [.ref (a 0), .ref q1, .ref (e 0), .ref q2, .ref (m 0), .ref q, .ref (t 0)], dm E m u5.1.1 u5.1.2 u5.2.1 u5.2.2 (nI (dnL h w he th (h * w)).2), fc E a (nI h) (nI w) wd s0 z st he ke tu ca tr co la, lc E o0 1 f]) H locs := hw
  refine W.eq (g2 := F0 mm 8 ls [.int r5, .int 0, .ref o0]) rfl ?_
  refine W.eq (g2 := F0 mm 8 ls [.int (nI (doN h w he th k)), .int 0, .ref o0]) (congrArg (fun z9 => F0 mm 8 ls [.int z9, .int 0, .ref o0]) (show (r5 : Int32) = nI (doN h w he th k) from h5)) ?_
  refine lv_i2l (v := Int32.toInt64 (nI (doN h w he th k))) hx hb dL_duneOf_8 rfl ?_
  refine k_last (pre := [oc d0 6 [.ref (a 0), .ref q1, .ref (e 0), .ref q2, .ref (m 0), .ref q, .ref (t 0)], dm E m u5.1.1 u5.1.2 u5.2.1 u5.2.2 (nI (dnL h w he th (h * w)).2), fc E a (nI h) (nI w) wd s0 z st he ke tu ca tr co la]) C0 hw (i := 0) (kinN (n := 0) (by decide) (by decide)) dL_duneOf_9 (fun H locs hw => ?_)
  have hw : kW E AA sx (List.flatten [oc d0 6 [.ref (a 0), .ref q1, .ref (e 0), .ref q2, .ref (m 0), .ref q, .ref (t 0)], dm E m u5.1.1 u5.1.2 u5.2.1 u5.2.2 (nI (dnL h w he th (h * w)).2), fc E a (nI h) (nI w) wd s0 z st he ke tu ca tr co la, lc E o0 1 (vp_updL f 0 (Int32.toInt64 (nI (doN h w he th k))))]) H locs := hw
  refine lv_goto (tgt := 21) hx hb dL_duneOf_10 (by decide) ?_
  refine lv_iconst (v := 0) hx hb dL_duneOf_21 (by decide) ?_
  -- leaf 0
  exact k_iret C0 hr hlk hw u5 (rfl) (rfl) (Nat.le_of_ble_eq_true rfl) (Nat.le_of_ble_eq_true rfl) dL_duneOf_22

abbrev rmL_dunesAfter : Room := { frames := 7, cells := 1, slots := 6, locals := 144 }
set_option maxHeartbeats 4000000 in
set_option maxRecDepth 100000 in
theorem c_L_dunesAfter_x2 (l : Launch) (hfl : l.stackTraces = false) (E : kE) (d0 : Nat) (q1 : Nat) (q2 : Nat) (a : Nat → Nat) (e : Nat → Nat) (m : Nat → Nat) (t : Nat → Nat) (q : Nat) (m9 : Nat) (v : Int32) (o0 : Nat) (f : Nat → Int64) (hm9 : m9 ≤ 1000) (hv : ¬ (¬ v < 1 ∧ ¬ 99 < v)) : kH E l yL_dunesAfter wsL_dunesAfter rmL_dunesAfter [.ref d0, .int (nI m9), .int v, .ref o0] (List.flatten [oc d0 6 [.ref (a 0), .ref q1, .ref (e 0), .ref q2, .ref (m 0), .ref q, .ref (t 0)], lc E o0 1 f]) kI (fun (r : Int32) (_ : Unit) => r = 1) (fun _ => List.flatten [oc d0 6 [.ref (a 0), .ref q1, .ref (e 0), .ref q2, .ref (m 0), .ref q, .ref (t 0)], lc E o0 1 f]) 1 6 := by
  refine kH_body (cc := cL_dunesAfter) (maxL := 5) (ret := (some .int)) (hh := [(0, 10, 13, 13)]) (by decide) rfl (Nat.le_of_ble_eq_true rfl) ?_
  intro pp ee sx mm aa bb me cd H locs AA ls C0 hr hlk hxt hZ hl hw
  obtain ⟨hx, hb, hml, hown, hts⟩ := id C0
  have hl : lv_has ls 5 [(0, .ref d0), (1, .int (nI m9)), (2, .int v), (3, .ref o0)] := hl
  have hw : kW E AA sx (List.flatten [oc d0 6 [.ref (a 0), .ref q1, .ref (e 0), .ref q2, .ref (m 0), .ref q, .ref (t 0)], lc E o0 1 f]) H locs := hw
  refine lv_aload_n hx hb dL_dunesAfter_0 rfl (lv_at hl 3 rfl) ?_
  refine lv_iconst (v := 0) hx hb dL_dunesAfter_1 (by decide) ?_
  refine lv_aload_n hx hb dL_dunesAfter_2 rfl (lv_at hl 0 rfl) ?_
  refine lv_iload_n hx hb dL_dunesAfter_3 rfl (lv_at hl 1 rfl) ?_
  refine lv_iload_n hx hb dL_dunesAfter_4 rfl (lv_at hl 2 rfl) ?_
  refine k_VX (As := [.int (nI m9), .int v]) (rest := [.int 0, .ref o0]) (pre := []) (mid := [oc d0 6 [.ref (a 0), .ref q1, .ref (e 0), .ref q2, .ref (m 0), .ref q, .ref (t 0)]]) C0 (c_X6_dunesAfter_x2F l hfl E d0 q1 q2 a e m t q m9 v (by first | assumption | omega) (by first | assumption | omega)) (cwV 2 hts gL_dunesAfter_X6_dunesAfter rfl rfl rfl (by decide +kernel) ⟨Nat.le_of_ble_eq_true rfl, Nat.le_of_ble_eq_true rfl⟩) hw rfl hZ (fun _ => [oc d0 6 [.ref (a 0), .ref q1, .ref (e 0), .ref q2, .ref (m 0), .ref q, .ref (t 0)]]) (fun _ => rfl) 0 6 rfl rfl rfl rfl hl.1 rfl (Nat.le_of_ble_eq_true rfl) dL_dunesAfter_5 ⟨Nat.le_of_ble_eq_true rfl, Nat.le_of_ble_eq_true rfl⟩ (fun X9 ce9 q9 H locs hx9 hw hc9 hv9 hcl9 => ?_) (fun r u H locs hq99 hw => False.elim hq99)
  have hx9 : X9 = "java/lang/IllegalArgumentException" := hx9
  subst hx9
  refine vx_catch hown [] ⟨0, 10, 13, 13⟩ [] (hxt.trans rfl) (fun z hz => by cases hz) (by decide) (by decide) (hts (.classLink RL 13 "java/lang/IllegalArgumentException") (by decide +kernel)) (va_Nw.use rfl (hw.2.2.1.2.2.2.1 "java/lang/IllegalArgumentException" (by decide))) hc9 hv9 hcl9 ?_
  refine W.eq (g2 := F0 mm 13 ls [.ref q9]) rfl ?_
  refine lv_astore (lv' := [(4, .ref q9), (0, .ref d0), (1, .int (nI m9)), (2, .int v), (3, .ref o0)]) hx hb dL_dunesAfter_13 hl (by decide) rfl (fun ls hl => ?_)
  refine lv_iconst (v := 1) hx hb dL_dunesAfter_15 (by decide) ?_
  -- leaf 0
  exact k_iret C0 hr hlk hw () (rfl) (rfl) (Nat.le_of_ble_eq_true rfl) (Nat.le_of_ble_eq_true rfl) dL_dunesAfter_16

set_option maxHeartbeats 4000000 in
set_option maxRecDepth 100000 in
theorem c_L_dunesAfter_x1 (l : Launch) (hfl : l.stackTraces = false) (E : kE) (d0 : Nat) (q1 : Nat) (q2 : Nat) (a : Nat → Nat) (e : Nat → Nat) (m : Nat → Nat) (t : Nat → Nat) (q : Nat) (x : Int32) (v : Int32) (o0 : Nat) (f : Nat → Int64) (hv : ¬ (¬ x < 0 ∧ ¬ 1000 < x)) : kH E l yL_dunesAfter wsL_dunesAfter rmL_dunesAfter [.ref d0, .int x, .int v, .ref o0] (List.flatten [oc d0 6 [.ref (a 0), .ref q1, .ref (e 0), .ref q2, .ref (m 0), .ref q, .ref (t 0)], lc E o0 1 f]) kI (fun (r : Int32) (_ : Unit) => r = 1) (fun _ => List.flatten [oc d0 6 [.ref (a 0), .ref q1, .ref (e 0), .ref q2, .ref (m 0), .ref q, .ref (t 0)], lc E o0 1 f]) 1 6 := by
  refine kH_body (cc := cL_dunesAfter) (maxL := 5) (ret := (some .int)) (hh := [(0, 10, 13, 13)]) (by decide) rfl (Nat.le_of_ble_eq_true rfl) ?_
  intro pp ee sx mm aa bb me cd H locs AA ls C0 hr hlk hxt hZ hl hw
  obtain ⟨hx, hb, hml, hown, hts⟩ := id C0
  have hl : lv_has ls 5 [(0, .ref d0), (1, .int x), (2, .int v), (3, .ref o0)] := hl
  have hw : kW E AA sx (List.flatten [oc d0 6 [.ref (a 0), .ref q1, .ref (e 0), .ref q2, .ref (m 0), .ref q, .ref (t 0)], lc E o0 1 f]) H locs := hw
  refine lv_aload_n hx hb dL_dunesAfter_0 rfl (lv_at hl 3 rfl) ?_
  refine lv_iconst (v := 0) hx hb dL_dunesAfter_1 (by decide) ?_
  refine lv_aload_n hx hb dL_dunesAfter_2 rfl (lv_at hl 0 rfl) ?_
  refine lv_iload_n hx hb dL_dunesAfter_3 rfl (lv_at hl 1 rfl) ?_
  refine lv_iload_n hx hb dL_dunesAfter_4 rfl (lv_at hl 2 rfl) ?_
  refine k_VX (As := [.int x, .int v]) (rest := [.int 0, .ref o0]) (pre := []) (mid := [oc d0 6 [.ref (a 0), .ref q1, .ref (e 0), .ref q2, .ref (m 0), .ref q, .ref (t 0)]]) C0 (c_X6_dunesAfter_x1F l hfl E d0 q1 q2 a e m t q x v (by first | assumption | omega)) (cwV 2 hts gL_dunesAfter_X6_dunesAfter rfl rfl rfl (by decide +kernel) ⟨Nat.le_of_ble_eq_true rfl, Nat.le_of_ble_eq_true rfl⟩) hw rfl hZ (fun _ => [oc d0 6 [.ref (a 0), .ref q1, .ref (e 0), .ref q2, .ref (m 0), .ref q, .ref (t 0)]]) (fun _ => rfl) 0 6 rfl rfl rfl rfl hl.1 rfl (Nat.le_of_ble_eq_true rfl) dL_dunesAfter_5 ⟨Nat.le_of_ble_eq_true rfl, Nat.le_of_ble_eq_true rfl⟩ (fun X9 ce9 q9 H locs hx9 hw hc9 hv9 hcl9 => ?_) (fun r u H locs hq99 hw => False.elim hq99)
  have hx9 : X9 = "java/lang/IllegalArgumentException" := hx9
  subst hx9
  refine vx_catch hown [] ⟨0, 10, 13, 13⟩ [] (hxt.trans rfl) (fun z hz => by cases hz) (by decide) (by decide) (hts (.classLink RL 13 "java/lang/IllegalArgumentException") (by decide +kernel)) (va_Nw.use rfl (hw.2.2.1.2.2.2.1 "java/lang/IllegalArgumentException" (by decide))) hc9 hv9 hcl9 ?_
  refine W.eq (g2 := F0 mm 13 ls [.ref q9]) rfl ?_
  refine lv_astore (lv' := [(4, .ref q9), (0, .ref d0), (1, .int x), (2, .int v), (3, .ref o0)]) hx hb dL_dunesAfter_13 hl (by decide) rfl (fun ls hl => ?_)
  refine lv_iconst (v := 1) hx hb dL_dunesAfter_15 (by decide) ?_
  -- leaf 0
  exact k_iret C0 hr hlk hw () (rfl) (rfl) (Nat.le_of_ble_eq_true rfl) (Nat.le_of_ble_eq_true rfl) dL_dunesAfter_16

set_option maxHeartbeats 4000000 in
set_option maxRecDepth 100000 in
theorem c_L_dunesAfter_ok (l : Launch) (hfl : l.stackTraces = false) (E : kE) (d0 : Nat) (q1 : Nat) (q2 : Nat) (a : Nat → Nat) (e : Nat → Nat) (m : Nat → Nat) (t : Nat → Nat) (q : Nat) (h : Nat) (w : Nat) (z : Int32) (st : Nat → Int32) (he : Nat → Int32) (ke : Nat → Int32) (tu : Nat → Int32) (ca : Nat → Int32) (tr : Nat → Int32) (co : Nat → Int32) (la : Nat → Int32) (R1 : Int32) (C1 : Int32) (wd1 : Int32) (s1 : Int32) (z1 : Int32) (st1 : Nat → Int32) (he1 : Nat → Int32) (ke1 : Nat → Int32) (tu1 : Nat → Int32) (ca1 : Nat → Int32) (tr1 : Nat → Int32) (co1 : Nat → Int32) (la1 : Nat → Int32) (dn : Nat → Int32) (sz : Nat → Int32) (sm : Nat → Int32) (qu : Nat → Int32) (f0 : Int32) (d : Nat) (n0 : Nat) (m9 : Nat) (hp : Nat) (th : Int32) (o0 : Nat) (f : Nat → Int64) (hG : kG h w) (hm9 : m9 ≤ 1000) (hd : d < 4) (hn0 : n0 < 2147483648) (hv : ¬ th < 1 ∧ ¬ 99 < th) (hst0 : st 0 = nI hp) (hp8 : hp ≤ 8) : kH E l yL_dunesAfter wsL_dunesAfter rmL_dunesAfter [.ref d0, .int (nI m9), .int th, .ref o0] (List.flatten [oc d0 6 [.ref (a 0), .ref q1, .ref (e 0), .ref q2, .ref (m 0), .ref q, .ref (t 0)], dm E m dn sz sm qu f0, fc E a (nI h) (nI w) (nI d) (nI n0) z st he ke tu ca tr co la, oc q2 5 [.ref (e 0), .ref (e 2)], fc E e R1 C1 wd1 s1 z1 st1 he1 ke1 tu1 ca1 tr1 co1 la1, lc E o0 1 f]) kI (fun (r : Int32) (u : fP × fP) => r = 0) (fun (u : fP × fP) => List.flatten [oc d0 6 [.ref (a 0), .ref q1, .ref (e 0), .ref q2, .ref (m 0), .ref q, .ref (t 0)], dm E m u.1.1 u.1.2 u.2.1 u.2.2 (nI (dnL h w (blo h w d hp st tu ca m9 (n0, he, tr, co, la)).2.2.1 th (h * w)).2), fc E a (nI h) (nI w) (nI d) (nI n0) z st he ke tu ca tr co la, oc q2 5 [.ref (e 0), .ref (e 2)], fc E e (nI h) (nI w) (nI d) (nI (blo h w d hp st tu ca m9 (n0, he, tr, co, la)).2.1) z st ((blo h w d hp st tu ca m9 (n0, he, tr, co, la)).2.2.1) ke tu ca ((blo h w d hp st tu ca m9 (n0, he, tr, co, la)).2.2.2.1) ((blo h w d hp st tu ca m9 (n0, he, tr, co, la)).2.2.2.2.1) ((blo h w d hp st tu ca m9 (n0, he, tr, co, la)).2.2.2.2.2), lc E o0 1 (vp_updL f 0 (Int32.toInt64 (nI (dnN h w (blo h w d hp st tu ca m9 (n0, he, tr, co, la)).2.2.1 th))))]) 1 6 := by
  refine kH_body (cc := cL_dunesAfter) (maxL := 5) (ret := (some .int)) (hh := [(0, 10, 13, 13)]) (by decide) rfl (Nat.le_of_ble_eq_true rfl) ?_
  intro pp ee sx mm aa bb me cd H locs AA ls C0 hr hlk hxt hZ hl hw
  obtain ⟨hx, hb, hml, hown, hts⟩ := id C0
  have hl : lv_has ls 5 [(0, .ref d0), (1, .int (nI m9)), (2, .int th), (3, .ref o0)] := hl
  have hw : kW E AA sx (List.flatten [oc d0 6 [.ref (a 0), .ref q1, .ref (e 0), .ref q2, .ref (m 0), .ref q, .ref (t 0)], dm E m dn sz sm qu f0, fc E a (nI h) (nI w) (nI d) (nI n0) z st he ke tu ca tr co la, oc q2 5 [.ref (e 0), .ref (e 2)], fc E e R1 C1 wd1 s1 z1 st1 he1 ke1 tu1 ca1 tr1 co1 la1, lc E o0 1 f]) H locs := hw
  refine lv_aload_n hx hb dL_dunesAfter_0 rfl (lv_at hl 3 rfl) ?_
  refine lv_iconst (v := 0) hx hb dL_dunesAfter_1 (by decide) ?_
  refine lv_aload_n hx hb dL_dunesAfter_2 rfl (lv_at hl 0 rfl) ?_
  refine lv_iload_n hx hb dL_dunesAfter_3 rfl (lv_at hl 1 rfl) ?_
  refine lv_iload_n hx hb dL_dunesAfter_4 rfl (lv_at hl 2 rfl) ?_
  refine k_VX (As := [.int (nI m9), .int th]) (rest := [.int 0, .ref o0]) (pre := []) (mid := [oc d0 6 [.ref (a 0), .ref q1, .ref (e 0), .ref q2, .ref (m 0), .ref q, .ref (t 0)], dm E m dn sz sm qu f0, fc E a (nI h) (nI w) (nI d) (nI n0) z st he ke tu ca tr co la, oc q2 5 [.ref (e 0), .ref (e 2)], fc E e R1 C1 wd1 s1 z1 st1 he1 ke1 tu1 ca1 tr1 co1 la1]) C0 (c_X6_dunesAfter_ok l hfl E d0 q1 q2 a e m t q h w z st he ke tu ca tr co la R1 C1 wd1 s1 z1 st1 he1 ke1 tu1 ca1 tr1 co1 la1 dn sz sm qu f0 d n0 m9 hp th (by first | assumption | omega) (by first | assumption | omega) (by first | assumption | omega) (by first | assumption | omega) (by first | assumption | omega) (by first | assumption | omega) (by first | assumption | omega)) (cwV 2 hts gL_dunesAfter_X6_dunesAfter rfl rfl rfl (by decide +kernel) ⟨Nat.le_of_ble_eq_true rfl, Nat.le_of_ble_eq_true rfl⟩) hw rfl hZ (fun (u5 : fP × fP) => [oc d0 6 [.ref (a 0), .ref q1, .ref (e 0), .ref q2, .ref (m 0), .ref q, .ref (t 0)], dm E m u5.1.1 u5.1.2 u5.2.1 u5.2.2 (nI (dnL h w (blo h w d hp st tu ca m9 (n0, he, tr, co, la)).2.2.1 th (h * w)).2), fc E a (nI h) (nI w) (nI d) (nI n0) z st he ke tu ca tr co la, oc q2 5 [.ref (e 0), .ref (e 2)], fc E e (nI h) (nI w) (nI d) (nI (blo h w d hp st tu ca m9 (n0, he, tr, co, la)).2.1) z st ((blo h w d hp st tu ca m9 (n0, he, tr, co, la)).2.2.1) ke tu ca ((blo h w d hp st tu ca m9 (n0, he, tr, co, la)).2.2.2.1) ((blo h w d hp st tu ca m9 (n0, he, tr, co, la)).2.2.2.2.1) ((blo h w d hp st tu ca m9 (n0, he, tr, co, la)).2.2.2.2.2)]) (fun _ => rfl) 0 6 rfl rfl rfl rfl hl.1 rfl (Nat.le_of_ble_eq_true rfl) dL_dunesAfter_5 ⟨Nat.le_of_ble_eq_true rfl, Nat.le_of_ble_eq_true rfl⟩ (fun X9 ce9 q9 H locs hx9 hw hc9 hv9 hcl9 => False.elim hx9) (fun r u5 H locs hq99 hw => ?_)
  obtain ⟨r5, rfl⟩ : ∃ z, z = r := ⟨_, rfl⟩
  have h5 : r5 = nI (dnN h w (blo h w d hp st tu ca m9 (n0, he, tr, co, la)).2.2.1 th) := hq99
  have hw : kW E AA sx (List.flatten [oc d0 6 [.ref (a 0), .ref q1, .ref (e 0), .ref q2, .ref (m 0), .ref q, .ref (t 0)], dm E m u5.1.1 u5.1.2 u5.2.1 u5.2.2 (nI (dnL h w (blo h w d hp st tu ca m9 (n0, he, tr, co, la)).2.2.1 th (h * w)).2), fc E a (nI h) (nI w) (nI d) (nI n0) z st he ke tu ca tr co la, oc q2 5 [.ref (e 0), .ref (e 2)], fc E e (nI h) (nI w) (nI d) (nI (blo h w d hp st tu ca m9 (n0, he, tr, co, la)).2.1) z st ((blo h w d hp st tu ca m9 (n0, he, tr, co, la)).2.2.1) ke tu ca ((blo h w d hp st tu ca m9 (n0, he, tr, co, la)).2.2.2.1) ((blo h w d hp st tu ca m9 (n0, he, tr, co, la)).2.2.2.2.1) ((blo h w d hp st tu ca m9 (n0, he, tr, co, la)).2.2.2.2.2), lc E o0 1 f]) H locs := hw
  refine W.eq (g2 := F0 mm 8 ls [.int r5, .int 0, .ref o0]) rfl ?_
  refine W.eq (g2 := F0 mm 8 ls [.int (nI (dnN h w (blo h w d hp st tu ca m9 (n0, he, tr, co, la)).2.2.1 th)), .int 0, .ref o0]) (congrArg (fun z9 => F0 mm 8 ls [.int z9, .int 0, .ref o0]) (show (r5 : Int32) = nI (dnN h w (blo h w d hp st tu ca m9 (n0, he, tr, co, la)).2.2.1 th) from h5)) ?_
  refine lv_i2l (v := Int32.toInt64 (nI (dnN h w (blo h w d hp st tu ca m9 (n0, he, tr, co, la)).2.2.1 th))) hx hb dL_dunesAfter_8 rfl ?_
  refine k_last (pre := [oc d0 6 [.ref (a 0), .ref q1, .ref (e 0), .ref q2, .ref (m 0), .ref q, .ref (t 0)], dm E m u5.1.1 u5.1.2 u5.2.1 u5.2.2 (nI (dnL h w (blo h w d hp st tu ca m9 (n0, he, tr, co, la)).2.2.1 th (h * w)).2), fc E a (nI h) (nI w) (nI d) (nI n0) z st he ke tu ca tr co la, oc q2 5 [.ref (e 0), .ref (e 2)], fc E e (nI h) (nI w) (nI d) (nI (blo h w d hp st tu ca m9 (n0, he, tr, co, la)).2.1) z st ((blo h w d hp st tu ca m9 (n0, he, tr, co, la)).2.2.1) ke tu ca ((blo h w d hp st tu ca m9 (n0, he, tr, co, la)).2.2.2.1) ((blo h w d hp st tu ca m9 (n0, he, tr, co, la)).2.2.2.2.1) ((blo h w d hp st tu ca m9 (n0, he, tr, co, la)).2.2.2.2.2)]) C0 hw (i := 0) (kinN (n := 0) (by decide) (by decide)) dL_dunesAfter_9 (fun H locs hw => ?_)
  have hw : kW E AA sx (List.flatten [oc d0 6 [.ref (a 0), .ref q1, .ref (e 0), .ref q2, .ref (m 0), .ref q, .ref (t 0)], dm E m u5.1.1 u5.1.2 u5.2.1 u5.2.2 (nI (dnL h w (blo h w d hp st tu ca m9 (n0, he, tr, co, la)).2.2.1 th (h * w)).2), fc E a (nI h) (nI w) (nI d) (nI n0) z st he ke tu ca tr co la, oc q2 5 [.ref (e 0), .ref (e 2)], fc E e (nI h) (nI w) (nI d) (nI (blo h w d hp st tu ca m9 (n0, he, tr, co, la)).2.1) z st ((blo h w d hp st tu ca m9 (n0, he, tr, co, la)).2.2.1) ke tu ca ((blo h w d hp st tu ca m9 (n0, he, tr, co, la)).2.2.2.1) ((blo h w d hp st tu ca m9 (n0, he, tr, co, la)).2.2.2.2.1) ((blo h w d hp st tu ca m9 (n0, he, tr, co, la)).2.2.2.2.2), lc E o0 1 (vp_updL f 0 (Int32.toInt64 (nI (dnN h w (blo h w d hp st tu ca m9 (n0, he, tr, co, la)).2.2.1 th))))]) H locs := hw
  refine lv_goto (tgt := 17) hx hb dL_dunesAfter_10 (by decide) ?_
  refine lv_iconst (v := 0) hx hb dL_dunesAfter_17 (by decide) ?_
  -- leaf 0
  exact k_iret C0 hr hlk hw u5 (rfl) (rfl) (Nat.le_of_ble_eq_true rfl) (Nat.le_of_ble_eq_true rfl) dL_dunesAfter_18

abbrev rmL_bestFence : Room := { frames := 7, cells := 1, slots := 6, locals := 172 }
set_option maxHeartbeats 4000000 in
set_option maxRecDepth 100000 in
theorem c_L_bestFence_x2 (l : Launch) (hfl : l.stackTraces = false) (E : kE) (d0 : Nat) (q1 : Nat) (q2 : Nat) (a : Nat → Nat) (e : Nat → Nat) (m : Nat → Nat) (t : Nat → Nat) (q : Nat) (h : Nat) (w : Nat) (wd : Int32) (s0 : Int32) (z : Int32) (st : Nat → Int32) (he : Nat → Int32) (ke : Nat → Int32) (tu : Nat → Int32) (ca : Nat → Int32) (tr : Nat → Int32) (co : Nat → Int32) (la : Nat → Int32) (c0 : Nat) (v : Int32) (o0 : Nat) (f : Nat → Int64) (hG : kG h w) (hc0 : c0 < w) (hv : ¬ (¬ v < 0 ∧ ¬ 500 < v)) : kH E l yL_bestFence wsL_bestFence rmL_bestFence [.ref d0, .int (nI c0), .int v, .ref o0] (List.flatten [oc d0 6 [.ref (a 0), .ref q1, .ref (e 0), .ref q2, .ref (m 0), .ref q, .ref (t 0)], fc E a (nI h) (nI w) wd s0 z st he ke tu ca tr co la, lc E o0 1 f]) kI (fun (r : Int32) (_ : Unit) => r = 2) (fun _ => List.flatten [oc d0 6 [.ref (a 0), .ref q1, .ref (e 0), .ref q2, .ref (m 0), .ref q, .ref (t 0)], fc E a (nI h) (nI w) wd s0 z st he ke tu ca tr co la, lc E o0 1 f]) 1 6 := by
  refine kH_body (cc := cL_bestFence) (maxL := 5) (ret := (some .int)) (hh := [(0, 10, 13, 19), (0, 10, 17, 13)]) (by decide) rfl (Nat.le_of_ble_eq_true rfl) ?_
  intro pp ee sx mm aa bb me cd H locs AA ls C0 hr hlk hxt hZ hl hw
  obtain ⟨hx, hb, hml, hown, hts⟩ := id C0
  have hl : lv_has ls 5 [(0, .ref d0), (1, .int (nI c0)), (2, .int v), (3, .ref o0)] := hl
  have hw : kW E AA sx (List.flatten [oc d0 6 [.ref (a 0), .ref q1, .ref (e 0), .ref q2, .ref (m 0), .ref q, .ref (t 0)], fc E a (nI h) (nI w) wd s0 z st he ke tu ca tr co la, lc E o0 1 f]) H locs := hw
  refine lv_aload_n hx hb dL_bestFence_0 rfl (lv_at hl 3 rfl) ?_
  refine lv_iconst (v := 0) hx hb dL_bestFence_1 (by decide) ?_
  refine lv_aload_n hx hb dL_bestFence_2 rfl (lv_at hl 0 rfl) ?_
  refine lv_iload_n hx hb dL_bestFence_3 rfl (lv_at hl 1 rfl) ?_
  refine lv_iload_n hx hb dL_bestFence_4 rfl (lv_at hl 2 rfl) ?_
  refine k_VX (As := [.int (nI c0), .int v]) (rest := [.int 0, .ref o0]) (pre := []) (mid := [oc d0 6 [.ref (a 0), .ref q1, .ref (e 0), .ref q2, .ref (m 0), .ref q, .ref (t 0)], fc E a (nI h) (nI w) wd s0 z st he ke tu ca tr co la]) C0 (c_X6_bestFence_x2F l hfl E d0 q1 q2 a e m t q h w wd s0 z st he ke tu ca tr co la c0 v (by first | assumption | omega) (by first | assumption | omega) (by first | assumption | omega)) (cwV 2 hts gL_bestFence_X6_bestFence rfl rfl rfl (by decide +kernel) ⟨Nat.le_of_ble_eq_true rfl, Nat.le_of_ble_eq_true rfl⟩) hw rfl hZ (fun _ => [oc d0 6 [.ref (a 0), .ref q1, .ref (e 0), .ref q2, .ref (m 0), .ref q, .ref (t 0)], fc E a (nI h) (nI w) wd s0 z st he ke tu ca tr co la]) (fun _ => rfl) 0 6 rfl rfl rfl rfl hl.1 rfl (Nat.le_of_ble_eq_true rfl) dL_bestFence_5 ⟨Nat.le_of_ble_eq_true rfl, Nat.le_of_ble_eq_true rfl⟩ (fun X9 ce9 q9 H locs hx9 hw hc9 hv9 hcl9 => ?_) (fun r u H locs hq99 hw => False.elim hq99)
  have hx9 : X9 = "java/lang/IllegalArgumentException" := hx9
  subst hx9
  refine vx_catch hown [⟨0, 10, 13, 19⟩] ⟨0, 10, 17, 13⟩ [] (hxt.trans rfl) (fun z hz => by cases List.mem_singleton.mp hz; exact Or.inr ⟨by decide, "java/lang/IndexOutOfBoundsException", hts (.classLink RL 19 "java/lang/IndexOutOfBoundsException") (by decide +kernel), hw.2.2.1.2.2.2.2.2.1 ("java/lang/IllegalArgumentException", "java/lang/IndexOutOfBoundsException") (by decide)⟩) (by decide) (by decide) (hts (.classLink RL 13 "java/lang/IllegalArgumentException") (by decide +kernel)) (va_Nw.use rfl (hw.2.2.1.2.2.2.1 "java/lang/IllegalArgumentException" (by decide))) hc9 hv9 hcl9 ?_
  refine W.eq (g2 := F0 mm 17 ls [.ref q9]) rfl ?_
  refine lv_astore (lv' := [(4, .ref q9), (0, .ref d0), (1, .int (nI c0)), (2, .int v), (3, .ref o0)]) hx hb dL_bestFence_17 hl (by decide) rfl (fun ls hl => ?_)
  refine lv_iconst (v := 2) hx hb dL_bestFence_19 (by decide) ?_
  -- leaf 0
  exact k_iret C0 hr hlk hw () (rfl) (rfl) (Nat.le_of_ble_eq_true rfl) (Nat.le_of_ble_eq_true rfl) dL_bestFence_20

set_option maxHeartbeats 4000000 in
set_option maxRecDepth 100000 in
theorem c_L_bestFence_x1 (l : Launch) (hfl : l.stackTraces = false) (E : kE) (d0 : Nat) (q1 : Nat) (q2 : Nat) (a : Nat → Nat) (e : Nat → Nat) (m : Nat → Nat) (t : Nat → Nat) (q : Nat) (h : Nat) (w : Nat) (wd : Int32) (s0 : Int32) (z : Int32) (st : Nat → Int32) (he : Nat → Int32) (ke : Nat → Int32) (tu : Nat → Int32) (ca : Nat → Int32) (tr : Nat → Int32) (co : Nat → Int32) (la : Nat → Int32) (x : Int32) (v : Int32) (o0 : Nat) (f : Nat → Int64) (hG : kG h w) (hv : ¬ (¬ x < 0 ∧ ¬ nI (w - 1) < x)) : kH E l yL_bestFence wsL_bestFence rmL_bestFence [.ref d0, .int x, .int v, .ref o0] (List.flatten [oc d0 6 [.ref (a 0), .ref q1, .ref (e 0), .ref q2, .ref (m 0), .ref q, .ref (t 0)], fc E a (nI h) (nI w) wd s0 z st he ke tu ca tr co la, lc E o0 1 f]) kI (fun (r : Int32) (_ : Unit) => r = 1) (fun _ => List.flatten [oc d0 6 [.ref (a 0), .ref q1, .ref (e 0), .ref q2, .ref (m 0), .ref q, .ref (t 0)], fc E a (nI h) (nI w) wd s0 z st he ke tu ca tr co la, lc E o0 1 f]) 1 6 := by
  refine kH_body (cc := cL_bestFence) (maxL := 5) (ret := (some .int)) (hh := [(0, 10, 13, 19), (0, 10, 17, 13)]) (by decide) rfl (Nat.le_of_ble_eq_true rfl) ?_
  intro pp ee sx mm aa bb me cd H locs AA ls C0 hr hlk hxt hZ hl hw
  obtain ⟨hx, hb, hml, hown, hts⟩ := id C0
  have hl : lv_has ls 5 [(0, .ref d0), (1, .int x), (2, .int v), (3, .ref o0)] := hl
  have hw : kW E AA sx (List.flatten [oc d0 6 [.ref (a 0), .ref q1, .ref (e 0), .ref q2, .ref (m 0), .ref q, .ref (t 0)], fc E a (nI h) (nI w) wd s0 z st he ke tu ca tr co la, lc E o0 1 f]) H locs := hw
  refine lv_aload_n hx hb dL_bestFence_0 rfl (lv_at hl 3 rfl) ?_
  refine lv_iconst (v := 0) hx hb dL_bestFence_1 (by decide) ?_
  refine lv_aload_n hx hb dL_bestFence_2 rfl (lv_at hl 0 rfl) ?_
  refine lv_iload_n hx hb dL_bestFence_3 rfl (lv_at hl 1 rfl) ?_
  refine lv_iload_n hx hb dL_bestFence_4 rfl (lv_at hl 2 rfl) ?_
  refine k_VX (As := [.int x, .int v]) (rest := [.int 0, .ref o0]) (pre := []) (mid := [oc d0 6 [.ref (a 0), .ref q1, .ref (e 0), .ref q2, .ref (m 0), .ref q, .ref (t 0)], fc E a (nI h) (nI w) wd s0 z st he ke tu ca tr co la]) C0 (c_X6_bestFence_x1F l hfl E d0 q1 q2 a e m t q h w wd s0 z st he ke tu ca tr co la x v (by first | assumption | omega) (by first | assumption | omega)) (cwV 2 hts gL_bestFence_X6_bestFence rfl rfl rfl (by decide +kernel) ⟨Nat.le_of_ble_eq_true rfl, Nat.le_of_ble_eq_true rfl⟩) hw rfl hZ (fun _ => [oc d0 6 [.ref (a 0), .ref q1, .ref (e 0), .ref q2, .ref (m 0), .ref q, .ref (t 0)], fc E a (nI h) (nI w) wd s0 z st he ke tu ca tr co la]) (fun _ => rfl) 0 6 rfl rfl rfl rfl hl.1 rfl (Nat.le_of_ble_eq_true rfl) dL_bestFence_5 ⟨Nat.le_of_ble_eq_true rfl, Nat.le_of_ble_eq_true rfl⟩ (fun X9 ce9 q9 H locs hx9 hw hc9 hv9 hcl9 => ?_) (fun r u H locs hq99 hw => False.elim hq99)
  have hx9 : X9 = "java/lang/IndexOutOfBoundsException" := hx9
  subst hx9
  refine vx_catch hown [] ⟨0, 10, 13, 19⟩ [⟨0, 10, 17, 13⟩] (hxt.trans rfl) (fun z hz => by cases hz) (by decide) (by decide) (hts (.classLink RL 19 "java/lang/IndexOutOfBoundsException") (by decide +kernel)) (va_Nw.use rfl (hw.2.2.1.2.2.2.1 "java/lang/IndexOutOfBoundsException" (by decide))) hc9 hv9 hcl9 ?_
  refine W.eq (g2 := F0 mm 13 ls [.ref q9]) rfl ?_
  refine lv_astore (lv' := [(4, .ref q9), (0, .ref d0), (1, .int x), (2, .int v), (3, .ref o0)]) hx hb dL_bestFence_13 hl (by decide) rfl (fun ls hl => ?_)
  refine lv_iconst (v := 1) hx hb dL_bestFence_15 (by decide) ?_
  -- leaf 0
  exact k_iret C0 hr hlk hw () (rfl) (rfl) (Nat.le_of_ble_eq_true rfl) (Nat.le_of_ble_eq_true rfl) dL_bestFence_16

set_option maxHeartbeats 4000000 in
set_option maxRecDepth 100000 in
theorem c_L_bestFence_ok (l : Launch) (hfl : l.stackTraces = false) (E : kE) (d0 : Nat) (q1 : Nat) (q2 : Nat) (a : Nat → Nat) (e : Nat → Nat) (m : Nat → Nat) (t : Nat → Nat) (q : Nat) (h : Nat) (w : Nat) (z : Int32) (st : Nat → Int32) (he : Nat → Int32) (ke : Nat → Int32) (tu : Nat → Int32) (ca : Nat → Int32) (tr : Nat → Int32) (co : Nat → Int32) (la : Nat → Int32) (R1 : Int32) (C1 : Int32) (wd1 : Int32) (s1 : Int32) (z1 : Int32) (st1 : Nat → Int32) (he1 : Nat → Int32) (ke1 : Nat → Int32) (tu1 : Nat → Int32) (ca1 : Nat → Int32) (tr1 : Nat → Int32) (co1 : Nat → Int32) (la1 : Nat → Int32) (d : Nat) (n0 : Nat) (m9 : Nat) (hp : Nat) (c0 : Nat) (o0 : Nat) (f : Nat → Int64) (hG : kG h w) (hc0 : c0 < w) (hm9 : m9 ≤ 500) (hd : d < 4) (hn0 : n0 < 2147483648) (hst0 : st 0 = nI hp) (hp8 : hp ≤ 8) : kH E l yL_bestFence wsL_bestFence rmL_bestFence [.ref d0, .int (nI c0), .int (nI m9), .ref o0] (List.flatten [oc d0 6 [.ref (a 0), .ref q1, .ref (e 0), .ref q2, .ref (m 0), .ref q, .ref (t 0)], fc E a (nI h) (nI w) (nI d) (nI n0) z st he ke tu ca tr co la, oc q2 5 [.ref (e 0), .ref (e 2)], fc E e R1 C1 wd1 s1 z1 st1 he1 ke1 tu1 ca1 tr1 co1 la1, lc E o0 1 f]) kI (fun (r : Int32) (u : cT) => r = 0) (fun (u : cT) => List.flatten [oc d0 6 [.ref (a 0), .ref q1, .ref (e 0), .ref q2, .ref (m 0), .ref q, .ref (t 0)], fc E a (nI h) (nI w) (nI d) (nI n0) z st he ke tu ca tr co la, oc q2 5 [.ref (e 0), .ref (e 2)], fc E e u.1 u.2.1 u.2.2.1 u.2.2.2.1 u.2.2.2.2.1 u.2.2.2.2.2.1 u.2.2.2.2.2.2.1 u.2.2.2.2.2.2.2.1 u.2.2.2.2.2.2.2.2.1 u.2.2.2.2.2.2.2.2.2.1 u.2.2.2.2.2.2.2.2.2.2.1 u.2.2.2.2.2.2.2.2.2.2.2.1 u.2.2.2.2.2.2.2.2.2.2.2.2, lc E o0 1 (vp_updL f 0 (Int32.toInt64 ((bfS (bfG h w d hp st tu ca m9 n0 he tr co la c0) h).1)))]) 1 6 := by
  refine kH_body (cc := cL_bestFence) (maxL := 5) (ret := (some .int)) (hh := [(0, 10, 13, 19), (0, 10, 17, 13)]) (by decide) rfl (Nat.le_of_ble_eq_true rfl) ?_
  intro pp ee sx mm aa bb me cd H locs AA ls C0 hr hlk hxt hZ hl hw
  obtain ⟨hx, hb, hml, hown, hts⟩ := id C0
  have hl : lv_has ls 5 [(0, .ref d0), (1, .int (nI c0)), (2, .int (nI m9)), (3, .ref o0)] := hl
  have hw : kW E AA sx (List.flatten [oc d0 6 [.ref (a 0), .ref q1, .ref (e 0), .ref q2, .ref (m 0), .ref q, .ref (t 0)], fc E a (nI h) (nI w) (nI d) (nI n0) z st he ke tu ca tr co la, oc q2 5 [.ref (e 0), .ref (e 2)], fc E e R1 C1 wd1 s1 z1 st1 he1 ke1 tu1 ca1 tr1 co1 la1, lc E o0 1 f]) H locs := hw
  refine lv_aload_n hx hb dL_bestFence_0 rfl (lv_at hl 3 rfl) ?_
  refine lv_iconst (v := 0) hx hb dL_bestFence_1 (by decide) ?_
  refine lv_aload_n hx hb dL_bestFence_2 rfl (lv_at hl 0 rfl) ?_
  refine lv_iload_n hx hb dL_bestFence_3 rfl (lv_at hl 1 rfl) ?_
  refine lv_iload_n hx hb dL_bestFence_4 rfl (lv_at hl 2 rfl) ?_
  refine k_VX (As := [.int (nI c0), .int (nI m9)]) (rest := [.int 0, .ref o0]) (pre := []) (mid := [oc d0 6 [.ref (a 0), .ref q1, .ref (e 0), .ref q2, .ref (m 0), .ref q, .ref (t 0)], fc E a (nI h) (nI w) (nI d) (nI n0) z st he ke tu ca tr co la, oc q2 5 [.ref (e 0), .ref (e 2)], fc E e R1 C1 wd1 s1 z1 st1 he1 ke1 tu1 ca1 tr1 co1 la1]) C0 (c_X6_bestFence_ok l hfl E d0 q1 q2 a e m t q h w z st he ke tu ca tr co la R1 C1 wd1 s1 z1 st1 he1 ke1 tu1 ca1 tr1 co1 la1 d n0 m9 hp c0 (by first | assumption | omega) (by first | assumption | omega) (by first | assumption | omega) (by first | assumption | omega) (by first | assumption | omega) (by first | assumption | omega) (by first | assumption | omega)) (cwV 2 hts gL_bestFence_X6_bestFence rfl rfl rfl (by decide +kernel) ⟨Nat.le_of_ble_eq_true rfl, Nat.le_of_ble_eq_true rfl⟩) hw rfl hZ (fun (u5 : cT) => [oc d0 6 [.ref (a 0), .ref q1, .ref (e 0), .ref q2, .ref (m 0), .ref q, .ref (t 0)], fc E a (nI h) (nI w) (nI d) (nI n0) z st he ke tu ca tr co la, oc q2 5 [.ref (e 0), .ref (e 2)], fc E e u5.1 u5.2.1 u5.2.2.1 u5.2.2.2.1 u5.2.2.2.2.1 u5.2.2.2.2.2.1 u5.2.2.2.2.2.2.1 u5.2.2.2.2.2.2.2.1 u5.2.2.2.2.2.2.2.2.1 u5.2.2.2.2.2.2.2.2.2.1 u5.2.2.2.2.2.2.2.2.2.2.1 u5.2.2.2.2.2.2.2.2.2.2.2.1 u5.2.2.2.2.2.2.2.2.2.2.2.2]) (fun _ => rfl) 0 6 rfl rfl rfl rfl hl.1 rfl (Nat.le_of_ble_eq_true rfl) dL_bestFence_5 ⟨Nat.le_of_ble_eq_true rfl, Nat.le_of_ble_eq_true rfl⟩ (fun X9 ce9 q9 H locs hx9 hw hc9 hv9 hcl9 => False.elim hx9) (fun r u5 H locs hq99 hw => ?_)
  obtain ⟨r5, rfl⟩ : ∃ z, z = r := ⟨_, rfl⟩
  have h5 : r5 = (bfS (bfG h w d hp st tu ca m9 n0 he tr co la c0) h).1 := hq99
  have hw : kW E AA sx (List.flatten [oc d0 6 [.ref (a 0), .ref q1, .ref (e 0), .ref q2, .ref (m 0), .ref q, .ref (t 0)], fc E a (nI h) (nI w) (nI d) (nI n0) z st he ke tu ca tr co la, oc q2 5 [.ref (e 0), .ref (e 2)], fc E e u5.1 u5.2.1 u5.2.2.1 u5.2.2.2.1 u5.2.2.2.2.1 u5.2.2.2.2.2.1 u5.2.2.2.2.2.2.1 u5.2.2.2.2.2.2.2.1 u5.2.2.2.2.2.2.2.2.1 u5.2.2.2.2.2.2.2.2.2.1 u5.2.2.2.2.2.2.2.2.2.2.1 u5.2.2.2.2.2.2.2.2.2.2.2.1 u5.2.2.2.2.2.2.2.2.2.2.2.2, lc E o0 1 f]) H locs := hw
  refine W.eq (g2 := F0 mm 8 ls [.int r5, .int 0, .ref o0]) rfl ?_
  refine W.eq (g2 := F0 mm 8 ls [.int ((bfS (bfG h w d hp st tu ca m9 n0 he tr co la c0) h).1), .int 0, .ref o0]) (congrArg (fun z9 => F0 mm 8 ls [.int z9, .int 0, .ref o0]) (show (r5 : Int32) = (bfS (bfG h w d hp st tu ca m9 n0 he tr co la c0) h).1 from h5)) ?_
  refine lv_i2l (v := Int32.toInt64 ((bfS (bfG h w d hp st tu ca m9 n0 he tr co la c0) h).1)) hx hb dL_bestFence_8 rfl ?_
  refine k_last (pre := [oc d0 6 [.ref (a 0), .ref q1, .ref (e 0), .ref q2, .ref (m 0), .ref q, .ref (t 0)], fc E a (nI h) (nI w) (nI d) (nI n0) z st he ke tu ca tr co la, oc q2 5 [.ref (e 0), .ref (e 2)], fc E e u5.1 u5.2.1 u5.2.2.1 u5.2.2.2.1 u5.2.2.2.2.1 u5.2.2.2.2.2.1 u5.2.2.2.2.2.2.1 u5.2.2.2.2.2.2.2.1 u5.2.2.2.2.2.2.2.2.1 u5.2.2.2.2.2.2.2.2.2.1 u5.2.2.2.2.2.2.2.2.2.2.1 u5.2.2.2.2.2.2.2.2.2.2.2.1 u5.2.2.2.2.2.2.2.2.2.2.2.2]) C0 hw (i := 0) (kinN (n := 0) (by decide) (by decide)) dL_bestFence_9 (fun H locs hw => ?_)
  have hw : kW E AA sx (List.flatten [oc d0 6 [.ref (a 0), .ref q1, .ref (e 0), .ref q2, .ref (m 0), .ref q, .ref (t 0)], fc E a (nI h) (nI w) (nI d) (nI n0) z st he ke tu ca tr co la, oc q2 5 [.ref (e 0), .ref (e 2)], fc E e u5.1 u5.2.1 u5.2.2.1 u5.2.2.2.1 u5.2.2.2.2.1 u5.2.2.2.2.2.1 u5.2.2.2.2.2.2.1 u5.2.2.2.2.2.2.2.1 u5.2.2.2.2.2.2.2.2.1 u5.2.2.2.2.2.2.2.2.2.1 u5.2.2.2.2.2.2.2.2.2.2.1 u5.2.2.2.2.2.2.2.2.2.2.2.1 u5.2.2.2.2.2.2.2.2.2.2.2.2, lc E o0 1 (vp_updL f 0 (Int32.toInt64 ((bfS (bfG h w d hp st tu ca m9 n0 he tr co la c0) h).1)))]) H locs := hw
  refine lv_goto (tgt := 21) hx hb dL_bestFence_10 (by decide) ?_
  refine lv_iconst (v := 0) hx hb dL_bestFence_21 (by decide) ?_
  -- leaf 0
  exact k_iret C0 hr hlk hw u5 (rfl) (rfl) (Nat.le_of_ble_eq_true rfl) (Nat.le_of_ble_eq_true rfl) dL_bestFence_22

abbrev rmL_liveliestWind : Room := { frames := 7, cells := 1, slots := 6, locals := 147 }
set_option maxHeartbeats 4000000 in
set_option maxRecDepth 100000 in
theorem c_L_liveliestWind_x1 (l : Launch) (hfl : l.stackTraces = false) (E : kE) (d0 : Nat) (q1 : Nat) (q2 : Nat) (a : Nat → Nat) (e : Nat → Nat) (m : Nat → Nat) (t : Nat → Nat) (q : Nat) (x : Int32) (o0 : Nat) (f : Nat → Int64) (hv : ¬ (¬ x < 0 ∧ ¬ 500 < x)) : kH E l yL_liveliestWind wsL_liveliestWind rmL_liveliestWind [.ref d0, .int x, .ref o0] (List.flatten [oc d0 6 [.ref (a 0), .ref q1, .ref (e 0), .ref q2, .ref (m 0), .ref q, .ref (t 0)], lc E o0 1 f]) kI (fun (r : Int32) (_ : Unit) => r = 1) (fun _ => List.flatten [oc d0 6 [.ref (a 0), .ref q1, .ref (e 0), .ref q2, .ref (m 0), .ref q, .ref (t 0)], lc E o0 1 f]) 1 6 := by
  refine kH_body (cc := cL_liveliestWind) (maxL := 4) (ret := (some .int)) (hh := [(0, 9, 12, 13)]) (by decide) rfl (Nat.le_of_ble_eq_true rfl) ?_
  intro pp ee sx mm aa bb me cd H locs AA ls C0 hr hlk hxt hZ hl hw
  obtain ⟨hx, hb, hml, hown, hts⟩ := id C0
  have hl : lv_has ls 4 [(0, .ref d0), (1, .int x), (2, .ref o0)] := hl
  have hw : kW E AA sx (List.flatten [oc d0 6 [.ref (a 0), .ref q1, .ref (e 0), .ref q2, .ref (m 0), .ref q, .ref (t 0)], lc E o0 1 f]) H locs := hw
  refine lv_aload_n hx hb dL_liveliestWind_0 rfl (lv_at hl 2 rfl) ?_
  refine lv_iconst (v := 0) hx hb dL_liveliestWind_1 (by decide) ?_
  refine lv_aload_n hx hb dL_liveliestWind_2 rfl (lv_at hl 0 rfl) ?_
  refine lv_iload_n hx hb dL_liveliestWind_3 rfl (lv_at hl 1 rfl) ?_
  refine k_VX (As := [.int x]) (rest := [.int 0, .ref o0]) (pre := []) (mid := [oc d0 6 [.ref (a 0), .ref q1, .ref (e 0), .ref q2, .ref (m 0), .ref q, .ref (t 0)]]) C0 (c_X6_liveliestWind_x1F l hfl E d0 q1 q2 a e m t q x (by first | assumption | omega)) (cwV 1 hts gL_liveliestWind_X6_liveliestWind rfl rfl rfl (by decide +kernel) ⟨Nat.le_of_ble_eq_true rfl, Nat.le_of_ble_eq_true rfl⟩) hw rfl hZ (fun _ => [oc d0 6 [.ref (a 0), .ref q1, .ref (e 0), .ref q2, .ref (m 0), .ref q, .ref (t 0)]]) (fun _ => rfl) 0 6 rfl rfl rfl rfl hl.1 rfl (Nat.le_of_ble_eq_true rfl) dL_liveliestWind_4 ⟨Nat.le_of_ble_eq_true rfl, Nat.le_of_ble_eq_true rfl⟩ (fun X9 ce9 q9 H locs hx9 hw hc9 hv9 hcl9 => ?_) (fun r u H locs hq99 hw => False.elim hq99)
  have hx9 : X9 = "java/lang/IllegalArgumentException" := hx9
  subst hx9
  refine vx_catch hown [] ⟨0, 9, 12, 13⟩ [] (hxt.trans rfl) (fun z hz => by cases hz) (by decide) (by decide) (hts (.classLink RL 13 "java/lang/IllegalArgumentException") (by decide +kernel)) (va_Nw.use rfl (hw.2.2.1.2.2.2.1 "java/lang/IllegalArgumentException" (by decide))) hc9 hv9 hcl9 ?_
  refine W.eq (g2 := F0 mm 12 ls [.ref q9]) rfl ?_
  refine lv_astore_n (lv' := [(3, .ref q9), (0, .ref d0), (1, .int x), (2, .ref o0)]) hx hb dL_liveliestWind_12 rfl hl (by decide) rfl (fun ls hl => ?_)
  refine lv_iconst (v := 1) hx hb dL_liveliestWind_13 (by decide) ?_
  -- leaf 0
  exact k_iret C0 hr hlk hw () (rfl) (rfl) (Nat.le_of_ble_eq_true rfl) (Nat.le_of_ble_eq_true rfl) dL_liveliestWind_14

set_option maxHeartbeats 4000000 in
set_option maxRecDepth 100000 in
theorem c_L_liveliestWind_ok (l : Launch) (hfl : l.stackTraces = false) (E : kE) (d0 : Nat) (q1 : Nat) (q2 : Nat) (a : Nat → Nat) (e : Nat → Nat) (m : Nat → Nat) (t : Nat → Nat) (q : Nat) (h : Nat) (w : Nat) (wd : Int32) (z : Int32) (st : Nat → Int32) (he : Nat → Int32) (ke : Nat → Int32) (tu : Nat → Int32) (ca : Nat → Int32) (tr : Nat → Int32) (co : Nat → Int32) (la : Nat → Int32) (R1 : Int32) (C1 : Int32) (wd1 : Int32) (s1 : Int32) (z1 : Int32) (st1 : Nat → Int32) (he1 : Nat → Int32) (ke1 : Nat → Int32) (tu1 : Nat → Int32) (ca1 : Nat → Int32) (tr1 : Nat → Int32) (co1 : Nat → Int32) (la1 : Nat → Int32) (n0 : Nat) (m9 : Nat) (hp : Nat) (o0 : Nat) (f : Nat → Int64) (hG : kG h w) (hm9 : m9 ≤ 500) (hn0 : n0 < 2147483648) (hst0 : st 0 = nI hp) (hp8 : hp ≤ 8) : kH E l yL_liveliestWind wsL_liveliestWind rmL_liveliestWind [.ref d0, .int (nI m9), .ref o0] (List.flatten [oc d0 6 [.ref (a 0), .ref q1, .ref (e 0), .ref q2, .ref (m 0), .ref q, .ref (t 0)], fc E a (nI h) (nI w) wd (nI n0) z st he ke tu ca tr co la, oc q2 5 [.ref (e 0), .ref (e 2)], fc E e R1 C1 wd1 s1 z1 st1 he1 ke1 tu1 ca1 tr1 co1 la1, lc E o0 1 f]) kI (fun (r : Int32) (u : cT) => r = 0) (fun (u : cT) => List.flatten [oc d0 6 [.ref (a 0), .ref q1, .ref (e 0), .ref q2, .ref (m 0), .ref q, .ref (t 0)], fc E a (nI h) (nI w) wd (nI n0) z st he ke tu ca tr co la, oc q2 5 [.ref (e 0), .ref (e 2)], fc E e u.1 u.2.1 u.2.2.1 u.2.2.2.1 u.2.2.2.2.1 u.2.2.2.2.2.1 u.2.2.2.2.2.2.1 u.2.2.2.2.2.2.2.1 u.2.2.2.2.2.2.2.2.1 u.2.2.2.2.2.2.2.2.2.1 u.2.2.2.2.2.2.2.2.2.2.1 u.2.2.2.2.2.2.2.2.2.2.2.1 u.2.2.2.2.2.2.2.2.2.2.2.2, lc E o0 1 (vp_updL f 0 (Int32.toInt64 ((bfS (lwG h w hp st tu ca m9 n0 he tr co la) 4).1)))]) 1 6 := by
  refine kH_body (cc := cL_liveliestWind) (maxL := 4) (ret := (some .int)) (hh := [(0, 9, 12, 13)]) (by decide) rfl (Nat.le_of_ble_eq_true rfl) ?_
  intro pp ee sx mm aa bb me cd H locs AA ls C0 hr hlk hxt hZ hl hw
  obtain ⟨hx, hb, hml, hown, hts⟩ := id C0
  have hl : lv_has ls 4 [(0, .ref d0), (1, .int (nI m9)), (2, .ref o0)] := hl
  have hw : kW E AA sx (List.flatten [oc d0 6 [.ref (a 0), .ref q1, .ref (e 0), .ref q2, .ref (m 0), .ref q, .ref (t 0)], fc E a (nI h) (nI w) wd (nI n0) z st he ke tu ca tr co la, oc q2 5 [.ref (e 0), .ref (e 2)], fc E e R1 C1 wd1 s1 z1 st1 he1 ke1 tu1 ca1 tr1 co1 la1, lc E o0 1 f]) H locs := hw
  refine lv_aload_n hx hb dL_liveliestWind_0 rfl (lv_at hl 2 rfl) ?_
  refine lv_iconst (v := 0) hx hb dL_liveliestWind_1 (by decide) ?_
  refine lv_aload_n hx hb dL_liveliestWind_2 rfl (lv_at hl 0 rfl) ?_
  refine lv_iload_n hx hb dL_liveliestWind_3 rfl (lv_at hl 1 rfl) ?_
  refine k_VX (As := [.int (nI m9)]) (rest := [.int 0, .ref o0]) (pre := []) (mid := [oc d0 6 [.ref (a 0), .ref q1, .ref (e 0), .ref q2, .ref (m 0), .ref q, .ref (t 0)], fc E a (nI h) (nI w) wd (nI n0) z st he ke tu ca tr co la, oc q2 5 [.ref (e 0), .ref (e 2)], fc E e R1 C1 wd1 s1 z1 st1 he1 ke1 tu1 ca1 tr1 co1 la1]) C0 (c_X6_liveliestWind_ok l hfl E d0 q1 q2 a e m t q h w wd z st he ke tu ca tr co la R1 C1 wd1 s1 z1 st1 he1 ke1 tu1 ca1 tr1 co1 la1 n0 m9 hp (by first | assumption | omega) (by first | assumption | omega) (by first | assumption | omega) (by first | assumption | omega) (by first | assumption | omega)) (cwV 1 hts gL_liveliestWind_X6_liveliestWind rfl rfl rfl (by decide +kernel) ⟨Nat.le_of_ble_eq_true rfl, Nat.le_of_ble_eq_true rfl⟩) hw rfl hZ (fun (u4 : cT) => [oc d0 6 [.ref (a 0), .ref q1, .ref (e 0), .ref q2, .ref (m 0), .ref q, .ref (t 0)], fc E a (nI h) (nI w) wd (nI n0) z st he ke tu ca tr co la, oc q2 5 [.ref (e 0), .ref (e 2)], fc E e u4.1 u4.2.1 u4.2.2.1 u4.2.2.2.1 u4.2.2.2.2.1 u4.2.2.2.2.2.1 u4.2.2.2.2.2.2.1 u4.2.2.2.2.2.2.2.1 u4.2.2.2.2.2.2.2.2.1 u4.2.2.2.2.2.2.2.2.2.1 u4.2.2.2.2.2.2.2.2.2.2.1 u4.2.2.2.2.2.2.2.2.2.2.2.1 u4.2.2.2.2.2.2.2.2.2.2.2.2]) (fun _ => rfl) 0 6 rfl rfl rfl rfl hl.1 rfl (Nat.le_of_ble_eq_true rfl) dL_liveliestWind_4 ⟨Nat.le_of_ble_eq_true rfl, Nat.le_of_ble_eq_true rfl⟩ (fun X9 ce9 q9 H locs hx9 hw hc9 hv9 hcl9 => False.elim hx9) (fun r u4 H locs hq99 hw => ?_)
  obtain ⟨r4, rfl⟩ : ∃ z, z = r := ⟨_, rfl⟩
  have h4 : r4 = (bfS (lwG h w hp st tu ca m9 n0 he tr co la) 4).1 := hq99
  have hw : kW E AA sx (List.flatten [oc d0 6 [.ref (a 0), .ref q1, .ref (e 0), .ref q2, .ref (m 0), .ref q, .ref (t 0)], fc E a (nI h) (nI w) wd (nI n0) z st he ke tu ca tr co la, oc q2 5 [.ref (e 0), .ref (e 2)], fc E e u4.1 u4.2.1 u4.2.2.1 u4.2.2.2.1 u4.2.2.2.2.1 u4.2.2.2.2.2.1 u4.2.2.2.2.2.2.1 u4.2.2.2.2.2.2.2.1 u4.2.2.2.2.2.2.2.2.1 u4.2.2.2.2.2.2.2.2.2.1 u4.2.2.2.2.2.2.2.2.2.2.1 u4.2.2.2.2.2.2.2.2.2.2.2.1 u4.2.2.2.2.2.2.2.2.2.2.2.2, lc E o0 1 f]) H locs := hw
  refine W.eq (g2 := F0 mm 7 ls [.int r4, .int 0, .ref o0]) rfl ?_
  refine W.eq (g2 := F0 mm 7 ls [.int ((bfS (lwG h w hp st tu ca m9 n0 he tr co la) 4).1), .int 0, .ref o0]) (congrArg (fun z9 => F0 mm 7 ls [.int z9, .int 0, .ref o0]) (show (r4 : Int32) = (bfS (lwG h w hp st tu ca m9 n0 he tr co la) 4).1 from h4)) ?_
  refine lv_i2l (v := Int32.toInt64 ((bfS (lwG h w hp st tu ca m9 n0 he tr co la) 4).1)) hx hb dL_liveliestWind_7 rfl ?_
  refine k_last (pre := [oc d0 6 [.ref (a 0), .ref q1, .ref (e 0), .ref q2, .ref (m 0), .ref q, .ref (t 0)], fc E a (nI h) (nI w) wd (nI n0) z st he ke tu ca tr co la, oc q2 5 [.ref (e 0), .ref (e 2)], fc E e u4.1 u4.2.1 u4.2.2.1 u4.2.2.2.1 u4.2.2.2.2.1 u4.2.2.2.2.2.1 u4.2.2.2.2.2.2.1 u4.2.2.2.2.2.2.2.1 u4.2.2.2.2.2.2.2.2.1 u4.2.2.2.2.2.2.2.2.2.1 u4.2.2.2.2.2.2.2.2.2.2.1 u4.2.2.2.2.2.2.2.2.2.2.2.1 u4.2.2.2.2.2.2.2.2.2.2.2.2]) C0 hw (i := 0) (kinN (n := 0) (by decide) (by decide)) dL_liveliestWind_8 (fun H locs hw => ?_)
  have hw : kW E AA sx (List.flatten [oc d0 6 [.ref (a 0), .ref q1, .ref (e 0), .ref q2, .ref (m 0), .ref q, .ref (t 0)], fc E a (nI h) (nI w) wd (nI n0) z st he ke tu ca tr co la, oc q2 5 [.ref (e 0), .ref (e 2)], fc E e u4.1 u4.2.1 u4.2.2.1 u4.2.2.2.1 u4.2.2.2.2.1 u4.2.2.2.2.2.1 u4.2.2.2.2.2.2.1 u4.2.2.2.2.2.2.2.1 u4.2.2.2.2.2.2.2.2.1 u4.2.2.2.2.2.2.2.2.2.1 u4.2.2.2.2.2.2.2.2.2.2.1 u4.2.2.2.2.2.2.2.2.2.2.2.1 u4.2.2.2.2.2.2.2.2.2.2.2.2, lc E o0 1 (vp_updL f 0 (Int32.toInt64 ((bfS (lwG h w hp st tu ca m9 n0 he tr co la) 4).1)))]) H locs := hw
  refine lv_goto (tgt := 15) hx hb dL_liveliestWind_9 (by decide) ?_
  refine lv_iconst (v := 0) hx hb dL_liveliestWind_15 (by decide) ?_
  -- leaf 0
  exact k_iret C0 hr hlk hw u4 (rfl) (rfl) (Nat.le_of_ble_eq_true rfl) (Nat.le_of_ble_eq_true rfl) dL_liveliestWind_16

abbrev rmL_append : Room := { frames := 7, cells := 1, slots := 6, locals := 131 }
set_option maxHeartbeats 4000000 in
set_option maxRecDepth 100000 in
theorem c_L_append_x2 (l : Launch) (hfl : l.stackTraces = false) (E : kE) (d0 : Nat) (q1 : Nat) (q2 : Nat) (a : Nat → Nat) (e : Nat → Nat) (m : Nat → Nat) (t : Nat → Nat) (q : Nat) (by0 : Nat → Int32) (m9 : Nat) (r9 : Nat) (c9 : Nat) (v : Int32) (o0 : Nat) (f : Nat → Int64) (hv : ¬ v < 0 ∧ ¬ 127 < v) (hm9 : m9 = 220) : kH E l yL_append wsL_append rmL_append [.ref d0, .int v, .ref o0] (List.flatten [oc d0 6 [.ref (a 0), .ref q1, .ref (e 0), .ref q2, .ref (m 0), .ref q, .ref (t 0)], tx E t by0 (nI m9) (nI r9) (nI c9), lc E o0 1 f]) kI (fun (r : Int32) (_ : Unit) => r = 2) (fun _ => List.flatten [oc d0 6 [.ref (a 0), .ref q1, .ref (e 0), .ref q2, .ref (m 0), .ref q, .ref (t 0)], tx E t by0 (nI m9) (nI r9) (nI c9), lc E o0 1 f]) 1 6 := by
  refine kH_body (cc := cL_append) (maxL := 4) (ret := (some .int)) (hh := [(0, 9, 12, 13), (0, 9, 15, 73)]) (by decide) rfl (Nat.le_of_ble_eq_true rfl) ?_
  intro pp ee sx mm aa bb me cd H locs AA ls C0 hr hlk hxt hZ hl hw
  obtain ⟨hx, hb, hml, hown, hts⟩ := id C0
  have hl : lv_has ls 4 [(0, .ref d0), (1, .int v), (2, .ref o0)] := hl
  have hw : kW E AA sx (List.flatten [oc d0 6 [.ref (a 0), .ref q1, .ref (e 0), .ref q2, .ref (m 0), .ref q, .ref (t 0)], tx E t by0 (nI m9) (nI r9) (nI c9), lc E o0 1 f]) H locs := hw
  refine lv_aload_n hx hb dL_append_0 rfl (lv_at hl 2 rfl) ?_
  refine lv_iconst (v := 0) hx hb dL_append_1 (by decide) ?_
  refine lv_aload_n hx hb dL_append_2 rfl (lv_at hl 0 rfl) ?_
  refine lv_iload_n hx hb dL_append_3 rfl (lv_at hl 1 rfl) ?_
  refine k_VX (As := [.int v]) (rest := [.int 0, .ref o0]) (pre := []) (mid := [oc d0 6 [.ref (a 0), .ref q1, .ref (e 0), .ref q2, .ref (m 0), .ref q, .ref (t 0)], tx E t by0 (nI m9) (nI r9) (nI c9)]) C0 (c_X6_append_x2F l hfl E d0 q1 q2 a e m t q by0 m9 r9 c9 v (by first | assumption | omega) (by first | assumption | omega)) (cwV 1 hts gL_append_X6_append rfl rfl rfl (by decide +kernel) ⟨Nat.le_of_ble_eq_true rfl, Nat.le_of_ble_eq_true rfl⟩) hw rfl hZ (fun _ => [oc d0 6 [.ref (a 0), .ref q1, .ref (e 0), .ref q2, .ref (m 0), .ref q, .ref (t 0)], tx E t by0 (nI m9) (nI r9) (nI c9)]) (fun _ => rfl) 0 6 rfl rfl rfl rfl hl.1 rfl (Nat.le_of_ble_eq_true rfl) dL_append_4 ⟨Nat.le_of_ble_eq_true rfl, Nat.le_of_ble_eq_true rfl⟩ (fun X9 ce9 q9 H locs hx9 hw hc9 hv9 hcl9 => ?_) (fun r u H locs hq99 hw => False.elim hq99)
  have hx9 : X9 = "java/lang/IllegalStateException" := hx9
  subst hx9
  refine vx_catch hown [⟨0, 9, 12, 13⟩] ⟨0, 9, 15, 73⟩ [] (hxt.trans rfl) (fun z hz => by cases List.mem_singleton.mp hz; exact Or.inr ⟨by decide, "java/lang/IllegalArgumentException", hts (.classLink RL 13 "java/lang/IllegalArgumentException") (by decide +kernel), hw.2.2.1.2.2.2.2.2.1 ("java/lang/IllegalStateException", "java/lang/IllegalArgumentException") (by decide)⟩) (by decide) (by decide) (hts (.classLink RL 73 "java/lang/IllegalStateException") (by decide +kernel)) (va_Nw.use rfl (hw.2.2.1.2.2.2.1 "java/lang/IllegalStateException" (by decide))) hc9 hv9 hcl9 ?_
  refine W.eq (g2 := F0 mm 15 ls [.ref q9]) rfl ?_
  refine lv_astore_n (lv' := [(3, .ref q9), (0, .ref d0), (1, .int v), (2, .ref o0)]) hx hb dL_append_15 rfl hl (by decide) rfl (fun ls hl => ?_)
  refine lv_iconst (v := 2) hx hb dL_append_16 (by decide) ?_
  -- leaf 0
  exact k_iret C0 hr hlk hw () (rfl) (rfl) (Nat.le_of_ble_eq_true rfl) (Nat.le_of_ble_eq_true rfl) dL_append_17

set_option maxHeartbeats 4000000 in
set_option maxRecDepth 100000 in
theorem c_L_append_x1 (l : Launch) (hfl : l.stackTraces = false) (E : kE) (d0 : Nat) (q1 : Nat) (q2 : Nat) (a : Nat → Nat) (e : Nat → Nat) (m : Nat → Nat) (t : Nat → Nat) (q : Nat) (by0 : Nat → Int32) (m9 : Nat) (r9 : Nat) (c9 : Nat) (x : Int32) (o0 : Nat) (f : Nat → Int64) (hv : ¬ (¬ x < 0 ∧ ¬ 127 < x)) : kH E l yL_append wsL_append rmL_append [.ref d0, .int x, .ref o0] (List.flatten [oc d0 6 [.ref (a 0), .ref q1, .ref (e 0), .ref q2, .ref (m 0), .ref q, .ref (t 0)], tx E t by0 (nI m9) (nI r9) (nI c9), lc E o0 1 f]) kI (fun (r : Int32) (_ : Unit) => r = 1) (fun _ => List.flatten [oc d0 6 [.ref (a 0), .ref q1, .ref (e 0), .ref q2, .ref (m 0), .ref q, .ref (t 0)], tx E t by0 (nI m9) (nI r9) (nI c9), lc E o0 1 f]) 1 6 := by
  refine kH_body (cc := cL_append) (maxL := 4) (ret := (some .int)) (hh := [(0, 9, 12, 13), (0, 9, 15, 73)]) (by decide) rfl (Nat.le_of_ble_eq_true rfl) ?_
  intro pp ee sx mm aa bb me cd H locs AA ls C0 hr hlk hxt hZ hl hw
  obtain ⟨hx, hb, hml, hown, hts⟩ := id C0
  have hl : lv_has ls 4 [(0, .ref d0), (1, .int x), (2, .ref o0)] := hl
  have hw : kW E AA sx (List.flatten [oc d0 6 [.ref (a 0), .ref q1, .ref (e 0), .ref q2, .ref (m 0), .ref q, .ref (t 0)], tx E t by0 (nI m9) (nI r9) (nI c9), lc E o0 1 f]) H locs := hw
  refine lv_aload_n hx hb dL_append_0 rfl (lv_at hl 2 rfl) ?_
  refine lv_iconst (v := 0) hx hb dL_append_1 (by decide) ?_
  refine lv_aload_n hx hb dL_append_2 rfl (lv_at hl 0 rfl) ?_
  refine lv_iload_n hx hb dL_append_3 rfl (lv_at hl 1 rfl) ?_
  refine k_VX (As := [.int x]) (rest := [.int 0, .ref o0]) (pre := []) (mid := [oc d0 6 [.ref (a 0), .ref q1, .ref (e 0), .ref q2, .ref (m 0), .ref q, .ref (t 0)], tx E t by0 (nI m9) (nI r9) (nI c9)]) C0 (c_X6_append_x1F l hfl E d0 q1 q2 a e m t q by0 m9 r9 c9 x (by first | assumption | omega)) (cwV 1 hts gL_append_X6_append rfl rfl rfl (by decide +kernel) ⟨Nat.le_of_ble_eq_true rfl, Nat.le_of_ble_eq_true rfl⟩) hw rfl hZ (fun _ => [oc d0 6 [.ref (a 0), .ref q1, .ref (e 0), .ref q2, .ref (m 0), .ref q, .ref (t 0)], tx E t by0 (nI m9) (nI r9) (nI c9)]) (fun _ => rfl) 0 6 rfl rfl rfl rfl hl.1 rfl (Nat.le_of_ble_eq_true rfl) dL_append_4 ⟨Nat.le_of_ble_eq_true rfl, Nat.le_of_ble_eq_true rfl⟩ (fun X9 ce9 q9 H locs hx9 hw hc9 hv9 hcl9 => ?_) (fun r u H locs hq99 hw => False.elim hq99)
  have hx9 : X9 = "java/lang/IllegalArgumentException" := hx9
  subst hx9
  refine vx_catch hown [] ⟨0, 9, 12, 13⟩ [⟨0, 9, 15, 73⟩] (hxt.trans rfl) (fun z hz => by cases hz) (by decide) (by decide) (hts (.classLink RL 13 "java/lang/IllegalArgumentException") (by decide +kernel)) (va_Nw.use rfl (hw.2.2.1.2.2.2.1 "java/lang/IllegalArgumentException" (by decide))) hc9 hv9 hcl9 ?_
  refine W.eq (g2 := F0 mm 12 ls [.ref q9]) rfl ?_
  refine lv_astore_n (lv' := [(3, .ref q9), (0, .ref d0), (1, .int x), (2, .ref o0)]) hx hb dL_append_12 rfl hl (by decide) rfl (fun ls hl => ?_)
  refine lv_iconst (v := 1) hx hb dL_append_13 (by decide) ?_
  -- leaf 0
  exact k_iret C0 hr hlk hw () (rfl) (rfl) (Nat.le_of_ble_eq_true rfl) (Nat.le_of_ble_eq_true rfl) dL_append_14

set_option maxHeartbeats 4000000 in
set_option maxRecDepth 100000 in
theorem c_L_append_ok (l : Launch) (hfl : l.stackTraces = false) (E : kE) (d0 : Nat) (q1 : Nat) (q2 : Nat) (a : Nat → Nat) (e : Nat → Nat) (m : Nat → Nat) (t : Nat → Nat) (q : Nat) (by0 : Nat → Int32) (m9 : Nat) (r9 : Nat) (c9 : Nat) (v : Int32) (o0 : Nat) (f : Nat → Int64) (hv : ¬ v < 0 ∧ ¬ 127 < v) (hm9 : m9 < 220) : kH E l yL_append wsL_append rmL_append [.ref d0, .int v, .ref o0] (List.flatten [oc d0 6 [.ref (a 0), .ref q1, .ref (e 0), .ref q2, .ref (m 0), .ref q, .ref (t 0)], tx E t by0 (nI m9) (nI r9) (nI c9), lc E o0 1 f]) kI (fun (r : Int32) (_ : Unit) => r = 0) (fun _ => List.flatten [oc d0 6 [.ref (a 0), .ref q1, .ref (e 0), .ref q2, .ref (m 0), .ref q, .ref (t 0)], tx E t (upd by0 m9 v) (nI (m9 + 1)) (nI r9) (nI c9), lc E o0 1 (vp_updL f 0 (Int32.toInt64 (nI (m9 + 1))))]) 1 6 := by
  refine kH_body (cc := cL_append) (maxL := 4) (ret := (some .int)) (hh := [(0, 9, 12, 13), (0, 9, 15, 73)]) (by decide) rfl (Nat.le_of_ble_eq_true rfl) ?_
  intro pp ee sx mm aa bb me cd H locs AA ls C0 hr hlk hxt hZ hl hw
  obtain ⟨hx, hb, hml, hown, hts⟩ := id C0
  have hl : lv_has ls 4 [(0, .ref d0), (1, .int v), (2, .ref o0)] := hl
  have hw : kW E AA sx (List.flatten [oc d0 6 [.ref (a 0), .ref q1, .ref (e 0), .ref q2, .ref (m 0), .ref q, .ref (t 0)], tx E t by0 (nI m9) (nI r9) (nI c9), lc E o0 1 f]) H locs := hw
  refine lv_aload_n hx hb dL_append_0 rfl (lv_at hl 2 rfl) ?_
  refine lv_iconst (v := 0) hx hb dL_append_1 (by decide) ?_
  refine lv_aload_n hx hb dL_append_2 rfl (lv_at hl 0 rfl) ?_
  refine lv_iload_n hx hb dL_append_3 rfl (lv_at hl 1 rfl) ?_
  refine k_VX (As := [.int v]) (rest := [.int 0, .ref o0]) (pre := []) (mid := [oc d0 6 [.ref (a 0), .ref q1, .ref (e 0), .ref q2, .ref (m 0), .ref q, .ref (t 0)], tx E t by0 (nI m9) (nI r9) (nI c9)]) C0 (c_X6_append_ok l hfl E d0 q1 q2 a e m t q by0 m9 r9 c9 v (by first | assumption | omega) (by first | assumption | omega)) (cwV 1 hts gL_append_X6_append rfl rfl rfl (by decide +kernel) ⟨Nat.le_of_ble_eq_true rfl, Nat.le_of_ble_eq_true rfl⟩) hw rfl hZ (fun _ => [oc d0 6 [.ref (a 0), .ref q1, .ref (e 0), .ref q2, .ref (m 0), .ref q, .ref (t 0)], tx E t (upd by0 m9 v) (nI (m9 + 1)) (nI r9) (nI c9)]) (fun _ => rfl) 0 6 rfl rfl rfl rfl hl.1 rfl (Nat.le_of_ble_eq_true rfl) dL_append_4 ⟨Nat.le_of_ble_eq_true rfl, Nat.le_of_ble_eq_true rfl⟩ (fun X9 ce9 q9 H locs hx9 hw hc9 hv9 hcl9 => False.elim hx9) (fun r u H locs hq99 hw => ?_)
  subst hq99
  have hw : kW E AA sx (List.flatten [oc d0 6 [.ref (a 0), .ref q1, .ref (e 0), .ref q2, .ref (m 0), .ref q, .ref (t 0)], tx E t (upd by0 m9 v) (nI (m9 + 1)) (nI r9) (nI c9), lc E o0 1 f]) H locs := hw
  refine W.eq (g2 := F0 mm 7 ls [.int (nI (m9 + 1)), .int 0, .ref o0]) rfl ?_
  refine lv_i2l (v := Int32.toInt64 (nI (m9 + 1))) hx hb dL_append_7 rfl ?_
  refine k_last (pre := [oc d0 6 [.ref (a 0), .ref q1, .ref (e 0), .ref q2, .ref (m 0), .ref q, .ref (t 0)], tx E t (upd by0 m9 v) (nI (m9 + 1)) (nI r9) (nI c9)]) C0 hw (i := 0) (kinN (n := 0) (by decide) (by decide)) dL_append_8 (fun H locs hw => ?_)
  have hw : kW E AA sx (List.flatten [oc d0 6 [.ref (a 0), .ref q1, .ref (e 0), .ref q2, .ref (m 0), .ref q, .ref (t 0)], tx E t (upd by0 m9 v) (nI (m9 + 1)) (nI r9) (nI c9), lc E o0 1 (vp_updL f 0 (Int32.toInt64 (nI (m9 + 1))))]) H locs := hw
  refine lv_goto (tgt := 18) hx hb dL_append_9 (by decide) ?_
  refine lv_iconst (v := 0) hx hb dL_append_18 (by decide) ?_
  -- leaf 0
  exact k_iret C0 hr hlk hw () (rfl) (rfl) (Nat.le_of_ble_eq_true rfl) (Nat.le_of_ble_eq_true rfl) dL_append_19

abbrev rmL_undo : Room := { frames := 7, cells := 1, slots := 6, locals := 130 }
set_option maxHeartbeats 4000000 in
set_option maxRecDepth 100000 in
theorem c_L_undo_x1 (l : Launch) (hfl : l.stackTraces = false) (E : kE) (d0 : Nat) (q1 : Nat) (q2 : Nat) (a : Nat → Nat) (e : Nat → Nat) (m : Nat → Nat) (t : Nat → Nat) (q : Nat) (n : Nat) (b : Nat → Nat → Nat) (G : Nat → cT) (o : Nat) (h : Nat) (w : Nat) (wd : Int32) (s0 : Int32) (z : Int32) (st : Nat → Int32) (he : Nat → Int32) (ke : Nat → Int32) (tu : Nat → Int32) (ca : Nat → Int32) (tr : Nat → Int32) (co : Nat → Int32) (la : Nat → Int32) (o0 : Nat) (f : Nat → Int64)  : kH E l yL_undo wsL_undo rmL_undo [.ref d0, .ref o0] (List.flatten [oc d0 6 [.ref (a 0), .ref q1, .ref (e 0), .ref q2, .ref (m 0), .ref q, .ref (t 0)], fc E a (nI h) (nI w) wd s0 z st he ke tu ca tr co la, hw4 E q n b (nI o) (nI 0) G, lc E o0 1 f]) kI (fun (r : Int32) (_ : Unit) => r = 1) (fun _ => List.flatten [oc d0 6 [.ref (a 0), .ref q1, .ref (e 0), .ref q2, .ref (m 0), .ref q, .ref (t 0)], fc E a (nI h) (nI w) wd s0 z st he ke tu ca tr co la, hw4 E q n b (nI o) (nI 0) G, lc E o0 1 f]) 1 6 := by
  refine kH_body (cc := cL_undo) (maxL := 3) (ret := (some .int)) (hh := [(0, 8, 11, 73)]) (by decide) rfl (Nat.le_of_ble_eq_true rfl) ?_
  intro pp ee sx mm aa bb me cd H locs AA ls C0 hr hlk hxt hZ hl hw
  obtain ⟨hx, hb, hml, hown, hts⟩ := id C0
  have hl : lv_has ls 3 [(0, .ref d0), (1, .ref o0)] := hl
  have hw : kW E AA sx (List.flatten [oc d0 6 [.ref (a 0), .ref q1, .ref (e 0), .ref q2, .ref (m 0), .ref q, .ref (t 0)], fc E a (nI h) (nI w) wd s0 z st he ke tu ca tr co la, hw4 E q n b (nI o) (nI 0) G, lc E o0 1 f]) H locs := hw
  refine lv_aload_n hx hb dL_undo_0 rfl (lv_at hl 1 rfl) ?_
  refine lv_iconst (v := 0) hx hb dL_undo_1 (by decide) ?_
  refine lv_aload_n hx hb dL_undo_2 rfl (lv_at hl 0 rfl) ?_
  refine k_VX (As := []) (rest := [.int 0, .ref o0]) (pre := []) (mid := [oc d0 6 [.ref (a 0), .ref q1, .ref (e 0), .ref q2, .ref (m 0), .ref q, .ref (t 0)], fc E a (nI h) (nI w) wd s0 z st he ke tu ca tr co la, hw4 E q n b (nI o) (nI 0) G]) C0 (c_X6_undo_x1F l hfl E d0 q1 q2 a e m t q n b G o h w wd s0 z st he ke tu ca tr co la ) (cwV 0 hts gL_undo_X6_undo rfl rfl rfl (by decide +kernel) ⟨Nat.le_of_ble_eq_true rfl, Nat.le_of_ble_eq_true rfl⟩) hw rfl hZ (fun _ => [oc d0 6 [.ref (a 0), .ref q1, .ref (e 0), .ref q2, .ref (m 0), .ref q, .ref (t 0)], fc E a (nI h) (nI w) wd s0 z st he ke tu ca tr co la, hw4 E q n b (nI o) (nI 0) G]) (fun _ => rfl) 0 6 rfl rfl rfl rfl hl.1 rfl (Nat.le_of_ble_eq_true rfl) dL_undo_3 ⟨Nat.le_of_ble_eq_true rfl, Nat.le_of_ble_eq_true rfl⟩ (fun X9 ce9 q9 H locs hx9 hw hc9 hv9 hcl9 => ?_) (fun r u H locs hq99 hw => False.elim hq99)
  have hx9 : X9 = "java/lang/IllegalStateException" := hx9
  subst hx9
  refine vx_catch hown [] ⟨0, 8, 11, 73⟩ [] (hxt.trans rfl) (fun z hz => by cases hz) (by decide) (by decide) (hts (.classLink RL 73 "java/lang/IllegalStateException") (by decide +kernel)) (va_Nw.use rfl (hw.2.2.1.2.2.2.1 "java/lang/IllegalStateException" (by decide))) hc9 hv9 hcl9 ?_
  refine W.eq (g2 := F0 mm 11 ls [.ref q9]) rfl ?_
  refine lv_astore_n (lv' := [(2, .ref q9), (0, .ref d0), (1, .ref o0)]) hx hb dL_undo_11 rfl hl (by decide) rfl (fun ls hl => ?_)
  refine lv_iconst (v := 1) hx hb dL_undo_12 (by decide) ?_
  -- leaf 0
  exact k_iret C0 hr hlk hw () (rfl) (rfl) (Nat.le_of_ble_eq_true rfl) (Nat.le_of_ble_eq_true rfl) dL_undo_13

set_option maxHeartbeats 4000000 in
set_option maxRecDepth 100000 in
theorem c_L_undo_ok (l : Launch) (hfl : l.stackTraces = false) (E : kE) (d0 : Nat) (q1 : Nat) (q2 : Nat) (a : Nat → Nat) (e : Nat → Nat) (m : Nat → Nat) (t : Nat → Nat) (q : Nat) (n : Nat) (b : Nat → Nat → Nat) (G : Nat → cT) (o : Nat) (k9 : Nat) (h : Nat) (w : Nat) (wd : Int32) (s0 : Int32) (z : Int32) (st : Nat → Int32) (he : Nat → Int32) (ke : Nat → Int32) (tu : Nat → Int32) (ca : Nat → Int32) (tr : Nat → Int32) (co : Nat → Int32) (la : Nat → Int32) (o0 : Nat) (f : Nat → Int64) (ho : o < 4) (hk9 : k9 < 4) : kH E l yL_undo wsL_undo rmL_undo [.ref d0, .ref o0] (List.flatten [oc d0 6 [.ref (a 0), .ref q1, .ref (e 0), .ref q2, .ref (m 0), .ref q, .ref (t 0)], fc E a (nI h) (nI w) wd s0 z st he ke tu ca tr co la, hw4 E q n b (nI o) (nI (k9 + 1)) G, lc E o0 1 f]) kI (fun (r : Int32) (_ : Unit) => r = 0) (fun _ => List.flatten [oc d0 6 [.ref (a 0), .ref q1, .ref (e 0), .ref q2, .ref (m 0), .ref q, .ref (t 0)], fc E a ((G ((o + k9) % 4)).1) ((G ((o + k9) % 4)).2.1) ((G ((o + k9) % 4)).2.2.1) ((G ((o + k9) % 4)).2.2.2.1) ((G ((o + k9) % 4)).2.2.2.2.1) ((G ((o + k9) % 4)).2.2.2.2.2.1) ((G ((o + k9) % 4)).2.2.2.2.2.2.1) ((G ((o + k9) % 4)).2.2.2.2.2.2.2.1) ((G ((o + k9) % 4)).2.2.2.2.2.2.2.2.1) ((G ((o + k9) % 4)).2.2.2.2.2.2.2.2.2.1) ((G ((o + k9) % 4)).2.2.2.2.2.2.2.2.2.2.1) ((G ((o + k9) % 4)).2.2.2.2.2.2.2.2.2.2.2.1) ((G ((o + k9) % 4)).2.2.2.2.2.2.2.2.2.2.2.2), hw4 E q n b (nI o) (nI k9) G, lc E o0 1 (vp_updL f 0 (Int32.toInt64 (nI k9)))]) 1 6 := by
  refine kH_body (cc := cL_undo) (maxL := 3) (ret := (some .int)) (hh := [(0, 8, 11, 73)]) (by decide) rfl (Nat.le_of_ble_eq_true rfl) ?_
  intro pp ee sx mm aa bb me cd H locs AA ls C0 hr hlk hxt hZ hl hw
  obtain ⟨hx, hb, hml, hown, hts⟩ := id C0
  have hl : lv_has ls 3 [(0, .ref d0), (1, .ref o0)] := hl
  have hw : kW E AA sx (List.flatten [oc d0 6 [.ref (a 0), .ref q1, .ref (e 0), .ref q2, .ref (m 0), .ref q, .ref (t 0)], fc E a (nI h) (nI w) wd s0 z st he ke tu ca tr co la, hw4 E q n b (nI o) (nI (k9 + 1)) G, lc E o0 1 f]) H locs := hw
  refine lv_aload_n hx hb dL_undo_0 rfl (lv_at hl 1 rfl) ?_
  refine lv_iconst (v := 0) hx hb dL_undo_1 (by decide) ?_
  refine lv_aload_n hx hb dL_undo_2 rfl (lv_at hl 0 rfl) ?_
  refine k_VX (As := []) (rest := [.int 0, .ref o0]) (pre := []) (mid := [oc d0 6 [.ref (a 0), .ref q1, .ref (e 0), .ref q2, .ref (m 0), .ref q, .ref (t 0)], fc E a (nI h) (nI w) wd s0 z st he ke tu ca tr co la, hw4 E q n b (nI o) (nI (k9 + 1)) G]) C0 (c_X6_undo_ok l hfl E d0 q1 q2 a e m t q n b G o k9 h w wd s0 z st he ke tu ca tr co la (by first | assumption | omega) (by first | assumption | omega)) (cwV 0 hts gL_undo_X6_undo rfl rfl rfl (by decide +kernel) ⟨Nat.le_of_ble_eq_true rfl, Nat.le_of_ble_eq_true rfl⟩) hw rfl hZ (fun _ => [oc d0 6 [.ref (a 0), .ref q1, .ref (e 0), .ref q2, .ref (m 0), .ref q, .ref (t 0)], fc E a ((G ((o + k9) % 4)).1) ((G ((o + k9) % 4)).2.1) ((G ((o + k9) % 4)).2.2.1) ((G ((o + k9) % 4)).2.2.2.1) ((G ((o + k9) % 4)).2.2.2.2.1) ((G ((o + k9) % 4)).2.2.2.2.2.1) ((G ((o + k9) % 4)).2.2.2.2.2.2.1) ((G ((o + k9) % 4)).2.2.2.2.2.2.2.1) ((G ((o + k9) % 4)).2.2.2.2.2.2.2.2.1) ((G ((o + k9) % 4)).2.2.2.2.2.2.2.2.2.1) ((G ((o + k9) % 4)).2.2.2.2.2.2.2.2.2.2.1) ((G ((o + k9) % 4)).2.2.2.2.2.2.2.2.2.2.2.1) ((G ((o + k9) % 4)).2.2.2.2.2.2.2.2.2.2.2.2), hw4 E q n b (nI o) (nI k9) G]) (fun _ => rfl) 0 6 rfl rfl rfl rfl hl.1 rfl (Nat.le_of_ble_eq_true rfl) dL_undo_3 ⟨Nat.le_of_ble_eq_true rfl, Nat.le_of_ble_eq_true rfl⟩ (fun X9 ce9 q9 H locs hx9 hw hc9 hv9 hcl9 => False.elim hx9) (fun r u H locs hq99 hw => ?_)
  subst hq99
  have hw : kW E AA sx (List.flatten [oc d0 6 [.ref (a 0), .ref q1, .ref (e 0), .ref q2, .ref (m 0), .ref q, .ref (t 0)], fc E a ((G ((o + k9) % 4)).1) ((G ((o + k9) % 4)).2.1) ((G ((o + k9) % 4)).2.2.1) ((G ((o + k9) % 4)).2.2.2.1) ((G ((o + k9) % 4)).2.2.2.2.1) ((G ((o + k9) % 4)).2.2.2.2.2.1) ((G ((o + k9) % 4)).2.2.2.2.2.2.1) ((G ((o + k9) % 4)).2.2.2.2.2.2.2.1) ((G ((o + k9) % 4)).2.2.2.2.2.2.2.2.1) ((G ((o + k9) % 4)).2.2.2.2.2.2.2.2.2.1) ((G ((o + k9) % 4)).2.2.2.2.2.2.2.2.2.2.1) ((G ((o + k9) % 4)).2.2.2.2.2.2.2.2.2.2.2.1) ((G ((o + k9) % 4)).2.2.2.2.2.2.2.2.2.2.2.2), hw4 E q n b (nI o) (nI k9) G, lc E o0 1 f]) H locs := hw
  refine W.eq (g2 := F0 mm 6 ls [.int (nI k9), .int 0, .ref o0]) rfl ?_
  refine lv_i2l (v := Int32.toInt64 (nI k9)) hx hb dL_undo_6 rfl ?_
  refine k_last (pre := [oc d0 6 [.ref (a 0), .ref q1, .ref (e 0), .ref q2, .ref (m 0), .ref q, .ref (t 0)], fc E a ((G ((o + k9) % 4)).1) ((G ((o + k9) % 4)).2.1) ((G ((o + k9) % 4)).2.2.1) ((G ((o + k9) % 4)).2.2.2.1) ((G ((o + k9) % 4)).2.2.2.2.1) ((G ((o + k9) % 4)).2.2.2.2.2.1) ((G ((o + k9) % 4)).2.2.2.2.2.2.1) ((G ((o + k9) % 4)).2.2.2.2.2.2.2.1) ((G ((o + k9) % 4)).2.2.2.2.2.2.2.2.1) ((G ((o + k9) % 4)).2.2.2.2.2.2.2.2.2.1) ((G ((o + k9) % 4)).2.2.2.2.2.2.2.2.2.2.1) ((G ((o + k9) % 4)).2.2.2.2.2.2.2.2.2.2.2.1) ((G ((o + k9) % 4)).2.2.2.2.2.2.2.2.2.2.2.2), hw4 E q n b (nI o) (nI k9) G]) C0 hw (i := 0) (kinN (n := 0) (by decide) (by decide)) dL_undo_7 (fun H locs hw => ?_)
  have hw : kW E AA sx (List.flatten [oc d0 6 [.ref (a 0), .ref q1, .ref (e 0), .ref q2, .ref (m 0), .ref q, .ref (t 0)], fc E a ((G ((o + k9) % 4)).1) ((G ((o + k9) % 4)).2.1) ((G ((o + k9) % 4)).2.2.1) ((G ((o + k9) % 4)).2.2.2.1) ((G ((o + k9) % 4)).2.2.2.2.1) ((G ((o + k9) % 4)).2.2.2.2.2.1) ((G ((o + k9) % 4)).2.2.2.2.2.2.1) ((G ((o + k9) % 4)).2.2.2.2.2.2.2.1) ((G ((o + k9) % 4)).2.2.2.2.2.2.2.2.1) ((G ((o + k9) % 4)).2.2.2.2.2.2.2.2.2.1) ((G ((o + k9) % 4)).2.2.2.2.2.2.2.2.2.2.1) ((G ((o + k9) % 4)).2.2.2.2.2.2.2.2.2.2.2.1) ((G ((o + k9) % 4)).2.2.2.2.2.2.2.2.2.2.2.2), hw4 E q n b (nI o) (nI k9) G, lc E o0 1 (vp_updL f 0 (Int32.toInt64 (nI k9)))]) H locs := hw
  refine lv_goto (tgt := 14) hx hb dL_undo_8 (by decide) ?_
  refine lv_iconst (v := 0) hx hb dL_undo_14 (by decide) ?_
  -- leaf 0
  exact k_iret C0 hr hlk hw () (rfl) (rfl) (Nat.le_of_ble_eq_true rfl) (Nat.le_of_ble_eq_true rfl) dL_undo_15
