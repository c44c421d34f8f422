/-! THE LAW: a step on both -/
abbrev rmL_isStep : Room := { frames := 8, cells := 0, slots := 0, locals := 154 }
set_option maxHeartbeats 4000000 in
set_option maxRecDepth 100000 in
theorem c_L_isStep (l : Launch) (hfl : l.stackTraces = false) (E : kE) (X : xT) (Y : xT) (F : fT) (J : jT) (K : jT) (x : Int32) (B : Nat) (N : Nat) (hF8 : fOK B N F) (hBl : B < 900000) (hNl : N < 10000000) (hJ : hOK (F, J)) (hK : hOK (F, K)) : kX E l yL_isStep wsL_isStep rmL_isStep [.ref X.1.1, .ref Y.1.1, .int x] (List.flatten [ob E X (F, J), ob E Y (F, K)]) kI (fun (r : Int32) (u : oT × oT) => r = 1 ∧ ∃ M, N ≤ M ∧ M ≤ N + 299 ∧ gOK (B + 14) M u.1 u.2) (fun (u : oT × oT) => List.flatten [ob E X u.1, ob E Y u.2]) (fun X => False) 0 0 := by
  refine kX_body (cc := cL_isStep) (maxL := 10) (ret := (some .boolean)) (by decide) rfl (Nat.le_of_ble_eq_true rfl) ?_
  intro pp ee sx mm aa bb me cd H locs AA ls C0 hr hlk hxt hZ hl hw
  obtain ⟨hx, hb, hml, hown, hts⟩ := id C0
  have hl : lv_has ls 10 [(0, .ref X.1.1), (1, .ref Y.1.1), (2, .int x)] := hl
  have hw : kW E AA sx (List.flatten [ob E X (F, J), ob E Y (F, K)]) H locs := hw
  obtain ⟨hG, hd, hn0, ⟨hp, hp1, hp8, hst0⟩, hsl, hHe, hFn, hCt, hLa⟩ := id hF8
  have hn9 := kG_n hG
  obtain ⟨kc, hkc, hkcl⟩ : ∃ z, z = upN (x >>> (4 &&& 31 : Int32)) (F.1 * F.2.1) ∧ z < F.1 * F.2.1 := ⟨_, rfl, upN_lt (by omega)⟩
  obtain ⟨ku, hku, hkul⟩ : ∃ z, z = upN (x) (10) ∧ z < 10 := ⟨_, rfl, upN_lt (by omega)⟩
  obtain ⟨uh, huh, huhl⟩ : ∃ z, z = upN (x >>> (12 &&& 31 : Int32)) (15) ∧ z < 15 := ⟨_, rfl, upN_lt (by omega)⟩
  obtain ⟨ut, hut, hutl⟩ : ∃ z, z = upN (x >>> (12 &&& 31 : Int32)) (101) ∧ z < 101 := ⟨_, rfl, upN_lt (by omega)⟩
  obtain ⟨uc, huc, hucl⟩ : ∃ z, z = upN (x >>> (13 &&& 31 : Int32)) (50) ∧ z < 50 := ⟨_, rfl, upN_lt (by omega)⟩
  obtain ⟨us4, hus4, hus4l⟩ : ∃ z, z = upN (x >>> (4 &&& 31 : Int32)) (4) ∧ z < 4 := ⟨_, rfl, upN_lt (by omega)⟩
  obtain ⟨u8, hu8, hu8l⟩ : ∃ z, z = upN (x >>> (6 &&& 31 : Int32)) (8) ∧ z < 8 := ⟨_, rfl, upN_lt (by omega)⟩
  obtain ⟨u5, hu5, hu5l⟩ : ∃ z, z = upN (x >>> (6 &&& 31 : Int32)) (5) ∧ z < 5 := ⟨_, rfl, upN_lt (by omega)⟩
  obtain ⟨u101, hu101, hu101l⟩ : ∃ z, z = upN (x >>> (6 &&& 31 : Int32)) (101) ∧ z < 101 := ⟨_, rfl, upN_lt (by omega)⟩
  obtain ⟨um, hum, huml⟩ : ∃ z, z = upN (x >>> (6 &&& 31 : Int32)) (1000000) ∧ z < 1000000 := ⟨_, rfl, upN_lt (by omega)⟩
  obtain ⟨us, hus, husl⟩ : ∃ z, z = upN (x >>> (4 &&& 31 : Int32)) (300) ∧ z < 300 := ⟨_, rfl, upN_lt (by omega)⟩
  obtain ⟨uf, huf, hufl⟩ : ∃ z, z = upN (x >>> (13 &&& 31 : Int32)) (us + 1) ∧ z < us + 1 := ⟨_, rfl, upN_lt (by omega)⟩
  refine lv_iload_n hx hb dL_isStep_0 rfl (lv_at hl 2 rfl) ?_
  refine lv_iconst (v := 4) hx hb dL_isStep_1 (by decide) ?_
  refine lv_ishr hx hb dL_isStep_2 ?_
  refine lv_aload_n hx hb dL_isStep_3 rfl (lv_at hl 0 rfl) ?_
  refine lv_iconst (v := 4) hx hb dL_isStep_4 (by decide) ?_
  refine k_VF (As := [.int 4]) (rest := [.int (x >>> (4 &&& 31 : Int32))]) (pre := []) (mid := [ob E X (F, J)]) C0 (o_value l hfl E X (F, J) 4 (by first | assumption | omega) (by first | assumption | omega)) (cwV 1 hts gL_isStep_X6_value rfl rfl rfl (by decide +kernel) ⟨Nat.le_of_ble_eq_true rfl, Nat.le_of_ble_eq_true rfl⟩) hw rfl hZ (fun _ => [ob E X (F, J)]) (fun _ => rfl) 0 6 rfl rfl rfl rfl hl.1 rfl (Nat.le_of_ble_eq_true rfl) dL_isStep_5 ⟨Nat.le_of_ble_eq_true rfl, Nat.le_of_ble_eq_true rfl⟩ (fun r u H locs hq99 hw => ?_)
  subst hq99
  have hw : kW E AA sx (List.flatten [ob E X (F, J), ob E Y (F, K)]) H locs := hw
  refine W.eq (g2 := F0 mm 8 ls [.int (valN (nI F.1) (nI F.2.1) (nI F.2.2.1) (nI F.2.2.2.1) F.2.2.2.2.1 F.2.2.2.2.2.1 4), .int (x >>> (4 &&& 31 : Int32))]) rfl ?_
  refine W.eq (g2 := F0 mm 8 ls [.int (nI F.1), .int (x >>> (4 &&& 31 : Int32))]) (congrArg (fun z9 => F0 mm 8 ls [.int z9, .int (x >>> (4 &&& 31 : Int32))]) (show (valN (nI F.1) (nI F.2.1) (nI F.2.2.1) (nI F.2.2.2.1) F.2.2.2.2.1 F.2.2.2.2.2.1 4 : Int32) = nI F.1 from rfl)) ?_
  refine lv_aload_n hx hb dL_isStep_8 rfl (lv_at hl 0 rfl) ?_
  refine lv_iconst (v := 5) hx hb dL_isStep_9 (by decide) ?_
  refine k_VF (As := [.int 5]) (rest := [.int (nI F.1), .int (x >>> (4 &&& 31 : Int32))]) (pre := []) (mid := [ob E X (F, J)]) C0 (o_value l hfl E X (F, J) 5 (by first | assumption | omega) (by first | assumption | omega)) (cwV 1 hts gL_isStep_X6_value rfl rfl rfl (by decide +kernel) ⟨Nat.le_of_ble_eq_true rfl, Nat.le_of_ble_eq_true rfl⟩) hw rfl hZ (fun _ => [ob E X (F, J)]) (fun _ => rfl) 0 6 rfl rfl rfl rfl hl.1 rfl (Nat.le_of_ble_eq_true rfl) dL_isStep_10 ⟨Nat.le_of_ble_eq_true rfl, Nat.le_of_ble_eq_true rfl⟩ (fun r u H locs hq99 hw => ?_)
  subst hq99
  have hw : kW E AA sx (List.flatten [ob E X (F, J), ob E Y (F, K)]) H locs := hw
  refine W.eq (g2 := F0 mm 13 ls [.int (valN (nI F.1) (nI F.2.1) (nI F.2.2.1) (nI F.2.2.2.1) F.2.2.2.2.1 F.2.2.2.2.2.1 5), .int (nI F.1), .int (x >>> (4 &&& 31 : Int32))]) rfl ?_
  refine W.eq (g2 := F0 mm 13 ls [.int (nI F.2.1), .int (nI F.1), .int (x >>> (4 &&& 31 : Int32))]) (congrArg (fun z9 => F0 mm 13 ls [.int z9, .int (nI F.1), .int (x >>> (4 &&& 31 : Int32))]) (show (valN (nI F.1) (nI F.2.1) (nI F.2.2.1) (nI F.2.2.2.1) F.2.2.2.2.1 F.2.2.2.2.2.1 5 : Int32) = nI F.2.1 from rfl)) ?_
  refine lv_imul hx hb dL_isStep_13 ?_
  refine W.eq (g2 := F0 mm 14 ls [.int (nI (F.1 * F.2.1)), .int (x >>> (4 &&& 31 : Int32))]) (congrArg (fun z9 => F0 mm 14 ls [.int z9, .int (x >>> (4 &&& 31 : Int32))]) (show ((nI F.1) * (nI F.2.1) : Int32) = nI (F.1 * F.2.1) from pk_mul _ _)) ?_
  refine k_S (As := [.int (x >>> (4 &&& 31 : Int32)), .int (nI (F.1 * F.2.1))]) (rest := []) (pre := []) (mid := []) C0 (c_L_up l E (x >>> (4 &&& 31 : Int32)) (F.1 * F.2.1) (by first | assumption | omega) (by first | assumption | omega)) (va_cwS 2 hts gL_isStep_L_up rfl rfl rfl (by decide +kernel) ⟨Nat.le_of_ble_eq_true rfl, Nat.le_of_ble_eq_true rfl⟩) hw rfl (fun _ => []) (fun _ => rfl) rfl hl.1 rfl (Nat.le_of_ble_eq_true rfl) dL_isStep_14 ⟨Nat.le_of_ble_eq_true rfl, Nat.le_of_ble_eq_true rfl⟩ (fun r u H locs hq99 hw => ?_)
  subst hq99
  have hw : kW E AA sx (List.flatten [ob E X (F, J), ob E Y (F, K)]) H locs := hw
  refine W.eq (g2 := F0 mm 17 ls [.int (nI (upN (x >>> (4 &&& 31 : Int32)) (F.1 * F.2.1)))]) rfl ?_
  refine W.eq (g2 := F0 mm 17 ls [.int (nI kc)]) (congrArg (fun z9 => F0 mm 17 ls [.int z9]) (show (nI (upN (x >>> (4 &&& 31 : Int32)) (F.1 * F.2.1)) : Int32) = nI kc from by rw [hkc])) ?_
  refine lv_istore_n (lv' := [(3, .int (nI kc)), (0, .ref X.1.1), (1, .ref Y.1.1), (2, .int x)]) hx hb dL_isStep_17 rfl hl (by decide) rfl (fun ls hl => ?_)
  refine lv_iload_n hx hb dL_isStep_18 rfl (lv_at hl 3 rfl) ?_
  refine lv_bipush (v := 10) hx hb dL_isStep_19 (by decide) ?_
  refine k_S (As := [.int x, .int 10]) (rest := []) (pre := []) (mid := []) C0 (c_L_up l E x 10 (by first | assumption | omega) (by first | assumption | omega)) (va_cwS 2 hts gL_isStep_L_up rfl rfl rfl (by decide +kernel) ⟨Nat.le_of_ble_eq_true rfl, Nat.le_of_ble_eq_true rfl⟩) hw rfl (fun _ => []) (fun _ => rfl) rfl hl.1 rfl (Nat.le_of_ble_eq_true rfl) dL_isStep_21 ⟨Nat.le_of_ble_eq_true rfl, Nat.le_of_ble_eq_true rfl⟩ (fun r u H locs hq99 hw => ?_)
  subst hq99
  have hw : kW E AA sx (List.flatten [ob E X (F, J), ob E Y (F, K)]) H locs := hw
  refine W.eq (g2 := F0 mm 24 ls [.int (nI (upN x 10))]) rfl ?_
  refine W.eq (g2 := F0 mm 24 ls [.int (nI ku)]) (congrArg (fun z9 => F0 mm 24 ls [.int z9]) (show (nI (upN x 10) : Int32) = nI ku from by rw [hku])) ?_
  have ht24 : (nI ku).toInt = ((ku : Nat) : Int) := nI_toInt (by omega)
  rcases kswitch (nI ku) 0 6 with hs24 | ⟨js24, hj24, hs24⟩
  · refine lv_tableOut (tgt := 336) hx hb dL_isStep_24 (by omega) (by decide) ?_
    refine lv_iload_n hx hb dL_isStep_336 rfl (lv_at hl 3 rfl) ?_
    refine lv_iconst (v := 4) hx hb dL_isStep_337 (by decide) ?_
    refine lv_ishr hx hb dL_isStep_338 ?_
    refine lv_sipush (v := 300) hx hb dL_isStep_339 (by decide) ?_
    refine k_S (As := [.int (x >>> (4 &&& 31 : Int32)), .int 300]) (rest := []) (pre := []) (mid := []) C0 (c_L_up l E (x >>> (4 &&& 31 : Int32)) 300 (by first | assumption | omega) (by first | assumption | omega)) (va_cwS 2 hts gL_isStep_L_up rfl rfl rfl (by decide +kernel) ⟨Nat.le_of_ble_eq_true rfl, Nat.le_of_ble_eq_true rfl⟩) hw rfl (fun _ => []) (fun _ => rfl) rfl hl.1 rfl (Nat.le_of_ble_eq_true rfl) dL_isStep_342 ⟨Nat.le_of_ble_eq_true rfl, Nat.le_of_ble_eq_true rfl⟩ (fun r u H locs hq99 hw => ?_)
    subst hq99
    have hw : kW E AA sx (List.flatten [ob E X (F, J), ob E Y (F, K)]) H locs := hw
    refine W.eq (g2 := F0 mm 345 ls [.int (nI (upN (x >>> (4 &&& 31 : Int32)) 300))]) rfl ?_
    refine W.eq (g2 := F0 mm 345 ls [.int (nI us)]) (congrArg (fun z9 => F0 mm 345 ls [.int z9]) (show (nI (upN (x >>> (4 &&& 31 : Int32)) 300) : Int32) = nI us from by rw [hus])) ?_
    refine lv_istore (lv' := [(4, .int (nI us)), (3, .int (nI kc)), (0, .ref X.1.1), (1, .ref Y.1.1), (2, .int x)]) hx hb dL_isStep_345 hl (by decide) rfl (fun ls hl => ?_)
    refine lv_iload_n hx hb dL_isStep_347 rfl (lv_at hl 4 rfl) ?_
    refine lv_bipush (v := 13) hx hb dL_isStep_348 (by decide) ?_
    refine lv_ishr hx hb dL_isStep_350 ?_
    refine lv_iload hx hb dL_isStep_351 (lv_at hl 0 rfl) ?_
    refine lv_iconst (v := 1) hx hb dL_isStep_353 (by decide) ?_
    refine lv_iadd hx hb dL_isStep_354 ?_
    refine W.eq (g2 := F0 mm 355 ls [.int (nI (us + 1)), .int (x >>> (13 &&& 31 : Int32))]) (congrArg (fun z9 => F0 mm 355 ls [.int z9, .int (x >>> (13 &&& 31 : Int32))]) (show ((nI us) + 1 : Int32) = nI (us + 1) from nI_1 _)) ?_
    refine k_S (As := [.int (x >>> (13 &&& 31 : Int32)), .int (nI (us + 1))]) (rest := []) (pre := []) (mid := []) C0 (c_L_up l E (x >>> (13 &&& 31 : Int32)) (us + 1) (by first | assumption | omega) (by first | assumption | omega)) (va_cwS 2 hts gL_isStep_L_up rfl rfl rfl (by decide +kernel) ⟨Nat.le_of_ble_eq_true rfl, Nat.le_of_ble_eq_true rfl⟩) hw rfl (fun _ => []) (fun _ => rfl) rfl hl.1 rfl (Nat.le_of_ble_eq_true rfl) dL_isStep_355 ⟨Nat.le_of_ble_eq_true rfl, Nat.le_of_ble_eq_true rfl⟩ (fun r u H locs hq99 hw => ?_)
    subst hq99
    have hw : kW E AA sx (List.flatten [ob E X (F, J), ob E Y (F, K)]) H locs := hw
    refine W.eq (g2 := F0 mm 358 ls [.int (nI (upN (x >>> (13 &&& 31 : Int32)) (us + 1)))]) rfl ?_
    refine W.eq (g2 := F0 mm 358 ls [.int (nI uf)]) (congrArg (fun z9 => F0 mm 358 ls [.int z9]) (show (nI (upN (x >>> (13 &&& 31 : Int32)) (us + 1)) : Int32) = nI uf from by rw [huf])) ?_
    refine lv_istore (lv' := [(5, .int (nI uf)), (4, .int (nI us)), (3, .int (nI kc)), (0, .ref X.1.1), (1, .ref Y.1.1), (2, .int x)]) hx hb dL_isStep_358 hl (by decide) rfl (fun ls hl => ?_)
    have huf9 : uf ≤ us := by omega
    have hR := fs_rn (hp := hp) (m := us) hF8 (by omega) (by omega) hst0
    have hR2 := fs_rn (hp := hp) (m := uf) hF8 (by omega) (by omega) hst0
    refine lv_aload_n hx hb dL_isStep_360 rfl (lv_at hl 3 rfl) ?_
    refine k_VF (As := []) (rest := []) (pre := []) (mid := [ob E X (F, J)]) C0 (o_slabs l hfl E X (F, J) (by first | assumption | omega)) (cwV 0 hts gL_isStep_X6_slabs rfl rfl rfl (by decide +kernel) ⟨Nat.le_of_ble_eq_true rfl, Nat.le_of_ble_eq_true rfl⟩) hw rfl hZ (fun _ => [ob E X (F, J)]) (fun _ => rfl) 0 6 rfl rfl rfl rfl hl.1 rfl (Nat.le_of_ble_eq_true rfl) dL_isStep_361 ⟨Nat.le_of_ble_eq_true rfl, Nat.le_of_ble_eq_true rfl⟩ (fun r u H locs hq99 hw => ?_)
    subst hq99
    have hw : kW E AA sx (List.flatten [ob E X (F, J), ob E Y (F, K)]) H locs := hw
    refine W.eq (g2 := F0 mm 364 ls [.int (sumI F.2.2.2.2.2.2.1 (F.1 * F.2.1))]) rfl ?_
    refine lv_istore (lv' := [(6, .int (sumI F.2.2.2.2.2.2.1 (F.1 * F.2.1))), (5, .int (nI uf)), (4, .int (nI us)), (3, .int (nI kc)), (0, .ref X.1.1), (1, .ref Y.1.1), (2, .int x)]) hx hb dL_isStep_364 hl (by decide) rfl (fun ls hl => ?_)
    refine lv_aload_n hx hb dL_isStep_366 rfl (lv_at hl 4 rfl) ?_
    refine k_SF (As := [.ref X.1.1]) (rest := []) (pre := []) (mid := [ob E X (F, J)]) C0 (c_L_trapped l hfl E X (F, J) (by first | assumption | omega) (by first | assumption | omega)) (va_cwS 1 hts gL_isStep_L_trapped rfl rfl rfl (by decide +kernel) ⟨Nat.le_of_ble_eq_true rfl, Nat.le_of_ble_eq_true rfl⟩) hw rfl hZ (fun _ => [ob E X (F, J)]) (fun _ => rfl) rfl hl.1 rfl (Nat.le_of_ble_eq_true rfl) dL_isStep_367 ⟨Nat.le_of_ble_eq_true rfl, Nat.le_of_ble_eq_true rfl⟩ (fun r u H locs hq99 hw => ?_)
    subst hq99
    have hw : kW E AA sx (List.flatten [ob E X (F, J), ob E Y (F, K)]) H locs := hw
    refine W.eq (g2 := F0 mm 370 ls [.int (sumI (tpI F.2.2.2.2.2.2.2.2.2.1 F.2.2.2.2.2.2.2.2.2.2.1) (F.1 * F.2.1))]) rfl ?_
    refine lv_istore (lv' := [(7, .int (sumI (tpI F.2.2.2.2.2.2.2.2.2.1 F.2.2.2.2.2.2.2.2.2.2.1) (F.1 * F.2.1))), (6, .int (sumI F.2.2.2.2.2.2.1 (F.1 * F.2.1))), (5, .int (nI uf)), (4, .int (nI us)), (3, .int (nI kc)), (0, .ref X.1.1), (1, .ref Y.1.1), (2, .int x)]) hx hb dL_isStep_370 hl (by decide) rfl (fun ls hl => ?_)
    refine lv_aload_n hx hb dL_isStep_372 rfl (lv_at hl 5 rfl) ?_
    refine lv_iload hx hb dL_isStep_373 (lv_at hl 3 rfl) ?_
    refine k_VF (As := [.int (nI us)]) (rest := []) (pre := []) (mid := [ob E X (F, J)]) C0 (p_run l hfl E X (F, J) us hp (by first | assumption | omega) (by first | assumption | omega) (by first | assumption | omega) (by first | assumption | omega) (by first | assumption | omega) (by first | assumption | omega) (by first | assumption | omega)) (cwV 1 hts gL_isStep_X6_run rfl rfl rfl (by decide +kernel) ⟨Nat.le_of_ble_eq_true rfl, Nat.le_of_ble_eq_true rfl⟩) hw rfl hZ (fun (u375 : oT) => [ob E X u375]) (fun _ => rfl) 0 6 rfl rfl rfl rfl hl.1 rfl (Nat.le_of_ble_eq_true rfl) dL_isStep_375 ⟨Nat.le_of_ble_eq_true rfl, Nat.le_of_ble_eq_true rfl⟩ (fun r u375 H locs hq99 hw => ?_)
    obtain ⟨r375, rfl⟩ : ∃ z, z = r := ⟨_, rfl⟩
    have h375 : r375 = nI (rb F hp us).1 ∧ u375 = (rF F hp us, (J.1, (J.2.1, svJ (F, J)))) := hq99
    have hw : kW E AA sx (List.flatten [ob E X u375, ob E Y (F, K)]) H locs := hw
    refine W.eq (g2 := F0 mm 378 ls [.int r375]) rfl ?_
    refine lv_istore (lv' := [(8, .int r375), (7, .int (sumI (tpI F.2.2.2.2.2.2.2.2.2.1 F.2.2.2.2.2.2.2.2.2.2.1) (F.1 * F.2.1))), (6, .int (sumI F.2.2.2.2.2.2.1 (F.1 * F.2.1))), (5, .int (nI uf)), (4, .int (nI us)), (3, .int (nI kc)), (0, .ref X.1.1), (1, .ref Y.1.1), (2, .int x)]) hx hb dL_isStep_378 hl (by decide) rfl (fun ls hl => ?_)
    refine lv_aload_n hx hb dL_isStep_380 rfl (lv_at hl 6 rfl) ?_
    refine lv_iconst (v := 5) hx hb dL_isStep_381 (by decide) ?_
    refine k_VF (As := [.int 5]) (rest := []) (pre := []) (mid := [ob E X u375]) C0 (o_count l hfl E X u375 5 (by first | assumption | omega)) (cwV 1 hts gL_isStep_X6_count rfl rfl rfl (by decide +kernel) ⟨Nat.le_of_ble_eq_true rfl, Nat.le_of_ble_eq_true rfl⟩) hw rfl hZ (fun _ => [ob E X u375]) (fun _ => rfl) 0 6 rfl rfl rfl rfl hl.1 rfl (Nat.le_of_ble_eq_true rfl) dL_isStep_382 ⟨Nat.le_of_ble_eq_true rfl, Nat.le_of_ble_eq_true rfl⟩ (fun r u H locs hq99 hw => ?_)
    subst hq99
    have hw : kW E AA sx (List.flatten [ob E X u375, ob E Y (F, K)]) H locs := hw
    refine W.eq (g2 := F0 mm 385 ls [.int (u375.1.2.2.2.2.2.2.2.2.2.2.2.1 5)]) rfl ?_
    refine lv_istore (lv' := [(9, .int (u375.1.2.2.2.2.2.2.2.2.2.2.2.1 5)), (8, .int r375), (7, .int (sumI (tpI F.2.2.2.2.2.2.2.2.2.1 F.2.2.2.2.2.2.2.2.2.2.1) (F.1 * F.2.1))), (6, .int (sumI F.2.2.2.2.2.2.1 (F.1 * F.2.1))), (5, .int (nI uf)), (4, .int (nI us)), (3, .int (nI kc)), (0, .ref X.1.1), (1, .ref Y.1.1), (2, .int x)]) hx hb dL_isStep_385 hl (by decide) rfl (fun ls hl => ?_)
    refine lv_iload hx hb dL_isStep_387 (lv_at hl 1 rfl) ?_
    refine lv_iload hx hb dL_isStep_389 (lv_at hl 5 rfl) ?_
    refine lv_icmp_gt (tgt := 449) hx hb dL_isStep_391 (by decide) (fun c391 => absurd c391 (by rw [h375.1]; exact nI_nlt hR.2.1 (by omega))) (fun c391 => ?_)
    refine lv_iload hx hb dL_isStep_394 (lv_at hl 1 rfl) ?_
    refine lv_aload_n hx hb dL_isStep_396 rfl (lv_at hl 8 rfl) ?_
    refine lv_iload hx hb dL_isStep_397 (lv_at hl 4 rfl) ?_
    refine k_VF (As := [.int (nI uf)]) (rest := [.int r375]) (pre := [ob E X u375]) (mid := [ob E Y (F, K)]) C0 (p_run l hfl E Y (F, K) uf hp (by first | assumption | omega) (by first | assumption | omega) (by first | assumption | omega) (by first | assumption | omega) (by first | assumption | omega) (by first | assumption | omega) (by first | assumption | omega)) (cwV 1 hts gL_isStep_X6_run rfl rfl rfl (by decide +kernel) ⟨Nat.le_of_ble_eq_true rfl, Nat.le_of_ble_eq_true rfl⟩) hw rfl hZ (fun (u399 : oT) => [ob E Y u399]) (fun _ => rfl) 0 6 rfl rfl rfl rfl hl.1 rfl (Nat.le_of_ble_eq_true rfl) dL_isStep_399 ⟨Nat.le_of_ble_eq_true rfl, Nat.le_of_ble_eq_true rfl⟩ (fun r u399 H locs hq99 hw => ?_)
    obtain ⟨r399, rfl⟩ : ∃ z, z = r := ⟨_, rfl⟩
    have h399 : r399 = nI (rb F hp uf).1 ∧ u399 = (rF F hp uf, (K.1, (K.2.1, svJ (F, K)))) := hq99
    have hw : kW E AA sx (List.flatten [ob E X u375, ob E Y u399]) H locs := hw
    refine W.eq (g2 := F0 mm 402 ls [.int r399, .int r375]) rfl ?_
    refine lv_aload_n hx hb dL_isStep_402 rfl (lv_at hl 8 rfl) ?_
    refine lv_iload hx hb dL_isStep_403 (lv_at hl 5 rfl) ?_
    refine lv_iload hx hb dL_isStep_405 (lv_at hl 4 rfl) ?_
    refine lv_isub hx hb dL_isStep_407 ?_
    refine W.eq (g2 := F0 mm 408 ls [.int (nI (us - uf)), .ref Y.1.1, .int r399, .int r375]) (congrArg (fun z9 => F0 mm 408 ls [.int z9, .ref Y.1.1, .int r399, .int r375]) (show ((nI us) - (nI uf) : Int32) = nI (us - uf) from pk_sub (by omega))) ?_
    refine k_VF (As := [.int (nI (us - uf))]) (rest := [.int r399, .int r375]) (pre := [ob E X u375]) (mid := [ob E Y u399]) C0 (p_run l hfl E Y u399 (us - uf) hp (by rw [h399.2]; exact hG) (by first | assumption | omega) (by rw [h399.2]; exact hd) (by rw [h399.2]; exact hR2.1.2.2.1) (by rw [h399.2]; exact hst0) (by first | assumption | omega) (by rw [h399.2]; exact hOK_sv hK)) (cwV 1 hts gL_isStep_X6_run rfl rfl rfl (by decide +kernel) ⟨Nat.le_of_ble_eq_true rfl, Nat.le_of_ble_eq_true rfl⟩) hw rfl hZ (fun (u408 : oT) => [ob E Y u408]) (fun _ => rfl) 0 6 rfl rfl rfl rfl hl.1 rfl (Nat.le_of_ble_eq_true rfl) dL_isStep_408 ⟨Nat.le_of_ble_eq_true rfl, Nat.le_of_ble_eq_true rfl⟩ (fun r u408 H locs hq99 hw => ?_)
    obtain ⟨r408, rfl⟩ : ∃ z, z = r := ⟨_, rfl⟩
    have h408 : r408 = nI (rb u399.1 hp (us - uf)).1 ∧ u408 = (rF u399.1 hp (us - uf), (u399.2.1, (u399.2.2.1, svJ u399))) := hq99
    have hw : kW E AA sx (List.flatten [ob E X u375, ob E Y u408]) H locs := hw
    refine W.eq (g2 := F0 mm 411 ls [.int r408, .int r399, .int r375]) rfl ?_
    refine lv_iadd hx hb dL_isStep_411 ?_
    refine lv_icmp_ne (tgt := 449) hx hb dL_isStep_412 (by decide) (fun c412 => absurd c412 (fun h99 => h99 (by rw [h375.1, h399.1, h408.1, h399.2, nI_add]; exact congrArg nI (rb_2 F hp huf9).2))) (fun c412 => ?_)
    refine lv_aload_n hx hb dL_isStep_415 rfl (lv_at hl 7 rfl) ?_
    refine k_VF (As := []) (rest := []) (pre := []) (mid := [ob E X u375]) C0 (o_slabs l hfl E X u375 (by rw [h375.2]; exact hG)) (cwV 0 hts gL_isStep_X6_slabs rfl rfl rfl (by decide +kernel) ⟨Nat.le_of_ble_eq_true rfl, Nat.le_of_ble_eq_true rfl⟩) hw rfl hZ (fun _ => [ob E X u375]) (fun _ => rfl) 0 6 rfl rfl rfl rfl hl.1 rfl (Nat.le_of_ble_eq_true rfl) dL_isStep_416 ⟨Nat.le_of_ble_eq_true rfl, Nat.le_of_ble_eq_true rfl⟩ (fun r u H locs hq99 hw => ?_)
    subst hq99
    have hw : kW E AA sx (List.flatten [ob E X u375, ob E Y u408]) H locs := hw
    refine W.eq (g2 := F0 mm 419 ls [.int (sumI u375.1.2.2.2.2.2.2.1 (u375.1.1 * u375.1.2.1))]) rfl ?_
    refine lv_iload hx hb dL_isStep_419 (lv_at hl 3 rfl) ?_
    refine lv_icmp_ne (tgt := 449) hx hb dL_isStep_421 (by decide) (fun c421 => absurd c421 (fun h99 => h99 (by rw [h375.2]; exact hR.2.2.1))) (fun c421 => ?_)
    refine lv_aload_n hx hb dL_isStep_424 rfl (lv_at hl 7 rfl) ?_
    refine k_SF (As := [.ref X.1.1]) (rest := []) (pre := []) (mid := [ob E X u375]) C0 (c_L_trapped l hfl E X u375 (by rw [h375.2]; exact hG) (by rw [h375.2]; exact hd)) (va_cwS 1 hts gL_isStep_L_trapped rfl rfl rfl (by decide +kernel) ⟨Nat.le_of_ble_eq_true rfl, Nat.le_of_ble_eq_true rfl⟩) hw rfl hZ (fun _ => [ob E X u375]) (fun _ => rfl) rfl hl.1 rfl (Nat.le_of_ble_eq_true rfl) dL_isStep_425 ⟨Nat.le_of_ble_eq_true rfl, Nat.le_of_ble_eq_true rfl⟩ (fun r u H locs hq99 hw => ?_)
    subst hq99
    have hw : kW E AA sx (List.flatten [ob E X u375, ob E Y u408]) H locs := hw
    refine W.eq (g2 := F0 mm 428 ls [.int (sumI (tpI u375.1.2.2.2.2.2.2.2.2.2.1 u375.1.2.2.2.2.2.2.2.2.2.2.1) (u375.1.1 * u375.1.2.1))]) rfl ?_
    refine lv_iload hx hb dL_isStep_428 (lv_at hl 2 rfl) ?_
    refine lv_icmp_lt (tgt := 449) hx hb dL_isStep_430 (by decide) (fun c430 => absurd c430 (by rw [h375.2]; exact hR.2.2.2.1)) (fun c430 => ?_)
    refine lv_iload hx hb dL_isStep_433 (lv_at hl 0 rfl) ?_
    refine lv_aload_n hx hb dL_isStep_435 rfl (lv_at hl 7 rfl) ?_
    refine k_SF (As := [.ref X.1.1]) (rest := [.int (u375.1.2.2.2.2.2.2.2.2.2.2.2.1 5)]) (pre := []) (mid := [ob E X u375]) C0 (c_L_trapped l hfl E X u375 (by rw [h375.2]; exact hG) (by rw [h375.2]; exact hd)) (va_cwS 1 hts gL_isStep_L_trapped rfl rfl rfl (by decide +kernel) ⟨Nat.le_of_ble_eq_true rfl, Nat.le_of_ble_eq_true rfl⟩) hw rfl hZ (fun _ => [ob E X u375]) (fun _ => rfl) rfl hl.1 rfl (Nat.le_of_ble_eq_true rfl) dL_isStep_436 ⟨Nat.le_of_ble_eq_true rfl, Nat.le_of_ble_eq_true rfl⟩ (fun r u H locs hq99 hw => ?_)
    subst hq99
    have hw : kW E AA sx (List.flatten [ob E X u375, ob E Y u408]) H locs := hw
    refine W.eq (g2 := F0 mm 439 ls [.int (sumI (tpI u375.1.2.2.2.2.2.2.2.2.2.1 u375.1.2.2.2.2.2.2.2.2.2.2.1) (u375.1.1 * u375.1.2.1)), .int (u375.1.2.2.2.2.2.2.2.2.2.2.2.1 5)]) rfl ?_
    refine lv_iload hx hb dL_isStep_439 (lv_at hl 2 rfl) ?_
    refine lv_isub hx hb dL_isStep_441 ?_
    refine lv_icmp_lt (tgt := 449) hx hb dL_isStep_442 (by decide) (fun c442 => absurd c442 (by rw [h375.2]; exact hR.2.2.2.2)) (fun c442 => ?_)
    refine lv_iconst (v := 1) hx hb dL_isStep_445 (by decide) ?_
    refine lv_goto (tgt := 450) hx hb dL_isStep_446 (by decide) ?_
    -- leaf 0
    exact vx_ret <| k_zret C0 hr hlk hw (u375, u408) (rfl) (⟨rfl, N + us, Nat.le_add_right _ _, by omega, by rw [h375.2, h408.2, h399.2]; exact ⟨(rb_2 F hp huf9).1.symm, hR.1.le (Nat.le_add_right _ _), hOK_sv hJ, hOK_sv (hOK_sv hK)⟩⟩) (rfl) (Nat.le_of_ble_eq_true rfl) (Nat.le_of_ble_eq_true rfl) dL_isStep_450
  · rcases (show js24 = 0 ∨ js24 = 1 ∨ js24 = 2 ∨ js24 = 3 ∨ js24 = 4 ∨ js24 = 5 by omega) with rfl | rfl | rfl | rfl | rfl | rfl
    · refine lv_tableIn (tgt := 64) (off := 40) hx hb dL_isStep_24 (by rw [hs24]; decide) (by rw [hs24]; decide) (by rw [hs24]; rfl) (by decide) ?_
      have hk24 : ku = 0 := by omega
      refine lv_aload_n hx hb dL_isStep_64 rfl (lv_at hl 1 rfl) ?_
      refine lv_iload_n hx hb dL_isStep_65 rfl (lv_at hl 0 rfl) ?_
      refine lv_iload_n hx hb dL_isStep_66 rfl (lv_at hl 3 rfl) ?_
      refine lv_bipush (v := 12) hx hb dL_isStep_67 (by decide) ?_
      refine lv_ishr hx hb dL_isStep_69 ?_
      refine lv_bipush (v := 15) hx hb dL_isStep_70 (by decide) ?_
      refine k_S (As := [.int (x >>> (12 &&& 31 : Int32)), .int 15]) (rest := [.int (nI kc), .ref X.1.1]) (pre := []) (mid := []) C0 (c_L_up l E (x >>> (12 &&& 31 : Int32)) 15 (by first | assumption | omega) (by first | assumption | omega)) (va_cwS 2 hts gL_isStep_L_up rfl rfl rfl (by decide +kernel) ⟨Nat.le_of_ble_eq_true rfl, Nat.le_of_ble_eq_true rfl⟩) hw rfl (fun _ => []) (fun _ => rfl) rfl hl.1 rfl (Nat.le_of_ble_eq_true rfl) dL_isStep_72 ⟨Nat.le_of_ble_eq_true rfl, Nat.le_of_ble_eq_true rfl⟩ (fun r u H locs hq99 hw => ?_)
      subst hq99
      have hw : kW E AA sx (List.flatten [ob E X (F, J), ob E Y (F, K)]) H locs := hw
      refine W.eq (g2 := F0 mm 75 ls [.int (nI (upN (x >>> (12 &&& 31 : Int32)) 15)), .int (nI kc), .ref X.1.1]) rfl ?_
      refine W.eq (g2 := F0 mm 75 ls [.int (nI uh), .int (nI kc), .ref X.1.1]) (congrArg (fun z9 => F0 mm 75 ls [.int z9, .int (nI kc), .ref X.1.1]) (show (nI (upN (x >>> (12 &&& 31 : Int32)) 15) : Int32) = nI uh from by rw [huh])) ?_
      refine k_VF (As := [.int (nI kc), .int (nI uh)]) (rest := []) (pre := []) (mid := [ob E X (F, J)]) C0 (p_setHeight l hfl E X (F, J) kc (nI uh) (by first | assumption | omega) (hkcl) (⟨nI_pos (by omega), nI_nlt (a := 99) (b := uh) (by omega) (by omega)⟩) (by first | assumption | omega)) (cwV 2 hts gL_isStep_X6_setHeight rfl rfl rfl (by decide +kernel) ⟨Nat.le_of_ble_eq_true rfl, Nat.le_of_ble_eq_true rfl⟩) hw rfl hZ (fun (u75 : oT) => [ob E X u75]) (fun _ => rfl) 0 6 rfl rfl rfl rfl hl.1 rfl (Nat.le_of_ble_eq_true rfl) dL_isStep_75 ⟨Nat.le_of_ble_eq_true rfl, Nat.le_of_ble_eq_true rfl⟩ (fun r u75 H locs hq99 hw => ?_)
      obtain ⟨r75, rfl⟩ : ∃ z, z = r := ⟨_, rfl⟩
      have h75 : r75 = F.2.2.2.2.2.2.1 kc ∧ u75 = (heF F kc (nI uh), (J.1, (J.2.1, svJ (F, J)))) := hq99
      have hw : kW E AA sx (List.flatten [ob E X u75, ob E Y (F, K)]) H locs := hw
      refine W.eq (g2 := F0 mm 78 ls [.int r75]) rfl ?_
      refine lv_aload_n hx hb dL_isStep_78 rfl (lv_at hl 2 rfl) ?_
      refine lv_iload_n hx hb dL_isStep_79 rfl (lv_at hl 0 rfl) ?_
      refine lv_iload_n hx hb dL_isStep_80 rfl (lv_at hl 3 rfl) ?_
      refine lv_bipush (v := 12) hx hb dL_isStep_81 (by decide) ?_
      refine lv_ishr hx hb dL_isStep_83 ?_
      refine lv_bipush (v := 15) hx hb dL_isStep_84 (by decide) ?_
      refine k_S (As := [.int (x >>> (12 &&& 31 : Int32)), .int 15]) (rest := [.int (nI kc), .ref Y.1.1, .int r75]) (pre := []) (mid := []) C0 (c_L_up l E (x >>> (12 &&& 31 : Int32)) 15 (by first | assumption | omega) (by first | assumption | omega)) (va_cwS 2 hts gL_isStep_L_up rfl rfl rfl (by decide +kernel) ⟨Nat.le_of_ble_eq_true rfl, Nat.le_of_ble_eq_true rfl⟩) hw rfl (fun _ => []) (fun _ => rfl) rfl hl.1 rfl (Nat.le_of_ble_eq_true rfl) dL_isStep_86 ⟨Nat.le_of_ble_eq_true rfl, Nat.le_of_ble_eq_true rfl⟩ (fun r u H locs hq99 hw => ?_)
      subst hq99
      have hw : kW E AA sx (List.flatten [ob E X u75, ob E Y (F, K)]) H locs := hw
      refine W.eq (g2 := F0 mm 89 ls [.int (nI (upN (x >>> (12 &&& 31 : Int32)) 15)), .int (nI kc), .ref Y.1.1, .int r75]) rfl ?_
      refine W.eq (g2 := F0 mm 89 ls [.int (nI uh), .int (nI kc), .ref Y.1.1, .int r75]) (congrArg (fun z9 => F0 mm 89 ls [.int z9, .int (nI kc), .ref Y.1.1, .int r75]) (show (nI (upN (x >>> (12 &&& 31 : Int32)) 15) : Int32) = nI uh from by rw [huh])) ?_
      refine k_VF (As := [.int (nI kc), .int (nI uh)]) (rest := [.int r75]) (pre := [ob E X u75]) (mid := [ob E Y (F, K)]) C0 (p_setHeight l hfl E Y (F, K) kc (nI uh) (by first | assumption | omega) (hkcl) (⟨nI_pos (by omega), nI_nlt (a := 99) (b := uh) (by omega) (by omega)⟩) (by first | assumption | omega)) (cwV 2 hts gL_isStep_X6_setHeight rfl rfl rfl (by decide +kernel) ⟨Nat.le_of_ble_eq_true rfl, Nat.le_of_ble_eq_true rfl⟩) hw rfl hZ (fun (u89 : oT) => [ob E Y u89]) (fun _ => rfl) 0 6 rfl rfl rfl rfl hl.1 rfl (Nat.le_of_ble_eq_true rfl) dL_isStep_89 ⟨Nat.le_of_ble_eq_true rfl, Nat.le_of_ble_eq_true rfl⟩ (fun r u89 H locs hq99 hw => ?_)
      obtain ⟨r89, rfl⟩ : ∃ z, z = r := ⟨_, rfl⟩
      have h89 : r89 = F.2.2.2.2.2.2.1 kc ∧ u89 = (heF F kc (nI uh), (K.1, (K.2.1, svJ (F, K)))) := hq99
      have hw : kW E AA sx (List.flatten [ob E X u75, ob E Y u89]) H locs := hw
      refine W.eq (g2 := F0 mm 92 ls [.int r89, .int r75]) rfl ?_
      refine lv_icmp_ne (tgt := 99) hx hb dL_isStep_92 (by decide) (fun c92 => absurd c92 (fun h99 => h99 (h75.1.trans h89.1.symm))) (fun c92 => ?_)
      refine lv_iconst (v := 1) hx hb dL_isStep_95 (by decide) ?_
      refine lv_goto (tgt := 100) hx hb dL_isStep_96 (by decide) ?_
      -- leaf 1
      exact vx_ret <| k_zret C0 hr hlk hw (u75, u89) (rfl) (⟨rfl, N, Nat.le_refl _, Nat.le_add_right _ _, by rw [h75.2, h89.2]; exact ⟨rfl, fs_he hF8 (by omega) hkcl (by omega), hOK_sv hJ, hOK_sv hK⟩⟩) (rfl) (Nat.le_of_ble_eq_true rfl) (Nat.le_of_ble_eq_true rfl) dL_isStep_100
    · refine lv_tableIn (tgt := 101) (off := 77) hx hb dL_isStep_24 (by rw [hs24]; decide) (by rw [hs24]; decide) (by rw [hs24]; rfl) (by decide) ?_
      have hk24 : ku = 1 := by omega
      refine lv_aload_n hx hb dL_isStep_101 rfl (lv_at hl 1 rfl) ?_
      refine lv_iload_n hx hb dL_isStep_102 rfl (lv_at hl 0 rfl) ?_
      refine lv_iload_n hx hb dL_isStep_103 rfl (lv_at hl 3 rfl) ?_
      refine lv_bipush (v := 12) hx hb dL_isStep_104 (by decide) ?_
      refine lv_ishr hx hb dL_isStep_106 ?_
      refine lv_bipush (v := 101) hx hb dL_isStep_107 (by decide) ?_
      refine k_S (As := [.int (x >>> (12 &&& 31 : Int32)), .int 101]) (rest := [.int (nI kc), .ref X.1.1]) (pre := []) (mid := []) C0 (c_L_up l E (x >>> (12 &&& 31 : Int32)) 101 (by first | assumption | omega) (by first | assumption | omega)) (va_cwS 2 hts gL_isStep_L_up rfl rfl rfl (by decide +kernel) ⟨Nat.le_of_ble_eq_true rfl, Nat.le_of_ble_eq_true rfl⟩) hw rfl (fun _ => []) (fun _ => rfl) rfl hl.1 rfl (Nat.le_of_ble_eq_true rfl) dL_isStep_109 ⟨Nat.le_of_ble_eq_true rfl, Nat.le_of_ble_eq_true rfl⟩ (fun r u H locs hq99 hw => ?_)
      subst hq99
      have hw : kW E AA sx (List.flatten [ob E X (F, J), ob E Y (F, K)]) H locs := hw
      refine W.eq (g2 := F0 mm 112 ls [.int (nI (upN (x >>> (12 &&& 31 : Int32)) 101)), .int (nI kc), .ref X.1.1]) rfl ?_
      refine W.eq (g2 := F0 mm 112 ls [.int (nI ut), .int (nI kc), .ref X.1.1]) (congrArg (fun z9 => F0 mm 112 ls [.int z9, .int (nI kc), .ref X.1.1]) (show (nI (upN (x >>> (12 &&& 31 : Int32)) 101) : Int32) = nI ut from by rw [hut])) ?_
      refine k_VF (As := [.int (nI kc), .int (nI ut)]) (rest := []) (pre := []) (mid := [ob E X (F, J)]) C0 (p_setTuft l hfl E X (F, J) kc (nI ut) (by first | assumption | omega) (hkcl) (⟨nI_pos (by omega), nI_nlt (a := 100) (b := ut) (by omega) (by omega)⟩) (by first | assumption | omega)) (cwV 2 hts gL_isStep_X6_setTuft rfl rfl rfl (by decide +kernel) ⟨Nat.le_of_ble_eq_true rfl, Nat.le_of_ble_eq_true rfl⟩) hw rfl hZ (fun (u112 : oT) => [ob E X u112]) (fun _ => rfl) 0 6 rfl rfl rfl rfl hl.1 rfl (Nat.le_of_ble_eq_true rfl) dL_isStep_112 ⟨Nat.le_of_ble_eq_true rfl, Nat.le_of_ble_eq_true rfl⟩ (fun r u112 H locs hq99 hw => ?_)
      obtain ⟨r112, rfl⟩ : ∃ z, z = r := ⟨_, rfl⟩
      have h112 : r112 = F.2.2.2.2.2.2.2.2.1 kc ∧ u112 = (tuF F kc (nI ut), (J.1, (J.2.1, svJ (F, J)))) := hq99
      have hw : kW E AA sx (List.flatten [ob E X u112, ob E Y (F, K)]) H locs := hw
      refine W.eq (g2 := F0 mm 115 ls [.int r112]) rfl ?_
      refine lv_aload_n hx hb dL_isStep_115 rfl (lv_at hl 2 rfl) ?_
      refine lv_iload_n hx hb dL_isStep_116 rfl (lv_at hl 0 rfl) ?_
      refine lv_iload_n hx hb dL_isStep_117 rfl (lv_at hl 3 rfl) ?_
      refine lv_bipush (v := 12) hx hb dL_isStep_118 (by decide) ?_
      refine lv_ishr hx hb dL_isStep_120 ?_
      refine lv_bipush (v := 101) hx hb dL_isStep_121 (by decide) ?_
      refine k_S (As := [.int (x >>> (12 &&& 31 : Int32)), .int 101]) (rest := [.int (nI kc), .ref Y.1.1, .int r112]) (pre := []) (mid := []) C0 (c_L_up l E (x >>> (12 &&& 31 : Int32)) 101 (by first | assumption | omega) (by first | assumption | omega)) (va_cwS 2 hts gL_isStep_L_up rfl rfl rfl (by decide +kernel) ⟨Nat.le_of_ble_eq_true rfl, Nat.le_of_ble_eq_true rfl⟩) hw rfl (fun _ => []) (fun _ => rfl) rfl hl.1 rfl (Nat.le_of_ble_eq_true rfl) dL_isStep_123 ⟨Nat.le_of_ble_eq_true rfl, Nat.le_of_ble_eq_true rfl⟩ (fun r u H locs hq99 hw => ?_)
      subst hq99
      have hw : kW E AA sx (List.flatten [ob E X u112, ob E Y (F, K)]) H locs := hw
      refine W.eq (g2 := F0 mm 126 ls [.int (nI (upN (x >>> (12 &&& 31 : Int32)) 101)), .int (nI kc), .ref Y.1.1, .int r112]) rfl ?_
      refine W.eq (g2 := F0 mm 126 ls [.int (nI ut), .int (nI kc), .ref Y.1.1, .int r112]) (congrArg (fun z9 => F0 mm 126 ls [.int z9, .int (nI kc), .ref Y.1.1, .int r112]) (show (nI (upN (x >>> (12 &&& 31 : Int32)) 101) : Int32) = nI ut from by rw [hut])) ?_
      refine k_VF (As := [.int (nI kc), .int (nI ut)]) (rest := [.int r112]) (pre := [ob E X u112]) (mid := [ob E Y (F, K)]) C0 (p_setTuft l hfl E Y (F, K) kc (nI ut) (by first | assumption | omega) (hkcl) (⟨nI_pos (by omega), nI_nlt (a := 100) (b := ut) (by omega) (by omega)⟩) (by first | assumption | omega)) (cwV 2 hts gL_isStep_X6_setTuft rfl rfl rfl (by decide +kernel) ⟨Nat.le_of_ble_eq_true rfl, Nat.le_of_ble_eq_true rfl⟩) hw rfl hZ (fun (u126 : oT) => [ob E Y u126]) (fun _ => rfl) 0 6 rfl rfl rfl rfl hl.1 rfl (Nat.le_of_ble_eq_true rfl) dL_isStep_126 ⟨Nat.le_of_ble_eq_true rfl, Nat.le_of_ble_eq_true rfl⟩ (fun r u126 H locs hq99 hw => ?_)
      obtain ⟨r126, rfl⟩ : ∃ z, z = r := ⟨_, rfl⟩
      have h126 : r126 = F.2.2.2.2.2.2.2.2.1 kc ∧ u126 = (tuF F kc (nI ut), (K.1, (K.2.1, svJ (F, K)))) := hq99
      have hw : kW E AA sx (List.flatten [ob E X u112, ob E Y u126]) H locs := hw
      refine W.eq (g2 := F0 mm 129 ls [.int r126, .int r112]) rfl ?_
      refine lv_icmp_ne (tgt := 136) hx hb dL_isStep_129 (by decide) (fun c129 => absurd c129 (fun h99 => h99 (h112.1.trans h126.1.symm))) (fun c129 => ?_)
      refine lv_iconst (v := 1) hx hb dL_isStep_132 (by decide) ?_
      refine lv_goto (tgt := 137) hx hb dL_isStep_133 (by decide) ?_
      -- leaf 2
      exact vx_ret <| k_zret C0 hr hlk hw (u112, u126) (rfl) (⟨rfl, N, Nat.le_refl _, Nat.le_add_right _ _, by rw [h112.2, h126.2]; exact ⟨rfl, (fs_tu hF8).le (Nat.le_add_right _ _), hOK_sv hJ, hOK_sv hK⟩⟩) (rfl) (Nat.le_of_ble_eq_true rfl) (Nat.le_of_ble_eq_true rfl) dL_isStep_137
    · refine lv_tableIn (tgt := 138) (off := 114) hx hb dL_isStep_24 (by rw [hs24]; decide) (by rw [hs24]; decide) (by rw [hs24]; rfl) (by decide) ?_
      have hk24 : ku = 2 := by omega
      refine lv_iload_n hx hb dL_isStep_138 rfl (lv_at hl 3 rfl) ?_
      refine lv_bipush (v := 12) hx hb dL_isStep_139 (by decide) ?_
      refine lv_ishr hx hb dL_isStep_141 ?_
      refine lv_iconst (v := 1) hx hb dL_isStep_142 (by decide) ?_
      refine lv_iand hx hb dL_isStep_143 ?_
      refine lv_if_ne (tgt := 151) hx hb dL_isStep_144 (by decide) (fun c144 => ?_) (fun c144 => ?_)
      · have hv9 : nI (1 + uc) = -1 ∨ (¬ nI (1 + uc) < 1 ∧ ¬ 50 < nI (1 + uc)) := Or.inr ⟨nI_nlt (a := 1 + uc) (b := 1) (by omega) (by omega), nI_nlt (a := 50) (b := 1 + uc) (by omega) (by omega)⟩
        have hv8 : nI (1 + uc) = -1 ∨ ∃ c : Nat, 1 ≤ c ∧ c ≤ 50 ∧ nI (1 + uc) = nI c := Or.inr ⟨1 + uc, by omega, by omega, rfl⟩
        refine lv_iconst (v := 1) hx hb dL_isStep_151 (by decide) ?_
        refine lv_iload_n hx hb dL_isStep_152 rfl (lv_at hl 3 rfl) ?_
        refine lv_bipush (v := 13) hx hb dL_isStep_153 (by decide) ?_
        refine lv_ishr hx hb dL_isStep_155 ?_
        refine lv_bipush (v := 50) hx hb dL_isStep_156 (by decide) ?_
        refine k_S (As := [.int (x >>> (13 &&& 31 : Int32)), .int 50]) (rest := [.int 1]) (pre := []) (mid := []) C0 (c_L_up l E (x >>> (13 &&& 31 : Int32)) 50 (by first | assumption | omega) (by first | assumption | omega)) (va_cwS 2 hts gL_isStep_L_up rfl rfl rfl (by decide +kernel) ⟨Nat.le_of_ble_eq_true rfl, Nat.le_of_ble_eq_true rfl⟩) hw rfl (fun _ => []) (fun _ => rfl) rfl hl.1 rfl (Nat.le_of_ble_eq_true rfl) dL_isStep_158 ⟨Nat.le_of_ble_eq_true rfl, Nat.le_of_ble_eq_true rfl⟩ (fun r u H locs hq99 hw => ?_)
        subst hq99
        have hw : kW E AA sx (List.flatten [ob E X (F, J), ob E Y (F, K)]) H locs := hw
        refine W.eq (g2 := F0 mm 161 ls [.int (nI (upN (x >>> (13 &&& 31 : Int32)) 50)), .int 1]) rfl ?_
        refine W.eq (g2 := F0 mm 161 ls [.int (nI uc), .int 1]) (congrArg (fun z9 => F0 mm 161 ls [.int z9, .int 1]) (show (nI (upN (x >>> (13 &&& 31 : Int32)) 50) : Int32) = nI uc from by rw [huc])) ?_
        refine lv_iadd hx hb dL_isStep_161 ?_
        refine W.eq (g2 := F0 mm 162 ls [.int (nI (1 + uc))]) (congrArg (fun z9 => F0 mm 162 ls [.int z9]) (show (1 + (nI uc) : Int32) = nI (1 + uc) from nI_add 1 _)) ?_
        refine lv_istore (lv' := [(4, .int (nI (1 + uc))), (3, .int (nI kc)), (0, .ref X.1.1), (1, .ref Y.1.1), (2, .int x)]) hx hb dL_isStep_162 hl (by decide) rfl (fun ls hl => ?_)
        refine lv_aload_n hx hb dL_isStep_164 rfl (lv_at hl 2 rfl) ?_
        refine lv_iload_n hx hb dL_isStep_165 rfl (lv_at hl 1 rfl) ?_
        refine lv_iload hx hb dL_isStep_166 (lv_at hl 0 rfl) ?_
        refine k_VF (As := [.int (nI kc), .int (nI (1 + uc))]) (rest := []) (pre := []) (mid := [ob E X (F, J)]) C0 (p_setFence l hfl E X (F, J) kc (nI (1 + uc)) (by first | assumption | omega) (hkcl) (hv9) (by first | assumption | omega)) (cwV 2 hts gL_isStep_X6_setFence rfl rfl rfl (by decide +kernel) ⟨Nat.le_of_ble_eq_true rfl, Nat.le_of_ble_eq_true rfl⟩) hw rfl hZ (fun (u168 : oT) => [ob E X u168]) (fun _ => rfl) 0 6 rfl rfl rfl rfl hl.1 rfl (Nat.le_of_ble_eq_true rfl) dL_isStep_168 ⟨Nat.le_of_ble_eq_true rfl, Nat.le_of_ble_eq_true rfl⟩ (fun r u168 H locs hq99 hw => ?_)
        obtain ⟨r168, rfl⟩ : ∃ z, z = r := ⟨_, rfl⟩
        have h168 : r168 = trpN F.2.2.2.2.2.2.2.2.2.1 F.2.2.2.2.2.2.2.2.2.2.1 kc ∧ u168 = (caF F kc (nI (1 + uc)), (J.1, (J.2.1, svJ (F, J)))) := hq99
        have hw : kW E AA sx (List.flatten [ob E X u168, ob E Y (F, K)]) H locs := hw
        refine W.eq (g2 := F0 mm 171 ls [.int r168]) rfl ?_
        refine lv_aload_n hx hb dL_isStep_171 rfl (lv_at hl 3 rfl) ?_
        refine lv_iload_n hx hb dL_isStep_172 rfl (lv_at hl 1 rfl) ?_
        refine lv_iload hx hb dL_isStep_173 (lv_at hl 0 rfl) ?_
        refine k_VF (As := [.int (nI kc), .int (nI (1 + uc))]) (rest := [.int r168]) (pre := [ob E X u168]) (mid := [ob E Y (F, K)]) C0 (p_setFence l hfl E Y (F, K) kc (nI (1 + uc)) (by first | assumption | omega) (hkcl) (hv9) (by first | assumption | omega)) (cwV 2 hts gL_isStep_X6_setFence rfl rfl rfl (by decide +kernel) ⟨Nat.le_of_ble_eq_true rfl, Nat.le_of_ble_eq_true rfl⟩) hw rfl hZ (fun (u175 : oT) => [ob E Y u175]) (fun _ => rfl) 0 6 rfl rfl rfl rfl hl.1 rfl (Nat.le_of_ble_eq_true rfl) dL_isStep_175 ⟨Nat.le_of_ble_eq_true rfl, Nat.le_of_ble_eq_true rfl⟩ (fun r u175 H locs hq99 hw => ?_)
        obtain ⟨r175, rfl⟩ : ∃ z, z = r := ⟨_, rfl⟩
        have h175 : r175 = trpN F.2.2.2.2.2.2.2.2.2.1 F.2.2.2.2.2.2.2.2.2.2.1 kc ∧ u175 = (caF F kc (nI (1 + uc)), (K.1, (K.2.1, svJ (F, K)))) := hq99
        have hw : kW E AA sx (List.flatten [ob E X u168, ob E Y u175]) H locs := hw
        refine W.eq (g2 := F0 mm 178 ls [.int r175, .int r168]) rfl ?_
        refine lv_icmp_ne (tgt := 185) hx hb dL_isStep_178 (by decide) (fun c178 => absurd c178 (fun h99 => h99 (h168.1.trans h175.1.symm))) (fun c178 => ?_)
        refine lv_iconst (v := 1) hx hb dL_isStep_181 (by decide) ?_
        refine lv_goto (tgt := 186) hx hb dL_isStep_182 (by decide) ?_
        -- leaf 3
        exact vx_ret <| k_zret C0 hr hlk hw (u168, u175) (rfl) (⟨rfl, N, Nat.le_refl _, Nat.le_add_right _ _, by rw [h168.2, h175.2]; exact ⟨rfl, (fs_ca hF8 hv8).le (Nat.le_add_right _ _), hOK_sv hJ, hOK_sv hK⟩⟩) (rfl) (Nat.le_of_ble_eq_true rfl) (Nat.le_of_ble_eq_true rfl) dL_isStep_186
      · have hv9 : (-1 : Int32) = -1 ∨ (¬ (-1 : Int32) < 1 ∧ ¬ (50 : Int32) < -1) := Or.inl rfl
        have hv8 : (-1 : Int32) = -1 ∨ ∃ c : Nat, 1 ≤ c ∧ c ≤ 50 ∧ (-1 : Int32) = nI c := Or.inl rfl
        refine lv_iconst (v := (-1)) hx hb dL_isStep_147 (by decide) ?_
        refine lv_goto (tgt := 162) hx hb dL_isStep_148 (by decide) ?_
        refine lv_istore (lv' := [(4, .int (-1)), (3, .int (nI kc)), (0, .ref X.1.1), (1, .ref Y.1.1), (2, .int x)]) hx hb dL_isStep_162 hl (by decide) rfl (fun ls hl => ?_)
        refine lv_aload_n hx hb dL_isStep_164 rfl (lv_at hl 2 rfl) ?_
        refine lv_iload_n hx hb dL_isStep_165 rfl (lv_at hl 1 rfl) ?_
        refine lv_iload hx hb dL_isStep_166 (lv_at hl 0 rfl) ?_
        refine k_VF (As := [.int (nI kc), .int (-1)]) (rest := []) (pre := []) (mid := [ob E X (F, J)]) C0 (p_setFence l hfl E X (F, J) kc (-1) (by first | assumption | omega) (hkcl) (hv9) (by first | assumption | omega)) (cwV 2 hts gL_isStep_X6_setFence rfl rfl rfl (by decide +kernel) ⟨Nat.le_of_ble_eq_true rfl, Nat.le_of_ble_eq_true rfl⟩) hw rfl hZ (fun (u168 : oT) => [ob E X u168]) (fun _ => rfl) 0 6 rfl rfl rfl rfl hl.1 rfl (Nat.le_of_ble_eq_true rfl) dL_isStep_168 ⟨Nat.le_of_ble_eq_true rfl, Nat.le_of_ble_eq_true rfl⟩ (fun r u168 H locs hq99 hw => ?_)
        obtain ⟨r168, rfl⟩ : ∃ z, z = r := ⟨_, rfl⟩
        have h168 : r168 = trpN F.2.2.2.2.2.2.2.2.2.1 F.2.2.2.2.2.2.2.2.2.2.1 kc ∧ u168 = (caF F kc (-1), (J.1, (J.2.1, svJ (F, J)))) := hq99
        have hw : kW E AA sx (List.flatten [ob E X u168, ob E Y (F, K)]) H locs := hw
        refine W.eq (g2 := F0 mm 171 ls [.int r168]) rfl ?_
        refine lv_aload_n hx hb dL_isStep_171 rfl (lv_at hl 3 rfl) ?_
        refine lv_iload_n hx hb dL_isStep_172 rfl (lv_at hl 1 rfl) ?_
        refine lv_iload hx hb dL_isStep_173 (lv_at hl 0 rfl) ?_
        refine k_VF (As := [.int (nI kc), .int (-1)]) (rest := [.int r168]) (pre := [ob E X u168]) (mid := [ob E Y (F, K)]) C0 (p_setFence l hfl E Y (F, K) kc (-1) (by first | assumption | omega) (hkcl) (hv9) (by first | assumption | omega)) (cwV 2 hts gL_isStep_X6_setFence rfl rfl rfl (by decide +kernel) ⟨Nat.le_of_ble_eq_true rfl, Nat.le_of_ble_eq_true rfl⟩) hw rfl hZ (fun (u175 : oT) => [ob E Y u175]) (fun _ => rfl) 0 6 rfl rfl rfl rfl hl.1 rfl (Nat.le_of_ble_eq_true rfl) dL_isStep_175 ⟨Nat.le_of_ble_eq_true rfl, Nat.le_of_ble_eq_true rfl⟩ (fun r u175 H locs hq99 hw => ?_)
        obtain ⟨r175, rfl⟩ : ∃ z, z = r := ⟨_, rfl⟩
        have h175 : r175 = trpN F.2.2.2.2.2.2.2.2.2.1 F.2.2.2.2.2.2.2.2.2.2.1 kc ∧ u175 = (caF F kc (-1), (K.1, (K.2.1, svJ (F, K)))) := hq99
        have hw : kW E AA sx (List.flatten [ob E X u168, ob E Y u175]) H locs := hw
        refine W.eq (g2 := F0 mm 178 ls [.int r175, .int r168]) rfl ?_
        refine lv_icmp_ne (tgt := 185) hx hb dL_isStep_178 (by decide) (fun c178 => absurd c178 (fun h99 => h99 (h168.1.trans h175.1.symm))) (fun c178 => ?_)
        refine lv_iconst (v := 1) hx hb dL_isStep_181 (by decide) ?_
        refine lv_goto (tgt := 186) hx hb dL_isStep_182 (by decide) ?_
        -- leaf 4
        exact vx_ret <| k_zret C0 hr hlk hw (u168, u175) (rfl) (⟨rfl, N, Nat.le_refl _, Nat.le_add_right _ _, by rw [h168.2, h175.2]; exact ⟨rfl, (fs_ca hF8 hv8).le (Nat.le_add_right _ _), hOK_sv hJ, hOK_sv hK⟩⟩) (rfl) (Nat.le_of_ble_eq_true rfl) (Nat.le_of_ble_eq_true rfl) dL_isStep_186
    · refine lv_tableIn (tgt := 187) (off := 163) hx hb dL_isStep_24 (by rw [hs24]; decide) (by rw [hs24]; decide) (by rw [hs24]; rfl) (by decide) ?_
      have hk24 : ku = 3 := by omega
      refine lv_iload_n hx hb dL_isStep_187 rfl (lv_at hl 3 rfl) ?_
      refine lv_iconst (v := 4) hx hb dL_isStep_188 (by decide) ?_
      refine lv_ishr hx hb dL_isStep_189 ?_
      refine lv_iconst (v := 4) hx hb dL_isStep_190 (by decide) ?_
      refine k_S (As := [.int (x >>> (4 &&& 31 : Int32)), .int 4]) (rest := []) (pre := []) (mid := []) C0 (c_L_up l E (x >>> (4 &&& 31 : Int32)) 4 (by first | assumption | omega) (by first | assumption | omega)) (va_cwS 2 hts gL_isStep_L_up rfl rfl rfl (by decide +kernel) ⟨Nat.le_of_ble_eq_true rfl, Nat.le_of_ble_eq_true rfl⟩) hw rfl (fun _ => []) (fun _ => rfl) rfl hl.1 rfl (Nat.le_of_ble_eq_true rfl) dL_isStep_191 ⟨Nat.le_of_ble_eq_true rfl, Nat.le_of_ble_eq_true rfl⟩ (fun r u H locs hq99 hw => ?_)
      subst hq99
      have hw : kW E AA sx (List.flatten [ob E X (F, J), ob E Y (F, K)]) H locs := hw
      refine W.eq (g2 := F0 mm 194 ls [.int (nI (upN (x >>> (4 &&& 31 : Int32)) 4))]) rfl ?_
      refine W.eq (g2 := F0 mm 194 ls [.int (nI us4)]) (congrArg (fun z9 => F0 mm 194 ls [.int z9]) (show (nI (upN (x >>> (4 &&& 31 : Int32)) 4) : Int32) = nI us4 from by rw [hus4])) ?_
      refine lv_istore (lv' := [(4, .int (nI us4)), (3, .int (nI kc)), (0, .ref X.1.1), (1, .ref Y.1.1), (2, .int x)]) hx hb dL_isStep_194 hl (by decide) rfl (fun ls hl => ?_)
      refine lv_iload hx hb dL_isStep_196 (lv_at hl 0 rfl) ?_
      refine lv_if_ne (tgt := 215) hx hb dL_isStep_198 (by decide) (fun c198 => ?_) (fun c198 => ?_)
      · have c198 : ¬ us4 = 0 := fun h99 => c198 ((nI_eq (a := us4) (b := 0) (by omega) (by omega)).mpr h99)
        refine lv_iload hx hb dL_isStep_215 (lv_at hl 0 rfl) ?_
        refine lv_iconst (v := 3) hx hb dL_isStep_217 (by decide) ?_
        refine lv_icmp_ne (tgt := 234) hx hb dL_isStep_218 (by decide) (fun c218 => ?_) (fun c218 => ?_)
        · have c218 : ¬ us4 = 3 := fun h99 => c218 ((nI_eq (a := us4) (b := 3) (by omega) (by omega)).mpr h99)
          have hv9 : stB (nI us4) (nI u101) = true := st_ok1 (by omega) u101 hu101l
          have hv8 : fOK B N (stF9 F us4 (nI u101)) := fs_st1 hF8 (by omega)
          refine lv_iload_n hx hb dL_isStep_234 rfl (lv_at hl 4 rfl) ?_
          refine lv_bipush (v := 6) hx hb dL_isStep_235 (by decide) ?_
          refine lv_ishr hx hb dL_isStep_237 ?_
          refine lv_bipush (v := 101) hx hb dL_isStep_238 (by decide) ?_
          refine k_S (As := [.int (x >>> (6 &&& 31 : Int32)), .int 101]) (rest := []) (pre := []) (mid := []) C0 (c_L_up l E (x >>> (6 &&& 31 : Int32)) 101 (by first | assumption | omega) (by first | assumption | omega)) (va_cwS 2 hts gL_isStep_L_up rfl rfl rfl (by decide +kernel) ⟨Nat.le_of_ble_eq_true rfl, Nat.le_of_ble_eq_true rfl⟩) hw rfl (fun _ => []) (fun _ => rfl) rfl hl.1 rfl (Nat.le_of_ble_eq_true rfl) dL_isStep_240 ⟨Nat.le_of_ble_eq_true rfl, Nat.le_of_ble_eq_true rfl⟩ (fun r u H locs hq99 hw => ?_)
          subst hq99
          have hw : kW E AA sx (List.flatten [ob E X (F, J), ob E Y (F, K)]) H locs := hw
          refine W.eq (g2 := F0 mm 243 ls [.int (nI (upN (x >>> (6 &&& 31 : Int32)) 101))]) rfl ?_
          refine W.eq (g2 := F0 mm 243 ls [.int (nI u101)]) (congrArg (fun z9 => F0 mm 243 ls [.int z9]) (show (nI (upN (x >>> (6 &&& 31 : Int32)) 101) : Int32) = nI u101 from by rw [hu101])) ?_
          refine lv_istore (lv' := [(5, .int (nI u101)), (4, .int (nI us4)), (3, .int (nI kc)), (0, .ref X.1.1), (1, .ref Y.1.1), (2, .int x)]) hx hb dL_isStep_243 hl (by decide) rfl (fun ls hl => ?_)
          refine lv_aload_n hx hb dL_isStep_245 rfl (lv_at hl 3 rfl) ?_
          refine lv_iload hx hb dL_isStep_246 (lv_at hl 1 rfl) ?_
          refine lv_iload hx hb dL_isStep_248 (lv_at hl 0 rfl) ?_
          refine k_VF (As := [.int (nI us4), .int (nI u101)]) (rest := []) (pre := []) (mid := [ob E X (F, J)]) C0 (p_set l hfl E X (F, J) us4 (nI u101) (hus4l) (hv9) (by first | assumption | omega)) (cwV 2 hts gL_isStep_X6_set rfl rfl rfl (by decide +kernel) ⟨Nat.le_of_ble_eq_true rfl, Nat.le_of_ble_eq_true rfl⟩) hw rfl hZ (fun (u250 : oT) => [ob E X u250]) (fun _ => rfl) 0 6 rfl rfl rfl rfl hl.1 rfl (Nat.le_of_ble_eq_true rfl) dL_isStep_250 ⟨Nat.le_of_ble_eq_true rfl, Nat.le_of_ble_eq_true rfl⟩ (fun r u250 H locs hq99 hw => ?_)
          obtain ⟨r250, rfl⟩ : ∃ z, z = r := ⟨_, rfl⟩
          have h250 : r250 = F.2.2.2.2.2.1 us4 ∧ u250 = (stF9 F us4 (nI u101), (J.1, (J.2.1, svJ (F, J)))) := hq99
          have hw : kW E AA sx (List.flatten [ob E X u250, ob E Y (F, K)]) H locs := hw
          refine W.eq (g2 := F0 mm 253 ls [.int r250]) rfl ?_
          refine lv_aload_n hx hb dL_isStep_253 rfl (lv_at hl 4 rfl) ?_
          refine lv_iload hx hb dL_isStep_254 (lv_at hl 1 rfl) ?_
          refine lv_iload hx hb dL_isStep_256 (lv_at hl 0 rfl) ?_
          refine k_VF (As := [.int (nI us4), .int (nI u101)]) (rest := [.int r250]) (pre := [ob E X u250]) (mid := [ob E Y (F, K)]) C0 (p_set l hfl E Y (F, K) us4 (nI u101) (hus4l) (hv9) (by first | assumption | omega)) (cwV 2 hts gL_isStep_X6_set rfl rfl rfl (by decide +kernel) ⟨Nat.le_of_ble_eq_true rfl, Nat.le_of_ble_eq_true rfl⟩) hw rfl hZ (fun (u258 : oT) => [ob E Y u258]) (fun _ => rfl) 0 6 rfl rfl rfl rfl hl.1 rfl (Nat.le_of_ble_eq_true rfl) dL_isStep_258 ⟨Nat.le_of_ble_eq_true rfl, Nat.le_of_ble_eq_true rfl⟩ (fun r u258 H locs hq99 hw => ?_)
          obtain ⟨r258, rfl⟩ : ∃ z, z = r := ⟨_, rfl⟩
          have h258 : r258 = F.2.2.2.2.2.1 us4 ∧ u258 = (stF9 F us4 (nI u101), (K.1, (K.2.1, svJ (F, K)))) := hq99
          have hw : kW E AA sx (List.flatten [ob E X u250, ob E Y u258]) H locs := hw
          refine W.eq (g2 := F0 mm 261 ls [.int r258, .int r250]) rfl ?_
          refine lv_icmp_ne (tgt := 268) hx hb dL_isStep_261 (by decide) (fun c261 => absurd c261 (fun h99 => h99 (h250.1.trans h258.1.symm))) (fun c261 => ?_)
          refine lv_iconst (v := 1) hx hb dL_isStep_264 (by decide) ?_
          refine lv_goto (tgt := 269) hx hb dL_isStep_265 (by decide) ?_
          -- leaf 5
          exact vx_ret <| k_zret C0 hr hlk hw (u250, u258) (rfl) (⟨rfl, N, Nat.le_refl _, Nat.le_add_right _ _, by rw [h250.2, h258.2]; exact ⟨rfl, hv8.le (Nat.le_add_right _ _), hOK_sv hJ, hOK_sv hK⟩⟩) (rfl) (Nat.le_of_ble_eq_true rfl) (Nat.le_of_ble_eq_true rfl) dL_isStep_269
        · have c218 : us4 = 3 := (nI_eq (a := us4) (b := 3) (by omega) (by omega)).mp c218
          have hv9 : stB (nI us4) (nI (1 + u5)) = true := by rw [c218]; exact st_ok3 u5 hu5l
          have hv8 : fOK B N (stF9 F us4 (nI (1 + u5))) := by rw [c218]; exact fs_st3 hF8 hu5l
          refine lv_iconst (v := 1) hx hb dL_isStep_221 (by decide) ?_
          refine lv_iload_n hx hb dL_isStep_222 rfl (lv_at hl 4 rfl) ?_
          refine lv_bipush (v := 6) hx hb dL_isStep_223 (by decide) ?_
          refine lv_ishr hx hb dL_isStep_225 ?_
          refine lv_iconst (v := 5) hx hb dL_isStep_226 (by decide) ?_
          refine k_S (As := [.int (x >>> (6 &&& 31 : Int32)), .int 5]) (rest := [.int 1]) (pre := []) (mid := []) C0 (c_L_up l E (x >>> (6 &&& 31 : Int32)) 5 (by first | assumption | omega) (by first | assumption | omega)) (va_cwS 2 hts gL_isStep_L_up rfl rfl rfl (by decide +kernel) ⟨Nat.le_of_ble_eq_true rfl, Nat.le_of_ble_eq_true rfl⟩) hw rfl (fun _ => []) (fun _ => rfl) rfl hl.1 rfl (Nat.le_of_ble_eq_true rfl) dL_isStep_227 ⟨Nat.le_of_ble_eq_true rfl, Nat.le_of_ble_eq_true rfl⟩ (fun r u H locs hq99 hw => ?_)
          subst hq99
          have hw : kW E AA sx (List.flatten [ob E X (F, J), ob E Y (F, K)]) H locs := hw
          refine W.eq (g2 := F0 mm 230 ls [.int (nI (upN (x >>> (6 &&& 31 : Int32)) 5)), .int 1]) rfl ?_
          refine W.eq (g2 := F0 mm 230 ls [.int (nI u5), .int 1]) (congrArg (fun z9 => F0 mm 230 ls [.int z9, .int 1]) (show (nI (upN (x >>> (6 &&& 31 : Int32)) 5) : Int32) = nI u5 from by rw [hu5])) ?_
          refine lv_iadd hx hb dL_isStep_230 ?_
          refine W.eq (g2 := F0 mm 231 ls [.int (nI (1 + u5))]) (congrArg (fun z9 => F0 mm 231 ls [.int z9]) (show (1 + (nI u5) : Int32) = nI (1 + u5) from nI_add 1 _)) ?_
          refine lv_goto (tgt := 243) hx hb dL_isStep_231 (by decide) ?_
          refine lv_istore (lv' := [(5, .int (nI (1 + u5))), (4, .int (nI us4)), (3, .int (nI kc)), (0, .ref X.1.1), (1, .ref Y.1.1), (2, .int x)]) hx hb dL_isStep_243 hl (by decide) rfl (fun ls hl => ?_)
          refine lv_aload_n hx hb dL_isStep_245 rfl (lv_at hl 3 rfl) ?_
          refine lv_iload hx hb dL_isStep_246 (lv_at hl 1 rfl) ?_
          refine lv_iload hx hb dL_isStep_248 (lv_at hl 0 rfl) ?_
          refine k_VF (As := [.int (nI us4), .int (nI (1 + u5))]) (rest := []) (pre := []) (mid := [ob E X (F, J)]) C0 (p_set l hfl E X (F, J) us4 (nI (1 + u5)) (hus4l) (hv9) (by first | assumption | omega)) (cwV 2 hts gL_isStep_X6_set rfl rfl rfl (by decide +kernel) ⟨Nat.le_of_ble_eq_true rfl, Nat.le_of_ble_eq_true rfl⟩) hw rfl hZ (fun (u250 : oT) => [ob E X u250]) (fun _ => rfl) 0 6 rfl rfl rfl rfl hl.1 rfl (Nat.le_of_ble_eq_true rfl) dL_isStep_250 ⟨Nat.le_of_ble_eq_true rfl, Nat.le_of_ble_eq_true rfl⟩ (fun r u250 H locs hq99 hw => ?_)
          obtain ⟨r250, rfl⟩ : ∃ z, z = r := ⟨_, rfl⟩
          have h250 : r250 = F.2.2.2.2.2.1 us4 ∧ u250 = (stF9 F us4 (nI (1 + u5)), (J.1, (J.2.1, svJ (F, J)))) := hq99
          have hw : kW E AA sx (List.flatten [ob E X u250, ob E Y (F, K)]) H locs := hw
          refine W.eq (g2 := F0 mm 253 ls [.int r250]) rfl ?_
          refine lv_aload_n hx hb dL_isStep_253 rfl (lv_at hl 4 rfl) ?_
          refine lv_iload hx hb dL_isStep_254 (lv_at hl 1 rfl) ?_
          refine lv_iload hx hb dL_isStep_256 (lv_at hl 0 rfl) ?_
          refine k_VF (As := [.int (nI us4), .int (nI (1 + u5))]) (rest := [.int r250]) (pre := [ob E X u250]) (mid := [ob E Y (F, K)]) C0 (p_set l hfl E Y (F, K) us4 (nI (1 + u5)) (hus4l) (hv9) (by first | assumption | omega)) (cwV 2 hts gL_isStep_X6_set rfl rfl rfl (by decide +kernel) ⟨Nat.le_of_ble_eq_true rfl, Nat.le_of_ble_eq_true rfl⟩) hw rfl hZ (fun (u258 : oT) => [ob E Y u258]) (fun _ => rfl) 0 6 rfl rfl rfl rfl hl.1 rfl (Nat.le_of_ble_eq_true rfl) dL_isStep_258 ⟨Nat.le_of_ble_eq_true rfl, Nat.le_of_ble_eq_true rfl⟩ (fun r u258 H locs hq99 hw => ?_)
          obtain ⟨r258, rfl⟩ : ∃ z, z = r := ⟨_, rfl⟩
          have h258 : r258 = F.2.2.2.2.2.1 us4 ∧ u258 = (stF9 F us4 (nI (1 + u5)), (K.1, (K.2.1, svJ (F, K)))) := hq99
          have hw : kW E AA sx (List.flatten [ob E X u250, ob E Y u258]) H locs := hw
          refine W.eq (g2 := F0 mm 261 ls [.int r258, .int r250]) rfl ?_
          refine lv_icmp_ne (tgt := 268) hx hb dL_isStep_261 (by decide) (fun c261 => absurd c261 (fun h99 => h99 (h250.1.trans h258.1.symm))) (fun c261 => ?_)
          refine lv_iconst (v := 1) hx hb dL_isStep_264 (by decide) ?_
          refine lv_goto (tgt := 269) hx hb dL_isStep_265 (by decide) ?_
          -- leaf 6
          exact vx_ret <| k_zret C0 hr hlk hw (u250, u258) (rfl) (⟨rfl, N, Nat.le_refl _, Nat.le_add_right _ _, by rw [h250.2, h258.2]; exact ⟨rfl, hv8.le (Nat.le_add_right _ _), hOK_sv hJ, hOK_sv hK⟩⟩) (rfl) (Nat.le_of_ble_eq_true rfl) (Nat.le_of_ble_eq_true rfl) dL_isStep_269
      · have c198 : us4 = 0 := (nI_eq (a := us4) (b := 0) (by omega) (by omega)).mp c198
        have hv9 : stB (nI us4) (nI (1 + u8)) = true := by rw [c198]; exact st_ok u8 hu8l
        have hv8 : fOK B N (stF9 F us4 (nI (1 + u8))) := by rw [c198]; exact fs_st0 hF8 hu8l
        refine lv_iconst (v := 1) hx hb dL_isStep_201 (by decide) ?_
        refine lv_iload_n hx hb dL_isStep_202 rfl (lv_at hl 4 rfl) ?_
        refine lv_bipush (v := 6) hx hb dL_isStep_203 (by decide) ?_
        refine lv_ishr hx hb dL_isStep_205 ?_
        refine lv_bipush (v := 8) hx hb dL_isStep_206 (by decide) ?_
        refine k_S (As := [.int (x >>> (6 &&& 31 : Int32)), .int 8]) (rest := [.int 1]) (pre := []) (mid := []) C0 (c_L_up l E (x >>> (6 &&& 31 : Int32)) 8 (by first | assumption | omega) (by first | assumption | omega)) (va_cwS 2 hts gL_isStep_L_up rfl rfl rfl (by decide +kernel) ⟨Nat.le_of_ble_eq_true rfl, Nat.le_of_ble_eq_true rfl⟩) hw rfl (fun _ => []) (fun _ => rfl) rfl hl.1 rfl (Nat.le_of_ble_eq_true rfl) dL_isStep_208 ⟨Nat.le_of_ble_eq_true rfl, Nat.le_of_ble_eq_true rfl⟩ (fun r u H locs hq99 hw => ?_)
        subst hq99
        have hw : kW E AA sx (List.flatten [ob E X (F, J), ob E Y (F, K)]) H locs := hw
        refine W.eq (g2 := F0 mm 211 ls [.int (nI (upN (x >>> (6 &&& 31 : Int32)) 8)), .int 1]) rfl ?_
        refine W.eq (g2 := F0 mm 211 ls [.int (nI u8), .int 1]) (congrArg (fun z9 => F0 mm 211 ls [.int z9, .int 1]) (show (nI (upN (x >>> (6 &&& 31 : Int32)) 8) : Int32) = nI u8 from by rw [hu8])) ?_
        refine lv_iadd hx hb dL_isStep_211 ?_
        refine W.eq (g2 := F0 mm 212 ls [.int (nI (1 + u8))]) (congrArg (fun z9 => F0 mm 212 ls [.int z9]) (show (1 + (nI u8) : Int32) = nI (1 + u8) from nI_add 1 _)) ?_
        refine lv_goto (tgt := 243) hx hb dL_isStep_212 (by decide) ?_
        refine lv_istore (lv' := [(5, .int (nI (1 + u8))), (4, .int (nI us4)), (3, .int (nI kc)), (0, .ref X.1.1), (1, .ref Y.1.1), (2, .int x)]) hx hb dL_isStep_243 hl (by decide) rfl (fun ls hl => ?_)
        refine lv_aload_n hx hb dL_isStep_245 rfl (lv_at hl 3 rfl) ?_
        refine lv_iload hx hb dL_isStep_246 (lv_at hl 1 rfl) ?_
        refine lv_iload hx hb dL_isStep_248 (lv_at hl 0 rfl) ?_
        refine k_VF (As := [.int (nI us4), .int (nI (1 + u8))]) (rest := []) (pre := []) (mid := [ob E X (F, J)]) C0 (p_set l hfl E X (F, J) us4 (nI (1 + u8)) (hus4l) (hv9) (by first | assumption | omega)) (cwV 2 hts gL_isStep_X6_set rfl rfl rfl (by decide +kernel) ⟨Nat.le_of_ble_eq_true rfl, Nat.le_of_ble_eq_true rfl⟩) hw rfl hZ (fun (u250 : oT) => [ob E X u250]) (fun _ => rfl) 0 6 rfl rfl rfl rfl hl.1 rfl (Nat.le_of_ble_eq_true rfl) dL_isStep_250 ⟨Nat.le_of_ble_eq_true rfl, Nat.le_of_ble_eq_true rfl⟩ (fun r u250 H locs hq99 hw => ?_)
        obtain ⟨r250, rfl⟩ : ∃ z, z = r := ⟨_, rfl⟩
        have h250 : r250 = F.2.2.2.2.2.1 us4 ∧ u250 = (stF9 F us4 (nI (1 + u8)), (J.1, (J.2.1, svJ (F, J)))) := hq99
        have hw : kW E AA sx (List.flatten [ob E X u250, ob E Y (F, K)]) H locs := hw
        refine W.eq (g2 := F0 mm 253 ls [.int r250]) rfl ?_
        refine lv_aload_n hx hb dL_isStep_253 rfl (lv_at hl 4 rfl) ?_
        refine lv_iload hx hb dL_isStep_254 (lv_at hl 1 rfl) ?_
        refine lv_iload hx hb dL_isStep_256 (lv_at hl 0 rfl) ?_
        refine k_VF (As := [.int (nI us4), .int (nI (1 + u8))]) (rest := [.int r250]) (pre := [ob E X u250]) (mid := [ob E Y (F, K)]) C0 (p_set l hfl E Y (F, K) us4 (nI (1 + u8)) (hus4l) (hv9) (by first | assumption | omega)) (cwV 2 hts gL_isStep_X6_set rfl rfl rfl (by decide +kernel) ⟨Nat.le_of_ble_eq_true rfl, Nat.le_of_ble_eq_true rfl⟩) hw rfl hZ (fun (u258 : oT) => [ob E Y u258]) (fun _ => rfl) 0 6 rfl rfl rfl rfl hl.1 rfl (Nat.le_of_ble_eq_true rfl) dL_isStep_258 ⟨Nat.le_of_ble_eq_true rfl, Nat.le_of_ble_eq_true rfl⟩ (fun r u258 H locs hq99 hw => ?_)
        obtain ⟨r258, rfl⟩ : ∃ z, z = r := ⟨_, rfl⟩
        have h258 : r258 = F.2.2.2.2.2.1 us4 ∧ u258 = (stF9 F us4 (nI (1 + u8)), (K.1, (K.2.1, svJ (F, K)))) := hq99
        have hw : kW E AA sx (List.flatten [ob E X u250, ob E Y u258]) H locs := hw
        refine W.eq (g2 := F0 mm 261 ls [.int r258, .int r250]) rfl ?_
        refine lv_icmp_ne (tgt := 268) hx hb dL_isStep_261 (by decide) (fun c261 => absurd c261 (fun h99 => h99 (h250.1.trans h258.1.symm))) (fun c261 => ?_)
        refine lv_iconst (v := 1) hx hb dL_isStep_264 (by decide) ?_
        refine lv_goto (tgt := 269) hx hb dL_isStep_265 (by decide) ?_
        -- leaf 7
        exact vx_ret <| k_zret C0 hr hlk hw (u250, u258) (rfl) (⟨rfl, N, Nat.le_refl _, Nat.le_add_right _ _, by rw [h250.2, h258.2]; exact ⟨rfl, hv8.le (Nat.le_add_right _ _), hOK_sv hJ, hOK_sv hK⟩⟩) (rfl) (Nat.le_of_ble_eq_true rfl) (Nat.le_of_ble_eq_true rfl) dL_isStep_269
    · refine lv_tableIn (tgt := 270) (off := 246) hx hb dL_isStep_24 (by rw [hs24]; decide) (by rw [hs24]; decide) (by rw [hs24]; rfl) (by decide) ?_
      have hk24 : ku = 4 := by omega
      refine lv_aload_n hx hb dL_isStep_270 rfl (lv_at hl 1 rfl) ?_
      refine lv_iload_n hx hb dL_isStep_271 rfl (lv_at hl 3 rfl) ?_
      refine lv_iconst (v := 4) hx hb dL_isStep_272 (by decide) ?_
      refine lv_ishr hx hb dL_isStep_273 ?_
      refine lv_iconst (v := 4) hx hb dL_isStep_274 (by decide) ?_
      refine k_S (As := [.int (x >>> (4 &&& 31 : Int32)), .int 4]) (rest := [.ref X.1.1]) (pre := []) (mid := []) C0 (c_L_up l E (x >>> (4 &&& 31 : Int32)) 4 (by first | assumption | omega) (by first | assumption | omega)) (va_cwS 2 hts gL_isStep_L_up rfl rfl rfl (by decide +kernel) ⟨Nat.le_of_ble_eq_true rfl, Nat.le_of_ble_eq_true rfl⟩) hw rfl (fun _ => []) (fun _ => rfl) rfl hl.1 rfl (Nat.le_of_ble_eq_true rfl) dL_isStep_275 ⟨Nat.le_of_ble_eq_true rfl, Nat.le_of_ble_eq_true rfl⟩ (fun r u H locs hq99 hw => ?_)
      subst hq99
      have hw : kW E AA sx (List.flatten [ob E X (F, J), ob E Y (F, K)]) H locs := hw
      refine W.eq (g2 := F0 mm 278 ls [.int (nI (upN (x >>> (4 &&& 31 : Int32)) 4)), .ref X.1.1]) rfl ?_
      refine W.eq (g2 := F0 mm 278 ls [.int (nI us4), .ref X.1.1]) (congrArg (fun z9 => F0 mm 278 ls [.int z9, .ref X.1.1]) (show (nI (upN (x >>> (4 &&& 31 : Int32)) 4) : Int32) = nI us4 from by rw [hus4])) ?_
      refine lv_iload_n hx hb dL_isStep_278 rfl (lv_at hl 3 rfl) ?_
      refine lv_bipush (v := 6) hx hb dL_isStep_279 (by decide) ?_
      refine lv_ishr hx hb dL_isStep_281 ?_
      refine lv_ldc (v := 1000000) hx hb hown (hts (.constant RL 33 1000000) (by decide +kernel)) dL_isStep_282 ?_
      refine k_S (As := [.int (x >>> (6 &&& 31 : Int32)), .int 1000000]) (rest := [.int (nI us4), .ref X.1.1]) (pre := []) (mid := []) C0 (c_L_up l E (x >>> (6 &&& 31 : Int32)) 1000000 (by first | assumption | omega) (by first | assumption | omega)) (va_cwS 2 hts gL_isStep_L_up rfl rfl rfl (by decide +kernel) ⟨Nat.le_of_ble_eq_true rfl, Nat.le_of_ble_eq_true rfl⟩) hw rfl (fun _ => []) (fun _ => rfl) rfl hl.1 rfl (Nat.le_of_ble_eq_true rfl) dL_isStep_284 ⟨Nat.le_of_ble_eq_true rfl, Nat.le_of_ble_eq_true rfl⟩ (fun r u H locs hq99 hw => ?_)
      subst hq99
      have hw : kW E AA sx (List.flatten [ob E X (F, J), ob E Y (F, K)]) H locs := hw
      refine W.eq (g2 := F0 mm 287 ls [.int (nI (upN (x >>> (6 &&& 31 : Int32)) 1000000)), .int (nI us4), .ref X.1.1]) rfl ?_
      refine W.eq (g2 := F0 mm 287 ls [.int (nI um), .int (nI us4), .ref X.1.1]) (congrArg (fun z9 => F0 mm 287 ls [.int z9, .int (nI us4), .ref X.1.1]) (show (nI (upN (x >>> (6 &&& 31 : Int32)) 1000000) : Int32) = nI um from by rw [hum])) ?_
      refine k_VF (As := [.int (nI us4), .int (nI um)]) (rest := []) (pre := []) (mid := [ob E X (F, J)]) C0 (p_setWind l hfl E X (F, J) us4 um (hus4l) (huml) (by first | assumption | omega)) (cwV 2 hts gL_isStep_X6_setWind rfl rfl rfl (by decide +kernel) ⟨Nat.le_of_ble_eq_true rfl, Nat.le_of_ble_eq_true rfl⟩) hw rfl hZ (fun (u287 : oT) => [ob E X u287]) (fun _ => rfl) 0 6 rfl rfl rfl rfl hl.1 rfl (Nat.le_of_ble_eq_true rfl) dL_isStep_287 ⟨Nat.le_of_ble_eq_true rfl, Nat.le_of_ble_eq_true rfl⟩ (fun r u287 H locs hq99 hw => ?_)
      obtain ⟨r287, rfl⟩ : ∃ z, z = r := ⟨_, rfl⟩
      have h287 : r287 = nI F.2.2.1 ∧ u287 = (wdF F us4 um, (J.1, (J.2.1, svJ (F, J)))) := hq99
      have hw : kW E AA sx (List.flatten [ob E X u287, ob E Y (F, K)]) H locs := hw
      refine W.eq (g2 := F0 mm 290 ls [.int r287]) rfl ?_
      refine lv_aload_n hx hb dL_isStep_290 rfl (lv_at hl 2 rfl) ?_
      refine lv_iload_n hx hb dL_isStep_291 rfl (lv_at hl 3 rfl) ?_
      refine lv_iconst (v := 4) hx hb dL_isStep_292 (by decide) ?_
      refine lv_ishr hx hb dL_isStep_293 ?_
      refine lv_iconst (v := 4) hx hb dL_isStep_294 (by decide) ?_
      refine k_S (As := [.int (x >>> (4 &&& 31 : Int32)), .int 4]) (rest := [.ref Y.1.1, .int r287]) (pre := []) (mid := []) C0 (c_L_up l E (x >>> (4 &&& 31 : Int32)) 4 (by first | assumption | omega) (by first | assumption | omega)) (va_cwS 2 hts gL_isStep_L_up rfl rfl rfl (by decide +kernel) ⟨Nat.le_of_ble_eq_true rfl, Nat.le_of_ble_eq_true rfl⟩) hw rfl (fun _ => []) (fun _ => rfl) rfl hl.1 rfl (Nat.le_of_ble_eq_true rfl) dL_isStep_295 ⟨Nat.le_of_ble_eq_true rfl, Nat.le_of_ble_eq_true rfl⟩ (fun r u H locs hq99 hw => ?_)
      subst hq99
      have hw : kW E AA sx (List.flatten [ob E X u287, ob E Y (F, K)]) H locs := hw
      refine W.eq (g2 := F0 mm 298 ls [.int (nI (upN (x >>> (4 &&& 31 : Int32)) 4)), .ref Y.1.1, .int r287]) rfl ?_
      refine W.eq (g2 := F0 mm 298 ls [.int (nI us4), .ref Y.1.1, .int r287]) (congrArg (fun z9 => F0 mm 298 ls [.int z9, .ref Y.1.1, .int r287]) (show (nI (upN (x >>> (4 &&& 31 : Int32)) 4) : Int32) = nI us4 from by rw [hus4])) ?_
      refine lv_iload_n hx hb dL_isStep_298 rfl (lv_at hl 3 rfl) ?_
      refine lv_bipush (v := 6) hx hb dL_isStep_299 (by decide) ?_
      refine lv_ishr hx hb dL_isStep_301 ?_
      refine lv_ldc (v := 1000000) hx hb hown (hts (.constant RL 33 1000000) (by decide +kernel)) dL_isStep_302 ?_
      refine k_S (As := [.int (x >>> (6 &&& 31 : Int32)), .int 1000000]) (rest := [.int (nI us4), .ref Y.1.1, .int r287]) (pre := []) (mid := []) C0 (c_L_up l E (x >>> (6 &&& 31 : Int32)) 1000000 (by first | assumption | omega) (by first | assumption | omega)) (va_cwS 2 hts gL_isStep_L_up rfl rfl rfl (by decide +kernel) ⟨Nat.le_of_ble_eq_true rfl, Nat.le_of_ble_eq_true rfl⟩) hw rfl (fun _ => []) (fun _ => rfl) rfl hl.1 rfl (Nat.le_of_ble_eq_true rfl) dL_isStep_304 ⟨Nat.le_of_ble_eq_true rfl, Nat.le_of_ble_eq_true rfl⟩ (fun r u H locs hq99 hw => ?_)
      subst hq99
      have hw : kW E AA sx (List.flatten [ob E X u287, ob E Y (F, K)]) H locs := hw
      refine W.eq (g2 := F0 mm 307 ls [.int (nI (upN (x >>> (6 &&& 31 : Int32)) 1000000)), .int (nI us4), .ref Y.1.1, .int r287]) rfl ?_
      refine W.eq (g2 := F0 mm 307 ls [.int (nI um), .int (nI us4), .ref Y.1.1, .int r287]) (congrArg (fun z9 => F0 mm 307 ls [.int z9, .int (nI us4), .ref Y.1.1, .int r287]) (show (nI (upN (x >>> (6 &&& 31 : Int32)) 1000000) : Int32) = nI um from by rw [hum])) ?_
      refine k_VF (As := [.int (nI us4), .int (nI um)]) (rest := [.int r287]) (pre := [ob E X u287]) (mid := [ob E Y (F, K)]) C0 (p_setWind l hfl E Y (F, K) us4 um (hus4l) (huml) (by first | assumption | omega)) (cwV 2 hts gL_isStep_X6_setWind rfl rfl rfl (by decide +kernel) ⟨Nat.le_of_ble_eq_true rfl, Nat.le_of_ble_eq_true rfl⟩) hw rfl hZ (fun (u307 : oT) => [ob E Y u307]) (fun _ => rfl) 0 6 rfl rfl rfl rfl hl.1 rfl (Nat.le_of_ble_eq_true rfl) dL_isStep_307 ⟨Nat.le_of_ble_eq_true rfl, Nat.le_of_ble_eq_true rfl⟩ (fun r u307 H locs hq99 hw => ?_)
      obtain ⟨r307, rfl⟩ : ∃ z, z = r := ⟨_, rfl⟩
      have h307 : r307 = nI F.2.2.1 ∧ u307 = (wdF F us4 um, (K.1, (K.2.1, svJ (F, K)))) := hq99
      have hw : kW E AA sx (List.flatten [ob E X u287, ob E Y u307]) H locs := hw
      refine W.eq (g2 := F0 mm 310 ls [.int r307, .int r287]) rfl ?_
      refine lv_icmp_ne (tgt := 317) hx hb dL_isStep_310 (by decide) (fun c310 => absurd c310 (fun h99 => h99 (h287.1.trans h307.1.symm))) (fun c310 => ?_)
      refine lv_iconst (v := 1) hx hb dL_isStep_313 (by decide) ?_
      refine lv_goto (tgt := 318) hx hb dL_isStep_314 (by decide) ?_
      -- leaf 8
      exact vx_ret <| k_zret C0 hr hlk hw (u287, u307) (rfl) (⟨rfl, N, Nat.le_refl _, Nat.le_add_right _ _, by rw [h287.2, h307.2]; exact ⟨rfl, (fs_wd hF8 hus4l huml).le (Nat.le_add_right _ _), hOK_sv hJ, hOK_sv hK⟩⟩) (rfl) (Nat.le_of_ble_eq_true rfl) (Nat.le_of_ble_eq_true rfl) dL_isStep_318
    · refine lv_tableIn (tgt := 319) (off := 295) hx hb dL_isStep_24 (by rw [hs24]; decide) (by rw [hs24]; decide) (by rw [hs24]; rfl) (by decide) ?_
      have hk24 : ku = 5 := by omega
      refine lv_aload_n hx hb dL_isStep_319 rfl (lv_at hl 1 rfl) ?_
      refine k_VF (As := []) (rest := []) (pre := []) (mid := [ob E X (F, J)]) C0 (p_season l hfl E X (F, J) (by first | assumption | omega) (by first | assumption | omega)) (cwV 0 hts gL_isStep_X6_season rfl rfl rfl (by decide +kernel) ⟨Nat.le_of_ble_eq_true rfl, Nat.le_of_ble_eq_true rfl⟩) hw rfl hZ (fun (u320 : oT) => [ob E X u320]) (fun _ => rfl) 0 6 rfl rfl rfl rfl hl.1 rfl (Nat.le_of_ble_eq_true rfl) dL_isStep_320 ⟨Nat.le_of_ble_eq_true rfl, Nat.le_of_ble_eq_true rfl⟩ (fun r u320 H locs hq99 hw => ?_)
      obtain ⟨r320, rfl⟩ : ∃ z, z = r := ⟨_, rfl⟩
      have h320 : r320 = nI (esN F.2.2.2.2.2.2.1 F.2.2.2.2.2.2.2.1 F.2.2.2.2.2.2.2.2.1 (F.1 * F.2.1)) ∧ u320 = (seF F, (J.1, (J.2.1, svJ (F, J)))) := hq99
      have hw : kW E AA sx (List.flatten [ob E X u320, ob E Y (F, K)]) H locs := hw
      refine W.eq (g2 := F0 mm 323 ls [.int r320]) rfl ?_
      refine lv_aload_n hx hb dL_isStep_323 rfl (lv_at hl 2 rfl) ?_
      refine k_VF (As := []) (rest := [.int r320]) (pre := [ob E X u320]) (mid := [ob E Y (F, K)]) C0 (p_season l hfl E Y (F, K) (by first | assumption | omega) (by first | assumption | omega)) (cwV 0 hts gL_isStep_X6_season rfl rfl rfl (by decide +kernel) ⟨Nat.le_of_ble_eq_true rfl, Nat.le_of_ble_eq_true rfl⟩) hw rfl hZ (fun (u324 : oT) => [ob E Y u324]) (fun _ => rfl) 0 6 rfl rfl rfl rfl hl.1 rfl (Nat.le_of_ble_eq_true rfl) dL_isStep_324 ⟨Nat.le_of_ble_eq_true rfl, Nat.le_of_ble_eq_true rfl⟩ (fun r u324 H locs hq99 hw => ?_)
      obtain ⟨r324, rfl⟩ : ∃ z, z = r := ⟨_, rfl⟩
      have h324 : r324 = nI (esN F.2.2.2.2.2.2.1 F.2.2.2.2.2.2.2.1 F.2.2.2.2.2.2.2.2.1 (F.1 * F.2.1)) ∧ u324 = (seF F, (K.1, (K.2.1, svJ (F, K)))) := hq99
      have hw : kW E AA sx (List.flatten [ob E X u320, ob E Y u324]) H locs := hw
      refine W.eq (g2 := F0 mm 327 ls [.int r324, .int r320]) rfl ?_
      refine lv_icmp_ne (tgt := 334) hx hb dL_isStep_327 (by decide) (fun c327 => absurd c327 (fun h99 => h99 (h320.1.trans h324.1.symm))) (fun c327 => ?_)
      refine lv_iconst (v := 1) hx hb dL_isStep_330 (by decide) ?_
      refine lv_goto (tgt := 335) hx hb dL_isStep_331 (by decide) ?_
      -- leaf 9
      exact vx_ret <| k_zret C0 hr hlk hw (u320, u324) (rfl) (⟨rfl, N, Nat.le_refl _, Nat.le_add_right _ _, by rw [h320.2, h324.2]; exact ⟨rfl, (fs_se hF8).le (Nat.le_add_right _ _), hOK_sv hJ, hOK_sv hK⟩⟩) (rfl) (Nat.le_of_ble_eq_true rfl) (Nat.le_of_ble_eq_true rfl) dL_isStep_335
