abbrev rmX7_steps : Room := { frames := 4, cells := 0, slots := 0, locals := 99 }
set_option maxHeartbeats 4000000 in
set_option maxRecDepth 100000 in
theorem c_X7_steps (l : Launch) (E : kE) (m0 : Nat) (A0 : Nat) (V0 : Nat) (Z0 : Nat) (D0 : Nat) (W0 : Nat) (T0 : Nat) (sm : Int32) (th : Int32) (pl : Int32) (hz : Int32) (tl : Int32) (tw : Int32) (tc : Int32) (h : Nat) (w : Nat) (d : Nat) (n0 : Nat) (z : Int32) (st : Nat → Int32) (he : Nat → Int32) (ke : Nat → Int32) (tu : Nat → Int32) (ca : Nat → Int32) (tr : Nat → Int32) (co : Nat → Int32) (la : Nat → Int32) (hp : Nat) (B : Nat) (hG : kG h w) (hd : d < 4) (hn0 : n0 < 2147483648) (hst0 : st 0 = nI hp) (hp8 : hp ≤ 8) (hp1 : 1 ≤ hp) (hH : hI (h * w) he B) (hB : B < 1000000) (hsl : 1 ≤ (st 3).toInt) : kC E l yX7_steps wsX7_steps rmX7_steps [.ref m0] (List.flatten [oc m0 7 [.ref A0, .ref V0, .ref Z0, .int sm, .int th, .int pl, .int hz, .ref D0, .ref W0, .ref T0, .int tl, .int tw, .int tc], ac E A0 985 (mA h w (nI d) (nI n0) z st he ke tu ca tr co la)]) kI (fun (r : Int32) (u : Int32 × Int32) => r = nI (stp h w d hp st tu ca (n0, he, tr, co, la)).1) (fun (u : Int32 × Int32) => List.flatten [oc m0 7 [.ref A0, .ref V0, .ref Z0, .int sm, .int th, .int u.1, .int u.2, .ref D0, .ref W0, .ref T0, .int tl, .int tw, .int tc], ac E A0 985 (mA h w (nI d) (nI (stp h w d hp st tu ca (n0, he, tr, co, la)).2.1) z st ((stp h w d hp st tu ca (n0, he, tr, co, la)).2.2.1) ke tu ca ((stp h w d hp st tu ca (n0, he, tr, co, la)).2.2.2.1) ((stp h w d hp st tu ca (n0, he, tr, co, la)).2.2.2.2.1) ((stp h w d hp st tu ca (n0, he, tr, co, la)).2.2.2.2.2))]) 0 0 := by
  refine k_body (cc := cX7_steps) (maxL := 4) (ret := (some .boolean)) (by decide) rfl (Nat.le_of_ble_eq_true rfl) ?_
  intro pp ee sx mm aa bb me cd H locs AA ls C0 hr hlk hnm hl hw
  obtain ⟨hx, hb, hml, hown, hts⟩ := id C0
  have hl : lv_has ls 4 [(0, .ref m0)] := hl
  have hw : kW E AA sx (List.flatten [oc m0 7 [.ref A0, .ref V0, .ref Z0, .int sm, .int th, .int pl, .int hz, .ref D0, .ref W0, .ref T0, .int tl, .int tw, .int tc], ac E A0 985 (mA h w (nI d) (nI n0) z st he ke tu ca tr co la)]) H locs := hw
  have hn9 := kG_n hG
  have hG9 := id hG
  obtain ⟨hG1, hG2, hG3, hG4⟩ := hG9
  have hinX7 : ∀ w ∈ u_ws RX7 TX7 13, w ∈ wsX7_steps := by decide +kernel
  obtain ⟨c0, hc0⟩ : ∃ c0, c0 = drwS n0 / 65536 % (h * w) := ⟨_, rfl⟩
  have hcl9 : c0 < h * w := by rw [hc0]; exact Nat.mod_lt _ (by omega)
  obtain ⟨R0, hR0⟩ : ∃ R0 : Nat × Nat, R0 = rlS h w d he tu ca c0 (drwS n0) := ⟨_, rfl⟩
  have hrl9 : R0.1 < 9 ∧ R0.2 < 2147483648 := by rw [hR0]; exact rlS_lt (drwS_lt n0)
  refine lv_aload_n hx hb dX7_steps_0 rfl (lv_at hl 0 rfl) ?_
  refine lv_aload_n hx hb dX7_steps_1 rfl (lv_at hl 0 rfl) ?_
  refine k_V (As := []) (rest := [.ref m0]) (pre := []) (mid := [oc m0 7 [.ref A0, .ref V0, .ref Z0, .int sm, .int th, .int pl, .int hz, .ref D0, .ref W0, .ref T0, .int tl, .int tw, .int tc], ac E A0 985 (mA h w (nI d) (nI n0) z st he ke tu ca tr co la)]) C0 (c_X7_cells l E m0 A0 V0 Z0 D0 W0 T0 sm th pl hz tl tw tc h w (nI d) (nI n0) z st he ke tu ca tr co la ) (cwV 0 hts gX7_steps_X7_cells rfl rfl rfl (by decide +kernel) ⟨Nat.le_of_ble_eq_true rfl, Nat.le_of_ble_eq_true rfl⟩) hw rfl (fun _ => [oc m0 7 [.ref A0, .ref V0, .ref Z0, .int sm, .int th, .int pl, .int hz, .ref D0, .ref W0, .ref T0, .int tl, .int tw, .int tc], ac E A0 985 (mA h w (nI d) (nI n0) z st he ke tu ca tr co la)]) (fun _ => rfl) 0 7 rfl rfl rfl rfl hl.1 rfl (Nat.le_of_ble_eq_true rfl) dX7_steps_2 ⟨Nat.le_of_ble_eq_true rfl, Nat.le_of_ble_eq_true rfl⟩ (fun r u H locs hq99 hw => ?_)
  subst hq99
  have hw : kW E AA sx (List.flatten [oc m0 7 [.ref A0, .ref V0, .ref Z0, .int sm, .int th, .int pl, .int hz, .ref D0, .ref W0, .ref T0, .int tl, .int tw, .int tc], ac E A0 985 (mA h w (nI d) (nI n0) z st he ke tu ca tr co la)]) H locs := hw
  refine W.eq (g2 := F0 mm 5 ls [.int (nI (h * w)), .ref m0]) rfl ?_
  refine k_V (As := [.int (nI (h * w))]) (rest := []) (pre := []) (mid := [oc m0 7 [.ref A0, .ref V0, .ref Z0, .int sm, .int th, .int pl, .int hz, .ref D0, .ref W0, .ref T0, .int tl, .int tw, .int tc], ac E A0 985 (mA h w (nI d) (nI n0) z st he ke tu ca tr co la)]) C0 (c_X7_draws l E m0 A0 V0 Z0 D0 W0 T0 sm th pl hz tl tw tc h w n0 (nI d) z st he ke tu ca tr co la (h * w) (by first | assumption | omega) (by omega) (by omega)) (cwV 1 hts gX7_steps_X7_draws rfl rfl rfl (by decide +kernel) ⟨Nat.le_of_ble_eq_true rfl, Nat.le_of_ble_eq_true rfl⟩) hw rfl (fun _ => [oc m0 7 [.ref A0, .ref V0, .ref Z0, .int sm, .int th, .int pl, .int hz, .ref D0, .ref W0, .ref T0, .int tl, .int tw, .int tc], ac E A0 985 (mA h w (nI d) (nI (drwS n0)) z st he ke tu ca tr co la)]) (fun _ => rfl) 0 7 rfl rfl rfl rfl hl.1 rfl (Nat.le_of_ble_eq_true rfl) dX7_steps_5 ⟨Nat.le_of_ble_eq_true rfl, Nat.le_of_ble_eq_true rfl⟩ (fun r u H locs hq99 hw => ?_)
  subst hq99
  have hw : kW E AA sx (List.flatten [oc m0 7 [.ref A0, .ref V0, .ref Z0, .int sm, .int th, .int pl, .int hz, .ref D0, .ref W0, .ref T0, .int tl, .int tw, .int tc], ac E A0 985 (mA h w (nI d) (nI (drwS n0)) z st he ke tu ca tr co la)]) H locs := hw
  refine W.eq (g2 := F0 mm 8 ls [.int (nI (drwS n0 / 65536 % (h * w)))]) rfl ?_
  refine W.eq (g2 := F0 mm 8 ls [.int (nI c0)]) (congrArg (fun z9 => F0 mm 8 ls [.int z9]) (show (nI (drwS n0 / 65536 % (h * w)) : Int32) = nI c0 from by rw [hc0])) ?_
  refine lv_istore_n (lv' := [(1, .int (nI c0)), (0, .ref m0)]) hx hb dX7_steps_8 rfl hl (by decide) rfl (fun ls hl => ?_)
  refine lv_aload_n hx hb dX7_steps_9 rfl (lv_at hl 1 rfl) ?_
  refine lv_iload_n hx hb dX7_steps_10 rfl (lv_at hl 0 rfl) ?_
  refine k_V (As := [.int (nI c0)]) (rest := []) (pre := []) (mid := [oc m0 7 [.ref A0, .ref V0, .ref Z0, .int sm, .int th, .int pl, .int hz, .ref D0, .ref W0, .ref T0, .int tl, .int tw, .int tc], ac E A0 985 (mA h w (nI d) (nI (drwS n0)) z st he ke tu ca tr co la)]) C0 (c_X7_reasonNotToLift l E m0 A0 V0 Z0 D0 W0 T0 sm th pl hz tl tw tc h w d (drwS n0) z st he ke tu ca tr co la c0 (by first | assumption | omega) (hcl9) (by first | assumption | omega) (drwS_lt n0)) (cwV 1 hts gX7_steps_X7_reasonNotToLift rfl rfl rfl (by decide +kernel) ⟨Nat.le_of_ble_eq_true rfl, Nat.le_of_ble_eq_true rfl⟩) hw rfl (fun _ => [oc m0 7 [.ref A0, .ref V0, .ref Z0, .int sm, .int th, .int pl, .int hz, .ref D0, .ref W0, .ref T0, .int tl, .int tw, .int tc], ac E A0 985 (mA h w (nI d) (nI (rlS h w d he tu ca c0 (drwS n0)).2) z st he ke tu ca tr co la)]) (fun _ => rfl) 0 7 rfl rfl rfl rfl hl.1 rfl (Nat.le_of_ble_eq_true rfl) dX7_steps_11 ⟨Nat.le_of_ble_eq_true rfl, Nat.le_of_ble_eq_true rfl⟩ (fun r u H locs hq99 hw => ?_)
  subst hq99
  have hw : kW E AA sx (List.flatten [oc m0 7 [.ref A0, .ref V0, .ref Z0, .int sm, .int th, .int pl, .int hz, .ref D0, .ref W0, .ref T0, .int tl, .int tw, .int tc], ac E A0 985 (mA h w (nI d) (nI (rlS h w d he tu ca c0 (drwS n0)).2) z st he ke tu ca tr co la)]) H locs := hw
  refine W.eq (g2 := F0 mm 14 ls [.int (nI (rlS h w d he tu ca c0 (drwS n0)).1)]) rfl ?_
  refine W.eq (g2 := F0 mm 14 ls [.int (nI R0.1)]) (congrArg (fun z9 => F0 mm 14 ls [.int z9]) (show (nI (rlS h w d he tu ca c0 (drwS n0)).1 : Int32) = nI R0.1 from by rw [hR0])) ?_
  have hw : kW E AA sx (List.flatten [oc m0 7 [.ref A0, .ref V0, .ref Z0, .int sm, .int th, .int pl, .int hz, .ref D0, .ref W0, .ref T0, .int tl, .int tw, .int tc], ac E A0 985 (mA h w (nI d) (nI R0.2) z st he ke tu ca tr co la)]) H locs := kW.arr (pre := [oc m0 7 [.ref A0, .ref V0, .ref Z0, .int sm, .int th, .int pl, .int hz, .ref D0, .ref W0, .ref T0, .int tl, .int tw, .int tc]]) (l1 := []) hw (fun j9 _ => by rw [hR0])
  refine lv_istore_n (lv' := [(2, .int (nI R0.1)), (1, .int (nI c0)), (0, .ref m0)]) hx hb dX7_steps_14 rfl hl (by decide) rfl (fun ls hl => ?_)
  refine lv_iload_n hx hb dX7_steps_15 rfl (lv_at hl 0 rfl) ?_
  refine lv_if_ne (tgt := 23) hx hb dX7_steps_16 (by decide) (fun c16 => ?_) (fun c16 => ?_)
  · have c16 : ¬ R0.1 = 0 := fun h99 => c16 ((nI_eq (a := R0.1) (b := 0) (by omega) (by omega)).mpr h99)
    have hstp : stp h w d hp st tu ca (n0, he, tr, co, la) = (0, (R0.2, he, tr, nco co R0.1, laF (nI R0.1) (nI c0) (-1) 0)) := by show stpA h w d hp st tu ca (drwS n0 / 65536 % (h * w)) (rlS h w d he tu ca (drwS n0 / 65536 % (h * w)) (drwS n0)) he tr co la = _; rw [← hc0, ← hR0]; exact if_neg c16
    refine lv_iconst (v := 0) hx hb dX7_steps_23 (by decide) ?_
    refine lv_istore_n (lv' := [(3, .int 0), (2, .int (nI R0.1)), (1, .int (nI c0)), (0, .ref m0)]) hx hb dX7_steps_24 rfl hl (by decide) rfl (fun ls hl => ?_)
    refine lv_aload_n hx hb dX7_steps_25 rfl (lv_at hl 3 rfl) ?_
    refine lv_iconst (v := (-1)) hx hb dX7_steps_26 (by decide) ?_
    refine k_put (pre := []) C0 hw hinX7 tyX7 tyX7_ok nmX7 rfl 5 (by decide) (hts (.fieldLink RX7 137 "SlabDunesModel" "place" "I") (by decide +kernel)) rfl rfl (ty := .int) (by decide +kernel) rfl rfl (Nat.le_of_ble_eq_true rfl) dX7_steps_27 (fun H locs hw => ?_)
    have hw : kW E AA sx (List.flatten [oc m0 7 [.ref A0, .ref V0, .ref Z0, .int sm, .int th, .int (-1), .int hz, .ref D0, .ref W0, .ref T0, .int tl, .int tw, .int tc], ac E A0 985 (mA h w (nI d) (nI R0.2) z st he ke tu ca tr co la)]) H locs := hw
    refine lv_aload_n hx hb dX7_steps_30 rfl (lv_at hl 3 rfl) ?_
    refine lv_iconst (v := 0) hx hb dX7_steps_31 (by decide) ?_
    refine k_put (pre := []) C0 hw hinX7 tyX7 tyX7_ok nmX7 rfl 6 (by decide) (hts (.fieldLink RX7 134 "SlabDunesModel" "hops" "I") (by decide +kernel)) rfl rfl (ty := .int) (by decide +kernel) rfl rfl (Nat.le_of_ble_eq_true rfl) dX7_steps_32 (fun H locs hw => ?_)
    have hw : kW E AA sx (List.flatten [oc m0 7 [.ref A0, .ref V0, .ref Z0, .int sm, .int th, .int (-1), .int 0, .ref D0, .ref W0, .ref T0, .int tl, .int tw, .int tc], ac E A0 985 (mA h w (nI d) (nI R0.2) z st he ke tu ca tr co la)]) H locs := hw
    refine lv_iload_n hx hb dX7_steps_35 rfl (lv_at hl 0 rfl) ?_
    refine lv_if_eq (tgt := 92) hx hb dX7_steps_36 (by decide) (fun c36 => ?_) (fun c36 => absurd c36 (by decide))
    refine lv_aload_n hx hb dX7_steps_92 rfl (lv_at hl 3 rfl) ?_
    refine k_get (pre := []) C0 hw hinX7 rfl 0 (by decide) (hts (.fieldLink RX7 7 "SlabDunesModel" "all" "[I") (by decide +kernel)) rfl rfl dX7_steps_93 ?_
    refine lv_bipush (v := 9) hx hb dX7_steps_96 (by decide) ?_
    refine lv_dup2_11 hx hb dX7_steps_98 rfl rfl ?_
    refine k_iald (pre := [oc m0 7 [.ref A0, .ref V0, .ref Z0, .int sm, .int th, .int (-1), .int 0, .ref D0, .ref W0, .ref T0, .int tl, .int tw, .int tc]]) (l1 := []) C0 hw (i := 9) (kinN (n := 9) (by decide) (by decide)) dX7_steps_99 ?_
    refine W.eq (g2 := F0 mm 100 ls [.int (co 0), .int 9, .ref A0]) (congrArg (fun z9 => F0 mm 100 ls [.int z9, .int 9, .ref A0]) (show ((mA h w (nI d) (nI R0.2) z st he ke tu ca tr co la) (Int32.toNatClampNeg 9) : Int32) = co 0 from mA_cn (k := 0) (by decide))) ?_
    refine lv_iconst (v := 1) hx hb dX7_steps_100 (by decide) ?_
    refine lv_iadd hx hb dX7_steps_101 ?_
    refine k_iast (pre := [oc m0 7 [.ref A0, .ref V0, .ref Z0, .int sm, .int th, .int (-1), .int 0, .ref D0, .ref W0, .ref T0, .int tl, .int tw, .int tc]]) (l1 := []) C0 hw (i := 9) (kinN (n := 9) (by decide) (by decide)) dX7_steps_102 (fun H locs hw => ?_)
    have hw : kW E AA sx (List.flatten [oc m0 7 [.ref A0, .ref V0, .ref Z0, .int sm, .int th, .int (-1), .int 0, .ref D0, .ref W0, .ref T0, .int tl, .int tw, .int tc], ac E A0 985 (upd (mA h w (nI d) (nI R0.2) z st he ke tu ca tr co la) (Int32.toNatClampNeg 9) ((co 0) + 1))]) H locs := hw
    have hw : kW E AA sx (List.flatten [oc m0 7 [.ref A0, .ref V0, .ref Z0, .int sm, .int th, .int (-1), .int 0, .ref D0, .ref W0, .ref T0, .int tl, .int tw, .int tc], ac E A0 985 (mA h w (nI d) (nI R0.2) z st he ke tu ca tr (upd co 0 ((co 0) + 1)) la)]) H locs := kW.arr (pre := [oc m0 7 [.ref A0, .ref V0, .ref Z0, .int sm, .int th, .int (-1), .int 0, .ref D0, .ref W0, .ref T0, .int tl, .int tw, .int tc]]) (l1 := []) hw (fun j9 _ => mA_wc (k := 0) (by omega) j9)
    refine lv_aload_n hx hb dX7_steps_103 rfl (lv_at hl 3 rfl) ?_
    refine k_get (pre := []) C0 hw hinX7 rfl 0 (by decide) (hts (.fieldLink RX7 7 "SlabDunesModel" "all" "[I") (by decide +kernel)) rfl rfl dX7_steps_104 ?_
    refine lv_bipush (v := 9) hx hb dX7_steps_107 (by decide) ?_
    refine lv_iload_n hx hb dX7_steps_109 rfl (lv_at hl 1 rfl) ?_
    refine lv_iadd hx hb dX7_steps_110 ?_
    refine W.eq (g2 := F0 mm 111 ls [.int (nI (9 + R0.1)), .ref A0]) (congrArg (fun z9 => F0 mm 111 ls [.int z9, .ref A0]) (show (9 + (nI R0.1) : Int32) = nI (9 + R0.1) from nI_add 9 _)) ?_
    refine lv_dup2_11 hx hb dX7_steps_111 rfl rfl ?_
    refine k_iald (pre := [oc m0 7 [.ref A0, .ref V0, .ref Z0, .int sm, .int th, .int (-1), .int 0, .ref D0, .ref W0, .ref T0, .int tl, .int tw, .int tc]]) (l1 := []) C0 hw (i := nI (9 + R0.1)) (kinN (by omega) (by decide)) dX7_steps_112 ?_
    refine W.eq (g2 := F0 mm 113 ls [.int ((upd co 0 ((co 0) + 1)) R0.1), .int (nI (9 + R0.1)), .ref A0]) (congrArg (fun z9 => F0 mm 113 ls [.int z9, .int (nI (9 + R0.1)), .ref A0]) (show ((mA h w (nI d) (nI R0.2) z st he ke tu ca tr (upd co 0 ((co 0) + 1)) la) (Int32.toNatClampNeg (nI (9 + R0.1))) : Int32) = (upd co 0 ((co 0) + 1)) R0.1 from mA_cn (k := R0.1) (by omega))) ?_
    refine lv_iconst (v := 1) hx hb dX7_steps_113 (by decide) ?_
    refine lv_iadd hx hb dX7_steps_114 ?_
    refine k_iast (pre := [oc m0 7 [.ref A0, .ref V0, .ref Z0, .int sm, .int th, .int (-1), .int 0, .ref D0, .ref W0, .ref T0, .int tl, .int tw, .int tc]]) (l1 := []) C0 hw (i := nI (9 + R0.1)) (kinN (by omega) (by decide)) dX7_steps_115 (fun H locs hw => ?_)
    have hw : kW E AA sx (List.flatten [oc m0 7 [.ref A0, .ref V0, .ref Z0, .int sm, .int th, .int (-1), .int 0, .ref D0, .ref W0, .ref T0, .int tl, .int tw, .int tc], ac E A0 985 (upd (mA h w (nI d) (nI R0.2) z st he ke tu ca tr (upd co 0 ((co 0) + 1)) la) (Int32.toNatClampNeg (nI (9 + R0.1))) (((upd co 0 ((co 0) + 1)) R0.1) + 1))]) H locs := hw
    have hw : kW E AA sx (List.flatten [oc m0 7 [.ref A0, .ref V0, .ref Z0, .int sm, .int th, .int (-1), .int 0, .ref D0, .ref W0, .ref T0, .int tl, .int tw, .int tc], ac E A0 985 (mA h w (nI d) (nI R0.2) z st he ke tu ca tr (nco co R0.1) la)]) H locs := kW.arr (pre := [oc m0 7 [.ref A0, .ref V0, .ref Z0, .int sm, .int th, .int (-1), .int 0, .ref D0, .ref W0, .ref T0, .int tl, .int tw, .int tc]]) (l1 := []) hw (fun j9 _ => mA_wc (k := R0.1) (by omega) j9)
    refine lv_aload_n hx hb dX7_steps_116 rfl (lv_at hl 3 rfl) ?_
    refine k_get (pre := []) C0 hw hinX7 rfl 0 (by decide) (hts (.fieldLink RX7 7 "SlabDunesModel" "all" "[I") (by decide +kernel)) rfl rfl dX7_steps_117 ?_
    refine lv_bipush (v := 21) hx hb dX7_steps_120 (by decide) ?_
    refine lv_iload_n hx hb dX7_steps_122 rfl (lv_at hl 1 rfl) ?_
    refine k_iast (pre := [oc m0 7 [.ref A0, .ref V0, .ref Z0, .int sm, .int th, .int (-1), .int 0, .ref D0, .ref W0, .ref T0, .int tl, .int tw, .int tc]]) (l1 := []) C0 hw (i := 21) (kinN (n := 21) (by decide) (by decide)) dX7_steps_123 (fun H locs hw => ?_)
    have hw : kW E AA sx (List.flatten [oc m0 7 [.ref A0, .ref V0, .ref Z0, .int sm, .int th, .int (-1), .int 0, .ref D0, .ref W0, .ref T0, .int tl, .int tw, .int tc], ac E A0 985 (upd (mA h w (nI d) (nI R0.2) z st he ke tu ca tr (nco co R0.1) la) (Int32.toNatClampNeg 21) (nI R0.1))]) H locs := hw
    have hw : kW E AA sx (List.flatten [oc m0 7 [.ref A0, .ref V0, .ref Z0, .int sm, .int th, .int (-1), .int 0, .ref D0, .ref W0, .ref T0, .int tl, .int tw, .int tc], ac E A0 985 (mA h w (nI d) (nI R0.2) z st he ke tu ca tr (nco co R0.1) (upd la 0 (nI R0.1)))]) H locs := kW.arr (pre := [oc m0 7 [.ref A0, .ref V0, .ref Z0, .int sm, .int th, .int (-1), .int 0, .ref D0, .ref W0, .ref T0, .int tl, .int tw, .int tc]]) (l1 := []) hw (fun j9 _ => mA_wl (k := 0) (by decide) j9)
    refine lv_aload_n hx hb dX7_steps_124 rfl (lv_at hl 3 rfl) ?_
    refine k_get (pre := []) C0 hw hinX7 rfl 0 (by decide) (hts (.fieldLink RX7 7 "SlabDunesModel" "all" "[I") (by decide +kernel)) rfl rfl dX7_steps_125 ?_
    refine lv_bipush (v := 22) hx hb dX7_steps_128 (by decide) ?_
    refine lv_iload_n hx hb dX7_steps_130 rfl (lv_at hl 2 rfl) ?_
    refine k_iast (pre := [oc m0 7 [.ref A0, .ref V0, .ref Z0, .int sm, .int th, .int (-1), .int 0, .ref D0, .ref W0, .ref T0, .int tl, .int tw, .int tc]]) (l1 := []) C0 hw (i := 22) (kinN (n := 22) (by decide) (by decide)) dX7_steps_131 (fun H locs hw => ?_)
    have hw : kW E AA sx (List.flatten [oc m0 7 [.ref A0, .ref V0, .ref Z0, .int sm, .int th, .int (-1), .int 0, .ref D0, .ref W0, .ref T0, .int tl, .int tw, .int tc], ac E A0 985 (upd (mA h w (nI d) (nI R0.2) z st he ke tu ca tr (nco co R0.1) (upd la 0 (nI R0.1))) (Int32.toNatClampNeg 22) (nI c0))]) H locs := hw
    have hw : kW E AA sx (List.flatten [oc m0 7 [.ref A0, .ref V0, .ref Z0, .int sm, .int th, .int (-1), .int 0, .ref D0, .ref W0, .ref T0, .int tl, .int tw, .int tc], ac E A0 985 (mA h w (nI d) (nI R0.2) z st he ke tu ca tr (nco co R0.1) (upd (upd la 0 (nI R0.1)) 1 (nI c0)))]) H locs := kW.arr (pre := [oc m0 7 [.ref A0, .ref V0, .ref Z0, .int sm, .int th, .int (-1), .int 0, .ref D0, .ref W0, .ref T0, .int tl, .int tw, .int tc]]) (l1 := []) hw (fun j9 _ => mA_wl (k := 1) (by decide) j9)
    refine lv_aload_n hx hb dX7_steps_132 rfl (lv_at hl 3 rfl) ?_
    refine k_get (pre := []) C0 hw hinX7 rfl 0 (by decide) (hts (.fieldLink RX7 7 "SlabDunesModel" "all" "[I") (by decide +kernel)) rfl rfl dX7_steps_133 ?_
    refine lv_bipush (v := 23) hx hb dX7_steps_136 (by decide) ?_
    refine lv_aload_n hx hb dX7_steps_138 rfl (lv_at hl 3 rfl) ?_
    refine k_get (pre := []) C0 hw hinX7 rfl 5 (by decide) (hts (.fieldLink RX7 137 "SlabDunesModel" "place" "I") (by decide +kernel)) rfl rfl dX7_steps_139 ?_
    refine k_iast (pre := [oc m0 7 [.ref A0, .ref V0, .ref Z0, .int sm, .int th, .int (-1), .int 0, .ref D0, .ref W0, .ref T0, .int tl, .int tw, .int tc]]) (l1 := []) C0 hw (i := 23) (kinN (n := 23) (by decide) (by decide)) dX7_steps_142 (fun H locs hw => ?_)
    have hw : kW E AA sx (List.flatten [oc m0 7 [.ref A0, .ref V0, .ref Z0, .int sm, .int th, .int (-1), .int 0, .ref D0, .ref W0, .ref T0, .int tl, .int tw, .int tc], ac E A0 985 (upd (mA h w (nI d) (nI R0.2) z st he ke tu ca tr (nco co R0.1) (upd (upd la 0 (nI R0.1)) 1 (nI c0))) (Int32.toNatClampNeg 23) (-1))]) H locs := hw
    have hw : kW E AA sx (List.flatten [oc m0 7 [.ref A0, .ref V0, .ref Z0, .int sm, .int th, .int (-1), .int 0, .ref D0, .ref W0, .ref T0, .int tl, .int tw, .int tc], ac E A0 985 (mA h w (nI d) (nI R0.2) z st he ke tu ca tr (nco co R0.1) (upd (upd (upd la 0 (nI R0.1)) 1 (nI c0)) 2 (-1)))]) H locs := kW.arr (pre := [oc m0 7 [.ref A0, .ref V0, .ref Z0, .int sm, .int th, .int (-1), .int 0, .ref D0, .ref W0, .ref T0, .int tl, .int tw, .int tc]]) (l1 := []) hw (fun j9 _ => mA_wl (k := 2) (by decide) j9)
    refine lv_aload_n hx hb dX7_steps_143 rfl (lv_at hl 3 rfl) ?_
    refine k_get (pre := []) C0 hw hinX7 rfl 0 (by decide) (hts (.fieldLink RX7 7 "SlabDunesModel" "all" "[I") (by decide +kernel)) rfl rfl dX7_steps_144 ?_
    refine lv_bipush (v := 24) hx hb dX7_steps_147 (by decide) ?_
    refine lv_aload_n hx hb dX7_steps_149 rfl (lv_at hl 3 rfl) ?_
    refine k_get (pre := []) C0 hw hinX7 rfl 6 (by decide) (hts (.fieldLink RX7 134 "SlabDunesModel" "hops" "I") (by decide +kernel)) rfl rfl dX7_steps_150 ?_
    refine k_iast (pre := [oc m0 7 [.ref A0, .ref V0, .ref Z0, .int sm, .int th, .int (-1), .int 0, .ref D0, .ref W0, .ref T0, .int tl, .int tw, .int tc]]) (l1 := []) C0 hw (i := 24) (kinN (n := 24) (by decide) (by decide)) dX7_steps_153 (fun H locs hw => ?_)
    have hw : kW E AA sx (List.flatten [oc m0 7 [.ref A0, .ref V0, .ref Z0, .int sm, .int th, .int (-1), .int 0, .ref D0, .ref W0, .ref T0, .int tl, .int tw, .int tc], ac E A0 985 (upd (mA h w (nI d) (nI R0.2) z st he ke tu ca tr (nco co R0.1) (upd (upd (upd la 0 (nI R0.1)) 1 (nI c0)) 2 (-1))) (Int32.toNatClampNeg 24) 0)]) H locs := hw
    have hw : kW E AA sx (List.flatten [oc m0 7 [.ref A0, .ref V0, .ref Z0, .int sm, .int th, .int (-1), .int 0, .ref D0, .ref W0, .ref T0, .int tl, .int tw, .int tc], ac E A0 985 (mA h w (nI d) (nI R0.2) z st he ke tu ca tr (nco co R0.1) (upd (upd (upd (upd la 0 (nI R0.1)) 1 (nI c0)) 2 (-1)) 3 0))]) H locs := kW.arr (pre := [oc m0 7 [.ref A0, .ref V0, .ref Z0, .int sm, .int th, .int (-1), .int 0, .ref D0, .ref W0, .ref T0, .int tl, .int tw, .int tc]]) (l1 := []) hw (fun j9 _ => mA_wl (k := 3) (by decide) j9)
    have hw : kW E AA sx (List.flatten [oc m0 7 [.ref A0, .ref V0, .ref Z0, .int sm, .int th, .int (-1), .int 0, .ref D0, .ref W0, .ref T0, .int tl, .int tw, .int tc], ac E A0 985 (mA h w (nI d) (nI R0.2) z st he ke tu ca tr (nco co R0.1) (laF (nI R0.1) (nI c0) (-1) 0))]) H locs := kW.arr (pre := [oc m0 7 [.ref A0, .ref V0, .ref Z0, .int sm, .int th, .int (-1), .int 0, .ref D0, .ref W0, .ref T0, .int tl, .int tw, .int tc]]) (l1 := []) hw (fun j99 _ => mA_eq (fun _ _ => rfl) (fun _ _ => ⟨rfl, rfl, rfl, rfl, rfl⟩) (fun _ _ => rfl) (laF_up la _ _ _ _) j99)
    refine lv_iload_n hx hb dX7_steps_154 rfl (lv_at hl 0 rfl) ?_
    refine lv_if_eq (tgt := 166) hx hb dX7_steps_155 (by decide) (fun c155 => ?_) (fun c155 => absurd c155 (by decide))
    refine lv_iload_n hx hb dX7_steps_166 rfl (lv_at hl 0 rfl) ?_
    have hw : kW E AA sx (List.flatten [oc m0 7 [.ref A0, .ref V0, .ref Z0, .int sm, .int th, .int (-1), .int 0, .ref D0, .ref W0, .ref T0, .int tl, .int tw, .int tc], ac E A0 985 (mA h w (nI d) (nI (stp h w d hp st tu ca (n0, he, tr, co, la)).2.1) z st ((stp h w d hp st tu ca (n0, he, tr, co, la)).2.2.1) ke tu ca ((stp h w d hp st tu ca (n0, he, tr, co, la)).2.2.2.1) ((stp h w d hp st tu ca (n0, he, tr, co, la)).2.2.2.2.1) ((stp h w d hp st tu ca (n0, he, tr, co, la)).2.2.2.2.2))]) H locs := kW.arr (pre := [oc m0 7 [.ref A0, .ref V0, .ref Z0, .int sm, .int th, .int (-1), .int 0, .ref D0, .ref W0, .ref T0, .int tl, .int tw, .int tc]]) (l1 := []) hw (fun j9 _ => by rw [hstp])
    -- leaf 0
    exact k_zret C0 hr hlk hw ((-1), 0) (rfl) (by rw [hstp]; rfl) (rfl) (Nat.le_of_ble_eq_true rfl) (Nat.le_of_ble_eq_true rfl) dX7_steps_167
  · have c16 : R0.1 = 0 := (nI_eq (a := R0.1) (b := 0) (by omega) (by omega)).mp c16
    refine lv_iconst (v := 1) hx hb dX7_steps_19 (by decide) ?_
    refine lv_goto (tgt := 24) hx hb dX7_steps_20 (by decide) ?_
    refine lv_istore_n (lv' := [(3, .int 1), (2, .int (nI R0.1)), (1, .int (nI c0)), (0, .ref m0)]) hx hb dX7_steps_24 rfl hl (by decide) rfl (fun ls hl => ?_)
    refine lv_aload_n hx hb dX7_steps_25 rfl (lv_at hl 3 rfl) ?_
    refine lv_iconst (v := (-1)) hx hb dX7_steps_26 (by decide) ?_
    refine k_put (pre := []) C0 hw hinX7 tyX7 tyX7_ok nmX7 rfl 5 (by decide) (hts (.fieldLink RX7 137 "SlabDunesModel" "place" "I") (by decide +kernel)) rfl rfl (ty := .int) (by decide +kernel) rfl rfl (Nat.le_of_ble_eq_true rfl) dX7_steps_27 (fun H locs hw => ?_)
    have hw : kW E AA sx (List.flatten [oc m0 7 [.ref A0, .ref V0, .ref Z0, .int sm, .int th, .int (-1), .int hz, .ref D0, .ref W0, .ref T0, .int tl, .int tw, .int tc], ac E A0 985 (mA h w (nI d) (nI R0.2) z st he ke tu ca tr co la)]) H locs := hw
    refine lv_aload_n hx hb dX7_steps_30 rfl (lv_at hl 3 rfl) ?_
    refine lv_iconst (v := 0) hx hb dX7_steps_31 (by decide) ?_
    refine k_put (pre := []) C0 hw hinX7 tyX7 tyX7_ok nmX7 rfl 6 (by decide) (hts (.fieldLink RX7 134 "SlabDunesModel" "hops" "I") (by decide +kernel)) rfl rfl (ty := .int) (by decide +kernel) rfl rfl (Nat.le_of_ble_eq_true rfl) dX7_steps_32 (fun H locs hw => ?_)
    have hw : kW E AA sx (List.flatten [oc m0 7 [.ref A0, .ref V0, .ref Z0, .int sm, .int th, .int (-1), .int 0, .ref D0, .ref W0, .ref T0, .int tl, .int tw, .int tc], ac E A0 985 (mA h w (nI d) (nI R0.2) z st he ke tu ca tr co la)]) H locs := hw
    refine lv_iload_n hx hb dX7_steps_35 rfl (lv_at hl 0 rfl) ?_
    refine lv_if_eq (tgt := 92) hx hb dX7_steps_36 (by decide) (fun c36 => absurd c36 (by decide)) (fun c36 => ?_)
    refine lv_aload_n hx hb dX7_steps_39 rfl (lv_at hl 3 rfl) ?_
    refine k_get (pre := []) C0 hw hinX7 rfl 0 (by decide) (hts (.fieldLink RX7 7 "SlabDunesModel" "all" "[I") (by decide +kernel)) rfl rfl dX7_steps_40 ?_
    refine lv_iload_n hx hb dX7_steps_43 rfl (lv_at hl 2 rfl) ?_
    refine lv_iconst (v := 0) hx hb dX7_steps_44 (by decide) ?_
    have hne9 : ¬ he c0 = 0 := rlS_0 (by rw [← hR0]; exact c16)
    obtain ⟨B1, hB1, hH1⟩ := hI_dec hH hB hcl9 hne9
    refine k_S (As := [.int (nI c0), .int 0]) (rest := [.ref A0]) (pre := []) (mid := []) C0 (c_X7_at l E c0 0 ) (va_cwS 2 hts gX7_steps_X7_at rfl rfl rfl (by decide +kernel) ⟨Nat.le_of_ble_eq_true rfl, Nat.le_of_ble_eq_true rfl⟩) hw rfl (fun _ => []) (fun _ => rfl) rfl hl.1 rfl (Nat.le_of_ble_eq_true rfl) dX7_steps_45 ⟨Nat.le_of_ble_eq_true rfl, Nat.le_of_ble_eq_true rfl⟩ (fun r u H locs hq99 hw => ?_)
    subst hq99
    have hw : kW E AA sx (List.flatten [oc m0 7 [.ref A0, .ref V0, .ref Z0, .int sm, .int th, .int (-1), .int 0, .ref D0, .ref W0, .ref T0, .int tl, .int tw, .int tc], ac E A0 985 (mA h w (nI d) (nI R0.2) z st he ke tu ca tr co la)]) H locs := hw
    refine W.eq (g2 := F0 mm 48 ls [.int (nI (25 + 5 * c0 + 0)), .ref A0]) rfl ?_
    refine lv_dup2_11 hx hb dX7_steps_48 rfl rfl ?_
    refine k_iald (pre := [oc m0 7 [.ref A0, .ref V0, .ref Z0, .int sm, .int th, .int (-1), .int 0, .ref D0, .ref W0, .ref T0, .int tl, .int tw, .int tc]]) (l1 := []) C0 hw (i := nI (25 + 5 * c0 + 0)) (kinN (by omega) (by decide)) dX7_steps_49 ?_
    refine W.eq (g2 := F0 mm 50 ls [.int (he c0), .int (nI (25 + 5 * c0 + 0)), .ref A0]) (congrArg (fun z9 => F0 mm 50 ls [.int z9, .int (nI (25 + 5 * c0 + 0)), .ref A0]) (show ((mA h w (nI d) (nI R0.2) z st he ke tu ca tr co la) (Int32.toNatClampNeg (nI (25 + 5 * c0 + 0))) : Int32) = he c0 from mA_ld (i := 0) hcl9 hn9.1 (by decide))) ?_
    refine lv_iconst (v := 1) hx hb dX7_steps_50 (by decide) ?_
    refine lv_isub hx hb dX7_steps_51 ?_
    refine W.eq (g2 := F0 mm 52 ls [.int (he c0 + (-1)), .int (nI (25 + 5 * c0 + 0)), .ref A0]) (congrArg (fun z9 => F0 mm 52 ls [.int z9, .int (nI (25 + 5 * c0 + 0)), .ref A0]) (show ((he c0) - 1 : Int32) = he c0 + (-1) from Int32.sub_eq_add_neg _ _)) ?_
    refine k_iast (pre := [oc m0 7 [.ref A0, .ref V0, .ref Z0, .int sm, .int th, .int (-1), .int 0, .ref D0, .ref W0, .ref T0, .int tl, .int tw, .int tc]]) (l1 := []) C0 hw (i := nI (25 + 5 * c0 + 0)) (kinN (by omega) (by decide)) dX7_steps_52 (fun H locs hw => ?_)
    have hw : kW E AA sx (List.flatten [oc m0 7 [.ref A0, .ref V0, .ref Z0, .int sm, .int th, .int (-1), .int 0, .ref D0, .ref W0, .ref T0, .int tl, .int tw, .int tc], ac E A0 985 (upd (mA h w (nI d) (nI R0.2) z st he ke tu ca tr co la) (Int32.toNatClampNeg (nI (25 + 5 * c0 + 0))) (he c0 + (-1)))]) H locs := hw
    have hw : kW E AA sx (List.flatten [oc m0 7 [.ref A0, .ref V0, .ref Z0, .int sm, .int th, .int (-1), .int 0, .ref D0, .ref W0, .ref T0, .int tl, .int tw, .int tc], ac E A0 985 (mA h w (nI d) (nI R0.2) z st (upd he c0 (he c0 + (-1))) ke tu ca tr co la)]) H locs := kW.arr (pre := [oc m0 7 [.ref A0, .ref V0, .ref Z0, .int sm, .int th, .int (-1), .int 0, .ref D0, .ref W0, .ref T0, .int tl, .int tw, .int tc]]) (l1 := []) hw (fun j9 _ => mA_wh hcl9 hn9.1 j9)
    refine lv_aload_n hx hb dX7_steps_53 rfl (lv_at hl 3 rfl) ?_
    refine lv_iload_n hx hb dX7_steps_54 rfl (lv_at hl 2 rfl) ?_
    refine k_V (As := [.int (nI c0)]) (rest := []) (pre := []) (mid := [oc m0 7 [.ref A0, .ref V0, .ref Z0, .int sm, .int th, .int (-1), .int 0, .ref D0, .ref W0, .ref T0, .int tl, .int tw, .int tc], ac E A0 985 (mA h w (nI d) (nI R0.2) z st (upd he c0 (he c0 + (-1))) ke tu ca tr co la)]) C0 (c_X7_hasLost l E m0 A0 V0 Z0 D0 W0 T0 sm th (-1) 0 tl tw tc h w (nI d) (nI R0.2) z st (upd he c0 (he c0 + (-1))) ke tu ca tr co la c0 B1 (by first | assumption | omega) (hcl9) (hH1) (by first | assumption | omega) (by first | assumption | omega)) (cwV 1 hts gX7_steps_X7_hasLost rfl rfl rfl (by decide +kernel) ⟨Nat.le_of_ble_eq_true rfl, Nat.le_of_ble_eq_true rfl⟩) hw rfl (fun _ => [oc m0 7 [.ref A0, .ref V0, .ref Z0, .int sm, .int th, .int (-1), .int 0, .ref D0, .ref W0, .ref T0, .int tl, .int tw, .int tc], ac E A0 985 (mA h w (nI d) (nI R0.2) z st ((slI h w (st 3) 1000000 (upd he c0 (he c0 + (-1))) co c0).1) ke tu ca tr ((slI h w (st 3) 1000000 (upd he c0 (he c0 + (-1))) co c0).2) la)]) (fun _ => rfl) 0 7 rfl rfl rfl rfl hl.1 rfl (Nat.le_of_ble_eq_true rfl) dX7_steps_55 ⟨Nat.le_of_ble_eq_true rfl, Nat.le_of_ble_eq_true rfl⟩ (fun r u H locs hq99 hw => ?_)
    have hw : kW E AA sx (List.flatten [oc m0 7 [.ref A0, .ref V0, .ref Z0, .int sm, .int th, .int (-1), .int 0, .ref D0, .ref W0, .ref T0, .int tl, .int tw, .int tc], ac E A0 985 (mA h w (nI d) (nI R0.2) z st ((slI h w (st 3) 1000000 (upd he c0 (he c0 + (-1))) co c0).1) ke tu ca tr ((slI h w (st 3) 1000000 (upd he c0 (he c0 + (-1))) co c0).2) la)]) H locs := hw
    refine W.eq (g2 := F0 mm 58 ls []) rfl ?_
    obtain ⟨A1, hA1⟩ : ∃ A1 : fP, A1 = slI h w (st 3) 1000000 (upd he c0 (he c0 + (-1))) co c0 := ⟨_, rfl⟩
    have hH2 : hI (h * w) A1.1 B1 := by rw [hA1]; exact slI_H hG (by omega) hsl _ _ _ _ hcl9 hH1
    have hw : kW E AA sx (List.flatten [oc m0 7 [.ref A0, .ref V0, .ref Z0, .int sm, .int th, .int (-1), .int 0, .ref D0, .ref W0, .ref T0, .int tl, .int tw, .int tc], ac E A0 985 (mA h w (nI d) (nI R0.2) z st A1.1 ke tu ca tr A1.2 la)]) H locs := kW.arr (pre := [oc m0 7 [.ref A0, .ref V0, .ref Z0, .int sm, .int th, .int (-1), .int 0, .ref D0, .ref W0, .ref T0, .int tl, .int tw, .int tc]]) (l1 := []) hw (fun j9 _ => by rw [hA1])
    refine lv_aload_n hx hb dX7_steps_58 rfl (lv_at hl 3 rfl) ?_
    refine lv_iload_n hx hb dX7_steps_59 rfl (lv_at hl 2 rfl) ?_
    refine k_put (pre := []) C0 hw hinX7 tyX7 tyX7_ok nmX7 rfl 5 (by decide) (hts (.fieldLink RX7 137 "SlabDunesModel" "place" "I") (by decide +kernel)) rfl rfl (ty := .int) (by decide +kernel) rfl rfl (Nat.le_of_ble_eq_true rfl) dX7_steps_60 (fun H locs hw => ?_)
    have hw : kW E AA sx (List.flatten [oc m0 7 [.ref A0, .ref V0, .ref Z0, .int sm, .int th, .int (nI c0), .int 0, .ref D0, .ref W0, .ref T0, .int tl, .int tw, .int tc], ac E A0 985 (mA h w (nI d) (nI R0.2) z st A1.1 ke tu ca tr A1.2 la)]) H locs := hw
    have loop63 : ∀ (nn : Nat) (r9 : Nat) (c9x : Nat) (kk : Nat) (n9 : Nat) (o9 : Nat → Int32) (q9 : Nat → Int32), (c9x < h * w) → (kk < 12 ∨ (kk = 12 ∧ ¬ r9 = 0)) → (r9 < 9) → (n9 < 2147483648) → (flG h w d hp st A1.1 tu ca tr (12 - kk) r9 c9x kk o9 n9 = fly h w d hp st A1.1 tu ca tr 12 c0 0 A1.2 R0.2) → (q9 = if r9 = 5 then upd tr c9x (tr c9x + 1) else tr) → 12 - kk < nn → ∀ (H : Heap) (locs : List Loc) (ls : Array Slot), lv_has ls 4 [(3, .int 1), (2, .int (nI r9)), (1, .int (nI c0)), (0, .ref m0)] → kW E AA sx (List.flatten [oc m0 7 [.ref A0, .ref V0, .ref Z0, .int sm, .int th, .int (nI c9x), .int (nI kk), .ref D0, .ref W0, .ref T0, .int tl, .int tw, .int tc], ac E A0 985 (mA h w (nI d) (nI n9) z st A1.1 ke tu ca q9 o9 la)]) H locs → W pp l ee rmX7_steps sx mm aa bb me cd H locs 0 0 (kEnd E kI (fun (r : Int32) (u : Int32 × Int32) => r = nI (stp h w d hp st tu ca (n0, he, tr, co, la)).1) (fun (u : Int32 × Int32) => List.flatten [oc m0 7 [.ref A0, .ref V0, .ref Z0, .int sm, .int th, .int u.1, .int u.2, .ref D0, .ref W0, .ref T0, .int tl, .int tw, .int tc], ac E A0 985 (mA h w (nI d) (nI (stp h w d hp st tu ca (n0, he, tr, co, la)).2.1) z st ((stp h w d hp st tu ca (n0, he, tr, co, la)).2.2.1) ke tu ca ((stp h w d hp st tu ca (n0, he, tr, co, la)).2.2.2.1) ((stp h w d hp st tu ca (n0, he, tr, co, la)).2.2.2.2.1) ((stp h w d hp st tu ca (n0, he, tr, co, la)).2.2.2.2.2))]) bb aa sx AA 0 0) (F0 mm 63 ls []) := by
      intro nn
      induction nn with
      | zero => intro r9 c9x kk n9 o9 q9 hcx hkk hr9 hn9x hF hq hm63; exact absurd hm63 (Nat.not_lt_zero _)
      | succ nn ih63 =>
        intro r9 c9x kk n9 o9 q9 hcx hkk hr9 hn9x hF hq hm63 H locs ls hl hw
        refine lv_iload_n hx hb dX7_steps_63 rfl (lv_at hl 1 rfl) ?_
        refine lv_if_ne (tgt := 75) hx hb dX7_steps_64 (by decide) (fun c64 => ?_) (fun c64 => ?_)
        · have c64 : ¬ r9 = 0 := fun h99 => c64 ((nI_eq (a := r9) (b := 0) (by omega) (by omega)).mpr h99)
          have hE := flG_end hF (Or.inl c64)
          have hH3 := hI_inc hH2 (c := c9x) (by omega) hcx
          have hstp : stp h w d hp st tu ca (n0, he, tr, co, la) = (1, carH la c0 tr (r9, c9x, kk, o9, n9) (slF h w (st 3) 1000000 (upd A1.1 c9x (A1.1 c9x + 1)) o9 c9x)) := by show stpA h w d hp st tu ca (drwS n0 / 65536 % (h * w)) (rlS h w d he tu ca (drwS n0 / 65536 % (h * w)) (drwS n0)) he tr co la = _; rw [← hc0, ← hR0]; rw [stpA, if_pos c16]; unfold car carF carG; rw [← hA1, hE]
          refine lv_aload_n hx hb dX7_steps_75 rfl (lv_at hl 3 rfl) ?_
          refine k_get (pre := []) C0 hw hinX7 rfl 0 (by decide) (hts (.fieldLink RX7 7 "SlabDunesModel" "all" "[I") (by decide +kernel)) rfl rfl dX7_steps_76 ?_
          refine lv_aload_n hx hb dX7_steps_79 rfl (lv_at hl 3 rfl) ?_
          refine k_get (pre := []) C0 hw hinX7 rfl 5 (by decide) (hts (.fieldLink RX7 137 "SlabDunesModel" "place" "I") (by decide +kernel)) rfl rfl dX7_steps_80 ?_
          refine lv_iconst (v := 0) hx hb dX7_steps_83 (by decide) ?_
          refine k_S (As := [.int (nI c9x), .int 0]) (rest := [.ref A0]) (pre := []) (mid := []) C0 (c_X7_at l E c9x 0 ) (va_cwS 2 hts gX7_steps_X7_at rfl rfl rfl (by decide +kernel) ⟨Nat.le_of_ble_eq_true rfl, Nat.le_of_ble_eq_true rfl⟩) hw rfl (fun _ => []) (fun _ => rfl) rfl hl.1 rfl (Nat.le_of_ble_eq_true rfl) dX7_steps_84 ⟨Nat.le_of_ble_eq_true rfl, Nat.le_of_ble_eq_true rfl⟩ (fun r u H locs hq99 hw => ?_)
          subst hq99
          have hw : kW E AA sx (List.flatten [oc m0 7 [.ref A0, .ref V0, .ref Z0, .int sm, .int th, .int (nI c9x), .int (nI kk), .ref D0, .ref W0, .ref T0, .int tl, .int tw, .int tc], ac E A0 985 (mA h w (nI d) (nI n9) z st A1.1 ke tu ca q9 o9 la)]) H locs := hw
          refine W.eq (g2 := F0 mm 87 ls [.int (nI (25 + 5 * c9x + 0)), .ref A0]) rfl ?_
          refine lv_dup2_11 hx hb dX7_steps_87 rfl rfl ?_
          refine k_iald (pre := [oc m0 7 [.ref A0, .ref V0, .ref Z0, .int sm, .int th, .int (nI c9x), .int (nI kk), .ref D0, .ref W0, .ref T0, .int tl, .int tw, .int tc]]) (l1 := []) C0 hw (i := nI (25 + 5 * c9x + 0)) (kinN (by omega) (by decide)) dX7_steps_88 ?_
          refine W.eq (g2 := F0 mm 89 ls [.int (A1.1 c9x), .int (nI (25 + 5 * c9x + 0)), .ref A0]) (congrArg (fun z9 => F0 mm 89 ls [.int z9, .int (nI (25 + 5 * c9x + 0)), .ref A0]) (show ((mA h w (nI d) (nI n9) z st A1.1 ke tu ca q9 o9 la) (Int32.toNatClampNeg (nI (25 + 5 * c9x + 0))) : Int32) = A1.1 c9x from mA_ld (i := 0) hcx hn9.1 (by decide))) ?_
          refine lv_iconst (v := 1) hx hb dX7_steps_89 (by decide) ?_
          refine lv_iadd hx hb dX7_steps_90 ?_
          refine k_iast (pre := [oc m0 7 [.ref A0, .ref V0, .ref Z0, .int sm, .int th, .int (nI c9x), .int (nI kk), .ref D0, .ref W0, .ref T0, .int tl, .int tw, .int tc]]) (l1 := []) C0 hw (i := nI (25 + 5 * c9x + 0)) (kinN (by omega) (by decide)) dX7_steps_91 (fun H locs hw => ?_)
          have hw : kW E AA sx (List.flatten [oc m0 7 [.ref A0, .ref V0, .ref Z0, .int sm, .int th, .int (nI c9x), .int (nI kk), .ref D0, .ref W0, .ref T0, .int tl, .int tw, .int tc], ac E A0 985 (upd (mA h w (nI d) (nI n9) z st A1.1 ke tu ca q9 o9 la) (Int32.toNatClampNeg (nI (25 + 5 * c9x + 0))) ((A1.1 c9x) + 1))]) H locs := hw
          have hw : kW E AA sx (List.flatten [oc m0 7 [.ref A0, .ref V0, .ref Z0, .int sm, .int th, .int (nI c9x), .int (nI kk), .ref D0, .ref W0, .ref T0, .int tl, .int tw, .int tc], ac E A0 985 (mA h w (nI d) (nI n9) z st (upd A1.1 c9x (A1.1 c9x + 1)) ke tu ca q9 o9 la)]) H locs := kW.arr (pre := [oc m0 7 [.ref A0, .ref V0, .ref Z0, .int sm, .int th, .int (nI c9x), .int (nI kk), .ref D0, .ref W0, .ref T0, .int tl, .int tw, .int tc]]) (l1 := []) hw (fun j9 _ => mA_wh hcx hn9.1 j9)
          refine lv_aload_n hx hb dX7_steps_92 rfl (lv_at hl 3 rfl) ?_
          refine k_get (pre := []) C0 hw hinX7 rfl 0 (by decide) (hts (.fieldLink RX7 7 "SlabDunesModel" "all" "[I") (by decide +kernel)) rfl rfl dX7_steps_93 ?_
          refine lv_bipush (v := 9) hx hb dX7_steps_96 (by decide) ?_
          refine lv_dup2_11 hx hb dX7_steps_98 rfl rfl ?_
          refine k_iald (pre := [oc m0 7 [.ref A0, .ref V0, .ref Z0, .int sm, .int th, .int (nI c9x), .int (nI kk), .ref D0, .ref W0, .ref T0, .int tl, .int tw, .int tc]]) (l1 := []) C0 hw (i := 9) (kinN (n := 9) (by decide) (by decide)) dX7_steps_99 ?_
          refine W.eq (g2 := F0 mm 100 ls [.int (o9 0), .int 9, .ref A0]) (congrArg (fun z9 => F0 mm 100 ls [.int z9, .int 9, .ref A0]) (show ((mA h w (nI d) (nI n9) z st (upd A1.1 c9x (A1.1 c9x + 1)) ke tu ca q9 o9 la) (Int32.toNatClampNeg 9) : Int32) = o9 0 from mA_cn (k := 0) (by decide))) ?_
          refine lv_iconst (v := 1) hx hb dX7_steps_100 (by decide) ?_
          refine lv_iadd hx hb dX7_steps_101 ?_
          refine k_iast (pre := [oc m0 7 [.ref A0, .ref V0, .ref Z0, .int sm, .int th, .int (nI c9x), .int (nI kk), .ref D0, .ref W0, .ref T0, .int tl, .int tw, .int tc]]) (l1 := []) C0 hw (i := 9) (kinN (n := 9) (by decide) (by decide)) dX7_steps_102 (fun H locs hw => ?_)
          have hw : kW E AA sx (List.flatten [oc m0 7 [.ref A0, .ref V0, .ref Z0, .int sm, .int th, .int (nI c9x), .int (nI kk), .ref D0, .ref W0, .ref T0, .int tl, .int tw, .int tc], ac E A0 985 (upd (mA h w (nI d) (nI n9) z st (upd A1.1 c9x (A1.1 c9x + 1)) ke tu ca q9 o9 la) (Int32.toNatClampNeg 9) ((o9 0) + 1))]) H locs := hw
          have hw : kW E AA sx (List.flatten [oc m0 7 [.ref A0, .ref V0, .ref Z0, .int sm, .int th, .int (nI c9x), .int (nI kk), .ref D0, .ref W0, .ref T0, .int tl, .int tw, .int tc], ac E A0 985 (mA h w (nI d) (nI n9) z st (upd A1.1 c9x (A1.1 c9x + 1)) ke tu ca q9 (upd o9 0 ((o9 0) + 1)) la)]) H locs := kW.arr (pre := [oc m0 7 [.ref A0, .ref V0, .ref Z0, .int sm, .int th, .int (nI c9x), .int (nI kk), .ref D0, .ref W0, .ref T0, .int tl, .int tw, .int tc]]) (l1 := []) hw (fun j9 _ => mA_wc (k := 0) (by omega) j9)
          refine lv_aload_n hx hb dX7_steps_103 rfl (lv_at hl 3 rfl) ?_
          refine k_get (pre := []) C0 hw hinX7 rfl 0 (by decide) (hts (.fieldLink RX7 7 "SlabDunesModel" "all" "[I") (by decide +kernel)) rfl rfl dX7_steps_104 ?_
          refine lv_bipush (v := 9) hx hb dX7_steps_107 (by decide) ?_
          refine lv_iload_n hx hb dX7_steps_109 rfl (lv_at hl 1 rfl) ?_
          refine lv_iadd hx hb dX7_steps_110 ?_
          refine W.eq (g2 := F0 mm 111 ls [.int (nI (9 + r9)), .ref A0]) (congrArg (fun z9 => F0 mm 111 ls [.int z9, .ref A0]) (show (9 + (nI r9) : Int32) = nI (9 + r9) from nI_add 9 _)) ?_
          refine lv_dup2_11 hx hb dX7_steps_111 rfl rfl ?_
          refine k_iald (pre := [oc m0 7 [.ref A0, .ref V0, .ref Z0, .int sm, .int th, .int (nI c9x), .int (nI kk), .ref D0, .ref W0, .ref T0, .int tl, .int tw, .int tc]]) (l1 := []) C0 hw (i := nI (9 + r9)) (kinN (by omega) (by decide)) dX7_steps_112 ?_
          refine W.eq (g2 := F0 mm 113 ls [.int ((upd o9 0 ((o9 0) + 1)) r9), .int (nI (9 + r9)), .ref A0]) (congrArg (fun z9 => F0 mm 113 ls [.int z9, .int (nI (9 + r9)), .ref A0]) (show ((mA h w (nI d) (nI n9) z st (upd A1.1 c9x (A1.1 c9x + 1)) ke tu ca q9 (upd o9 0 ((o9 0) + 1)) la) (Int32.toNatClampNeg (nI (9 + r9))) : Int32) = (upd o9 0 ((o9 0) + 1)) r9 from mA_cn (k := r9) (by omega))) ?_
          refine lv_iconst (v := 1) hx hb dX7_steps_113 (by decide) ?_
          refine lv_iadd hx hb dX7_steps_114 ?_
          refine k_iast (pre := [oc m0 7 [.ref A0, .ref V0, .ref Z0, .int sm, .int th, .int (nI c9x), .int (nI kk), .ref D0, .ref W0, .ref T0, .int tl, .int tw, .int tc]]) (l1 := []) C0 hw (i := nI (9 + r9)) (kinN (by omega) (by decide)) dX7_steps_115 (fun H locs hw => ?_)
          have hw : kW E AA sx (List.flatten [oc m0 7 [.ref A0, .ref V0, .ref Z0, .int sm, .int th, .int (nI c9x), .int (nI kk), .ref D0, .ref W0, .ref T0, .int tl, .int tw, .int tc], ac E A0 985 (upd (mA h w (nI d) (nI n9) z st (upd A1.1 c9x (A1.1 c9x + 1)) ke tu ca q9 (upd o9 0 ((o9 0) + 1)) la) (Int32.toNatClampNeg (nI (9 + r9))) (((upd o9 0 ((o9 0) + 1)) r9) + 1))]) H locs := hw
          have hw : kW E AA sx (List.flatten [oc m0 7 [.ref A0, .ref V0, .ref Z0, .int sm, .int th, .int (nI c9x), .int (nI kk), .ref D0, .ref W0, .ref T0, .int tl, .int tw, .int tc], ac E A0 985 (mA h w (nI d) (nI n9) z st (upd A1.1 c9x (A1.1 c9x + 1)) ke tu ca q9 (nco o9 r9) la)]) H locs := kW.arr (pre := [oc m0 7 [.ref A0, .ref V0, .ref Z0, .int sm, .int th, .int (nI c9x), .int (nI kk), .ref D0, .ref W0, .ref T0, .int tl, .int tw, .int tc]]) (l1 := []) hw (fun j9 _ => mA_wc (k := r9) (by omega) j9)
          refine lv_aload_n hx hb dX7_steps_116 rfl (lv_at hl 3 rfl) ?_
          refine k_get (pre := []) C0 hw hinX7 rfl 0 (by decide) (hts (.fieldLink RX7 7 "SlabDunesModel" "all" "[I") (by decide +kernel)) rfl rfl dX7_steps_117 ?_
          refine lv_bipush (v := 21) hx hb dX7_steps_120 (by decide) ?_
          refine lv_iload_n hx hb dX7_steps_122 rfl (lv_at hl 1 rfl) ?_
          refine k_iast (pre := [oc m0 7 [.ref A0, .ref V0, .ref Z0, .int sm, .int th, .int (nI c9x), .int (nI kk), .ref D0, .ref W0, .ref T0, .int tl, .int tw, .int tc]]) (l1 := []) C0 hw (i := 21) (kinN (n := 21) (by decide) (by decide)) dX7_steps_123 (fun H locs hw => ?_)
          have hw : kW E AA sx (List.flatten [oc m0 7 [.ref A0, .ref V0, .ref Z0, .int sm, .int th, .int (nI c9x), .int (nI kk), .ref D0, .ref W0, .ref T0, .int tl, .int tw, .int tc], ac E A0 985 (upd (mA h w (nI d) (nI n9) z st (upd A1.1 c9x (A1.1 c9x + 1)) ke tu ca q9 (nco o9 r9) la) (Int32.toNatClampNeg 21) (nI r9))]) H locs := hw
          have hw : kW E AA sx (List.flatten [oc m0 7 [.ref A0, .ref V0, .ref Z0, .int sm, .int th, .int (nI c9x), .int (nI kk), .ref D0, .ref W0, .ref T0, .int tl, .int tw, .int tc], ac E A0 985 (mA h w (nI d) (nI n9) z st (upd A1.1 c9x (A1.1 c9x + 1)) ke tu ca q9 (nco o9 r9) (upd la 0 (nI r9)))]) H locs := kW.arr (pre := [oc m0 7 [.ref A0, .ref V0, .ref Z0, .int sm, .int th, .int (nI c9x), .int (nI kk), .ref D0, .ref W0, .ref T0, .int tl, .int tw, .int tc]]) (l1 := []) hw (fun j9 _ => mA_wl (k := 0) (by decide) j9)
          refine lv_aload_n hx hb dX7_steps_124 rfl (lv_at hl 3 rfl) ?_
          refine k_get (pre := []) C0 hw hinX7 rfl 0 (by decide) (hts (.fieldLink RX7 7 "SlabDunesModel" "all" "[I") (by decide +kernel)) rfl rfl dX7_steps_125 ?_
          refine lv_bipush (v := 22) hx hb dX7_steps_128 (by decide) ?_
          refine lv_iload_n hx hb dX7_steps_130 rfl (lv_at hl 2 rfl) ?_
          refine k_iast (pre := [oc m0 7 [.ref A0, .ref V0, .ref Z0, .int sm, .int th, .int (nI c9x), .int (nI kk), .ref D0, .ref W0, .ref T0, .int tl, .int tw, .int tc]]) (l1 := []) C0 hw (i := 22) (kinN (n := 22) (by decide) (by decide)) dX7_steps_131 (fun H locs hw => ?_)
          have hw : kW E AA sx (List.flatten [oc m0 7 [.ref A0, .ref V0, .ref Z0, .int sm, .int th, .int (nI c9x), .int (nI kk), .ref D0, .ref W0, .ref T0, .int tl, .int tw, .int tc], ac E A0 985 (upd (mA h w (nI d) (nI n9) z st (upd A1.1 c9x (A1.1 c9x + 1)) ke tu ca q9 (nco o9 r9) (upd la 0 (nI r9))) (Int32.toNatClampNeg 22) (nI c0))]) H locs := hw
          have hw : kW E AA sx (List.flatten [oc m0 7 [.ref A0, .ref V0, .ref Z0, .int sm, .int th, .int (nI c9x), .int (nI kk), .ref D0, .ref W0, .ref T0, .int tl, .int tw, .int tc], ac E A0 985 (mA h w (nI d) (nI n9) z st (upd A1.1 c9x (A1.1 c9x + 1)) ke tu ca q9 (nco o9 r9) (upd (upd la 0 (nI r9)) 1 (nI c0)))]) H locs := kW.arr (pre := [oc m0 7 [.ref A0, .ref V0, .ref Z0, .int sm, .int th, .int (nI c9x), .int (nI kk), .ref D0, .ref W0, .ref T0, .int tl, .int tw, .int tc]]) (l1 := []) hw (fun j9 _ => mA_wl (k := 1) (by decide) j9)
          refine lv_aload_n hx hb dX7_steps_132 rfl (lv_at hl 3 rfl) ?_
          refine k_get (pre := []) C0 hw hinX7 rfl 0 (by decide) (hts (.fieldLink RX7 7 "SlabDunesModel" "all" "[I") (by decide +kernel)) rfl rfl dX7_steps_133 ?_
          refine lv_bipush (v := 23) hx hb dX7_steps_136 (by decide) ?_
          refine lv_aload_n hx hb dX7_steps_138 rfl (lv_at hl 3 rfl) ?_
          refine k_get (pre := []) C0 hw hinX7 rfl 5 (by decide) (hts (.fieldLink RX7 137 "SlabDunesModel" "place" "I") (by decide +kernel)) rfl rfl dX7_steps_139 ?_
          refine k_iast (pre := [oc m0 7 [.ref A0, .ref V0, .ref Z0, .int sm, .int th, .int (nI c9x), .int (nI kk), .ref D0, .ref W0, .ref T0, .int tl, .int tw, .int tc]]) (l1 := []) C0 hw (i := 23) (kinN (n := 23) (by decide) (by decide)) dX7_steps_142 (fun H locs hw => ?_)
          have hw : kW E AA sx (List.flatten [oc m0 7 [.ref A0, .ref V0, .ref Z0, .int sm, .int th, .int (nI c9x), .int (nI kk), .ref D0, .ref W0, .ref T0, .int tl, .int tw, .int tc], ac E A0 985 (upd (mA h w (nI d) (nI n9) z st (upd A1.1 c9x (A1.1 c9x + 1)) ke tu ca q9 (nco o9 r9) (upd (upd la 0 (nI r9)) 1 (nI c0))) (Int32.toNatClampNeg 23) (nI c9x))]) H locs := hw
          have hw : kW E AA sx (List.flatten [oc m0 7 [.ref A0, .ref V0, .ref Z0, .int sm, .int th, .int (nI c9x), .int (nI kk), .ref D0, .ref W0, .ref T0, .int tl, .int tw, .int tc], ac E A0 985 (mA h w (nI d) (nI n9) z st (upd A1.1 c9x (A1.1 c9x + 1)) ke tu ca q9 (nco o9 r9) (upd (upd (upd la 0 (nI r9)) 1 (nI c0)) 2 (nI c9x)))]) H locs := kW.arr (pre := [oc m0 7 [.ref A0, .ref V0, .ref Z0, .int sm, .int th, .int (nI c9x), .int (nI kk), .ref D0, .ref W0, .ref T0, .int tl, .int tw, .int tc]]) (l1 := []) hw (fun j9 _ => mA_wl (k := 2) (by decide) j9)
          refine lv_aload_n hx hb dX7_steps_143 rfl (lv_at hl 3 rfl) ?_
          refine k_get (pre := []) C0 hw hinX7 rfl 0 (by decide) (hts (.fieldLink RX7 7 "SlabDunesModel" "all" "[I") (by decide +kernel)) rfl rfl dX7_steps_144 ?_
          refine lv_bipush (v := 24) hx hb dX7_steps_147 (by decide) ?_
          refine lv_aload_n hx hb dX7_steps_149 rfl (lv_at hl 3 rfl) ?_
          refine k_get (pre := []) C0 hw hinX7 rfl 6 (by decide) (hts (.fieldLink RX7 134 "SlabDunesModel" "hops" "I") (by decide +kernel)) rfl rfl dX7_steps_150 ?_
          refine k_iast (pre := [oc m0 7 [.ref A0, .ref V0, .ref Z0, .int sm, .int th, .int (nI c9x), .int (nI kk), .ref D0, .ref W0, .ref T0, .int tl, .int tw, .int tc]]) (l1 := []) C0 hw (i := 24) (kinN (n := 24) (by decide) (by decide)) dX7_steps_153 (fun H locs hw => ?_)
          have hw : kW E AA sx (List.flatten [oc m0 7 [.ref A0, .ref V0, .ref Z0, .int sm, .int th, .int (nI c9x), .int (nI kk), .ref D0, .ref W0, .ref T0, .int tl, .int tw, .int tc], ac E A0 985 (upd (mA h w (nI d) (nI n9) z st (upd A1.1 c9x (A1.1 c9x + 1)) ke tu ca q9 (nco o9 r9) (upd (upd (upd la 0 (nI r9)) 1 (nI c0)) 2 (nI c9x))) (Int32.toNatClampNeg 24) (nI kk))]) H locs := hw
          have hw : kW E AA sx (List.flatten [oc m0 7 [.ref A0, .ref V0, .ref Z0, .int sm, .int th, .int (nI c9x), .int (nI kk), .ref D0, .ref W0, .ref T0, .int tl, .int tw, .int tc], ac E A0 985 (mA h w (nI d) (nI n9) z st (upd A1.1 c9x (A1.1 c9x + 1)) ke tu ca q9 (nco o9 r9) (upd (upd (upd (upd la 0 (nI r9)) 1 (nI c0)) 2 (nI c9x)) 3 (nI kk)))]) H locs := kW.arr (pre := [oc m0 7 [.ref A0, .ref V0, .ref Z0, .int sm, .int th, .int (nI c9x), .int (nI kk), .ref D0, .ref W0, .ref T0, .int tl, .int tw, .int tc]]) (l1 := []) hw (fun j9 _ => mA_wl (k := 3) (by decide) j9)
          have hw : kW E AA sx (List.flatten [oc m0 7 [.ref A0, .ref V0, .ref Z0, .int sm, .int th, .int (nI c9x), .int (nI kk), .ref D0, .ref W0, .ref T0, .int tl, .int tw, .int tc], ac E A0 985 (mA h w (nI d) (nI n9) z st (upd A1.1 c9x (A1.1 c9x + 1)) ke tu ca q9 (nco o9 r9) (laF (nI r9) (nI c0) (nI c9x) (nI kk)))]) H locs := kW.arr (pre := [oc m0 7 [.ref A0, .ref V0, .ref Z0, .int sm, .int th, .int (nI c9x), .int (nI kk), .ref D0, .ref W0, .ref T0, .int tl, .int tw, .int tc]]) (l1 := []) hw (fun j99 _ => mA_eq (fun _ _ => rfl) (fun _ _ => ⟨rfl, rfl, rfl, rfl, rfl⟩) (fun _ _ => rfl) (laF_up la _ _ _ _) j99)
          refine lv_iload_n hx hb dX7_steps_154 rfl (lv_at hl 0 rfl) ?_
          refine lv_if_eq (tgt := 166) hx hb dX7_steps_155 (by decide) (fun c155 => absurd c155 (by decide)) (fun c155 => ?_)
          have hn9c := slF_nco (h := h) (w := w) (sl := st 3) hr9 1000000 (upd A1.1 c9x (A1.1 c9x + 1)) o9 (nco o9 r9) c9x (fun _ => rfl)
          refine lv_aload_n hx hb dX7_steps_158 rfl (lv_at hl 3 rfl) ?_
          refine lv_aload_n hx hb dX7_steps_159 rfl (lv_at hl 3 rfl) ?_
          refine k_get (pre := []) C0 hw hinX7 rfl 5 (by decide) (hts (.fieldLink RX7 137 "SlabDunesModel" "place" "I") (by decide +kernel)) rfl rfl dX7_steps_160 ?_
          refine k_V (As := [.int (nI c9x)]) (rest := []) (pre := []) (mid := [oc m0 7 [.ref A0, .ref V0, .ref Z0, .int sm, .int th, .int (nI c9x), .int (nI kk), .ref D0, .ref W0, .ref T0, .int tl, .int tw, .int tc], ac E A0 985 (mA h w (nI d) (nI n9) z st (upd A1.1 c9x (A1.1 c9x + 1)) ke tu ca q9 (nco o9 r9) (laF (nI r9) (nI c0) (nI c9x) (nI kk)))]) C0 (c_X7_hasGot l E m0 A0 V0 Z0 D0 W0 T0 sm th (nI c9x) (nI kk) tl tw tc h w (nI d) (nI n9) z st (upd A1.1 c9x (A1.1 c9x + 1)) ke tu ca q9 (nco o9 r9) (laF (nI r9) (nI c0) (nI c9x) (nI kk)) c9x (B1 + 1) (by first | assumption | omega) (hcx) (hH3) (by first | assumption | omega) (by first | assumption | omega)) (cwV 1 hts gX7_steps_X7_hasGot rfl rfl rfl (by decide +kernel) ⟨Nat.le_of_ble_eq_true rfl, Nat.le_of_ble_eq_true rfl⟩) hw rfl (fun _ => [oc m0 7 [.ref A0, .ref V0, .ref Z0, .int sm, .int th, .int (nI c9x), .int (nI kk), .ref D0, .ref W0, .ref T0, .int tl, .int tw, .int tc], ac E A0 985 (mA h w (nI d) (nI n9) z st ((slF h w (st 3) 1000000 (upd A1.1 c9x (A1.1 c9x + 1)) (nco o9 r9) c9x).1) ke tu ca q9 ((slF h w (st 3) 1000000 (upd A1.1 c9x (A1.1 c9x + 1)) (nco o9 r9) c9x).2) (laF (nI r9) (nI c0) (nI c9x) (nI kk)))]) (fun _ => rfl) 0 7 rfl rfl rfl rfl hl.1 rfl (Nat.le_of_ble_eq_true rfl) dX7_steps_163 ⟨Nat.le_of_ble_eq_true rfl, Nat.le_of_ble_eq_true rfl⟩ (fun r u H locs hq99 hw => ?_)
          have hw : kW E AA sx (List.flatten [oc m0 7 [.ref A0, .ref V0, .ref Z0, .int sm, .int th, .int (nI c9x), .int (nI kk), .ref D0, .ref W0, .ref T0, .int tl, .int tw, .int tc], ac E A0 985 (mA h w (nI d) (nI n9) z st ((slF h w (st 3) 1000000 (upd A1.1 c9x (A1.1 c9x + 1)) (nco o9 r9) c9x).1) ke tu ca q9 ((slF h w (st 3) 1000000 (upd A1.1 c9x (A1.1 c9x + 1)) (nco o9 r9) c9x).2) (laF (nI r9) (nI c0) (nI c9x) (nI kk)))]) H locs := hw
          refine W.eq (g2 := F0 mm 166 ls []) rfl ?_
          refine lv_iload_n hx hb dX7_steps_166 rfl (lv_at hl 0 rfl) ?_
          have hw : kW E AA sx (List.flatten [oc m0 7 [.ref A0, .ref V0, .ref Z0, .int sm, .int th, .int (nI c9x), .int (nI kk), .ref D0, .ref W0, .ref T0, .int tl, .int tw, .int tc], ac E A0 985 (mA h w (nI d) (nI n9) z st ((slF h w (st 3) 1000000 (upd A1.1 c9x (A1.1 c9x + 1)) o9 c9x).1) ke tu ca (if r9 = 5 then upd tr c9x (tr c9x + 1) else tr) (nco (slF h w (st 3) 1000000 (upd A1.1 c9x (A1.1 c9x + 1)) o9 c9x).2 r9) (laF (nI r9) (nI c0) (nI c9x) (nI kk)))]) H locs := kW.arr (pre := [oc m0 7 [.ref A0, .ref V0, .ref Z0, .int sm, .int th, .int (nI c9x), .int (nI kk), .ref D0, .ref W0, .ref T0, .int tl, .int tw, .int tc]]) (l1 := []) hw (fun j9 _ => by rw [hn9c.1, hq]; exact mA_eq (fun _ _ => rfl) (fun _ _ => ⟨rfl, rfl, rfl, rfl, rfl⟩) (fun j8 _ => hn9c.2 j8) (fun _ _ => rfl) j9)
          have hw : kW E AA sx (List.flatten [oc m0 7 [.ref A0, .ref V0, .ref Z0, .int sm, .int th, .int (nI c9x), .int (nI kk), .ref D0, .ref W0, .ref T0, .int tl, .int tw, .int tc], ac E A0 985 (mA h w (nI d) (nI (stp h w d hp st tu ca (n0, he, tr, co, la)).2.1) z st ((stp h w d hp st tu ca (n0, he, tr, co, la)).2.2.1) ke tu ca ((stp h w d hp st tu ca (n0, he, tr, co, la)).2.2.2.1) ((stp h w d hp st tu ca (n0, he, tr, co, la)).2.2.2.2.1) ((stp h w d hp st tu ca (n0, he, tr, co, la)).2.2.2.2.2))]) H locs := kW.arr (pre := [oc m0 7 [.ref A0, .ref V0, .ref Z0, .int sm, .int th, .int (nI c9x), .int (nI kk), .ref D0, .ref W0, .ref T0, .int tl, .int tw, .int tc]]) (l1 := []) hw (fun j9 _ => by rw [hstp]; rfl)
          -- leaf 1
          exact k_zret C0 hr hlk hw ((nI c9x), (nI kk)) (rfl) (by rw [hstp]; rfl) (rfl) (Nat.le_of_ble_eq_true rfl) (Nat.le_of_ble_eq_true rfl) dX7_steps_167
        · have c64 : r9 = 0 := (nI_eq (a := r9) (b := 0) (by omega) (by omega)).mp c64
          have hq0 : q9 = tr := by rw [hq, if_neg (by omega)]
          obtain ⟨m9, hm9⟩ : ∃ m9, 12 - kk = m9 + 1 := ⟨12 - kk - 1, by omega⟩
          have hr0 : r9 = 0 := by omega
          rw [hm9, hr0] at hF
          have hhl9 := hopF_lt (d := d) (ca := ca) (tr := tr) hG hp c9x o9 hcx
          have hrs9 := rsS_lt (h := h) (w := w) (d := d) (st := st) (he := A1.1) (tu := tu) (ca := ca) (tr := tr) (c := (hopF h w d ca tr hp c9x o9).1) (k := kk + 1) hn9x
          have hw : kW E AA sx (List.flatten [oc m0 7 [.ref A0, .ref V0, .ref Z0, .int sm, .int th, .int (nI c9x), .int (nI kk), .ref D0, .ref W0, .ref T0, .int tl, .int tw, .int tc], ac E A0 985 (mA h w (nI d) (nI n9) z st A1.1 ke tu ca tr o9 la)]) H locs := kW.arr (pre := [oc m0 7 [.ref A0, .ref V0, .ref Z0, .int sm, .int th, .int (nI c9x), .int (nI kk), .ref D0, .ref W0, .ref T0, .int tl, .int tw, .int tc]]) (l1 := []) hw (fun j9 _ => by rw [hq0])
          refine lv_aload_n hx hb dX7_steps_67 rfl (lv_at hl 3 rfl) ?_
          refine k_V (As := []) (rest := []) (pre := []) (mid := [oc m0 7 [.ref A0, .ref V0, .ref Z0, .int sm, .int th, .int (nI c9x), .int (nI kk), .ref D0, .ref W0, .ref T0, .int tl, .int tw, .int tc], ac E A0 985 (mA h w (nI d) (nI n9) z st A1.1 ke tu ca tr o9 la)]) C0 (c_X7_reasonToStay l E m0 A0 V0 Z0 D0 W0 T0 sm th tl tw tc h w d n9 z st A1.1 ke tu ca tr o9 la c9x kk hp (by first | assumption | omega) (hcx) (by first | assumption | omega) (by first | assumption | omega) (by first | assumption | omega) (by first | assumption | omega) (by first | assumption | omega) (by first | assumption | omega)) (cwV 0 hts gX7_steps_X7_reasonToStay rfl rfl rfl (by decide +kernel) ⟨Nat.le_of_ble_eq_true rfl, Nat.le_of_ble_eq_true rfl⟩) hw rfl (fun _ => [oc m0 7 [.ref A0, .ref V0, .ref Z0, .int sm, .int th, .int (nI (hopF h w d ca tr hp c9x o9).1), .int (nI (kk + 1)), .ref D0, .ref W0, .ref T0, .int tl, .int tw, .int tc], ac E A0 985 (mA h w (nI d) (nI (rsS h w d st A1.1 tu ca tr (hopF h w d ca tr hp c9x o9).1 (kk + 1) n9).2) z st A1.1 ke tu ca (trO ca tr (hopF h w d ca tr hp c9x o9).1) ((hopF h w d ca tr hp c9x o9).2) la)]) (fun _ => rfl) 0 7 rfl rfl rfl rfl hl.1 rfl (Nat.le_of_ble_eq_true rfl) dX7_steps_68 ⟨Nat.le_of_ble_eq_true rfl, Nat.le_of_ble_eq_true rfl⟩ (fun r u H locs hq99 hw => ?_)
          subst hq99
          have hw : kW E AA sx (List.flatten [oc m0 7 [.ref A0, .ref V0, .ref Z0, .int sm, .int th, .int (nI (hopF h w d ca tr hp c9x o9).1), .int (nI (kk + 1)), .ref D0, .ref W0, .ref T0, .int tl, .int tw, .int tc], ac E A0 985 (mA h w (nI d) (nI (rsS h w d st A1.1 tu ca tr (hopF h w d ca tr hp c9x o9).1 (kk + 1) n9).2) z st A1.1 ke tu ca (trO ca tr (hopF h w d ca tr hp c9x o9).1) ((hopF h w d ca tr hp c9x o9).2) la)]) H locs := hw
          refine W.eq (g2 := F0 mm 71 ls [.int (nI (rsS h w d st A1.1 tu ca tr (hopF h w d ca tr hp c9x o9).1 (kk + 1) n9).1)]) rfl ?_
          refine lv_istore_n (lv' := [(2, .int (nI (rsS h w d st A1.1 tu ca tr (hopF h w d ca tr hp c9x o9).1 (kk + 1) n9).1)), (3, .int 1), (1, .int (nI c0)), (0, .ref m0)]) hx hb dX7_steps_71 rfl hl (by decide) rfl (fun ls hl => ?_)
          refine lv_goto (tgt := 63) hx hb dX7_steps_72 (by decide) ?_
          -- back 0
          exact ih63 ((rsS h w d st A1.1 tu ca tr (hopF h w d ca tr hp c9x o9).1 (kk + 1) n9).1) ((hopF h w d ca tr hp c9x o9).1) (kk + 1) ((rsS h w d st A1.1 tu ca tr (hopF h w d ca tr hp c9x o9).1 (kk + 1) n9).2) ((hopF h w d ca tr hp c9x o9).2) (trO ca tr (hopF h w d ca tr hp c9x o9).1) (hhl9) (by by_cases h97 : kk + 1 = 12; exact Or.inr ⟨h97, rsS_12 h97⟩; exact Or.inl (by omega)) (hrs9.1) (hrs9.2) (by rw [show 12 - (kk + 1) = m9 by omega]; exact flG_step hF) (rsS_5) (by omega) H _ ls (lv_sub hl [1, 0, 2, 3] rfl) hw
    exact loop63 ((12 - 0) + 1) R0.1 c0 0 R0.2 A1.2 tr (by first | assumption | omega) (by first | assumption | omega) (hrl9.1) (hrl9.2) (by unfold flG; rw [if_pos c16]) ((if_neg (by omega)).symm) (Nat.lt_succ_self _) H _ ls (lv_sub hl [0, 1, 2, 3] rfl) hw

abbrev rmX7_runs : Room := { frames := 5, cells := 0, slots := 0, locals := 122 }
set_option maxHeartbeats 4000000 in
set_option maxRecDepth 100000 in
theorem c_X7_runs (l : Launch) (E : kE) (m0 : Nat) (A0 : Nat) (V0 : Nat) (Z0 : Nat) (D0 : Nat) (W0 : Nat) (T0 : Nat) (sm : Int32) (th : Int32) (pl : Int32) (hz : Int32) (tl : Int32) (tw : Int32) (tc : Int32) (h : Nat) (w : Nat) (d : Nat) (n0 : Nat) (z : Int32) (st : Nat → Int32) (he : Nat → Int32) (ke : Nat → Int32) (tu : Nat → Int32) (ca : Nat → Int32) (tr : Nat → Int32) (co : Nat → Int32) (la : Nat → Int32) (m9 : Nat) (hp : Nat) (B : Nat) (hm9 : m9 ≤ 2000) (hG : kG h w) (hd : d < 4) (hn0 : n0 < 2147483648) (hst0 : st 0 = nI hp) (hp8 : hp ≤ 8) (hp1 : 1 ≤ hp) (hH : hI (h * w) he B) (hB : B < 1000000) (hsl : 1 ≤ (st 3).toInt) : kC E l yX7_runs wsX7_runs rmX7_runs [.ref m0, .int (nI m9)] (List.flatten [oc m0 7 [.ref A0, .ref V0, .ref Z0, .int sm, .int th, .int pl, .int hz, .ref D0, .ref W0, .ref T0, .int tl, .int tw, .int tc], ac E A0 985 (mA h w (nI d) (nI n0) z st he ke tu ca tr co la)]) kI (fun (r : Int32) (u : Int32 × Int32) => r = nI (blo h w d hp st tu ca m9 (n0, he, tr, co, la)).1) (fun (u : Int32 × Int32) => List.flatten [oc m0 7 [.ref A0, .ref V0, .ref Z0, .int sm, .int th, .int u.1, .int u.2, .ref D0, .ref W0, .ref T0, .int tl, .int tw, .int tc], ac E A0 985 (mA h w (nI d) (nI (blo h w d hp st tu ca m9 (n0, he, tr, co, la)).2.1) z st ((blo h w d hp st tu ca m9 (n0, he, tr, co, la)).2.2.1) ke tu ca ((blo h w d hp st tu ca m9 (n0, he, tr, co, la)).2.2.2.1) ((blo h w d hp st tu ca m9 (n0, he, tr, co, la)).2.2.2.2.1) ((blo h w d hp st tu ca m9 (n0, he, tr, co, la)).2.2.2.2.2))]) 0 0 := by
  refine k_body (cc := cX7_runs) (maxL := 4) (ret := (some .int)) (by decide) rfl (Nat.le_of_ble_eq_true rfl) ?_
  intro pp ee sx mm aa bb me cd H locs AA ls C0 hr hlk hnm hl hw
  obtain ⟨hx, hb, hml, hown, hts⟩ := id C0
  have hl : lv_has ls 4 [(0, .ref m0), (1, .int (nI m9))] := hl
  have hw : kW E AA sx (List.flatten [oc m0 7 [.ref A0, .ref V0, .ref Z0, .int sm, .int th, .int pl, .int hz, .ref D0, .ref W0, .ref T0, .int tl, .int tw, .int tc], ac E A0 985 (mA h w (nI d) (nI n0) z st he ke tu ca tr co la)]) H locs := hw
  have hn9 := kG_n hG
  have hG9 := id hG
  obtain ⟨hG1, hG2, hG3, hG4⟩ := hG9
  refine lv_iconst (v := 0) hx hb dX7_runs_0 (by decide) ?_
  refine lv_istore_n (lv' := [(2, .int 0), (0, .ref m0), (1, .int (nI m9))]) hx hb dX7_runs_1 rfl hl (by decide) rfl (fun ls hl => ?_)
  refine lv_iconst (v := 0) hx hb dX7_runs_2 (by decide) ?_
  refine lv_istore_n (lv' := [(3, .int 0), (2, .int 0), (0, .ref m0), (1, .int (nI m9))]) hx hb dX7_runs_3 rfl hl (by decide) rfl (fun ls hl => ?_)
  have loop4 : ∀ (nn : Nat) (i : Nat) (x9 : Nat) (S9 : stT) (y1 : Int32) (y2 : Int32), (i ≤ m9) → (S9.1 < 2147483648) → (S9 = (blo h w d hp st tu ca i (n0, he, tr, co, la)).2) → (x9 = (blo h w d hp st tu ca i (n0, he, tr, co, la)).1) → (hI (h * w) S9.2.1 B) → m9 - i < nn → ∀ (H : Heap) (locs : List Loc) (ls : Array Slot), lv_has ls 4 [(3, .int (nI i)), (2, .int (nI x9)), (0, .ref m0), (1, .int (nI m9))] → kW E AA sx (List.flatten [oc m0 7 [.ref A0, .ref V0, .ref Z0, .int sm, .int th, .int y1, .int y2, .ref D0, .ref W0, .ref T0, .int tl, .int tw, .int tc], ac E A0 985 (mA h w (nI d) (nI S9.1) z st S9.2.1 ke tu ca S9.2.2.1 S9.2.2.2.1 S9.2.2.2.2)]) H locs → W pp l ee rmX7_runs sx mm aa bb me cd H locs 0 0 (kEnd E kI (fun (r : Int32) (u : Int32 × Int32) => r = nI (blo h w d hp st tu ca m9 (n0, he, tr, co, la)).1) (fun (u : Int32 × Int32) => List.flatten [oc m0 7 [.ref A0, .ref V0, .ref Z0, .int sm, .int th, .int u.1, .int u.2, .ref D0, .ref W0, .ref T0, .int tl, .int tw, .int tc], ac E A0 985 (mA h w (nI d) (nI (blo h w d hp st tu ca m9 (n0, he, tr, co, la)).2.1) z st ((blo h w d hp st tu ca m9 (n0, he, tr, co, la)).2.2.1) ke tu ca ((blo h w d hp st tu ca m9 (n0, he, tr, co, la)).2.2.2.1) ((blo h w d hp st tu ca m9 (n0, he, tr, co, la)).2.2.2.2.1) ((blo h w d hp st tu ca m9 (n0, he, tr, co, la)).2.2.2.2.2))]) bb aa sx AA 0 0) (F0 mm 4 ls []) := by
    intro nn
    induction nn with
    | zero => intro i x9 S9 y1 y2 hi hn9x hS hx9 hHS hm4; exact absurd hm4 (Nat.not_lt_zero _)
    | succ nn ih4 =>
      intro i x9 S9 y1 y2 hi hn9x hS hx9 hHS hm4 H locs ls hl hw
      refine lv_iload_n hx hb dX7_runs_4 rfl (lv_at hl 0 rfl) ?_
      refine lv_iload_n hx hb dX7_runs_5 rfl (lv_at hl 3 rfl) ?_
      refine lv_icmp_ge (tgt := 30) hx hb dX7_runs_6 (by decide) (fun c6 => ?_) (fun c6 => ?_)
      · have c6 : m9 ≤ i := (nI_leI (a := m9) (b := i) (by omega) (by omega)).mp c6
        have hie9 : i = m9 := by omega
        rw [hie9] at hS hx9
        have hw : kW E AA sx (List.flatten [oc m0 7 [.ref A0, .ref V0, .ref Z0, .int sm, .int th, .int y1, .int y2, .ref D0, .ref W0, .ref T0, .int tl, .int tw, .int tc], ac E A0 985 (mA h w (nI d) (nI (blo h w d hp st tu ca m9 (n0, he, tr, co, la)).2.1) z st ((blo h w d hp st tu ca m9 (n0, he, tr, co, la)).2.2.1) ke tu ca ((blo h w d hp st tu ca m9 (n0, he, tr, co, la)).2.2.2.1) ((blo h w d hp st tu ca m9 (n0, he, tr, co, la)).2.2.2.2.1) ((blo h w d hp st tu ca m9 (n0, he, tr, co, la)).2.2.2.2.2))]) H locs := kW.arr (pre := [oc m0 7 [.ref A0, .ref V0, .ref Z0, .int sm, .int th, .int y1, .int y2, .ref D0, .ref W0, .ref T0, .int tl, .int tw, .int tc]]) (l1 := []) hw (fun j9 _ => by rw [hS])
        refine lv_iload_n hx hb dX7_runs_30 rfl (lv_at hl 1 rfl) ?_
        -- leaf 0
        exact k_iret C0 hr hlk hw (y1, y2) (rfl) (by rw [hx9]) (Nat.le_of_ble_eq_true rfl) (Nat.le_of_ble_eq_true rfl) dX7_runs_31
      · have c6 : ¬ m9 ≤ i := fun h99 => c6 ((nI_leI (a := m9) (b := i) (by omega) (by omega)).mpr h99)
        refine lv_iload_n hx hb dX7_runs_9 rfl (lv_at hl 1 rfl) ?_
        refine lv_aload_n hx hb dX7_runs_10 rfl (lv_at hl 2 rfl) ?_
        refine k_V (As := []) (rest := [.int (nI x9)]) (pre := []) (mid := [oc m0 7 [.ref A0, .ref V0, .ref Z0, .int sm, .int th, .int y1, .int y2, .ref D0, .ref W0, .ref T0, .int tl, .int tw, .int tc], ac E A0 985 (mA h w (nI d) (nI S9.1) z st S9.2.1 ke tu ca S9.2.2.1 S9.2.2.2.1 S9.2.2.2.2)]) C0 (c_X7_steps l E m0 A0 V0 Z0 D0 W0 T0 sm th y1 y2 tl tw tc h w d S9.1 z st S9.2.1 ke tu ca S9.2.2.1 S9.2.2.2.1 S9.2.2.2.2 hp B (by first | assumption | omega) (by first | assumption | omega) (hn9x) (by first | assumption | omega) (by first | assumption | omega) (by first | assumption | omega) (hHS) (by first | assumption | omega) (by first | assumption | omega)) (cwV 0 hts gX7_runs_X7_steps rfl rfl rfl (by decide +kernel) ⟨Nat.le_of_ble_eq_true rfl, Nat.le_of_ble_eq_true rfl⟩) hw rfl (fun (u11 : Int32 × Int32) => [oc m0 7 [.ref A0, .ref V0, .ref Z0, .int sm, .int th, .int u11.1, .int u11.2, .ref D0, .ref W0, .ref T0, .int tl, .int tw, .int tc], ac E A0 985 (mA h w (nI d) (nI (stp h w d hp st tu ca (S9.1, S9.2.1, S9.2.2.1, S9.2.2.2.1, S9.2.2.2.2)).2.1) z st ((stp h w d hp st tu ca (S9.1, S9.2.1, S9.2.2.1, S9.2.2.2.1, S9.2.2.2.2)).2.2.1) ke tu ca ((stp h w d hp st tu ca (S9.1, S9.2.1, S9.2.2.1, S9.2.2.2.1, S9.2.2.2.2)).2.2.2.1) ((stp h w d hp st tu ca (S9.1, S9.2.1, S9.2.2.1, S9.2.2.2.1, S9.2.2.2.2)).2.2.2.2.1) ((stp h w d hp st tu ca (S9.1, S9.2.1, S9.2.2.1, S9.2.2.2.1, S9.2.2.2.2)).2.2.2.2.2))]) (fun _ => rfl) 0 7 rfl rfl rfl rfl hl.1 rfl (Nat.le_of_ble_eq_true rfl) dX7_runs_11 ⟨Nat.le_of_ble_eq_true rfl, Nat.le_of_ble_eq_true rfl⟩ (fun r u11 H locs hq99 hw => ?_)
        obtain ⟨r11, rfl⟩ : ∃ z, z = r := ⟨_, rfl⟩
        have h11 : r11 = nI (stp h w d hp st tu ca (S9.1, S9.2.1, S9.2.2.1, S9.2.2.2.1, S9.2.2.2.2)).1 := hq99
        have hw : kW E AA sx (List.flatten [oc m0 7 [.ref A0, .ref V0, .ref Z0, .int sm, .int th, .int u11.1, .int u11.2, .ref D0, .ref W0, .ref T0, .int tl, .int tw, .int tc], ac E A0 985 (mA h w (nI d) (nI (stp h w d hp st tu ca (S9.1, S9.2.1, S9.2.2.1, S9.2.2.2.1, S9.2.2.2.2)).2.1) z st ((stp h w d hp st tu ca (S9.1, S9.2.1, S9.2.2.1, S9.2.2.2.1, S9.2.2.2.2)).2.2.1) ke tu ca ((stp h w d hp st tu ca (S9.1, S9.2.1, S9.2.2.1, S9.2.2.2.1, S9.2.2.2.2)).2.2.2.1) ((stp h w d hp st tu ca (S9.1, S9.2.1, S9.2.2.1, S9.2.2.2.1, S9.2.2.2.2)).2.2.2.2.1) ((stp h w d hp st tu ca (S9.1, S9.2.1, S9.2.2.1, S9.2.2.2.1, S9.2.2.2.2)).2.2.2.2.2))]) H locs := hw
        refine W.eq (g2 := F0 mm 14 ls [.int r11, .int (nI x9)]) rfl ?_
        have hs1 := stp_b (S := S9) h11
        refine lv_if_eq (tgt := 21) hx hb dX7_runs_14 (by decide) (fun c14 => ?_) (fun c14 => ?_)
        · refine lv_iconst (v := 0) hx hb dX7_runs_21 (by decide) ?_
          refine lv_iadd hx hb dX7_runs_22 ?_
          refine W.eq (g2 := F0 mm 23 ls [.int (nI x9)]) (congrArg (fun z9 => F0 mm 23 ls [.int z9]) (show ((nI x9) + 0 : Int32) = nI x9 from Int32.add_zero _)) ?_
          refine lv_istore_n (lv' := [(2, .int (nI x9)), (3, .int (nI i)), (0, .ref m0), (1, .int (nI m9))]) hx hb dX7_runs_23 rfl hl (by decide) rfl (fun ls hl => ?_)
          refine lv_iinc (v := nI (i + 1)) (lv' := [(3, .int (nI (i + 1))), (2, .int (nI x9)), (0, .ref m0), (1, .int (nI m9))]) hx hb dX7_runs_24 hl (k := 1) rfl (nI_1 _) (by decide) rfl (fun ls hl => ?_)
          refine lv_goto (tgt := 4) hx hb dX7_runs_27 (by decide) ?_
          -- back 0
          exact ih4 (i + 1) x9 ((stp h w d hp st tu ca (S9.1, S9.2.1, S9.2.2.1, S9.2.2.2.1, S9.2.2.2.2)).2) u11.1 u11.2 (by first | assumption | omega) (stp_n) (by have e9 := blo_s h w d hp st tu ca i (n0, he, tr, co, la); rw [← hS] at e9; exact (congrArg Prod.snd e9).symm) (by have e9 := congrArg Prod.fst (blo_s h w d hp st tu ca i (n0, he, tr, co, la)); rw [← hS] at e9; rw [e9]; show x9 = (blo h w d hp st tu ca i (n0, he, tr, co, la)).1 + (stp h w d hp st tu ca S9).1; rw [← hx9, hs1.1 c14, Nat.add_zero]) (stp_H hG hB hsl hHS) (by omega) H _ ls (lv_sub hl [0, 1, 2, 3] rfl) hw
        · refine lv_iconst (v := 1) hx hb dX7_runs_17 (by decide) ?_
          refine lv_goto (tgt := 22) hx hb dX7_runs_18 (by decide) ?_
          refine lv_iadd hx hb dX7_runs_22 ?_
          refine W.eq (g2 := F0 mm 23 ls [.int (nI (x9 + 1))]) (congrArg (fun z9 => F0 mm 23 ls [.int z9]) (show ((nI x9) + 1 : Int32) = nI (x9 + 1) from nI_1 _)) ?_
          refine lv_istore_n (lv' := [(2, .int (nI (x9 + 1))), (3, .int (nI i)), (0, .ref m0), (1, .int (nI m9))]) hx hb dX7_runs_23 rfl hl (by decide) rfl (fun ls hl => ?_)
          refine lv_iinc (v := nI (i + 1)) (lv' := [(3, .int (nI (i + 1))), (2, .int (nI (x9 + 1))), (0, .ref m0), (1, .int (nI m9))]) hx hb dX7_runs_24 hl (k := 1) rfl (nI_1 _) (by decide) rfl (fun ls hl => ?_)
          refine lv_goto (tgt := 4) hx hb dX7_runs_27 (by decide) ?_
          -- back 1
          exact ih4 (i + 1) (x9 + 1) ((stp h w d hp st tu ca (S9.1, S9.2.1, S9.2.2.1, S9.2.2.2.1, S9.2.2.2.2)).2) u11.1 u11.2 (by first | assumption | omega) (stp_n) (by have e9 := blo_s h w d hp st tu ca i (n0, he, tr, co, la); rw [← hS] at e9; exact (congrArg Prod.snd e9).symm) (by have e9 := congrArg Prod.fst (blo_s h w d hp st tu ca i (n0, he, tr, co, la)); rw [← hS] at e9; rw [e9]; show x9 + 1 = (blo h w d hp st tu ca i (n0, he, tr, co, la)).1 + (stp h w d hp st tu ca S9).1; rw [← hx9, hs1.2 c14]) (stp_H hG hB hsl hHS) (by omega) H _ ls (lv_sub hl [0, 1, 2, 3] rfl) hw
  exact loop4 ((m9 - 0) + 1) 0 0 (n0, he, tr, co, la) pl hz (by first | assumption | omega) (hn0) (rfl) (rfl) (hH) (Nat.lt_succ_self _) H _ ls (lv_sub hl [0, 1, 2, 3] rfl) hw
