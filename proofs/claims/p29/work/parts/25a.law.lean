/-! THE LAW: up, trapped, isStep -/
abbrev rmL_up : Room := { frames := 0, cells := 0, slots := 0, locals := 0 }
set_option maxHeartbeats 4000000 in
set_option maxRecDepth 100000 in
theorem c_L_up (l : Launch) (E : kE) (v : Int32) (n : Nat) (hn : 0 < n) (hn2 : n < 2147483648) : kC E l yL_up wsL_up rmL_up [.int v, .int (nI n)] (([] : va_W)) kI (fun (r : Int32) (_ : Unit) => r = nI (upN v n)) (fun _ => ([] : va_W)) 0 0 := by
  refine k_body (cc := cL_up) (maxL := 2) (ret := (some .int)) (by decide) rfl (Nat.le_of_ble_eq_true rfl) ?_
  intro pp ee sx mm aa bb me cd H locs AA ls C0 hr hlk hnm hl hw
  obtain ⟨hx, hb, hml, hown, hts⟩ := id C0
  have hl : lv_has ls 2 [(0, .int v), (1, .int (nI n))] := hl
  have hw : kW E AA sx (List.flatten []) H locs := hw
  refine lv_iload_n hx hb dL_up_0 rfl (lv_at hl 0 rfl) ?_
  refine lv_ldc (v := 2147483647) hx hb hown (hts (.constant RL 8 2147483647) (by decide +kernel)) dL_up_1 ?_
  refine lv_iand hx hb dL_up_3 ?_
  refine lv_iload_n hx hb dL_up_4 rfl (lv_at hl 1 rfl) ?_
  refine lv_irem hx hb dL_up_5 (nI_ne0 hn hn2) ?_
  refine W.eq (g2 := F0 mm 6 ls [.int (nI (upN v n))]) (congrArg (fun z9 => F0 mm 6 ls [.int z9]) (show ((v &&& 2147483647) - (v &&& 2147483647) / (nI n) * (nI n) : Int32) = nI (upN v n) from upN_e hn hn2)) ?_
  -- leaf 0
  exact k_iret C0 hr hlk hw () (rfl) (rfl) (Nat.le_of_ble_eq_true rfl) (Nat.le_of_ble_eq_true rfl) dL_up_6

abbrev rmL_trapped : Room := { frames := 7, cells := 0, slots := 0, locals := 132 }
set_option maxHeartbeats 4000000 in
set_option maxRecDepth 100000 in
theorem c_L_trapped (l : Launch) (hfl : l.stackTraces = false) (E : kE) (X : xT) (O : oT) (hG : kG O.1.1 O.1.2.1) (hd : O.1.2.2.1 < 4) : kX E l yL_trapped wsL_trapped rmL_trapped [.ref X.1.1] (List.flatten [ob E X O]) kI (fun (r : Int32) (_ : Unit) => r = sumI (tpI O.1.2.2.2.2.2.2.2.2.2.1 O.1.2.2.2.2.2.2.2.2.2.2.1) (O.1.1 * O.1.2.1)) (fun _ => List.flatten [ob E X O]) (fun X => False) 0 0 := by
  have hn9 := kG_n hG
  refine kX_body (cc := cL_trapped) (maxL := 3) (ret := (some .int)) (by decide) rfl (Nat.le_of_ble_eq_true rfl) ?_
  intro pp ee sx mm aa bb me cd H locs AA ls C0 hr hlk hxt hZ hl hw
  obtain ⟨hx, hb, hml, hown, hts⟩ := id C0
  have hl : lv_has ls 3 [(0, .ref X.1.1)] := hl
  have hw : kW E AA sx (List.flatten [ob E X O]) H locs := hw
  refine lv_iconst (v := 0) hx hb dL_trapped_0 (by decide) ?_
  refine lv_istore_n (lv' := [(1, .int 0), (0, .ref X.1.1)]) hx hb dL_trapped_1 rfl hl (by decide) rfl (fun ls hl => ?_)
  refine lv_iconst (v := 0) hx hb dL_trapped_2 (by decide) ?_
  refine lv_istore_n (lv' := [(2, .int 0), (1, .int 0), (0, .ref X.1.1)]) hx hb dL_trapped_3 rfl hl (by decide) rfl (fun ls hl => ?_)
  have loop4 : ∀ (nn : Nat) (i : Nat), (i ≤ O.1.1 * O.1.2.1) → O.1.1 * O.1.2.1 - i < nn → ∀ (H : Heap) (locs : List Loc) (ls : Array Slot), lv_has ls 3 [(2, .int (nI i)), (1, .int (sumI (tpI O.1.2.2.2.2.2.2.2.2.2.1 O.1.2.2.2.2.2.2.2.2.2.2.1) i)), (0, .ref X.1.1)] → kW E AA sx (List.flatten [ob E X O]) H locs → W pp l ee rmL_trapped sx mm aa bb me cd H locs 0 0 (kEndX E kI (fun (r : Int32) (_ : Unit) => r = sumI (tpI O.1.2.2.2.2.2.2.2.2.2.1 O.1.2.2.2.2.2.2.2.2.2.2.1) (O.1.1 * O.1.2.1)) (fun _ => List.flatten [ob E X O]) (List.flatten [ob E X O]) (fun X => False) bb aa sx AA 0 0) (F0 mm 4 ls []) := by
    intro nn
    induction nn with
    | zero => intro i hi hm4; exact absurd hm4 (Nat.not_lt_zero _)
    | succ nn ih4 =>
      intro i hi hm4 H locs ls hl hw
      refine lv_iload_n hx hb dL_trapped_4 rfl (lv_at hl 0 rfl) ?_
      refine lv_aload_n hx hb dL_trapped_5 rfl (lv_at hl 2 rfl) ?_
      refine lv_iconst (v := 4) hx hb dL_trapped_6 (by decide) ?_
      refine k_VF (As := [.int 4]) (rest := [.int (nI i)]) (pre := []) (mid := [ob E X O]) C0 (o_value l hfl E X O 4 (by first | assumption | omega) (by first | assumption | omega)) (cwV 1 hts gL_trapped_X6_value rfl rfl rfl (by decide +kernel) ⟨Nat.le_of_ble_eq_true rfl, Nat.le_of_ble_eq_true rfl⟩) hw rfl hZ (fun _ => [ob E X O]) (fun _ => rfl) 0 6 rfl rfl rfl rfl hl.1 rfl (Nat.le_of_ble_eq_true rfl) dL_trapped_7 ⟨Nat.le_of_ble_eq_true rfl, Nat.le_of_ble_eq_true rfl⟩ (fun r u H locs hq99 hw => ?_)
      subst hq99
      have hw : kW E AA sx (List.flatten [ob E X O]) H locs := hw
      refine W.eq (g2 := F0 mm 10 ls [.int (valN (nI O.1.1) (nI O.1.2.1) (nI O.1.2.2.1) (nI O.1.2.2.2.1) O.1.2.2.2.2.1 O.1.2.2.2.2.2.1 4), .int (nI i)]) rfl ?_
      refine W.eq (g2 := F0 mm 10 ls [.int (nI O.1.1), .int (nI i)]) (congrArg (fun z9 => F0 mm 10 ls [.int z9, .int (nI i)]) (show (valN (nI O.1.1) (nI O.1.2.1) (nI O.1.2.2.1) (nI O.1.2.2.2.1) O.1.2.2.2.2.1 O.1.2.2.2.2.2.1 4 : Int32) = nI O.1.1 from rfl)) ?_
      refine lv_aload_n hx hb dL_trapped_10 rfl (lv_at hl 2 rfl) ?_
      refine lv_iconst (v := 5) hx hb dL_trapped_11 (by decide) ?_
      refine k_VF (As := [.int 5]) (rest := [.int (nI O.1.1), .int (nI i)]) (pre := []) (mid := [ob E X O]) C0 (o_value l hfl E X O 5 (by first | assumption | omega) (by first | assumption | omega)) (cwV 1 hts gL_trapped_X6_value rfl rfl rfl (by decide +kernel) ⟨Nat.le_of_ble_eq_true rfl, Nat.le_of_ble_eq_true rfl⟩) hw rfl hZ (fun _ => [ob E X O]) (fun _ => rfl) 0 6 rfl rfl rfl rfl hl.1 rfl (Nat.le_of_ble_eq_true rfl) dL_trapped_12 ⟨Nat.le_of_ble_eq_true rfl, Nat.le_of_ble_eq_true rfl⟩ (fun r u H locs hq99 hw => ?_)
      subst hq99
      have hw : kW E AA sx (List.flatten [ob E X O]) H locs := hw
      refine W.eq (g2 := F0 mm 15 ls [.int (valN (nI O.1.1) (nI O.1.2.1) (nI O.1.2.2.1) (nI O.1.2.2.2.1) O.1.2.2.2.2.1 O.1.2.2.2.2.2.1 5), .int (nI O.1.1), .int (nI i)]) rfl ?_
      refine W.eq (g2 := F0 mm 15 ls [.int (nI O.1.2.1), .int (nI O.1.1), .int (nI i)]) (congrArg (fun z9 => F0 mm 15 ls [.int z9, .int (nI O.1.1), .int (nI i)]) (show (valN (nI O.1.1) (nI O.1.2.1) (nI O.1.2.2.1) (nI O.1.2.2.2.1) O.1.2.2.2.2.1 O.1.2.2.2.2.2.1 5 : Int32) = nI O.1.2.1 from rfl)) ?_
      refine lv_imul hx hb dL_trapped_15 ?_
      refine W.eq (g2 := F0 mm 16 ls [.int (nI (O.1.1 * O.1.2.1)), .int (nI i)]) (congrArg (fun z9 => F0 mm 16 ls [.int z9, .int (nI i)]) (show ((nI O.1.1) * (nI O.1.2.1) : Int32) = nI (O.1.1 * O.1.2.1) from pk_mul _ _)) ?_
      refine lv_icmp_ge (tgt := 47) hx hb dL_trapped_16 (by decide) (fun c16 => ?_) (fun c16 => ?_)
      · have c16 : (O.1.1 * O.1.2.1) ≤ i := (nI_leI (a := (O.1.1 * O.1.2.1)) (b := i) (by omega) (by omega)).mp c16
        refine lv_iload_n hx hb dL_trapped_47 rfl (lv_at hl 1 rfl) ?_
        -- leaf 0
        exact vx_ret <| k_iret C0 hr hlk hw () (rfl) (by rw [show i = O.1.1 * O.1.2.1 by omega]) (Nat.le_of_ble_eq_true rfl) (Nat.le_of_ble_eq_true rfl) dL_trapped_48
      · have c16 : ¬ (O.1.1 * O.1.2.1) ≤ i := fun h99 => c16 ((nI_leI (a := (O.1.1 * O.1.2.1)) (b := i) (by omega) (by omega)).mpr h99)
        refine lv_iload_n hx hb dL_trapped_19 rfl (lv_at hl 1 rfl) ?_
        refine lv_aload_n hx hb dL_trapped_20 rfl (lv_at hl 2 rfl) ?_
        refine lv_iload_n hx hb dL_trapped_21 rfl (lv_at hl 0 rfl) ?_
        refine lv_iconst (v := 3) hx hb dL_trapped_22 (by decide) ?_
        refine k_VF (As := [.int (nI i), .int 3]) (rest := [.int (sumI (tpI O.1.2.2.2.2.2.2.2.2.2.1 O.1.2.2.2.2.2.2.2.2.2.2.1) i)]) (pre := []) (mid := [ob E X O]) C0 (o_cell l hfl E X O i 3 (by first | assumption | omega) (by first | assumption | omega) (by first | assumption | omega) (by first | assumption | omega)) (cwV 2 hts gL_trapped_X6_cell rfl rfl rfl (by decide +kernel) ⟨Nat.le_of_ble_eq_true rfl, Nat.le_of_ble_eq_true rfl⟩) hw rfl hZ (fun _ => [ob E X O]) (fun _ => rfl) 0 6 rfl rfl rfl rfl hl.1 rfl (Nat.le_of_ble_eq_true rfl) dL_trapped_23 ⟨Nat.le_of_ble_eq_true rfl, Nat.le_of_ble_eq_true rfl⟩ (fun r u H locs hq99 hw => ?_)
        subst hq99
        have hw : kW E AA sx (List.flatten [ob E X O]) H locs := hw
        refine W.eq (g2 := F0 mm 26 ls [.int (cvN O.1.1 O.1.2.1 O.1.2.2.1 O.1.2.2.2.2.2.2.1 O.1.2.2.2.2.2.2.2.1 O.1.2.2.2.2.2.2.2.2.1 O.1.2.2.2.2.2.2.2.2.2.1 O.1.2.2.2.2.2.2.2.2.2.2.1 i 3), .int (sumI (tpI O.1.2.2.2.2.2.2.2.2.2.1 O.1.2.2.2.2.2.2.2.2.2.2.1) i)]) rfl ?_
        refine W.eq (g2 := F0 mm 26 ls [.int (trpN O.1.2.2.2.2.2.2.2.2.2.1 O.1.2.2.2.2.2.2.2.2.2.2.1 i), .int (sumI (tpI O.1.2.2.2.2.2.2.2.2.2.1 O.1.2.2.2.2.2.2.2.2.2.2.1) i)]) (congrArg (fun z9 => F0 mm 26 ls [.int z9, .int (sumI (tpI O.1.2.2.2.2.2.2.2.2.2.1 O.1.2.2.2.2.2.2.2.2.2.2.1) i)]) (show (cvN O.1.1 O.1.2.1 O.1.2.2.1 O.1.2.2.2.2.2.2.1 O.1.2.2.2.2.2.2.2.1 O.1.2.2.2.2.2.2.2.2.1 O.1.2.2.2.2.2.2.2.2.2.1 O.1.2.2.2.2.2.2.2.2.2.2.1 i 3 : Int32) = trpN O.1.2.2.2.2.2.2.2.2.2.1 O.1.2.2.2.2.2.2.2.2.2.2.1 i from rfl)) ?_
        refine lv_if_le (tgt := 38) hx hb dL_trapped_26 (by decide) (fun c26 => ?_) (fun c26 => ?_)
        · have hv9 : tpI O.1.2.2.2.2.2.2.2.2.2.1 O.1.2.2.2.2.2.2.2.2.2.2.1 i = 0 := if_neg (fun h99 => absurd c26 (Int32.not_le.mpr h99))
          refine lv_iconst (v := 0) hx hb dL_trapped_38 (by decide) ?_
          refine lv_iadd hx hb dL_trapped_39 ?_
          refine W.eq (g2 := F0 mm 40 ls [.int (sumI (tpI O.1.2.2.2.2.2.2.2.2.2.1 O.1.2.2.2.2.2.2.2.2.2.2.1) (i + 1))]) (congrArg (fun z9 => F0 mm 40 ls [.int z9]) (show ((sumI (tpI O.1.2.2.2.2.2.2.2.2.2.1 O.1.2.2.2.2.2.2.2.2.2.2.1) i) + 0 : Int32) = sumI (tpI O.1.2.2.2.2.2.2.2.2.2.1 O.1.2.2.2.2.2.2.2.2.2.2.1) (i + 1) from by show _ = sumI (tpI O.1.2.2.2.2.2.2.2.2.2.1 O.1.2.2.2.2.2.2.2.2.2.2.1) i + tpI O.1.2.2.2.2.2.2.2.2.2.1 O.1.2.2.2.2.2.2.2.2.2.2.1 i; rw [hv9])) ?_
          refine lv_istore_n (lv' := [(1, .int (sumI (tpI O.1.2.2.2.2.2.2.2.2.2.1 O.1.2.2.2.2.2.2.2.2.2.2.1) (i + 1))), (2, .int (nI i)), (0, .ref X.1.1)]) hx hb dL_trapped_40 rfl hl (by decide) rfl (fun ls hl => ?_)
          refine lv_iinc (v := nI (i + 1)) (lv' := [(2, .int (nI (i + 1))), (1, .int (sumI (tpI O.1.2.2.2.2.2.2.2.2.2.1 O.1.2.2.2.2.2.2.2.2.2.2.1) (i + 1))), (0, .ref X.1.1)]) hx hb dL_trapped_41 hl (k := 1) rfl (nI_1 _) (by decide) rfl (fun ls hl => ?_)
          refine lv_goto (tgt := 4) hx hb dL_trapped_44 (by decide) ?_
          -- back 0
          exact ih4 (i + 1) (by first | assumption | omega) (by omega) H _ ls (lv_sub hl [0, 1, 2] rfl) hw
        · have hv9 : tpI O.1.2.2.2.2.2.2.2.2.2.1 O.1.2.2.2.2.2.2.2.2.2.2.1 i = trpN O.1.2.2.2.2.2.2.2.2.2.1 O.1.2.2.2.2.2.2.2.2.2.2.1 i := if_pos (Int32.not_le.mp c26)
          refine lv_aload_n hx hb dL_trapped_29 rfl (lv_at hl 2 rfl) ?_
          refine lv_iload_n hx hb dL_trapped_30 rfl (lv_at hl 0 rfl) ?_
          refine lv_iconst (v := 3) hx hb dL_trapped_31 (by decide) ?_
          refine k_VF (As := [.int (nI i), .int 3]) (rest := [.int (sumI (tpI O.1.2.2.2.2.2.2.2.2.2.1 O.1.2.2.2.2.2.2.2.2.2.2.1) i)]) (pre := []) (mid := [ob E X O]) C0 (o_cell l hfl E X O i 3 (by first | assumption | omega) (by first | assumption | omega) (by first | assumption | omega) (by first | assumption | omega)) (cwV 2 hts gL_trapped_X6_cell rfl rfl rfl (by decide +kernel) ⟨Nat.le_of_ble_eq_true rfl, Nat.le_of_ble_eq_true rfl⟩) hw rfl hZ (fun _ => [ob E X O]) (fun _ => rfl) 0 6 rfl rfl rfl rfl hl.1 rfl (Nat.le_of_ble_eq_true rfl) dL_trapped_32 ⟨Nat.le_of_ble_eq_true rfl, Nat.le_of_ble_eq_true rfl⟩ (fun r u H locs hq99 hw => ?_)
          subst hq99
          have hw : kW E AA sx (List.flatten [ob E X O]) H locs := hw
          refine W.eq (g2 := F0 mm 35 ls [.int (cvN O.1.1 O.1.2.1 O.1.2.2.1 O.1.2.2.2.2.2.2.1 O.1.2.2.2.2.2.2.2.1 O.1.2.2.2.2.2.2.2.2.1 O.1.2.2.2.2.2.2.2.2.2.1 O.1.2.2.2.2.2.2.2.2.2.2.1 i 3), .int (sumI (tpI O.1.2.2.2.2.2.2.2.2.2.1 O.1.2.2.2.2.2.2.2.2.2.2.1) i)]) rfl ?_
          refine W.eq (g2 := F0 mm 35 ls [.int (trpN O.1.2.2.2.2.2.2.2.2.2.1 O.1.2.2.2.2.2.2.2.2.2.2.1 i), .int (sumI (tpI O.1.2.2.2.2.2.2.2.2.2.1 O.1.2.2.2.2.2.2.2.2.2.2.1) i)]) (congrArg (fun z9 => F0 mm 35 ls [.int z9, .int (sumI (tpI O.1.2.2.2.2.2.2.2.2.2.1 O.1.2.2.2.2.2.2.2.2.2.2.1) i)]) (show (cvN O.1.1 O.1.2.1 O.1.2.2.1 O.1.2.2.2.2.2.2.1 O.1.2.2.2.2.2.2.2.1 O.1.2.2.2.2.2.2.2.2.1 O.1.2.2.2.2.2.2.2.2.2.1 O.1.2.2.2.2.2.2.2.2.2.2.1 i 3 : Int32) = trpN O.1.2.2.2.2.2.2.2.2.2.1 O.1.2.2.2.2.2.2.2.2.2.2.1 i from rfl)) ?_
          refine lv_goto (tgt := 39) hx hb dL_trapped_35 (by decide) ?_
          refine lv_iadd hx hb dL_trapped_39 ?_
          refine W.eq (g2 := F0 mm 40 ls [.int (sumI (tpI O.1.2.2.2.2.2.2.2.2.2.1 O.1.2.2.2.2.2.2.2.2.2.2.1) (i + 1))]) (congrArg (fun z9 => F0 mm 40 ls [.int z9]) (show ((sumI (tpI O.1.2.2.2.2.2.2.2.2.2.1 O.1.2.2.2.2.2.2.2.2.2.2.1) i) + (trpN O.1.2.2.2.2.2.2.2.2.2.1 O.1.2.2.2.2.2.2.2.2.2.2.1 i) : Int32) = sumI (tpI O.1.2.2.2.2.2.2.2.2.2.1 O.1.2.2.2.2.2.2.2.2.2.2.1) (i + 1) from by show _ = sumI (tpI O.1.2.2.2.2.2.2.2.2.2.1 O.1.2.2.2.2.2.2.2.2.2.2.1) i + tpI O.1.2.2.2.2.2.2.2.2.2.1 O.1.2.2.2.2.2.2.2.2.2.2.1 i; rw [hv9])) ?_
          refine lv_istore_n (lv' := [(1, .int (sumI (tpI O.1.2.2.2.2.2.2.2.2.2.1 O.1.2.2.2.2.2.2.2.2.2.2.1) (i + 1))), (2, .int (nI i)), (0, .ref X.1.1)]) hx hb dL_trapped_40 rfl hl (by decide) rfl (fun ls hl => ?_)
          refine lv_iinc (v := nI (i + 1)) (lv' := [(2, .int (nI (i + 1))), (1, .int (sumI (tpI O.1.2.2.2.2.2.2.2.2.2.1 O.1.2.2.2.2.2.2.2.2.2.2.1) (i + 1))), (0, .ref X.1.1)]) hx hb dL_trapped_41 hl (k := 1) rfl (nI_1 _) (by decide) rfl (fun ls hl => ?_)
          refine lv_goto (tgt := 4) hx hb dL_trapped_44 (by decide) ?_
          -- back 1
          exact ih4 (i + 1) (by first | assumption | omega) (by omega) H _ ls (lv_sub hl [0, 1, 2] rfl) hw
  exact loop4 ((O.1.1 * O.1.2.1 - 0) + 1) 0 (Nat.zero_le _) (Nat.lt_succ_self _) H _ ls (lv_sub hl [0, 1, 2] rfl) hw
