/-! THE LAW: alike, sound -/
theorem fn_no {ca tr : Nat → Int32} {k : Nat} (hF : fnI ca tr) (h : ca k ≤ 0) : trpN ca tr k ≤ ca k ∧ trpN ca tr k < 0 := by
  rcases hF k with h1 | ⟨c, t, h1, h2, h3, h4, h5⟩
  · have e : trpN ca tr k = -1 := if_pos h1
    rw [e, h1]; exact ⟨Int32.le_refl _, by decide⟩
  · rw [h4] at h; exact absurd h (nI_nle (by omega) (by omega))
theorem fn_yes {ca tr : Nat → Int32} {k : Nat} (hF : fnI ca tr) (h : ¬ ca k ≤ 0) : trpN ca tr k ≤ ca k ∧ ¬ trpN ca tr k < 0 := by
  rcases hF k with h1 | ⟨c, t, h1, h2, h3, h4, h5⟩
  · rw [h1] at h; exact absurd (by decide) h
  · have h6 : ¬ ca k = -1 := by rw [h4]; exact nb_nm1 (by omega)
    have e : trpN ca tr k = nI t := (if_neg h6).trans h5
    rw [e, h4]; exact ⟨nI_le h3 (by omega), nI_pos (by omega)⟩
theorem la_0 {n : Nat} {la : Nat → Int32} (h : laI n la) (h0 : n = 0) : la 0 = -1 ∧ la 1 = -1 := by
  rcases h with h1 | h1
  · exact h1.2
  · omega
theorem la_n {n : Nat} {la : Nat → Int32} (h : laI n la) (h0 : ¬ n = 0) : ∃ r c k : Nat, 1 ≤ r ∧ r ≤ 8 ∧ c < 1000 ∧ k ≤ 12 ∧ la 0 = nI r ∧ la 1 = nI c ∧ (la 2 = -1 ↔ r < 5) ∧ la 3 = nI k := by
  rcases h with h1 | h1
  · exact absurd h1.1 h0
  · exact h1.2
theorem dn_le {h w : Nat} {he : Nat → Int32} {t : Int32} (hG : kG h w) : dnN h w he t ≤ 192 := Nat.le_trans (dnL_le (h * w)) (kG_n hG).1

abbrev rmL_areAlike : Room := { frames := 7, cells := 0, slots := 0, locals := 132 }
set_option maxHeartbeats 4000000 in
set_option maxRecDepth 100000 in
theorem c_L_areAlike (l : Launch) (hfl : l.stackTraces = false) (E : kE) (X : xT) (Y : xT) (F : fT) (J : jT) (K : jT) (hG : kG F.1 F.2.1) (hd : F.2.2.1 < 4) : kX E l yL_areAlike wsL_areAlike rmL_areAlike [.ref X.1.1, .ref Y.1.1] (List.flatten [ob E X (F, J), ob E Y (F, K)]) kI (fun (r : Int32) (_ : Unit) => r = 1) (fun _ => List.flatten [ob E X (F, J), ob E Y (F, K)]) (fun X => False) 0 0 := by
  have hn9 := kG_n hG
  refine kX_body (cc := cL_areAlike) (maxL := 5) (ret := (some .boolean)) (by decide) rfl (Nat.le_of_ble_eq_true rfl) ?_
  intro pp ee sx mm aa bb me cd H locs AA ls C0 hr hlk hxt hZ hl hw
  obtain ⟨hx, hb, hml, hown, hts⟩ := id C0
  have hl : lv_has ls 5 [(0, .ref X.1.1), (1, .ref Y.1.1)] := hl
  have hw : kW E AA sx (List.flatten [ob E X (F, J), ob E Y (F, K)]) H locs := hw
  refine lv_aload_n hx hb dL_areAlike_0 rfl (lv_at hl 0 rfl) ?_
  refine k_VF (As := []) (rest := []) (pre := []) (mid := [ob E X (F, J)]) C0 (o_shadowHeight l hfl E X (F, J) (by first | assumption | omega) (by first | assumption | omega)) (cwV 0 hts gL_areAlike_X6_shadowHeight rfl rfl rfl (by decide +kernel) ⟨Nat.le_of_ble_eq_true rfl, Nat.le_of_ble_eq_true rfl⟩) hw rfl hZ (fun _ => [ob E X (F, J)]) (fun _ => rfl) 0 6 rfl rfl rfl rfl hl.1 rfl (Nat.le_of_ble_eq_true rfl) dL_areAlike_1 ⟨Nat.le_of_ble_eq_true rfl, Nat.le_of_ble_eq_true rfl⟩ (fun r u H locs hq99 hw => ?_)
  subst hq99
  have hw : kW E AA sx (List.flatten [ob E X (F, J), ob E Y (F, K)]) H locs := hw
  refine W.eq (g2 := F0 mm 4 ls [.double (shM F.1 F.2.1 F.2.2.1 F.2.2.2.2.2.2.1)]) rfl ?_
  refine lv_aload_n hx hb dL_areAlike_4 rfl (lv_at hl 1 rfl) ?_
  refine k_VF (As := []) (rest := [.double (shM F.1 F.2.1 F.2.2.1 F.2.2.2.2.2.2.1)]) (pre := [ob E X (F, J)]) (mid := [ob E Y (F, K)]) C0 (o_shadowHeight l hfl E Y (F, K) (by first | assumption | omega) (by first | assumption | omega)) (cwV 0 hts gL_areAlike_X6_shadowHeight rfl rfl rfl (by decide +kernel) ⟨Nat.le_of_ble_eq_true rfl, Nat.le_of_ble_eq_true rfl⟩) hw rfl hZ (fun _ => [ob E Y (F, K)]) (fun _ => rfl) 0 6 rfl rfl rfl rfl hl.1 rfl (Nat.le_of_ble_eq_true rfl) dL_areAlike_5 ⟨Nat.le_of_ble_eq_true rfl, Nat.le_of_ble_eq_true rfl⟩ (fun r u H locs hq99 hw => ?_)
  subst hq99
  have hw : kW E AA sx (List.flatten [ob E X (F, J), ob E Y (F, K)]) H locs := hw
  refine W.eq (g2 := F0 mm 8 ls [.double (shM F.1 F.2.1 F.2.2.1 F.2.2.2.2.2.2.1), .double (shM F.1 F.2.1 F.2.2.1 F.2.2.2.2.2.2.1)]) rfl ?_
  refine lv_dcmp hx hb dL_areAlike_8 ?_
  refine W.eq (g2 := F0 mm 9 ls [.int 0]) (congrArg (fun z9 => F0 mm 9 ls [.int z9]) (show (Op.cmpValue (FP.dcmp (shM F.1 F.2.1 F.2.2.1 F.2.2.2.2.2.2.1) (shM F.1 F.2.1 F.2.2.1 F.2.2.2.2.2.2.1)) .l : Int32) = 0 from sh_cmp hG)) ?_
  refine lv_if_ne (tgt := 16) hx hb dL_areAlike_9 (by decide) (fun c9 => absurd c9 (by decide)) (fun c9 => ?_)
  refine lv_iconst (v := 1) hx hb dL_areAlike_12 (by decide) ?_
  refine lv_goto (tgt := 17) hx hb dL_areAlike_13 (by decide) ?_
  refine lv_istore_n (lv' := [(2, .int 1), (0, .ref X.1.1), (1, .ref Y.1.1)]) hx hb dL_areAlike_17 rfl hl (by decide) rfl (fun ls hl => ?_)
  refine lv_iconst (v := 0) hx hb dL_areAlike_18 (by decide) ?_
  refine lv_istore_n (lv' := [(3, .int 0), (2, .int 1), (0, .ref X.1.1), (1, .ref Y.1.1)]) hx hb dL_areAlike_19 rfl hl (by decide) rfl (fun ls hl => ?_)
  have loop20 : ∀ (nn : Nat) (j : Nat), (j ≤ 12) → 12 - j < nn → ∀ (H : Heap) (locs : List Loc) (ls : Array Slot), lv_has ls 5 [(3, .int (nI j)), (2, .int 1), (0, .ref X.1.1), (1, .ref Y.1.1)] → kW E AA sx (List.flatten [ob E X (F, J), ob E Y (F, K)]) H locs → W pp l ee rmL_areAlike sx mm aa bb me cd H locs 0 0 (kEndX E kI (fun (r : Int32) (_ : Unit) => r = 1) (fun _ => List.flatten [ob E X (F, J), ob E Y (F, K)]) (List.flatten [ob E X (F, J), ob E Y (F, K)]) (fun X => False) bb aa sx AA 0 0) (F0 mm 20 ls []) := by
    intro nn
    induction nn with
    | zero => intro j hj9 hm20; exact absurd hm20 (Nat.not_lt_zero _)
    | succ nn ih20 =>
      intro j hj9 hm20 H locs ls hl hw
      refine lv_iload_n hx hb dL_areAlike_20 rfl (lv_at hl 0 rfl) ?_
      refine lv_bipush (v := 12) hx hb dL_areAlike_21 (by decide) ?_
      refine lv_icmp_ge (tgt := 74) hx hb dL_areAlike_23 (by decide) (fun c23 => ?_) (fun c23 => ?_)
      · have c23 : 12 ≤ j := (nI_leI (a := 12) (b := j) (by omega) (by omega)).mp c23
        refine lv_iconst (v := 0) hx hb dL_areAlike_74 (by decide) ?_
        refine lv_istore_n (lv' := [(3, .int 0), (2, .int 1), (0, .ref X.1.1), (1, .ref Y.1.1)]) hx hb dL_areAlike_75 rfl hl (by decide) rfl (fun ls hl => ?_)
        have loop76 : ∀ (nn : Nat) (i : Nat), (i ≤ F.1 * F.2.1) → F.1 * F.2.1 - i < nn → ∀ (H : Heap) (locs : List Loc) (ls : Array Slot), lv_has ls 5 [(3, .int (nI i)), (2, .int 1), (0, .ref X.1.1), (1, .ref Y.1.1)] → kW E AA sx (List.flatten [ob E X (F, J), ob E Y (F, K)]) H locs → W pp l ee rmL_areAlike sx mm aa bb me cd H locs 0 0 (kEndX E kI (fun (r : Int32) (_ : Unit) => r = 1) (fun _ => List.flatten [ob E X (F, J), ob E Y (F, K)]) (List.flatten [ob E X (F, J), ob E Y (F, K)]) (fun X => False) bb aa sx AA 0 0) (F0 mm 76 ls []) := by
          intro nn
          induction nn with
          | zero => intro i hi hm76; exact absurd hm76 (Nat.not_lt_zero _)
          | succ nn ih76 =>
            intro i hi hm76 H locs ls hl hw
            refine lv_iload_n hx hb dL_areAlike_76 rfl (lv_at hl 0 rfl) ?_
            refine lv_aload_n hx hb dL_areAlike_77 rfl (lv_at hl 2 rfl) ?_
            refine lv_iconst (v := 4) hx hb dL_areAlike_78 (by decide) ?_
            refine k_VF (As := [.int 4]) (rest := [.int (nI i)]) (pre := []) (mid := [ob E X (F, J)]) C0 (o_value l hfl E X (F, J) 4 (by first | assumption | omega) (by first | assumption | omega)) (cwV 1 hts gL_areAlike_X6_value rfl rfl rfl (by decide +kernel) ⟨Nat.le_of_ble_eq_true rfl, Nat.le_of_ble_eq_true rfl⟩) hw rfl hZ (fun _ => [ob E X (F, J)]) (fun _ => rfl) 0 6 rfl rfl rfl rfl hl.1 rfl (Nat.le_of_ble_eq_true rfl) dL_areAlike_79 ⟨Nat.le_of_ble_eq_true rfl, Nat.le_of_ble_eq_true rfl⟩ (fun r u H locs hq99 hw => ?_)
            subst hq99
            have hw : kW E AA sx (List.flatten [ob E X (F, J), ob E Y (F, K)]) H locs := hw
            refine W.eq (g2 := F0 mm 82 ls [.int (valN (nI F.1) (nI F.2.1) (nI F.2.2.1) (nI F.2.2.2.1) F.2.2.2.2.1 F.2.2.2.2.2.1 4), .int (nI i)]) rfl ?_
            refine W.eq (g2 := F0 mm 82 ls [.int (nI F.1), .int (nI i)]) (congrArg (fun z9 => F0 mm 82 ls [.int z9, .int (nI i)]) (show (valN (nI F.1) (nI F.2.1) (nI F.2.2.1) (nI F.2.2.2.1) F.2.2.2.2.1 F.2.2.2.2.2.1 4 : Int32) = nI F.1 from rfl)) ?_
            refine lv_aload_n hx hb dL_areAlike_82 rfl (lv_at hl 2 rfl) ?_
            refine lv_iconst (v := 5) hx hb dL_areAlike_83 (by decide) ?_
            refine k_VF (As := [.int 5]) (rest := [.int (nI F.1), .int (nI i)]) (pre := []) (mid := [ob E X (F, J)]) C0 (o_value l hfl E X (F, J) 5 (by first | assumption | omega) (by first | assumption | omega)) (cwV 1 hts gL_areAlike_X6_value rfl rfl rfl (by decide +kernel) ⟨Nat.le_of_ble_eq_true rfl, Nat.le_of_ble_eq_true rfl⟩) hw rfl hZ (fun _ => [ob E X (F, J)]) (fun _ => rfl) 0 6 rfl rfl rfl rfl hl.1 rfl (Nat.le_of_ble_eq_true rfl) dL_areAlike_84 ⟨Nat.le_of_ble_eq_true rfl, Nat.le_of_ble_eq_true rfl⟩ (fun r u H locs hq99 hw => ?_)
            subst hq99
            have hw : kW E AA sx (List.flatten [ob E X (F, J), ob E Y (F, K)]) H locs := hw
            refine W.eq (g2 := F0 mm 87 ls [.int (valN (nI F.1) (nI F.2.1) (nI F.2.2.1) (nI F.2.2.2.1) F.2.2.2.2.1 F.2.2.2.2.2.1 5), .int (nI F.1), .int (nI i)]) rfl ?_
            refine W.eq (g2 := F0 mm 87 ls [.int (nI F.2.1), .int (nI F.1), .int (nI i)]) (congrArg (fun z9 => F0 mm 87 ls [.int z9, .int (nI F.1), .int (nI i)]) (show (valN (nI F.1) (nI F.2.1) (nI F.2.2.1) (nI F.2.2.2.1) F.2.2.2.2.1 F.2.2.2.2.2.1 5 : Int32) = nI F.2.1 from rfl)) ?_
            refine lv_imul hx hb dL_areAlike_87 ?_
            refine W.eq (g2 := F0 mm 88 ls [.int (nI (F.1 * F.2.1)), .int (nI i)]) (congrArg (fun z9 => F0 mm 88 ls [.int z9, .int (nI i)]) (show ((nI F.1) * (nI F.2.1) : Int32) = nI (F.1 * F.2.1) from pk_mul _ _)) ?_
            refine lv_icmp_ge (tgt := 144) hx hb dL_areAlike_88 (by decide) (fun c88 => ?_) (fun c88 => ?_)
            · have c88 : (F.1 * F.2.1) ≤ i := (nI_leI (a := (F.1 * F.2.1)) (b := i) (by omega) (by omega)).mp c88
              refine lv_iload_n hx hb dL_areAlike_144 rfl (lv_at hl 1 rfl) ?_
              -- leaf 0
              exact vx_ret <| k_zret C0 hr hlk hw () (rfl) (rfl) (rfl) (Nat.le_of_ble_eq_true rfl) (Nat.le_of_ble_eq_true rfl) dL_areAlike_145
            · have c88 : ¬ (F.1 * F.2.1) ≤ i := fun h99 => c88 ((nI_leI (a := (F.1 * F.2.1)) (b := i) (by omega) (by omega)).mpr h99)
              refine lv_iload_n hx hb dL_areAlike_91 rfl (lv_at hl 1 rfl) ?_
              refine lv_if_eq (tgt := 144) hx hb dL_areAlike_92 (by decide) (fun c92 => absurd c92 (by decide)) (fun c92 => ?_)
              have hil : i < F.1 * F.2.1 := by omega
              refine lv_iconst (v := 0) hx hb dL_areAlike_95 (by decide) ?_
              refine lv_istore (lv' := [(4, .int 0), (3, .int (nI i)), (2, .int 1), (0, .ref X.1.1), (1, .ref Y.1.1)]) hx hb dL_areAlike_96 hl (by decide) rfl (fun ls hl => ?_)
              have loop98 : ∀ (nn : Nat) (q : Nat), (q ≤ 6) → 6 - q < nn → ∀ (H : Heap) (locs : List Loc) (ls : Array Slot), lv_has ls 5 [(4, .int (nI q)), (3, .int (nI i)), (2, .int 1), (0, .ref X.1.1), (1, .ref Y.1.1)] → kW E AA sx (List.flatten [ob E X (F, J), ob E Y (F, K)]) H locs → W pp l ee rmL_areAlike sx mm aa bb me cd H locs 0 0 (kEndX E kI (fun (r : Int32) (_ : Unit) => r = 1) (fun _ => List.flatten [ob E X (F, J), ob E Y (F, K)]) (List.flatten [ob E X (F, J), ob E Y (F, K)]) (fun X => False) bb aa sx AA 0 0) (F0 mm 98 ls []) := by
                intro nn
                induction nn with
                | zero => intro q hq hm98; exact absurd hm98 (Nat.not_lt_zero _)
                | succ nn ih98 =>
                  intro q hq hm98 H locs ls hl hw
                  refine lv_iload hx hb dL_areAlike_98 (lv_at hl 0 rfl) ?_
                  refine lv_bipush (v := 6) hx hb dL_areAlike_100 (by decide) ?_
                  refine lv_icmp_ge (tgt := 138) hx hb dL_areAlike_102 (by decide) (fun c102 => ?_) (fun c102 => ?_)
                  · have c102 : 6 ≤ q := (nI_leI (a := 6) (b := q) (by omega) (by omega)).mp c102
                    refine lv_iinc (v := nI (i + 1)) (lv' := [(3, .int (nI (i + 1))), (4, .int (nI q)), (2, .int 1), (0, .ref X.1.1), (1, .ref Y.1.1)]) hx hb dL_areAlike_138 hl (k := 1) rfl (nI_1 _) (by decide) rfl (fun ls hl => ?_)
                    refine lv_goto (tgt := 76) hx hb dL_areAlike_141 (by decide) ?_
                    -- back 0
                    exact ih76 (i + 1) (by first | assumption | omega) (by omega) H _ ls (lv_sub hl [0, 2, 3, 4] rfl) hw
                  · have c102 : ¬ 6 ≤ q := fun h99 => c102 ((nI_leI (a := 6) (b := q) (by omega) (by omega)).mpr h99)
                    refine lv_iload_n hx hb dL_areAlike_105 rfl (lv_at hl 2 rfl) ?_
                    refine lv_if_eq (tgt := 130) hx hb dL_areAlike_106 (by decide) (fun c106 => absurd c106 (by decide)) (fun c106 => ?_)
                    refine lv_aload_n hx hb dL_areAlike_109 rfl (lv_at hl 3 rfl) ?_
                    refine lv_iload_n hx hb dL_areAlike_110 rfl (lv_at hl 1 rfl) ?_
                    refine lv_iload hx hb dL_areAlike_111 (lv_at hl 0 rfl) ?_
                    refine k_VF (As := [.int (nI i), .int (nI q)]) (rest := []) (pre := []) (mid := [ob E X (F, J)]) C0 (o_cell l hfl E X (F, J) i q (by first | assumption | omega) (by first | assumption | omega) (by first | assumption | omega) (by first | assumption | omega)) (cwV 2 hts gL_areAlike_X6_cell rfl rfl rfl (by decide +kernel) ⟨Nat.le_of_ble_eq_true rfl, Nat.le_of_ble_eq_true rfl⟩) hw rfl hZ (fun _ => [ob E X (F, J)]) (fun _ => rfl) 0 6 rfl rfl rfl rfl hl.1 rfl (Nat.le_of_ble_eq_true rfl) dL_areAlike_113 ⟨Nat.le_of_ble_eq_true rfl, Nat.le_of_ble_eq_true rfl⟩ (fun r u H locs hq99 hw => ?_)
                    subst hq99
                    have hw : kW E AA sx (List.flatten [ob E X (F, J), ob E Y (F, K)]) H locs := hw
                    refine W.eq (g2 := F0 mm 116 ls [.int (cvN F.1 F.2.1 F.2.2.1 F.2.2.2.2.2.2.1 F.2.2.2.2.2.2.2.1 F.2.2.2.2.2.2.2.2.1 F.2.2.2.2.2.2.2.2.2.1 F.2.2.2.2.2.2.2.2.2.2.1 i q)]) rfl ?_
                    refine lv_aload_n hx hb dL_areAlike_116 rfl (lv_at hl 4 rfl) ?_
                    refine lv_iload_n hx hb dL_areAlike_117 rfl (lv_at hl 1 rfl) ?_
                    refine lv_iload hx hb dL_areAlike_118 (lv_at hl 0 rfl) ?_
                    refine k_VF (As := [.int (nI i), .int (nI q)]) (rest := [.int (cvN F.1 F.2.1 F.2.2.1 F.2.2.2.2.2.2.1 F.2.2.2.2.2.2.2.1 F.2.2.2.2.2.2.2.2.1 F.2.2.2.2.2.2.2.2.2.1 F.2.2.2.2.2.2.2.2.2.2.1 i q)]) (pre := [ob E X (F, J)]) (mid := [ob E Y (F, K)]) C0 (o_cell l hfl E Y (F, K) i q (by first | assumption | omega) (by first | assumption | omega) (by first | assumption | omega) (by first | assumption | omega)) (cwV 2 hts gL_areAlike_X6_cell rfl rfl rfl (by decide +kernel) ⟨Nat.le_of_ble_eq_true rfl, Nat.le_of_ble_eq_true rfl⟩) hw rfl hZ (fun _ => [ob E Y (F, K)]) (fun _ => rfl) 0 6 rfl rfl rfl rfl hl.1 rfl (Nat.le_of_ble_eq_true rfl) dL_areAlike_120 ⟨Nat.le_of_ble_eq_true rfl, Nat.le_of_ble_eq_true rfl⟩ (fun r u H locs hq99 hw => ?_)
                    subst hq99
                    have hw : kW E AA sx (List.flatten [ob E X (F, J), ob E Y (F, K)]) H locs := hw
                    refine W.eq (g2 := F0 mm 123 ls [.int (cvN F.1 F.2.1 F.2.2.1 F.2.2.2.2.2.2.1 F.2.2.2.2.2.2.2.1 F.2.2.2.2.2.2.2.2.1 F.2.2.2.2.2.2.2.2.2.1 F.2.2.2.2.2.2.2.2.2.2.1 i q), .int (cvN F.1 F.2.1 F.2.2.1 F.2.2.2.2.2.2.1 F.2.2.2.2.2.2.2.1 F.2.2.2.2.2.2.2.2.1 F.2.2.2.2.2.2.2.2.2.1 F.2.2.2.2.2.2.2.2.2.2.1 i q)]) rfl ?_
                    refine lv_icmp_ne (tgt := 130) hx hb dL_areAlike_123 (by decide) (fun c123 => absurd c123 (fun h99 => h99 rfl)) (fun c123 => ?_)
                    refine lv_iconst (v := 1) hx hb dL_areAlike_126 (by decide) ?_
                    refine lv_goto (tgt := 131) hx hb dL_areAlike_127 (by decide) ?_
                    refine lv_istore_n (lv' := [(2, .int 1), (4, .int (nI q)), (3, .int (nI i)), (0, .ref X.1.1), (1, .ref Y.1.1)]) hx hb dL_areAlike_131 rfl hl (by decide) rfl (fun ls hl => ?_)
                    refine lv_iinc (v := nI (q + 1)) (lv' := [(4, .int (nI (q + 1))), (2, .int 1), (3, .int (nI i)), (0, .ref X.1.1), (1, .ref Y.1.1)]) hx hb dL_areAlike_132 hl (k := 1) rfl (nI_1 _) (by decide) rfl (fun ls hl => ?_)
                    refine lv_goto (tgt := 98) hx hb dL_areAlike_135 (by decide) ?_
                    -- back 0
                    exact ih98 (q + 1) (by first | assumption | omega) (by omega) H _ ls (lv_sub hl [0, 2, 1, 3, 4] rfl) hw
              exact loop98 ((6 - 0) + 1) 0 (Nat.zero_le _) (Nat.lt_succ_self _) H _ ls (lv_sub hl [0, 1, 2, 3, 4] rfl) hw
        exact loop76 ((F.1 * F.2.1 - 0) + 1) 0 (Nat.zero_le _) (Nat.lt_succ_self _) H _ ls (lv_sub hl [0, 1, 2, 3] rfl) hw
      · have c23 : ¬ 12 ≤ j := fun h99 => c23 ((nI_leI (a := 12) (b := j) (by omega) (by omega)).mpr h99)
        refine lv_iload_n hx hb dL_areAlike_26 rfl (lv_at hl 1 rfl) ?_
        refine lv_if_eq (tgt := 66) hx hb dL_areAlike_27 (by decide) (fun c27 => absurd c27 (by decide)) (fun c27 => ?_)
        refine lv_iload_n hx hb dL_areAlike_30 rfl (lv_at hl 0 rfl) ?_
        refine lv_bipush (v := 8) hx hb dL_areAlike_31 (by decide) ?_
        refine lv_icmp_gt (tgt := 49) hx hb dL_areAlike_33 (by decide) (fun c33 => ?_) (fun c33 => ?_)
        · have c33 : 8 < j := (nI_ltI (a := 8) (b := j) (by omega) (by omega)).mp c33
          refine lv_aload_n hx hb dL_areAlike_49 rfl (lv_at hl 2 rfl) ?_
          refine lv_iload_n hx hb dL_areAlike_50 rfl (lv_at hl 0 rfl) ?_
          refine k_VF (As := [.int (nI j)]) (rest := []) (pre := []) (mid := [ob E X (F, J)]) C0 (o_count l hfl E X (F, J) j (by first | assumption | omega)) (cwV 1 hts gL_areAlike_X6_count rfl rfl rfl (by decide +kernel) ⟨Nat.le_of_ble_eq_true rfl, Nat.le_of_ble_eq_true rfl⟩) hw rfl hZ (fun _ => [ob E X (F, J)]) (fun _ => rfl) 0 6 rfl rfl rfl rfl hl.1 rfl (Nat.le_of_ble_eq_true rfl) dL_areAlike_51 ⟨Nat.le_of_ble_eq_true rfl, Nat.le_of_ble_eq_true rfl⟩ (fun r u H locs hq99 hw => ?_)
          subst hq99
          have hw : kW E AA sx (List.flatten [ob E X (F, J), ob E Y (F, K)]) H locs := hw
          refine W.eq (g2 := F0 mm 54 ls [.int (F.2.2.2.2.2.2.2.2.2.2.2.1 j)]) rfl ?_
          refine lv_aload_n hx hb dL_areAlike_54 rfl (lv_at hl 3 rfl) ?_
          refine lv_iload_n hx hb dL_areAlike_55 rfl (lv_at hl 0 rfl) ?_
          refine k_VF (As := [.int (nI j)]) (rest := [.int (F.2.2.2.2.2.2.2.2.2.2.2.1 j)]) (pre := [ob E X (F, J)]) (mid := [ob E Y (F, K)]) C0 (o_count l hfl E Y (F, K) j (by first | assumption | omega)) (cwV 1 hts gL_areAlike_X6_count rfl rfl rfl (by decide +kernel) ⟨Nat.le_of_ble_eq_true rfl, Nat.le_of_ble_eq_true rfl⟩) hw rfl hZ (fun _ => [ob E Y (F, K)]) (fun _ => rfl) 0 6 rfl rfl rfl rfl hl.1 rfl (Nat.le_of_ble_eq_true rfl) dL_areAlike_56 ⟨Nat.le_of_ble_eq_true rfl, Nat.le_of_ble_eq_true rfl⟩ (fun r u H locs hq99 hw => ?_)
          subst hq99
          have hw : kW E AA sx (List.flatten [ob E X (F, J), ob E Y (F, K)]) H locs := hw
          refine W.eq (g2 := F0 mm 59 ls [.int (F.2.2.2.2.2.2.2.2.2.2.2.1 j), .int (F.2.2.2.2.2.2.2.2.2.2.2.1 j)]) rfl ?_
          refine lv_icmp_ne (tgt := 66) hx hb dL_areAlike_59 (by decide) (fun c59 => absurd c59 (fun h99 => h99 rfl)) (fun c59 => ?_)
          refine lv_iconst (v := 1) hx hb dL_areAlike_62 (by decide) ?_
          refine lv_goto (tgt := 67) hx hb dL_areAlike_63 (by decide) ?_
          refine lv_istore_n (lv' := [(2, .int 1), (3, .int (nI j)), (0, .ref X.1.1), (1, .ref Y.1.1)]) hx hb dL_areAlike_67 rfl hl (by decide) rfl (fun ls hl => ?_)
          refine lv_iinc (v := nI (j + 1)) (lv' := [(3, .int (nI (j + 1))), (2, .int 1), (0, .ref X.1.1), (1, .ref Y.1.1)]) hx hb dL_areAlike_68 hl (k := 1) rfl (nI_1 _) (by decide) rfl (fun ls hl => ?_)
          refine lv_goto (tgt := 20) hx hb dL_areAlike_71 (by decide) ?_
          -- back 0
          exact ih20 (j + 1) (by first | assumption | omega) (by omega) H _ ls (lv_sub hl [0, 1, 2, 3] rfl) hw
        · have c33 : ¬ 8 < j := fun h99 => c33 ((nI_ltI (a := 8) (b := j) (by omega) (by omega)).mpr h99)
          refine lv_aload_n hx hb dL_areAlike_36 rfl (lv_at hl 2 rfl) ?_
          refine lv_iload_n hx hb dL_areAlike_37 rfl (lv_at hl 0 rfl) ?_
          refine k_VF (As := [.int (nI j)]) (rest := []) (pre := []) (mid := [ob E X (F, J)]) C0 (o_value l hfl E X (F, J) j (by first | assumption | omega) (by first | assumption | omega)) (cwV 1 hts gL_areAlike_X6_value rfl rfl rfl (by decide +kernel) ⟨Nat.le_of_ble_eq_true rfl, Nat.le_of_ble_eq_true rfl⟩) hw rfl hZ (fun _ => [ob E X (F, J)]) (fun _ => rfl) 0 6 rfl rfl rfl rfl hl.1 rfl (Nat.le_of_ble_eq_true rfl) dL_areAlike_38 ⟨Nat.le_of_ble_eq_true rfl, Nat.le_of_ble_eq_true rfl⟩ (fun r u H locs hq99 hw => ?_)
          subst hq99
          have hw : kW E AA sx (List.flatten [ob E X (F, J), ob E Y (F, K)]) H locs := hw
          refine W.eq (g2 := F0 mm 41 ls [.int (valN (nI F.1) (nI F.2.1) (nI F.2.2.1) (nI F.2.2.2.1) F.2.2.2.2.1 F.2.2.2.2.2.1 j)]) rfl ?_
          refine lv_aload_n hx hb dL_areAlike_41 rfl (lv_at hl 3 rfl) ?_
          refine lv_iload_n hx hb dL_areAlike_42 rfl (lv_at hl 0 rfl) ?_
          refine k_VF (As := [.int (nI j)]) (rest := [.int (valN (nI F.1) (nI F.2.1) (nI F.2.2.1) (nI F.2.2.2.1) F.2.2.2.2.1 F.2.2.2.2.2.1 j)]) (pre := [ob E X (F, J)]) (mid := [ob E Y (F, K)]) C0 (o_value l hfl E Y (F, K) j (by first | assumption | omega) (by first | assumption | omega)) (cwV 1 hts gL_areAlike_X6_value rfl rfl rfl (by decide +kernel) ⟨Nat.le_of_ble_eq_true rfl, Nat.le_of_ble_eq_true rfl⟩) hw rfl hZ (fun _ => [ob E Y (F, K)]) (fun _ => rfl) 0 6 rfl rfl rfl rfl hl.1 rfl (Nat.le_of_ble_eq_true rfl) dL_areAlike_43 ⟨Nat.le_of_ble_eq_true rfl, Nat.le_of_ble_eq_true rfl⟩ (fun r u H locs hq99 hw => ?_)
          subst hq99
          have hw : kW E AA sx (List.flatten [ob E X (F, J), ob E Y (F, K)]) H locs := hw
          refine W.eq (g2 := F0 mm 46 ls [.int (valN (nI F.1) (nI F.2.1) (nI F.2.2.1) (nI F.2.2.2.1) F.2.2.2.2.1 F.2.2.2.2.2.1 j), .int (valN (nI F.1) (nI F.2.1) (nI F.2.2.1) (nI F.2.2.2.1) F.2.2.2.2.1 F.2.2.2.2.2.1 j)]) rfl ?_
          refine lv_icmp_ne (tgt := 66) hx hb dL_areAlike_46 (by decide) (fun c46 => absurd c46 (fun h99 => h99 rfl)) (fun c46 => ?_)
          refine lv_aload_n hx hb dL_areAlike_49 rfl (lv_at hl 2 rfl) ?_
          refine lv_iload_n hx hb dL_areAlike_50 rfl (lv_at hl 0 rfl) ?_
          refine k_VF (As := [.int (nI j)]) (rest := []) (pre := []) (mid := [ob E X (F, J)]) C0 (o_count l hfl E X (F, J) j (by first | assumption | omega)) (cwV 1 hts gL_areAlike_X6_count rfl rfl rfl (by decide +kernel) ⟨Nat.le_of_ble_eq_true rfl, Nat.le_of_ble_eq_true rfl⟩) hw rfl hZ (fun _ => [ob E X (F, J)]) (fun _ => rfl) 0 6 rfl rfl rfl rfl hl.1 rfl (Nat.le_of_ble_eq_true rfl) dL_areAlike_51 ⟨Nat.le_of_ble_eq_true rfl, Nat.le_of_ble_eq_true rfl⟩ (fun r u H locs hq99 hw => ?_)
          subst hq99
          have hw : kW E AA sx (List.flatten [ob E X (F, J), ob E Y (F, K)]) H locs := hw
          refine W.eq (g2 := F0 mm 54 ls [.int (F.2.2.2.2.2.2.2.2.2.2.2.1 j)]) rfl ?_
          refine lv_aload_n hx hb dL_areAlike_54 rfl (lv_at hl 3 rfl) ?_
          refine lv_iload_n hx hb dL_areAlike_55 rfl (lv_at hl 0 rfl) ?_
          refine k_VF (As := [.int (nI j)]) (rest := [.int (F.2.2.2.2.2.2.2.2.2.2.2.1 j)]) (pre := [ob E X (F, J)]) (mid := [ob E Y (F, K)]) C0 (o_count l hfl E Y (F, K) j (by first | assumption | omega)) (cwV 1 hts gL_areAlike_X6_count rfl rfl rfl (by decide +kernel) ⟨Nat.le_of_ble_eq_true rfl, Nat.le_of_ble_eq_true rfl⟩) hw rfl hZ (fun _ => [ob E Y (F, K)]) (fun _ => rfl) 0 6 rfl rfl rfl rfl hl.1 rfl (Nat.le_of_ble_eq_true rfl) dL_areAlike_56 ⟨Nat.le_of_ble_eq_true rfl, Nat.le_of_ble_eq_true rfl⟩ (fun r u H locs hq99 hw => ?_)
          subst hq99
          have hw : kW E AA sx (List.flatten [ob E X (F, J), ob E Y (F, K)]) H locs := hw
          refine W.eq (g2 := F0 mm 59 ls [.int (F.2.2.2.2.2.2.2.2.2.2.2.1 j), .int (F.2.2.2.2.2.2.2.2.2.2.2.1 j)]) rfl ?_
          refine lv_icmp_ne (tgt := 66) hx hb dL_areAlike_59 (by decide) (fun c59 => absurd c59 (fun h99 => h99 rfl)) (fun c59 => ?_)
          refine lv_iconst (v := 1) hx hb dL_areAlike_62 (by decide) ?_
          refine lv_goto (tgt := 67) hx hb dL_areAlike_63 (by decide) ?_
          refine lv_istore_n (lv' := [(2, .int 1), (3, .int (nI j)), (0, .ref X.1.1), (1, .ref Y.1.1)]) hx hb dL_areAlike_67 rfl hl (by decide) rfl (fun ls hl => ?_)
          refine lv_iinc (v := nI (j + 1)) (lv' := [(3, .int (nI (j + 1))), (2, .int 1), (0, .ref X.1.1), (1, .ref Y.1.1)]) hx hb dL_areAlike_68 hl (k := 1) rfl (nI_1 _) (by decide) rfl (fun ls hl => ?_)
          refine lv_goto (tgt := 20) hx hb dL_areAlike_71 (by decide) ?_
          -- back 1
          exact ih20 (j + 1) (by first | assumption | omega) (by omega) H _ ls (lv_sub hl [0, 1, 2, 3] rfl) hw
  exact loop20 ((12 - 0) + 1) 0 (Nat.zero_le _) (Nat.lt_succ_self _) H _ ls (lv_sub hl [0, 1, 2, 3] rfl) hw

abbrev rmL_isSound : Room := { frames := 7, cells := 0, slots := 0, locals := 132 }
set_option maxHeartbeats 4000000 in
set_option maxRecDepth 100000 in
theorem c_L_isSound (l : Launch) (hfl : l.stackTraces = false) (E : kE) (X : xT) (F : fT) (J : jT) (th : Nat) (B : Nat) (N : Nat) (hF8 : fOK B N F) (hBl : B < 1000000) (hNl : N < 100000000) (ht1 : 1 ≤ th) (ht8 : th ≤ 8) : kX E l yL_isSound wsL_isSound rmL_isSound [.ref X.1.1, .int (nI th)] (List.flatten [ob E X (F, J)]) kI (fun (r : Int32) (u : oT) => r = 1 ∧ u.1 = F ∧ u.2.2.2 = J.2.2) (fun (u : oT) => List.flatten [ob E X u]) (fun X => False) 0 0 := by
  refine kX_body (cc := cL_isSound) (maxL := 9) (ret := (some .boolean)) (by decide) rfl (Nat.le_of_ble_eq_true rfl) ?_
  intro pp ee sx mm aa bb me cd H locs AA ls C0 hr hlk hxt hZ hl hw
  obtain ⟨hx, hb, hml, hown, hts⟩ := id C0
  have hl : lv_has ls 9 [(0, .ref X.1.1), (1, .int (nI th))] := hl
  have hw : kW E AA sx (List.flatten [ob E X (F, J)]) H locs := hw
  obtain ⟨hG, hd, hn0, ⟨hp, hp1, hp8, hst0⟩, hsl, hHe, hFn, hCt, hLa⟩ := id hF8
  have hn9 := kG_n hG
  have hth : ¬ nI th < 1 ∧ ¬ 99 < nI th := ⟨nI_nlt (a := th) (b := 1) ht1 (by omega), nI_nlt (a := 99) (b := th) (by omega) (by omega)⟩
  have hth2 : ¬ nI (th + 1) < 1 ∧ ¬ 99 < nI (th + 1) := ⟨nI_nlt (a := th + 1) (b := 1) (by omega) (by omega), nI_nlt (a := 99) (b := th + 1) (by omega) (by omega)⟩
  have hmo : ∀ x, ¬ F.2.2.2.2.2.2.1 x < nI (th + 1) → ¬ F.2.2.2.2.2.2.1 x < nI th := fun x h9 h8 => h9 (Int32.lt_trans h8 (nI_lt (by omega) (by omega)))
  have hdo1 : ∀ k, doN F.1 F.2.1 F.2.2.2.2.2.2.1 (nI th) k ≤ 192 := fun k => do_le hG
  have hdo2 : ∀ k, doN F.1 F.2.1 F.2.2.2.2.2.2.1 (nI (th + 1)) k ≤ 192 := fun k => do_le hG
  have hdn := dn_le (he := F.2.2.2.2.2.2.1) (t := nI th) hG
  have hhi := hiC_lt F.2.2.2.2.2.2.1 (F.1 * F.2.1) (by omega)
  refine lv_iconst (v := 0) hx hb dL_isSound_0 (by decide) ?_
  refine lv_istore_n (lv' := [(2, .int 0), (0, .ref X.1.1), (1, .int (nI th))]) hx hb dL_isSound_1 rfl hl (by decide) rfl (fun ls hl => ?_)
  refine lv_iconst (v := 1) hx hb dL_isSound_2 (by decide) ?_
  refine lv_istore_n (lv' := [(3, .int 1), (2, .int 0), (0, .ref X.1.1), (1, .int (nI th))]) hx hb dL_isSound_3 rfl hl (by decide) rfl (fun ls hl => ?_)
  have loop4 : ∀ (nn : Nat) (q : Nat), (q ≤ 8) → 8 - q < nn → ∀ (H : Heap) (locs : List Loc) (ls : Array Slot), lv_has ls 9 [(3, .int (nI (q + 1))), (2, .int (sumI (fun j => F.2.2.2.2.2.2.2.2.2.2.2.1 (j + 1)) q)), (0, .ref X.1.1), (1, .int (nI th))] → kW E AA sx (List.flatten [ob E X (F, J)]) H locs → W pp l ee rmL_isSound sx mm aa bb me cd H locs 0 0 (kEndX E kI (fun (r : Int32) (u : oT) => r = 1 ∧ u.1 = F ∧ u.2.2.2 = J.2.2) (fun (u : oT) => List.flatten [ob E X u]) (List.flatten [ob E X (F, J)]) (fun X => False) bb aa sx AA 0 0) (F0 mm 4 ls []) := by
    intro nn
    induction nn with
    | zero => intro q hi hm4; exact absurd hm4 (Nat.not_lt_zero _)
    | succ nn ih4 =>
      intro q hi hm4 H locs ls hl hw
      refine lv_iload_n hx hb dL_isSound_4 rfl (lv_at hl 0 rfl) ?_
      refine lv_bipush (v := 9) hx hb dL_isSound_5 (by decide) ?_
      refine lv_icmp_ge (tgt := 24) hx hb dL_isSound_7 (by decide) (fun c7 => ?_) (fun c7 => ?_)
      · have c7 : 9 ≤ (q + 1) := (nI_leI (a := 9) (b := (q + 1)) (by omega) (by omega)).mp c7
        refine lv_iload_n hx hb dL_isSound_24 rfl (lv_at hl 1 rfl) ?_
        refine lv_aload_n hx hb dL_isSound_25 rfl (lv_at hl 2 rfl) ?_
        refine lv_iconst (v := 0) hx hb dL_isSound_26 (by decide) ?_
        refine k_VF (As := [.int 0]) (rest := [.int (sumI (fun j => F.2.2.2.2.2.2.2.2.2.2.2.1 (j + 1)) q)]) (pre := []) (mid := [ob E X (F, J)]) C0 (o_count l hfl E X (F, J) 0 (by first | assumption | omega)) (cwV 1 hts gL_isSound_X6_count rfl rfl rfl (by decide +kernel) ⟨Nat.le_of_ble_eq_true rfl, Nat.le_of_ble_eq_true rfl⟩) hw rfl hZ (fun _ => [ob E X (F, J)]) (fun _ => rfl) 0 6 rfl rfl rfl rfl hl.1 rfl (Nat.le_of_ble_eq_true rfl) dL_isSound_27 ⟨Nat.le_of_ble_eq_true rfl, Nat.le_of_ble_eq_true rfl⟩ (fun r u H locs hq99 hw => ?_)
        subst hq99
        have hw : kW E AA sx (List.flatten [ob E X (F, J)]) H locs := hw
        refine W.eq (g2 := F0 mm 30 ls [.int (F.2.2.2.2.2.2.2.2.2.2.2.1 0), .int (sumI (fun j => F.2.2.2.2.2.2.2.2.2.2.2.1 (j + 1)) q)]) rfl ?_
        refine lv_icmp_ne (tgt := 68) hx hb dL_isSound_30 (by decide) (fun c30 => absurd c30 (fun h99 => h99 (by rw [show q = 8 by omega, hCt.1, hCt.2.1]))) (fun c30 => ?_)
        refine lv_aload_n hx hb dL_isSound_33 rfl (lv_at hl 2 rfl) ?_
        refine lv_iconst (v := 0) hx hb dL_isSound_34 (by decide) ?_
        refine k_VF (As := [.int 0]) (rest := []) (pre := []) (mid := [ob E X (F, J)]) C0 (o_relief l hfl E X (F, J) 0 (by first | assumption | omega) (by first | assumption | omega)) (cwV 1 hts gL_isSound_X6_relief rfl rfl rfl (by decide +kernel) ⟨Nat.le_of_ble_eq_true rfl, Nat.le_of_ble_eq_true rfl⟩) hw rfl hZ (fun _ => [ob E X (F, J)]) (fun _ => rfl) 0 6 rfl rfl rfl rfl hl.1 rfl (Nat.le_of_ble_eq_true rfl) dL_isSound_35 ⟨Nat.le_of_ble_eq_true rfl, Nat.le_of_ble_eq_true rfl⟩ (fun r u H locs hq99 hw => ?_)
        subst hq99
        have hw : kW E AA sx (List.flatten [ob E X (F, J)]) H locs := hw
        refine W.eq (g2 := F0 mm 38 ls [.int (rlfN F.1 F.2.1 F.2.2.2.2.2.2.1 0)]) rfl ?_
        refine lv_aload_n hx hb dL_isSound_38 rfl (lv_at hl 2 rfl) ?_
        refine lv_iconst (v := 2) hx hb dL_isSound_39 (by decide) ?_
        refine k_VF (As := [.int 2]) (rest := [.int (rlfN F.1 F.2.1 F.2.2.2.2.2.2.1 0)]) (pre := []) (mid := [ob E X (F, J)]) C0 (o_relief l hfl E X (F, J) 2 (by first | assumption | omega) (by first | assumption | omega)) (cwV 1 hts gL_isSound_X6_relief rfl rfl rfl (by decide +kernel) ⟨Nat.le_of_ble_eq_true rfl, Nat.le_of_ble_eq_true rfl⟩) hw rfl hZ (fun _ => [ob E X (F, J)]) (fun _ => rfl) 0 6 rfl rfl rfl rfl hl.1 rfl (Nat.le_of_ble_eq_true rfl) dL_isSound_40 ⟨Nat.le_of_ble_eq_true rfl, Nat.le_of_ble_eq_true rfl⟩ (fun r u H locs hq99 hw => ?_)
        subst hq99
        have hw : kW E AA sx (List.flatten [ob E X (F, J)]) H locs := hw
        refine W.eq (g2 := F0 mm 43 ls [.int (rlfN F.1 F.2.1 F.2.2.2.2.2.2.1 2), .int (rlfN F.1 F.2.1 F.2.2.2.2.2.2.1 0)]) rfl ?_
        refine lv_icmp_lt (tgt := 68) hx hb dL_isSound_43 (by decide) (fun c43 => absurd c43 (by rw [rlf_0, rlf_2]; exact Int32.not_lt.mpr (st_hi hG hHe hBl))) (fun c43 => ?_)
        refine lv_aload_n hx hb dL_isSound_46 rfl (lv_at hl 2 rfl) ?_
        refine lv_aload_n hx hb dL_isSound_47 rfl (lv_at hl 2 rfl) ?_
        refine lv_iconst (v := 1) hx hb dL_isSound_48 (by decide) ?_
        refine k_VF (As := [.int 1]) (rest := [.ref X.1.1]) (pre := []) (mid := [ob E X (F, J)]) C0 (o_relief l hfl E X (F, J) 1 (by first | assumption | omega) (by first | assumption | omega)) (cwV 1 hts gL_isSound_X6_relief rfl rfl rfl (by decide +kernel) ⟨Nat.le_of_ble_eq_true rfl, Nat.le_of_ble_eq_true rfl⟩) hw rfl hZ (fun _ => [ob E X (F, J)]) (fun _ => rfl) 0 6 rfl rfl rfl rfl hl.1 rfl (Nat.le_of_ble_eq_true rfl) dL_isSound_49 ⟨Nat.le_of_ble_eq_true rfl, Nat.le_of_ble_eq_true rfl⟩ (fun r u H locs hq99 hw => ?_)
        subst hq99
        have hw : kW E AA sx (List.flatten [ob E X (F, J)]) H locs := hw
        refine W.eq (g2 := F0 mm 52 ls [.int (rlfN F.1 F.2.1 F.2.2.2.2.2.2.1 1), .ref X.1.1]) rfl ?_
        refine W.eq (g2 := F0 mm 52 ls [.int (nI (hiC F.2.2.2.2.2.2.1 (F.1 * F.2.1))), .ref X.1.1]) (congrArg (fun z9 => F0 mm 52 ls [.int z9, .ref X.1.1]) (show (rlfN F.1 F.2.1 F.2.2.2.2.2.2.1 1 : Int32) = nI (hiC F.2.2.2.2.2.2.1 (F.1 * F.2.1)) from rlf_1 _ _ _)) ?_
        refine lv_iconst (v := 0) hx hb dL_isSound_52 (by decide) ?_
        refine k_VF (As := [.int (nI (hiC F.2.2.2.2.2.2.1 (F.1 * F.2.1))), .int 0]) (rest := []) (pre := []) (mid := [ob E X (F, J)]) C0 (o_cell l hfl E X (F, J) (hiC F.2.2.2.2.2.2.1 (F.1 * F.2.1)) 0 (by first | assumption | omega) (hhi) (by first | assumption | omega) (by first | assumption | omega)) (cwV 2 hts gL_isSound_X6_cell rfl rfl rfl (by decide +kernel) ⟨Nat.le_of_ble_eq_true rfl, Nat.le_of_ble_eq_true rfl⟩) hw rfl hZ (fun _ => [ob E X (F, J)]) (fun _ => rfl) 0 6 rfl rfl rfl rfl hl.1 rfl (Nat.le_of_ble_eq_true rfl) dL_isSound_53 ⟨Nat.le_of_ble_eq_true rfl, Nat.le_of_ble_eq_true rfl⟩ (fun r u H locs hq99 hw => ?_)
        subst hq99
        have hw : kW E AA sx (List.flatten [ob E X (F, J)]) H locs := hw
        refine W.eq (g2 := F0 mm 56 ls [.int (cvN F.1 F.2.1 F.2.2.1 F.2.2.2.2.2.2.1 F.2.2.2.2.2.2.2.1 F.2.2.2.2.2.2.2.2.1 F.2.2.2.2.2.2.2.2.2.1 F.2.2.2.2.2.2.2.2.2.2.1 (hiC F.2.2.2.2.2.2.1 (F.1 * F.2.1)) 0)]) rfl ?_
        refine W.eq (g2 := F0 mm 56 ls [.int (F.2.2.2.2.2.2.1 (hiC F.2.2.2.2.2.2.1 (F.1 * F.2.1)))]) (congrArg (fun z9 => F0 mm 56 ls [.int z9]) (show (cvN F.1 F.2.1 F.2.2.1 F.2.2.2.2.2.2.1 F.2.2.2.2.2.2.2.1 F.2.2.2.2.2.2.2.2.1 F.2.2.2.2.2.2.2.2.2.1 F.2.2.2.2.2.2.2.2.2.2.1 (hiC F.2.2.2.2.2.2.1 (F.1 * F.2.1)) 0 : Int32) = F.2.2.2.2.2.2.1 (hiC F.2.2.2.2.2.2.1 (F.1 * F.2.1)) from rfl)) ?_
        refine lv_aload_n hx hb dL_isSound_56 rfl (lv_at hl 2 rfl) ?_
        refine lv_iconst (v := 0) hx hb dL_isSound_57 (by decide) ?_
        refine k_VF (As := [.int 0]) (rest := [.int (F.2.2.2.2.2.2.1 (hiC F.2.2.2.2.2.2.1 (F.1 * F.2.1)))]) (pre := []) (mid := [ob E X (F, J)]) C0 (o_relief l hfl E X (F, J) 0 (by first | assumption | omega) (by first | assumption | omega)) (cwV 1 hts gL_isSound_X6_relief rfl rfl rfl (by decide +kernel) ⟨Nat.le_of_ble_eq_true rfl, Nat.le_of_ble_eq_true rfl⟩) hw rfl hZ (fun _ => [ob E X (F, J)]) (fun _ => rfl) 0 6 rfl rfl rfl rfl hl.1 rfl (Nat.le_of_ble_eq_true rfl) dL_isSound_58 ⟨Nat.le_of_ble_eq_true rfl, Nat.le_of_ble_eq_true rfl⟩ (fun r u H locs hq99 hw => ?_)
        subst hq99
        have hw : kW E AA sx (List.flatten [ob E X (F, J)]) H locs := hw
        refine W.eq (g2 := F0 mm 61 ls [.int (rlfN F.1 F.2.1 F.2.2.2.2.2.2.1 0), .int (F.2.2.2.2.2.2.1 (hiC F.2.2.2.2.2.2.1 (F.1 * F.2.1)))]) rfl ?_
        refine lv_icmp_ne (tgt := 68) hx hb dL_isSound_61 (by decide) (fun c61 => absurd c61 (fun h99 => h99 (rlf_0 _ _ _).symm)) (fun c61 => ?_)
        refine lv_iconst (v := 1) hx hb dL_isSound_64 (by decide) ?_
        refine lv_goto (tgt := 69) hx hb dL_isSound_65 (by decide) ?_
        refine lv_istore_n (lv' := [(3, .int 1), (2, .int (sumI (fun j => F.2.2.2.2.2.2.2.2.2.2.2.1 (j + 1)) q)), (0, .ref X.1.1), (1, .int (nI th))]) hx hb dL_isSound_69 rfl hl (by decide) rfl (fun ls hl => ?_)
        refine lv_iconst (v := 0) hx hb dL_isSound_70 (by decide) ?_
        refine lv_istore (lv' := [(4, .int 0), (3, .int 1), (2, .int (sumI (fun j => F.2.2.2.2.2.2.2.2.2.2.2.1 (j + 1)) q)), (0, .ref X.1.1), (1, .int (nI th))]) hx hb dL_isSound_71 hl (by decide) rfl (fun ls hl => ?_)
        refine lv_iconst (v := 0) hx hb dL_isSound_73 (by decide) ?_
        refine lv_istore (lv' := [(5, .int 0), (4, .int 0), (3, .int 1), (2, .int (sumI (fun j => F.2.2.2.2.2.2.2.2.2.2.2.1 (j + 1)) q)), (0, .ref X.1.1), (1, .int (nI th))]) hx hb dL_isSound_74 hl (by decide) rfl (fun ls hl => ?_)
        refine lv_iconst (v := 0) hx hb dL_isSound_76 (by decide) ?_
        refine lv_istore (lv' := [(6, .int 0), (5, .int 0), (4, .int 0), (3, .int 1), (2, .int (sumI (fun j => F.2.2.2.2.2.2.2.2.2.2.2.1 (j + 1)) q)), (0, .ref X.1.1), (1, .int (nI th))]) hx hb dL_isSound_77 hl (by decide) rfl (fun ls hl => ?_)
        have loop79 : ∀ (nn : Nat) (i : Nat) (V : jT), (i ≤ F.1 * F.2.1) → (V.2.2 = J.2.2) → F.1 * F.2.1 - i < nn → ∀ (H : Heap) (locs : List Loc) (ls : Array Slot), lv_has ls 9 [(6, .int (nI i)), (5, .int (nI (barN F.2.2.2.2.2.2.1 i))), (4, .int (sumI F.2.2.2.2.2.2.1 i)), (3, .int 1), (0, .ref X.1.1), (1, .int (nI th))] → kW E AA sx (List.flatten [ob E X (F, V)]) H locs → W pp l ee rmL_isSound sx mm aa bb me cd H locs 0 0 (kEndX E kI (fun (r : Int32) (u : oT) => r = 1 ∧ u.1 = F ∧ u.2.2.2 = J.2.2) (fun (u : oT) => List.flatten [ob E X u]) (List.flatten [ob E X (F, J)]) (fun X => False) bb aa sx AA 0 0) (F0 mm 79 ls []) := by
          intro nn
          induction nn with
          | zero => intro i V hi hV hm79; exact absurd hm79 (Nat.not_lt_zero _)
          | succ nn ih79 =>
            intro i V hi hV hm79 H locs ls hl hw
            refine lv_iload hx hb dL_isSound_79 (lv_at hl 0 rfl) ?_
            refine lv_aload_n hx hb dL_isSound_81 rfl (lv_at hl 4 rfl) ?_
            refine lv_iconst (v := 4) hx hb dL_isSound_82 (by decide) ?_
            refine k_VF (As := [.int 4]) (rest := [.int (nI i)]) (pre := []) (mid := [ob E X (F, V)]) C0 (o_value l hfl E X (F, V) 4 (by first | assumption | omega) (by first | assumption | omega)) (cwV 1 hts gL_isSound_X6_value rfl rfl rfl (by decide +kernel) ⟨Nat.le_of_ble_eq_true rfl, Nat.le_of_ble_eq_true rfl⟩) hw rfl hZ (fun _ => [ob E X (F, V)]) (fun _ => rfl) 0 6 rfl rfl rfl rfl hl.1 rfl (Nat.le_of_ble_eq_true rfl) dL_isSound_83 ⟨Nat.le_of_ble_eq_true rfl, Nat.le_of_ble_eq_true rfl⟩ (fun r u H locs hq99 hw => ?_)
            subst hq99
            have hw : kW E AA sx (List.flatten [ob E X (F, V)]) H locs := hw
            refine W.eq (g2 := F0 mm 86 ls [.int (valN (nI F.1) (nI F.2.1) (nI F.2.2.1) (nI F.2.2.2.1) F.2.2.2.2.1 F.2.2.2.2.2.1 4), .int (nI i)]) rfl ?_
            refine W.eq (g2 := F0 mm 86 ls [.int (nI F.1), .int (nI i)]) (congrArg (fun z9 => F0 mm 86 ls [.int z9, .int (nI i)]) (show (valN (nI F.1) (nI F.2.1) (nI F.2.2.1) (nI F.2.2.2.1) F.2.2.2.2.1 F.2.2.2.2.2.1 4 : Int32) = nI F.1 from rfl)) ?_
            refine lv_aload_n hx hb dL_isSound_86 rfl (lv_at hl 4 rfl) ?_
            refine lv_iconst (v := 5) hx hb dL_isSound_87 (by decide) ?_
            refine k_VF (As := [.int 5]) (rest := [.int (nI F.1), .int (nI i)]) (pre := []) (mid := [ob E X (F, V)]) C0 (o_value l hfl E X (F, V) 5 (by first | assumption | omega) (by first | assumption | omega)) (cwV 1 hts gL_isSound_X6_value rfl rfl rfl (by decide +kernel) ⟨Nat.le_of_ble_eq_true rfl, Nat.le_of_ble_eq_true rfl⟩) hw rfl hZ (fun _ => [ob E X (F, V)]) (fun _ => rfl) 0 6 rfl rfl rfl rfl hl.1 rfl (Nat.le_of_ble_eq_true rfl) dL_isSound_88 ⟨Nat.le_of_ble_eq_true rfl, Nat.le_of_ble_eq_true rfl⟩ (fun r u H locs hq99 hw => ?_)
            subst hq99
            have hw : kW E AA sx (List.flatten [ob E X (F, V)]) H locs := hw
            refine W.eq (g2 := F0 mm 91 ls [.int (valN (nI F.1) (nI F.2.1) (nI F.2.2.1) (nI F.2.2.2.1) F.2.2.2.2.1 F.2.2.2.2.2.1 5), .int (nI F.1), .int (nI i)]) rfl ?_
            refine W.eq (g2 := F0 mm 91 ls [.int (nI F.2.1), .int (nI F.1), .int (nI i)]) (congrArg (fun z9 => F0 mm 91 ls [.int z9, .int (nI F.1), .int (nI i)]) (show (valN (nI F.1) (nI F.2.1) (nI F.2.2.1) (nI F.2.2.2.1) F.2.2.2.2.1 F.2.2.2.2.2.1 5 : Int32) = nI F.2.1 from rfl)) ?_
            refine lv_imul hx hb dL_isSound_91 ?_
            refine W.eq (g2 := F0 mm 92 ls [.int (nI (F.1 * F.2.1)), .int (nI i)]) (congrArg (fun z9 => F0 mm 92 ls [.int z9, .int (nI i)]) (show ((nI F.1) * (nI F.2.1) : Int32) = nI (F.1 * F.2.1) from pk_mul _ _)) ?_
            refine lv_icmp_ge (tgt := 259) hx hb dL_isSound_92 (by decide) (fun c92 => ?_) (fun c92 => ?_)
            · have c92 : (F.1 * F.2.1) ≤ i := (nI_leI (a := (F.1 * F.2.1)) (b := i) (by omega) (by omega)).mp c92
              have hie : i = F.1 * F.2.1 := by omega
              refine lv_aload_n hx hb dL_isSound_259 rfl (lv_at hl 4 rfl) ?_
              refine lv_iconst (v := 0) hx hb dL_isSound_260 (by decide) ?_
              refine k_VF (As := [.int 0]) (rest := []) (pre := []) (mid := [ob E X (F, V)]) C0 (o_count l hfl E X (F, V) 0 (by first | assumption | omega)) (cwV 1 hts gL_isSound_X6_count rfl rfl rfl (by decide +kernel) ⟨Nat.le_of_ble_eq_true rfl, Nat.le_of_ble_eq_true rfl⟩) hw rfl hZ (fun _ => [ob E X (F, V)]) (fun _ => rfl) 0 6 rfl rfl rfl rfl hl.1 rfl (Nat.le_of_ble_eq_true rfl) dL_isSound_261 ⟨Nat.le_of_ble_eq_true rfl, Nat.le_of_ble_eq_true rfl⟩ (fun r u H locs hq99 hw => ?_)
              subst hq99
              have hw : kW E AA sx (List.flatten [ob E X (F, V)]) H locs := hw
              refine W.eq (g2 := F0 mm 264 ls [.int (F.2.2.2.2.2.2.2.2.2.2.2.1 0)]) rfl ?_
              refine W.eq (g2 := F0 mm 264 ls [.int (nI N)]) (congrArg (fun z9 => F0 mm 264 ls [.int z9]) (show (F.2.2.2.2.2.2.2.2.2.2.2.1 0 : Int32) = nI N from hCt.1)) ?_
              refine lv_istore (lv' := [(6, .int (nI N)), (5, .int (nI (barN F.2.2.2.2.2.2.1 i))), (4, .int (sumI F.2.2.2.2.2.2.1 i)), (3, .int 1), (0, .ref X.1.1), (1, .int (nI th))]) hx hb dL_isSound_264 hl (by decide) rfl (fun ls hl => ?_)
              refine lv_aload_n hx hb dL_isSound_266 rfl (lv_at hl 4 rfl) ?_
              refine lv_iconst (v := 1) hx hb dL_isSound_267 (by decide) ?_
              refine k_VF (As := [.int 1]) (rest := []) (pre := []) (mid := [ob E X (F, V)]) C0 (o_latest l hfl E X (F, V) 1 (by first | assumption | omega)) (cwV 1 hts gL_isSound_X6_latest rfl rfl rfl (by decide +kernel) ⟨Nat.le_of_ble_eq_true rfl, Nat.le_of_ble_eq_true rfl⟩) hw rfl hZ (fun _ => [ob E X (F, V)]) (fun _ => rfl) 0 6 rfl rfl rfl rfl hl.1 rfl (Nat.le_of_ble_eq_true rfl) dL_isSound_268 ⟨Nat.le_of_ble_eq_true rfl, Nat.le_of_ble_eq_true rfl⟩ (fun r u H locs hq99 hw => ?_)
              subst hq99
              have hw : kW E AA sx (List.flatten [ob E X (F, V)]) H locs := hw
              refine W.eq (g2 := F0 mm 271 ls [.int (F.2.2.2.2.2.2.2.2.2.2.2.2 1)]) rfl ?_
              refine lv_istore (lv' := [(7, .int (F.2.2.2.2.2.2.2.2.2.2.2.2 1)), (6, .int (nI N)), (5, .int (nI (barN F.2.2.2.2.2.2.1 i))), (4, .int (sumI F.2.2.2.2.2.2.1 i)), (3, .int 1), (0, .ref X.1.1), (1, .int (nI th))]) hx hb dL_isSound_271 hl (by decide) rfl (fun ls hl => ?_)
              refine lv_iload hx hb dL_isSound_273 (lv_at hl 1 rfl) ?_
              refine lv_if_ne (tgt := 282) hx hb dL_isSound_275 (by decide) (fun c275 => ?_) (fun c275 => ?_)
              · have c275 : ¬ N = 0 := fun h99 => c275 ((nI_eq (a := N) (b := 0) (by omega) (by omega)).mpr h99)
                obtain ⟨lr, lc, lk, hr1, hr8, hc9, hk9, e0, e1, e2, e3⟩ := la_n hLa c275
                refine lv_iconst (v := 0) hx hb dL_isSound_282 (by decide) ?_
                refine lv_istore (lv' := [(8, .int 0), (7, .int (F.2.2.2.2.2.2.2.2.2.2.2.2 1)), (6, .int (nI N)), (5, .int (nI (barN F.2.2.2.2.2.2.1 i))), (4, .int (sumI F.2.2.2.2.2.2.1 i)), (3, .int 1), (0, .ref X.1.1), (1, .int (nI th))]) hx hb dL_isSound_283 hl (by decide) rfl (fun ls hl => ?_)
                refine lv_iload_n hx hb dL_isSound_285 rfl (lv_at hl 5 rfl) ?_
                refine lv_if_eq (tgt := 370) hx hb dL_isSound_286 (by decide) (fun c286 => absurd c286 (by decide)) (fun c286 => ?_)
                refine lv_iload hx hb dL_isSound_289 (lv_at hl 0 rfl) ?_
                refine lv_if_eq (tgt := 312) hx hb dL_isSound_291 (by decide) (fun c291 => ?_) (fun c291 => absurd c291 (by decide))
                refine lv_iload hx hb dL_isSound_312 (lv_at hl 1 rfl) ?_
                refine lv_if_lt (tgt := 370) hx hb dL_isSound_314 (by decide) (fun c314 => absurd c314 (by rw [e1]; exact nI_pos (by omega))) (fun c314 => ?_)
                refine lv_aload_n hx hb dL_isSound_317 rfl (lv_at hl 6 rfl) ?_
                refine lv_iconst (v := 0) hx hb dL_isSound_318 (by decide) ?_
                refine k_VF (As := [.int 0]) (rest := []) (pre := []) (mid := [ob E X (F, V)]) C0 (o_latest l hfl E X (F, V) 0 (by first | assumption | omega)) (cwV 1 hts gL_isSound_X6_latest rfl rfl rfl (by decide +kernel) ⟨Nat.le_of_ble_eq_true rfl, Nat.le_of_ble_eq_true rfl⟩) hw rfl hZ (fun _ => [ob E X (F, V)]) (fun _ => rfl) 0 6 rfl rfl rfl rfl hl.1 rfl (Nat.le_of_ble_eq_true rfl) dL_isSound_319 ⟨Nat.le_of_ble_eq_true rfl, Nat.le_of_ble_eq_true rfl⟩ (fun r u H locs hq99 hw => ?_)
                subst hq99
                have hw : kW E AA sx (List.flatten [ob E X (F, V)]) H locs := hw
                refine W.eq (g2 := F0 mm 322 ls [.int (F.2.2.2.2.2.2.2.2.2.2.2.2 0)]) rfl ?_
                refine W.eq (g2 := F0 mm 322 ls [.int (nI lr)]) (congrArg (fun z9 => F0 mm 322 ls [.int z9]) (show (F.2.2.2.2.2.2.2.2.2.2.2.2 0 : Int32) = nI lr from e0)) ?_
                refine lv_if_le (tgt := 370) hx hb dL_isSound_322 (by decide) (fun c322 => absurd c322 (nI_nle (by omega) (by omega))) (fun c322 => ?_)
                have c322 : ¬ lr ≤ 0 := fun h99 => c322 ((nI_leI (a := lr) (b := 0) (by omega) (by omega)).mpr h99)
                refine lv_aload_n hx hb dL_isSound_325 rfl (lv_at hl 6 rfl) ?_
                refine lv_iconst (v := 0) hx hb dL_isSound_326 (by decide) ?_
                refine k_VF (As := [.int 0]) (rest := []) (pre := []) (mid := [ob E X (F, V)]) C0 (o_latest l hfl E X (F, V) 0 (by first | assumption | omega)) (cwV 1 hts gL_isSound_X6_latest rfl rfl rfl (by decide +kernel) ⟨Nat.le_of_ble_eq_true rfl, Nat.le_of_ble_eq_true rfl⟩) hw rfl hZ (fun _ => [ob E X (F, V)]) (fun _ => rfl) 0 6 rfl rfl rfl rfl hl.1 rfl (Nat.le_of_ble_eq_true rfl) dL_isSound_327 ⟨Nat.le_of_ble_eq_true rfl, Nat.le_of_ble_eq_true rfl⟩ (fun r u H locs hq99 hw => ?_)
                subst hq99
                have hw : kW E AA sx (List.flatten [ob E X (F, V)]) H locs := hw
                refine W.eq (g2 := F0 mm 330 ls [.int (F.2.2.2.2.2.2.2.2.2.2.2.2 0)]) rfl ?_
                refine W.eq (g2 := F0 mm 330 ls [.int (nI lr)]) (congrArg (fun z9 => F0 mm 330 ls [.int z9]) (show (F.2.2.2.2.2.2.2.2.2.2.2.2 0 : Int32) = nI lr from e0)) ?_
                refine lv_iconst (v := 5) hx hb dL_isSound_330 (by decide) ?_
                refine lv_icmp_ge (tgt := 338) hx hb dL_isSound_331 (by decide) (fun c331 => ?_) (fun c331 => ?_)
                · have c331 : 5 ≤ lr := (nI_leI (a := 5) (b := lr) (by omega) (by omega)).mp c331
                  refine lv_iconst (v := 0) hx hb dL_isSound_338 (by decide) ?_
                  refine lv_aload_n hx hb dL_isSound_339 rfl (lv_at hl 6 rfl) ?_
                  refine lv_iconst (v := 2) hx hb dL_isSound_340 (by decide) ?_
                  refine k_VF (As := [.int 2]) (rest := [.int 0]) (pre := []) (mid := [ob E X (F, V)]) C0 (o_latest l hfl E X (F, V) 2 (by first | assumption | omega)) (cwV 1 hts gL_isSound_X6_latest rfl rfl rfl (by decide +kernel) ⟨Nat.le_of_ble_eq_true rfl, Nat.le_of_ble_eq_true rfl⟩) hw rfl hZ (fun _ => [ob E X (F, V)]) (fun _ => rfl) 0 6 rfl rfl rfl rfl hl.1 rfl (Nat.le_of_ble_eq_true rfl) dL_isSound_341 ⟨Nat.le_of_ble_eq_true rfl, Nat.le_of_ble_eq_true rfl⟩ (fun r u H locs hq99 hw => ?_)
                  subst hq99
                  have hw : kW E AA sx (List.flatten [ob E X (F, V)]) H locs := hw
                  refine W.eq (g2 := F0 mm 344 ls [.int (F.2.2.2.2.2.2.2.2.2.2.2.2 2), .int 0]) rfl ?_
                  refine lv_iconst (v := (-1)) hx hb dL_isSound_344 (by decide) ?_
                  refine lv_icmp_ne (tgt := 352) hx hb dL_isSound_345 (by decide) (fun c345 => ?_) (fun c345 => False.elim (absurd (e2.mp c345) (by omega)))
                  refine lv_iconst (v := 0) hx hb dL_isSound_352 (by decide) ?_
                  refine lv_icmp_ne (tgt := 370) hx hb dL_isSound_353 (by decide) (fun c353 => absurd c353 (by decide)) (fun c353 => ?_)
                  refine lv_aload_n hx hb dL_isSound_356 rfl (lv_at hl 6 rfl) ?_
                  refine lv_iconst (v := 3) hx hb dL_isSound_357 (by decide) ?_
                  refine k_VF (As := [.int 3]) (rest := []) (pre := []) (mid := [ob E X (F, V)]) C0 (o_latest l hfl E X (F, V) 3 (by first | assumption | omega)) (cwV 1 hts gL_isSound_X6_latest rfl rfl rfl (by decide +kernel) ⟨Nat.le_of_ble_eq_true rfl, Nat.le_of_ble_eq_true rfl⟩) hw rfl hZ (fun _ => [ob E X (F, V)]) (fun _ => rfl) 0 6 rfl rfl rfl rfl hl.1 rfl (Nat.le_of_ble_eq_true rfl) dL_isSound_358 ⟨Nat.le_of_ble_eq_true rfl, Nat.le_of_ble_eq_true rfl⟩ (fun r u H locs hq99 hw => ?_)
                  subst hq99
                  have hw : kW E AA sx (List.flatten [ob E X (F, V)]) H locs := hw
                  refine W.eq (g2 := F0 mm 361 ls [.int (F.2.2.2.2.2.2.2.2.2.2.2.2 3)]) rfl ?_
                  refine W.eq (g2 := F0 mm 361 ls [.int (nI lk)]) (congrArg (fun z9 => F0 mm 361 ls [.int z9]) (show (F.2.2.2.2.2.2.2.2.2.2.2.2 3 : Int32) = nI lk from e3)) ?_
                  refine lv_bipush (v := 12) hx hb dL_isSound_361 (by decide) ?_
                  refine lv_icmp_gt (tgt := 370) hx hb dL_isSound_363 (by decide) (fun c363 => absurd c363 (nI_nlt (a := 12) (b := lk) hk9 (by decide))) (fun c363 => ?_)
                  have c363 : ¬ 12 < lk := fun h99 => c363 ((nI_ltI (a := 12) (b := lk) (by omega) (by omega)).mpr h99)
                  refine lv_iconst (v := 1) hx hb dL_isSound_366 (by decide) ?_
                  refine lv_goto (tgt := 371) hx hb dL_isSound_367 (by decide) ?_
                  refine lv_istore_n (lv' := [(3, .int 1), (8, .int 0), (7, .int (F.2.2.2.2.2.2.2.2.2.2.2.2 1)), (6, .int (nI N)), (5, .int (nI (barN F.2.2.2.2.2.2.1 i))), (4, .int (sumI F.2.2.2.2.2.2.1 i)), (0, .ref X.1.1), (1, .int (nI th))]) hx hb dL_isSound_371 rfl hl (by decide) rfl (fun ls hl => ?_)
                  refine lv_iload_n hx hb dL_isSound_372 rfl (lv_at hl 0 rfl) ?_
                  refine lv_if_eq (tgt := 439) hx hb dL_isSound_373 (by decide) (fun c373 => absurd c373 (by decide)) (fun c373 => ?_)
                  refine lv_iload hx hb dL_isSound_376 (lv_at hl 5 rfl) ?_
                  refine lv_aload_n hx hb dL_isSound_378 rfl (lv_at hl 6 rfl) ?_
                  refine k_VF (As := []) (rest := [.int (sumI F.2.2.2.2.2.2.1 i)]) (pre := []) (mid := [ob E X (F, V)]) C0 (o_slabs l hfl E X (F, V) (by first | assumption | omega)) (cwV 0 hts gL_isSound_X6_slabs rfl rfl rfl (by decide +kernel) ⟨Nat.le_of_ble_eq_true rfl, Nat.le_of_ble_eq_true rfl⟩) hw rfl hZ (fun _ => [ob E X (F, V)]) (fun _ => rfl) 0 6 rfl rfl rfl rfl hl.1 rfl (Nat.le_of_ble_eq_true rfl) dL_isSound_379 ⟨Nat.le_of_ble_eq_true rfl, Nat.le_of_ble_eq_true rfl⟩ (fun r u H locs hq99 hw => ?_)
                  subst hq99
                  have hw : kW E AA sx (List.flatten [ob E X (F, V)]) H locs := hw
                  refine W.eq (g2 := F0 mm 382 ls [.int (sumI F.2.2.2.2.2.2.1 (F.1 * F.2.1)), .int (sumI F.2.2.2.2.2.2.1 i)]) rfl ?_
                  refine lv_icmp_ne (tgt := 439) hx hb dL_isSound_382 (by decide) (fun c382 => absurd c382 (fun h99 => h99 (by rw [hie]))) (fun c382 => ?_)
                  refine lv_iload hx hb dL_isSound_385 (lv_at hl 4 rfl) ?_
                  refine lv_aload_n hx hb dL_isSound_387 rfl (lv_at hl 6 rfl) ?_
                  refine lv_iconst (v := 3) hx hb dL_isSound_388 (by decide) ?_
                  refine k_VF (As := [.int 3]) (rest := [.int (nI (barN F.2.2.2.2.2.2.1 i))]) (pre := []) (mid := [ob E X (F, V)]) C0 (o_relief l hfl E X (F, V) 3 (by first | assumption | omega) (by first | assumption | omega)) (cwV 1 hts gL_isSound_X6_relief rfl rfl rfl (by decide +kernel) ⟨Nat.le_of_ble_eq_true rfl, Nat.le_of_ble_eq_true rfl⟩) hw rfl hZ (fun _ => [ob E X (F, V)]) (fun _ => rfl) 0 6 rfl rfl rfl rfl hl.1 rfl (Nat.le_of_ble_eq_true rfl) dL_isSound_389 ⟨Nat.le_of_ble_eq_true rfl, Nat.le_of_ble_eq_true rfl⟩ (fun r u H locs hq99 hw => ?_)
                  subst hq99
                  have hw : kW E AA sx (List.flatten [ob E X (F, V)]) H locs := hw
                  refine W.eq (g2 := F0 mm 392 ls [.int (rlfN F.1 F.2.1 F.2.2.2.2.2.2.1 3), .int (nI (barN F.2.2.2.2.2.2.1 i))]) rfl ?_
                  refine lv_icmp_ne (tgt := 439) hx hb dL_isSound_392 (by decide) (fun c392 => absurd c392 (fun h99 => h99 (by rw [hie, rlf_3]))) (fun c392 => ?_)
                  refine lv_aload_n hx hb dL_isSound_395 rfl (lv_at hl 6 rfl) ?_
                  refine lv_iload_n hx hb dL_isSound_396 rfl (lv_at hl 7 rfl) ?_
                  refine k_VF (As := [.int (nI th)]) (rest := []) (pre := []) (mid := [ob E X (F, V)]) C0 (o_dunes l hfl E X (F, V) (nI th) (by first | assumption | omega) (hth)) (cwV 1 hts gL_isSound_X6_dunes rfl rfl rfl (by decide +kernel) ⟨Nat.le_of_ble_eq_true rfl, Nat.le_of_ble_eq_true rfl⟩) hw rfl hZ (fun (u397 : oT) => [ob E X u397]) (fun _ => rfl) 0 6 rfl rfl rfl rfl hl.1 rfl (Nat.le_of_ble_eq_true rfl) dL_isSound_397 ⟨Nat.le_of_ble_eq_true rfl, Nat.le_of_ble_eq_true rfl⟩ (fun r u397 H locs hq99 hw => ?_)
                  obtain ⟨r397, rfl⟩ : ∃ z, z = r := ⟨_, rfl⟩
                  have h397 : r397 = nI (dnN F.1 F.2.1 F.2.2.2.2.2.2.1 (nI th)) ∧ u397.1 = F ∧ u397.2.2.2 = V.2.2 := hq99
                  obtain ⟨z9, u397⟩ := u397
                  have e9 : F = z9 := h397.2.1.symm
                  subst e9
                  have hw : kW E AA sx (List.flatten [ob E X (F, u397)]) H locs := hw
                  refine W.eq (g2 := F0 mm 400 ls [.int r397]) rfl ?_
                  refine W.eq (g2 := F0 mm 400 ls [.int (nI (dnN F.1 F.2.1 F.2.2.2.2.2.2.1 (nI th)))]) (congrArg (fun z9 => F0 mm 400 ls [.int z9]) (show (r397 : Int32) = nI (dnN F.1 F.2.1 F.2.2.2.2.2.2.1 (nI th)) from h397.1)) ?_
                  refine lv_if_le (tgt := 407) hx hb dL_isSound_400 (by decide) (fun c400 => ?_) (fun c400 => ?_)
                  · have c400 : (dnN F.1 F.2.1 F.2.2.2.2.2.2.1 (nI th)) ≤ 0 := (nI_leI (a := (dnN F.1 F.2.1 F.2.2.2.2.2.2.1 (nI th))) (b := 0) (by omega) (by omega)).mp c400
                    refine lv_iconst (v := 0) hx hb dL_isSound_407 (by decide) ?_
                    refine lv_aload_n hx hb dL_isSound_408 rfl (lv_at hl 6 rfl) ?_
                    refine lv_iconst (v := 0) hx hb dL_isSound_409 (by decide) ?_
                    refine k_VF (As := [.int 0]) (rest := [.int 0]) (pre := []) (mid := [ob E X (F, u397)]) C0 (o_relief l hfl E X (F, u397) 0 (by first | assumption | omega) (by first | assumption | omega)) (cwV 1 hts gL_isSound_X6_relief rfl rfl rfl (by decide +kernel) ⟨Nat.le_of_ble_eq_true rfl, Nat.le_of_ble_eq_true rfl⟩) hw rfl hZ (fun _ => [ob E X (F, u397)]) (fun _ => rfl) 0 6 rfl rfl rfl rfl hl.1 rfl (Nat.le_of_ble_eq_true rfl) dL_isSound_410 ⟨Nat.le_of_ble_eq_true rfl, Nat.le_of_ble_eq_true rfl⟩ (fun r u H locs hq99 hw => ?_)
                    subst hq99
                    have hw : kW E AA sx (List.flatten [ob E X (F, u397)]) H locs := hw
                    refine W.eq (g2 := F0 mm 413 ls [.int (rlfN F.1 F.2.1 F.2.2.2.2.2.2.1 0), .int 0]) rfl ?_
                    refine W.eq (g2 := F0 mm 413 ls [.int (F.2.2.2.2.2.2.1 (hiC F.2.2.2.2.2.2.1 (F.1 * F.2.1))), .int 0]) (congrArg (fun z9 => F0 mm 413 ls [.int z9, .int 0]) (show (rlfN F.1 F.2.1 F.2.2.2.2.2.2.1 0 : Int32) = F.2.2.2.2.2.2.1 (hiC F.2.2.2.2.2.2.1 (F.1 * F.2.1)) from rlf_0 _ _ _)) ?_
                    refine lv_iload_n hx hb dL_isSound_413 rfl (lv_at hl 7 rfl) ?_
                    refine lv_icmp_lt (tgt := 421) hx hb dL_isSound_414 (by decide) (fun c414 => ?_) (fun c414 => False.elim (absurd ((dn_pos hG).mpr c414) (by omega)))
                    refine lv_iconst (v := 0) hx hb dL_isSound_421 (by decide) ?_
                    refine lv_icmp_ne (tgt := 439) hx hb dL_isSound_422 (by decide) (fun c422 => absurd c422 (by decide)) (fun c422 => ?_)
                    refine lv_aload_n hx hb dL_isSound_425 rfl (lv_at hl 6 rfl) ?_
                    refine lv_iload_n hx hb dL_isSound_426 rfl (lv_at hl 7 rfl) ?_
                    refine k_VF (As := [.int (nI th)]) (rest := []) (pre := []) (mid := [ob E X (F, u397)]) C0 (o_greatestDune l hfl E X (F, u397) (nI th) (by first | assumption | omega) (hth)) (cwV 1 hts gL_isSound_X6_greatestDune rfl rfl rfl (by decide +kernel) ⟨Nat.le_of_ble_eq_true rfl, Nat.le_of_ble_eq_true rfl⟩) hw rfl hZ (fun (u427 : oT) => [ob E X u427]) (fun _ => rfl) 0 6 rfl rfl rfl rfl hl.1 rfl (Nat.le_of_ble_eq_true rfl) dL_isSound_427 ⟨Nat.le_of_ble_eq_true rfl, Nat.le_of_ble_eq_true rfl⟩ (fun r u427 H locs hq99 hw => ?_)
                    obtain ⟨r427, rfl⟩ : ∃ z, z = r := ⟨_, rfl⟩
                    have h427 : r427 = gdN F.1 F.2.1 F.2.2.2.2.2.2.1 (nI th) ∧ u427.1 = F ∧ u427.2.2.2 = u397.2.2 := hq99
                    obtain ⟨z9, u427⟩ := u427
                    have e9 : F = z9 := h427.2.1.symm
                    subst e9
                    have hw : kW E AA sx (List.flatten [ob E X (F, u427)]) H locs := hw
                    refine W.eq (g2 := F0 mm 430 ls [.int r427]) rfl ?_
                    refine lv_iload hx hb dL_isSound_430 (lv_at hl 5 rfl) ?_
                    refine lv_icmp_gt (tgt := 439) hx hb dL_isSound_432 (by decide) (fun c432 => absurd c432 (by rw [h427.1, hie]; exact Int32.not_lt.mpr (gd_le hHe hBl))) (fun c432 => ?_)
                    refine lv_iconst (v := 1) hx hb dL_isSound_435 (by decide) ?_
                    refine lv_goto (tgt := 440) hx hb dL_isSound_436 (by decide) ?_
                    -- leaf 0
                    exact vx_ret <| k_zret C0 hr hlk hw (F, u427) (rfl) (⟨rfl, rfl, h427.2.2.trans (h397.2.2.trans hV)⟩) (rfl) (Nat.le_of_ble_eq_true rfl) (Nat.le_of_ble_eq_true rfl) dL_isSound_440
                  · have c400 : ¬ (dnN F.1 F.2.1 F.2.2.2.2.2.2.1 (nI th)) ≤ 0 := fun h99 => c400 ((nI_leI (a := (dnN F.1 F.2.1 F.2.2.2.2.2.2.1 (nI th))) (b := 0) (by omega) (by omega)).mpr h99)
                    refine lv_iconst (v := 1) hx hb dL_isSound_403 (by decide) ?_
                    refine lv_goto (tgt := 408) hx hb dL_isSound_404 (by decide) ?_
                    refine lv_aload_n hx hb dL_isSound_408 rfl (lv_at hl 6 rfl) ?_
                    refine lv_iconst (v := 0) hx hb dL_isSound_409 (by decide) ?_
                    refine k_VF (As := [.int 0]) (rest := [.int 1]) (pre := []) (mid := [ob E X (F, u397)]) C0 (o_relief l hfl E X (F, u397) 0 (by first | assumption | omega) (by first | assumption | omega)) (cwV 1 hts gL_isSound_X6_relief rfl rfl rfl (by decide +kernel) ⟨Nat.le_of_ble_eq_true rfl, Nat.le_of_ble_eq_true rfl⟩) hw rfl hZ (fun _ => [ob E X (F, u397)]) (fun _ => rfl) 0 6 rfl rfl rfl rfl hl.1 rfl (Nat.le_of_ble_eq_true rfl) dL_isSound_410 ⟨Nat.le_of_ble_eq_true rfl, Nat.le_of_ble_eq_true rfl⟩ (fun r u H locs hq99 hw => ?_)
                    subst hq99
                    have hw : kW E AA sx (List.flatten [ob E X (F, u397)]) H locs := hw
                    refine W.eq (g2 := F0 mm 413 ls [.int (rlfN F.1 F.2.1 F.2.2.2.2.2.2.1 0), .int 1]) rfl ?_
                    refine W.eq (g2 := F0 mm 413 ls [.int (F.2.2.2.2.2.2.1 (hiC F.2.2.2.2.2.2.1 (F.1 * F.2.1))), .int 1]) (congrArg (fun z9 => F0 mm 413 ls [.int z9, .int 1]) (show (rlfN F.1 F.2.1 F.2.2.2.2.2.2.1 0 : Int32) = F.2.2.2.2.2.2.1 (hiC F.2.2.2.2.2.2.1 (F.1 * F.2.1)) from rlf_0 _ _ _)) ?_
                    refine lv_iload_n hx hb dL_isSound_413 rfl (lv_at hl 7 rfl) ?_
                    refine lv_icmp_lt (tgt := 421) hx hb dL_isSound_414 (by decide) (fun c414 => absurd c414 ((dn_pos hG).mp (by omega))) (fun c414 => ?_)
                    refine lv_iconst (v := 1) hx hb dL_isSound_417 (by decide) ?_
                    refine lv_goto (tgt := 422) hx hb dL_isSound_418 (by decide) ?_
                    refine lv_icmp_ne (tgt := 439) hx hb dL_isSound_422 (by decide) (fun c422 => absurd c422 (by decide)) (fun c422 => ?_)
                    refine lv_aload_n hx hb dL_isSound_425 rfl (lv_at hl 6 rfl) ?_
                    refine lv_iload_n hx hb dL_isSound_426 rfl (lv_at hl 7 rfl) ?_
                    refine k_VF (As := [.int (nI th)]) (rest := []) (pre := []) (mid := [ob E X (F, u397)]) C0 (o_greatestDune l hfl E X (F, u397) (nI th) (by first | assumption | omega) (hth)) (cwV 1 hts gL_isSound_X6_greatestDune rfl rfl rfl (by decide +kernel) ⟨Nat.le_of_ble_eq_true rfl, Nat.le_of_ble_eq_true rfl⟩) hw rfl hZ (fun (u427_1 : oT) => [ob E X u427_1]) (fun _ => rfl) 0 6 rfl rfl rfl rfl hl.1 rfl (Nat.le_of_ble_eq_true rfl) dL_isSound_427 ⟨Nat.le_of_ble_eq_true rfl, Nat.le_of_ble_eq_true rfl⟩ (fun r u427_1 H locs hq99 hw => ?_)
                    obtain ⟨r427, rfl⟩ : ∃ z, z = r := ⟨_, rfl⟩
                    have h427 : r427 = gdN F.1 F.2.1 F.2.2.2.2.2.2.1 (nI th) ∧ u427_1.1 = F ∧ u427_1.2.2.2 = u397.2.2 := hq99
                    obtain ⟨z9, u427_1⟩ := u427_1
                    have e9 : F = z9 := h427.2.1.symm
                    subst e9
                    have hw : kW E AA sx (List.flatten [ob E X (F, u427_1)]) H locs := hw
                    refine W.eq (g2 := F0 mm 430 ls [.int r427]) rfl ?_
                    refine lv_iload hx hb dL_isSound_430 (lv_at hl 5 rfl) ?_
                    refine lv_icmp_gt (tgt := 439) hx hb dL_isSound_432 (by decide) (fun c432 => absurd c432 (by rw [h427.1, hie]; exact Int32.not_lt.mpr (gd_le hHe hBl))) (fun c432 => ?_)
                    refine lv_iconst (v := 1) hx hb dL_isSound_435 (by decide) ?_
                    refine lv_goto (tgt := 440) hx hb dL_isSound_436 (by decide) ?_
                    -- leaf 1
                    exact vx_ret <| k_zret C0 hr hlk hw (F, u427_1) (rfl) (⟨rfl, rfl, h427.2.2.trans (h397.2.2.trans hV)⟩) (rfl) (Nat.le_of_ble_eq_true rfl) (Nat.le_of_ble_eq_true rfl) dL_isSound_440
                · have c331 : ¬ 5 ≤ lr := fun h99 => c331 ((nI_leI (a := 5) (b := lr) (by omega) (by omega)).mpr h99)
                  refine lv_iconst (v := 1) hx hb dL_isSound_334 (by decide) ?_
                  refine lv_goto (tgt := 339) hx hb dL_isSound_335 (by decide) ?_
                  refine lv_aload_n hx hb dL_isSound_339 rfl (lv_at hl 6 rfl) ?_
                  refine lv_iconst (v := 2) hx hb dL_isSound_340 (by decide) ?_
                  refine k_VF (As := [.int 2]) (rest := [.int 1]) (pre := []) (mid := [ob E X (F, V)]) C0 (o_latest l hfl E X (F, V) 2 (by first | assumption | omega)) (cwV 1 hts gL_isSound_X6_latest rfl rfl rfl (by decide +kernel) ⟨Nat.le_of_ble_eq_true rfl, Nat.le_of_ble_eq_true rfl⟩) hw rfl hZ (fun _ => [ob E X (F, V)]) (fun _ => rfl) 0 6 rfl rfl rfl rfl hl.1 rfl (Nat.le_of_ble_eq_true rfl) dL_isSound_341 ⟨Nat.le_of_ble_eq_true rfl, Nat.le_of_ble_eq_true rfl⟩ (fun r u H locs hq99 hw => ?_)
                  subst hq99
                  have hw : kW E AA sx (List.flatten [ob E X (F, V)]) H locs := hw
                  refine W.eq (g2 := F0 mm 344 ls [.int (F.2.2.2.2.2.2.2.2.2.2.2.2 2), .int 1]) rfl ?_
                  refine lv_iconst (v := (-1)) hx hb dL_isSound_344 (by decide) ?_
                  refine lv_icmp_ne (tgt := 352) hx hb dL_isSound_345 (by decide) (fun c345 => absurd c345 (fun h99 => h99 (e2.mpr (by omega)))) (fun c345 => ?_)
                  refine lv_iconst (v := 1) hx hb dL_isSound_348 (by decide) ?_
                  refine lv_goto (tgt := 353) hx hb dL_isSound_349 (by decide) ?_
                  refine lv_icmp_ne (tgt := 370) hx hb dL_isSound_353 (by decide) (fun c353 => absurd c353 (by decide)) (fun c353 => ?_)
                  refine lv_aload_n hx hb dL_isSound_356 rfl (lv_at hl 6 rfl) ?_
                  refine lv_iconst (v := 3) hx hb dL_isSound_357 (by decide) ?_
                  refine k_VF (As := [.int 3]) (rest := []) (pre := []) (mid := [ob E X (F, V)]) C0 (o_latest l hfl E X (F, V) 3 (by first | assumption | omega)) (cwV 1 hts gL_isSound_X6_latest rfl rfl rfl (by decide +kernel) ⟨Nat.le_of_ble_eq_true rfl, Nat.le_of_ble_eq_true rfl⟩) hw rfl hZ (fun _ => [ob E X (F, V)]) (fun _ => rfl) 0 6 rfl rfl rfl rfl hl.1 rfl (Nat.le_of_ble_eq_true rfl) dL_isSound_358 ⟨Nat.le_of_ble_eq_true rfl, Nat.le_of_ble_eq_true rfl⟩ (fun r u H locs hq99 hw => ?_)
                  subst hq99
                  have hw : kW E AA sx (List.flatten [ob E X (F, V)]) H locs := hw
                  refine W.eq (g2 := F0 mm 361 ls [.int (F.2.2.2.2.2.2.2.2.2.2.2.2 3)]) rfl ?_
                  refine W.eq (g2 := F0 mm 361 ls [.int (nI lk)]) (congrArg (fun z9 => F0 mm 361 ls [.int z9]) (show (F.2.2.2.2.2.2.2.2.2.2.2.2 3 : Int32) = nI lk from e3)) ?_
                  refine lv_bipush (v := 12) hx hb dL_isSound_361 (by decide) ?_
                  refine lv_icmp_gt (tgt := 370) hx hb dL_isSound_363 (by decide) (fun c363 => absurd c363 (nI_nlt (a := 12) (b := lk) hk9 (by decide))) (fun c363 => ?_)
                  have c363 : ¬ 12 < lk := fun h99 => c363 ((nI_ltI (a := 12) (b := lk) (by omega) (by omega)).mpr h99)
                  refine lv_iconst (v := 1) hx hb dL_isSound_366 (by decide) ?_
                  refine lv_goto (tgt := 371) hx hb dL_isSound_367 (by decide) ?_
                  refine lv_istore_n (lv' := [(3, .int 1), (8, .int 0), (7, .int (F.2.2.2.2.2.2.2.2.2.2.2.2 1)), (6, .int (nI N)), (5, .int (nI (barN F.2.2.2.2.2.2.1 i))), (4, .int (sumI F.2.2.2.2.2.2.1 i)), (0, .ref X.1.1), (1, .int (nI th))]) hx hb dL_isSound_371 rfl hl (by decide) rfl (fun ls hl => ?_)
                  refine lv_iload_n hx hb dL_isSound_372 rfl (lv_at hl 0 rfl) ?_
                  refine lv_if_eq (tgt := 439) hx hb dL_isSound_373 (by decide) (fun c373 => absurd c373 (by decide)) (fun c373 => ?_)
                  refine lv_iload hx hb dL_isSound_376 (lv_at hl 5 rfl) ?_
                  refine lv_aload_n hx hb dL_isSound_378 rfl (lv_at hl 6 rfl) ?_
                  refine k_VF (As := []) (rest := [.int (sumI F.2.2.2.2.2.2.1 i)]) (pre := []) (mid := [ob E X (F, V)]) C0 (o_slabs l hfl E X (F, V) (by first | assumption | omega)) (cwV 0 hts gL_isSound_X6_slabs rfl rfl rfl (by decide +kernel) ⟨Nat.le_of_ble_eq_true rfl, Nat.le_of_ble_eq_true rfl⟩) hw rfl hZ (fun _ => [ob E X (F, V)]) (fun _ => rfl) 0 6 rfl rfl rfl rfl hl.1 rfl (Nat.le_of_ble_eq_true rfl) dL_isSound_379 ⟨Nat.le_of_ble_eq_true rfl, Nat.le_of_ble_eq_true rfl⟩ (fun r u H locs hq99 hw => ?_)
                  subst hq99
                  have hw : kW E AA sx (List.flatten [ob E X (F, V)]) H locs := hw
                  refine W.eq (g2 := F0 mm 382 ls [.int (sumI F.2.2.2.2.2.2.1 (F.1 * F.2.1)), .int (sumI F.2.2.2.2.2.2.1 i)]) rfl ?_
                  refine lv_icmp_ne (tgt := 439) hx hb dL_isSound_382 (by decide) (fun c382 => absurd c382 (fun h99 => h99 (by rw [hie]))) (fun c382 => ?_)
                  refine lv_iload hx hb dL_isSound_385 (lv_at hl 4 rfl) ?_
                  refine lv_aload_n hx hb dL_isSound_387 rfl (lv_at hl 6 rfl) ?_
                  refine lv_iconst (v := 3) hx hb dL_isSound_388 (by decide) ?_
                  refine k_VF (As := [.int 3]) (rest := [.int (nI (barN F.2.2.2.2.2.2.1 i))]) (pre := []) (mid := [ob E X (F, V)]) C0 (o_relief l hfl E X (F, V) 3 (by first | assumption | omega) (by first | assumption | omega)) (cwV 1 hts gL_isSound_X6_relief rfl rfl rfl (by decide +kernel) ⟨Nat.le_of_ble_eq_true rfl, Nat.le_of_ble_eq_true rfl⟩) hw rfl hZ (fun _ => [ob E X (F, V)]) (fun _ => rfl) 0 6 rfl rfl rfl rfl hl.1 rfl (Nat.le_of_ble_eq_true rfl) dL_isSound_389 ⟨Nat.le_of_ble_eq_true rfl, Nat.le_of_ble_eq_true rfl⟩ (fun r u H locs hq99 hw => ?_)
                  subst hq99
                  have hw : kW E AA sx (List.flatten [ob E X (F, V)]) H locs := hw
                  refine W.eq (g2 := F0 mm 392 ls [.int (rlfN F.1 F.2.1 F.2.2.2.2.2.2.1 3), .int (nI (barN F.2.2.2.2.2.2.1 i))]) rfl ?_
                  refine lv_icmp_ne (tgt := 439) hx hb dL_isSound_392 (by decide) (fun c392 => absurd c392 (fun h99 => h99 (by rw [hie, rlf_3]))) (fun c392 => ?_)
                  refine lv_aload_n hx hb dL_isSound_395 rfl (lv_at hl 6 rfl) ?_
                  refine lv_iload_n hx hb dL_isSound_396 rfl (lv_at hl 7 rfl) ?_
                  refine k_VF (As := [.int (nI th)]) (rest := []) (pre := []) (mid := [ob E X (F, V)]) C0 (o_dunes l hfl E X (F, V) (nI th) (by first | assumption | omega) (hth)) (cwV 1 hts gL_isSound_X6_dunes rfl rfl rfl (by decide +kernel) ⟨Nat.le_of_ble_eq_true rfl, Nat.le_of_ble_eq_true rfl⟩) hw rfl hZ (fun (u397_1 : oT) => [ob E X u397_1]) (fun _ => rfl) 0 6 rfl rfl rfl rfl hl.1 rfl (Nat.le_of_ble_eq_true rfl) dL_isSound_397 ⟨Nat.le_of_ble_eq_true rfl, Nat.le_of_ble_eq_true rfl⟩ (fun r u397_1 H locs hq99 hw => ?_)
                  obtain ⟨r397, rfl⟩ : ∃ z, z = r := ⟨_, rfl⟩
                  have h397 : r397 = nI (dnN F.1 F.2.1 F.2.2.2.2.2.2.1 (nI th)) ∧ u397_1.1 = F ∧ u397_1.2.2.2 = V.2.2 := hq99
                  obtain ⟨z9, u397_1⟩ := u397_1
                  have e9 : F = z9 := h397.2.1.symm
                  subst e9
                  have hw : kW E AA sx (List.flatten [ob E X (F, u397_1)]) H locs := hw
                  refine W.eq (g2 := F0 mm 400 ls [.int r397]) rfl ?_
                  refine W.eq (g2 := F0 mm 400 ls [.int (nI (dnN F.1 F.2.1 F.2.2.2.2.2.2.1 (nI th)))]) (congrArg (fun z9 => F0 mm 400 ls [.int z9]) (show (r397 : Int32) = nI (dnN F.1 F.2.1 F.2.2.2.2.2.2.1 (nI th)) from h397.1)) ?_
                  refine lv_if_le (tgt := 407) hx hb dL_isSound_400 (by decide) (fun c400 => ?_) (fun c400 => ?_)
                  · have c400 : (dnN F.1 F.2.1 F.2.2.2.2.2.2.1 (nI th)) ≤ 0 := (nI_leI (a := (dnN F.1 F.2.1 F.2.2.2.2.2.2.1 (nI th))) (b := 0) (by omega) (by omega)).mp c400
                    refine lv_iconst (v := 0) hx hb dL_isSound_407 (by decide) ?_
                    refine lv_aload_n hx hb dL_isSound_408 rfl (lv_at hl 6 rfl) ?_
                    refine lv_iconst (v := 0) hx hb dL_isSound_409 (by decide) ?_
                    refine k_VF (As := [.int 0]) (rest := [.int 0]) (pre := []) (mid := [ob E X (F, u397_1)]) C0 (o_relief l hfl E X (F, u397_1) 0 (by first | assumption | omega) (by first | assumption | omega)) (cwV 1 hts gL_isSound_X6_relief rfl rfl rfl (by decide +kernel) ⟨Nat.le_of_ble_eq_true rfl, Nat.le_of_ble_eq_true rfl⟩) hw rfl hZ (fun _ => [ob E X (F, u397_1)]) (fun _ => rfl) 0 6 rfl rfl rfl rfl hl.1 rfl (Nat.le_of_ble_eq_true rfl) dL_isSound_410 ⟨Nat.le_of_ble_eq_true rfl, Nat.le_of_ble_eq_true rfl⟩ (fun r u H locs hq99 hw => ?_)
                    subst hq99
                    have hw : kW E AA sx (List.flatten [ob E X (F, u397_1)]) H locs := hw
                    refine W.eq (g2 := F0 mm 413 ls [.int (rlfN F.1 F.2.1 F.2.2.2.2.2.2.1 0), .int 0]) rfl ?_
                    refine W.eq (g2 := F0 mm 413 ls [.int (F.2.2.2.2.2.2.1 (hiC F.2.2.2.2.2.2.1 (F.1 * F.2.1))), .int 0]) (congrArg (fun z9 => F0 mm 413 ls [.int z9, .int 0]) (show (rlfN F.1 F.2.1 F.2.2.2.2.2.2.1 0 : Int32) = F.2.2.2.2.2.2.1 (hiC F.2.2.2.2.2.2.1 (F.1 * F.2.1)) from rlf_0 _ _ _)) ?_
                    refine lv_iload_n hx hb dL_isSound_413 rfl (lv_at hl 7 rfl) ?_
                    refine lv_icmp_lt (tgt := 421) hx hb dL_isSound_414 (by decide) (fun c414 => ?_) (fun c414 => False.elim (absurd ((dn_pos hG).mpr c414) (by omega)))
                    refine lv_iconst (v := 0) hx hb dL_isSound_421 (by decide) ?_
                    refine lv_icmp_ne (tgt := 439) hx hb dL_isSound_422 (by decide) (fun c422 => absurd c422 (by decide)) (fun c422 => ?_)
                    refine lv_aload_n hx hb dL_isSound_425 rfl (lv_at hl 6 rfl) ?_
                    refine lv_iload_n hx hb dL_isSound_426 rfl (lv_at hl 7 rfl) ?_
                    refine k_VF (As := [.int (nI th)]) (rest := []) (pre := []) (mid := [ob E X (F, u397_1)]) C0 (o_greatestDune l hfl E X (F, u397_1) (nI th) (by first | assumption | omega) (hth)) (cwV 1 hts gL_isSound_X6_greatestDune rfl rfl rfl (by decide +kernel) ⟨Nat.le_of_ble_eq_true rfl, Nat.le_of_ble_eq_true rfl⟩) hw rfl hZ (fun (u427_2 : oT) => [ob E X u427_2]) (fun _ => rfl) 0 6 rfl rfl rfl rfl hl.1 rfl (Nat.le_of_ble_eq_true rfl) dL_isSound_427 ⟨Nat.le_of_ble_eq_true rfl, Nat.le_of_ble_eq_true rfl⟩ (fun r u427_2 H locs hq99 hw => ?_)
                    obtain ⟨r427, rfl⟩ : ∃ z, z = r := ⟨_, rfl⟩
                    have h427 : r427 = gdN F.1 F.2.1 F.2.2.2.2.2.2.1 (nI th) ∧ u427_2.1 = F ∧ u427_2.2.2.2 = u397_1.2.2 := hq99
                    obtain ⟨z9, u427_2⟩ := u427_2
                    have e9 : F = z9 := h427.2.1.symm
                    subst e9
                    have hw : kW E AA sx (List.flatten [ob E X (F, u427_2)]) H locs := hw
                    refine W.eq (g2 := F0 mm 430 ls [.int r427]) rfl ?_
                    refine lv_iload hx hb dL_isSound_430 (lv_at hl 5 rfl) ?_
                    refine lv_icmp_gt (tgt := 439) hx hb dL_isSound_432 (by decide) (fun c432 => absurd c432 (by rw [h427.1, hie]; exact Int32.not_lt.mpr (gd_le hHe hBl))) (fun c432 => ?_)
                    refine lv_iconst (v := 1) hx hb dL_isSound_435 (by decide) ?_
                    refine lv_goto (tgt := 440) hx hb dL_isSound_436 (by decide) ?_
                    -- leaf 2
                    exact vx_ret <| k_zret C0 hr hlk hw (F, u427_2) (rfl) (⟨rfl, rfl, h427.2.2.trans (h397.2.2.trans hV)⟩) (rfl) (Nat.le_of_ble_eq_true rfl) (Nat.le_of_ble_eq_true rfl) dL_isSound_440
                  · have c400 : ¬ (dnN F.1 F.2.1 F.2.2.2.2.2.2.1 (nI th)) ≤ 0 := fun h99 => c400 ((nI_leI (a := (dnN F.1 F.2.1 F.2.2.2.2.2.2.1 (nI th))) (b := 0) (by omega) (by omega)).mpr h99)
                    refine lv_iconst (v := 1) hx hb dL_isSound_403 (by decide) ?_
                    refine lv_goto (tgt := 408) hx hb dL_isSound_404 (by decide) ?_
                    refine lv_aload_n hx hb dL_isSound_408 rfl (lv_at hl 6 rfl) ?_
                    refine lv_iconst (v := 0) hx hb dL_isSound_409 (by decide) ?_
                    refine k_VF (As := [.int 0]) (rest := [.int 1]) (pre := []) (mid := [ob E X (F, u397_1)]) C0 (o_relief l hfl E X (F, u397_1) 0 (by first | assumption | omega) (by first | assumption | omega)) (cwV 1 hts gL_isSound_X6_relief rfl rfl rfl (by decide +kernel) ⟨Nat.le_of_ble_eq_true rfl, Nat.le_of_ble_eq_true rfl⟩) hw rfl hZ (fun _ => [ob E X (F, u397_1)]) (fun _ => rfl) 0 6 rfl rfl rfl rfl hl.1 rfl (Nat.le_of_ble_eq_true rfl) dL_isSound_410 ⟨Nat.le_of_ble_eq_true rfl, Nat.le_of_ble_eq_true rfl⟩ (fun r u H locs hq99 hw => ?_)
                    subst hq99
                    have hw : kW E AA sx (List.flatten [ob E X (F, u397_1)]) H locs := hw
                    refine W.eq (g2 := F0 mm 413 ls [.int (rlfN F.1 F.2.1 F.2.2.2.2.2.2.1 0), .int 1]) rfl ?_
                    refine W.eq (g2 := F0 mm 413 ls [.int (F.2.2.2.2.2.2.1 (hiC F.2.2.2.2.2.2.1 (F.1 * F.2.1))), .int 1]) (congrArg (fun z9 => F0 mm 413 ls [.int z9, .int 1]) (show (rlfN F.1 F.2.1 F.2.2.2.2.2.2.1 0 : Int32) = F.2.2.2.2.2.2.1 (hiC F.2.2.2.2.2.2.1 (F.1 * F.2.1)) from rlf_0 _ _ _)) ?_
                    refine lv_iload_n hx hb dL_isSound_413 rfl (lv_at hl 7 rfl) ?_
                    refine lv_icmp_lt (tgt := 421) hx hb dL_isSound_414 (by decide) (fun c414 => absurd c414 ((dn_pos hG).mp (by omega))) (fun c414 => ?_)
                    refine lv_iconst (v := 1) hx hb dL_isSound_417 (by decide) ?_
                    refine lv_goto (tgt := 422) hx hb dL_isSound_418 (by decide) ?_
                    refine lv_icmp_ne (tgt := 439) hx hb dL_isSound_422 (by decide) (fun c422 => absurd c422 (by decide)) (fun c422 => ?_)
                    refine lv_aload_n hx hb dL_isSound_425 rfl (lv_at hl 6 rfl) ?_
                    refine lv_iload_n hx hb dL_isSound_426 rfl (lv_at hl 7 rfl) ?_
                    refine k_VF (As := [.int (nI th)]) (rest := []) (pre := []) (mid := [ob E X (F, u397_1)]) C0 (o_greatestDune l hfl E X (F, u397_1) (nI th) (by first | assumption | omega) (hth)) (cwV 1 hts gL_isSound_X6_greatestDune rfl rfl rfl (by decide +kernel) ⟨Nat.le_of_ble_eq_true rfl, Nat.le_of_ble_eq_true rfl⟩) hw rfl hZ (fun (u427_3 : oT) => [ob E X u427_3]) (fun _ => rfl) 0 6 rfl rfl rfl rfl hl.1 rfl (Nat.le_of_ble_eq_true rfl) dL_isSound_427 ⟨Nat.le_of_ble_eq_true rfl, Nat.le_of_ble_eq_true rfl⟩ (fun r u427_3 H locs hq99 hw => ?_)
                    obtain ⟨r427, rfl⟩ : ∃ z, z = r := ⟨_, rfl⟩
                    have h427 : r427 = gdN F.1 F.2.1 F.2.2.2.2.2.2.1 (nI th) ∧ u427_3.1 = F ∧ u427_3.2.2.2 = u397_1.2.2 := hq99
                    obtain ⟨z9, u427_3⟩ := u427_3
                    have e9 : F = z9 := h427.2.1.symm
                    subst e9
                    have hw : kW E AA sx (List.flatten [ob E X (F, u427_3)]) H locs := hw
                    refine W.eq (g2 := F0 mm 430 ls [.int r427]) rfl ?_
                    refine lv_iload hx hb dL_isSound_430 (lv_at hl 5 rfl) ?_
                    refine lv_icmp_gt (tgt := 439) hx hb dL_isSound_432 (by decide) (fun c432 => absurd c432 (by rw [h427.1, hie]; exact Int32.not_lt.mpr (gd_le hHe hBl))) (fun c432 => ?_)
                    refine lv_iconst (v := 1) hx hb dL_isSound_435 (by decide) ?_
                    refine lv_goto (tgt := 440) hx hb dL_isSound_436 (by decide) ?_
                    -- leaf 3
                    exact vx_ret <| k_zret C0 hr hlk hw (F, u427_3) (rfl) (⟨rfl, rfl, h427.2.2.trans (h397.2.2.trans hV)⟩) (rfl) (Nat.le_of_ble_eq_true rfl) (Nat.le_of_ble_eq_true rfl) dL_isSound_440
              · have c275 : N = 0 := (nI_eq (a := N) (b := 0) (by omega) (by omega)).mp c275
                have hl9 := la_0 hLa c275
                refine lv_iconst (v := 1) hx hb dL_isSound_278 (by decide) ?_
                refine lv_goto (tgt := 283) hx hb dL_isSound_279 (by decide) ?_
                refine lv_istore (lv' := [(8, .int 1), (7, .int (F.2.2.2.2.2.2.2.2.2.2.2.2 1)), (6, .int (nI N)), (5, .int (nI (barN F.2.2.2.2.2.2.1 i))), (4, .int (sumI F.2.2.2.2.2.2.1 i)), (3, .int 1), (0, .ref X.1.1), (1, .int (nI th))]) hx hb dL_isSound_283 hl (by decide) rfl (fun ls hl => ?_)
                refine lv_iload_n hx hb dL_isSound_285 rfl (lv_at hl 5 rfl) ?_
                refine lv_if_eq (tgt := 370) hx hb dL_isSound_286 (by decide) (fun c286 => absurd c286 (by decide)) (fun c286 => ?_)
                refine lv_iload hx hb dL_isSound_289 (lv_at hl 0 rfl) ?_
                refine lv_if_eq (tgt := 312) hx hb dL_isSound_291 (by decide) (fun c291 => absurd c291 (by decide)) (fun c291 => ?_)
                refine lv_iload hx hb dL_isSound_294 (lv_at hl 1 rfl) ?_
                refine lv_iconst (v := (-1)) hx hb dL_isSound_296 (by decide) ?_
                refine lv_icmp_ne (tgt := 370) hx hb dL_isSound_297 (by decide) (fun c297 => absurd c297 (fun h99 => h99 hl9.2)) (fun c297 => ?_)
                refine lv_aload_n hx hb dL_isSound_300 rfl (lv_at hl 6 rfl) ?_
                refine lv_iconst (v := 0) hx hb dL_isSound_301 (by decide) ?_
                refine k_VF (As := [.int 0]) (rest := []) (pre := []) (mid := [ob E X (F, V)]) C0 (o_latest l hfl E X (F, V) 0 (by first | assumption | omega)) (cwV 1 hts gL_isSound_X6_latest rfl rfl rfl (by decide +kernel) ⟨Nat.le_of_ble_eq_true rfl, Nat.le_of_ble_eq_true rfl⟩) hw rfl hZ (fun _ => [ob E X (F, V)]) (fun _ => rfl) 0 6 rfl rfl rfl rfl hl.1 rfl (Nat.le_of_ble_eq_true rfl) dL_isSound_302 ⟨Nat.le_of_ble_eq_true rfl, Nat.le_of_ble_eq_true rfl⟩ (fun r u H locs hq99 hw => ?_)
                subst hq99
                have hw : kW E AA sx (List.flatten [ob E X (F, V)]) H locs := hw
                refine W.eq (g2 := F0 mm 305 ls [.int (F.2.2.2.2.2.2.2.2.2.2.2.2 0)]) rfl ?_
                refine lv_iconst (v := (-1)) hx hb dL_isSound_305 (by decide) ?_
                refine lv_icmp_ne (tgt := 370) hx hb dL_isSound_306 (by decide) (fun c306 => absurd c306 (fun h99 => h99 hl9.1)) (fun c306 => ?_)
                refine lv_goto (tgt := 366) hx hb dL_isSound_309 (by decide) ?_
                refine lv_iconst (v := 1) hx hb dL_isSound_366 (by decide) ?_
                refine lv_goto (tgt := 371) hx hb dL_isSound_367 (by decide) ?_
                refine lv_istore_n (lv' := [(3, .int 1), (8, .int 1), (7, .int (F.2.2.2.2.2.2.2.2.2.2.2.2 1)), (6, .int (nI N)), (5, .int (nI (barN F.2.2.2.2.2.2.1 i))), (4, .int (sumI F.2.2.2.2.2.2.1 i)), (0, .ref X.1.1), (1, .int (nI th))]) hx hb dL_isSound_371 rfl hl (by decide) rfl (fun ls hl => ?_)
                refine lv_iload_n hx hb dL_isSound_372 rfl (lv_at hl 0 rfl) ?_
                refine lv_if_eq (tgt := 439) hx hb dL_isSound_373 (by decide) (fun c373 => absurd c373 (by decide)) (fun c373 => ?_)
                refine lv_iload hx hb dL_isSound_376 (lv_at hl 5 rfl) ?_
                refine lv_aload_n hx hb dL_isSound_378 rfl (lv_at hl 6 rfl) ?_
                refine k_VF (As := []) (rest := [.int (sumI F.2.2.2.2.2.2.1 i)]) (pre := []) (mid := [ob E X (F, V)]) C0 (o_slabs l hfl E X (F, V) (by first | assumption | omega)) (cwV 0 hts gL_isSound_X6_slabs rfl rfl rfl (by decide +kernel) ⟨Nat.le_of_ble_eq_true rfl, Nat.le_of_ble_eq_true rfl⟩) hw rfl hZ (fun _ => [ob E X (F, V)]) (fun _ => rfl) 0 6 rfl rfl rfl rfl hl.1 rfl (Nat.le_of_ble_eq_true rfl) dL_isSound_379 ⟨Nat.le_of_ble_eq_true rfl, Nat.le_of_ble_eq_true rfl⟩ (fun r u H locs hq99 hw => ?_)
                subst hq99
                have hw : kW E AA sx (List.flatten [ob E X (F, V)]) H locs := hw
                refine W.eq (g2 := F0 mm 382 ls [.int (sumI F.2.2.2.2.2.2.1 (F.1 * F.2.1)), .int (sumI F.2.2.2.2.2.2.1 i)]) rfl ?_
                refine lv_icmp_ne (tgt := 439) hx hb dL_isSound_382 (by decide) (fun c382 => absurd c382 (fun h99 => h99 (by rw [hie]))) (fun c382 => ?_)
                refine lv_iload hx hb dL_isSound_385 (lv_at hl 4 rfl) ?_
                refine lv_aload_n hx hb dL_isSound_387 rfl (lv_at hl 6 rfl) ?_
                refine lv_iconst (v := 3) hx hb dL_isSound_388 (by decide) ?_
                refine k_VF (As := [.int 3]) (rest := [.int (nI (barN F.2.2.2.2.2.2.1 i))]) (pre := []) (mid := [ob E X (F, V)]) C0 (o_relief l hfl E X (F, V) 3 (by first | assumption | omega) (by first | assumption | omega)) (cwV 1 hts gL_isSound_X6_relief rfl rfl rfl (by decide +kernel) ⟨Nat.le_of_ble_eq_true rfl, Nat.le_of_ble_eq_true rfl⟩) hw rfl hZ (fun _ => [ob E X (F, V)]) (fun _ => rfl) 0 6 rfl rfl rfl rfl hl.1 rfl (Nat.le_of_ble_eq_true rfl) dL_isSound_389 ⟨Nat.le_of_ble_eq_true rfl, Nat.le_of_ble_eq_true rfl⟩ (fun r u H locs hq99 hw => ?_)
                subst hq99
                have hw : kW E AA sx (List.flatten [ob E X (F, V)]) H locs := hw
                refine W.eq (g2 := F0 mm 392 ls [.int (rlfN F.1 F.2.1 F.2.2.2.2.2.2.1 3), .int (nI (barN F.2.2.2.2.2.2.1 i))]) rfl ?_
                refine lv_icmp_ne (tgt := 439) hx hb dL_isSound_392 (by decide) (fun c392 => absurd c392 (fun h99 => h99 (by rw [hie, rlf_3]))) (fun c392 => ?_)
                refine lv_aload_n hx hb dL_isSound_395 rfl (lv_at hl 6 rfl) ?_
                refine lv_iload_n hx hb dL_isSound_396 rfl (lv_at hl 7 rfl) ?_
                refine k_VF (As := [.int (nI th)]) (rest := []) (pre := []) (mid := [ob E X (F, V)]) C0 (o_dunes l hfl E X (F, V) (nI th) (by first | assumption | omega) (hth)) (cwV 1 hts gL_isSound_X6_dunes rfl rfl rfl (by decide +kernel) ⟨Nat.le_of_ble_eq_true rfl, Nat.le_of_ble_eq_true rfl⟩) hw rfl hZ (fun (u397_2 : oT) => [ob E X u397_2]) (fun _ => rfl) 0 6 rfl rfl rfl rfl hl.1 rfl (Nat.le_of_ble_eq_true rfl) dL_isSound_397 ⟨Nat.le_of_ble_eq_true rfl, Nat.le_of_ble_eq_true rfl⟩ (fun r u397_2 H locs hq99 hw => ?_)
                obtain ⟨r397, rfl⟩ : ∃ z, z = r := ⟨_, rfl⟩
                have h397 : r397 = nI (dnN F.1 F.2.1 F.2.2.2.2.2.2.1 (nI th)) ∧ u397_2.1 = F ∧ u397_2.2.2.2 = V.2.2 := hq99
                obtain ⟨z9, u397_2⟩ := u397_2
                have e9 : F = z9 := h397.2.1.symm
                subst e9
                have hw : kW E AA sx (List.flatten [ob E X (F, u397_2)]) H locs := hw
                refine W.eq (g2 := F0 mm 400 ls [.int r397]) rfl ?_
                refine W.eq (g2 := F0 mm 400 ls [.int (nI (dnN F.1 F.2.1 F.2.2.2.2.2.2.1 (nI th)))]) (congrArg (fun z9 => F0 mm 400 ls [.int z9]) (show (r397 : Int32) = nI (dnN F.1 F.2.1 F.2.2.2.2.2.2.1 (nI th)) from h397.1)) ?_
                refine lv_if_le (tgt := 407) hx hb dL_isSound_400 (by decide) (fun c400 => ?_) (fun c400 => ?_)
                · have c400 : (dnN F.1 F.2.1 F.2.2.2.2.2.2.1 (nI th)) ≤ 0 := (nI_leI (a := (dnN F.1 F.2.1 F.2.2.2.2.2.2.1 (nI th))) (b := 0) (by omega) (by omega)).mp c400
                  refine lv_iconst (v := 0) hx hb dL_isSound_407 (by decide) ?_
                  refine lv_aload_n hx hb dL_isSound_408 rfl (lv_at hl 6 rfl) ?_
                  refine lv_iconst (v := 0) hx hb dL_isSound_409 (by decide) ?_
                  refine k_VF (As := [.int 0]) (rest := [.int 0]) (pre := []) (mid := [ob E X (F, u397_2)]) C0 (o_relief l hfl E X (F, u397_2) 0 (by first | assumption | omega) (by first | assumption | omega)) (cwV 1 hts gL_isSound_X6_relief rfl rfl rfl (by decide +kernel) ⟨Nat.le_of_ble_eq_true rfl, Nat.le_of_ble_eq_true rfl⟩) hw rfl hZ (fun _ => [ob E X (F, u397_2)]) (fun _ => rfl) 0 6 rfl rfl rfl rfl hl.1 rfl (Nat.le_of_ble_eq_true rfl) dL_isSound_410 ⟨Nat.le_of_ble_eq_true rfl, Nat.le_of_ble_eq_true rfl⟩ (fun r u H locs hq99 hw => ?_)
                  subst hq99
                  have hw : kW E AA sx (List.flatten [ob E X (F, u397_2)]) H locs := hw
                  refine W.eq (g2 := F0 mm 413 ls [.int (rlfN F.1 F.2.1 F.2.2.2.2.2.2.1 0), .int 0]) rfl ?_
                  refine W.eq (g2 := F0 mm 413 ls [.int (F.2.2.2.2.2.2.1 (hiC F.2.2.2.2.2.2.1 (F.1 * F.2.1))), .int 0]) (congrArg (fun z9 => F0 mm 413 ls [.int z9, .int 0]) (show (rlfN F.1 F.2.1 F.2.2.2.2.2.2.1 0 : Int32) = F.2.2.2.2.2.2.1 (hiC F.2.2.2.2.2.2.1 (F.1 * F.2.1)) from rlf_0 _ _ _)) ?_
                  refine lv_iload_n hx hb dL_isSound_413 rfl (lv_at hl 7 rfl) ?_
                  refine lv_icmp_lt (tgt := 421) hx hb dL_isSound_414 (by decide) (fun c414 => ?_) (fun c414 => False.elim (absurd ((dn_pos hG).mpr c414) (by omega)))
                  refine lv_iconst (v := 0) hx hb dL_isSound_421 (by decide) ?_
                  refine lv_icmp_ne (tgt := 439) hx hb dL_isSound_422 (by decide) (fun c422 => absurd c422 (by decide)) (fun c422 => ?_)
                  refine lv_aload_n hx hb dL_isSound_425 rfl (lv_at hl 6 rfl) ?_
                  refine lv_iload_n hx hb dL_isSound_426 rfl (lv_at hl 7 rfl) ?_
                  refine k_VF (As := [.int (nI th)]) (rest := []) (pre := []) (mid := [ob E X (F, u397_2)]) C0 (o_greatestDune l hfl E X (F, u397_2) (nI th) (by first | assumption | omega) (hth)) (cwV 1 hts gL_isSound_X6_greatestDune rfl rfl rfl (by decide +kernel) ⟨Nat.le_of_ble_eq_true rfl, Nat.le_of_ble_eq_true rfl⟩) hw rfl hZ (fun (u427_4 : oT) => [ob E X u427_4]) (fun _ => rfl) 0 6 rfl rfl rfl rfl hl.1 rfl (Nat.le_of_ble_eq_true rfl) dL_isSound_427 ⟨Nat.le_of_ble_eq_true rfl, Nat.le_of_ble_eq_true rfl⟩ (fun r u427_4 H locs hq99 hw => ?_)
                  obtain ⟨r427, rfl⟩ : ∃ z, z = r := ⟨_, rfl⟩
                  have h427 : r427 = gdN F.1 F.2.1 F.2.2.2.2.2.2.1 (nI th) ∧ u427_4.1 = F ∧ u427_4.2.2.2 = u397_2.2.2 := hq99
                  obtain ⟨z9, u427_4⟩ := u427_4
                  have e9 : F = z9 := h427.2.1.symm
                  subst e9
                  have hw : kW E AA sx (List.flatten [ob E X (F, u427_4)]) H locs := hw
                  refine W.eq (g2 := F0 mm 430 ls [.int r427]) rfl ?_
                  refine lv_iload hx hb dL_isSound_430 (lv_at hl 5 rfl) ?_
                  refine lv_icmp_gt (tgt := 439) hx hb dL_isSound_432 (by decide) (fun c432 => absurd c432 (by rw [h427.1, hie]; exact Int32.not_lt.mpr (gd_le hHe hBl))) (fun c432 => ?_)
                  refine lv_iconst (v := 1) hx hb dL_isSound_435 (by decide) ?_
                  refine lv_goto (tgt := 440) hx hb dL_isSound_436 (by decide) ?_
                  -- leaf 4
                  exact vx_ret <| k_zret C0 hr hlk hw (F, u427_4) (rfl) (⟨rfl, rfl, h427.2.2.trans (h397.2.2.trans hV)⟩) (rfl) (Nat.le_of_ble_eq_true rfl) (Nat.le_of_ble_eq_true rfl) dL_isSound_440
                · have c400 : ¬ (dnN F.1 F.2.1 F.2.2.2.2.2.2.1 (nI th)) ≤ 0 := fun h99 => c400 ((nI_leI (a := (dnN F.1 F.2.1 F.2.2.2.2.2.2.1 (nI th))) (b := 0) (by omega) (by omega)).mpr h99)
                  refine lv_iconst (v := 1) hx hb dL_isSound_403 (by decide) ?_
                  refine lv_goto (tgt := 408) hx hb dL_isSound_404 (by decide) ?_
                  refine lv_aload_n hx hb dL_isSound_408 rfl (lv_at hl 6 rfl) ?_
                  refine lv_iconst (v := 0) hx hb dL_isSound_409 (by decide) ?_
                  refine k_VF (As := [.int 0]) (rest := [.int 1]) (pre := []) (mid := [ob E X (F, u397_2)]) C0 (o_relief l hfl E X (F, u397_2) 0 (by first | assumption | omega) (by first | assumption | omega)) (cwV 1 hts gL_isSound_X6_relief rfl rfl rfl (by decide +kernel) ⟨Nat.le_of_ble_eq_true rfl, Nat.le_of_ble_eq_true rfl⟩) hw rfl hZ (fun _ => [ob E X (F, u397_2)]) (fun _ => rfl) 0 6 rfl rfl rfl rfl hl.1 rfl (Nat.le_of_ble_eq_true rfl) dL_isSound_410 ⟨Nat.le_of_ble_eq_true rfl, Nat.le_of_ble_eq_true rfl⟩ (fun r u H locs hq99 hw => ?_)
                  subst hq99
                  have hw : kW E AA sx (List.flatten [ob E X (F, u397_2)]) H locs := hw
                  refine W.eq (g2 := F0 mm 413 ls [.int (rlfN F.1 F.2.1 F.2.2.2.2.2.2.1 0), .int 1]) rfl ?_
                  refine W.eq (g2 := F0 mm 413 ls [.int (F.2.2.2.2.2.2.1 (hiC F.2.2.2.2.2.2.1 (F.1 * F.2.1))), .int 1]) (congrArg (fun z9 => F0 mm 413 ls [.int z9, .int 1]) (show (rlfN F.1 F.2.1 F.2.2.2.2.2.2.1 0 : Int32) = F.2.2.2.2.2.2.1 (hiC F.2.2.2.2.2.2.1 (F.1 * F.2.1)) from rlf_0 _ _ _)) ?_
                  refine lv_iload_n hx hb dL_isSound_413 rfl (lv_at hl 7 rfl) ?_
                  refine lv_icmp_lt (tgt := 421) hx hb dL_isSound_414 (by decide) (fun c414 => absurd c414 ((dn_pos hG).mp (by omega))) (fun c414 => ?_)
                  refine lv_iconst (v := 1) hx hb dL_isSound_417 (by decide) ?_
                  refine lv_goto (tgt := 422) hx hb dL_isSound_418 (by decide) ?_
                  refine lv_icmp_ne (tgt := 439) hx hb dL_isSound_422 (by decide) (fun c422 => absurd c422 (by decide)) (fun c422 => ?_)
                  refine lv_aload_n hx hb dL_isSound_425 rfl (lv_at hl 6 rfl) ?_
                  refine lv_iload_n hx hb dL_isSound_426 rfl (lv_at hl 7 rfl) ?_
                  refine k_VF (As := [.int (nI th)]) (rest := []) (pre := []) (mid := [ob E X (F, u397_2)]) C0 (o_greatestDune l hfl E X (F, u397_2) (nI th) (by first | assumption | omega) (hth)) (cwV 1 hts gL_isSound_X6_greatestDune rfl rfl rfl (by decide +kernel) ⟨Nat.le_of_ble_eq_true rfl, Nat.le_of_ble_eq_true rfl⟩) hw rfl hZ (fun (u427_5 : oT) => [ob E X u427_5]) (fun _ => rfl) 0 6 rfl rfl rfl rfl hl.1 rfl (Nat.le_of_ble_eq_true rfl) dL_isSound_427 ⟨Nat.le_of_ble_eq_true rfl, Nat.le_of_ble_eq_true rfl⟩ (fun r u427_5 H locs hq99 hw => ?_)
                  obtain ⟨r427, rfl⟩ : ∃ z, z = r := ⟨_, rfl⟩
                  have h427 : r427 = gdN F.1 F.2.1 F.2.2.2.2.2.2.1 (nI th) ∧ u427_5.1 = F ∧ u427_5.2.2.2 = u397_2.2.2 := hq99
                  obtain ⟨z9, u427_5⟩ := u427_5
                  have e9 : F = z9 := h427.2.1.symm
                  subst e9
                  have hw : kW E AA sx (List.flatten [ob E X (F, u427_5)]) H locs := hw
                  refine W.eq (g2 := F0 mm 430 ls [.int r427]) rfl ?_
                  refine lv_iload hx hb dL_isSound_430 (lv_at hl 5 rfl) ?_
                  refine lv_icmp_gt (tgt := 439) hx hb dL_isSound_432 (by decide) (fun c432 => absurd c432 (by rw [h427.1, hie]; exact Int32.not_lt.mpr (gd_le hHe hBl))) (fun c432 => ?_)
                  refine lv_iconst (v := 1) hx hb dL_isSound_435 (by decide) ?_
                  refine lv_goto (tgt := 440) hx hb dL_isSound_436 (by decide) ?_
                  -- leaf 5
                  exact vx_ret <| k_zret C0 hr hlk hw (F, u427_5) (rfl) (⟨rfl, rfl, h427.2.2.trans (h397.2.2.trans hV)⟩) (rfl) (Nat.le_of_ble_eq_true rfl) (Nat.le_of_ble_eq_true rfl) dL_isSound_440
            · have c92 : ¬ (F.1 * F.2.1) ≤ i := fun h99 => c92 ((nI_leI (a := (F.1 * F.2.1)) (b := i) (by omega) (by omega)).mpr h99)
              have hil : i < F.1 * F.2.1 := by omega
              obtain ⟨v9, hv9, ev9⟩ := hI_v hHe hil
              have hdo1 := hdo1 i
              have hdo2 := hdo2 i
              refine lv_aload_n hx hb dL_isSound_95 rfl (lv_at hl 4 rfl) ?_
              refine lv_iload hx hb dL_isSound_96 (lv_at hl 0 rfl) ?_
              refine lv_iconst (v := 0) hx hb dL_isSound_98 (by decide) ?_
              refine k_VF (As := [.int (nI i), .int 0]) (rest := []) (pre := []) (mid := [ob E X (F, V)]) C0 (o_cell l hfl E X (F, V) i 0 (by first | assumption | omega) (by first | assumption | omega) (by first | assumption | omega) (by first | assumption | omega)) (cwV 2 hts gL_isSound_X6_cell rfl rfl rfl (by decide +kernel) ⟨Nat.le_of_ble_eq_true rfl, Nat.le_of_ble_eq_true rfl⟩) hw rfl hZ (fun _ => [ob E X (F, V)]) (fun _ => rfl) 0 6 rfl rfl rfl rfl hl.1 rfl (Nat.le_of_ble_eq_true rfl) dL_isSound_99 ⟨Nat.le_of_ble_eq_true rfl, Nat.le_of_ble_eq_true rfl⟩ (fun r u H locs hq99 hw => ?_)
              subst hq99
              have hw : kW E AA sx (List.flatten [ob E X (F, V)]) H locs := hw
              refine W.eq (g2 := F0 mm 102 ls [.int (cvN F.1 F.2.1 F.2.2.1 F.2.2.2.2.2.2.1 F.2.2.2.2.2.2.2.1 F.2.2.2.2.2.2.2.2.1 F.2.2.2.2.2.2.2.2.2.1 F.2.2.2.2.2.2.2.2.2.2.1 i 0)]) rfl ?_
              refine W.eq (g2 := F0 mm 102 ls [.int (F.2.2.2.2.2.2.1 i)]) (congrArg (fun z9 => F0 mm 102 ls [.int z9]) (show (cvN F.1 F.2.1 F.2.2.1 F.2.2.2.2.2.2.1 F.2.2.2.2.2.2.2.1 F.2.2.2.2.2.2.2.2.1 F.2.2.2.2.2.2.2.2.2.1 F.2.2.2.2.2.2.2.2.2.2.1 i 0 : Int32) = F.2.2.2.2.2.2.1 i from rfl)) ?_
              refine lv_istore (lv' := [(7, .int (F.2.2.2.2.2.2.1 i)), (6, .int (nI i)), (5, .int (nI (barN F.2.2.2.2.2.2.1 i))), (4, .int (sumI F.2.2.2.2.2.2.1 i)), (3, .int 1), (0, .ref X.1.1), (1, .int (nI th))]) hx hb dL_isSound_102 hl (by decide) rfl (fun ls hl => ?_)
              refine lv_iload hx hb dL_isSound_104 (lv_at hl 3 rfl) ?_
              refine lv_iload hx hb dL_isSound_106 (lv_at hl 0 rfl) ?_
              refine lv_iadd hx hb dL_isSound_108 ?_
              refine W.eq (g2 := F0 mm 109 ls [.int (sumI F.2.2.2.2.2.2.1 (i + 1))]) (congrArg (fun z9 => F0 mm 109 ls [.int z9]) (show ((sumI F.2.2.2.2.2.2.1 i) + (F.2.2.2.2.2.2.1 i) : Int32) = sumI F.2.2.2.2.2.2.1 (i + 1) from rfl)) ?_
              refine lv_istore (lv' := [(4, .int (sumI F.2.2.2.2.2.2.1 (i + 1))), (7, .int (F.2.2.2.2.2.2.1 i)), (6, .int (nI i)), (5, .int (nI (barN F.2.2.2.2.2.2.1 i))), (3, .int 1), (0, .ref X.1.1), (1, .int (nI th))]) hx hb dL_isSound_109 hl (by decide) rfl (fun ls hl => ?_)
              refine lv_iload hx hb dL_isSound_111 (lv_at hl 3 rfl) ?_
              refine lv_iload hx hb dL_isSound_113 (lv_at hl 1 rfl) ?_
              refine lv_if_ne (tgt := 122) hx hb dL_isSound_115 (by decide) (fun c115 => ?_) (fun c115 => ?_)
              · have hb9 : nI (barN F.2.2.2.2.2.2.1 i) + 0 = nI (barN F.2.2.2.2.2.2.1 (i + 1)) := by rw [barN_s, if_neg c115]; exact Int32.add_zero _
                refine lv_iconst (v := 0) hx hb dL_isSound_122 (by decide) ?_
                refine lv_iadd hx hb dL_isSound_123 ?_
                refine W.eq (g2 := F0 mm 124 ls [.int (nI (barN F.2.2.2.2.2.2.1 (i + 1)))]) (congrArg (fun z9 => F0 mm 124 ls [.int z9]) (show ((nI (barN F.2.2.2.2.2.2.1 i)) + 0 : Int32) = nI (barN F.2.2.2.2.2.2.1 (i + 1)) from hb9)) ?_
                refine lv_istore (lv' := [(5, .int (nI (barN F.2.2.2.2.2.2.1 (i + 1)))), (4, .int (sumI F.2.2.2.2.2.2.1 (i + 1))), (7, .int (F.2.2.2.2.2.2.1 i)), (6, .int (nI i)), (3, .int 1), (0, .ref X.1.1), (1, .int (nI th))]) hx hb dL_isSound_124 hl (by decide) rfl (fun ls hl => ?_)
                refine lv_aload_n hx hb dL_isSound_126 rfl (lv_at hl 5 rfl) ?_
                refine lv_iload hx hb dL_isSound_127 (lv_at hl 3 rfl) ?_
                refine lv_iconst (v := 2) hx hb dL_isSound_129 (by decide) ?_
                refine k_VF (As := [.int (nI i), .int 2]) (rest := []) (pre := []) (mid := [ob E X (F, V)]) C0 (o_cell l hfl E X (F, V) i 2 (by first | assumption | omega) (by first | assumption | omega) (by first | assumption | omega) (by first | assumption | omega)) (cwV 2 hts gL_isSound_X6_cell rfl rfl rfl (by decide +kernel) ⟨Nat.le_of_ble_eq_true rfl, Nat.le_of_ble_eq_true rfl⟩) hw rfl hZ (fun _ => [ob E X (F, V)]) (fun _ => rfl) 0 6 rfl rfl rfl rfl hl.1 rfl (Nat.le_of_ble_eq_true rfl) dL_isSound_130 ⟨Nat.le_of_ble_eq_true rfl, Nat.le_of_ble_eq_true rfl⟩ (fun r u H locs hq99 hw => ?_)
                subst hq99
                have hw : kW E AA sx (List.flatten [ob E X (F, V)]) H locs := hw
                refine W.eq (g2 := F0 mm 133 ls [.int (cvN F.1 F.2.1 F.2.2.1 F.2.2.2.2.2.2.1 F.2.2.2.2.2.2.2.1 F.2.2.2.2.2.2.2.2.1 F.2.2.2.2.2.2.2.2.2.1 F.2.2.2.2.2.2.2.2.2.2.1 i 2)]) rfl ?_
                refine W.eq (g2 := F0 mm 133 ls [.int (F.2.2.2.2.2.2.2.2.2.1 i)]) (congrArg (fun z9 => F0 mm 133 ls [.int z9]) (show (cvN F.1 F.2.1 F.2.2.1 F.2.2.2.2.2.2.1 F.2.2.2.2.2.2.2.1 F.2.2.2.2.2.2.2.2.1 F.2.2.2.2.2.2.2.2.2.1 F.2.2.2.2.2.2.2.2.2.2.1 i 2 : Int32) = F.2.2.2.2.2.2.2.2.2.1 i from rfl)) ?_
                refine lv_if_le (tgt := 140) hx hb dL_isSound_133 (by decide) (fun c133 => ?_) (fun c133 => ?_)
                · have hq9 := fn_no hFn c133
                  refine lv_iconst (v := 0) hx hb dL_isSound_140 (by decide) ?_
                  refine lv_istore (lv' := [(8, .int 0), (5, .int (nI (barN F.2.2.2.2.2.2.1 (i + 1)))), (4, .int (sumI F.2.2.2.2.2.2.1 (i + 1))), (7, .int (F.2.2.2.2.2.2.1 i)), (6, .int (nI i)), (3, .int 1), (0, .ref X.1.1), (1, .int (nI th))]) hx hb dL_isSound_141 hl (by decide) rfl (fun ls hl => ?_)
                  refine lv_iload_n hx hb dL_isSound_143 rfl (lv_at hl 5 rfl) ?_
                  refine lv_if_eq (tgt := 251) hx hb dL_isSound_144 (by decide) (fun c144 => absurd c144 (by decide)) (fun c144 => ?_)
                  refine lv_iload hx hb dL_isSound_147 (lv_at hl 3 rfl) ?_
                  refine lv_if_lt (tgt := 251) hx hb dL_isSound_149 (by decide) (fun c149 => absurd c149 (by rw [ev9]; exact nI_pos (by omega))) (fun c149 => ?_)
                  refine lv_iload hx hb dL_isSound_152 (lv_at hl 3 rfl) ?_
                  refine lv_aload_n hx hb dL_isSound_154 rfl (lv_at hl 6 rfl) ?_
                  refine lv_iconst (v := 0) hx hb dL_isSound_155 (by decide) ?_
                  refine k_VF (As := [.int 0]) (rest := [.int (F.2.2.2.2.2.2.1 i)]) (pre := []) (mid := [ob E X (F, V)]) C0 (o_relief l hfl E X (F, V) 0 (by first | assumption | omega) (by first | assumption | omega)) (cwV 1 hts gL_isSound_X6_relief rfl rfl rfl (by decide +kernel) ⟨Nat.le_of_ble_eq_true rfl, Nat.le_of_ble_eq_true rfl⟩) hw rfl hZ (fun _ => [ob E X (F, V)]) (fun _ => rfl) 0 6 rfl rfl rfl rfl hl.1 rfl (Nat.le_of_ble_eq_true rfl) dL_isSound_156 ⟨Nat.le_of_ble_eq_true rfl, Nat.le_of_ble_eq_true rfl⟩ (fun r u H locs hq99 hw => ?_)
                  subst hq99
                  have hw : kW E AA sx (List.flatten [ob E X (F, V)]) H locs := hw
                  refine W.eq (g2 := F0 mm 159 ls [.int (rlfN F.1 F.2.1 F.2.2.2.2.2.2.1 0), .int (F.2.2.2.2.2.2.1 i)]) rfl ?_
                  refine lv_icmp_gt (tgt := 251) hx hb dL_isSound_159 (by decide) (fun c159 => absurd c159 (by rw [rlf_0]; exact Int32.not_lt.mpr (hi_max (f := F.2.2.2.2.2.2.1) (F.1 * F.2.1) i (by omega)))) (fun c159 => ?_)
                  refine lv_aload_n hx hb dL_isSound_162 rfl (lv_at hl 6 rfl) ?_
                  refine lv_iload hx hb dL_isSound_163 (lv_at hl 4 rfl) ?_
                  refine lv_iconst (v := 3) hx hb dL_isSound_165 (by decide) ?_
                  refine k_VF (As := [.int (nI i), .int 3]) (rest := []) (pre := []) (mid := [ob E X (F, V)]) C0 (o_cell l hfl E X (F, V) i 3 (by first | assumption | omega) (by first | assumption | omega) (by first | assumption | omega) (by first | assumption | omega)) (cwV 2 hts gL_isSound_X6_cell rfl rfl rfl (by decide +kernel) ⟨Nat.le_of_ble_eq_true rfl, Nat.le_of_ble_eq_true rfl⟩) hw rfl hZ (fun _ => [ob E X (F, V)]) (fun _ => rfl) 0 6 rfl rfl rfl rfl hl.1 rfl (Nat.le_of_ble_eq_true rfl) dL_isSound_166 ⟨Nat.le_of_ble_eq_true rfl, Nat.le_of_ble_eq_true rfl⟩ (fun r u H locs hq99 hw => ?_)
                  subst hq99
                  have hw : kW E AA sx (List.flatten [ob E X (F, V)]) H locs := hw
                  refine W.eq (g2 := F0 mm 169 ls [.int (cvN F.1 F.2.1 F.2.2.1 F.2.2.2.2.2.2.1 F.2.2.2.2.2.2.2.1 F.2.2.2.2.2.2.2.2.1 F.2.2.2.2.2.2.2.2.2.1 F.2.2.2.2.2.2.2.2.2.2.1 i 3)]) rfl ?_
                  refine W.eq (g2 := F0 mm 169 ls [.int (trpN F.2.2.2.2.2.2.2.2.2.1 F.2.2.2.2.2.2.2.2.2.2.1 i)]) (congrArg (fun z9 => F0 mm 169 ls [.int z9]) (show (cvN F.1 F.2.1 F.2.2.1 F.2.2.2.2.2.2.1 F.2.2.2.2.2.2.2.1 F.2.2.2.2.2.2.2.2.1 F.2.2.2.2.2.2.2.2.2.1 F.2.2.2.2.2.2.2.2.2.2.1 i 3 : Int32) = trpN F.2.2.2.2.2.2.2.2.2.1 F.2.2.2.2.2.2.2.2.2.2.1 i from rfl)) ?_
                  refine lv_aload_n hx hb dL_isSound_169 rfl (lv_at hl 6 rfl) ?_
                  refine lv_iload hx hb dL_isSound_170 (lv_at hl 4 rfl) ?_
                  refine lv_iconst (v := 2) hx hb dL_isSound_172 (by decide) ?_
                  refine k_VF (As := [.int (nI i), .int 2]) (rest := [.int (trpN F.2.2.2.2.2.2.2.2.2.1 F.2.2.2.2.2.2.2.2.2.2.1 i)]) (pre := []) (mid := [ob E X (F, V)]) C0 (o_cell l hfl E X (F, V) i 2 (by first | assumption | omega) (by first | assumption | omega) (by first | assumption | omega) (by first | assumption | omega)) (cwV 2 hts gL_isSound_X6_cell rfl rfl rfl (by decide +kernel) ⟨Nat.le_of_ble_eq_true rfl, Nat.le_of_ble_eq_true rfl⟩) hw rfl hZ (fun _ => [ob E X (F, V)]) (fun _ => rfl) 0 6 rfl rfl rfl rfl hl.1 rfl (Nat.le_of_ble_eq_true rfl) dL_isSound_173 ⟨Nat.le_of_ble_eq_true rfl, Nat.le_of_ble_eq_true rfl⟩ (fun r u H locs hq99 hw => ?_)
                  subst hq99
                  have hw : kW E AA sx (List.flatten [ob E X (F, V)]) H locs := hw
                  refine W.eq (g2 := F0 mm 176 ls [.int (cvN F.1 F.2.1 F.2.2.1 F.2.2.2.2.2.2.1 F.2.2.2.2.2.2.2.1 F.2.2.2.2.2.2.2.2.1 F.2.2.2.2.2.2.2.2.2.1 F.2.2.2.2.2.2.2.2.2.2.1 i 2), .int (trpN F.2.2.2.2.2.2.2.2.2.1 F.2.2.2.2.2.2.2.2.2.2.1 i)]) rfl ?_
                  refine W.eq (g2 := F0 mm 176 ls [.int (F.2.2.2.2.2.2.2.2.2.1 i), .int (trpN F.2.2.2.2.2.2.2.2.2.1 F.2.2.2.2.2.2.2.2.2.2.1 i)]) (congrArg (fun z9 => F0 mm 176 ls [.int z9, .int (trpN F.2.2.2.2.2.2.2.2.2.1 F.2.2.2.2.2.2.2.2.2.2.1 i)]) (show (cvN F.1 F.2.1 F.2.2.1 F.2.2.2.2.2.2.1 F.2.2.2.2.2.2.2.1 F.2.2.2.2.2.2.2.2.1 F.2.2.2.2.2.2.2.2.2.1 F.2.2.2.2.2.2.2.2.2.2.1 i 2 : Int32) = F.2.2.2.2.2.2.2.2.2.1 i from rfl)) ?_
                  refine lv_icmp_gt (tgt := 251) hx hb dL_isSound_176 (by decide) (fun c176 => absurd c176 (Int32.not_lt.mpr hq9.1)) (fun c176 => ?_)
                  refine lv_iload hx hb dL_isSound_179 (lv_at hl 0 rfl) ?_
                  refine lv_aload_n hx hb dL_isSound_181 rfl (lv_at hl 6 rfl) ?_
                  refine lv_iload hx hb dL_isSound_182 (lv_at hl 4 rfl) ?_
                  refine lv_iconst (v := 3) hx hb dL_isSound_184 (by decide) ?_
                  refine k_VF (As := [.int (nI i), .int 3]) (rest := [.int 0]) (pre := []) (mid := [ob E X (F, V)]) C0 (o_cell l hfl E X (F, V) i 3 (by first | assumption | omega) (by first | assumption | omega) (by first | assumption | omega) (by first | assumption | omega)) (cwV 2 hts gL_isSound_X6_cell rfl rfl rfl (by decide +kernel) ⟨Nat.le_of_ble_eq_true rfl, Nat.le_of_ble_eq_true rfl⟩) hw rfl hZ (fun _ => [ob E X (F, V)]) (fun _ => rfl) 0 6 rfl rfl rfl rfl hl.1 rfl (Nat.le_of_ble_eq_true rfl) dL_isSound_185 ⟨Nat.le_of_ble_eq_true rfl, Nat.le_of_ble_eq_true rfl⟩ (fun r u H locs hq99 hw => ?_)
                  subst hq99
                  have hw : kW E AA sx (List.flatten [ob E X (F, V)]) H locs := hw
                  refine W.eq (g2 := F0 mm 188 ls [.int (cvN F.1 F.2.1 F.2.2.1 F.2.2.2.2.2.2.1 F.2.2.2.2.2.2.2.1 F.2.2.2.2.2.2.2.2.1 F.2.2.2.2.2.2.2.2.2.1 F.2.2.2.2.2.2.2.2.2.2.1 i 3), .int 0]) rfl ?_
                  refine W.eq (g2 := F0 mm 188 ls [.int (trpN F.2.2.2.2.2.2.2.2.2.1 F.2.2.2.2.2.2.2.2.2.2.1 i), .int 0]) (congrArg (fun z9 => F0 mm 188 ls [.int z9, .int 0]) (show (cvN F.1 F.2.1 F.2.2.1 F.2.2.2.2.2.2.1 F.2.2.2.2.2.2.2.1 F.2.2.2.2.2.2.2.2.1 F.2.2.2.2.2.2.2.2.2.1 F.2.2.2.2.2.2.2.2.2.2.1 i 3 : Int32) = trpN F.2.2.2.2.2.2.2.2.2.1 F.2.2.2.2.2.2.2.2.2.2.1 i from rfl)) ?_
                  refine lv_if_lt (tgt := 195) hx hb dL_isSound_188 (by decide) (fun c188 => ?_) (fun c188 => absurd (hq9.2) c188)
                  refine lv_iconst (v := 0) hx hb dL_isSound_195 (by decide) ?_
                  refine lv_icmp_ne (tgt := 251) hx hb dL_isSound_196 (by decide) (fun c196 => absurd c196 (by decide)) (fun c196 => ?_)
                  refine lv_aload_n hx hb dL_isSound_199 rfl (lv_at hl 6 rfl) ?_
                  refine lv_iload hx hb dL_isSound_200 (lv_at hl 4 rfl) ?_
                  refine lv_iload_n hx hb dL_isSound_202 rfl (lv_at hl 7 rfl) ?_
                  refine k_VF (As := [.int (nI i), .int (nI th)]) (rest := []) (pre := []) (mid := [ob E X (F, V)]) C0 (o_duneOf l hfl E X (F, V) i (nI th) (by first | assumption | omega) (by first | assumption | omega) (hth)) (cwV 2 hts gL_isSound_X6_duneOf rfl rfl rfl (by decide +kernel) ⟨Nat.le_of_ble_eq_true rfl, Nat.le_of_ble_eq_true rfl⟩) hw rfl hZ (fun (u203 : oT) => [ob E X u203]) (fun _ => rfl) 0 6 rfl rfl rfl rfl hl.1 rfl (Nat.le_of_ble_eq_true rfl) dL_isSound_203 ⟨Nat.le_of_ble_eq_true rfl, Nat.le_of_ble_eq_true rfl⟩ (fun r u203 H locs hq99 hw => ?_)
                  obtain ⟨r203, rfl⟩ : ∃ z, z = r := ⟨_, rfl⟩
                  have h203 : r203 = nI (doN F.1 F.2.1 F.2.2.2.2.2.2.1 (nI th) i) ∧ u203.1 = F ∧ u203.2.2.2 = V.2.2 := hq99
                  obtain ⟨z9, u203⟩ := u203
                  have e9 : F = z9 := h203.2.1.symm
                  subst e9
                  have hw : kW E AA sx (List.flatten [ob E X (F, u203)]) H locs := hw
                  refine W.eq (g2 := F0 mm 206 ls [.int r203]) rfl ?_
                  refine W.eq (g2 := F0 mm 206 ls [.int (nI (doN F.1 F.2.1 F.2.2.2.2.2.2.1 (nI th) i))]) (congrArg (fun z9 => F0 mm 206 ls [.int z9]) (show (r203 : Int32) = nI (doN F.1 F.2.1 F.2.2.2.2.2.2.1 (nI th) i) from h203.1)) ?_
                  refine lv_if_le (tgt := 213) hx hb dL_isSound_206 (by decide) (fun c206 => ?_) (fun c206 => ?_)
                  · have c206 : (doN F.1 F.2.1 F.2.2.2.2.2.2.1 (nI th) i) ≤ 0 := (nI_leI (a := (doN F.1 F.2.1 F.2.2.2.2.2.2.1 (nI th) i)) (b := 0) (by omega) (by omega)).mp c206
                    refine lv_iconst (v := 0) hx hb dL_isSound_213 (by decide) ?_
                    refine lv_iload hx hb dL_isSound_214 (lv_at hl 3 rfl) ?_
                    refine lv_iload_n hx hb dL_isSound_216 rfl (lv_at hl 7 rfl) ?_
                    refine lv_icmp_lt (tgt := 224) hx hb dL_isSound_217 (by decide) (fun c217 => ?_) (fun c217 => False.elim (absurd ((do_pos hG hil).mpr c217) (by omega)))
                    refine lv_iconst (v := 0) hx hb dL_isSound_224 (by decide) ?_
                    refine lv_icmp_ne (tgt := 251) hx hb dL_isSound_225 (by decide) (fun c225 => absurd c225 (by decide)) (fun c225 => ?_)
                    refine lv_aload_n hx hb dL_isSound_228 rfl (lv_at hl 6 rfl) ?_
                    refine lv_iload hx hb dL_isSound_229 (lv_at hl 4 rfl) ?_
                    refine lv_iload_n hx hb dL_isSound_231 rfl (lv_at hl 7 rfl) ?_
                    refine k_VF (As := [.int (nI i), .int (nI th)]) (rest := []) (pre := []) (mid := [ob E X (F, u203)]) C0 (o_duneOf l hfl E X (F, u203) i (nI th) (by first | assumption | omega) (by first | assumption | omega) (hth)) (cwV 2 hts gL_isSound_X6_duneOf rfl rfl rfl (by decide +kernel) ⟨Nat.le_of_ble_eq_true rfl, Nat.le_of_ble_eq_true rfl⟩) hw rfl hZ (fun (u232 : oT) => [ob E X u232]) (fun _ => rfl) 0 6 rfl rfl rfl rfl hl.1 rfl (Nat.le_of_ble_eq_true rfl) dL_isSound_232 ⟨Nat.le_of_ble_eq_true rfl, Nat.le_of_ble_eq_true rfl⟩ (fun r u232 H locs hq99 hw => ?_)
                    obtain ⟨r232, rfl⟩ : ∃ z, z = r := ⟨_, rfl⟩
                    have h232 : r232 = nI (doN F.1 F.2.1 F.2.2.2.2.2.2.1 (nI th) i) ∧ u232.1 = F ∧ u232.2.2.2 = u203.2.2 := hq99
                    obtain ⟨z9, u232⟩ := u232
                    have e9 : F = z9 := h232.2.1.symm
                    subst e9
                    have hw : kW E AA sx (List.flatten [ob E X (F, u232)]) H locs := hw
                    refine W.eq (g2 := F0 mm 235 ls [.int r232]) rfl ?_
                    refine W.eq (g2 := F0 mm 235 ls [.int (nI (doN F.1 F.2.1 F.2.2.2.2.2.2.1 (nI th) i))]) (congrArg (fun z9 => F0 mm 235 ls [.int z9]) (show (r232 : Int32) = nI (doN F.1 F.2.1 F.2.2.2.2.2.2.1 (nI th) i) from h232.1)) ?_
                    refine lv_aload_n hx hb dL_isSound_235 rfl (lv_at hl 6 rfl) ?_
                    refine lv_iload hx hb dL_isSound_236 (lv_at hl 4 rfl) ?_
                    refine lv_iload_n hx hb dL_isSound_238 rfl (lv_at hl 7 rfl) ?_
                    refine lv_iconst (v := 1) hx hb dL_isSound_239 (by decide) ?_
                    refine lv_iadd hx hb dL_isSound_240 ?_
                    refine W.eq (g2 := F0 mm 241 ls [.int (nI (th + 1)), .int (nI i), .ref X.1.1, .int (nI (doN F.1 F.2.1 F.2.2.2.2.2.2.1 (nI th) i))]) (congrArg (fun z9 => F0 mm 241 ls [.int z9, .int (nI i), .ref X.1.1, .int (nI (doN F.1 F.2.1 F.2.2.2.2.2.2.1 (nI th) i))]) (show ((nI th) + 1 : Int32) = nI (th + 1) from nI_1 _)) ?_
                    refine k_VF (As := [.int (nI i), .int (nI (th + 1))]) (rest := [.int (nI (doN F.1 F.2.1 F.2.2.2.2.2.2.1 (nI th) i))]) (pre := []) (mid := [ob E X (F, u232)]) C0 (o_duneOf l hfl E X (F, u232) i (nI (th + 1)) (by first | assumption | omega) (by first | assumption | omega) (hth2)) (cwV 2 hts gL_isSound_X6_duneOf rfl rfl rfl (by decide +kernel) ⟨Nat.le_of_ble_eq_true rfl, Nat.le_of_ble_eq_true rfl⟩) hw rfl hZ (fun (u241 : oT) => [ob E X u241]) (fun _ => rfl) 0 6 rfl rfl rfl rfl hl.1 rfl (Nat.le_of_ble_eq_true rfl) dL_isSound_241 ⟨Nat.le_of_ble_eq_true rfl, Nat.le_of_ble_eq_true rfl⟩ (fun r u241 H locs hq99 hw => ?_)
                    obtain ⟨r241, rfl⟩ : ∃ z, z = r := ⟨_, rfl⟩
                    have h241 : r241 = nI (doN F.1 F.2.1 F.2.2.2.2.2.2.1 (nI (th + 1)) i) ∧ u241.1 = F ∧ u241.2.2.2 = u232.2.2 := hq99
                    obtain ⟨z9, u241⟩ := u241
                    have e9 : F = z9 := h241.2.1.symm
                    subst e9
                    have hw : kW E AA sx (List.flatten [ob E X (F, u241)]) H locs := hw
                    refine W.eq (g2 := F0 mm 244 ls [.int r241, .int (nI (doN F.1 F.2.1 F.2.2.2.2.2.2.1 (nI th) i))]) rfl ?_
                    refine W.eq (g2 := F0 mm 244 ls [.int (nI (doN F.1 F.2.1 F.2.2.2.2.2.2.1 (nI (th + 1)) i)), .int (nI (doN F.1 F.2.1 F.2.2.2.2.2.2.1 (nI th) i))]) (congrArg (fun z9 => F0 mm 244 ls [.int z9, .int (nI (doN F.1 F.2.1 F.2.2.2.2.2.2.1 (nI th) i))]) (show (r241 : Int32) = nI (doN F.1 F.2.1 F.2.2.2.2.2.2.1 (nI (th + 1)) i) from h241.1)) ?_
                    refine lv_icmp_lt (tgt := 251) hx hb dL_isSound_244 (by decide) (fun c244 => absurd c244 (nI_nlt (do_mono hG hmo) (Nat.lt_of_le_of_lt (do_le hG) (by decide)))) (fun c244 => ?_)
                    have c244 : ¬ (doN F.1 F.2.1 F.2.2.2.2.2.2.1 (nI th) i) < (doN F.1 F.2.1 F.2.2.2.2.2.2.1 (nI (th + 1)) i) := fun h99 => c244 ((nI_ltI (a := (doN F.1 F.2.1 F.2.2.2.2.2.2.1 (nI th) i)) (b := (doN F.1 F.2.1 F.2.2.2.2.2.2.1 (nI (th + 1)) i)) (by omega) (by omega)).mpr h99)
                    refine lv_iconst (v := 1) hx hb dL_isSound_247 (by decide) ?_
                    refine lv_goto (tgt := 252) hx hb dL_isSound_248 (by decide) ?_
                    refine lv_istore_n (lv' := [(3, .int 1), (8, .int 0), (5, .int (nI (barN F.2.2.2.2.2.2.1 (i + 1)))), (4, .int (sumI F.2.2.2.2.2.2.1 (i + 1))), (7, .int (F.2.2.2.2.2.2.1 i)), (6, .int (nI i)), (0, .ref X.1.1), (1, .int (nI th))]) hx hb dL_isSound_252 rfl hl (by decide) rfl (fun ls hl => ?_)
                    refine lv_iinc (v := nI (i + 1)) (lv' := [(6, .int (nI (i + 1))), (3, .int 1), (8, .int 0), (5, .int (nI (barN F.2.2.2.2.2.2.1 (i + 1)))), (4, .int (sumI F.2.2.2.2.2.2.1 (i + 1))), (7, .int (F.2.2.2.2.2.2.1 i)), (0, .ref X.1.1), (1, .int (nI th))]) hx hb dL_isSound_253 hl (k := 5) rfl (nI_1 _) (by decide) rfl (fun ls hl => ?_)
                    refine lv_goto (tgt := 79) hx hb dL_isSound_256 (by decide) ?_
                    -- back 0
                    exact ih79 (i + 1) u241 (by first | assumption | omega) (h241.2.2.trans (h232.2.2.trans (h203.2.2.trans hV))) (by omega) H _ ls (lv_sub hl [0, 3, 4, 1, 6, 7] rfl) hw
                  · have c206 : ¬ (doN F.1 F.2.1 F.2.2.2.2.2.2.1 (nI th) i) ≤ 0 := fun h99 => c206 ((nI_leI (a := (doN F.1 F.2.1 F.2.2.2.2.2.2.1 (nI th) i)) (b := 0) (by omega) (by omega)).mpr h99)
                    refine lv_iconst (v := 1) hx hb dL_isSound_209 (by decide) ?_
                    refine lv_goto (tgt := 214) hx hb dL_isSound_210 (by decide) ?_
                    refine lv_iload hx hb dL_isSound_214 (lv_at hl 3 rfl) ?_
                    refine lv_iload_n hx hb dL_isSound_216 rfl (lv_at hl 7 rfl) ?_
                    refine lv_icmp_lt (tgt := 224) hx hb dL_isSound_217 (by decide) (fun c217 => absurd c217 ((do_pos hG hil).mp (by omega))) (fun c217 => ?_)
                    refine lv_iconst (v := 1) hx hb dL_isSound_220 (by decide) ?_
                    refine lv_goto (tgt := 225) hx hb dL_isSound_221 (by decide) ?_
                    refine lv_icmp_ne (tgt := 251) hx hb dL_isSound_225 (by decide) (fun c225 => absurd c225 (by decide)) (fun c225 => ?_)
                    refine lv_aload_n hx hb dL_isSound_228 rfl (lv_at hl 6 rfl) ?_
                    refine lv_iload hx hb dL_isSound_229 (lv_at hl 4 rfl) ?_
                    refine lv_iload_n hx hb dL_isSound_231 rfl (lv_at hl 7 rfl) ?_
                    refine k_VF (As := [.int (nI i), .int (nI th)]) (rest := []) (pre := []) (mid := [ob E X (F, u203)]) C0 (o_duneOf l hfl E X (F, u203) i (nI th) (by first | assumption | omega) (by first | assumption | omega) (hth)) (cwV 2 hts gL_isSound_X6_duneOf rfl rfl rfl (by decide +kernel) ⟨Nat.le_of_ble_eq_true rfl, Nat.le_of_ble_eq_true rfl⟩) hw rfl hZ (fun (u232_1 : oT) => [ob E X u232_1]) (fun _ => rfl) 0 6 rfl rfl rfl rfl hl.1 rfl (Nat.le_of_ble_eq_true rfl) dL_isSound_232 ⟨Nat.le_of_ble_eq_true rfl, Nat.le_of_ble_eq_true rfl⟩ (fun r u232_1 H locs hq99 hw => ?_)
                    obtain ⟨r232, rfl⟩ : ∃ z, z = r := ⟨_, rfl⟩
                    have h232 : r232 = nI (doN F.1 F.2.1 F.2.2.2.2.2.2.1 (nI th) i) ∧ u232_1.1 = F ∧ u232_1.2.2.2 = u203.2.2 := hq99
                    obtain ⟨z9, u232_1⟩ := u232_1
                    have e9 : F = z9 := h232.2.1.symm
                    subst e9
                    have hw : kW E AA sx (List.flatten [ob E X (F, u232_1)]) H locs := hw
                    refine W.eq (g2 := F0 mm 235 ls [.int r232]) rfl ?_
                    refine W.eq (g2 := F0 mm 235 ls [.int (nI (doN F.1 F.2.1 F.2.2.2.2.2.2.1 (nI th) i))]) (congrArg (fun z9 => F0 mm 235 ls [.int z9]) (show (r232 : Int32) = nI (doN F.1 F.2.1 F.2.2.2.2.2.2.1 (nI th) i) from h232.1)) ?_
                    refine lv_aload_n hx hb dL_isSound_235 rfl (lv_at hl 6 rfl) ?_
                    refine lv_iload hx hb dL_isSound_236 (lv_at hl 4 rfl) ?_
                    refine lv_iload_n hx hb dL_isSound_238 rfl (lv_at hl 7 rfl) ?_
                    refine lv_iconst (v := 1) hx hb dL_isSound_239 (by decide) ?_
                    refine lv_iadd hx hb dL_isSound_240 ?_
                    refine W.eq (g2 := F0 mm 241 ls [.int (nI (th + 1)), .int (nI i), .ref X.1.1, .int (nI (doN F.1 F.2.1 F.2.2.2.2.2.2.1 (nI th) i))]) (congrArg (fun z9 => F0 mm 241 ls [.int z9, .int (nI i), .ref X.1.1, .int (nI (doN F.1 F.2.1 F.2.2.2.2.2.2.1 (nI th) i))]) (show ((nI th) + 1 : Int32) = nI (th + 1) from nI_1 _)) ?_
                    refine k_VF (As := [.int (nI i), .int (nI (th + 1))]) (rest := [.int (nI (doN F.1 F.2.1 F.2.2.2.2.2.2.1 (nI th) i))]) (pre := []) (mid := [ob E X (F, u232_1)]) C0 (o_duneOf l hfl E X (F, u232_1) i (nI (th + 1)) (by first | assumption | omega) (by first | assumption | omega) (hth2)) (cwV 2 hts gL_isSound_X6_duneOf rfl rfl rfl (by decide +kernel) ⟨Nat.le_of_ble_eq_true rfl, Nat.le_of_ble_eq_true rfl⟩) hw rfl hZ (fun (u241_1 : oT) => [ob E X u241_1]) (fun _ => rfl) 0 6 rfl rfl rfl rfl hl.1 rfl (Nat.le_of_ble_eq_true rfl) dL_isSound_241 ⟨Nat.le_of_ble_eq_true rfl, Nat.le_of_ble_eq_true rfl⟩ (fun r u241_1 H locs hq99 hw => ?_)
                    obtain ⟨r241, rfl⟩ : ∃ z, z = r := ⟨_, rfl⟩
                    have h241 : r241 = nI (doN F.1 F.2.1 F.2.2.2.2.2.2.1 (nI (th + 1)) i) ∧ u241_1.1 = F ∧ u241_1.2.2.2 = u232_1.2.2 := hq99
                    obtain ⟨z9, u241_1⟩ := u241_1
                    have e9 : F = z9 := h241.2.1.symm
                    subst e9
                    have hw : kW E AA sx (List.flatten [ob E X (F, u241_1)]) H locs := hw
                    refine W.eq (g2 := F0 mm 244 ls [.int r241, .int (nI (doN F.1 F.2.1 F.2.2.2.2.2.2.1 (nI th) i))]) rfl ?_
                    refine W.eq (g2 := F0 mm 244 ls [.int (nI (doN F.1 F.2.1 F.2.2.2.2.2.2.1 (nI (th + 1)) i)), .int (nI (doN F.1 F.2.1 F.2.2.2.2.2.2.1 (nI th) i))]) (congrArg (fun z9 => F0 mm 244 ls [.int z9, .int (nI (doN F.1 F.2.1 F.2.2.2.2.2.2.1 (nI th) i))]) (show (r241 : Int32) = nI (doN F.1 F.2.1 F.2.2.2.2.2.2.1 (nI (th + 1)) i) from h241.1)) ?_
                    refine lv_icmp_lt (tgt := 251) hx hb dL_isSound_244 (by decide) (fun c244 => absurd c244 (nI_nlt (do_mono hG hmo) (Nat.lt_of_le_of_lt (do_le hG) (by decide)))) (fun c244 => ?_)
                    have c244 : ¬ (doN F.1 F.2.1 F.2.2.2.2.2.2.1 (nI th) i) < (doN F.1 F.2.1 F.2.2.2.2.2.2.1 (nI (th + 1)) i) := fun h99 => c244 ((nI_ltI (a := (doN F.1 F.2.1 F.2.2.2.2.2.2.1 (nI th) i)) (b := (doN F.1 F.2.1 F.2.2.2.2.2.2.1 (nI (th + 1)) i)) (by omega) (by omega)).mpr h99)
                    refine lv_iconst (v := 1) hx hb dL_isSound_247 (by decide) ?_
                    refine lv_goto (tgt := 252) hx hb dL_isSound_248 (by decide) ?_
                    refine lv_istore_n (lv' := [(3, .int 1), (8, .int 0), (5, .int (nI (barN F.2.2.2.2.2.2.1 (i + 1)))), (4, .int (sumI F.2.2.2.2.2.2.1 (i + 1))), (7, .int (F.2.2.2.2.2.2.1 i)), (6, .int (nI i)), (0, .ref X.1.1), (1, .int (nI th))]) hx hb dL_isSound_252 rfl hl (by decide) rfl (fun ls hl => ?_)
                    refine lv_iinc (v := nI (i + 1)) (lv' := [(6, .int (nI (i + 1))), (3, .int 1), (8, .int 0), (5, .int (nI (barN F.2.2.2.2.2.2.1 (i + 1)))), (4, .int (sumI F.2.2.2.2.2.2.1 (i + 1))), (7, .int (F.2.2.2.2.2.2.1 i)), (0, .ref X.1.1), (1, .int (nI th))]) hx hb dL_isSound_253 hl (k := 5) rfl (nI_1 _) (by decide) rfl (fun ls hl => ?_)
                    refine lv_goto (tgt := 79) hx hb dL_isSound_256 (by decide) ?_
                    -- back 1
                    exact ih79 (i + 1) u241_1 (by first | assumption | omega) (h241.2.2.trans (h232.2.2.trans (h203.2.2.trans hV))) (by omega) H _ ls (lv_sub hl [0, 3, 4, 1, 6, 7] rfl) hw
                · have hq9 := fn_yes hFn c133
                  refine lv_iconst (v := 1) hx hb dL_isSound_136 (by decide) ?_
                  refine lv_goto (tgt := 141) hx hb dL_isSound_137 (by decide) ?_
                  refine lv_istore (lv' := [(8, .int 1), (5, .int (nI (barN F.2.2.2.2.2.2.1 (i + 1)))), (4, .int (sumI F.2.2.2.2.2.2.1 (i + 1))), (7, .int (F.2.2.2.2.2.2.1 i)), (6, .int (nI i)), (3, .int 1), (0, .ref X.1.1), (1, .int (nI th))]) hx hb dL_isSound_141 hl (by decide) rfl (fun ls hl => ?_)
                  refine lv_iload_n hx hb dL_isSound_143 rfl (lv_at hl 5 rfl) ?_
                  refine lv_if_eq (tgt := 251) hx hb dL_isSound_144 (by decide) (fun c144 => absurd c144 (by decide)) (fun c144 => ?_)
                  refine lv_iload hx hb dL_isSound_147 (lv_at hl 3 rfl) ?_
                  refine lv_if_lt (tgt := 251) hx hb dL_isSound_149 (by decide) (fun c149 => absurd c149 (by rw [ev9]; exact nI_pos (by omega))) (fun c149 => ?_)
                  refine lv_iload hx hb dL_isSound_152 (lv_at hl 3 rfl) ?_
                  refine lv_aload_n hx hb dL_isSound_154 rfl (lv_at hl 6 rfl) ?_
                  refine lv_iconst (v := 0) hx hb dL_isSound_155 (by decide) ?_
                  refine k_VF (As := [.int 0]) (rest := [.int (F.2.2.2.2.2.2.1 i)]) (pre := []) (mid := [ob E X (F, V)]) C0 (o_relief l hfl E X (F, V) 0 (by first | assumption | omega) (by first | assumption | omega)) (cwV 1 hts gL_isSound_X6_relief rfl rfl rfl (by decide +kernel) ⟨Nat.le_of_ble_eq_true rfl, Nat.le_of_ble_eq_true rfl⟩) hw rfl hZ (fun _ => [ob E X (F, V)]) (fun _ => rfl) 0 6 rfl rfl rfl rfl hl.1 rfl (Nat.le_of_ble_eq_true rfl) dL_isSound_156 ⟨Nat.le_of_ble_eq_true rfl, Nat.le_of_ble_eq_true rfl⟩ (fun r u H locs hq99 hw => ?_)
                  subst hq99
                  have hw : kW E AA sx (List.flatten [ob E X (F, V)]) H locs := hw
                  refine W.eq (g2 := F0 mm 159 ls [.int (rlfN F.1 F.2.1 F.2.2.2.2.2.2.1 0), .int (F.2.2.2.2.2.2.1 i)]) rfl ?_
                  refine lv_icmp_gt (tgt := 251) hx hb dL_isSound_159 (by decide) (fun c159 => absurd c159 (by rw [rlf_0]; exact Int32.not_lt.mpr (hi_max (f := F.2.2.2.2.2.2.1) (F.1 * F.2.1) i (by omega)))) (fun c159 => ?_)
                  refine lv_aload_n hx hb dL_isSound_162 rfl (lv_at hl 6 rfl) ?_
                  refine lv_iload hx hb dL_isSound_163 (lv_at hl 4 rfl) ?_
                  refine lv_iconst (v := 3) hx hb dL_isSound_165 (by decide) ?_
                  refine k_VF (As := [.int (nI i), .int 3]) (rest := []) (pre := []) (mid := [ob E X (F, V)]) C0 (o_cell l hfl E X (F, V) i 3 (by first | assumption | omega) (by first | assumption | omega) (by first | assumption | omega) (by first | assumption | omega)) (cwV 2 hts gL_isSound_X6_cell rfl rfl rfl (by decide +kernel) ⟨Nat.le_of_ble_eq_true rfl, Nat.le_of_ble_eq_true rfl⟩) hw rfl hZ (fun _ => [ob E X (F, V)]) (fun _ => rfl) 0 6 rfl rfl rfl rfl hl.1 rfl (Nat.le_of_ble_eq_true rfl) dL_isSound_166 ⟨Nat.le_of_ble_eq_true rfl, Nat.le_of_ble_eq_true rfl⟩ (fun r u H locs hq99 hw => ?_)
                  subst hq99
                  have hw : kW E AA sx (List.flatten [ob E X (F, V)]) H locs := hw
                  refine W.eq (g2 := F0 mm 169 ls [.int (cvN F.1 F.2.1 F.2.2.1 F.2.2.2.2.2.2.1 F.2.2.2.2.2.2.2.1 F.2.2.2.2.2.2.2.2.1 F.2.2.2.2.2.2.2.2.2.1 F.2.2.2.2.2.2.2.2.2.2.1 i 3)]) rfl ?_
                  refine W.eq (g2 := F0 mm 169 ls [.int (trpN F.2.2.2.2.2.2.2.2.2.1 F.2.2.2.2.2.2.2.2.2.2.1 i)]) (congrArg (fun z9 => F0 mm 169 ls [.int z9]) (show (cvN F.1 F.2.1 F.2.2.1 F.2.2.2.2.2.2.1 F.2.2.2.2.2.2.2.1 F.2.2.2.2.2.2.2.2.1 F.2.2.2.2.2.2.2.2.2.1 F.2.2.2.2.2.2.2.2.2.2.1 i 3 : Int32) = trpN F.2.2.2.2.2.2.2.2.2.1 F.2.2.2.2.2.2.2.2.2.2.1 i from rfl)) ?_
                  refine lv_aload_n hx hb dL_isSound_169 rfl (lv_at hl 6 rfl) ?_
                  refine lv_iload hx hb dL_isSound_170 (lv_at hl 4 rfl) ?_
                  refine lv_iconst (v := 2) hx hb dL_isSound_172 (by decide) ?_
                  refine k_VF (As := [.int (nI i), .int 2]) (rest := [.int (trpN F.2.2.2.2.2.2.2.2.2.1 F.2.2.2.2.2.2.2.2.2.2.1 i)]) (pre := []) (mid := [ob E X (F, V)]) C0 (o_cell l hfl E X (F, V) i 2 (by first | assumption | omega) (by first | assumption | omega) (by first | assumption | omega) (by first | assumption | omega)) (cwV 2 hts gL_isSound_X6_cell rfl rfl rfl (by decide +kernel) ⟨Nat.le_of_ble_eq_true rfl, Nat.le_of_ble_eq_true rfl⟩) hw rfl hZ (fun _ => [ob E X (F, V)]) (fun _ => rfl) 0 6 rfl rfl rfl rfl hl.1 rfl (Nat.le_of_ble_eq_true rfl) dL_isSound_173 ⟨Nat.le_of_ble_eq_true rfl, Nat.le_of_ble_eq_true rfl⟩ (fun r u H locs hq99 hw => ?_)
                  subst hq99
                  have hw : kW E AA sx (List.flatten [ob E X (F, V)]) H locs := hw
                  refine W.eq (g2 := F0 mm 176 ls [.int (cvN F.1 F.2.1 F.2.2.1 F.2.2.2.2.2.2.1 F.2.2.2.2.2.2.2.1 F.2.2.2.2.2.2.2.2.1 F.2.2.2.2.2.2.2.2.2.1 F.2.2.2.2.2.2.2.2.2.2.1 i 2), .int (trpN F.2.2.2.2.2.2.2.2.2.1 F.2.2.2.2.2.2.2.2.2.2.1 i)]) rfl ?_
                  refine W.eq (g2 := F0 mm 176 ls [.int (F.2.2.2.2.2.2.2.2.2.1 i), .int (trpN F.2.2.2.2.2.2.2.2.2.1 F.2.2.2.2.2.2.2.2.2.2.1 i)]) (congrArg (fun z9 => F0 mm 176 ls [.int z9, .int (trpN F.2.2.2.2.2.2.2.2.2.1 F.2.2.2.2.2.2.2.2.2.2.1 i)]) (show (cvN F.1 F.2.1 F.2.2.1 F.2.2.2.2.2.2.1 F.2.2.2.2.2.2.2.1 F.2.2.2.2.2.2.2.2.1 F.2.2.2.2.2.2.2.2.2.1 F.2.2.2.2.2.2.2.2.2.2.1 i 2 : Int32) = F.2.2.2.2.2.2.2.2.2.1 i from rfl)) ?_
                  refine lv_icmp_gt (tgt := 251) hx hb dL_isSound_176 (by decide) (fun c176 => absurd c176 (Int32.not_lt.mpr hq9.1)) (fun c176 => ?_)
                  refine lv_iload hx hb dL_isSound_179 (lv_at hl 0 rfl) ?_
                  refine lv_aload_n hx hb dL_isSound_181 rfl (lv_at hl 6 rfl) ?_
                  refine lv_iload hx hb dL_isSound_182 (lv_at hl 4 rfl) ?_
                  refine lv_iconst (v := 3) hx hb dL_isSound_184 (by decide) ?_
                  refine k_VF (As := [.int (nI i), .int 3]) (rest := [.int 1]) (pre := []) (mid := [ob E X (F, V)]) C0 (o_cell l hfl E X (F, V) i 3 (by first | assumption | omega) (by first | assumption | omega) (by first | assumption | omega) (by first | assumption | omega)) (cwV 2 hts gL_isSound_X6_cell rfl rfl rfl (by decide +kernel) ⟨Nat.le_of_ble_eq_true rfl, Nat.le_of_ble_eq_true rfl⟩) hw rfl hZ (fun _ => [ob E X (F, V)]) (fun _ => rfl) 0 6 rfl rfl rfl rfl hl.1 rfl (Nat.le_of_ble_eq_true rfl) dL_isSound_185 ⟨Nat.le_of_ble_eq_true rfl, Nat.le_of_ble_eq_true rfl⟩ (fun r u H locs hq99 hw => ?_)
                  subst hq99
                  have hw : kW E AA sx (List.flatten [ob E X (F, V)]) H locs := hw
                  refine W.eq (g2 := F0 mm 188 ls [.int (cvN F.1 F.2.1 F.2.2.1 F.2.2.2.2.2.2.1 F.2.2.2.2.2.2.2.1 F.2.2.2.2.2.2.2.2.1 F.2.2.2.2.2.2.2.2.2.1 F.2.2.2.2.2.2.2.2.2.2.1 i 3), .int 1]) rfl ?_
                  refine W.eq (g2 := F0 mm 188 ls [.int (trpN F.2.2.2.2.2.2.2.2.2.1 F.2.2.2.2.2.2.2.2.2.2.1 i), .int 1]) (congrArg (fun z9 => F0 mm 188 ls [.int z9, .int 1]) (show (cvN F.1 F.2.1 F.2.2.1 F.2.2.2.2.2.2.1 F.2.2.2.2.2.2.2.1 F.2.2.2.2.2.2.2.2.1 F.2.2.2.2.2.2.2.2.2.1 F.2.2.2.2.2.2.2.2.2.2.1 i 3 : Int32) = trpN F.2.2.2.2.2.2.2.2.2.1 F.2.2.2.2.2.2.2.2.2.2.1 i from rfl)) ?_
                  refine lv_if_lt (tgt := 195) hx hb dL_isSound_188 (by decide) (fun c188 => absurd c188 (hq9.2)) (fun c188 => ?_)
                  refine lv_iconst (v := 1) hx hb dL_isSound_191 (by decide) ?_
                  refine lv_goto (tgt := 196) hx hb dL_isSound_192 (by decide) ?_
                  refine lv_icmp_ne (tgt := 251) hx hb dL_isSound_196 (by decide) (fun c196 => absurd c196 (by decide)) (fun c196 => ?_)
                  refine lv_aload_n hx hb dL_isSound_199 rfl (lv_at hl 6 rfl) ?_
                  refine lv_iload hx hb dL_isSound_200 (lv_at hl 4 rfl) ?_
                  refine lv_iload_n hx hb dL_isSound_202 rfl (lv_at hl 7 rfl) ?_
                  refine k_VF (As := [.int (nI i), .int (nI th)]) (rest := []) (pre := []) (mid := [ob E X (F, V)]) C0 (o_duneOf l hfl E X (F, V) i (nI th) (by first | assumption | omega) (by first | assumption | omega) (hth)) (cwV 2 hts gL_isSound_X6_duneOf rfl rfl rfl (by decide +kernel) ⟨Nat.le_of_ble_eq_true rfl, Nat.le_of_ble_eq_true rfl⟩) hw rfl hZ (fun (u203_1 : oT) => [ob E X u203_1]) (fun _ => rfl) 0 6 rfl rfl rfl rfl hl.1 rfl (Nat.le_of_ble_eq_true rfl) dL_isSound_203 ⟨Nat.le_of_ble_eq_true rfl, Nat.le_of_ble_eq_true rfl⟩ (fun r u203_1 H locs hq99 hw => ?_)
                  obtain ⟨r203, rfl⟩ : ∃ z, z = r := ⟨_, rfl⟩
                  have h203 : r203 = nI (doN F.1 F.2.1 F.2.2.2.2.2.2.1 (nI th) i) ∧ u203_1.1 = F ∧ u203_1.2.2.2 = V.2.2 := hq99
                  obtain ⟨z9, u203_1⟩ := u203_1
                  have e9 : F = z9 := h203.2.1.symm
                  subst e9
                  have hw : kW E AA sx (List.flatten [ob E X (F, u203_1)]) H locs := hw
                  refine W.eq (g2 := F0 mm 206 ls [.int r203]) rfl ?_
                  refine W.eq (g2 := F0 mm 206 ls [.int (nI (doN F.1 F.2.1 F.2.2.2.2.2.2.1 (nI th) i))]) (congrArg (fun z9 => F0 mm 206 ls [.int z9]) (show (r203 : Int32) = nI (doN F.1 F.2.1 F.2.2.2.2.2.2.1 (nI th) i) from h203.1)) ?_
                  refine lv_if_le (tgt := 213) hx hb dL_isSound_206 (by decide) (fun c206 => ?_) (fun c206 => ?_)
                  · have c206 : (doN F.1 F.2.1 F.2.2.2.2.2.2.1 (nI th) i) ≤ 0 := (nI_leI (a := (doN F.1 F.2.1 F.2.2.2.2.2.2.1 (nI th) i)) (b := 0) (by omega) (by omega)).mp c206
                    refine lv_iconst (v := 0) hx hb dL_isSound_213 (by decide) ?_
                    refine lv_iload hx hb dL_isSound_214 (lv_at hl 3 rfl) ?_
                    refine lv_iload_n hx hb dL_isSound_216 rfl (lv_at hl 7 rfl) ?_
                    refine lv_icmp_lt (tgt := 224) hx hb dL_isSound_217 (by decide) (fun c217 => ?_) (fun c217 => False.elim (absurd ((do_pos hG hil).mpr c217) (by omega)))
                    refine lv_iconst (v := 0) hx hb dL_isSound_224 (by decide) ?_
                    refine lv_icmp_ne (tgt := 251) hx hb dL_isSound_225 (by decide) (fun c225 => absurd c225 (by decide)) (fun c225 => ?_)
                    refine lv_aload_n hx hb dL_isSound_228 rfl (lv_at hl 6 rfl) ?_
                    refine lv_iload hx hb dL_isSound_229 (lv_at hl 4 rfl) ?_
                    refine lv_iload_n hx hb dL_isSound_231 rfl (lv_at hl 7 rfl) ?_
                    refine k_VF (As := [.int (nI i), .int (nI th)]) (rest := []) (pre := []) (mid := [ob E X (F, u203_1)]) C0 (o_duneOf l hfl E X (F, u203_1) i (nI th) (by first | assumption | omega) (by first | assumption | omega) (hth)) (cwV 2 hts gL_isSound_X6_duneOf rfl rfl rfl (by decide +kernel) ⟨Nat.le_of_ble_eq_true rfl, Nat.le_of_ble_eq_true rfl⟩) hw rfl hZ (fun (u232_2 : oT) => [ob E X u232_2]) (fun _ => rfl) 0 6 rfl rfl rfl rfl hl.1 rfl (Nat.le_of_ble_eq_true rfl) dL_isSound_232 ⟨Nat.le_of_ble_eq_true rfl, Nat.le_of_ble_eq_true rfl⟩ (fun r u232_2 H locs hq99 hw => ?_)
                    obtain ⟨r232, rfl⟩ : ∃ z, z = r := ⟨_, rfl⟩
                    have h232 : r232 = nI (doN F.1 F.2.1 F.2.2.2.2.2.2.1 (nI th) i) ∧ u232_2.1 = F ∧ u232_2.2.2.2 = u203_1.2.2 := hq99
                    obtain ⟨z9, u232_2⟩ := u232_2
                    have e9 : F = z9 := h232.2.1.symm
                    subst e9
                    have hw : kW E AA sx (List.flatten [ob E X (F, u232_2)]) H locs := hw
                    refine W.eq (g2 := F0 mm 235 ls [.int r232]) rfl ?_
                    refine W.eq (g2 := F0 mm 235 ls [.int (nI (doN F.1 F.2.1 F.2.2.2.2.2.2.1 (nI th) i))]) (congrArg (fun z9 => F0 mm 235 ls [.int z9]) (show (r232 : Int32) = nI (doN F.1 F.2.1 F.2.2.2.2.2.2.1 (nI th) i) from h232.1)) ?_
                    refine lv_aload_n hx hb dL_isSound_235 rfl (lv_at hl 6 rfl) ?_
                    refine lv_iload hx hb dL_isSound_236 (lv_at hl 4 rfl) ?_
                    refine lv_iload_n hx hb dL_isSound_238 rfl (lv_at hl 7 rfl) ?_
                    refine lv_iconst (v := 1) hx hb dL_isSound_239 (by decide) ?_
                    refine lv_iadd hx hb dL_isSound_240 ?_
                    refine W.eq (g2 := F0 mm 241 ls [.int (nI (th + 1)), .int (nI i), .ref X.1.1, .int (nI (doN F.1 F.2.1 F.2.2.2.2.2.2.1 (nI th) i))]) (congrArg (fun z9 => F0 mm 241 ls [.int z9, .int (nI i), .ref X.1.1, .int (nI (doN F.1 F.2.1 F.2.2.2.2.2.2.1 (nI th) i))]) (show ((nI th) + 1 : Int32) = nI (th + 1) from nI_1 _)) ?_
                    refine k_VF (As := [.int (nI i), .int (nI (th + 1))]) (rest := [.int (nI (doN F.1 F.2.1 F.2.2.2.2.2.2.1 (nI th) i))]) (pre := []) (mid := [ob E X (F, u232_2)]) C0 (o_duneOf l hfl E X (F, u232_2) i (nI (th + 1)) (by first | assumption | omega) (by first | assumption | omega) (hth2)) (cwV 2 hts gL_isSound_X6_duneOf rfl rfl rfl (by decide +kernel) ⟨Nat.le_of_ble_eq_true rfl, Nat.le_of_ble_eq_true rfl⟩) hw rfl hZ (fun (u241_2 : oT) => [ob E X u241_2]) (fun _ => rfl) 0 6 rfl rfl rfl rfl hl.1 rfl (Nat.le_of_ble_eq_true rfl) dL_isSound_241 ⟨Nat.le_of_ble_eq_true rfl, Nat.le_of_ble_eq_true rfl⟩ (fun r u241_2 H locs hq99 hw => ?_)
                    obtain ⟨r241, rfl⟩ : ∃ z, z = r := ⟨_, rfl⟩
                    have h241 : r241 = nI (doN F.1 F.2.1 F.2.2.2.2.2.2.1 (nI (th + 1)) i) ∧ u241_2.1 = F ∧ u241_2.2.2.2 = u232_2.2.2 := hq99
                    obtain ⟨z9, u241_2⟩ := u241_2
                    have e9 : F = z9 := h241.2.1.symm
                    subst e9
                    have hw : kW E AA sx (List.flatten [ob E X (F, u241_2)]) H locs := hw
                    refine W.eq (g2 := F0 mm 244 ls [.int r241, .int (nI (doN F.1 F.2.1 F.2.2.2.2.2.2.1 (nI th) i))]) rfl ?_
                    refine W.eq (g2 := F0 mm 244 ls [.int (nI (doN F.1 F.2.1 F.2.2.2.2.2.2.1 (nI (th + 1)) i)), .int (nI (doN F.1 F.2.1 F.2.2.2.2.2.2.1 (nI th) i))]) (congrArg (fun z9 => F0 mm 244 ls [.int z9, .int (nI (doN F.1 F.2.1 F.2.2.2.2.2.2.1 (nI th) i))]) (show (r241 : Int32) = nI (doN F.1 F.2.1 F.2.2.2.2.2.2.1 (nI (th + 1)) i) from h241.1)) ?_
                    refine lv_icmp_lt (tgt := 251) hx hb dL_isSound_244 (by decide) (fun c244 => absurd c244 (nI_nlt (do_mono hG hmo) (Nat.lt_of_le_of_lt (do_le hG) (by decide)))) (fun c244 => ?_)
                    have c244 : ¬ (doN F.1 F.2.1 F.2.2.2.2.2.2.1 (nI th) i) < (doN F.1 F.2.1 F.2.2.2.2.2.2.1 (nI (th + 1)) i) := fun h99 => c244 ((nI_ltI (a := (doN F.1 F.2.1 F.2.2.2.2.2.2.1 (nI th) i)) (b := (doN F.1 F.2.1 F.2.2.2.2.2.2.1 (nI (th + 1)) i)) (by omega) (by omega)).mpr h99)
                    refine lv_iconst (v := 1) hx hb dL_isSound_247 (by decide) ?_
                    refine lv_goto (tgt := 252) hx hb dL_isSound_248 (by decide) ?_
                    refine lv_istore_n (lv' := [(3, .int 1), (8, .int 1), (5, .int (nI (barN F.2.2.2.2.2.2.1 (i + 1)))), (4, .int (sumI F.2.2.2.2.2.2.1 (i + 1))), (7, .int (F.2.2.2.2.2.2.1 i)), (6, .int (nI i)), (0, .ref X.1.1), (1, .int (nI th))]) hx hb dL_isSound_252 rfl hl (by decide) rfl (fun ls hl => ?_)
                    refine lv_iinc (v := nI (i + 1)) (lv' := [(6, .int (nI (i + 1))), (3, .int 1), (8, .int 1), (5, .int (nI (barN F.2.2.2.2.2.2.1 (i + 1)))), (4, .int (sumI F.2.2.2.2.2.2.1 (i + 1))), (7, .int (F.2.2.2.2.2.2.1 i)), (0, .ref X.1.1), (1, .int (nI th))]) hx hb dL_isSound_253 hl (k := 5) rfl (nI_1 _) (by decide) rfl (fun ls hl => ?_)
                    refine lv_goto (tgt := 79) hx hb dL_isSound_256 (by decide) ?_
                    -- back 2
                    exact ih79 (i + 1) u241_2 (by first | assumption | omega) (h241.2.2.trans (h232.2.2.trans (h203.2.2.trans hV))) (by omega) H _ ls (lv_sub hl [0, 3, 4, 1, 6, 7] rfl) hw
                  · have c206 : ¬ (doN F.1 F.2.1 F.2.2.2.2.2.2.1 (nI th) i) ≤ 0 := fun h99 => c206 ((nI_leI (a := (doN F.1 F.2.1 F.2.2.2.2.2.2.1 (nI th) i)) (b := 0) (by omega) (by omega)).mpr h99)
                    refine lv_iconst (v := 1) hx hb dL_isSound_209 (by decide) ?_
                    refine lv_goto (tgt := 214) hx hb dL_isSound_210 (by decide) ?_
                    refine lv_iload hx hb dL_isSound_214 (lv_at hl 3 rfl) ?_
                    refine lv_iload_n hx hb dL_isSound_216 rfl (lv_at hl 7 rfl) ?_
                    refine lv_icmp_lt (tgt := 224) hx hb dL_isSound_217 (by decide) (fun c217 => absurd c217 ((do_pos hG hil).mp (by omega))) (fun c217 => ?_)
                    refine lv_iconst (v := 1) hx hb dL_isSound_220 (by decide) ?_
                    refine lv_goto (tgt := 225) hx hb dL_isSound_221 (by decide) ?_
                    refine lv_icmp_ne (tgt := 251) hx hb dL_isSound_225 (by decide) (fun c225 => absurd c225 (by decide)) (fun c225 => ?_)
                    refine lv_aload_n hx hb dL_isSound_228 rfl (lv_at hl 6 rfl) ?_
                    refine lv_iload hx hb dL_isSound_229 (lv_at hl 4 rfl) ?_
                    refine lv_iload_n hx hb dL_isSound_231 rfl (lv_at hl 7 rfl) ?_
                    refine k_VF (As := [.int (nI i), .int (nI th)]) (rest := []) (pre := []) (mid := [ob E X (F, u203_1)]) C0 (o_duneOf l hfl E X (F, u203_1) i (nI th) (by first | assumption | omega) (by first | assumption | omega) (hth)) (cwV 2 hts gL_isSound_X6_duneOf rfl rfl rfl (by decide +kernel) ⟨Nat.le_of_ble_eq_true rfl, Nat.le_of_ble_eq_true rfl⟩) hw rfl hZ (fun (u232_3 : oT) => [ob E X u232_3]) (fun _ => rfl) 0 6 rfl rfl rfl rfl hl.1 rfl (Nat.le_of_ble_eq_true rfl) dL_isSound_232 ⟨Nat.le_of_ble_eq_true rfl, Nat.le_of_ble_eq_true rfl⟩ (fun r u232_3 H locs hq99 hw => ?_)
                    obtain ⟨r232, rfl⟩ : ∃ z, z = r := ⟨_, rfl⟩
                    have h232 : r232 = nI (doN F.1 F.2.1 F.2.2.2.2.2.2.1 (nI th) i) ∧ u232_3.1 = F ∧ u232_3.2.2.2 = u203_1.2.2 := hq99
                    obtain ⟨z9, u232_3⟩ := u232_3
                    have e9 : F = z9 := h232.2.1.symm
                    subst e9
                    have hw : kW E AA sx (List.flatten [ob E X (F, u232_3)]) H locs := hw
                    refine W.eq (g2 := F0 mm 235 ls [.int r232]) rfl ?_
                    refine W.eq (g2 := F0 mm 235 ls [.int (nI (doN F.1 F.2.1 F.2.2.2.2.2.2.1 (nI th) i))]) (congrArg (fun z9 => F0 mm 235 ls [.int z9]) (show (r232 : Int32) = nI (doN F.1 F.2.1 F.2.2.2.2.2.2.1 (nI th) i) from h232.1)) ?_
                    refine lv_aload_n hx hb dL_isSound_235 rfl (lv_at hl 6 rfl) ?_
                    refine lv_iload hx hb dL_isSound_236 (lv_at hl 4 rfl) ?_
                    refine lv_iload_n hx hb dL_isSound_238 rfl (lv_at hl 7 rfl) ?_
                    refine lv_iconst (v := 1) hx hb dL_isSound_239 (by decide) ?_
                    refine lv_iadd hx hb dL_isSound_240 ?_
                    refine W.eq (g2 := F0 mm 241 ls [.int (nI (th + 1)), .int (nI i), .ref X.1.1, .int (nI (doN F.1 F.2.1 F.2.2.2.2.2.2.1 (nI th) i))]) (congrArg (fun z9 => F0 mm 241 ls [.int z9, .int (nI i), .ref X.1.1, .int (nI (doN F.1 F.2.1 F.2.2.2.2.2.2.1 (nI th) i))]) (show ((nI th) + 1 : Int32) = nI (th + 1) from nI_1 _)) ?_
                    refine k_VF (As := [.int (nI i), .int (nI (th + 1))]) (rest := [.int (nI (doN F.1 F.2.1 F.2.2.2.2.2.2.1 (nI th) i))]) (pre := []) (mid := [ob E X (F, u232_3)]) C0 (o_duneOf l hfl E X (F, u232_3) i (nI (th + 1)) (by first | assumption | omega) (by first | assumption | omega) (hth2)) (cwV 2 hts gL_isSound_X6_duneOf rfl rfl rfl (by decide +kernel) ⟨Nat.le_of_ble_eq_true rfl, Nat.le_of_ble_eq_true rfl⟩) hw rfl hZ (fun (u241_3 : oT) => [ob E X u241_3]) (fun _ => rfl) 0 6 rfl rfl rfl rfl hl.1 rfl (Nat.le_of_ble_eq_true rfl) dL_isSound_241 ⟨Nat.le_of_ble_eq_true rfl, Nat.le_of_ble_eq_true rfl⟩ (fun r u241_3 H locs hq99 hw => ?_)
                    obtain ⟨r241, rfl⟩ : ∃ z, z = r := ⟨_, rfl⟩
                    have h241 : r241 = nI (doN F.1 F.2.1 F.2.2.2.2.2.2.1 (nI (th + 1)) i) ∧ u241_3.1 = F ∧ u241_3.2.2.2 = u232_3.2.2 := hq99
                    obtain ⟨z9, u241_3⟩ := u241_3
                    have e9 : F = z9 := h241.2.1.symm
                    subst e9
                    have hw : kW E AA sx (List.flatten [ob E X (F, u241_3)]) H locs := hw
                    refine W.eq (g2 := F0 mm 244 ls [.int r241, .int (nI (doN F.1 F.2.1 F.2.2.2.2.2.2.1 (nI th) i))]) rfl ?_
                    refine W.eq (g2 := F0 mm 244 ls [.int (nI (doN F.1 F.2.1 F.2.2.2.2.2.2.1 (nI (th + 1)) i)), .int (nI (doN F.1 F.2.1 F.2.2.2.2.2.2.1 (nI th) i))]) (congrArg (fun z9 => F0 mm 244 ls [.int z9, .int (nI (doN F.1 F.2.1 F.2.2.2.2.2.2.1 (nI th) i))]) (show (r241 : Int32) = nI (doN F.1 F.2.1 F.2.2.2.2.2.2.1 (nI (th + 1)) i) from h241.1)) ?_
                    refine lv_icmp_lt (tgt := 251) hx hb dL_isSound_244 (by decide) (fun c244 => absurd c244 (nI_nlt (do_mono hG hmo) (Nat.lt_of_le_of_lt (do_le hG) (by decide)))) (fun c244 => ?_)
                    have c244 : ¬ (doN F.1 F.2.1 F.2.2.2.2.2.2.1 (nI th) i) < (doN F.1 F.2.1 F.2.2.2.2.2.2.1 (nI (th + 1)) i) := fun h99 => c244 ((nI_ltI (a := (doN F.1 F.2.1 F.2.2.2.2.2.2.1 (nI th) i)) (b := (doN F.1 F.2.1 F.2.2.2.2.2.2.1 (nI (th + 1)) i)) (by omega) (by omega)).mpr h99)
                    refine lv_iconst (v := 1) hx hb dL_isSound_247 (by decide) ?_
                    refine lv_goto (tgt := 252) hx hb dL_isSound_248 (by decide) ?_
                    refine lv_istore_n (lv' := [(3, .int 1), (8, .int 1), (5, .int (nI (barN F.2.2.2.2.2.2.1 (i + 1)))), (4, .int (sumI F.2.2.2.2.2.2.1 (i + 1))), (7, .int (F.2.2.2.2.2.2.1 i)), (6, .int (nI i)), (0, .ref X.1.1), (1, .int (nI th))]) hx hb dL_isSound_252 rfl hl (by decide) rfl (fun ls hl => ?_)
                    refine lv_iinc (v := nI (i + 1)) (lv' := [(6, .int (nI (i + 1))), (3, .int 1), (8, .int 1), (5, .int (nI (barN F.2.2.2.2.2.2.1 (i + 1)))), (4, .int (sumI F.2.2.2.2.2.2.1 (i + 1))), (7, .int (F.2.2.2.2.2.2.1 i)), (0, .ref X.1.1), (1, .int (nI th))]) hx hb dL_isSound_253 hl (k := 5) rfl (nI_1 _) (by decide) rfl (fun ls hl => ?_)
                    refine lv_goto (tgt := 79) hx hb dL_isSound_256 (by decide) ?_
                    -- back 3
                    exact ih79 (i + 1) u241_3 (by first | assumption | omega) (h241.2.2.trans (h232.2.2.trans (h203.2.2.trans hV))) (by omega) H _ ls (lv_sub hl [0, 3, 4, 1, 6, 7] rfl) hw
              · have hb9 : nI (barN F.2.2.2.2.2.2.1 i) + 1 = nI (barN F.2.2.2.2.2.2.1 (i + 1)) := by rw [barN_s, if_pos c115, nI_1]
                refine lv_iconst (v := 1) hx hb dL_isSound_118 (by decide) ?_
                refine lv_goto (tgt := 123) hx hb dL_isSound_119 (by decide) ?_
                refine lv_iadd hx hb dL_isSound_123 ?_
                refine W.eq (g2 := F0 mm 124 ls [.int (nI (barN F.2.2.2.2.2.2.1 (i + 1)))]) (congrArg (fun z9 => F0 mm 124 ls [.int z9]) (show ((nI (barN F.2.2.2.2.2.2.1 i)) + 1 : Int32) = nI (barN F.2.2.2.2.2.2.1 (i + 1)) from hb9)) ?_
                refine lv_istore (lv' := [(5, .int (nI (barN F.2.2.2.2.2.2.1 (i + 1)))), (4, .int (sumI F.2.2.2.2.2.2.1 (i + 1))), (7, .int (F.2.2.2.2.2.2.1 i)), (6, .int (nI i)), (3, .int 1), (0, .ref X.1.1), (1, .int (nI th))]) hx hb dL_isSound_124 hl (by decide) rfl (fun ls hl => ?_)
                refine lv_aload_n hx hb dL_isSound_126 rfl (lv_at hl 5 rfl) ?_
                refine lv_iload hx hb dL_isSound_127 (lv_at hl 3 rfl) ?_
                refine lv_iconst (v := 2) hx hb dL_isSound_129 (by decide) ?_
                refine k_VF (As := [.int (nI i), .int 2]) (rest := []) (pre := []) (mid := [ob E X (F, V)]) C0 (o_cell l hfl E X (F, V) i 2 (by first | assumption | omega) (by first | assumption | omega) (by first | assumption | omega) (by first | assumption | omega)) (cwV 2 hts gL_isSound_X6_cell rfl rfl rfl (by decide +kernel) ⟨Nat.le_of_ble_eq_true rfl, Nat.le_of_ble_eq_true rfl⟩) hw rfl hZ (fun _ => [ob E X (F, V)]) (fun _ => rfl) 0 6 rfl rfl rfl rfl hl.1 rfl (Nat.le_of_ble_eq_true rfl) dL_isSound_130 ⟨Nat.le_of_ble_eq_true rfl, Nat.le_of_ble_eq_true rfl⟩ (fun r u H locs hq99 hw => ?_)
                subst hq99
                have hw : kW E AA sx (List.flatten [ob E X (F, V)]) H locs := hw
                refine W.eq (g2 := F0 mm 133 ls [.int (cvN F.1 F.2.1 F.2.2.1 F.2.2.2.2.2.2.1 F.2.2.2.2.2.2.2.1 F.2.2.2.2.2.2.2.2.1 F.2.2.2.2.2.2.2.2.2.1 F.2.2.2.2.2.2.2.2.2.2.1 i 2)]) rfl ?_
                refine W.eq (g2 := F0 mm 133 ls [.int (F.2.2.2.2.2.2.2.2.2.1 i)]) (congrArg (fun z9 => F0 mm 133 ls [.int z9]) (show (cvN F.1 F.2.1 F.2.2.1 F.2.2.2.2.2.2.1 F.2.2.2.2.2.2.2.1 F.2.2.2.2.2.2.2.2.1 F.2.2.2.2.2.2.2.2.2.1 F.2.2.2.2.2.2.2.2.2.2.1 i 2 : Int32) = F.2.2.2.2.2.2.2.2.2.1 i from rfl)) ?_
                refine lv_if_le (tgt := 140) hx hb dL_isSound_133 (by decide) (fun c133 => ?_) (fun c133 => ?_)
                · have hq9 := fn_no hFn c133
                  refine lv_iconst (v := 0) hx hb dL_isSound_140 (by decide) ?_
                  refine lv_istore (lv' := [(8, .int 0), (5, .int (nI (barN F.2.2.2.2.2.2.1 (i + 1)))), (4, .int (sumI F.2.2.2.2.2.2.1 (i + 1))), (7, .int (F.2.2.2.2.2.2.1 i)), (6, .int (nI i)), (3, .int 1), (0, .ref X.1.1), (1, .int (nI th))]) hx hb dL_isSound_141 hl (by decide) rfl (fun ls hl => ?_)
                  refine lv_iload_n hx hb dL_isSound_143 rfl (lv_at hl 5 rfl) ?_
                  refine lv_if_eq (tgt := 251) hx hb dL_isSound_144 (by decide) (fun c144 => absurd c144 (by decide)) (fun c144 => ?_)
                  refine lv_iload hx hb dL_isSound_147 (lv_at hl 3 rfl) ?_
                  refine lv_if_lt (tgt := 251) hx hb dL_isSound_149 (by decide) (fun c149 => absurd c149 (by rw [ev9]; exact nI_pos (by omega))) (fun c149 => ?_)
                  refine lv_iload hx hb dL_isSound_152 (lv_at hl 3 rfl) ?_
                  refine lv_aload_n hx hb dL_isSound_154 rfl (lv_at hl 6 rfl) ?_
                  refine lv_iconst (v := 0) hx hb dL_isSound_155 (by decide) ?_
                  refine k_VF (As := [.int 0]) (rest := [.int (F.2.2.2.2.2.2.1 i)]) (pre := []) (mid := [ob E X (F, V)]) C0 (o_relief l hfl E X (F, V) 0 (by first | assumption | omega) (by first | assumption | omega)) (cwV 1 hts gL_isSound_X6_relief rfl rfl rfl (by decide +kernel) ⟨Nat.le_of_ble_eq_true rfl, Nat.le_of_ble_eq_true rfl⟩) hw rfl hZ (fun _ => [ob E X (F, V)]) (fun _ => rfl) 0 6 rfl rfl rfl rfl hl.1 rfl (Nat.le_of_ble_eq_true rfl) dL_isSound_156 ⟨Nat.le_of_ble_eq_true rfl, Nat.le_of_ble_eq_true rfl⟩ (fun r u H locs hq99 hw => ?_)
                  subst hq99
                  have hw : kW E AA sx (List.flatten [ob E X (F, V)]) H locs := hw
                  refine W.eq (g2 := F0 mm 159 ls [.int (rlfN F.1 F.2.1 F.2.2.2.2.2.2.1 0), .int (F.2.2.2.2.2.2.1 i)]) rfl ?_
                  refine lv_icmp_gt (tgt := 251) hx hb dL_isSound_159 (by decide) (fun c159 => absurd c159 (by rw [rlf_0]; exact Int32.not_lt.mpr (hi_max (f := F.2.2.2.2.2.2.1) (F.1 * F.2.1) i (by omega)))) (fun c159 => ?_)
                  refine lv_aload_n hx hb dL_isSound_162 rfl (lv_at hl 6 rfl) ?_
                  refine lv_iload hx hb dL_isSound_163 (lv_at hl 4 rfl) ?_
                  refine lv_iconst (v := 3) hx hb dL_isSound_165 (by decide) ?_
                  refine k_VF (As := [.int (nI i), .int 3]) (rest := []) (pre := []) (mid := [ob E X (F, V)]) C0 (o_cell l hfl E X (F, V) i 3 (by first | assumption | omega) (by first | assumption | omega) (by first | assumption | omega) (by first | assumption | omega)) (cwV 2 hts gL_isSound_X6_cell rfl rfl rfl (by decide +kernel) ⟨Nat.le_of_ble_eq_true rfl, Nat.le_of_ble_eq_true rfl⟩) hw rfl hZ (fun _ => [ob E X (F, V)]) (fun _ => rfl) 0 6 rfl rfl rfl rfl hl.1 rfl (Nat.le_of_ble_eq_true rfl) dL_isSound_166 ⟨Nat.le_of_ble_eq_true rfl, Nat.le_of_ble_eq_true rfl⟩ (fun r u H locs hq99 hw => ?_)
                  subst hq99
                  have hw : kW E AA sx (List.flatten [ob E X (F, V)]) H locs := hw
                  refine W.eq (g2 := F0 mm 169 ls [.int (cvN F.1 F.2.1 F.2.2.1 F.2.2.2.2.2.2.1 F.2.2.2.2.2.2.2.1 F.2.2.2.2.2.2.2.2.1 F.2.2.2.2.2.2.2.2.2.1 F.2.2.2.2.2.2.2.2.2.2.1 i 3)]) rfl ?_
                  refine W.eq (g2 := F0 mm 169 ls [.int (trpN F.2.2.2.2.2.2.2.2.2.1 F.2.2.2.2.2.2.2.2.2.2.1 i)]) (congrArg (fun z9 => F0 mm 169 ls [.int z9]) (show (cvN F.1 F.2.1 F.2.2.1 F.2.2.2.2.2.2.1 F.2.2.2.2.2.2.2.1 F.2.2.2.2.2.2.2.2.1 F.2.2.2.2.2.2.2.2.2.1 F.2.2.2.2.2.2.2.2.2.2.1 i 3 : Int32) = trpN F.2.2.2.2.2.2.2.2.2.1 F.2.2.2.2.2.2.2.2.2.2.1 i from rfl)) ?_
                  refine lv_aload_n hx hb dL_isSound_169 rfl (lv_at hl 6 rfl) ?_
                  refine lv_iload hx hb dL_isSound_170 (lv_at hl 4 rfl) ?_
                  refine lv_iconst (v := 2) hx hb dL_isSound_172 (by decide) ?_
                  refine k_VF (As := [.int (nI i), .int 2]) (rest := [.int (trpN F.2.2.2.2.2.2.2.2.2.1 F.2.2.2.2.2.2.2.2.2.2.1 i)]) (pre := []) (mid := [ob E X (F, V)]) C0 (o_cell l hfl E X (F, V) i 2 (by first | assumption | omega) (by first | assumption | omega) (by first | assumption | omega) (by first | assumption | omega)) (cwV 2 hts gL_isSound_X6_cell rfl rfl rfl (by decide +kernel) ⟨Nat.le_of_ble_eq_true rfl, Nat.le_of_ble_eq_true rfl⟩) hw rfl hZ (fun _ => [ob E X (F, V)]) (fun _ => rfl) 0 6 rfl rfl rfl rfl hl.1 rfl (Nat.le_of_ble_eq_true rfl) dL_isSound_173 ⟨Nat.le_of_ble_eq_true rfl, Nat.le_of_ble_eq_true rfl⟩ (fun r u H locs hq99 hw => ?_)
                  subst hq99
                  have hw : kW E AA sx (List.flatten [ob E X (F, V)]) H locs := hw
                  refine W.eq (g2 := F0 mm 176 ls [.int (cvN F.1 F.2.1 F.2.2.1 F.2.2.2.2.2.2.1 F.2.2.2.2.2.2.2.1 F.2.2.2.2.2.2.2.2.1 F.2.2.2.2.2.2.2.2.2.1 F.2.2.2.2.2.2.2.2.2.2.1 i 2), .int (trpN F.2.2.2.2.2.2.2.2.2.1 F.2.2.2.2.2.2.2.2.2.2.1 i)]) rfl ?_
                  refine W.eq (g2 := F0 mm 176 ls [.int (F.2.2.2.2.2.2.2.2.2.1 i), .int (trpN F.2.2.2.2.2.2.2.2.2.1 F.2.2.2.2.2.2.2.2.2.2.1 i)]) (congrArg (fun z9 => F0 mm 176 ls [.int z9, .int (trpN F.2.2.2.2.2.2.2.2.2.1 F.2.2.2.2.2.2.2.2.2.2.1 i)]) (show (cvN F.1 F.2.1 F.2.2.1 F.2.2.2.2.2.2.1 F.2.2.2.2.2.2.2.1 F.2.2.2.2.2.2.2.2.1 F.2.2.2.2.2.2.2.2.2.1 F.2.2.2.2.2.2.2.2.2.2.1 i 2 : Int32) = F.2.2.2.2.2.2.2.2.2.1 i from rfl)) ?_
                  refine lv_icmp_gt (tgt := 251) hx hb dL_isSound_176 (by decide) (fun c176 => absurd c176 (Int32.not_lt.mpr hq9.1)) (fun c176 => ?_)
                  refine lv_iload hx hb dL_isSound_179 (lv_at hl 0 rfl) ?_
                  refine lv_aload_n hx hb dL_isSound_181 rfl (lv_at hl 6 rfl) ?_
                  refine lv_iload hx hb dL_isSound_182 (lv_at hl 4 rfl) ?_
                  refine lv_iconst (v := 3) hx hb dL_isSound_184 (by decide) ?_
                  refine k_VF (As := [.int (nI i), .int 3]) (rest := [.int 0]) (pre := []) (mid := [ob E X (F, V)]) C0 (o_cell l hfl E X (F, V) i 3 (by first | assumption | omega) (by first | assumption | omega) (by first | assumption | omega) (by first | assumption | omega)) (cwV 2 hts gL_isSound_X6_cell rfl rfl rfl (by decide +kernel) ⟨Nat.le_of_ble_eq_true rfl, Nat.le_of_ble_eq_true rfl⟩) hw rfl hZ (fun _ => [ob E X (F, V)]) (fun _ => rfl) 0 6 rfl rfl rfl rfl hl.1 rfl (Nat.le_of_ble_eq_true rfl) dL_isSound_185 ⟨Nat.le_of_ble_eq_true rfl, Nat.le_of_ble_eq_true rfl⟩ (fun r u H locs hq99 hw => ?_)
                  subst hq99
                  have hw : kW E AA sx (List.flatten [ob E X (F, V)]) H locs := hw
                  refine W.eq (g2 := F0 mm 188 ls [.int (cvN F.1 F.2.1 F.2.2.1 F.2.2.2.2.2.2.1 F.2.2.2.2.2.2.2.1 F.2.2.2.2.2.2.2.2.1 F.2.2.2.2.2.2.2.2.2.1 F.2.2.2.2.2.2.2.2.2.2.1 i 3), .int 0]) rfl ?_
                  refine W.eq (g2 := F0 mm 188 ls [.int (trpN F.2.2.2.2.2.2.2.2.2.1 F.2.2.2.2.2.2.2.2.2.2.1 i), .int 0]) (congrArg (fun z9 => F0 mm 188 ls [.int z9, .int 0]) (show (cvN F.1 F.2.1 F.2.2.1 F.2.2.2.2.2.2.1 F.2.2.2.2.2.2.2.1 F.2.2.2.2.2.2.2.2.1 F.2.2.2.2.2.2.2.2.2.1 F.2.2.2.2.2.2.2.2.2.2.1 i 3 : Int32) = trpN F.2.2.2.2.2.2.2.2.2.1 F.2.2.2.2.2.2.2.2.2.2.1 i from rfl)) ?_
                  refine lv_if_lt (tgt := 195) hx hb dL_isSound_188 (by decide) (fun c188 => ?_) (fun c188 => absurd (hq9.2) c188)
                  refine lv_iconst (v := 0) hx hb dL_isSound_195 (by decide) ?_
                  refine lv_icmp_ne (tgt := 251) hx hb dL_isSound_196 (by decide) (fun c196 => absurd c196 (by decide)) (fun c196 => ?_)
                  refine lv_aload_n hx hb dL_isSound_199 rfl (lv_at hl 6 rfl) ?_
                  refine lv_iload hx hb dL_isSound_200 (lv_at hl 4 rfl) ?_
                  refine lv_iload_n hx hb dL_isSound_202 rfl (lv_at hl 7 rfl) ?_
                  refine k_VF (As := [.int (nI i), .int (nI th)]) (rest := []) (pre := []) (mid := [ob E X (F, V)]) C0 (o_duneOf l hfl E X (F, V) i (nI th) (by first | assumption | omega) (by first | assumption | omega) (hth)) (cwV 2 hts gL_isSound_X6_duneOf rfl rfl rfl (by decide +kernel) ⟨Nat.le_of_ble_eq_true rfl, Nat.le_of_ble_eq_true rfl⟩) hw rfl hZ (fun (u203_2 : oT) => [ob E X u203_2]) (fun _ => rfl) 0 6 rfl rfl rfl rfl hl.1 rfl (Nat.le_of_ble_eq_true rfl) dL_isSound_203 ⟨Nat.le_of_ble_eq_true rfl, Nat.le_of_ble_eq_true rfl⟩ (fun r u203_2 H locs hq99 hw => ?_)
                  obtain ⟨r203, rfl⟩ : ∃ z, z = r := ⟨_, rfl⟩
                  have h203 : r203 = nI (doN F.1 F.2.1 F.2.2.2.2.2.2.1 (nI th) i) ∧ u203_2.1 = F ∧ u203_2.2.2.2 = V.2.2 := hq99
                  obtain ⟨z9, u203_2⟩ := u203_2
                  have e9 : F = z9 := h203.2.1.symm
                  subst e9
                  have hw : kW E AA sx (List.flatten [ob E X (F, u203_2)]) H locs := hw
                  refine W.eq (g2 := F0 mm 206 ls [.int r203]) rfl ?_
                  refine W.eq (g2 := F0 mm 206 ls [.int (nI (doN F.1 F.2.1 F.2.2.2.2.2.2.1 (nI th) i))]) (congrArg (fun z9 => F0 mm 206 ls [.int z9]) (show (r203 : Int32) = nI (doN F.1 F.2.1 F.2.2.2.2.2.2.1 (nI th) i) from h203.1)) ?_
                  refine lv_if_le (tgt := 213) hx hb dL_isSound_206 (by decide) (fun c206 => ?_) (fun c206 => ?_)
                  · have c206 : (doN F.1 F.2.1 F.2.2.2.2.2.2.1 (nI th) i) ≤ 0 := (nI_leI (a := (doN F.1 F.2.1 F.2.2.2.2.2.2.1 (nI th) i)) (b := 0) (by omega) (by omega)).mp c206
                    refine lv_iconst (v := 0) hx hb dL_isSound_213 (by decide) ?_
                    refine lv_iload hx hb dL_isSound_214 (lv_at hl 3 rfl) ?_
                    refine lv_iload_n hx hb dL_isSound_216 rfl (lv_at hl 7 rfl) ?_
                    refine lv_icmp_lt (tgt := 224) hx hb dL_isSound_217 (by decide) (fun c217 => ?_) (fun c217 => False.elim (absurd ((do_pos hG hil).mpr c217) (by omega)))
                    refine lv_iconst (v := 0) hx hb dL_isSound_224 (by decide) ?_
                    refine lv_icmp_ne (tgt := 251) hx hb dL_isSound_225 (by decide) (fun c225 => absurd c225 (by decide)) (fun c225 => ?_)
                    refine lv_aload_n hx hb dL_isSound_228 rfl (lv_at hl 6 rfl) ?_
                    refine lv_iload hx hb dL_isSound_229 (lv_at hl 4 rfl) ?_
                    refine lv_iload_n hx hb dL_isSound_231 rfl (lv_at hl 7 rfl) ?_
                    refine k_VF (As := [.int (nI i), .int (nI th)]) (rest := []) (pre := []) (mid := [ob E X (F, u203_2)]) C0 (o_duneOf l hfl E X (F, u203_2) i (nI th) (by first | assumption | omega) (by first | assumption | omega) (hth)) (cwV 2 hts gL_isSound_X6_duneOf rfl rfl rfl (by decide +kernel) ⟨Nat.le_of_ble_eq_true rfl, Nat.le_of_ble_eq_true rfl⟩) hw rfl hZ (fun (u232_4 : oT) => [ob E X u232_4]) (fun _ => rfl) 0 6 rfl rfl rfl rfl hl.1 rfl (Nat.le_of_ble_eq_true rfl) dL_isSound_232 ⟨Nat.le_of_ble_eq_true rfl, Nat.le_of_ble_eq_true rfl⟩ (fun r u232_4 H locs hq99 hw => ?_)
                    obtain ⟨r232, rfl⟩ : ∃ z, z = r := ⟨_, rfl⟩
                    have h232 : r232 = nI (doN F.1 F.2.1 F.2.2.2.2.2.2.1 (nI th) i) ∧ u232_4.1 = F ∧ u232_4.2.2.2 = u203_2.2.2 := hq99
                    obtain ⟨z9, u232_4⟩ := u232_4
                    have e9 : F = z9 := h232.2.1.symm
                    subst e9
                    have hw : kW E AA sx (List.flatten [ob E X (F, u232_4)]) H locs := hw
                    refine W.eq (g2 := F0 mm 235 ls [.int r232]) rfl ?_
                    refine W.eq (g2 := F0 mm 235 ls [.int (nI (doN F.1 F.2.1 F.2.2.2.2.2.2.1 (nI th) i))]) (congrArg (fun z9 => F0 mm 235 ls [.int z9]) (show (r232 : Int32) = nI (doN F.1 F.2.1 F.2.2.2.2.2.2.1 (nI th) i) from h232.1)) ?_
                    refine lv_aload_n hx hb dL_isSound_235 rfl (lv_at hl 6 rfl) ?_
                    refine lv_iload hx hb dL_isSound_236 (lv_at hl 4 rfl) ?_
                    refine lv_iload_n hx hb dL_isSound_238 rfl (lv_at hl 7 rfl) ?_
                    refine lv_iconst (v := 1) hx hb dL_isSound_239 (by decide) ?_
                    refine lv_iadd hx hb dL_isSound_240 ?_
                    refine W.eq (g2 := F0 mm 241 ls [.int (nI (th + 1)), .int (nI i), .ref X.1.1, .int (nI (doN F.1 F.2.1 F.2.2.2.2.2.2.1 (nI th) i))]) (congrArg (fun z9 => F0 mm 241 ls [.int z9, .int (nI i), .ref X.1.1, .int (nI (doN F.1 F.2.1 F.2.2.2.2.2.2.1 (nI th) i))]) (show ((nI th) + 1 : Int32) = nI (th + 1) from nI_1 _)) ?_
                    refine k_VF (As := [.int (nI i), .int (nI (th + 1))]) (rest := [.int (nI (doN F.1 F.2.1 F.2.2.2.2.2.2.1 (nI th) i))]) (pre := []) (mid := [ob E X (F, u232_4)]) C0 (o_duneOf l hfl E X (F, u232_4) i (nI (th + 1)) (by first | assumption | omega) (by first | assumption | omega) (hth2)) (cwV 2 hts gL_isSound_X6_duneOf rfl rfl rfl (by decide +kernel) ⟨Nat.le_of_ble_eq_true rfl, Nat.le_of_ble_eq_true rfl⟩) hw rfl hZ (fun (u241_4 : oT) => [ob E X u241_4]) (fun _ => rfl) 0 6 rfl rfl rfl rfl hl.1 rfl (Nat.le_of_ble_eq_true rfl) dL_isSound_241 ⟨Nat.le_of_ble_eq_true rfl, Nat.le_of_ble_eq_true rfl⟩ (fun r u241_4 H locs hq99 hw => ?_)
                    obtain ⟨r241, rfl⟩ : ∃ z, z = r := ⟨_, rfl⟩
                    have h241 : r241 = nI (doN F.1 F.2.1 F.2.2.2.2.2.2.1 (nI (th + 1)) i) ∧ u241_4.1 = F ∧ u241_4.2.2.2 = u232_4.2.2 := hq99
                    obtain ⟨z9, u241_4⟩ := u241_4
                    have e9 : F = z9 := h241.2.1.symm
                    subst e9
                    have hw : kW E AA sx (List.flatten [ob E X (F, u241_4)]) H locs := hw
                    refine W.eq (g2 := F0 mm 244 ls [.int r241, .int (nI (doN F.1 F.2.1 F.2.2.2.2.2.2.1 (nI th) i))]) rfl ?_
                    refine W.eq (g2 := F0 mm 244 ls [.int (nI (doN F.1 F.2.1 F.2.2.2.2.2.2.1 (nI (th + 1)) i)), .int (nI (doN F.1 F.2.1 F.2.2.2.2.2.2.1 (nI th) i))]) (congrArg (fun z9 => F0 mm 244 ls [.int z9, .int (nI (doN F.1 F.2.1 F.2.2.2.2.2.2.1 (nI th) i))]) (show (r241 : Int32) = nI (doN F.1 F.2.1 F.2.2.2.2.2.2.1 (nI (th + 1)) i) from h241.1)) ?_
                    refine lv_icmp_lt (tgt := 251) hx hb dL_isSound_244 (by decide) (fun c244 => absurd c244 (nI_nlt (do_mono hG hmo) (Nat.lt_of_le_of_lt (do_le hG) (by decide)))) (fun c244 => ?_)
                    have c244 : ¬ (doN F.1 F.2.1 F.2.2.2.2.2.2.1 (nI th) i) < (doN F.1 F.2.1 F.2.2.2.2.2.2.1 (nI (th + 1)) i) := fun h99 => c244 ((nI_ltI (a := (doN F.1 F.2.1 F.2.2.2.2.2.2.1 (nI th) i)) (b := (doN F.1 F.2.1 F.2.2.2.2.2.2.1 (nI (th + 1)) i)) (by omega) (by omega)).mpr h99)
                    refine lv_iconst (v := 1) hx hb dL_isSound_247 (by decide) ?_
                    refine lv_goto (tgt := 252) hx hb dL_isSound_248 (by decide) ?_
                    refine lv_istore_n (lv' := [(3, .int 1), (8, .int 0), (5, .int (nI (barN F.2.2.2.2.2.2.1 (i + 1)))), (4, .int (sumI F.2.2.2.2.2.2.1 (i + 1))), (7, .int (F.2.2.2.2.2.2.1 i)), (6, .int (nI i)), (0, .ref X.1.1), (1, .int (nI th))]) hx hb dL_isSound_252 rfl hl (by decide) rfl (fun ls hl => ?_)
                    refine lv_iinc (v := nI (i + 1)) (lv' := [(6, .int (nI (i + 1))), (3, .int 1), (8, .int 0), (5, .int (nI (barN F.2.2.2.2.2.2.1 (i + 1)))), (4, .int (sumI F.2.2.2.2.2.2.1 (i + 1))), (7, .int (F.2.2.2.2.2.2.1 i)), (0, .ref X.1.1), (1, .int (nI th))]) hx hb dL_isSound_253 hl (k := 5) rfl (nI_1 _) (by decide) rfl (fun ls hl => ?_)
                    refine lv_goto (tgt := 79) hx hb dL_isSound_256 (by decide) ?_
                    -- back 4
                    exact ih79 (i + 1) u241_4 (by first | assumption | omega) (h241.2.2.trans (h232.2.2.trans (h203.2.2.trans hV))) (by omega) H _ ls (lv_sub hl [0, 3, 4, 1, 6, 7] rfl) hw
                  · have c206 : ¬ (doN F.1 F.2.1 F.2.2.2.2.2.2.1 (nI th) i) ≤ 0 := fun h99 => c206 ((nI_leI (a := (doN F.1 F.2.1 F.2.2.2.2.2.2.1 (nI th) i)) (b := 0) (by omega) (by omega)).mpr h99)
                    refine lv_iconst (v := 1) hx hb dL_isSound_209 (by decide) ?_
                    refine lv_goto (tgt := 214) hx hb dL_isSound_210 (by decide) ?_
                    refine lv_iload hx hb dL_isSound_214 (lv_at hl 3 rfl) ?_
                    refine lv_iload_n hx hb dL_isSound_216 rfl (lv_at hl 7 rfl) ?_
                    refine lv_icmp_lt (tgt := 224) hx hb dL_isSound_217 (by decide) (fun c217 => absurd c217 ((do_pos hG hil).mp (by omega))) (fun c217 => ?_)
                    refine lv_iconst (v := 1) hx hb dL_isSound_220 (by decide) ?_
                    refine lv_goto (tgt := 225) hx hb dL_isSound_221 (by decide) ?_
                    refine lv_icmp_ne (tgt := 251) hx hb dL_isSound_225 (by decide) (fun c225 => absurd c225 (by decide)) (fun c225 => ?_)
                    refine lv_aload_n hx hb dL_isSound_228 rfl (lv_at hl 6 rfl) ?_
                    refine lv_iload hx hb dL_isSound_229 (lv_at hl 4 rfl) ?_
                    refine lv_iload_n hx hb dL_isSound_231 rfl (lv_at hl 7 rfl) ?_
                    refine k_VF (As := [.int (nI i), .int (nI th)]) (rest := []) (pre := []) (mid := [ob E X (F, u203_2)]) C0 (o_duneOf l hfl E X (F, u203_2) i (nI th) (by first | assumption | omega) (by first | assumption | omega) (hth)) (cwV 2 hts gL_isSound_X6_duneOf rfl rfl rfl (by decide +kernel) ⟨Nat.le_of_ble_eq_true rfl, Nat.le_of_ble_eq_true rfl⟩) hw rfl hZ (fun (u232_5 : oT) => [ob E X u232_5]) (fun _ => rfl) 0 6 rfl rfl rfl rfl hl.1 rfl (Nat.le_of_ble_eq_true rfl) dL_isSound_232 ⟨Nat.le_of_ble_eq_true rfl, Nat.le_of_ble_eq_true rfl⟩ (fun r u232_5 H locs hq99 hw => ?_)
                    obtain ⟨r232, rfl⟩ : ∃ z, z = r := ⟨_, rfl⟩
                    have h232 : r232 = nI (doN F.1 F.2.1 F.2.2.2.2.2.2.1 (nI th) i) ∧ u232_5.1 = F ∧ u232_5.2.2.2 = u203_2.2.2 := hq99
                    obtain ⟨z9, u232_5⟩ := u232_5
                    have e9 : F = z9 := h232.2.1.symm
                    subst e9
                    have hw : kW E AA sx (List.flatten [ob E X (F, u232_5)]) H locs := hw
                    refine W.eq (g2 := F0 mm 235 ls [.int r232]) rfl ?_
                    refine W.eq (g2 := F0 mm 235 ls [.int (nI (doN F.1 F.2.1 F.2.2.2.2.2.2.1 (nI th) i))]) (congrArg (fun z9 => F0 mm 235 ls [.int z9]) (show (r232 : Int32) = nI (doN F.1 F.2.1 F.2.2.2.2.2.2.1 (nI th) i) from h232.1)) ?_
                    refine lv_aload_n hx hb dL_isSound_235 rfl (lv_at hl 6 rfl) ?_
                    refine lv_iload hx hb dL_isSound_236 (lv_at hl 4 rfl) ?_
                    refine lv_iload_n hx hb dL_isSound_238 rfl (lv_at hl 7 rfl) ?_
                    refine lv_iconst (v := 1) hx hb dL_isSound_239 (by decide) ?_
                    refine lv_iadd hx hb dL_isSound_240 ?_
                    refine W.eq (g2 := F0 mm 241 ls [.int (nI (th + 1)), .int (nI i), .ref X.1.1, .int (nI (doN F.1 F.2.1 F.2.2.2.2.2.2.1 (nI th) i))]) (congrArg (fun z9 => F0 mm 241 ls [.int z9, .int (nI i), .ref X.1.1, .int (nI (doN F.1 F.2.1 F.2.2.2.2.2.2.1 (nI th) i))]) (show ((nI th) + 1 : Int32) = nI (th + 1) from nI_1 _)) ?_
                    refine k_VF (As := [.int (nI i), .int (nI (th + 1))]) (rest := [.int (nI (doN F.1 F.2.1 F.2.2.2.2.2.2.1 (nI th) i))]) (pre := []) (mid := [ob E X (F, u232_5)]) C0 (o_duneOf l hfl E X (F, u232_5) i (nI (th + 1)) (by first | assumption | omega) (by first | assumption | omega) (hth2)) (cwV 2 hts gL_isSound_X6_duneOf rfl rfl rfl (by decide +kernel) ⟨Nat.le_of_ble_eq_true rfl, Nat.le_of_ble_eq_true rfl⟩) hw rfl hZ (fun (u241_5 : oT) => [ob E X u241_5]) (fun _ => rfl) 0 6 rfl rfl rfl rfl hl.1 rfl (Nat.le_of_ble_eq_true rfl) dL_isSound_241 ⟨Nat.le_of_ble_eq_true rfl, Nat.le_of_ble_eq_true rfl⟩ (fun r u241_5 H locs hq99 hw => ?_)
                    obtain ⟨r241, rfl⟩ : ∃ z, z = r := ⟨_, rfl⟩
                    have h241 : r241 = nI (doN F.1 F.2.1 F.2.2.2.2.2.2.1 (nI (th + 1)) i) ∧ u241_5.1 = F ∧ u241_5.2.2.2 = u232_5.2.2 := hq99
                    obtain ⟨z9, u241_5⟩ := u241_5
                    have e9 : F = z9 := h241.2.1.symm
                    subst e9
                    have hw : kW E AA sx (List.flatten [ob E X (F, u241_5)]) H locs := hw
                    refine W.eq (g2 := F0 mm 244 ls [.int r241, .int (nI (doN F.1 F.2.1 F.2.2.2.2.2.2.1 (nI th) i))]) rfl ?_
                    refine W.eq (g2 := F0 mm 244 ls [.int (nI (doN F.1 F.2.1 F.2.2.2.2.2.2.1 (nI (th + 1)) i)), .int (nI (doN F.1 F.2.1 F.2.2.2.2.2.2.1 (nI th) i))]) (congrArg (fun z9 => F0 mm 244 ls [.int z9, .int (nI (doN F.1 F.2.1 F.2.2.2.2.2.2.1 (nI th) i))]) (show (r241 : Int32) = nI (doN F.1 F.2.1 F.2.2.2.2.2.2.1 (nI (th + 1)) i) from h241.1)) ?_
                    refine lv_icmp_lt (tgt := 251) hx hb dL_isSound_244 (by decide) (fun c244 => absurd c244 (nI_nlt (do_mono hG hmo) (Nat.lt_of_le_of_lt (do_le hG) (by decide)))) (fun c244 => ?_)
                    have c244 : ¬ (doN F.1 F.2.1 F.2.2.2.2.2.2.1 (nI th) i) < (doN F.1 F.2.1 F.2.2.2.2.2.2.1 (nI (th + 1)) i) := fun h99 => c244 ((nI_ltI (a := (doN F.1 F.2.1 F.2.2.2.2.2.2.1 (nI th) i)) (b := (doN F.1 F.2.1 F.2.2.2.2.2.2.1 (nI (th + 1)) i)) (by omega) (by omega)).mpr h99)
                    refine lv_iconst (v := 1) hx hb dL_isSound_247 (by decide) ?_
                    refine lv_goto (tgt := 252) hx hb dL_isSound_248 (by decide) ?_
                    refine lv_istore_n (lv' := [(3, .int 1), (8, .int 0), (5, .int (nI (barN F.2.2.2.2.2.2.1 (i + 1)))), (4, .int (sumI F.2.2.2.2.2.2.1 (i + 1))), (7, .int (F.2.2.2.2.2.2.1 i)), (6, .int (nI i)), (0, .ref X.1.1), (1, .int (nI th))]) hx hb dL_isSound_252 rfl hl (by decide) rfl (fun ls hl => ?_)
                    refine lv_iinc (v := nI (i + 1)) (lv' := [(6, .int (nI (i + 1))), (3, .int 1), (8, .int 0), (5, .int (nI (barN F.2.2.2.2.2.2.1 (i + 1)))), (4, .int (sumI F.2.2.2.2.2.2.1 (i + 1))), (7, .int (F.2.2.2.2.2.2.1 i)), (0, .ref X.1.1), (1, .int (nI th))]) hx hb dL_isSound_253 hl (k := 5) rfl (nI_1 _) (by decide) rfl (fun ls hl => ?_)
                    refine lv_goto (tgt := 79) hx hb dL_isSound_256 (by decide) ?_
                    -- back 5
                    exact ih79 (i + 1) u241_5 (by first | assumption | omega) (h241.2.2.trans (h232.2.2.trans (h203.2.2.trans hV))) (by omega) H _ ls (lv_sub hl [0, 3, 4, 1, 6, 7] rfl) hw
                · have hq9 := fn_yes hFn c133
                  refine lv_iconst (v := 1) hx hb dL_isSound_136 (by decide) ?_
                  refine lv_goto (tgt := 141) hx hb dL_isSound_137 (by decide) ?_
                  refine lv_istore (lv' := [(8, .int 1), (5, .int (nI (barN F.2.2.2.2.2.2.1 (i + 1)))), (4, .int (sumI F.2.2.2.2.2.2.1 (i + 1))), (7, .int (F.2.2.2.2.2.2.1 i)), (6, .int (nI i)), (3, .int 1), (0, .ref X.1.1), (1, .int (nI th))]) hx hb dL_isSound_141 hl (by decide) rfl (fun ls hl => ?_)
                  refine lv_iload_n hx hb dL_isSound_143 rfl (lv_at hl 5 rfl) ?_
                  refine lv_if_eq (tgt := 251) hx hb dL_isSound_144 (by decide) (fun c144 => absurd c144 (by decide)) (fun c144 => ?_)
                  refine lv_iload hx hb dL_isSound_147 (lv_at hl 3 rfl) ?_
                  refine lv_if_lt (tgt := 251) hx hb dL_isSound_149 (by decide) (fun c149 => absurd c149 (by rw [ev9]; exact nI_pos (by omega))) (fun c149 => ?_)
                  refine lv_iload hx hb dL_isSound_152 (lv_at hl 3 rfl) ?_
                  refine lv_aload_n hx hb dL_isSound_154 rfl (lv_at hl 6 rfl) ?_
                  refine lv_iconst (v := 0) hx hb dL_isSound_155 (by decide) ?_
                  refine k_VF (As := [.int 0]) (rest := [.int (F.2.2.2.2.2.2.1 i)]) (pre := []) (mid := [ob E X (F, V)]) C0 (o_relief l hfl E X (F, V) 0 (by first | assumption | omega) (by first | assumption | omega)) (cwV 1 hts gL_isSound_X6_relief rfl rfl rfl (by decide +kernel) ⟨Nat.le_of_ble_eq_true rfl, Nat.le_of_ble_eq_true rfl⟩) hw rfl hZ (fun _ => [ob E X (F, V)]) (fun _ => rfl) 0 6 rfl rfl rfl rfl hl.1 rfl (Nat.le_of_ble_eq_true rfl) dL_isSound_156 ⟨Nat.le_of_ble_eq_true rfl, Nat.le_of_ble_eq_true rfl⟩ (fun r u H locs hq99 hw => ?_)
                  subst hq99
                  have hw : kW E AA sx (List.flatten [ob E X (F, V)]) H locs := hw
                  refine W.eq (g2 := F0 mm 159 ls [.int (rlfN F.1 F.2.1 F.2.2.2.2.2.2.1 0), .int (F.2.2.2.2.2.2.1 i)]) rfl ?_
                  refine lv_icmp_gt (tgt := 251) hx hb dL_isSound_159 (by decide) (fun c159 => absurd c159 (by rw [rlf_0]; exact Int32.not_lt.mpr (hi_max (f := F.2.2.2.2.2.2.1) (F.1 * F.2.1) i (by omega)))) (fun c159 => ?_)
                  refine lv_aload_n hx hb dL_isSound_162 rfl (lv_at hl 6 rfl) ?_
                  refine lv_iload hx hb dL_isSound_163 (lv_at hl 4 rfl) ?_
                  refine lv_iconst (v := 3) hx hb dL_isSound_165 (by decide) ?_
                  refine k_VF (As := [.int (nI i), .int 3]) (rest := []) (pre := []) (mid := [ob E X (F, V)]) C0 (o_cell l hfl E X (F, V) i 3 (by first | assumption | omega) (by first | assumption | omega) (by first | assumption | omega) (by first | assumption | omega)) (cwV 2 hts gL_isSound_X6_cell rfl rfl rfl (by decide +kernel) ⟨Nat.le_of_ble_eq_true rfl, Nat.le_of_ble_eq_true rfl⟩) hw rfl hZ (fun _ => [ob E X (F, V)]) (fun _ => rfl) 0 6 rfl rfl rfl rfl hl.1 rfl (Nat.le_of_ble_eq_true rfl) dL_isSound_166 ⟨Nat.le_of_ble_eq_true rfl, Nat.le_of_ble_eq_true rfl⟩ (fun r u H locs hq99 hw => ?_)
                  subst hq99
                  have hw : kW E AA sx (List.flatten [ob E X (F, V)]) H locs := hw
                  refine W.eq (g2 := F0 mm 169 ls [.int (cvN F.1 F.2.1 F.2.2.1 F.2.2.2.2.2.2.1 F.2.2.2.2.2.2.2.1 F.2.2.2.2.2.2.2.2.1 F.2.2.2.2.2.2.2.2.2.1 F.2.2.2.2.2.2.2.2.2.2.1 i 3)]) rfl ?_
                  refine W.eq (g2 := F0 mm 169 ls [.int (trpN F.2.2.2.2.2.2.2.2.2.1 F.2.2.2.2.2.2.2.2.2.2.1 i)]) (congrArg (fun z9 => F0 mm 169 ls [.int z9]) (show (cvN F.1 F.2.1 F.2.2.1 F.2.2.2.2.2.2.1 F.2.2.2.2.2.2.2.1 F.2.2.2.2.2.2.2.2.1 F.2.2.2.2.2.2.2.2.2.1 F.2.2.2.2.2.2.2.2.2.2.1 i 3 : Int32) = trpN F.2.2.2.2.2.2.2.2.2.1 F.2.2.2.2.2.2.2.2.2.2.1 i from rfl)) ?_
                  refine lv_aload_n hx hb dL_isSound_169 rfl (lv_at hl 6 rfl) ?_
                  refine lv_iload hx hb dL_isSound_170 (lv_at hl 4 rfl) ?_
                  refine lv_iconst (v := 2) hx hb dL_isSound_172 (by decide) ?_
                  refine k_VF (As := [.int (nI i), .int 2]) (rest := [.int (trpN F.2.2.2.2.2.2.2.2.2.1 F.2.2.2.2.2.2.2.2.2.2.1 i)]) (pre := []) (mid := [ob E X (F, V)]) C0 (o_cell l hfl E X (F, V) i 2 (by first | assumption | omega) (by first | assumption | omega) (by first | assumption | omega) (by first | assumption | omega)) (cwV 2 hts gL_isSound_X6_cell rfl rfl rfl (by decide +kernel) ⟨Nat.le_of_ble_eq_true rfl, Nat.le_of_ble_eq_true rfl⟩) hw rfl hZ (fun _ => [ob E X (F, V)]) (fun _ => rfl) 0 6 rfl rfl rfl rfl hl.1 rfl (Nat.le_of_ble_eq_true rfl) dL_isSound_173 ⟨Nat.le_of_ble_eq_true rfl, Nat.le_of_ble_eq_true rfl⟩ (fun r u H locs hq99 hw => ?_)
                  subst hq99
                  have hw : kW E AA sx (List.flatten [ob E X (F, V)]) H locs := hw
                  refine W.eq (g2 := F0 mm 176 ls [.int (cvN F.1 F.2.1 F.2.2.1 F.2.2.2.2.2.2.1 F.2.2.2.2.2.2.2.1 F.2.2.2.2.2.2.2.2.1 F.2.2.2.2.2.2.2.2.2.1 F.2.2.2.2.2.2.2.2.2.2.1 i 2), .int (trpN F.2.2.2.2.2.2.2.2.2.1 F.2.2.2.2.2.2.2.2.2.2.1 i)]) rfl ?_
                  refine W.eq (g2 := F0 mm 176 ls [.int (F.2.2.2.2.2.2.2.2.2.1 i), .int (trpN F.2.2.2.2.2.2.2.2.2.1 F.2.2.2.2.2.2.2.2.2.2.1 i)]) (congrArg (fun z9 => F0 mm 176 ls [.int z9, .int (trpN F.2.2.2.2.2.2.2.2.2.1 F.2.2.2.2.2.2.2.2.2.2.1 i)]) (show (cvN F.1 F.2.1 F.2.2.1 F.2.2.2.2.2.2.1 F.2.2.2.2.2.2.2.1 F.2.2.2.2.2.2.2.2.1 F.2.2.2.2.2.2.2.2.2.1 F.2.2.2.2.2.2.2.2.2.2.1 i 2 : Int32) = F.2.2.2.2.2.2.2.2.2.1 i from rfl)) ?_
                  refine lv_icmp_gt (tgt := 251) hx hb dL_isSound_176 (by decide) (fun c176 => absurd c176 (Int32.not_lt.mpr hq9.1)) (fun c176 => ?_)
                  refine lv_iload hx hb dL_isSound_179 (lv_at hl 0 rfl) ?_
                  refine lv_aload_n hx hb dL_isSound_181 rfl (lv_at hl 6 rfl) ?_
                  refine lv_iload hx hb dL_isSound_182 (lv_at hl 4 rfl) ?_
                  refine lv_iconst (v := 3) hx hb dL_isSound_184 (by decide) ?_
                  refine k_VF (As := [.int (nI i), .int 3]) (rest := [.int 1]) (pre := []) (mid := [ob E X (F, V)]) C0 (o_cell l hfl E X (F, V) i 3 (by first | assumption | omega) (by first | assumption | omega) (by first | assumption | omega) (by first | assumption | omega)) (cwV 2 hts gL_isSound_X6_cell rfl rfl rfl (by decide +kernel) ⟨Nat.le_of_ble_eq_true rfl, Nat.le_of_ble_eq_true rfl⟩) hw rfl hZ (fun _ => [ob E X (F, V)]) (fun _ => rfl) 0 6 rfl rfl rfl rfl hl.1 rfl (Nat.le_of_ble_eq_true rfl) dL_isSound_185 ⟨Nat.le_of_ble_eq_true rfl, Nat.le_of_ble_eq_true rfl⟩ (fun r u H locs hq99 hw => ?_)
                  subst hq99
                  have hw : kW E AA sx (List.flatten [ob E X (F, V)]) H locs := hw
                  refine W.eq (g2 := F0 mm 188 ls [.int (cvN F.1 F.2.1 F.2.2.1 F.2.2.2.2.2.2.1 F.2.2.2.2.2.2.2.1 F.2.2.2.2.2.2.2.2.1 F.2.2.2.2.2.2.2.2.2.1 F.2.2.2.2.2.2.2.2.2.2.1 i 3), .int 1]) rfl ?_
                  refine W.eq (g2 := F0 mm 188 ls [.int (trpN F.2.2.2.2.2.2.2.2.2.1 F.2.2.2.2.2.2.2.2.2.2.1 i), .int 1]) (congrArg (fun z9 => F0 mm 188 ls [.int z9, .int 1]) (show (cvN F.1 F.2.1 F.2.2.1 F.2.2.2.2.2.2.1 F.2.2.2.2.2.2.2.1 F.2.2.2.2.2.2.2.2.1 F.2.2.2.2.2.2.2.2.2.1 F.2.2.2.2.2.2.2.2.2.2.1 i 3 : Int32) = trpN F.2.2.2.2.2.2.2.2.2.1 F.2.2.2.2.2.2.2.2.2.2.1 i from rfl)) ?_
                  refine lv_if_lt (tgt := 195) hx hb dL_isSound_188 (by decide) (fun c188 => absurd c188 (hq9.2)) (fun c188 => ?_)
                  refine lv_iconst (v := 1) hx hb dL_isSound_191 (by decide) ?_
                  refine lv_goto (tgt := 196) hx hb dL_isSound_192 (by decide) ?_
                  refine lv_icmp_ne (tgt := 251) hx hb dL_isSound_196 (by decide) (fun c196 => absurd c196 (by decide)) (fun c196 => ?_)
                  refine lv_aload_n hx hb dL_isSound_199 rfl (lv_at hl 6 rfl) ?_
                  refine lv_iload hx hb dL_isSound_200 (lv_at hl 4 rfl) ?_
                  refine lv_iload_n hx hb dL_isSound_202 rfl (lv_at hl 7 rfl) ?_
                  refine k_VF (As := [.int (nI i), .int (nI th)]) (rest := []) (pre := []) (mid := [ob E X (F, V)]) C0 (o_duneOf l hfl E X (F, V) i (nI th) (by first | assumption | omega) (by first | assumption | omega) (hth)) (cwV 2 hts gL_isSound_X6_duneOf rfl rfl rfl (by decide +kernel) ⟨Nat.le_of_ble_eq_true rfl, Nat.le_of_ble_eq_true rfl⟩) hw rfl hZ (fun (u203_3 : oT) => [ob E X u203_3]) (fun _ => rfl) 0 6 rfl rfl rfl rfl hl.1 rfl (Nat.le_of_ble_eq_true rfl) dL_isSound_203 ⟨Nat.le_of_ble_eq_true rfl, Nat.le_of_ble_eq_true rfl⟩ (fun r u203_3 H locs hq99 hw => ?_)
                  obtain ⟨r203, rfl⟩ : ∃ z, z = r := ⟨_, rfl⟩
                  have h203 : r203 = nI (doN F.1 F.2.1 F.2.2.2.2.2.2.1 (nI th) i) ∧ u203_3.1 = F ∧ u203_3.2.2.2 = V.2.2 := hq99
                  obtain ⟨z9, u203_3⟩ := u203_3
                  have e9 : F = z9 := h203.2.1.symm
                  subst e9
                  have hw : kW E AA sx (List.flatten [ob E X (F, u203_3)]) H locs := hw
                  refine W.eq (g2 := F0 mm 206 ls [.int r203]) rfl ?_
                  refine W.eq (g2 := F0 mm 206 ls [.int (nI (doN F.1 F.2.1 F.2.2.2.2.2.2.1 (nI th) i))]) (congrArg (fun z9 => F0 mm 206 ls [.int z9]) (show (r203 : Int32) = nI (doN F.1 F.2.1 F.2.2.2.2.2.2.1 (nI th) i) from h203.1)) ?_
                  refine lv_if_le (tgt := 213) hx hb dL_isSound_206 (by decide) (fun c206 => ?_) (fun c206 => ?_)
                  · have c206 : (doN F.1 F.2.1 F.2.2.2.2.2.2.1 (nI th) i) ≤ 0 := (nI_leI (a := (doN F.1 F.2.1 F.2.2.2.2.2.2.1 (nI th) i)) (b := 0) (by omega) (by omega)).mp c206
                    refine lv_iconst (v := 0) hx hb dL_isSound_213 (by decide) ?_
                    refine lv_iload hx hb dL_isSound_214 (lv_at hl 3 rfl) ?_
                    refine lv_iload_n hx hb dL_isSound_216 rfl (lv_at hl 7 rfl) ?_
                    refine lv_icmp_lt (tgt := 224) hx hb dL_isSound_217 (by decide) (fun c217 => ?_) (fun c217 => False.elim (absurd ((do_pos hG hil).mpr c217) (by omega)))
                    refine lv_iconst (v := 0) hx hb dL_isSound_224 (by decide) ?_
                    refine lv_icmp_ne (tgt := 251) hx hb dL_isSound_225 (by decide) (fun c225 => absurd c225 (by decide)) (fun c225 => ?_)
                    refine lv_aload_n hx hb dL_isSound_228 rfl (lv_at hl 6 rfl) ?_
                    refine lv_iload hx hb dL_isSound_229 (lv_at hl 4 rfl) ?_
                    refine lv_iload_n hx hb dL_isSound_231 rfl (lv_at hl 7 rfl) ?_
                    refine k_VF (As := [.int (nI i), .int (nI th)]) (rest := []) (pre := []) (mid := [ob E X (F, u203_3)]) C0 (o_duneOf l hfl E X (F, u203_3) i (nI th) (by first | assumption | omega) (by first | assumption | omega) (hth)) (cwV 2 hts gL_isSound_X6_duneOf rfl rfl rfl (by decide +kernel) ⟨Nat.le_of_ble_eq_true rfl, Nat.le_of_ble_eq_true rfl⟩) hw rfl hZ (fun (u232_6 : oT) => [ob E X u232_6]) (fun _ => rfl) 0 6 rfl rfl rfl rfl hl.1 rfl (Nat.le_of_ble_eq_true rfl) dL_isSound_232 ⟨Nat.le_of_ble_eq_true rfl, Nat.le_of_ble_eq_true rfl⟩ (fun r u232_6 H locs hq99 hw => ?_)
                    obtain ⟨r232, rfl⟩ : ∃ z, z = r := ⟨_, rfl⟩
                    have h232 : r232 = nI (doN F.1 F.2.1 F.2.2.2.2.2.2.1 (nI th) i) ∧ u232_6.1 = F ∧ u232_6.2.2.2 = u203_3.2.2 := hq99
                    obtain ⟨z9, u232_6⟩ := u232_6
                    have e9 : F = z9 := h232.2.1.symm
                    subst e9
                    have hw : kW E AA sx (List.flatten [ob E X (F, u232_6)]) H locs := hw
                    refine W.eq (g2 := F0 mm 235 ls [.int r232]) rfl ?_
                    refine W.eq (g2 := F0 mm 235 ls [.int (nI (doN F.1 F.2.1 F.2.2.2.2.2.2.1 (nI th) i))]) (congrArg (fun z9 => F0 mm 235 ls [.int z9]) (show (r232 : Int32) = nI (doN F.1 F.2.1 F.2.2.2.2.2.2.1 (nI th) i) from h232.1)) ?_
                    refine lv_aload_n hx hb dL_isSound_235 rfl (lv_at hl 6 rfl) ?_
                    refine lv_iload hx hb dL_isSound_236 (lv_at hl 4 rfl) ?_
                    refine lv_iload_n hx hb dL_isSound_238 rfl (lv_at hl 7 rfl) ?_
                    refine lv_iconst (v := 1) hx hb dL_isSound_239 (by decide) ?_
                    refine lv_iadd hx hb dL_isSound_240 ?_
                    refine W.eq (g2 := F0 mm 241 ls [.int (nI (th + 1)), .int (nI i), .ref X.1.1, .int (nI (doN F.1 F.2.1 F.2.2.2.2.2.2.1 (nI th) i))]) (congrArg (fun z9 => F0 mm 241 ls [.int z9, .int (nI i), .ref X.1.1, .int (nI (doN F.1 F.2.1 F.2.2.2.2.2.2.1 (nI th) i))]) (show ((nI th) + 1 : Int32) = nI (th + 1) from nI_1 _)) ?_
                    refine k_VF (As := [.int (nI i), .int (nI (th + 1))]) (rest := [.int (nI (doN F.1 F.2.1 F.2.2.2.2.2.2.1 (nI th) i))]) (pre := []) (mid := [ob E X (F, u232_6)]) C0 (o_duneOf l hfl E X (F, u232_6) i (nI (th + 1)) (by first | assumption | omega) (by first | assumption | omega) (hth2)) (cwV 2 hts gL_isSound_X6_duneOf rfl rfl rfl (by decide +kernel) ⟨Nat.le_of_ble_eq_true rfl, Nat.le_of_ble_eq_true rfl⟩) hw rfl hZ (fun (u241_6 : oT) => [ob E X u241_6]) (fun _ => rfl) 0 6 rfl rfl rfl rfl hl.1 rfl (Nat.le_of_ble_eq_true rfl) dL_isSound_241 ⟨Nat.le_of_ble_eq_true rfl, Nat.le_of_ble_eq_true rfl⟩ (fun r u241_6 H locs hq99 hw => ?_)
                    obtain ⟨r241, rfl⟩ : ∃ z, z = r := ⟨_, rfl⟩
                    have h241 : r241 = nI (doN F.1 F.2.1 F.2.2.2.2.2.2.1 (nI (th + 1)) i) ∧ u241_6.1 = F ∧ u241_6.2.2.2 = u232_6.2.2 := hq99
                    obtain ⟨z9, u241_6⟩ := u241_6
                    have e9 : F = z9 := h241.2.1.symm
                    subst e9
                    have hw : kW E AA sx (List.flatten [ob E X (F, u241_6)]) H locs := hw
                    refine W.eq (g2 := F0 mm 244 ls [.int r241, .int (nI (doN F.1 F.2.1 F.2.2.2.2.2.2.1 (nI th) i))]) rfl ?_
                    refine W.eq (g2 := F0 mm 244 ls [.int (nI (doN F.1 F.2.1 F.2.2.2.2.2.2.1 (nI (th + 1)) i)), .int (nI (doN F.1 F.2.1 F.2.2.2.2.2.2.1 (nI th) i))]) (congrArg (fun z9 => F0 mm 244 ls [.int z9, .int (nI (doN F.1 F.2.1 F.2.2.2.2.2.2.1 (nI th) i))]) (show (r241 : Int32) = nI (doN F.1 F.2.1 F.2.2.2.2.2.2.1 (nI (th + 1)) i) from h241.1)) ?_
                    refine lv_icmp_lt (tgt := 251) hx hb dL_isSound_244 (by decide) (fun c244 => absurd c244 (nI_nlt (do_mono hG hmo) (Nat.lt_of_le_of_lt (do_le hG) (by decide)))) (fun c244 => ?_)
                    have c244 : ¬ (doN F.1 F.2.1 F.2.2.2.2.2.2.1 (nI th) i) < (doN F.1 F.2.1 F.2.2.2.2.2.2.1 (nI (th + 1)) i) := fun h99 => c244 ((nI_ltI (a := (doN F.1 F.2.1 F.2.2.2.2.2.2.1 (nI th) i)) (b := (doN F.1 F.2.1 F.2.2.2.2.2.2.1 (nI (th + 1)) i)) (by omega) (by omega)).mpr h99)
                    refine lv_iconst (v := 1) hx hb dL_isSound_247 (by decide) ?_
                    refine lv_goto (tgt := 252) hx hb dL_isSound_248 (by decide) ?_
                    refine lv_istore_n (lv' := [(3, .int 1), (8, .int 1), (5, .int (nI (barN F.2.2.2.2.2.2.1 (i + 1)))), (4, .int (sumI F.2.2.2.2.2.2.1 (i + 1))), (7, .int (F.2.2.2.2.2.2.1 i)), (6, .int (nI i)), (0, .ref X.1.1), (1, .int (nI th))]) hx hb dL_isSound_252 rfl hl (by decide) rfl (fun ls hl => ?_)
                    refine lv_iinc (v := nI (i + 1)) (lv' := [(6, .int (nI (i + 1))), (3, .int 1), (8, .int 1), (5, .int (nI (barN F.2.2.2.2.2.2.1 (i + 1)))), (4, .int (sumI F.2.2.2.2.2.2.1 (i + 1))), (7, .int (F.2.2.2.2.2.2.1 i)), (0, .ref X.1.1), (1, .int (nI th))]) hx hb dL_isSound_253 hl (k := 5) rfl (nI_1 _) (by decide) rfl (fun ls hl => ?_)
                    refine lv_goto (tgt := 79) hx hb dL_isSound_256 (by decide) ?_
                    -- back 6
                    exact ih79 (i + 1) u241_6 (by first | assumption | omega) (h241.2.2.trans (h232.2.2.trans (h203.2.2.trans hV))) (by omega) H _ ls (lv_sub hl [0, 3, 4, 1, 6, 7] rfl) hw
                  · have c206 : ¬ (doN F.1 F.2.1 F.2.2.2.2.2.2.1 (nI th) i) ≤ 0 := fun h99 => c206 ((nI_leI (a := (doN F.1 F.2.1 F.2.2.2.2.2.2.1 (nI th) i)) (b := 0) (by omega) (by omega)).mpr h99)
                    refine lv_iconst (v := 1) hx hb dL_isSound_209 (by decide) ?_
                    refine lv_goto (tgt := 214) hx hb dL_isSound_210 (by decide) ?_
                    refine lv_iload hx hb dL_isSound_214 (lv_at hl 3 rfl) ?_
                    refine lv_iload_n hx hb dL_isSound_216 rfl (lv_at hl 7 rfl) ?_
                    refine lv_icmp_lt (tgt := 224) hx hb dL_isSound_217 (by decide) (fun c217 => absurd c217 ((do_pos hG hil).mp (by omega))) (fun c217 => ?_)
                    refine lv_iconst (v := 1) hx hb dL_isSound_220 (by decide) ?_
                    refine lv_goto (tgt := 225) hx hb dL_isSound_221 (by decide) ?_
                    refine lv_icmp_ne (tgt := 251) hx hb dL_isSound_225 (by decide) (fun c225 => absurd c225 (by decide)) (fun c225 => ?_)
                    refine lv_aload_n hx hb dL_isSound_228 rfl (lv_at hl 6 rfl) ?_
                    refine lv_iload hx hb dL_isSound_229 (lv_at hl 4 rfl) ?_
                    refine lv_iload_n hx hb dL_isSound_231 rfl (lv_at hl 7 rfl) ?_
                    refine k_VF (As := [.int (nI i), .int (nI th)]) (rest := []) (pre := []) (mid := [ob E X (F, u203_3)]) C0 (o_duneOf l hfl E X (F, u203_3) i (nI th) (by first | assumption | omega) (by first | assumption | omega) (hth)) (cwV 2 hts gL_isSound_X6_duneOf rfl rfl rfl (by decide +kernel) ⟨Nat.le_of_ble_eq_true rfl, Nat.le_of_ble_eq_true rfl⟩) hw rfl hZ (fun (u232_7 : oT) => [ob E X u232_7]) (fun _ => rfl) 0 6 rfl rfl rfl rfl hl.1 rfl (Nat.le_of_ble_eq_true rfl) dL_isSound_232 ⟨Nat.le_of_ble_eq_true rfl, Nat.le_of_ble_eq_true rfl⟩ (fun r u232_7 H locs hq99 hw => ?_)
                    obtain ⟨r232, rfl⟩ : ∃ z, z = r := ⟨_, rfl⟩
                    have h232 : r232 = nI (doN F.1 F.2.1 F.2.2.2.2.2.2.1 (nI th) i) ∧ u232_7.1 = F ∧ u232_7.2.2.2 = u203_3.2.2 := hq99
                    obtain ⟨z9, u232_7⟩ := u232_7
                    have e9 : F = z9 := h232.2.1.symm
                    subst e9
                    have hw : kW E AA sx (List.flatten [ob E X (F, u232_7)]) H locs := hw
                    refine W.eq (g2 := F0 mm 235 ls [.int r232]) rfl ?_
                    refine W.eq (g2 := F0 mm 235 ls [.int (nI (doN F.1 F.2.1 F.2.2.2.2.2.2.1 (nI th) i))]) (congrArg (fun z9 => F0 mm 235 ls [.int z9]) (show (r232 : Int32) = nI (doN F.1 F.2.1 F.2.2.2.2.2.2.1 (nI th) i) from h232.1)) ?_
                    refine lv_aload_n hx hb dL_isSound_235 rfl (lv_at hl 6 rfl) ?_
                    refine lv_iload hx hb dL_isSound_236 (lv_at hl 4 rfl) ?_
                    refine lv_iload_n hx hb dL_isSound_238 rfl (lv_at hl 7 rfl) ?_
                    refine lv_iconst (v := 1) hx hb dL_isSound_239 (by decide) ?_
                    refine lv_iadd hx hb dL_isSound_240 ?_
                    refine W.eq (g2 := F0 mm 241 ls [.int (nI (th + 1)), .int (nI i), .ref X.1.1, .int (nI (doN F.1 F.2.1 F.2.2.2.2.2.2.1 (nI th) i))]) (congrArg (fun z9 => F0 mm 241 ls [.int z9, .int (nI i), .ref X.1.1, .int (nI (doN F.1 F.2.1 F.2.2.2.2.2.2.1 (nI th) i))]) (show ((nI th) + 1 : Int32) = nI (th + 1) from nI_1 _)) ?_
                    refine k_VF (As := [.int (nI i), .int (nI (th + 1))]) (rest := [.int (nI (doN F.1 F.2.1 F.2.2.2.2.2.2.1 (nI th) i))]) (pre := []) (mid := [ob E X (F, u232_7)]) C0 (o_duneOf l hfl E X (F, u232_7) i (nI (th + 1)) (by first | assumption | omega) (by first | assumption | omega) (hth2)) (cwV 2 hts gL_isSound_X6_duneOf rfl rfl rfl (by decide +kernel) ⟨Nat.le_of_ble_eq_true rfl, Nat.le_of_ble_eq_true rfl⟩) hw rfl hZ (fun (u241_7 : oT) => [ob E X u241_7]) (fun _ => rfl) 0 6 rfl rfl rfl rfl hl.1 rfl (Nat.le_of_ble_eq_true rfl) dL_isSound_241 ⟨Nat.le_of_ble_eq_true rfl, Nat.le_of_ble_eq_true rfl⟩ (fun r u241_7 H locs hq99 hw => ?_)
                    obtain ⟨r241, rfl⟩ : ∃ z, z = r := ⟨_, rfl⟩
                    have h241 : r241 = nI (doN F.1 F.2.1 F.2.2.2.2.2.2.1 (nI (th + 1)) i) ∧ u241_7.1 = F ∧ u241_7.2.2.2 = u232_7.2.2 := hq99
                    obtain ⟨z9, u241_7⟩ := u241_7
                    have e9 : F = z9 := h241.2.1.symm
                    subst e9
                    have hw : kW E AA sx (List.flatten [ob E X (F, u241_7)]) H locs := hw
                    refine W.eq (g2 := F0 mm 244 ls [.int r241, .int (nI (doN F.1 F.2.1 F.2.2.2.2.2.2.1 (nI th) i))]) rfl ?_
                    refine W.eq (g2 := F0 mm 244 ls [.int (nI (doN F.1 F.2.1 F.2.2.2.2.2.2.1 (nI (th + 1)) i)), .int (nI (doN F.1 F.2.1 F.2.2.2.2.2.2.1 (nI th) i))]) (congrArg (fun z9 => F0 mm 244 ls [.int z9, .int (nI (doN F.1 F.2.1 F.2.2.2.2.2.2.1 (nI th) i))]) (show (r241 : Int32) = nI (doN F.1 F.2.1 F.2.2.2.2.2.2.1 (nI (th + 1)) i) from h241.1)) ?_
                    refine lv_icmp_lt (tgt := 251) hx hb dL_isSound_244 (by decide) (fun c244 => absurd c244 (nI_nlt (do_mono hG hmo) (Nat.lt_of_le_of_lt (do_le hG) (by decide)))) (fun c244 => ?_)
                    have c244 : ¬ (doN F.1 F.2.1 F.2.2.2.2.2.2.1 (nI th) i) < (doN F.1 F.2.1 F.2.2.2.2.2.2.1 (nI (th + 1)) i) := fun h99 => c244 ((nI_ltI (a := (doN F.1 F.2.1 F.2.2.2.2.2.2.1 (nI th) i)) (b := (doN F.1 F.2.1 F.2.2.2.2.2.2.1 (nI (th + 1)) i)) (by omega) (by omega)).mpr h99)
                    refine lv_iconst (v := 1) hx hb dL_isSound_247 (by decide) ?_
                    refine lv_goto (tgt := 252) hx hb dL_isSound_248 (by decide) ?_
                    refine lv_istore_n (lv' := [(3, .int 1), (8, .int 1), (5, .int (nI (barN F.2.2.2.2.2.2.1 (i + 1)))), (4, .int (sumI F.2.2.2.2.2.2.1 (i + 1))), (7, .int (F.2.2.2.2.2.2.1 i)), (6, .int (nI i)), (0, .ref X.1.1), (1, .int (nI th))]) hx hb dL_isSound_252 rfl hl (by decide) rfl (fun ls hl => ?_)
                    refine lv_iinc (v := nI (i + 1)) (lv' := [(6, .int (nI (i + 1))), (3, .int 1), (8, .int 1), (5, .int (nI (barN F.2.2.2.2.2.2.1 (i + 1)))), (4, .int (sumI F.2.2.2.2.2.2.1 (i + 1))), (7, .int (F.2.2.2.2.2.2.1 i)), (0, .ref X.1.1), (1, .int (nI th))]) hx hb dL_isSound_253 hl (k := 5) rfl (nI_1 _) (by decide) rfl (fun ls hl => ?_)
                    refine lv_goto (tgt := 79) hx hb dL_isSound_256 (by decide) ?_
                    -- back 7
                    exact ih79 (i + 1) u241_7 (by first | assumption | omega) (h241.2.2.trans (h232.2.2.trans (h203.2.2.trans hV))) (by omega) H _ ls (lv_sub hl [0, 3, 4, 1, 6, 7] rfl) hw
        exact loop79 ((F.1 * F.2.1 - 0) + 1) 0 J (Nat.zero_le _) (rfl) (Nat.lt_succ_self _) H _ ls (lv_sub hl [0, 1, 2, 3, 5, 6] rfl) hw
      · have c7 : ¬ 9 ≤ (q + 1) := fun h99 => c7 ((nI_leI (a := 9) (b := (q + 1)) (by omega) (by omega)).mpr h99)
        refine lv_iload_n hx hb dL_isSound_10 rfl (lv_at hl 1 rfl) ?_
        refine lv_aload_n hx hb dL_isSound_11 rfl (lv_at hl 2 rfl) ?_
        refine lv_iload_n hx hb dL_isSound_12 rfl (lv_at hl 0 rfl) ?_
        refine k_VF (As := [.int (nI (q + 1))]) (rest := [.int (sumI (fun j => F.2.2.2.2.2.2.2.2.2.2.2.1 (j + 1)) q)]) (pre := []) (mid := [ob E X (F, J)]) C0 (o_count l hfl E X (F, J) (q + 1) (by first | assumption | omega)) (cwV 1 hts gL_isSound_X6_count rfl rfl rfl (by decide +kernel) ⟨Nat.le_of_ble_eq_true rfl, Nat.le_of_ble_eq_true rfl⟩) hw rfl hZ (fun _ => [ob E X (F, J)]) (fun _ => rfl) 0 6 rfl rfl rfl rfl hl.1 rfl (Nat.le_of_ble_eq_true rfl) dL_isSound_13 ⟨Nat.le_of_ble_eq_true rfl, Nat.le_of_ble_eq_true rfl⟩ (fun r u H locs hq99 hw => ?_)
        subst hq99
        have hw : kW E AA sx (List.flatten [ob E X (F, J)]) H locs := hw
        refine W.eq (g2 := F0 mm 16 ls [.int (F.2.2.2.2.2.2.2.2.2.2.2.1 (q + 1)), .int (sumI (fun j => F.2.2.2.2.2.2.2.2.2.2.2.1 (j + 1)) q)]) rfl ?_
        refine lv_iadd hx hb dL_isSound_16 ?_
        refine W.eq (g2 := F0 mm 17 ls [.int (sumI (fun j => F.2.2.2.2.2.2.2.2.2.2.2.1 (j + 1)) (q + 1))]) (congrArg (fun z9 => F0 mm 17 ls [.int z9]) (show ((sumI (fun j => F.2.2.2.2.2.2.2.2.2.2.2.1 (j + 1)) q) + (F.2.2.2.2.2.2.2.2.2.2.2.1 (q + 1)) : Int32) = sumI (fun j => F.2.2.2.2.2.2.2.2.2.2.2.1 (j + 1)) (q + 1) from rfl)) ?_
        refine lv_istore_n (lv' := [(2, .int (sumI (fun j => F.2.2.2.2.2.2.2.2.2.2.2.1 (j + 1)) (q + 1))), (3, .int (nI (q + 1))), (0, .ref X.1.1), (1, .int (nI th))]) hx hb dL_isSound_17 rfl hl (by decide) rfl (fun ls hl => ?_)
        refine lv_iinc (v := nI (q + 1 + 1)) (lv' := [(3, .int (nI (q + 1 + 1))), (2, .int (sumI (fun j => F.2.2.2.2.2.2.2.2.2.2.2.1 (j + 1)) (q + 1))), (0, .ref X.1.1), (1, .int (nI th))]) hx hb dL_isSound_18 hl (k := 1) rfl (nI_1 _) (by decide) rfl (fun ls hl => ?_)
        refine lv_goto (tgt := 4) hx hb dL_isSound_21 (by decide) ?_
        -- back 0
        exact ih4 (q + 1) (by first | assumption | omega) (by omega) H _ ls (lv_sub hl [0, 1, 2, 3] rfl) hw
  exact loop4 ((8 - 0) + 1) 0 (Nat.zero_le _) (Nat.lt_succ_self _) H _ ls (lv_sub hl [0, 1, 2, 3] rfl) hw
