/-! the greatest sum; what public methods say of dunes -/
def mxS (f : Nat → Int32) : Nat → Int32
  | 0 => 0
  | n + 1 => kmax (mxS f n) (f (n + 1))
theorem mxS_c {f g : Nat → Int32} : ∀ n, (∀ v, 1 ≤ v → v ≤ n → f v = g v) → mxS f n = mxS g n
  | 0, _ => rfl
  | n + 1, h => by
    have h1 := mxS_c n (fun v a b => h v a (by omega))
    show kmax (mxS f n) (f (n + 1)) = kmax (mxS g n) (g (n + 1))
    rw [h1, h (n + 1) (by omega) (by omega)]
/-- the number of dunes; the greatest dune's slabs; the size of the dune around k -/
noncomputable def dnN (h w : Nat) (he : Nat → Int32) (t : Int32) : Nat := (dnL h w he t (h * w)).2
noncomputable def gdN (h w : Nat) (he : Nat → Int32) (t : Int32) : Int32 := mxS (fun v => sumL he (dnL h w he t (h * w)).1 v (h * w)) (dnL h w he t (h * w)).2
noncomputable def doN (h w : Nat) (he : Nat → Int32) (t : Int32) (k : Nat) : Nat := if (dnL h w he t (h * w)).1 k = 0 then 0 else cntL (dnL h w he t (h * w)).1 ((dnL h w he t (h * w)).1 k) (h * w)
theorem fnR_gd {h w : Nat} {he : Nat → Int32} {t : Int32} {D Z M : Nat → Int32} (hF : fnR h w he t (h * w) D Z M) : mxS M (dnL h w he t (h * w)).2 = gdN h w he t := mxS_c _ (fun v a b => (hF.2.1 v a b).2)
theorem fnR_do {h w k : Nat} {he : Nat → Int32} {t : Int32} {D Z M : Nat → Int32} (hF : fnR h w he t (h * w) D Z M) : Z ((dnL h w he t (h * w)).1 k) = nI (doN h w he t k) := by
  unfold doN
  by_cases h0 : (dnL h w he t (h * w)).1 k = 0
  · rw [if_pos h0, h0]
    exact (hF.2.2 0 (Or.inl rfl)).1
  · rw [if_neg h0]
    exact (hF.2.1 _ (by omega) (dnL_lb _ _)).1
/-- a row of numbers, hashed -/
def dgF (f : Nat → Int32) (x : Int64) : Nat → Int64
  | 0 => x
  | n + 1 => 31 * dgF f x n + (f n).toInt64
theorem dgF_s (f : Nat → Int32) (x : Int64) (n : Nat) : dgF f x (n + 1) = 31 * dgF f x n + (f n).toInt64 := rfl
/-- rows of six numbers, hashed -/
def dgC (g : Nat → Nat → Int32) (x : Int64) : Nat → Int64
  | 0 => x
  | n + 1 => dgF (g n) (dgC g x n) 6
theorem dgC_s (g : Nat → Nat → Int32) (x : Int64) (n : Nat) : dgC g x (n + 1) = dgF (g n) (dgC g x n) 6 := rfl
abbrev rmX0_mostSlabs : Room := { frames := 1, cells := 0, slots := 0, locals := 21 }
set_option maxHeartbeats 4000000 in
set_option maxRecDepth 100000 in
theorem c_X0_mostSlabs (l : Launch) (E : kE) (b : Nat → Nat) (dn : Nat → Int32) (sz : Nat → Int32) (sm : Nat → Int32) (qu : Nat → Int32) (num : Nat) (hnum : num ≤ 192) : kC E l yX0_mostSlabs wsX0_mostSlabs rmX0_mostSlabs [.ref (b 0)] (dm E b dn sz sm qu (nI num)) kI (fun (r : Int32) (_ : Unit) => r = mxS sm num) (fun _ => dm E b dn sz sm qu (nI num)) 0 0 := by
  refine k_body (cc := cX0_mostSlabs) (maxL := 3) (ret := (some .int)) (by decide) rfl (Nat.le_of_ble_eq_true rfl) ?_
  intro pp ee sx mm aa bb me cd H locs AA ls C0 hr hlk hnm hl hw
  obtain ⟨hx, hb, hml, hown, hts⟩ := id C0
  have hl : lv_has ls 3 [(0, .ref (b 0))] := hl
  have hw : kW E AA sx (List.flatten [oc (b 0) 0 [.ref (b 1), .ref (b 2), .ref (b 3), .ref (b 4), .int (nI num)], rc E (b 1) (b 5) 192 dn, rc E (b 2) (b 6) 193 sz, rc E (b 3) (b 7) 193 sm, rc E (b 4) (b 8) 192 qu]) H locs := hw
  have hinX0 : ∀ w ∈ u_ws RX0 TX0 5, w ∈ wsX0_mostSlabs := by decide +kernel
  refine lv_iconst (v := 0) hx hb dX0_mostSlabs_0 (by decide) ?_
  refine lv_istore_n (lv' := [(1, .int 0), (0, .ref (b 0))]) hx hb dX0_mostSlabs_1 rfl hl (by decide) rfl (fun ls hl => ?_)
  refine lv_iconst (v := 1) hx hb dX0_mostSlabs_2 (by decide) ?_
  refine lv_istore_n (lv' := [(2, .int 1), (1, .int 0), (0, .ref (b 0))]) hx hb dX0_mostSlabs_3 rfl hl (by decide) rfl (fun ls hl => ?_)
  have loop4 : ∀ (nn : Nat) (i : Nat) (x : Int32), (i ≤ num) → (x = mxS sm i) → num - i < nn → ∀ (H : Heap) (locs : List Loc) (ls : Array Slot), lv_has ls 3 [(2, .int (nI (i + 1))), (1, .int x), (0, .ref (b 0))] → kW E AA sx (List.flatten [oc (b 0) 0 [.ref (b 1), .ref (b 2), .ref (b 3), .ref (b 4), .int (nI num)], rc E (b 1) (b 5) 192 dn, rc E (b 2) (b 6) 193 sz, rc E (b 3) (b 7) 193 sm, rc E (b 4) (b 8) 192 qu]) H locs → W pp l ee rmX0_mostSlabs sx mm aa bb me cd H locs 0 0 (kEnd E kI (fun (r : Int32) (_ : Unit) => r = mxS sm num) (fun _ => dm E b dn sz sm qu (nI num)) bb aa sx AA 0 0) (F0 mm 4 ls []) := by
    intro nn
    induction nn with
    | zero => intro i x hi hxx hm4; exact absurd hm4 (Nat.not_lt_zero _)
    | succ nn ih4 =>
      intro i x hi hxx hm4 H locs ls hl hw
      refine lv_iload_n hx hb dX0_mostSlabs_4 rfl (lv_at hl 0 rfl) ?_
      refine lv_aload_n hx hb dX0_mostSlabs_5 rfl (lv_at hl 2 rfl) ?_
      refine k_get (pre := []) C0 hw hinX0 rfl 4 (by decide) (hts (.fieldLink RX0 32 "SlabDunes$DuneMap" "found" "I") (by decide +kernel)) rfl rfl dX0_mostSlabs_6 ?_
      refine lv_icmp_gt (tgt := 31) hx hb dX0_mostSlabs_9 (by decide) (fun c9 => ?_) (fun c9 => ?_)
      · have c9 : num < (i + 1) := (nI_ltI (a := num) (b := (i + 1)) (by omega) (by omega)).mp c9
        refine lv_iload_n hx hb dX0_mostSlabs_31 rfl (lv_at hl 1 rfl) ?_
        -- leaf 0
        exact k_iret C0 hr hlk hw () (rfl) (by rw [hxx, show i = num by omega]) (Nat.le_of_ble_eq_true rfl) (Nat.le_of_ble_eq_true rfl) dX0_mostSlabs_32
      · have c9 : ¬ num < (i + 1) := fun h99 => c9 ((nI_ltI (a := num) (b := (i + 1)) (by omega) (by omega)).mpr h99)
        refine lv_iload_n hx hb dX0_mostSlabs_12 rfl (lv_at hl 1 rfl) ?_
        refine lv_aload_n hx hb dX0_mostSlabs_13 rfl (lv_at hl 2 rfl) ?_
        refine k_get (pre := []) C0 hw hinX0 rfl 2 (by decide) (hts (.fieldLink RX0 23 "SlabDunes$DuneMap" "sums" "LSlabDunes$Row;") (by decide +kernel)) rfl rfl dX0_mostSlabs_14 ?_
        refine lv_iload_n hx hb dX0_mostSlabs_17 rfl (lv_at hl 0 rfl) ?_
        refine k_V (As := [.int (nI (i + 1))]) (rest := [.int x]) (pre := [oc (b 0) 0 [.ref (b 1), .ref (b 2), .ref (b 3), .ref (b 4), .int (nI num)], rc E (b 1) (b 5) 192 dn, rc E (b 2) (b 6) 193 sz]) (mid := [rc E (b 3) (b 7) 193 sm]) C0 (c_X4_atN l E (b 3) (b 7) 193 sm (i + 1) (by first | assumption | omega) (by first | assumption | omega)) (cwV 1 hts gX0_mostSlabs_X4_at rfl rfl rfl (by decide +kernel) ⟨Nat.le_of_ble_eq_true rfl, Nat.le_of_ble_eq_true rfl⟩) hw rfl (fun _ => [rc E (b 3) (b 7) 193 sm]) (fun _ => rfl) 0 4 rfl rfl rfl rfl hl.1 rfl (Nat.le_of_ble_eq_true rfl) dX0_mostSlabs_18 ⟨Nat.le_of_ble_eq_true rfl, Nat.le_of_ble_eq_true rfl⟩ (fun r u H locs hq99 hw => ?_)
        subst hq99
        have hw : kW E AA sx (List.flatten [oc (b 0) 0 [.ref (b 1), .ref (b 2), .ref (b 3), .ref (b 4), .int (nI num)], rc E (b 1) (b 5) 192 dn, rc E (b 2) (b 6) 193 sz, rc E (b 3) (b 7) 193 sm, rc E (b 4) (b 8) 192 qu]) H locs := hw
        refine W.eq (g2 := F0 mm 21 ls [.int (sm (i + 1)), .int x]) rfl ?_
        refine va_mmax hx hb (by rw [hml]; exact hl.1.symm) hown (hts (.methodLink RX0 64 Lib.Math.max.name) (by decide +kernel)) (hts (.static Lib.Math.max.name) (by decide +kernel)) (hts (.initialized "java/lang/Math") (by decide +kernel)) (hts (.code Lib.Math.max.name Lib.Math.max.code 2 (some .int)) (by decide +kernel)) (Nat.le_of_ble_eq_true rfl) (Nat.le_of_ble_eq_true rfl) (Nat.le_of_ble_eq_true rfl) (Nat.le_of_ble_eq_true rfl) dX0_mostSlabs_21 ?_
        refine W.eq (g2 := F0 mm 24 ls [.int (kmax x (sm (i + 1)))]) (congrArg (fun z9 => F0 mm 24 ls [.int z9]) (show (if x < (sm (i + 1)) then (sm (i + 1)) else x : Int32) = kmax x (sm (i + 1)) from rfl)) ?_
        refine lv_istore_n (lv' := [(1, .int (kmax x (sm (i + 1)))), (2, .int (nI (i + 1))), (0, .ref (b 0))]) hx hb dX0_mostSlabs_24 rfl hl (by decide) rfl (fun ls hl => ?_)
        refine lv_iinc (v := nI (i + 1 + 1)) (lv' := [(2, .int (nI (i + 1 + 1))), (1, .int (kmax x (sm (i + 1)))), (0, .ref (b 0))]) hx hb dX0_mostSlabs_25 hl (k := 1) rfl (nI_1 _) (by decide) rfl (fun ls hl => ?_)
        refine lv_goto (tgt := 4) hx hb dX0_mostSlabs_28 (by decide) ?_
        -- back 0
        exact ih4 (i + 1) (kmax x (sm (i + 1))) (by first | assumption | omega) (by rw [hxx]; rfl) (by omega) H _ ls (lv_sub hl [0, 1, 2] rfl) hw
  exact loop4 ((num - 0) + 1) 0 0 (Nat.zero_le _) (rfl) (Nat.lt_succ_self _) H _ ls (lv_sub hl [0, 1, 2] rfl) hw

abbrev rmX0_sizeAround : Room := { frames := 1, cells := 0, slots := 0, locals := 21 }
set_option maxHeartbeats 4000000 in
set_option maxRecDepth 100000 in
theorem c_X0_sizeAround (l : Launch) (E : kE) (b : Nat → Nat) (dn : Nat → Int32) (sz : Nat → Int32) (sm : Nat → Int32) (qu : Nat → Int32) (num : Nat) (k : Nat) (c : Nat) (hk : k < 192) (hdc : dn k = nI c) (hc : c < 193) : kC E l yX0_sizeAround wsX0_sizeAround rmX0_sizeAround [.ref (b 0), .int (nI k)] (dm E b dn sz sm qu (nI num)) kI (fun (r : Int32) (_ : Unit) => r = sz c) (fun _ => dm E b dn sz sm qu (nI num)) 0 0 := by
  refine k_body (cc := cX0_sizeAround) (maxL := 2) (ret := (some .int)) (by decide) rfl (Nat.le_of_ble_eq_true rfl) ?_
  intro pp ee sx mm aa bb me cd H locs AA ls C0 hr hlk hnm hl hw
  obtain ⟨hx, hb, hml, hown, hts⟩ := id C0
  have hl : lv_has ls 2 [(0, .ref (b 0)), (1, .int (nI k))] := hl
  have hw : kW E AA sx (List.flatten [oc (b 0) 0 [.ref (b 1), .ref (b 2), .ref (b 3), .ref (b 4), .int (nI num)], rc E (b 1) (b 5) 192 dn, rc E (b 2) (b 6) 193 sz, rc E (b 3) (b 7) 193 sm, rc E (b 4) (b 8) 192 qu]) H locs := hw
  have hinX0 : ∀ w ∈ u_ws RX0 TX0 5, w ∈ wsX0_sizeAround := by decide +kernel
  refine lv_aload_n hx hb dX0_sizeAround_0 rfl (lv_at hl 0 rfl) ?_
  refine k_get (pre := []) C0 hw hinX0 rfl 1 (by decide) (hts (.fieldLink RX0 20 "SlabDunes$DuneMap" "sizes" "LSlabDunes$Row;") (by decide +kernel)) rfl rfl dX0_sizeAround_1 ?_
  refine lv_aload_n hx hb dX0_sizeAround_4 rfl (lv_at hl 0 rfl) ?_
  refine k_get (pre := []) C0 hw hinX0 rfl 0 (by decide) (hts (.fieldLink RX0 14 "SlabDunes$DuneMap" "duneNumbers" "LSlabDunes$Row;") (by decide +kernel)) rfl rfl dX0_sizeAround_5 ?_
  refine lv_iload_n hx hb dX0_sizeAround_8 rfl (lv_at hl 1 rfl) ?_
  refine k_V (As := [.int (nI k)]) (rest := [.ref (b 2)]) (pre := [oc (b 0) 0 [.ref (b 1), .ref (b 2), .ref (b 3), .ref (b 4), .int (nI num)]]) (mid := [rc E (b 1) (b 5) 192 dn]) C0 (c_X4_atN l E (b 1) (b 5) 192 dn k (by first | assumption | omega) (by first | assumption | omega)) (cwV 1 hts gX0_sizeAround_X4_at rfl rfl rfl (by decide +kernel) ⟨Nat.le_of_ble_eq_true rfl, Nat.le_of_ble_eq_true rfl⟩) hw rfl (fun _ => [rc E (b 1) (b 5) 192 dn]) (fun _ => rfl) 0 4 rfl rfl rfl rfl hl.1 rfl (Nat.le_of_ble_eq_true rfl) dX0_sizeAround_9 ⟨Nat.le_of_ble_eq_true rfl, Nat.le_of_ble_eq_true rfl⟩ (fun r u H locs hq99 hw => ?_)
  subst hq99
  have hw : kW E AA sx (List.flatten [oc (b 0) 0 [.ref (b 1), .ref (b 2), .ref (b 3), .ref (b 4), .int (nI num)], rc E (b 1) (b 5) 192 dn, rc E (b 2) (b 6) 193 sz, rc E (b 3) (b 7) 193 sm, rc E (b 4) (b 8) 192 qu]) H locs := hw
  refine W.eq (g2 := F0 mm 12 ls [.int (dn k), .ref (b 2)]) rfl ?_
  refine W.eq (g2 := F0 mm 12 ls [.int (nI c), .ref (b 2)]) (congrArg (fun z9 => F0 mm 12 ls [.int z9, .ref (b 2)]) (show (dn k : Int32) = nI c from hdc)) ?_
  refine k_V (As := [.int (nI c)]) (rest := []) (pre := [oc (b 0) 0 [.ref (b 1), .ref (b 2), .ref (b 3), .ref (b 4), .int (nI num)], rc E (b 1) (b 5) 192 dn]) (mid := [rc E (b 2) (b 6) 193 sz]) C0 (c_X4_atN l E (b 2) (b 6) 193 sz c (by first | assumption | omega) (by first | assumption | omega)) (cwV 1 hts gX0_sizeAround_X4_at rfl rfl rfl (by decide +kernel) ⟨Nat.le_of_ble_eq_true rfl, Nat.le_of_ble_eq_true rfl⟩) hw rfl (fun _ => [rc E (b 2) (b 6) 193 sz]) (fun _ => rfl) 0 4 rfl rfl rfl rfl hl.1 rfl (Nat.le_of_ble_eq_true rfl) dX0_sizeAround_12 ⟨Nat.le_of_ble_eq_true rfl, Nat.le_of_ble_eq_true rfl⟩ (fun r u H locs hq99 hw => ?_)
  subst hq99
  have hw : kW E AA sx (List.flatten [oc (b 0) 0 [.ref (b 1), .ref (b 2), .ref (b 3), .ref (b 4), .int (nI num)], rc E (b 1) (b 5) 192 dn, rc E (b 2) (b 6) 193 sz, rc E (b 3) (b 7) 193 sm, rc E (b 4) (b 8) 192 qu]) H locs := hw
  refine W.eq (g2 := F0 mm 15 ls [.int (sz c)]) rfl ?_
  -- leaf 0
  exact k_iret C0 hr hlk hw () (rfl) (rfl) (Nat.le_of_ble_eq_true rfl) (Nat.le_of_ble_eq_true rfl) dX0_sizeAround_15

abbrev rmX6_dunes : Room := { frames := 6, cells := 0, slots := 0, locals := 110 }
set_option maxHeartbeats 4000000 in
set_option maxRecDepth 100000 in
theorem c_X6_dunes_ok (l : Launch) (hfl : l.stackTraces = false) (E : kE) (d0 : Nat) (q1 : Nat) (q2 : Nat) (a : Nat → Nat) (e : Nat → Nat) (m : Nat → Nat) (t : Nat → Nat) (q : Nat) (h : Nat) (w : Nat) (wd : Int32) (s0 : Int32) (z : Int32) (st : Nat → Int32) (he : Nat → Int32) (ke : Nat → Int32) (tu : Nat → Int32) (ca : Nat → Int32) (tr : Nat → Int32) (co : Nat → Int32) (la : Nat → Int32) (dn : Nat → Int32) (sz : Nat → Int32) (sm : Nat → Int32) (qu : Nat → Int32) (f0 : Int32) (th : Int32) (hG : kG h w) (hv : ¬ th < 1 ∧ ¬ 99 < th) : kX E l yX6_dunes wsX6_dunes rmX6_dunes [.ref d0, .int th] (List.flatten [oc d0 6 [.ref (a 0), .ref q1, .ref (e 0), .ref q2, .ref (m 0), .ref q, .ref (t 0)], dm E m dn sz sm qu f0, fc E a (nI h) (nI w) wd s0 z st he ke tu ca tr co la]) kI (fun (r : Int32) (u : fP × fP) => r = nI (dnN h w he th)) (fun (u : fP × fP) => List.flatten [oc d0 6 [.ref (a 0), .ref q1, .ref (e 0), .ref q2, .ref (m 0), .ref q, .ref (t 0)], dm E m u.1.1 u.1.2 u.2.1 u.2.2 (nI (dnL h w he th (h * w)).2), fc E a (nI h) (nI w) wd s0 z st he ke tu ca tr co la]) (fun X => False) 0 0 := by
  refine kX_body (cc := cX6_dunes) (maxL := 2) (ret := (some .int)) (by decide) rfl (Nat.le_of_ble_eq_true rfl) ?_
  intro pp ee sx mm aa bb me cd H locs AA ls C0 hr hlk hxt hZ hl hw
  obtain ⟨hx, hb, hml, hown, hts⟩ := id C0
  have hl : lv_has ls 2 [(0, .ref d0), (1, .int th)] := hl
  have hw : kW E AA sx (List.flatten [oc d0 6 [.ref (a 0), .ref q1, .ref (e 0), .ref q2, .ref (m 0), .ref q, .ref (t 0)], dm E m dn sz sm qu f0, fc E a (nI h) (nI w) wd s0 z st he ke tu ca tr co la]) H locs := hw
  have hn9 := kG_n hG
  have hG9 := id hG
  obtain ⟨hG1, hG2, hG3, hG4⟩ := hG9
  have hinX6 : ∀ w ∈ u_ws RX6 TX6 7, w ∈ wsX6_dunes := by decide +kernel
  refine lv_iload_n hx hb dX6_dunes_0 rfl (lv_at hl 1 rfl) ?_
  refine lv_iconst (v := 1) hx hb dX6_dunes_1 (by decide) ?_
  refine lv_bipush (v := 99) hx hb dX6_dunes_2 (by decide) ?_
  refine k_S (As := [.int th, .int 1, .int 99]) (rest := []) (pre := []) (mid := []) C0 (c_X6_within l E th 1 99 ) (va_cwS 3 hts gX6_dunes_X6_within rfl rfl rfl (by decide +kernel) ⟨Nat.le_of_ble_eq_true rfl, Nat.le_of_ble_eq_true rfl⟩) hw rfl (fun _ => []) (fun _ => rfl) rfl hl.1 rfl (Nat.le_of_ble_eq_true rfl) dX6_dunes_4 ⟨Nat.le_of_ble_eq_true rfl, Nat.le_of_ble_eq_true rfl⟩ (fun r u H locs hq99 hw => ?_)
  subst hq99
  have hw : kW E AA sx (List.flatten [oc d0 6 [.ref (a 0), .ref q1, .ref (e 0), .ref q2, .ref (m 0), .ref q, .ref (t 0)], dm E m dn sz sm qu f0, fc E a (nI h) (nI w) wd s0 z st he ke tu ca tr co la]) H locs := hw
  refine W.eq (g2 := F0 mm 7 ls [.int (if ¬ th < 1 ∧ ¬ 99 < th then 1 else 0)]) rfl ?_
  refine lv_if_ne (tgt := 20) hx hb dX6_dunes_7 (by decide) (fun c7 => ?_) (fun c7 => False.elim ((kb10t c7) hv))
  have c7 := kb10f c7
  refine lv_aload_n hx hb dX6_dunes_20 rfl (lv_at hl 0 rfl) ?_
  refine k_get (pre := []) C0 hw hinX6 rfl 4 (by decide) (hts (.fieldLink RX6 34 "SlabDunes" "duneMap" "LSlabDunes$DuneMap;") (by decide +kernel)) rfl rfl dX6_dunes_21 ?_
  refine lv_aload_n hx hb dX6_dunes_24 rfl (lv_at hl 0 rfl) ?_
  refine k_get (pre := []) C0 hw hinX6 rfl 0 (by decide) (hts (.fieldLink RX6 10 "SlabDunes" "field" "LSlabDunes$Field;") (by decide +kernel)) rfl rfl dX6_dunes_25 ?_
  refine lv_iload_n hx hb dX6_dunes_28 rfl (lv_at hl 1 rfl) ?_
  refine k_V (As := [.ref (a 0), .int th]) (rest := []) (pre := [oc d0 6 [.ref (a 0), .ref q1, .ref (e 0), .ref q2, .ref (m 0), .ref q, .ref (t 0)]]) (mid := [dm E m dn sz sm qu f0, fc E a (nI h) (nI w) wd s0 z st he ke tu ca tr co la]) C0 (c_X0_find l E m dn sz sm qu f0 a h w wd s0 z st he ke tu ca tr co la th (by first | assumption | omega)) (cwV 2 hts gX6_dunes_X0_find rfl rfl rfl (by decide +kernel) ⟨Nat.le_of_ble_eq_true rfl, Nat.le_of_ble_eq_true rfl⟩) hw rfl (fun (u29 : fP × fP) => [dm E m u29.1.1 u29.1.2 u29.2.1 u29.2.2 (nI (dnL h w he th (h * w)).2), fc E a (nI h) (nI w) wd s0 z st he ke tu ca tr co la]) (fun _ => rfl) 0 0 rfl rfl rfl rfl hl.1 rfl (Nat.le_of_ble_eq_true rfl) dX6_dunes_29 ⟨Nat.le_of_ble_eq_true rfl, Nat.le_of_ble_eq_true rfl⟩ (fun r u29 H locs hq99 hw => ?_)
  obtain ⟨r29, rfl⟩ : ∃ z, z = r := ⟨_, rfl⟩
  have h29 : r29 = nI (dnL h w he th (h * w)).2 ∧ fnR h w he th (h * w) u29.1.1 u29.1.2 u29.2.1 := hq99
  have hw : kW E AA sx (List.flatten [oc d0 6 [.ref (a 0), .ref q1, .ref (e 0), .ref q2, .ref (m 0), .ref q, .ref (t 0)], dm E m u29.1.1 u29.1.2 u29.2.1 u29.2.2 (nI (dnL h w he th (h * w)).2), fc E a (nI h) (nI w) wd s0 z st he ke tu ca tr co la]) H locs := hw
  refine W.eq (g2 := F0 mm 32 ls [.int r29]) rfl ?_
  -- leaf 0
  exact vx_ret <| k_iret C0 hr hlk hw u29 (rfl) (h29.1) (Nat.le_of_ble_eq_true rfl) (Nat.le_of_ble_eq_true rfl) dX6_dunes_32

abbrev rmX6_greatestDune : Room := { frames := 6, cells := 0, slots := 0, locals := 110 }
set_option maxHeartbeats 4000000 in
set_option maxRecDepth 100000 in
theorem c_X6_greatestDune_ok (l : Launch) (hfl : l.stackTraces = false) (E : kE) (d0 : Nat) (q1 : Nat) (q2 : Nat) (a : Nat → Nat) (e : Nat → Nat) (m : Nat → Nat) (t : Nat → Nat) (q : Nat) (h : Nat) (w : Nat) (wd : Int32) (s0 : Int32) (z : Int32) (st : Nat → Int32) (he : Nat → Int32) (ke : Nat → Int32) (tu : Nat → Int32) (ca : Nat → Int32) (tr : Nat → Int32) (co : Nat → Int32) (la : Nat → Int32) (dn : Nat → Int32) (sz : Nat → Int32) (sm : Nat → Int32) (qu : Nat → Int32) (f0 : Int32) (th : Int32) (hG : kG h w) (hv : ¬ th < 1 ∧ ¬ 99 < th) : kX E l yX6_greatestDune wsX6_greatestDune rmX6_greatestDune [.ref d0, .int th] (List.flatten [oc d0 6 [.ref (a 0), .ref q1, .ref (e 0), .ref q2, .ref (m 0), .ref q, .ref (t 0)], dm E m dn sz sm qu f0, fc E a (nI h) (nI w) wd s0 z st he ke tu ca tr co la]) kI (fun (r : Int32) (u : fP × fP) => r = gdN h w he th) (fun (u : fP × fP) => List.flatten [oc d0 6 [.ref (a 0), .ref q1, .ref (e 0), .ref q2, .ref (m 0), .ref q, .ref (t 0)], dm E m u.1.1 u.1.2 u.2.1 u.2.2 (nI (dnL h w he th (h * w)).2), fc E a (nI h) (nI w) wd s0 z st he ke tu ca tr co la]) (fun X => False) 0 0 := by
  refine kX_body (cc := cX6_greatestDune) (maxL := 2) (ret := (some .int)) (by decide) rfl (Nat.le_of_ble_eq_true rfl) ?_
  intro pp ee sx mm aa bb me cd H locs AA ls C0 hr hlk hxt hZ hl hw
  obtain ⟨hx, hb, hml, hown, hts⟩ := id C0
  have hl : lv_has ls 2 [(0, .ref d0), (1, .int th)] := hl
  have hw : kW E AA sx (List.flatten [oc d0 6 [.ref (a 0), .ref q1, .ref (e 0), .ref q2, .ref (m 0), .ref q, .ref (t 0)], dm E m dn sz sm qu f0, fc E a (nI h) (nI w) wd s0 z st he ke tu ca tr co la]) H locs := hw
  have hn9 := kG_n hG
  have hG9 := id hG
  obtain ⟨hG1, hG2, hG3, hG4⟩ := hG9
  have hinX6 : ∀ w ∈ u_ws RX6 TX6 7, w ∈ wsX6_greatestDune := by decide +kernel
  refine lv_iload_n hx hb dX6_greatestDune_0 rfl (lv_at hl 1 rfl) ?_
  refine lv_iconst (v := 1) hx hb dX6_greatestDune_1 (by decide) ?_
  refine lv_bipush (v := 99) hx hb dX6_greatestDune_2 (by decide) ?_
  refine k_S (As := [.int th, .int 1, .int 99]) (rest := []) (pre := []) (mid := []) C0 (c_X6_within l E th 1 99 ) (va_cwS 3 hts gX6_greatestDune_X6_within rfl rfl rfl (by decide +kernel) ⟨Nat.le_of_ble_eq_true rfl, Nat.le_of_ble_eq_true rfl⟩) hw rfl (fun _ => []) (fun _ => rfl) rfl hl.1 rfl (Nat.le_of_ble_eq_true rfl) dX6_greatestDune_4 ⟨Nat.le_of_ble_eq_true rfl, Nat.le_of_ble_eq_true rfl⟩ (fun r u H locs hq99 hw => ?_)
  subst hq99
  have hw : kW E AA sx (List.flatten [oc d0 6 [.ref (a 0), .ref q1, .ref (e 0), .ref q2, .ref (m 0), .ref q, .ref (t 0)], dm E m dn sz sm qu f0, fc E a (nI h) (nI w) wd s0 z st he ke tu ca tr co la]) H locs := hw
  refine W.eq (g2 := F0 mm 7 ls [.int (if ¬ th < 1 ∧ ¬ 99 < th then 1 else 0)]) rfl ?_
  refine lv_if_ne (tgt := 20) hx hb dX6_greatestDune_7 (by decide) (fun c7 => ?_) (fun c7 => False.elim ((kb10t c7) hv))
  have c7 := kb10f c7
  refine lv_aload_n hx hb dX6_greatestDune_20 rfl (lv_at hl 0 rfl) ?_
  refine k_get (pre := []) C0 hw hinX6 rfl 4 (by decide) (hts (.fieldLink RX6 34 "SlabDunes" "duneMap" "LSlabDunes$DuneMap;") (by decide +kernel)) rfl rfl dX6_greatestDune_21 ?_
  refine lv_aload_n hx hb dX6_greatestDune_24 rfl (lv_at hl 0 rfl) ?_
  refine k_get (pre := []) C0 hw hinX6 rfl 0 (by decide) (hts (.fieldLink RX6 10 "SlabDunes" "field" "LSlabDunes$Field;") (by decide +kernel)) rfl rfl dX6_greatestDune_25 ?_
  refine lv_iload_n hx hb dX6_greatestDune_28 rfl (lv_at hl 1 rfl) ?_
  refine k_V (As := [.ref (a 0), .int th]) (rest := []) (pre := [oc d0 6 [.ref (a 0), .ref q1, .ref (e 0), .ref q2, .ref (m 0), .ref q, .ref (t 0)]]) (mid := [dm E m dn sz sm qu f0, fc E a (nI h) (nI w) wd s0 z st he ke tu ca tr co la]) C0 (c_X0_find l E m dn sz sm qu f0 a h w wd s0 z st he ke tu ca tr co la th (by first | assumption | omega)) (cwV 2 hts gX6_greatestDune_X0_find rfl rfl rfl (by decide +kernel) ⟨Nat.le_of_ble_eq_true rfl, Nat.le_of_ble_eq_true rfl⟩) hw rfl (fun (u29 : fP × fP) => [dm E m u29.1.1 u29.1.2 u29.2.1 u29.2.2 (nI (dnL h w he th (h * w)).2), fc E a (nI h) (nI w) wd s0 z st he ke tu ca tr co la]) (fun _ => rfl) 0 0 rfl rfl rfl rfl hl.1 rfl (Nat.le_of_ble_eq_true rfl) dX6_greatestDune_29 ⟨Nat.le_of_ble_eq_true rfl, Nat.le_of_ble_eq_true rfl⟩ (fun r u29 H locs hq99 hw => ?_)
  obtain ⟨r29, rfl⟩ : ∃ z, z = r := ⟨_, rfl⟩
  have h29 : r29 = nI (dnL h w he th (h * w)).2 ∧ fnR h w he th (h * w) u29.1.1 u29.1.2 u29.2.1 := hq99
  have hw : kW E AA sx (List.flatten [oc d0 6 [.ref (a 0), .ref q1, .ref (e 0), .ref q2, .ref (m 0), .ref q, .ref (t 0)], dm E m u29.1.1 u29.1.2 u29.2.1 u29.2.2 (nI (dnL h w he th (h * w)).2), fc E a (nI h) (nI w) wd s0 z st he ke tu ca tr co la]) H locs := hw
  refine W.eq (g2 := F0 mm 32 ls [.int r29]) rfl ?_
  refine lv_pop hx hb dX6_greatestDune_32 rfl ?_
  refine lv_aload_n hx hb dX6_greatestDune_33 rfl (lv_at hl 0 rfl) ?_
  refine k_get (pre := []) C0 hw hinX6 rfl 4 (by decide) (hts (.fieldLink RX6 34 "SlabDunes" "duneMap" "LSlabDunes$DuneMap;") (by decide +kernel)) rfl rfl dX6_greatestDune_34 ?_
  refine k_V (As := []) (rest := []) (pre := [oc d0 6 [.ref (a 0), .ref q1, .ref (e 0), .ref q2, .ref (m 0), .ref q, .ref (t 0)]]) (mid := [dm E m u29.1.1 u29.1.2 u29.2.1 u29.2.2 (nI (dnL h w he th (h * w)).2)]) C0 (c_X0_mostSlabs l E m u29.1.1 u29.1.2 u29.2.1 u29.2.2 ((dnL h w he th (h * w)).2) (Nat.le_trans (dnL_le _) hn9.1)) (cwV 0 hts gX6_greatestDune_X0_mostSlabs rfl rfl rfl (by decide +kernel) ⟨Nat.le_of_ble_eq_true rfl, Nat.le_of_ble_eq_true rfl⟩) hw rfl (fun _ => [dm E m u29.1.1 u29.1.2 u29.2.1 u29.2.2 (nI ((dnL h w he th (h * w)).2))]) (fun _ => rfl) 0 0 rfl rfl rfl rfl hl.1 rfl (Nat.le_of_ble_eq_true rfl) dX6_greatestDune_37 ⟨Nat.le_of_ble_eq_true rfl, Nat.le_of_ble_eq_true rfl⟩ (fun r u H locs hq99 hw => ?_)
  subst hq99
  have hw : kW E AA sx (List.flatten [oc d0 6 [.ref (a 0), .ref q1, .ref (e 0), .ref q2, .ref (m 0), .ref q, .ref (t 0)], dm E m u29.1.1 u29.1.2 u29.2.1 u29.2.2 (nI ((dnL h w he th (h * w)).2)), fc E a (nI h) (nI w) wd s0 z st he ke tu ca tr co la]) H locs := hw
  refine W.eq (g2 := F0 mm 40 ls [.int (mxS u29.2.1 ((dnL h w he th (h * w)).2))]) rfl ?_
  -- leaf 0
  exact vx_ret <| k_iret C0 hr hlk hw u29 (rfl) (fnR_gd h29.2) (Nat.le_of_ble_eq_true rfl) (Nat.le_of_ble_eq_true rfl) dX6_greatestDune_40

abbrev rmX6_duneOf : Room := { frames := 6, cells := 0, slots := 0, locals := 110 }
set_option maxHeartbeats 4000000 in
set_option maxRecDepth 100000 in
theorem c_X6_duneOf_ok (l : Launch) (hfl : l.stackTraces = false) (E : kE) (d0 : Nat) (q1 : Nat) (q2 : Nat) (a : Nat → Nat) (e : Nat → Nat) (m : Nat → Nat) (t : Nat → Nat) (q : Nat) (h : Nat) (w : Nat) (wd : Int32) (s0 : Int32) (z : Int32) (st : Nat → Int32) (he : Nat → Int32) (ke : Nat → Int32) (tu : Nat → Int32) (ca : Nat → Int32) (tr : Nat → Int32) (co : Nat → Int32) (la : Nat → Int32) (dn : Nat → Int32) (sz : Nat → Int32) (sm : Nat → Int32) (qu : Nat → Int32) (f0 : Int32) (k : Nat) (th : Int32) (hG : kG h w) (hc : k < h * w) (hv : ¬ th < 1 ∧ ¬ 99 < th) : kX E l yX6_duneOf wsX6_duneOf rmX6_duneOf [.ref d0, .int (nI k), .int th] (List.flatten [oc d0 6 [.ref (a 0), .ref q1, .ref (e 0), .ref q2, .ref (m 0), .ref q, .ref (t 0)], dm E m dn sz sm qu f0, fc E a (nI h) (nI w) wd s0 z st he ke tu ca tr co la]) kI (fun (r : Int32) (u : fP × fP) => r = nI (doN h w he th k)) (fun (u : fP × fP) => List.flatten [oc d0 6 [.ref (a 0), .ref q1, .ref (e 0), .ref q2, .ref (m 0), .ref q, .ref (t 0)], dm E m u.1.1 u.1.2 u.2.1 u.2.2 (nI (dnL h w he th (h * w)).2), fc E a (nI h) (nI w) wd s0 z st he ke tu ca tr co la]) (fun X => False) 0 0 := by
  refine kX_body (cc := cX6_duneOf) (maxL := 3) (ret := (some .int)) (by decide) rfl (Nat.le_of_ble_eq_true rfl) ?_
  intro pp ee sx mm aa bb me cd H locs AA ls C0 hr hlk hxt hZ hl hw
  obtain ⟨hx, hb, hml, hown, hts⟩ := id C0
  have hl : lv_has ls 3 [(0, .ref d0), (1, .int (nI k)), (2, .int th)] := hl
  have hw : kW E AA sx (List.flatten [oc d0 6 [.ref (a 0), .ref q1, .ref (e 0), .ref q2, .ref (m 0), .ref q, .ref (t 0)], dm E m dn sz sm qu f0, fc E a (nI h) (nI w) wd s0 z st he ke tu ca tr co la]) H locs := hw
  have hn9 := kG_n hG
  have hG9 := id hG
  obtain ⟨hG1, hG2, hG3, hG4⟩ := hG9
  have hinX6 : ∀ w ∈ u_ws RX6 TX6 7, w ∈ wsX6_duneOf := by decide +kernel
  refine lv_iload_n hx hb dX6_duneOf_0 rfl (lv_at hl 1 rfl) ?_
  refine lv_iconst (v := 0) hx hb dX6_duneOf_1 (by decide) ?_
  refine lv_aload_n hx hb dX6_duneOf_2 rfl (lv_at hl 0 rfl) ?_
  refine k_get (pre := []) C0 hw hinX6 rfl 0 (by decide) (hts (.fieldLink RX6 10 "SlabDunes" "field" "LSlabDunes$Field;") (by decide +kernel)) rfl rfl dX6_duneOf_3 ?_
  refine k_V (As := []) (rest := [.int 0, .int (nI k)]) (pre := [oc d0 6 [.ref (a 0), .ref q1, .ref (e 0), .ref q2, .ref (m 0), .ref q, .ref (t 0)], dm E m dn sz sm qu f0]) (mid := [fc E a (nI h) (nI w) wd s0 z st he ke tu ca tr co la]) C0 (c_X1_cells l E a h w wd s0 z st he ke tu ca tr co la (by first | assumption | omega)) (cwV 0 hts gX6_duneOf_X1_cells rfl rfl rfl (by decide +kernel) ⟨Nat.le_of_ble_eq_true rfl, Nat.le_of_ble_eq_true rfl⟩) hw rfl (fun _ => [fc E a (nI h) (nI w) wd s0 z st he ke tu ca tr co la]) (fun _ => rfl) 0 1 rfl rfl rfl rfl hl.1 rfl (Nat.le_of_ble_eq_true rfl) dX6_duneOf_6 ⟨Nat.le_of_ble_eq_true rfl, Nat.le_of_ble_eq_true rfl⟩ (fun r u H locs hq99 hw => ?_)
  subst hq99
  have hw : kW E AA sx (List.flatten [oc d0 6 [.ref (a 0), .ref q1, .ref (e 0), .ref q2, .ref (m 0), .ref q, .ref (t 0)], dm E m dn sz sm qu f0, fc E a (nI h) (nI w) wd s0 z st he ke tu ca tr co la]) H locs := hw
  refine W.eq (g2 := F0 mm 9 ls [.int (nI (h * w)), .int 0, .int (nI k)]) rfl ?_
  refine lv_iconst (v := 1) hx hb dX6_duneOf_9 (by decide) ?_
  refine lv_isub hx hb dX6_duneOf_10 ?_
  refine W.eq (g2 := F0 mm 11 ls [.int (nI (h * w - 1)), .int 0, .int (nI k)]) (congrArg (fun z9 => F0 mm 11 ls [.int z9, .int 0, .int (nI k)]) (show ((nI (h * w)) - 1 : Int32) = nI (h * w - 1) from pk_sub (b := 1) (by omega))) ?_
  refine k_S (As := [.int (nI k), .int 0, .int (nI (h * w - 1))]) (rest := []) (pre := []) (mid := []) C0 (c_X6_within l E (nI k) 0 (nI (h * w - 1)) ) (va_cwS 3 hts gX6_duneOf_X6_within rfl rfl rfl (by decide +kernel) ⟨Nat.le_of_ble_eq_true rfl, Nat.le_of_ble_eq_true rfl⟩) hw rfl (fun _ => []) (fun _ => rfl) rfl hl.1 rfl (Nat.le_of_ble_eq_true rfl) dX6_duneOf_11 ⟨Nat.le_of_ble_eq_true rfl, Nat.le_of_ble_eq_true rfl⟩ (fun r u H locs hq99 hw => ?_)
  subst hq99
  have hw : kW E AA sx (List.flatten [oc d0 6 [.ref (a 0), .ref q1, .ref (e 0), .ref q2, .ref (m 0), .ref q, .ref (t 0)], dm E m dn sz sm qu f0, fc E a (nI h) (nI w) wd s0 z st he ke tu ca tr co la]) H locs := hw
  refine W.eq (g2 := F0 mm 14 ls [.int (if ¬ (nI k) < 0 ∧ ¬ (nI (h * w - 1)) < (nI k) then 1 else 0)]) rfl ?_
  refine lv_if_ne (tgt := 27) hx hb dX6_duneOf_14 (by decide) (fun c14 => ?_) (fun c14 => False.elim ((kb10t c14) ⟨nI_pos (by omega), nI_nlt (a := h * w - 1) (by omega) (by omega)⟩))
  have c14 := kb10f c14
  refine lv_iload_n hx hb dX6_duneOf_27 rfl (lv_at hl 2 rfl) ?_
  refine lv_iconst (v := 1) hx hb dX6_duneOf_28 (by decide) ?_
  refine lv_bipush (v := 99) hx hb dX6_duneOf_29 (by decide) ?_
  refine k_S (As := [.int th, .int 1, .int 99]) (rest := []) (pre := []) (mid := []) C0 (c_X6_within l E th 1 99 ) (va_cwS 3 hts gX6_duneOf_X6_within rfl rfl rfl (by decide +kernel) ⟨Nat.le_of_ble_eq_true rfl, Nat.le_of_ble_eq_true rfl⟩) hw rfl (fun _ => []) (fun _ => rfl) rfl hl.1 rfl (Nat.le_of_ble_eq_true rfl) dX6_duneOf_31 ⟨Nat.le_of_ble_eq_true rfl, Nat.le_of_ble_eq_true rfl⟩ (fun r u H locs hq99 hw => ?_)
  subst hq99
  have hw : kW E AA sx (List.flatten [oc d0 6 [.ref (a 0), .ref q1, .ref (e 0), .ref q2, .ref (m 0), .ref q, .ref (t 0)], dm E m dn sz sm qu f0, fc E a (nI h) (nI w) wd s0 z st he ke tu ca tr co la]) H locs := hw
  refine W.eq (g2 := F0 mm 34 ls [.int (if ¬ th < 1 ∧ ¬ 99 < th then 1 else 0)]) rfl ?_
  refine lv_if_ne (tgt := 47) hx hb dX6_duneOf_34 (by decide) (fun c34 => ?_) (fun c34 => False.elim ((kb10t c34) hv))
  have c34 := kb10f c34
  refine lv_aload_n hx hb dX6_duneOf_47 rfl (lv_at hl 0 rfl) ?_
  refine k_get (pre := []) C0 hw hinX6 rfl 4 (by decide) (hts (.fieldLink RX6 34 "SlabDunes" "duneMap" "LSlabDunes$DuneMap;") (by decide +kernel)) rfl rfl dX6_duneOf_48 ?_
  refine lv_aload_n hx hb dX6_duneOf_51 rfl (lv_at hl 0 rfl) ?_
  refine k_get (pre := []) C0 hw hinX6 rfl 0 (by decide) (hts (.fieldLink RX6 10 "SlabDunes" "field" "LSlabDunes$Field;") (by decide +kernel)) rfl rfl dX6_duneOf_52 ?_
  refine lv_iload_n hx hb dX6_duneOf_55 rfl (lv_at hl 2 rfl) ?_
  refine k_V (As := [.ref (a 0), .int th]) (rest := []) (pre := [oc d0 6 [.ref (a 0), .ref q1, .ref (e 0), .ref q2, .ref (m 0), .ref q, .ref (t 0)]]) (mid := [dm E m dn sz sm qu f0, fc E a (nI h) (nI w) wd s0 z st he ke tu ca tr co la]) C0 (c_X0_find l E m dn sz sm qu f0 a h w wd s0 z st he ke tu ca tr co la th (by first | assumption | omega)) (cwV 2 hts gX6_duneOf_X0_find rfl rfl rfl (by decide +kernel) ⟨Nat.le_of_ble_eq_true rfl, Nat.le_of_ble_eq_true rfl⟩) hw rfl (fun (u56 : fP × fP) => [dm E m u56.1.1 u56.1.2 u56.2.1 u56.2.2 (nI (dnL h w he th (h * w)).2), fc E a (nI h) (nI w) wd s0 z st he ke tu ca tr co la]) (fun _ => rfl) 0 0 rfl rfl rfl rfl hl.1 rfl (Nat.le_of_ble_eq_true rfl) dX6_duneOf_56 ⟨Nat.le_of_ble_eq_true rfl, Nat.le_of_ble_eq_true rfl⟩ (fun r u56 H locs hq99 hw => ?_)
  obtain ⟨r56, rfl⟩ : ∃ z, z = r := ⟨_, rfl⟩
  have h56 : r56 = nI (dnL h w he th (h * w)).2 ∧ fnR h w he th (h * w) u56.1.1 u56.1.2 u56.2.1 := hq99
  have hw : kW E AA sx (List.flatten [oc d0 6 [.ref (a 0), .ref q1, .ref (e 0), .ref q2, .ref (m 0), .ref q, .ref (t 0)], dm E m u56.1.1 u56.1.2 u56.2.1 u56.2.2 (nI (dnL h w he th (h * w)).2), fc E a (nI h) (nI w) wd s0 z st he ke tu ca tr co la]) H locs := hw
  refine W.eq (g2 := F0 mm 59 ls [.int r56]) rfl ?_
  refine lv_pop hx hb dX6_duneOf_59 rfl ?_
  refine lv_aload_n hx hb dX6_duneOf_60 rfl (lv_at hl 0 rfl) ?_
  refine k_get (pre := []) C0 hw hinX6 rfl 4 (by decide) (hts (.fieldLink RX6 34 "SlabDunes" "duneMap" "LSlabDunes$DuneMap;") (by decide +kernel)) rfl rfl dX6_duneOf_61 ?_
  refine lv_iload_n hx hb dX6_duneOf_64 rfl (lv_at hl 1 rfl) ?_
  refine k_V (As := [.int (nI k)]) (rest := []) (pre := [oc d0 6 [.ref (a 0), .ref q1, .ref (e 0), .ref q2, .ref (m 0), .ref q, .ref (t 0)]]) (mid := [dm E m u56.1.1 u56.1.2 u56.2.1 u56.2.2 (nI (dnL h w he th (h * w)).2)]) C0 (c_X0_sizeAround l E m u56.1.1 u56.1.2 u56.2.1 u56.2.2 ((dnL h w he th (h * w)).2) k ((dnL h w he th (h * w)).1 k) (Nat.lt_of_lt_of_le hc hn9.1) (h56.2.1 k hc) (Nat.lt_succ_of_le (Nat.le_trans (dnL_lb _ _) (Nat.le_trans (dnL_le _) hn9.1)))) (cwV 1 hts gX6_duneOf_X0_sizeAround rfl rfl rfl (by decide +kernel) ⟨Nat.le_of_ble_eq_true rfl, Nat.le_of_ble_eq_true rfl⟩) hw rfl (fun _ => [dm E m u56.1.1 u56.1.2 u56.2.1 u56.2.2 (nI ((dnL h w he th (h * w)).2))]) (fun _ => rfl) 0 0 rfl rfl rfl rfl hl.1 rfl (Nat.le_of_ble_eq_true rfl) dX6_duneOf_65 ⟨Nat.le_of_ble_eq_true rfl, Nat.le_of_ble_eq_true rfl⟩ (fun r u H locs hq99 hw => ?_)
  subst hq99
  have hw : kW E AA sx (List.flatten [oc d0 6 [.ref (a 0), .ref q1, .ref (e 0), .ref q2, .ref (m 0), .ref q, .ref (t 0)], dm E m u56.1.1 u56.1.2 u56.2.1 u56.2.2 (nI ((dnL h w he th (h * w)).2)), fc E a (nI h) (nI w) wd s0 z st he ke tu ca tr co la]) H locs := hw
  refine W.eq (g2 := F0 mm 68 ls [.int (u56.1.2 ((dnL h w he th (h * w)).1 k))]) rfl ?_
  -- leaf 0
  exact vx_ret <| k_iret C0 hr hlk hw u56 (rfl) (fnR_do h56.2) (Nat.le_of_ble_eq_true rfl) (Nat.le_of_ble_eq_true rfl) dX6_duneOf_68

abbrev rmX6_dunesAfter : Room := { frames := 6, cells := 0, slots := 0, locals := 122 }
set_option maxHeartbeats 4000000 in
set_option maxRecDepth 100000 in
theorem c_X6_dunesAfter_ok (l : Launch) (hfl : l.stackTraces = false) (E : kE) (d0 : Nat) (q1 : Nat) (q2 : Nat) (a : Nat → Nat) (e : Nat → Nat) (m : Nat → Nat) (t : Nat → Nat) (q : Nat) (h : Nat) (w : Nat) (z : Int32) (st : Nat → Int32) (he : Nat → Int32) (ke : Nat → Int32) (tu : Nat → Int32) (ca : Nat → Int32) (tr : Nat → Int32) (co : Nat → Int32) (la : Nat → Int32) (R1 : Int32) (C1 : Int32) (wd1 : Int32) (s1 : Int32) (z1 : Int32) (st1 : Nat → Int32) (he1 : Nat → Int32) (ke1 : Nat → Int32) (tu1 : Nat → Int32) (ca1 : Nat → Int32) (tr1 : Nat → Int32) (co1 : Nat → Int32) (la1 : Nat → Int32) (dn : Nat → Int32) (sz : Nat → Int32) (sm : Nat → Int32) (qu : Nat → Int32) (f0 : Int32) (d : Nat) (n0 : Nat) (m9 : Nat) (hp : Nat) (th : Int32) (hG : kG h w) (hm9 : m9 ≤ 1000) (hd : d < 4) (hn0 : n0 < 2147483648) (hv : ¬ th < 1 ∧ ¬ 99 < th) (hst0 : st 0 = nI hp) (hp8 : hp ≤ 8) : kX E l yX6_dunesAfter wsX6_dunesAfter rmX6_dunesAfter [.ref d0, .int (nI m9), .int th] (List.flatten [oc d0 6 [.ref (a 0), .ref q1, .ref (e 0), .ref q2, .ref (m 0), .ref q, .ref (t 0)], dm E m dn sz sm qu f0, fc E a (nI h) (nI w) (nI d) (nI n0) z st he ke tu ca tr co la, oc q2 5 [.ref (e 0), .ref (e 2)], fc E e R1 C1 wd1 s1 z1 st1 he1 ke1 tu1 ca1 tr1 co1 la1]) kI (fun (r : Int32) (u : fP × fP) => r = nI (dnN h w (blo h w d hp st tu ca m9 (n0, he, tr, co, la)).2.2.1 th)) (fun (u : fP × fP) => List.flatten [oc d0 6 [.ref (a 0), .ref q1, .ref (e 0), .ref q2, .ref (m 0), .ref q, .ref (t 0)], dm E m u.1.1 u.1.2 u.2.1 u.2.2 (nI (dnL h w (blo h w d hp st tu ca m9 (n0, he, tr, co, la)).2.2.1 th (h * w)).2), fc E a (nI h) (nI w) (nI d) (nI n0) z st he ke tu ca tr co la, oc q2 5 [.ref (e 0), .ref (e 2)], fc E e (nI h) (nI w) (nI d) (nI (blo h w d hp st tu ca m9 (n0, he, tr, co, la)).2.1) z st ((blo h w d hp st tu ca m9 (n0, he, tr, co, la)).2.2.1) ke tu ca ((blo h w d hp st tu ca m9 (n0, he, tr, co, la)).2.2.2.1) ((blo h w d hp st tu ca m9 (n0, he, tr, co, la)).2.2.2.2.1) ((blo h w d hp st tu ca m9 (n0, he, tr, co, la)).2.2.2.2.2)]) (fun X => False) 0 0 := by
  refine kX_body (cc := cX6_dunesAfter) (maxL := 3) (ret := (some .int)) (by decide) rfl (Nat.le_of_ble_eq_true rfl) ?_
  intro pp ee sx mm aa bb me cd H locs AA ls C0 hr hlk hxt hZ hl hw
  obtain ⟨hx, hb, hml, hown, hts⟩ := id C0
  have hl : lv_has ls 3 [(0, .ref d0), (1, .int (nI m9)), (2, .int th)] := hl
  have hw : kW E AA sx (List.flatten [oc d0 6 [.ref (a 0), .ref q1, .ref (e 0), .ref q2, .ref (m 0), .ref q, .ref (t 0)], dm E m dn sz sm qu f0, fc E a (nI h) (nI w) (nI d) (nI n0) z st he ke tu ca tr co la, oc q2 5 [.ref (e 0), .ref (e 2)], fc E e R1 C1 wd1 s1 z1 st1 he1 ke1 tu1 ca1 tr1 co1 la1]) H locs := hw
  have hn9 := kG_n hG
  have hG9 := id hG
  obtain ⟨hG1, hG2, hG3, hG4⟩ := hG9
  have hinX6 : ∀ w ∈ u_ws RX6 TX6 7, w ∈ wsX6_dunesAfter := by decide +kernel
  refine lv_iload_n hx hb dX6_dunesAfter_0 rfl (lv_at hl 1 rfl) ?_
  refine lv_iconst (v := 0) hx hb dX6_dunesAfter_1 (by decide) ?_
  refine lv_sipush (v := 1000) hx hb dX6_dunesAfter_2 (by decide) ?_
  refine k_S (As := [.int (nI m9), .int 0, .int 1000]) (rest := []) (pre := []) (mid := []) C0 (c_X6_within l E (nI m9) 0 1000 ) (va_cwS 3 hts gX6_dunesAfter_X6_within rfl rfl rfl (by decide +kernel) ⟨Nat.le_of_ble_eq_true rfl, Nat.le_of_ble_eq_true rfl⟩) hw rfl (fun _ => []) (fun _ => rfl) rfl hl.1 rfl (Nat.le_of_ble_eq_true rfl) dX6_dunesAfter_5 ⟨Nat.le_of_ble_eq_true rfl, Nat.le_of_ble_eq_true rfl⟩ (fun r u H locs hq99 hw => ?_)
  subst hq99
  have hw : kW E AA sx (List.flatten [oc d0 6 [.ref (a 0), .ref q1, .ref (e 0), .ref q2, .ref (m 0), .ref q, .ref (t 0)], dm E m dn sz sm qu f0, fc E a (nI h) (nI w) (nI d) (nI n0) z st he ke tu ca tr co la, oc q2 5 [.ref (e 0), .ref (e 2)], fc E e R1 C1 wd1 s1 z1 st1 he1 ke1 tu1 ca1 tr1 co1 la1]) H locs := hw
  refine W.eq (g2 := F0 mm 8 ls [.int (if ¬ (nI m9) < 0 ∧ ¬ 1000 < (nI m9) then 1 else 0)]) rfl ?_
  refine lv_if_ne (tgt := 21) hx hb dX6_dunesAfter_8 (by decide) (fun c8 => ?_) (fun c8 => False.elim ((kb10t c8) ⟨nI_pos (by omega), nI_nlt (a := 1000) (b := m9) (by omega) (by omega)⟩))
  have c8 := kb10f c8
  refine lv_iload_n hx hb dX6_dunesAfter_21 rfl (lv_at hl 2 rfl) ?_
  refine lv_iconst (v := 1) hx hb dX6_dunesAfter_22 (by decide) ?_
  refine lv_bipush (v := 99) hx hb dX6_dunesAfter_23 (by decide) ?_
  refine k_S (As := [.int th, .int 1, .int 99]) (rest := []) (pre := []) (mid := []) C0 (c_X6_within l E th 1 99 ) (va_cwS 3 hts gX6_dunesAfter_X6_within rfl rfl rfl (by decide +kernel) ⟨Nat.le_of_ble_eq_true rfl, Nat.le_of_ble_eq_true rfl⟩) hw rfl (fun _ => []) (fun _ => rfl) rfl hl.1 rfl (Nat.le_of_ble_eq_true rfl) dX6_dunesAfter_25 ⟨Nat.le_of_ble_eq_true rfl, Nat.le_of_ble_eq_true rfl⟩ (fun r u H locs hq99 hw => ?_)
  subst hq99
  have hw : kW E AA sx (List.flatten [oc d0 6 [.ref (a 0), .ref q1, .ref (e 0), .ref q2, .ref (m 0), .ref q, .ref (t 0)], dm E m dn sz sm qu f0, fc E a (nI h) (nI w) (nI d) (nI n0) z st he ke tu ca tr co la, oc q2 5 [.ref (e 0), .ref (e 2)], fc E e R1 C1 wd1 s1 z1 st1 he1 ke1 tu1 ca1 tr1 co1 la1]) H locs := hw
  refine W.eq (g2 := F0 mm 28 ls [.int (if ¬ th < 1 ∧ ¬ 99 < th then 1 else 0)]) rfl ?_
  refine lv_if_ne (tgt := 41) hx hb dX6_dunesAfter_28 (by decide) (fun c28 => ?_) (fun c28 => False.elim ((kb10t c28) hv))
  have c28 := kb10f c28
  refine lv_aload_n hx hb dX6_dunesAfter_41 rfl (lv_at hl 0 rfl) ?_
  refine k_get (pre := []) C0 hw hinX6 rfl 2 (by decide) (hts (.fieldLink RX6 25 "SlabDunes" "trialField" "LSlabDunes$Field;") (by decide +kernel)) rfl rfl dX6_dunesAfter_42 ?_
  refine lv_aload_n hx hb dX6_dunesAfter_45 rfl (lv_at hl 0 rfl) ?_
  refine k_get (pre := []) C0 hw hinX6 rfl 0 (by decide) (hts (.fieldLink RX6 10 "SlabDunes" "field" "LSlabDunes$Field;") (by decide +kernel)) rfl rfl dX6_dunesAfter_46 ?_
  have hw : kW E AA sx (List.flatten [fc E a (nI h) (nI w) (nI d) (nI n0) z st he ke tu ca tr co la, oc d0 6 [.ref (a 0), .ref q1, .ref (e 0), .ref q2, .ref (m 0), .ref q, .ref (t 0)], dm E m dn sz sm qu f0, oc q2 5 [.ref (e 0), .ref (e 2)], fc E e R1 C1 wd1 s1 z1 st1 he1 ke1 tu1 ca1 tr1 co1 la1]) H locs := kW.front (pre := [oc d0 6 [.ref (a 0), .ref q1, .ref (e 0), .ref q2, .ref (m 0), .ref q, .ref (t 0)], dm E m dn sz sm qu f0]) hw
  have hw : kW E AA sx (List.flatten [fc E e R1 C1 wd1 s1 z1 st1 he1 ke1 tu1 ca1 tr1 co1 la1, fc E a (nI h) (nI w) (nI d) (nI n0) z st he ke tu ca tr co la, oc d0 6 [.ref (a 0), .ref q1, .ref (e 0), .ref q2, .ref (m 0), .ref q, .ref (t 0)], dm E m dn sz sm qu f0, oc q2 5 [.ref (e 0), .ref (e 2)]]) H locs := kW.front (pre := [fc E a (nI h) (nI w) (nI d) (nI n0) z st he ke tu ca tr co la, oc d0 6 [.ref (a 0), .ref q1, .ref (e 0), .ref q2, .ref (m 0), .ref q, .ref (t 0)], dm E m dn sz sm qu f0, oc q2 5 [.ref (e 0), .ref (e 2)]]) hw
  refine k_V (As := [.ref (a 0)]) (rest := []) (pre := []) (mid := [fc E e R1 C1 wd1 s1 z1 st1 he1 ke1 tu1 ca1 tr1 co1 la1, fc E a (nI h) (nI w) (nI d) (nI n0) z st he ke tu ca tr co la]) C0 (c_X1_copyFrom l E e a R1 C1 wd1 s1 z1 (nI h) (nI w) (nI d) (nI n0) z st1 he1 ke1 tu1 ca1 tr1 co1 la1 st he ke tu ca tr co la ) (cwV 1 hts gX6_dunesAfter_X1_copyFrom rfl rfl rfl (by decide +kernel) ⟨Nat.le_of_ble_eq_true rfl, Nat.le_of_ble_eq_true rfl⟩) hw rfl (fun _ => [fc E e (nI h) (nI w) (nI d) (nI n0) z st he ke tu ca tr co la, fc E a (nI h) (nI w) (nI d) (nI n0) z st he ke tu ca tr co la]) (fun _ => rfl) 0 1 rfl rfl rfl rfl hl.1 rfl (Nat.le_of_ble_eq_true rfl) dX6_dunesAfter_49 ⟨Nat.le_of_ble_eq_true rfl, Nat.le_of_ble_eq_true rfl⟩ (fun r u H locs hq99 hw => ?_)
  have hw : kW E AA sx (List.flatten [fc E e (nI h) (nI w) (nI d) (nI n0) z st he ke tu ca tr co la, fc E a (nI h) (nI w) (nI d) (nI n0) z st he ke tu ca tr co la, oc d0 6 [.ref (a 0), .ref q1, .ref (e 0), .ref q2, .ref (m 0), .ref q, .ref (t 0)], dm E m dn sz sm qu f0, oc q2 5 [.ref (e 0), .ref (e 2)]]) H locs := hw
  refine W.eq (g2 := F0 mm 52 ls []) rfl ?_
  refine lv_aload_n hx hb dX6_dunesAfter_52 rfl (lv_at hl 0 rfl) ?_
  refine k_get (pre := [fc E e (nI h) (nI w) (nI d) (nI n0) z st he ke tu ca tr co la, fc E a (nI h) (nI w) (nI d) (nI n0) z st he ke tu ca tr co la]) C0 hw hinX6 rfl 3 (by decide) (hts (.fieldLink RX6 28 "SlabDunes" "trialStorm" "LSlabDunes$Storm;") (by decide +kernel)) rfl rfl dX6_dunesAfter_53 ?_
  refine lv_iload_n hx hb dX6_dunesAfter_56 rfl (lv_at hl 1 rfl) ?_
  have hw : kW E AA sx (List.flatten [fc E e (nI h) (nI w) (nI d) (nI n0) z st he ke tu ca tr co la, fc E a (nI h) (nI w) (nI d) (nI n0) z st he ke tu ca tr co la, oc d0 6 [.ref (a 0), .ref q1, .ref (e 0), .ref q2, .ref (m 0), .ref q, .ref (t 0)], dm E m dn sz sm qu f0, oc q2 5 [.ref (e 0), .ref (e 2)]]) H locs := kW.front (pre := []) hw
  have hw : kW E AA sx (List.flatten [oc q2 5 [.ref (e 0), .ref (e 2)], fc E e (nI h) (nI w) (nI d) (nI n0) z st he ke tu ca tr co la, fc E a (nI h) (nI w) (nI d) (nI n0) z st he ke tu ca tr co la, oc d0 6 [.ref (a 0), .ref q1, .ref (e 0), .ref q2, .ref (m 0), .ref q, .ref (t 0)], dm E m dn sz sm qu f0]) H locs := kW.front (pre := [fc E e (nI h) (nI w) (nI d) (nI n0) z st he ke tu ca tr co la, fc E a (nI h) (nI w) (nI d) (nI n0) z st he ke tu ca tr co la, oc d0 6 [.ref (a 0), .ref q1, .ref (e 0), .ref q2, .ref (m 0), .ref q, .ref (t 0)], dm E m dn sz sm qu f0]) hw
  refine k_V (As := [.int (nI m9)]) (rest := []) (pre := []) (mid := [oc q2 5 [.ref (e 0), .ref (e 2)], fc E e (nI h) (nI w) (nI d) (nI n0) z st he ke tu ca tr co la]) C0 (c_X5_blow l E q2 e h w d n0 z st he ke tu ca tr co la m9 hp (by first | assumption | omega) (by first | assumption | omega) (by first | assumption | omega) (by first | assumption | omega) (by first | assumption | omega) (by first | assumption | omega)) (cwV 1 hts gX6_dunesAfter_X5_blow rfl rfl rfl (by decide +kernel) ⟨Nat.le_of_ble_eq_true rfl, Nat.le_of_ble_eq_true rfl⟩) hw rfl (fun _ => [oc q2 5 [.ref (e 0), .ref (e 2)], fc E e (nI h) (nI w) (nI d) (nI (blo h w d hp st tu ca m9 (n0, he, tr, co, la)).2.1) z st ((blo h w d hp st tu ca m9 (n0, he, tr, co, la)).2.2.1) ke tu ca ((blo h w d hp st tu ca m9 (n0, he, tr, co, la)).2.2.2.1) ((blo h w d hp st tu ca m9 (n0, he, tr, co, la)).2.2.2.2.1) ((blo h w d hp st tu ca m9 (n0, he, tr, co, la)).2.2.2.2.2)]) (fun _ => rfl) 0 5 rfl rfl rfl rfl hl.1 rfl (Nat.le_of_ble_eq_true rfl) dX6_dunesAfter_57 ⟨Nat.le_of_ble_eq_true rfl, Nat.le_of_ble_eq_true rfl⟩ (fun r u H locs hq99 hw => ?_)
  subst hq99
  have hw : kW E AA sx (List.flatten [oc q2 5 [.ref (e 0), .ref (e 2)], fc E e (nI h) (nI w) (nI d) (nI (blo h w d hp st tu ca m9 (n0, he, tr, co, la)).2.1) z st ((blo h w d hp st tu ca m9 (n0, he, tr, co, la)).2.2.1) ke tu ca ((blo h w d hp st tu ca m9 (n0, he, tr, co, la)).2.2.2.1) ((blo h w d hp st tu ca m9 (n0, he, tr, co, la)).2.2.2.2.1) ((blo h w d hp st tu ca m9 (n0, he, tr, co, la)).2.2.2.2.2), fc E a (nI h) (nI w) (nI d) (nI n0) z st he ke tu ca tr co la, oc d0 6 [.ref (a 0), .ref q1, .ref (e 0), .ref q2, .ref (m 0), .ref q, .ref (t 0)], dm E m dn sz sm qu f0]) H locs := hw
  refine W.eq (g2 := F0 mm 60 ls [.int (nI (blo h w d hp st tu ca m9 (n0, he, tr, co, la)).1)]) rfl ?_
  refine lv_pop hx hb dX6_dunesAfter_60 rfl ?_
  refine lv_aload_n hx hb dX6_dunesAfter_61 rfl (lv_at hl 0 rfl) ?_
  refine k_get (pre := [oc q2 5 [.ref (e 0), .ref (e 2)], fc E e (nI h) (nI w) (nI d) (nI (blo h w d hp st tu ca m9 (n0, he, tr, co, la)).2.1) z st ((blo h w d hp st tu ca m9 (n0, he, tr, co, la)).2.2.1) ke tu ca ((blo h w d hp st tu ca m9 (n0, he, tr, co, la)).2.2.2.1) ((blo h w d hp st tu ca m9 (n0, he, tr, co, la)).2.2.2.2.1) ((blo h w d hp st tu ca m9 (n0, he, tr, co, la)).2.2.2.2.2), fc E a (nI h) (nI w) (nI d) (nI n0) z st he ke tu ca tr co la]) C0 hw hinX6 rfl 4 (by decide) (hts (.fieldLink RX6 34 "SlabDunes" "duneMap" "LSlabDunes$DuneMap;") (by decide +kernel)) rfl rfl dX6_dunesAfter_62 ?_
  refine lv_aload_n hx hb dX6_dunesAfter_65 rfl (lv_at hl 0 rfl) ?_
  refine k_get (pre := [oc q2 5 [.ref (e 0), .ref (e 2)], fc E e (nI h) (nI w) (nI d) (nI (blo h w d hp st tu ca m9 (n0, he, tr, co, la)).2.1) z st ((blo h w d hp st tu ca m9 (n0, he, tr, co, la)).2.2.1) ke tu ca ((blo h w d hp st tu ca m9 (n0, he, tr, co, la)).2.2.2.1) ((blo h w d hp st tu ca m9 (n0, he, tr, co, la)).2.2.2.2.1) ((blo h w d hp st tu ca m9 (n0, he, tr, co, la)).2.2.2.2.2), fc E a (nI h) (nI w) (nI d) (nI n0) z st he ke tu ca tr co la]) C0 hw hinX6 rfl 2 (by decide) (hts (.fieldLink RX6 25 "SlabDunes" "trialField" "LSlabDunes$Field;") (by decide +kernel)) rfl rfl dX6_dunesAfter_66 ?_
  refine lv_iload_n hx hb dX6_dunesAfter_69 rfl (lv_at hl 2 rfl) ?_
  have hw : kW E AA sx (List.flatten [fc E e (nI h) (nI w) (nI d) (nI (blo h w d hp st tu ca m9 (n0, he, tr, co, la)).2.1) z st ((blo h w d hp st tu ca m9 (n0, he, tr, co, la)).2.2.1) ke tu ca ((blo h w d hp st tu ca m9 (n0, he, tr, co, la)).2.2.2.1) ((blo h w d hp st tu ca m9 (n0, he, tr, co, la)).2.2.2.2.1) ((blo h w d hp st tu ca m9 (n0, he, tr, co, la)).2.2.2.2.2), oc q2 5 [.ref (e 0), .ref (e 2)], fc E a (nI h) (nI w) (nI d) (nI n0) z st he ke tu ca tr co la, oc d0 6 [.ref (a 0), .ref q1, .ref (e 0), .ref q2, .ref (m 0), .ref q, .ref (t 0)], dm E m dn sz sm qu f0]) H locs := kW.front (pre := [oc q2 5 [.ref (e 0), .ref (e 2)]]) hw
  have hw : kW E AA sx (List.flatten [dm E m dn sz sm qu f0, fc E e (nI h) (nI w) (nI d) (nI (blo h w d hp st tu ca m9 (n0, he, tr, co, la)).2.1) z st ((blo h w d hp st tu ca m9 (n0, he, tr, co, la)).2.2.1) ke tu ca ((blo h w d hp st tu ca m9 (n0, he, tr, co, la)).2.2.2.1) ((blo h w d hp st tu ca m9 (n0, he, tr, co, la)).2.2.2.2.1) ((blo h w d hp st tu ca m9 (n0, he, tr, co, la)).2.2.2.2.2), oc q2 5 [.ref (e 0), .ref (e 2)], fc E a (nI h) (nI w) (nI d) (nI n0) z st he ke tu ca tr co la, oc d0 6 [.ref (a 0), .ref q1, .ref (e 0), .ref q2, .ref (m 0), .ref q, .ref (t 0)]]) H locs := kW.front (pre := [fc E e (nI h) (nI w) (nI d) (nI (blo h w d hp st tu ca m9 (n0, he, tr, co, la)).2.1) z st ((blo h w d hp st tu ca m9 (n0, he, tr, co, la)).2.2.1) ke tu ca ((blo h w d hp st tu ca m9 (n0, he, tr, co, la)).2.2.2.1) ((blo h w d hp st tu ca m9 (n0, he, tr, co, la)).2.2.2.2.1) ((blo h w d hp st tu ca m9 (n0, he, tr, co, la)).2.2.2.2.2), oc q2 5 [.ref (e 0), .ref (e 2)], fc E a (nI h) (nI w) (nI d) (nI n0) z st he ke tu ca tr co la, oc d0 6 [.ref (a 0), .ref q1, .ref (e 0), .ref q2, .ref (m 0), .ref q, .ref (t 0)]]) hw
  refine k_V (As := [.ref (e 0), .int th]) (rest := []) (pre := []) (mid := [dm E m dn sz sm qu f0, fc E e (nI h) (nI w) (nI d) (nI (blo h w d hp st tu ca m9 (n0, he, tr, co, la)).2.1) z st ((blo h w d hp st tu ca m9 (n0, he, tr, co, la)).2.2.1) ke tu ca ((blo h w d hp st tu ca m9 (n0, he, tr, co, la)).2.2.2.1) ((blo h w d hp st tu ca m9 (n0, he, tr, co, la)).2.2.2.2.1) ((blo h w d hp st tu ca m9 (n0, he, tr, co, la)).2.2.2.2.2)]) C0 (c_X0_find l E m dn sz sm qu f0 e h w (nI d) (nI (blo h w d hp st tu ca m9 (n0, he, tr, co, la)).2.1) z st ((blo h w d hp st tu ca m9 (n0, he, tr, co, la)).2.2.1) ke tu ca ((blo h w d hp st tu ca m9 (n0, he, tr, co, la)).2.2.2.1) ((blo h w d hp st tu ca m9 (n0, he, tr, co, la)).2.2.2.2.1) ((blo h w d hp st tu ca m9 (n0, he, tr, co, la)).2.2.2.2.2) th (by first | assumption | omega)) (cwV 2 hts gX6_dunesAfter_X0_find rfl rfl rfl (by decide +kernel) ⟨Nat.le_of_ble_eq_true rfl, Nat.le_of_ble_eq_true rfl⟩) hw rfl (fun (u70 : fP × fP) => [dm E m u70.1.1 u70.1.2 u70.2.1 u70.2.2 (nI (dnL h w ((blo h w d hp st tu ca m9 (n0, he, tr, co, la)).2.2.1) th (h * w)).2), fc E e (nI h) (nI w) (nI d) (nI (blo h w d hp st tu ca m9 (n0, he, tr, co, la)).2.1) z st ((blo h w d hp st tu ca m9 (n0, he, tr, co, la)).2.2.1) ke tu ca ((blo h w d hp st tu ca m9 (n0, he, tr, co, la)).2.2.2.1) ((blo h w d hp st tu ca m9 (n0, he, tr, co, la)).2.2.2.2.1) ((blo h w d hp st tu ca m9 (n0, he, tr, co, la)).2.2.2.2.2)]) (fun _ => rfl) 0 0 rfl rfl rfl rfl hl.1 rfl (Nat.le_of_ble_eq_true rfl) dX6_dunesAfter_70 ⟨Nat.le_of_ble_eq_true rfl, Nat.le_of_ble_eq_true rfl⟩ (fun r u70 H locs hq99 hw => ?_)
  obtain ⟨r70, rfl⟩ : ∃ z, z = r := ⟨_, rfl⟩
  have h70 : r70 = nI (dnL h w ((blo h w d hp st tu ca m9 (n0, he, tr, co, la)).2.2.1) th (h * w)).2 ∧ fnR h w ((blo h w d hp st tu ca m9 (n0, he, tr, co, la)).2.2.1) th (h * w) u70.1.1 u70.1.2 u70.2.1 := hq99
  have hw : kW E AA sx (List.flatten [dm E m u70.1.1 u70.1.2 u70.2.1 u70.2.2 (nI (dnL h w ((blo h w d hp st tu ca m9 (n0, he, tr, co, la)).2.2.1) th (h * w)).2), fc E e (nI h) (nI w) (nI d) (nI (blo h w d hp st tu ca m9 (n0, he, tr, co, la)).2.1) z st ((blo h w d hp st tu ca m9 (n0, he, tr, co, la)).2.2.1) ke tu ca ((blo h w d hp st tu ca m9 (n0, he, tr, co, la)).2.2.2.1) ((blo h w d hp st tu ca m9 (n0, he, tr, co, la)).2.2.2.2.1) ((blo h w d hp st tu ca m9 (n0, he, tr, co, la)).2.2.2.2.2), oc q2 5 [.ref (e 0), .ref (e 2)], fc E a (nI h) (nI w) (nI d) (nI n0) z st he ke tu ca tr co la, oc d0 6 [.ref (a 0), .ref q1, .ref (e 0), .ref q2, .ref (m 0), .ref q, .ref (t 0)]]) H locs := hw
  refine W.eq (g2 := F0 mm 73 ls [.int r70]) rfl ?_
  have hw : kW E AA sx (List.flatten [oc q2 5 [.ref (e 0), .ref (e 2)], dm E m u70.1.1 u70.1.2 u70.2.1 u70.2.2 (nI (dnL h w ((blo h w d hp st tu ca m9 (n0, he, tr, co, la)).2.2.1) th (h * w)).2), fc E e (nI h) (nI w) (nI d) (nI (blo h w d hp st tu ca m9 (n0, he, tr, co, la)).2.1) z st ((blo h w d hp st tu ca m9 (n0, he, tr, co, la)).2.2.1) ke tu ca ((blo h w d hp st tu ca m9 (n0, he, tr, co, la)).2.2.2.1) ((blo h w d hp st tu ca m9 (n0, he, tr, co, la)).2.2.2.2.1) ((blo h w d hp st tu ca m9 (n0, he, tr, co, la)).2.2.2.2.2), fc E a (nI h) (nI w) (nI d) (nI n0) z st he ke tu ca tr co la, oc d0 6 [.ref (a 0), .ref q1, .ref (e 0), .ref q2, .ref (m 0), .ref q, .ref (t 0)]]) H locs := kW.front (pre := [dm E m u70.1.1 u70.1.2 u70.2.1 u70.2.2 (nI (dnL h w ((blo h w d hp st tu ca m9 (n0, he, tr, co, la)).2.2.1) th (h * w)).2), fc E e (nI h) (nI w) (nI d) (nI (blo h w d hp st tu ca m9 (n0, he, tr, co, la)).2.1) z st ((blo h w d hp st tu ca m9 (n0, he, tr, co, la)).2.2.1) ke tu ca ((blo h w d hp st tu ca m9 (n0, he, tr, co, la)).2.2.2.1) ((blo h w d hp st tu ca m9 (n0, he, tr, co, la)).2.2.2.2.1) ((blo h w d hp st tu ca m9 (n0, he, tr, co, la)).2.2.2.2.2)]) hw
  have hw : kW E AA sx (List.flatten [fc E a (nI h) (nI w) (nI d) (nI n0) z st he ke tu ca tr co la, oc q2 5 [.ref (e 0), .ref (e 2)], dm E m u70.1.1 u70.1.2 u70.2.1 u70.2.2 (nI (dnL h w ((blo h w d hp st tu ca m9 (n0, he, tr, co, la)).2.2.1) th (h * w)).2), fc E e (nI h) (nI w) (nI d) (nI (blo h w d hp st tu ca m9 (n0, he, tr, co, la)).2.1) z st ((blo h w d hp st tu ca m9 (n0, he, tr, co, la)).2.2.1) ke tu ca ((blo h w d hp st tu ca m9 (n0, he, tr, co, la)).2.2.2.1) ((blo h w d hp st tu ca m9 (n0, he, tr, co, la)).2.2.2.2.1) ((blo h w d hp st tu ca m9 (n0, he, tr, co, la)).2.2.2.2.2), oc d0 6 [.ref (a 0), .ref q1, .ref (e 0), .ref q2, .ref (m 0), .ref q, .ref (t 0)]]) H locs := kW.front (pre := [oc q2 5 [.ref (e 0), .ref (e 2)], dm E m u70.1.1 u70.1.2 u70.2.1 u70.2.2 (nI (dnL h w ((blo h w d hp st tu ca m9 (n0, he, tr, co, la)).2.2.1) th (h * w)).2), fc E e (nI h) (nI w) (nI d) (nI (blo h w d hp st tu ca m9 (n0, he, tr, co, la)).2.1) z st ((blo h w d hp st tu ca m9 (n0, he, tr, co, la)).2.2.1) ke tu ca ((blo h w d hp st tu ca m9 (n0, he, tr, co, la)).2.2.2.1) ((blo h w d hp st tu ca m9 (n0, he, tr, co, la)).2.2.2.2.1) ((blo h w d hp st tu ca m9 (n0, he, tr, co, la)).2.2.2.2.2)]) hw
  have hw : kW E AA sx (List.flatten [dm E m u70.1.1 u70.1.2 u70.2.1 u70.2.2 (nI (dnL h w ((blo h w d hp st tu ca m9 (n0, he, tr, co, la)).2.2.1) th (h * w)).2), fc E a (nI h) (nI w) (nI d) (nI n0) z st he ke tu ca tr co la, oc q2 5 [.ref (e 0), .ref (e 2)], fc E e (nI h) (nI w) (nI d) (nI (blo h w d hp st tu ca m9 (n0, he, tr, co, la)).2.1) z st ((blo h w d hp st tu ca m9 (n0, he, tr, co, la)).2.2.1) ke tu ca ((blo h w d hp st tu ca m9 (n0, he, tr, co, la)).2.2.2.1) ((blo h w d hp st tu ca m9 (n0, he, tr, co, la)).2.2.2.2.1) ((blo h w d hp st tu ca m9 (n0, he, tr, co, la)).2.2.2.2.2), oc d0 6 [.ref (a 0), .ref q1, .ref (e 0), .ref q2, .ref (m 0), .ref q, .ref (t 0)]]) H locs := kW.front (pre := [fc E a (nI h) (nI w) (nI d) (nI n0) z st he ke tu ca tr co la, oc q2 5 [.ref (e 0), .ref (e 2)]]) hw
  have hw : kW E AA sx (List.flatten [oc d0 6 [.ref (a 0), .ref q1, .ref (e 0), .ref q2, .ref (m 0), .ref q, .ref (t 0)], dm E m u70.1.1 u70.1.2 u70.2.1 u70.2.2 (nI (dnL h w ((blo h w d hp st tu ca m9 (n0, he, tr, co, la)).2.2.1) th (h * w)).2), fc E a (nI h) (nI w) (nI d) (nI n0) z st he ke tu ca tr co la, oc q2 5 [.ref (e 0), .ref (e 2)], fc E e (nI h) (nI w) (nI d) (nI (blo h w d hp st tu ca m9 (n0, he, tr, co, la)).2.1) z st ((blo h w d hp st tu ca m9 (n0, he, tr, co, la)).2.2.1) ke tu ca ((blo h w d hp st tu ca m9 (n0, he, tr, co, la)).2.2.2.1) ((blo h w d hp st tu ca m9 (n0, he, tr, co, la)).2.2.2.2.1) ((blo h w d hp st tu ca m9 (n0, he, tr, co, la)).2.2.2.2.2)]) H locs := kW.front (pre := [dm E m u70.1.1 u70.1.2 u70.2.1 u70.2.2 (nI (dnL h w ((blo h w d hp st tu ca m9 (n0, he, tr, co, la)).2.2.1) th (h * w)).2), fc E a (nI h) (nI w) (nI d) (nI n0) z st he ke tu ca tr co la, oc q2 5 [.ref (e 0), .ref (e 2)], fc E e (nI h) (nI w) (nI d) (nI (blo h w d hp st tu ca m9 (n0, he, tr, co, la)).2.1) z st ((blo h w d hp st tu ca m9 (n0, he, tr, co, la)).2.2.1) ke tu ca ((blo h w d hp st tu ca m9 (n0, he, tr, co, la)).2.2.2.1) ((blo h w d hp st tu ca m9 (n0, he, tr, co, la)).2.2.2.2.1) ((blo h w d hp st tu ca m9 (n0, he, tr, co, la)).2.2.2.2.2)]) hw
  -- leaf 0
  exact vx_ret <| k_iret C0 hr hlk hw u70 (rfl) (h70.1) (Nat.le_of_ble_eq_true rfl) (Nat.le_of_ble_eq_true rfl) dX6_dunesAfter_73
