/-! DuneMap -/
theorem rch_lab {h w : Nat} {he : Nat → Int32} {t : Int32} {lab : Nat → Nat} {c x : Nat} (hc : lab c = 0) (hx : rch h w he t lab c x) : lab x = 0 := hx (fun y => lab y = 0) hc (fun _ _ _ _ _ h2 => h2)
theorem sprL_old {h w : Nat} {he : Nat → Int32} {t : Int32} {lab : Nat → Nat} {num c v x : Nat} (hc : lab c = 0) (h1 : v ≠ num) (h2 : v ≠ 0) : (sprL h w he t lab num c x = v) = (lab x = v) := by
  by_cases hx : rch h w he t lab c x
  · rw [sprL_y hx, rch_lab hc hx]
    exact propext ⟨fun e => absurd e.symm h1, fun e => absurd e.symm h2⟩
  · rw [sprL_n hx]
theorem cntL_old {h w : Nat} {he : Nat → Int32} {t : Int32} {lab : Nat → Nat} {num c v : Nat} (hc : lab c = 0) (h1 : v ≠ num) (h2 : v ≠ 0) : ∀ n, cntL (sprL h w he t lab num c) v n = cntL lab v n
  | 0 => rfl
  | n + 1 => by
    rw [cntL_s, cntL_s, cntL_old hc h1 h2 n]
    have e := sprL_old (h := h) (w := w) (he := he) (t := t) (x := n) hc h1 h2
    by_cases h9 : lab n = v
    · rw [if_pos h9, if_pos (e.mpr h9)]
    · rw [if_neg h9, if_neg (fun z => h9 (e.mp z))]
theorem sumL_old {h w : Nat} {he : Nat → Int32} {t : Int32} {lab : Nat → Nat} {num c v : Nat} (hc : lab c = 0) (h1 : v ≠ num) (h2 : v ≠ 0) : ∀ n, sumL he (sprL h w he t lab num c) v n = sumL he lab v n
  | 0 => rfl
  | n + 1 => by
    rw [sumL_s, sumL_s, sumL_old hc h1 h2 n]
    have e := sprL_old (h := h) (w := w) (he := he) (t := t) (x := n) hc h1 h2
    by_cases h9 : lab n = v
    · rw [if_pos h9, if_pos (e.mpr h9)]
    · rw [if_neg h9, if_neg (fun z => h9 (e.mp z))]
/-- the rows of numbers hold the labels -/
def dnR (n : Nat) (D : Nat → Int32) (L : Nat → Nat) : Prop := ∀ x, x < n → D x = nI (L x)
theorem dnR_up {n : Nat} {D : Nat → Int32} {L : Nat → Nat} (hD : dnR n D L) (x v : Nat) : dnR n (upd D x (nI v)) (va_up L x v) := by
  intro y hy
  unfold upd va_up
  split
  · rfl
  · exact hD y hy
/-- one place of a row is v, the others are as in z -/
def oneR (num : Nat) (v : Int32) (z Z : Nat → Int32) : Prop := (∀ k : Nat, k ≠ num → Z k = z k) ∧ Z num = v
theorem oneR_up {num : Nat} {v u : Int32} {z Z : Nat → Int32} (h : oneR num v z Z) : oneR num (v + u) z (upd Z num (Z num + u)) := by
  refine ⟨fun k hk => ?_, ?_⟩
  · unfold upd; rw [if_neg hk]; exact h.1 k hk
  · unfold upd; rw [if_pos rfl, h.2]
theorem oneR_0 {num : Nat} {z : Nat → Int32} (h : z num = 0) : oneR num 0 z z := ⟨fun _ _ => rfl, h⟩
def quR (m : Nat) (Q : Nat → Int32) (q : Nat → Nat) : Prop := ∀ j, j < m → Q j = nI (q j)
theorem quR_up {m x : Nat} {Q : Nat → Int32} {q : Nat → Nat} (h : quR m Q q) : quR (m + 1) (upd Q m (nI x)) (va_up q m x) := by
  intro j hj
  unfold upd va_up
  split
  · rfl
  · exact h j (by omega)
/-- what find leaves -/
def fnR (h w : Nat) (he : Nat → Int32) (t : Int32) (i : Nat) (D Z M : Nat → Int32) : Prop :=
  dnR (h * w) D (dnL h w he t i).1 ∧ (∀ v, 1 ≤ v → v ≤ (dnL h w he t i).2 → Z v = nI (cntL (dnL h w he t i).1 v (h * w)) ∧ M v = sumL he (dnL h w he t i).1 v (h * w)) ∧ ∀ v, (v = 0 ∨ (dnL h w he t i).2 < v) → Z v = 0 ∧ M v = 0
theorem fnR_0 {h w : Nat} {he : Nat → Int32} {t : Int32} : fnR h w he t 0 (fun _ => 0) (fun _ => 0) (fun _ => 0) :=
  ⟨fun _ _ => rfl, fun v h1 h2 => absurd h2 (by show ¬ v ≤ 0; omega), fun _ _ => ⟨rfl, rfl⟩⟩
theorem fnR_n {h w : Nat} {he : Nat → Int32} {t : Int32} {i : Nat} {D Z M : Nat → Int32} (hF : fnR h w he t i D Z M) (h1 : ¬ (¬ he i < t ∧ (dnL h w he t i).1 i = 0)) : fnR h w he t (i + 1) D Z M := by
  unfold fnR
  rw [dnL_n h1]
  exact hF
theorem fnR_y {h w : Nat} {he : Nat → Int32} {t : Int32} {i : Nat} {D Z M D' Z' M' : Nat → Int32} (hF : fnR h w he t i D Z M) (h1 : ¬ he i < t) (h2 : (dnL h w he t i).1 i = 0)
    (hD : dnR (h * w) D' (sprL h w he t (dnL h w he t i).1 ((dnL h w he t i).2 + 1) i)) (hZ : oneR ((dnL h w he t i).2 + 1) (nI (cntL (sprL h w he t (dnL h w he t i).1 ((dnL h w he t i).2 + 1) i) ((dnL h w he t i).2 + 1) (h * w))) Z Z')
    (hM : oneR ((dnL h w he t i).2 + 1) (sumL he (sprL h w he t (dnL h w he t i).1 ((dnL h w he t i).2 + 1) i) ((dnL h w he t i).2 + 1) (h * w)) M M') : fnR h w he t (i + 1) D' Z' M' := by
  unfold fnR
  rw [dnL_y h1 h2]
  refine ⟨hD, fun v a1 a2 => ?_, fun v a1 => ?_⟩
  · by_cases h9 : v = (dnL h w he t i).2 + 1
    · rw [h9]; exact ⟨hZ.2, hM.2⟩
    · rw [hZ.1 v h9, hM.1 v h9]
      show Z v = nI (cntL (sprL _ _ _ _ _ _ _) v _) ∧ M v = sumL he (sprL _ _ _ _ _ _ _) v _
      rw [cntL_old h2 h9 (by omega), sumL_old h2 h9 (by omega)]
      have a3 : v ≤ (dnL h w he t i).2 + 1 := a2
      exact hF.2.1 v a1 (by omega)
  · have a3 : v = 0 ∨ (dnL h w he t i).2 + 1 < v := a1
    rw [hZ.1 v (by omega), hM.1 v (by omega)]
    exact hF.2.2 v (by omega)
abbrev rmX0_spread : Room := { frames := 1, cells := 0, slots := 0, locals := 24 }
set_option maxHeartbeats 4000000 in
set_option maxRecDepth 100000 in
theorem c_X0_spread (l : Launch) (E : kE) (b : Nat → Nat) (dn : Nat → Int32) (sz : Nat → Int32) (sm : Nat → Int32) (qu : Nat → Int32) (a : Nat → Nat) (h : Nat) (w : Nat) (wd : Int32) (s0 : Int32) (z : Int32) (st : Nat → Int32) (he : Nat → Int32) (ke : Nat → Int32) (tu : Nat → Int32) (ca : Nat → Int32) (tr : Nat → Int32) (co : Nat → Int32) (la : Nat → Int32) (k : Nat) (t : Int32) (num : Nat) (lab : Nat → Nat) (hG : kG h w) (hc : k < h * w) (hdn : dnR (h * w) dn lab) (hlab : ∀ x, lab x < num) (hnum : 1 ≤ num) (hnum2 : num ≤ 192) (hlc : lab k = 0) (hsz : sz num = 0) (hsm : sm num = 0) : kC E l yX0_spread wsX0_spread rmX0_spread [.ref (b 0), .ref (a 0), .int (nI k), .int t] (List.flatten [dm E b dn sz sm qu (nI num), fc E a (nI h) (nI w) wd s0 z st he ke tu ca tr co la]) kV (fun (r : Unit) (u : fP × fP) => dnR (h * w) u.1.1 (sprL h w he t lab num k) ∧ oneR num (nI (cntL (sprL h w he t lab num k) num (h * w))) sz u.1.2 ∧ oneR num (sumL he (sprL h w he t lab num k) num (h * w)) sm u.2.1) (fun (u : fP × fP) => List.flatten [dm E b u.1.1 u.1.2 u.2.1 u.2.2 (nI num), fc E a (nI h) (nI w) wd s0 z st he ke tu ca tr co la]) 0 0 := by
  refine k_body (cc := cX0_spread) (maxL := 9) (ret := none) (by decide) rfl (Nat.le_of_ble_eq_true rfl) ?_
  intro pp ee sx mm aa bb me cd H locs AA ls C0 hr hlk hnm hl hw
  obtain ⟨hx, hb, hml, hown, hts⟩ := id C0
  have hl : lv_has ls 9 [(0, .ref (b 0)), (1, .ref (a 0)), (2, .int (nI k)), (3, .int t)] := hl
  have hw : kW E AA sx (List.flatten [oc (b 0) 0 [.ref (b 1), .ref (b 2), .ref (b 3), .ref (b 4), .int (nI num)], rc E (b 1) (b 5) 192 dn, rc E (b 2) (b 6) 193 sz, rc E (b 3) (b 7) 193 sm, rc E (b 4) (b 8) 192 qu, oc (a 0) 1 [.int (nI h), .int (nI w), .int wd, .int s0, .int z, .ref (a 1), .ref (a 2), .ref (a 3), .ref (a 4), .ref (a 5), .ref (a 6), .ref (a 7), .ref (a 8)], rc E (a 1) (a 9) 4 st, rc E (a 2) (a 10) 192 he, rc E (a 3) (a 11) 192 ke, rc E (a 4) (a 12) 192 tu, rc E (a 5) (a 13) 192 ca, rc E (a 6) (a 14) 192 tr, rc E (a 7) (a 15) 12 co, rc E (a 8) (a 16) 4 la]) H locs := hw
  have hn9 := kG_n hG
  have hG9 := id hG
  obtain ⟨hG1, hG2, hG3, hG4⟩ := hG9
  have hinX0 : ∀ w ∈ u_ws RX0 TX0 5, w ∈ wsX0_spread := by decide +kernel
  have hinX1 : ∀ w ∈ u_ws RX1 TX1 13, w ∈ wsX0_spread := by decide +kernel
  refine lv_aload_n hx hb dX0_spread_0 rfl (lv_at hl 0 rfl) ?_
  refine k_get (pre := []) C0 hw hinX0 rfl 0 (by decide) (hts (.fieldLink RX0 14 "SlabDunes$DuneMap" "duneNumbers" "LSlabDunes$Row;") (by decide +kernel)) rfl rfl dX0_spread_1 ?_
  refine lv_iload_n hx hb dX0_spread_4 rfl (lv_at hl 2 rfl) ?_
  refine lv_aload_n hx hb dX0_spread_5 rfl (lv_at hl 0 rfl) ?_
  refine k_get (pre := []) C0 hw hinX0 rfl 4 (by decide) (hts (.fieldLink RX0 32 "SlabDunes$DuneMap" "found" "I") (by decide +kernel)) rfl rfl dX0_spread_6 ?_
  refine k_V (As := [.int (nI k), .int (nI num)]) (rest := []) (pre := [oc (b 0) 0 [.ref (b 1), .ref (b 2), .ref (b 3), .ref (b 4), .int (nI num)]]) (mid := [rc E (b 1) (b 5) 192 dn]) C0 (c_X4_putN l E (b 1) (b 5) 192 dn k (nI num) (by first | assumption | omega) (by first | assumption | omega)) (cwV 2 hts gX0_spread_X4_put rfl rfl rfl (by decide +kernel) ⟨Nat.le_of_ble_eq_true rfl, Nat.le_of_ble_eq_true rfl⟩) hw rfl (fun _ => [rc E (b 1) (b 5) 192 (upd dn k (nI num))]) (fun _ => rfl) 0 4 rfl rfl rfl rfl hl.1 rfl (Nat.le_of_ble_eq_true rfl) dX0_spread_9 ⟨Nat.le_of_ble_eq_true rfl, Nat.le_of_ble_eq_true rfl⟩ (fun r u H locs hq99 hw => ?_)
  have hw : kW E AA sx (List.flatten [oc (b 0) 0 [.ref (b 1), .ref (b 2), .ref (b 3), .ref (b 4), .int (nI num)], rc E (b 1) (b 5) 192 (upd dn k (nI num)), rc E (b 2) (b 6) 193 sz, rc E (b 3) (b 7) 193 sm, rc E (b 4) (b 8) 192 qu, oc (a 0) 1 [.int (nI h), .int (nI w), .int wd, .int s0, .int z, .ref (a 1), .ref (a 2), .ref (a 3), .ref (a 4), .ref (a 5), .ref (a 6), .ref (a 7), .ref (a 8)], rc E (a 1) (a 9) 4 st, rc E (a 2) (a 10) 192 he, rc E (a 3) (a 11) 192 ke, rc E (a 4) (a 12) 192 tu, rc E (a 5) (a 13) 192 ca, rc E (a 6) (a 14) 192 tr, rc E (a 7) (a 15) 12 co, rc E (a 8) (a 16) 4 la]) H locs := hw
  refine W.eq (g2 := F0 mm 12 ls []) rfl ?_
  refine lv_aload_n hx hb dX0_spread_12 rfl (lv_at hl 0 rfl) ?_
  refine k_get (pre := []) C0 hw hinX0 rfl 3 (by decide) (hts (.fieldLink RX0 26 "SlabDunes$DuneMap" "queue" "LSlabDunes$Row;") (by decide +kernel)) rfl rfl dX0_spread_13 ?_
  refine lv_iconst (v := 0) hx hb dX0_spread_16 (by decide) ?_
  refine lv_iload_n hx hb dX0_spread_17 rfl (lv_at hl 2 rfl) ?_
  refine k_V (As := [.int 0, .int (nI k)]) (rest := []) (pre := [oc (b 0) 0 [.ref (b 1), .ref (b 2), .ref (b 3), .ref (b 4), .int (nI num)], rc E (b 1) (b 5) 192 (upd dn k (nI num)), rc E (b 2) (b 6) 193 sz, rc E (b 3) (b 7) 193 sm]) (mid := [rc E (b 4) (b 8) 192 qu]) C0 (c_X4_putN l E (b 4) (b 8) 192 qu 0 (nI k) (by first | assumption | omega) (by first | assumption | omega)) (cwV 2 hts gX0_spread_X4_put rfl rfl rfl (by decide +kernel) ⟨Nat.le_of_ble_eq_true rfl, Nat.le_of_ble_eq_true rfl⟩) hw rfl (fun _ => [rc E (b 4) (b 8) 192 (upd qu 0 (nI k))]) (fun _ => rfl) 0 4 rfl rfl rfl rfl hl.1 rfl (Nat.le_of_ble_eq_true rfl) dX0_spread_18 ⟨Nat.le_of_ble_eq_true rfl, Nat.le_of_ble_eq_true rfl⟩ (fun r u H locs hq99 hw => ?_)
  have hw : kW E AA sx (List.flatten [oc (b 0) 0 [.ref (b 1), .ref (b 2), .ref (b 3), .ref (b 4), .int (nI num)], rc E (b 1) (b 5) 192 (upd dn k (nI num)), rc E (b 2) (b 6) 193 sz, rc E (b 3) (b 7) 193 sm, rc E (b 4) (b 8) 192 (upd qu 0 (nI k)), oc (a 0) 1 [.int (nI h), .int (nI w), .int wd, .int s0, .int z, .ref (a 1), .ref (a 2), .ref (a 3), .ref (a 4), .ref (a 5), .ref (a 6), .ref (a 7), .ref (a 8)], rc E (a 1) (a 9) 4 st, rc E (a 2) (a 10) 192 he, rc E (a 3) (a 11) 192 ke, rc E (a 4) (a 12) 192 tu, rc E (a 5) (a 13) 192 ca, rc E (a 6) (a 14) 192 tr, rc E (a 7) (a 15) 12 co, rc E (a 8) (a 16) 4 la]) H locs := hw
  refine W.eq (g2 := F0 mm 21 ls []) rfl ?_
  refine lv_iconst (v := 1) hx hb dX0_spread_21 (by decide) ?_
  refine lv_istore (lv' := [(4, .int 1), (0, .ref (b 0)), (1, .ref (a 0)), (2, .int (nI k)), (3, .int t)]) hx hb dX0_spread_22 hl (by decide) rfl (fun ls hl => ?_)
  refine lv_iconst (v := 0) hx hb dX0_spread_24 (by decide) ?_
  refine lv_istore (lv' := [(5, .int 0), (4, .int 1), (0, .ref (b 0)), (1, .ref (a 0)), (2, .int (nI k)), (3, .int t)]) hx hb dX0_spread_25 hl (by decide) rfl (fun ls hl => ?_)
  have loop27 : ∀ (nn : Nat) (i : Nat) (m9 : Nat) (L9 : Nat → Nat) (q9 : Nat → Nat) (D9 : Nat → Int32) (Z9 : Nat → Int32) (M9 : Nat → Int32) (Q9 : Nat → Int32), (flI h w he t lab num k L9) → (flQ h w he num L9 q9 m9) → (clI h w he t lab num L9 q9 i 0) → (i ≤ m9) → (dnR (h * w) D9 L9) → (quR m9 Q9 q9) → (oneR num (nI i) sz Z9) → (oneR num (qsm he q9 i) sm M9) → h * w - i < nn → ∀ (H : Heap) (locs : List Loc) (ls : Array Slot), lv_has ls 9 [(5, .int (nI i)), (4, .int (nI m9)), (0, .ref (b 0)), (1, .ref (a 0)), (2, .int (nI k)), (3, .int t)] → kW E AA sx (List.flatten [oc (b 0) 0 [.ref (b 1), .ref (b 2), .ref (b 3), .ref (b 4), .int (nI num)], rc E (b 1) (b 5) 192 D9, rc E (b 2) (b 6) 193 Z9, rc E (b 3) (b 7) 193 M9, rc E (b 4) (b 8) 192 Q9, oc (a 0) 1 [.int (nI h), .int (nI w), .int wd, .int s0, .int z, .ref (a 1), .ref (a 2), .ref (a 3), .ref (a 4), .ref (a 5), .ref (a 6), .ref (a 7), .ref (a 8)], rc E (a 1) (a 9) 4 st, rc E (a 2) (a 10) 192 he, rc E (a 3) (a 11) 192 ke, rc E (a 4) (a 12) 192 tu, rc E (a 5) (a 13) 192 ca, rc E (a 6) (a 14) 192 tr, rc E (a 7) (a 15) 12 co, rc E (a 8) (a 16) 4 la]) H locs → W pp l ee rmX0_spread sx mm aa bb me cd H locs 0 0 (kEnd E kV (fun (r : Unit) (u : fP × fP) => dnR (h * w) u.1.1 (sprL h w he t lab num k) ∧ oneR num (nI (cntL (sprL h w he t lab num k) num (h * w))) sz u.1.2 ∧ oneR num (sumL he (sprL h w he t lab num k) num (h * w)) sm u.2.1) (fun (u : fP × fP) => List.flatten [dm E b u.1.1 u.1.2 u.2.1 u.2.2 (nI num), fc E a (nI h) (nI w) wd s0 z st he ke tu ca tr co la]) bb aa sx AA 0 0) (F0 mm 27 ls []) := by
    intro nn
    induction nn with
    | zero => intro i m9 L9 q9 D9 Z9 M9 Q9 hFl hFq hCl hi hDD hQQ hZZ hMM hm27; exact absurd hm27 (Nat.not_lt_zero _)
    | succ nn ih27 =>
      intro i m9 L9 q9 D9 Z9 M9 Q9 hFl hFq hCl hi hDD hQQ hZZ hMM hm27 H locs ls hl hw
      have hml9 := flQ_le hFq
      refine lv_iload hx hb dX0_spread_27 (lv_at hl 0 rfl) ?_
      refine lv_iload hx hb dX0_spread_29 (lv_at hl 1 rfl) ?_
      refine lv_icmp_ge (tgt := 168) hx hb dX0_spread_31 (by decide) (fun c31 => ?_) (fun c31 => ?_)
      · have c31 : m9 ≤ i := (nI_leI (a := m9) (b := i) (by omega) (by omega)).mp c31
        have hie9 : i = m9 := by omega
        have hLL9 := flQ_end hG hc hFl hFq hCl (by omega)
        rw [hie9] at hZZ hMM
        rw [← hFq.2.2.1] at hZZ
        rw [← hFq.2.2.2] at hMM
        rw [hLL9] at hZZ hMM hDD
        -- leaf 0
        exact k_vret C0 hr hlk hw ((D9, Z9), (M9, Q9)) (rfl) (⟨hDD, hZZ, hMM⟩) (Nat.le_of_ble_eq_true rfl) (Nat.le_of_ble_eq_true rfl) dX0_spread_168
      · have c31 : ¬ m9 ≤ i := fun h99 => c31 ((nI_leI (a := m9) (b := i) (by omega) (by omega)).mpr h99)
        refine lv_iload hx hb dX0_spread_34 (lv_at hl 0 rfl) ?_
        refine lv_sipush (v := 192) hx hb dX0_spread_36 (by decide) ?_
        refine lv_icmp_ge (tgt := 168) hx hb dX0_spread_39 (by decide) (fun c39 => ?_) (fun c39 => ?_)
        · have c39 : 192 ≤ i := (nI_leI (a := 192) (b := i) (by omega) (by omega)).mp c39
          have hie9 : i = m9 := by omega
          have hLL9 := flQ_end hG hc hFl hFq hCl (by omega)
          rw [hie9] at hZZ hMM
          rw [← hFq.2.2.1] at hZZ
          rw [← hFq.2.2.2] at hMM
          rw [hLL9] at hZZ hMM hDD
          -- leaf 1
          exact k_vret C0 hr hlk hw ((D9, Z9), (M9, Q9)) (rfl) (⟨hDD, hZZ, hMM⟩) (Nat.le_of_ble_eq_true rfl) (Nat.le_of_ble_eq_true rfl) dX0_spread_168
        · have c39 : ¬ 192 ≤ i := fun h99 => c39 ((nI_leI (a := 192) (b := i) (by omega) (by omega)).mpr h99)
          have hqi9 := (hFq.1 i (by omega)).1
          refine lv_aload_n hx hb dX0_spread_42 rfl (lv_at hl 2 rfl) ?_
          refine k_get (pre := []) C0 hw hinX0 rfl 3 (by decide) (hts (.fieldLink RX0 26 "SlabDunes$DuneMap" "queue" "LSlabDunes$Row;") (by decide +kernel)) rfl rfl dX0_spread_43 ?_
          refine lv_iload hx hb dX0_spread_46 (lv_at hl 0 rfl) ?_
          refine k_V (As := [.int (nI i)]) (rest := []) (pre := [oc (b 0) 0 [.ref (b 1), .ref (b 2), .ref (b 3), .ref (b 4), .int (nI num)], rc E (b 1) (b 5) 192 D9, rc E (b 2) (b 6) 193 Z9, rc E (b 3) (b 7) 193 M9]) (mid := [rc E (b 4) (b 8) 192 Q9]) C0 (c_X4_atN l E (b 4) (b 8) 192 Q9 i (by first | assumption | omega) (by first | assumption | omega)) (cwV 1 hts gX0_spread_X4_at rfl rfl rfl (by decide +kernel) ⟨Nat.le_of_ble_eq_true rfl, Nat.le_of_ble_eq_true rfl⟩) hw rfl (fun _ => [rc E (b 4) (b 8) 192 Q9]) (fun _ => rfl) 0 4 rfl rfl rfl rfl hl.1 rfl (Nat.le_of_ble_eq_true rfl) dX0_spread_48 ⟨Nat.le_of_ble_eq_true rfl, Nat.le_of_ble_eq_true rfl⟩ (fun r u H locs hq99 hw => ?_)
          subst hq99
          have hw : kW E AA sx (List.flatten [oc (b 0) 0 [.ref (b 1), .ref (b 2), .ref (b 3), .ref (b 4), .int (nI num)], rc E (b 1) (b 5) 192 D9, rc E (b 2) (b 6) 193 Z9, rc E (b 3) (b 7) 193 M9, rc E (b 4) (b 8) 192 Q9, oc (a 0) 1 [.int (nI h), .int (nI w), .int wd, .int s0, .int z, .ref (a 1), .ref (a 2), .ref (a 3), .ref (a 4), .ref (a 5), .ref (a 6), .ref (a 7), .ref (a 8)], rc E (a 1) (a 9) 4 st, rc E (a 2) (a 10) 192 he, rc E (a 3) (a 11) 192 ke, rc E (a 4) (a 12) 192 tu, rc E (a 5) (a 13) 192 ca, rc E (a 6) (a 14) 192 tr, rc E (a 7) (a 15) 12 co, rc E (a 8) (a 16) 4 la]) H locs := hw
          refine W.eq (g2 := F0 mm 51 ls [.int (Q9 i)]) rfl ?_
          refine W.eq (g2 := F0 mm 51 ls [.int (nI (q9 i))]) (congrArg (fun z9 => F0 mm 51 ls [.int z9]) (show (Q9 i : Int32) = nI (q9 i) from hQQ i (by omega))) ?_
          refine lv_istore (lv' := [(6, .int (nI (q9 i))), (5, .int (nI i)), (4, .int (nI m9)), (0, .ref (b 0)), (1, .ref (a 0)), (2, .int (nI k)), (3, .int t)]) hx hb dX0_spread_51 hl (by decide) rfl (fun ls hl => ?_)
          refine lv_aload_n hx hb dX0_spread_53 rfl (lv_at hl 3 rfl) ?_
          refine k_get (pre := []) C0 hw hinX0 rfl 1 (by decide) (hts (.fieldLink RX0 20 "SlabDunes$DuneMap" "sizes" "LSlabDunes$Row;") (by decide +kernel)) rfl rfl dX0_spread_54 ?_
          refine lv_aload_n hx hb dX0_spread_57 rfl (lv_at hl 3 rfl) ?_
          refine k_get (pre := []) C0 hw hinX0 rfl 4 (by decide) (hts (.fieldLink RX0 32 "SlabDunes$DuneMap" "found" "I") (by decide +kernel)) rfl rfl dX0_spread_58 ?_
          refine lv_iconst (v := 1) hx hb dX0_spread_61 (by decide) ?_
          refine k_V (As := [.int (nI num), .int 1]) (rest := []) (pre := [oc (b 0) 0 [.ref (b 1), .ref (b 2), .ref (b 3), .ref (b 4), .int (nI num)], rc E (b 1) (b 5) 192 D9]) (mid := [rc E (b 2) (b 6) 193 Z9]) C0 (c_X4_addN l E (b 2) (b 6) 193 Z9 num 1 (by first | assumption | omega) (by first | assumption | omega)) (cwV 2 hts gX0_spread_X4_add rfl rfl rfl (by decide +kernel) ⟨Nat.le_of_ble_eq_true rfl, Nat.le_of_ble_eq_true rfl⟩) hw rfl (fun _ => [rc E (b 2) (b 6) 193 (upd Z9 num (Z9 num + 1))]) (fun _ => rfl) 0 4 rfl rfl rfl rfl hl.1 rfl (Nat.le_of_ble_eq_true rfl) dX0_spread_62 ⟨Nat.le_of_ble_eq_true rfl, Nat.le_of_ble_eq_true rfl⟩ (fun r u H locs hq99 hw => ?_)
          have hw : kW E AA sx (List.flatten [oc (b 0) 0 [.ref (b 1), .ref (b 2), .ref (b 3), .ref (b 4), .int (nI num)], rc E (b 1) (b 5) 192 D9, rc E (b 2) (b 6) 193 (upd Z9 num (Z9 num + 1)), rc E (b 3) (b 7) 193 M9, rc E (b 4) (b 8) 192 Q9, oc (a 0) 1 [.int (nI h), .int (nI w), .int wd, .int s0, .int z, .ref (a 1), .ref (a 2), .ref (a 3), .ref (a 4), .ref (a 5), .ref (a 6), .ref (a 7), .ref (a 8)], rc E (a 1) (a 9) 4 st, rc E (a 2) (a 10) 192 he, rc E (a 3) (a 11) 192 ke, rc E (a 4) (a 12) 192 tu, rc E (a 5) (a 13) 192 ca, rc E (a 6) (a 14) 192 tr, rc E (a 7) (a 15) 12 co, rc E (a 8) (a 16) 4 la]) H locs := hw
          refine W.eq (g2 := F0 mm 65 ls []) rfl ?_
          refine lv_aload_n hx hb dX0_spread_65 rfl (lv_at hl 3 rfl) ?_
          refine k_get (pre := []) C0 hw hinX0 rfl 2 (by decide) (hts (.fieldLink RX0 23 "SlabDunes$DuneMap" "sums" "LSlabDunes$Row;") (by decide +kernel)) rfl rfl dX0_spread_66 ?_
          refine lv_aload_n hx hb dX0_spread_69 rfl (lv_at hl 3 rfl) ?_
          refine k_get (pre := []) C0 hw hinX0 rfl 4 (by decide) (hts (.fieldLink RX0 32 "SlabDunes$DuneMap" "found" "I") (by decide +kernel)) rfl rfl dX0_spread_70 ?_
          refine lv_aload_n hx hb dX0_spread_73 rfl (lv_at hl 4 rfl) ?_
          refine k_getN (host := RX6) (pre := [oc (b 0) 0 [.ref (b 1), .ref (b 2), .ref (b 3), .ref (b 4), .int (nI num)], rc E (b 1) (b 5) 192 D9, rc E (b 2) (b 6) 193 (upd Z9 num (Z9 num + 1)), rc E (b 3) (b 7) 193 M9, rc E (b 4) (b 8) 192 Q9]) C0 hw hinX1 rfl 6 (by decide) (kN.get hw.2.2.1.2 (by decide +kernel)) rfl rfl dX0_spread_74 ?_
          refine lv_iload hx hb dX0_spread_77 (lv_at hl 0 rfl) ?_
          refine k_V (As := [.int (nI (q9 i))]) (rest := [.int (nI num), .ref (b 3)]) (pre := [oc (b 0) 0 [.ref (b 1), .ref (b 2), .ref (b 3), .ref (b 4), .int (nI num)], rc E (b 1) (b 5) 192 D9, rc E (b 2) (b 6) 193 (upd Z9 num (Z9 num + 1)), rc E (b 3) (b 7) 193 M9, rc E (b 4) (b 8) 192 Q9, oc (a 0) 1 [.int (nI h), .int (nI w), .int wd, .int s0, .int z, .ref (a 1), .ref (a 2), .ref (a 3), .ref (a 4), .ref (a 5), .ref (a 6), .ref (a 7), .ref (a 8)], rc E (a 1) (a 9) 4 st]) (mid := [rc E (a 2) (a 10) 192 he]) C0 (c_X4_atN l E (a 2) (a 10) 192 he (q9 i) (Nat.lt_of_lt_of_le hqi9 hn9.1) (by first | assumption | omega)) (cwV 1 hts gX0_spread_X4_at rfl rfl rfl (by decide +kernel) ⟨Nat.le_of_ble_eq_true rfl, Nat.le_of_ble_eq_true rfl⟩) hw rfl (fun _ => [rc E (a 2) (a 10) 192 he]) (fun _ => rfl) 0 4 rfl rfl rfl rfl hl.1 rfl (Nat.le_of_ble_eq_true rfl) dX0_spread_79 ⟨Nat.le_of_ble_eq_true rfl, Nat.le_of_ble_eq_true rfl⟩ (fun r u H locs hq99 hw => ?_)
          subst hq99
          have hw : kW E AA sx (List.flatten [oc (b 0) 0 [.ref (b 1), .ref (b 2), .ref (b 3), .ref (b 4), .int (nI num)], rc E (b 1) (b 5) 192 D9, rc E (b 2) (b 6) 193 (upd Z9 num (Z9 num + 1)), rc E (b 3) (b 7) 193 M9, rc E (b 4) (b 8) 192 Q9, oc (a 0) 1 [.int (nI h), .int (nI w), .int wd, .int s0, .int z, .ref (a 1), .ref (a 2), .ref (a 3), .ref (a 4), .ref (a 5), .ref (a 6), .ref (a 7), .ref (a 8)], rc E (a 1) (a 9) 4 st, rc E (a 2) (a 10) 192 he, rc E (a 3) (a 11) 192 ke, rc E (a 4) (a 12) 192 tu, rc E (a 5) (a 13) 192 ca, rc E (a 6) (a 14) 192 tr, rc E (a 7) (a 15) 12 co, rc E (a 8) (a 16) 4 la]) H locs := hw
          refine W.eq (g2 := F0 mm 82 ls [.int (he (q9 i)), .int (nI num), .ref (b 3)]) rfl ?_
          refine k_V (As := [.int (nI num), .int (he (q9 i))]) (rest := []) (pre := [oc (b 0) 0 [.ref (b 1), .ref (b 2), .ref (b 3), .ref (b 4), .int (nI num)], rc E (b 1) (b 5) 192 D9, rc E (b 2) (b 6) 193 (upd Z9 num (Z9 num + 1))]) (mid := [rc E (b 3) (b 7) 193 M9]) C0 (c_X4_addN l E (b 3) (b 7) 193 M9 num (he (q9 i)) (by first | assumption | omega) (by first | assumption | omega)) (cwV 2 hts gX0_spread_X4_add rfl rfl rfl (by decide +kernel) ⟨Nat.le_of_ble_eq_true rfl, Nat.le_of_ble_eq_true rfl⟩) hw rfl (fun _ => [rc E (b 3) (b 7) 193 (upd M9 num (M9 num + (he (q9 i))))]) (fun _ => rfl) 0 4 rfl rfl rfl rfl hl.1 rfl (Nat.le_of_ble_eq_true rfl) dX0_spread_82 ⟨Nat.le_of_ble_eq_true rfl, Nat.le_of_ble_eq_true rfl⟩ (fun r u H locs hq99 hw => ?_)
          have hw : kW E AA sx (List.flatten [oc (b 0) 0 [.ref (b 1), .ref (b 2), .ref (b 3), .ref (b 4), .int (nI num)], rc E (b 1) (b 5) 192 D9, rc E (b 2) (b 6) 193 (upd Z9 num (Z9 num + 1)), rc E (b 3) (b 7) 193 (upd M9 num (M9 num + (he (q9 i)))), rc E (b 4) (b 8) 192 Q9, oc (a 0) 1 [.int (nI h), .int (nI w), .int wd, .int s0, .int z, .ref (a 1), .ref (a 2), .ref (a 3), .ref (a 4), .ref (a 5), .ref (a 6), .ref (a 7), .ref (a 8)], rc E (a 1) (a 9) 4 st, rc E (a 2) (a 10) 192 he, rc E (a 3) (a 11) 192 ke, rc E (a 4) (a 12) 192 tu, rc E (a 5) (a 13) 192 ca, rc E (a 6) (a 14) 192 tr, rc E (a 7) (a 15) 12 co, rc E (a 8) (a 16) 4 la]) H locs := hw
          refine W.eq (g2 := F0 mm 85 ls []) rfl ?_
          refine lv_iconst (v := 0) hx hb dX0_spread_85 (by decide) ?_
          refine lv_istore (lv' := [(7, .int 0), (6, .int (nI (q9 i))), (5, .int (nI i)), (4, .int (nI m9)), (0, .ref (b 0)), (1, .ref (a 0)), (2, .int (nI k)), (3, .int t)]) hx hb dX0_spread_86 hl (by decide) rfl (fun ls hl => ?_)
          have loop88 : ∀ (nn : Nat) (k8 : Nat) (p8 : Nat) (m8 : Nat) (L8 : Nat → Nat) (q8 : Nat → Nat) (D8 : Nat → Int32) (Q8 : Nat → Int32) (Z8 : Nat → Int32) (M8 : Nat → Int32), (p8 = q8 i) → (flI h w he t lab num k L8) → (flQ h w he num L8 q8 m8) → (clI h w he t lab num L8 q8 i k8) → (i < m8) → (k8 ≤ 4) → (dnR (h * w) D8 L8) → (quR m8 Q8 q8) → (oneR num (nI (i + 1)) sz Z8) → (oneR num (qsm he q8 (i + 1)) sm M8) → 4 - k8 < nn → ∀ (H : Heap) (locs : List Loc) (ls : Array Slot), lv_has ls 9 [(7, .int (nI k8)), (6, .int (nI p8)), (5, .int (nI i)), (4, .int (nI m8)), (0, .ref (b 0)), (1, .ref (a 0)), (2, .int (nI k)), (3, .int t)] → kW E AA sx (List.flatten [oc (b 0) 0 [.ref (b 1), .ref (b 2), .ref (b 3), .ref (b 4), .int (nI num)], rc E (b 1) (b 5) 192 D8, rc E (b 2) (b 6) 193 Z8, rc E (b 3) (b 7) 193 M8, rc E (b 4) (b 8) 192 Q8, oc (a 0) 1 [.int (nI h), .int (nI w), .int wd, .int s0, .int z, .ref (a 1), .ref (a 2), .ref (a 3), .ref (a 4), .ref (a 5), .ref (a 6), .ref (a 7), .ref (a 8)], rc E (a 1) (a 9) 4 st, rc E (a 2) (a 10) 192 he, rc E (a 3) (a 11) 192 ke, rc E (a 4) (a 12) 192 tu, rc E (a 5) (a 13) 192 ca, rc E (a 6) (a 14) 192 tr, rc E (a 7) (a 15) 12 co, rc E (a 8) (a 16) 4 la]) H locs → W pp l ee rmX0_spread sx mm aa bb me cd H locs 0 0 (kEnd E kV (fun (r : Unit) (u : fP × fP) => dnR (h * w) u.1.1 (sprL h w he t lab num k) ∧ oneR num (nI (cntL (sprL h w he t lab num k) num (h * w))) sz u.1.2 ∧ oneR num (sumL he (sprL h w he t lab num k) num (h * w)) sm u.2.1) (fun (u : fP × fP) => List.flatten [dm E b u.1.1 u.1.2 u.2.1 u.2.2 (nI num), fc E a (nI h) (nI w) wd s0 z st he ke tu ca tr co la]) bb aa sx AA 0 0) (F0 mm 88 ls []) := by
            intro nn
            induction nn with
            | zero => intro k8 p8 m8 L8 q8 D8 Q8 Z8 M8 hp8x hFl8 hFq8 hCl8 hi8 hk8 hDD8 hQQ8 hZZ8 hMM8 hm88; exact absurd hm88 (Nat.not_lt_zero _)
            | succ nn ih88 =>
              intro k8 p8 m8 L8 q8 D8 Q8 Z8 M8 hp8x hFl8 hFq8 hCl8 hi8 hk8 hDD8 hQQ8 hZZ8 hMM8 hm88 H locs ls hl hw
              have hqi9 : p8 < h * w := by rw [hp8x]; exact (hFq8.1 i hi8).1
              have hqn9 : L8 p8 = num := by rw [hp8x]; exact (hFq8.1 i hi8).2
              have hml9 := flQ_le hFq8
              refine lv_iload hx hb dX0_spread_88 (lv_at hl 0 rfl) ?_
              refine lv_iconst (v := 4) hx hb dX0_spread_90 (by decide) ?_
              refine lv_icmp_ge (tgt := 162) hx hb dX0_spread_91 (by decide) (fun c91 => ?_) (fun c91 => ?_)
              · have c91 : 4 ≤ k8 := (nI_leI (a := 4) (b := k8) (by omega) (by omega)).mp c91
                refine lv_iinc (v := nI (i + 1)) (lv' := [(5, .int (nI (i + 1))), (7, .int (nI k8)), (6, .int (nI p8)), (4, .int (nI m8)), (0, .ref (b 0)), (1, .ref (a 0)), (2, .int (nI k)), (3, .int t)]) hx hb dX0_spread_162 hl (k := 2) rfl (nI_1 _) (by decide) rfl (fun ls hl => ?_)
                refine lv_goto (tgt := 27) hx hb dX0_spread_165 (by decide) ?_
                -- back 0
                exact ih27 (i + 1) m8 L8 q8 D8 Z8 M8 Q8 (hFl8) (hFq8) (by rw [show k8 = 4 by omega] at hCl8; exact clI_next hCl8) (by first | assumption | omega) (hDD8) (hQQ8) (hZZ8) (hMM8) (by omega) H _ ls (lv_sub hl [0, 3, 4, 5, 6, 7] rfl) hw
              · have c91 : ¬ 4 ≤ k8 := fun h99 => c91 ((nI_leI (a := 4) (b := k8) (by omega) (by omega)).mpr h99)
                refine lv_aload_n hx hb dX0_spread_94 rfl (lv_at hl 5 rfl) ?_
                refine lv_iload hx hb dX0_spread_95 (lv_at hl 1 rfl) ?_
                refine lv_iload hx hb dX0_spread_97 (lv_at hl 0 rfl) ?_
                refine k_V (As := [.int (nI p8), .int (nI k8)]) (rest := []) (pre := [oc (b 0) 0 [.ref (b 1), .ref (b 2), .ref (b 3), .ref (b 4), .int (nI num)], rc E (b 1) (b 5) 192 D8, rc E (b 2) (b 6) 193 Z8, rc E (b 3) (b 7) 193 M8, rc E (b 4) (b 8) 192 Q8]) (mid := [oc (a 0) 1 [.int (nI h), .int (nI w), .int wd, .int s0, .int z, .ref (a 1), .ref (a 2), .ref (a 3), .ref (a 4), .ref (a 5), .ref (a 6), .ref (a 7), .ref (a 8)], rc E (a 1) (a 9) 4 st, rc E (a 2) (a 10) 192 he, rc E (a 3) (a 11) 192 ke, rc E (a 4) (a 12) 192 tu, rc E (a 5) (a 13) 192 ca, rc E (a 6) (a 14) 192 tr, rc E (a 7) (a 15) 12 co, rc E (a 8) (a 16) 4 la]) C0 (c_X1_neighbor l E a h w wd s0 z st he ke tu ca tr co la p8 k8 (by first | assumption | omega) (by first | assumption | omega) (by first | assumption | omega)) (cwV 2 hts gX0_spread_X1_neighbor rfl rfl rfl (by decide +kernel) ⟨Nat.le_of_ble_eq_true rfl, Nat.le_of_ble_eq_true rfl⟩) hw rfl (fun _ => [oc (a 0) 1 [.int (nI h), .int (nI w), .int wd, .int s0, .int z, .ref (a 1), .ref (a 2), .ref (a 3), .ref (a 4), .ref (a 5), .ref (a 6), .ref (a 7), .ref (a 8)], rc E (a 1) (a 9) 4 st, rc E (a 2) (a 10) 192 he, rc E (a 3) (a 11) 192 ke, rc E (a 4) (a 12) 192 tu, rc E (a 5) (a 13) 192 ca, rc E (a 6) (a 14) 192 tr, rc E (a 7) (a 15) 12 co, rc E (a 8) (a 16) 4 la]) (fun _ => rfl) 0 1 rfl rfl rfl rfl hl.1 rfl (Nat.le_of_ble_eq_true rfl) dX0_spread_99 ⟨Nat.le_of_ble_eq_true rfl, Nat.le_of_ble_eq_true rfl⟩ (fun r u H locs hq99 hw => ?_)
                subst hq99
                have hw : kW E AA sx (List.flatten [oc (b 0) 0 [.ref (b 1), .ref (b 2), .ref (b 3), .ref (b 4), .int (nI num)], rc E (b 1) (b 5) 192 D8, rc E (b 2) (b 6) 193 Z8, rc E (b 3) (b 7) 193 M8, rc E (b 4) (b 8) 192 Q8, oc (a 0) 1 [.int (nI h), .int (nI w), .int wd, .int s0, .int z, .ref (a 1), .ref (a 2), .ref (a 3), .ref (a 4), .ref (a 5), .ref (a 6), .ref (a 7), .ref (a 8)], rc E (a 1) (a 9) 4 st, rc E (a 2) (a 10) 192 he, rc E (a 3) (a 11) 192 ke, rc E (a 4) (a 12) 192 tu, rc E (a 5) (a 13) 192 ca, rc E (a 6) (a 14) 192 tr, rc E (a 7) (a 15) 12 co, rc E (a 8) (a 16) 4 la]) H locs := hw
                refine W.eq (g2 := F0 mm 102 ls [.int (nI (nbr h w p8 k8))]) rfl ?_
                have hnb9 := nbr_lt k8 hG hqi9
                have hlb9 : L8 (nbr h w p8 k8) ≤ 192 := by
                  by_cases h97 : L8 (nbr h w p8 k8) = num
                  · omega
                  · rw [hFl8.2.2 _ h97]; have := hlab (nbr h w p8 k8); omega
                refine lv_istore (lv' := [(8, .int (nI (nbr h w p8 k8))), (7, .int (nI k8)), (6, .int (nI p8)), (5, .int (nI i)), (4, .int (nI m8)), (0, .ref (b 0)), (1, .ref (a 0)), (2, .int (nI k)), (3, .int t)]) hx hb dX0_spread_102 hl (by decide) rfl (fun ls hl => ?_)
                refine lv_aload_n hx hb dX0_spread_104 rfl (lv_at hl 6 rfl) ?_
                refine k_getN (host := RX6) (pre := [oc (b 0) 0 [.ref (b 1), .ref (b 2), .ref (b 3), .ref (b 4), .int (nI num)], rc E (b 1) (b 5) 192 D8, rc E (b 2) (b 6) 193 Z8, rc E (b 3) (b 7) 193 M8, rc E (b 4) (b 8) 192 Q8]) C0 hw hinX1 rfl 6 (by decide) (kN.get hw.2.2.1.2 (by decide +kernel)) rfl rfl dX0_spread_105 ?_
                refine lv_iload hx hb dX0_spread_108 (lv_at hl 0 rfl) ?_
                refine k_V (As := [.int (nI (nbr h w p8 k8))]) (rest := []) (pre := [oc (b 0) 0 [.ref (b 1), .ref (b 2), .ref (b 3), .ref (b 4), .int (nI num)], rc E (b 1) (b 5) 192 D8, rc E (b 2) (b 6) 193 Z8, rc E (b 3) (b 7) 193 M8, rc E (b 4) (b 8) 192 Q8, oc (a 0) 1 [.int (nI h), .int (nI w), .int wd, .int s0, .int z, .ref (a 1), .ref (a 2), .ref (a 3), .ref (a 4), .ref (a 5), .ref (a 6), .ref (a 7), .ref (a 8)], rc E (a 1) (a 9) 4 st]) (mid := [rc E (a 2) (a 10) 192 he]) C0 (c_X4_atN l E (a 2) (a 10) 192 he (nbr h w p8 k8) (by first | assumption | omega) (by first | assumption | omega)) (cwV 1 hts gX0_spread_X4_at rfl rfl rfl (by decide +kernel) ⟨Nat.le_of_ble_eq_true rfl, Nat.le_of_ble_eq_true rfl⟩) hw rfl (fun _ => [rc E (a 2) (a 10) 192 he]) (fun _ => rfl) 0 4 rfl rfl rfl rfl hl.1 rfl (Nat.le_of_ble_eq_true rfl) dX0_spread_110 ⟨Nat.le_of_ble_eq_true rfl, Nat.le_of_ble_eq_true rfl⟩ (fun r u H locs hq99 hw => ?_)
                subst hq99
                have hw : kW E AA sx (List.flatten [oc (b 0) 0 [.ref (b 1), .ref (b 2), .ref (b 3), .ref (b 4), .int (nI num)], rc E (b 1) (b 5) 192 D8, rc E (b 2) (b 6) 193 Z8, rc E (b 3) (b 7) 193 M8, rc E (b 4) (b 8) 192 Q8, oc (a 0) 1 [.int (nI h), .int (nI w), .int wd, .int s0, .int z, .ref (a 1), .ref (a 2), .ref (a 3), .ref (a 4), .ref (a 5), .ref (a 6), .ref (a 7), .ref (a 8)], rc E (a 1) (a 9) 4 st, rc E (a 2) (a 10) 192 he, rc E (a 3) (a 11) 192 ke, rc E (a 4) (a 12) 192 tu, rc E (a 5) (a 13) 192 ca, rc E (a 6) (a 14) 192 tr, rc E (a 7) (a 15) 12 co, rc E (a 8) (a 16) 4 la]) H locs := hw
                refine W.eq (g2 := F0 mm 113 ls [.int (he (nbr h w p8 k8))]) rfl ?_
                refine lv_iload_n hx hb dX0_spread_113 rfl (lv_at hl 8 rfl) ?_
                refine lv_icmp_lt (tgt := 156) hx hb dX0_spread_114 (by decide) (fun c114 => ?_) (fun c114 => ?_)
                · refine lv_iinc (v := nI (k8 + 1)) (lv' := [(7, .int (nI (k8 + 1))), (8, .int (nI (nbr h w p8 k8))), (6, .int (nI p8)), (5, .int (nI i)), (4, .int (nI m8)), (0, .ref (b 0)), (1, .ref (a 0)), (2, .int (nI k)), (3, .int t)]) hx hb dX0_spread_156 hl (k := 1) rfl (nI_1 _) (by decide) rfl (fun ls hl => ?_)
                  refine lv_goto (tgt := 88) hx hb dX0_spread_159 (by decide) ?_
                  -- back 0
                  exact ih88 (k8 + 1) p8 m8 L8 q8 D8 Q8 Z8 M8 (hp8x) (hFl8) (hFq8) (clI_same hCl8 (by rw [← hp8x]; exact fun h98 _ => absurd c114 h98)) (by first | assumption | omega) (by first | assumption | omega) (hDD8) (hQQ8) (by first | assumption | omega) (hMM8) (by omega) H _ ls (lv_sub hl [0, 2, 3, 4, 5, 6, 7, 8] rfl) hw
                · refine lv_aload_n hx hb dX0_spread_117 rfl (lv_at hl 5 rfl) ?_
                  refine k_get (pre := []) C0 hw hinX0 rfl 0 (by decide) (hts (.fieldLink RX0 14 "SlabDunes$DuneMap" "duneNumbers" "LSlabDunes$Row;") (by decide +kernel)) rfl rfl dX0_spread_118 ?_
                  refine lv_iload hx hb dX0_spread_121 (lv_at hl 0 rfl) ?_
                  refine k_V (As := [.int (nI (nbr h w p8 k8))]) (rest := []) (pre := [oc (b 0) 0 [.ref (b 1), .ref (b 2), .ref (b 3), .ref (b 4), .int (nI num)]]) (mid := [rc E (b 1) (b 5) 192 D8]) C0 (c_X4_atN l E (b 1) (b 5) 192 D8 (nbr h w p8 k8) (by first | assumption | omega) (by first | assumption | omega)) (cwV 1 hts gX0_spread_X4_at rfl rfl rfl (by decide +kernel) ⟨Nat.le_of_ble_eq_true rfl, Nat.le_of_ble_eq_true rfl⟩) hw rfl (fun _ => [rc E (b 1) (b 5) 192 D8]) (fun _ => rfl) 0 4 rfl rfl rfl rfl hl.1 rfl (Nat.le_of_ble_eq_true rfl) dX0_spread_123 ⟨Nat.le_of_ble_eq_true rfl, Nat.le_of_ble_eq_true rfl⟩ (fun r u H locs hq99 hw => ?_)
                  subst hq99
                  have hw : kW E AA sx (List.flatten [oc (b 0) 0 [.ref (b 1), .ref (b 2), .ref (b 3), .ref (b 4), .int (nI num)], rc E (b 1) (b 5) 192 D8, rc E (b 2) (b 6) 193 Z8, rc E (b 3) (b 7) 193 M8, rc E (b 4) (b 8) 192 Q8, oc (a 0) 1 [.int (nI h), .int (nI w), .int wd, .int s0, .int z, .ref (a 1), .ref (a 2), .ref (a 3), .ref (a 4), .ref (a 5), .ref (a 6), .ref (a 7), .ref (a 8)], rc E (a 1) (a 9) 4 st, rc E (a 2) (a 10) 192 he, rc E (a 3) (a 11) 192 ke, rc E (a 4) (a 12) 192 tu, rc E (a 5) (a 13) 192 ca, rc E (a 6) (a 14) 192 tr, rc E (a 7) (a 15) 12 co, rc E (a 8) (a 16) 4 la]) H locs := hw
                  refine W.eq (g2 := F0 mm 126 ls [.int (D8 (nbr h w p8 k8))]) rfl ?_
                  refine W.eq (g2 := F0 mm 126 ls [.int (nI (L8 (nbr h w p8 k8)))]) (congrArg (fun z9 => F0 mm 126 ls [.int z9]) (show (D8 (nbr h w p8 k8) : Int32) = nI (L8 (nbr h w p8 k8)) from hDD8 _ hnb9)) ?_
                  refine lv_if_ne (tgt := 156) hx hb dX0_spread_126 (by decide) (fun c126 => ?_) (fun c126 => ?_)
                  · have c126 : ¬ (L8 (nbr h w p8 k8)) = 0 := fun h99 => c126 ((nI_eq (a := (L8 (nbr h w p8 k8))) (b := 0) (by omega) (by omega)).mpr h99)
                    refine lv_iinc (v := nI (k8 + 1)) (lv' := [(7, .int (nI (k8 + 1))), (8, .int (nI (nbr h w p8 k8))), (6, .int (nI p8)), (5, .int (nI i)), (4, .int (nI m8)), (0, .ref (b 0)), (1, .ref (a 0)), (2, .int (nI k)), (3, .int t)]) hx hb dX0_spread_156 hl (k := 1) rfl (nI_1 _) (by decide) rfl (fun ls hl => ?_)
                    refine lv_goto (tgt := 88) hx hb dX0_spread_159 (by decide) ?_
                    -- back 1
                    exact ih88 (k8 + 1) p8 m8 L8 q8 D8 Q8 Z8 M8 (hp8x) (hFl8) (hFq8) (clI_same hCl8 (by rw [← hp8x]; exact fun _ h98 => by refine Classical.byContradiction fun h97 => ?_; rw [← hFl8.2.2 _ h97] at h98; exact c126 h98)) (by first | assumption | omega) (by first | assumption | omega) (hDD8) (hQQ8) (by first | assumption | omega) (hMM8) (by omega) H _ ls (lv_sub hl [0, 2, 3, 4, 5, 6, 7, 8] rfl) hw
                  · have c126 : (L8 (nbr h w p8 k8)) = 0 := (nI_eq (a := (L8 (nbr h w p8 k8))) (b := 0) (by omega) (by omega)).mp c126
                    have hlt9 := flQ_lt hFq8 hnb9 (by omega)
                    refine lv_aload_n hx hb dX0_spread_129 rfl (lv_at hl 5 rfl) ?_
                    refine k_get (pre := []) C0 hw hinX0 rfl 0 (by decide) (hts (.fieldLink RX0 14 "SlabDunes$DuneMap" "duneNumbers" "LSlabDunes$Row;") (by decide +kernel)) rfl rfl dX0_spread_130 ?_
                    refine lv_iload hx hb dX0_spread_133 (lv_at hl 0 rfl) ?_
                    refine lv_aload_n hx hb dX0_spread_135 rfl (lv_at hl 5 rfl) ?_
                    refine k_get (pre := []) C0 hw hinX0 rfl 4 (by decide) (hts (.fieldLink RX0 32 "SlabDunes$DuneMap" "found" "I") (by decide +kernel)) rfl rfl dX0_spread_136 ?_
                    refine k_V (As := [.int (nI (nbr h w p8 k8)), .int (nI num)]) (rest := []) (pre := [oc (b 0) 0 [.ref (b 1), .ref (b 2), .ref (b 3), .ref (b 4), .int (nI num)]]) (mid := [rc E (b 1) (b 5) 192 D8]) C0 (c_X4_putN l E (b 1) (b 5) 192 D8 (nbr h w p8 k8) (nI num) (by first | assumption | omega) (by first | assumption | omega)) (cwV 2 hts gX0_spread_X4_put rfl rfl rfl (by decide +kernel) ⟨Nat.le_of_ble_eq_true rfl, Nat.le_of_ble_eq_true rfl⟩) hw rfl (fun _ => [rc E (b 1) (b 5) 192 (upd D8 (nbr h w p8 k8) (nI num))]) (fun _ => rfl) 0 4 rfl rfl rfl rfl hl.1 rfl (Nat.le_of_ble_eq_true rfl) dX0_spread_139 ⟨Nat.le_of_ble_eq_true rfl, Nat.le_of_ble_eq_true rfl⟩ (fun r u H locs hq99 hw => ?_)
                    have hw : kW E AA sx (List.flatten [oc (b 0) 0 [.ref (b 1), .ref (b 2), .ref (b 3), .ref (b 4), .int (nI num)], rc E (b 1) (b 5) 192 (upd D8 (nbr h w p8 k8) (nI num)), rc E (b 2) (b 6) 193 Z8, rc E (b 3) (b 7) 193 M8, rc E (b 4) (b 8) 192 Q8, oc (a 0) 1 [.int (nI h), .int (nI w), .int wd, .int s0, .int z, .ref (a 1), .ref (a 2), .ref (a 3), .ref (a 4), .ref (a 5), .ref (a 6), .ref (a 7), .ref (a 8)], rc E (a 1) (a 9) 4 st, rc E (a 2) (a 10) 192 he, rc E (a 3) (a 11) 192 ke, rc E (a 4) (a 12) 192 tu, rc E (a 5) (a 13) 192 ca, rc E (a 6) (a 14) 192 tr, rc E (a 7) (a 15) 12 co, rc E (a 8) (a 16) 4 la]) H locs := hw
                    refine W.eq (g2 := F0 mm 142 ls []) rfl ?_
                    refine lv_aload_n hx hb dX0_spread_142 rfl (lv_at hl 5 rfl) ?_
                    refine k_get (pre := []) C0 hw hinX0 rfl 3 (by decide) (hts (.fieldLink RX0 26 "SlabDunes$DuneMap" "queue" "LSlabDunes$Row;") (by decide +kernel)) rfl rfl dX0_spread_143 ?_
                    refine lv_iload hx hb dX0_spread_146 (lv_at hl 4 rfl) ?_
                    refine lv_iload hx hb dX0_spread_148 (lv_at hl 0 rfl) ?_
                    refine k_V (As := [.int (nI m8), .int (nI (nbr h w p8 k8))]) (rest := []) (pre := [oc (b 0) 0 [.ref (b 1), .ref (b 2), .ref (b 3), .ref (b 4), .int (nI num)], rc E (b 1) (b 5) 192 (upd D8 (nbr h w p8 k8) (nI num)), rc E (b 2) (b 6) 193 Z8, rc E (b 3) (b 7) 193 M8]) (mid := [rc E (b 4) (b 8) 192 Q8]) C0 (c_X4_putN l E (b 4) (b 8) 192 Q8 m8 (nI (nbr h w p8 k8)) (by first | assumption | omega) (by first | assumption | omega)) (cwV 2 hts gX0_spread_X4_put rfl rfl rfl (by decide +kernel) ⟨Nat.le_of_ble_eq_true rfl, Nat.le_of_ble_eq_true rfl⟩) hw rfl (fun _ => [rc E (b 4) (b 8) 192 (upd Q8 m8 (nI (nbr h w p8 k8)))]) (fun _ => rfl) 0 4 rfl rfl rfl rfl hl.1 rfl (Nat.le_of_ble_eq_true rfl) dX0_spread_150 ⟨Nat.le_of_ble_eq_true rfl, Nat.le_of_ble_eq_true rfl⟩ (fun r u H locs hq99 hw => ?_)
                    have hw : kW E AA sx (List.flatten [oc (b 0) 0 [.ref (b 1), .ref (b 2), .ref (b 3), .ref (b 4), .int (nI num)], rc E (b 1) (b 5) 192 (upd D8 (nbr h w p8 k8) (nI num)), rc E (b 2) (b 6) 193 Z8, rc E (b 3) (b 7) 193 M8, rc E (b 4) (b 8) 192 (upd Q8 m8 (nI (nbr h w p8 k8))), oc (a 0) 1 [.int (nI h), .int (nI w), .int wd, .int s0, .int z, .ref (a 1), .ref (a 2), .ref (a 3), .ref (a 4), .ref (a 5), .ref (a 6), .ref (a 7), .ref (a 8)], rc E (a 1) (a 9) 4 st, rc E (a 2) (a 10) 192 he, rc E (a 3) (a 11) 192 ke, rc E (a 4) (a 12) 192 tu, rc E (a 5) (a 13) 192 ca, rc E (a 6) (a 14) 192 tr, rc E (a 7) (a 15) 12 co, rc E (a 8) (a 16) 4 la]) H locs := hw
                    refine W.eq (g2 := F0 mm 153 ls []) rfl ?_
                    refine lv_iinc (v := nI (m8 + 1)) (lv' := [(4, .int (nI (m8 + 1))), (8, .int (nI (nbr h w p8 k8))), (7, .int (nI k8)), (6, .int (nI p8)), (5, .int (nI i)), (0, .ref (b 0)), (1, .ref (a 0)), (2, .int (nI k)), (3, .int t)]) hx hb dX0_spread_153 hl (k := 4) rfl (nI_1 _) (by decide) rfl (fun ls hl => ?_)
                    refine lv_iinc (v := nI (k8 + 1)) (lv' := [(7, .int (nI (k8 + 1))), (4, .int (nI (m8 + 1))), (8, .int (nI (nbr h w p8 k8))), (6, .int (nI p8)), (5, .int (nI i)), (0, .ref (b 0)), (1, .ref (a 0)), (2, .int (nI k)), (3, .int t)]) hx hb dX0_spread_156 hl (k := 2) rfl (nI_1 _) (by decide) rfl (fun ls hl => ?_)
                    refine lv_goto (tgt := 88) hx hb dX0_spread_159 (by decide) ?_
                    -- back 2
                    exact ih88 (k8 + 1) p8 (m8 + 1) (va_up L8 (nbr h w p8 k8) num) (va_up q8 m8 (nbr h w p8 k8)) (upd D8 (nbr h w p8 k8) (nI num)) (upd Q8 m8 (nI (nbr h w p8 k8))) Z8 M8 (by rw [va_up_ne _ _ (by omega)]; exact hp8x) (flI_s hFl8 hqn9 (by omega) c114 c126 (by omega)) (flQ_s hFq8 hnb9 (by omega)) (by rw [hp8x]; exact clI_push hCl8 hi8) (by first | assumption | omega) (by first | assumption | omega) (dnR_up hDD8 _ num) (quR_up hQQ8) (by first | assumption | omega) (by rw [qsm_far (i + 1) (by omega)]; exact hMM8) (by omega) H _ ls (lv_sub hl [0, 3, 4, 1, 5, 6, 7, 8] rfl) hw
          exact loop88 ((4 - 0) + 1) 0 (q9 i) m9 L9 q9 D9 Q9 (upd Z9 num (Z9 num + 1)) (upd M9 num (M9 num + (he (q9 i)))) (rfl) (hFl) (hFq) (hCl) (by omega) (by first | assumption | omega) (hDD) (hQQ) (by have h99 := oneR_up (u := 1) hZZ; rw [nI_1] at h99; exact h99) (oneR_up (u := he (q9 i)) hMM) (Nat.lt_succ_self _) H _ ls (lv_sub hl [0, 1, 2, 3, 4, 5, 6, 7] rfl) hw
  exact loop27 ((h * w - 0) + 1) 0 1 (va_up lab k num) (fun _ => k) (upd dn k (nI num)) sz sm (upd qu 0 (nI k)) (flI_0 hlab) (flQ_0 hc hlab) (clI_0) (by omega) (dnR_up hdn k num) (fun j hj => by rw [show j = 0 by omega]; rfl) (oneR_0 hsz) (oneR_0 hsm) (Nat.lt_succ_self _) H _ ls (lv_sub hl [0, 1, 2, 3, 4, 5] rfl) hw

abbrev rmX0_find : Room := { frames := 2, cells := 0, slots := 0, locals := 52 }
set_option maxHeartbeats 4000000 in
set_option maxRecDepth 100000 in
theorem c_X0_find (l : Launch) (E : kE) (b : Nat → Nat) (dn : Nat → Int32) (sz : Nat → Int32) (sm : Nat → Int32) (qu : Nat → Int32) (f0 : Int32) (a : Nat → Nat) (h : Nat) (w : Nat) (wd : Int32) (s0 : Int32) (z : Int32) (st : Nat → Int32) (he : Nat → Int32) (ke : Nat → Int32) (tu : Nat → Int32) (ca : Nat → Int32) (tr : Nat → Int32) (co : Nat → Int32) (la : Nat → Int32) (t : Int32) (hG : kG h w) : kC E l yX0_find wsX0_find rmX0_find [.ref (b 0), .ref (a 0), .int t] (List.flatten [dm E b dn sz sm qu f0, fc E a (nI h) (nI w) wd s0 z st he ke tu ca tr co la]) kI (fun (r : Int32) (u : fP × fP) => r = nI (dnL h w he t (h * w)).2 ∧ fnR h w he t (h * w) u.1.1 u.1.2 u.2.1) (fun (u : fP × fP) => List.flatten [dm E b u.1.1 u.1.2 u.2.1 u.2.2 (nI (dnL h w he t (h * w)).2), fc E a (nI h) (nI w) wd s0 z st he ke tu ca tr co la]) 0 0 := by
  refine k_body (cc := cX0_find) (maxL := 5) (ret := (some .int)) (by decide) rfl (Nat.le_of_ble_eq_true rfl) ?_
  intro pp ee sx mm aa bb me cd H locs AA ls C0 hr hlk hnm hl hw
  obtain ⟨hx, hb, hml, hown, hts⟩ := id C0
  have hl : lv_has ls 5 [(0, .ref (b 0)), (1, .ref (a 0)), (2, .int t)] := hl
  have hw : kW E AA sx (List.flatten [oc (b 0) 0 [.ref (b 1), .ref (b 2), .ref (b 3), .ref (b 4), .int f0], rc E (b 1) (b 5) 192 dn, rc E (b 2) (b 6) 193 sz, rc E (b 3) (b 7) 193 sm, rc E (b 4) (b 8) 192 qu, oc (a 0) 1 [.int (nI h), .int (nI w), .int wd, .int s0, .int z, .ref (a 1), .ref (a 2), .ref (a 3), .ref (a 4), .ref (a 5), .ref (a 6), .ref (a 7), .ref (a 8)], rc E (a 1) (a 9) 4 st, rc E (a 2) (a 10) 192 he, rc E (a 3) (a 11) 192 ke, rc E (a 4) (a 12) 192 tu, rc E (a 5) (a 13) 192 ca, rc E (a 6) (a 14) 192 tr, rc E (a 7) (a 15) 12 co, rc E (a 8) (a 16) 4 la]) H locs := hw
  have hn9 := kG_n hG
  have hG9 := id hG
  obtain ⟨hG1, hG2, hG3, hG4⟩ := hG9
  have hinX0 : ∀ w ∈ u_ws RX0 TX0 5, w ∈ wsX0_find := by decide +kernel
  have hinX1 : ∀ w ∈ u_ws RX1 TX1 13, w ∈ wsX0_find := by decide +kernel
  refine lv_aload_n hx hb dX0_find_0 rfl (lv_at hl 0 rfl) ?_
  refine k_get (pre := []) C0 hw hinX0 rfl 0 (by decide) (hts (.fieldLink RX0 14 "SlabDunes$DuneMap" "duneNumbers" "LSlabDunes$Row;") (by decide +kernel)) rfl rfl dX0_find_1 ?_
  refine lv_iconst (v := 0) hx hb dX0_find_4 (by decide) ?_
  refine k_V (As := [.int 0]) (rest := []) (pre := [oc (b 0) 0 [.ref (b 1), .ref (b 2), .ref (b 3), .ref (b 4), .int f0]]) (mid := [rc E (b 1) (b 5) 192 dn]) C0 (c_X4_fill l E (b 1) (b 5) 192 dn 0 (by first | assumption | omega)) (cwV 1 hts gX0_find_X4_fill rfl rfl rfl (by decide +kernel) ⟨Nat.le_of_ble_eq_true rfl, Nat.le_of_ble_eq_true rfl⟩) hw rfl (fun _ => [rc E (b 1) (b 5) 192 (fun _ => 0)]) (fun _ => rfl) 0 4 rfl rfl rfl rfl hl.1 rfl (Nat.le_of_ble_eq_true rfl) dX0_find_5 ⟨Nat.le_of_ble_eq_true rfl, Nat.le_of_ble_eq_true rfl⟩ (fun r u H locs hq99 hw => ?_)
  have hw : kW E AA sx (List.flatten [oc (b 0) 0 [.ref (b 1), .ref (b 2), .ref (b 3), .ref (b 4), .int f0], rc E (b 1) (b 5) 192 (fun _ => 0), rc E (b 2) (b 6) 193 sz, rc E (b 3) (b 7) 193 sm, rc E (b 4) (b 8) 192 qu, oc (a 0) 1 [.int (nI h), .int (nI w), .int wd, .int s0, .int z, .ref (a 1), .ref (a 2), .ref (a 3), .ref (a 4), .ref (a 5), .ref (a 6), .ref (a 7), .ref (a 8)], rc E (a 1) (a 9) 4 st, rc E (a 2) (a 10) 192 he, rc E (a 3) (a 11) 192 ke, rc E (a 4) (a 12) 192 tu, rc E (a 5) (a 13) 192 ca, rc E (a 6) (a 14) 192 tr, rc E (a 7) (a 15) 12 co, rc E (a 8) (a 16) 4 la]) H locs := hw
  refine W.eq (g2 := F0 mm 8 ls []) rfl ?_
  refine lv_aload_n hx hb dX0_find_8 rfl (lv_at hl 0 rfl) ?_
  refine k_get (pre := []) C0 hw hinX0 rfl 1 (by decide) (hts (.fieldLink RX0 20 "SlabDunes$DuneMap" "sizes" "LSlabDunes$Row;") (by decide +kernel)) rfl rfl dX0_find_9 ?_
  refine lv_iconst (v := 0) hx hb dX0_find_12 (by decide) ?_
  refine k_V (As := [.int 0]) (rest := []) (pre := [oc (b 0) 0 [.ref (b 1), .ref (b 2), .ref (b 3), .ref (b 4), .int f0], rc E (b 1) (b 5) 192 (fun _ => 0)]) (mid := [rc E (b 2) (b 6) 193 sz]) C0 (c_X4_fill l E (b 2) (b 6) 193 sz 0 (by first | assumption | omega)) (cwV 1 hts gX0_find_X4_fill rfl rfl rfl (by decide +kernel) ⟨Nat.le_of_ble_eq_true rfl, Nat.le_of_ble_eq_true rfl⟩) hw rfl (fun _ => [rc E (b 2) (b 6) 193 (fun _ => 0)]) (fun _ => rfl) 0 4 rfl rfl rfl rfl hl.1 rfl (Nat.le_of_ble_eq_true rfl) dX0_find_13 ⟨Nat.le_of_ble_eq_true rfl, Nat.le_of_ble_eq_true rfl⟩ (fun r u H locs hq99 hw => ?_)
  have hw : kW E AA sx (List.flatten [oc (b 0) 0 [.ref (b 1), .ref (b 2), .ref (b 3), .ref (b 4), .int f0], rc E (b 1) (b 5) 192 (fun _ => 0), rc E (b 2) (b 6) 193 (fun _ => 0), rc E (b 3) (b 7) 193 sm, rc E (b 4) (b 8) 192 qu, oc (a 0) 1 [.int (nI h), .int (nI w), .int wd, .int s0, .int z, .ref (a 1), .ref (a 2), .ref (a 3), .ref (a 4), .ref (a 5), .ref (a 6), .ref (a 7), .ref (a 8)], rc E (a 1) (a 9) 4 st, rc E (a 2) (a 10) 192 he, rc E (a 3) (a 11) 192 ke, rc E (a 4) (a 12) 192 tu, rc E (a 5) (a 13) 192 ca, rc E (a 6) (a 14) 192 tr, rc E (a 7) (a 15) 12 co, rc E (a 8) (a 16) 4 la]) H locs := hw
  refine W.eq (g2 := F0 mm 16 ls []) rfl ?_
  refine lv_aload_n hx hb dX0_find_16 rfl (lv_at hl 0 rfl) ?_
  refine k_get (pre := []) C0 hw hinX0 rfl 2 (by decide) (hts (.fieldLink RX0 23 "SlabDunes$DuneMap" "sums" "LSlabDunes$Row;") (by decide +kernel)) rfl rfl dX0_find_17 ?_
  refine lv_iconst (v := 0) hx hb dX0_find_20 (by decide) ?_
  refine k_V (As := [.int 0]) (rest := []) (pre := [oc (b 0) 0 [.ref (b 1), .ref (b 2), .ref (b 3), .ref (b 4), .int f0], rc E (b 1) (b 5) 192 (fun _ => 0), rc E (b 2) (b 6) 193 (fun _ => 0)]) (mid := [rc E (b 3) (b 7) 193 sm]) C0 (c_X4_fill l E (b 3) (b 7) 193 sm 0 (by first | assumption | omega)) (cwV 1 hts gX0_find_X4_fill rfl rfl rfl (by decide +kernel) ⟨Nat.le_of_ble_eq_true rfl, Nat.le_of_ble_eq_true rfl⟩) hw rfl (fun _ => [rc E (b 3) (b 7) 193 (fun _ => 0)]) (fun _ => rfl) 0 4 rfl rfl rfl rfl hl.1 rfl (Nat.le_of_ble_eq_true rfl) dX0_find_21 ⟨Nat.le_of_ble_eq_true rfl, Nat.le_of_ble_eq_true rfl⟩ (fun r u H locs hq99 hw => ?_)
  have hw : kW E AA sx (List.flatten [oc (b 0) 0 [.ref (b 1), .ref (b 2), .ref (b 3), .ref (b 4), .int f0], rc E (b 1) (b 5) 192 (fun _ => 0), rc E (b 2) (b 6) 193 (fun _ => 0), rc E (b 3) (b 7) 193 (fun _ => 0), rc E (b 4) (b 8) 192 qu, oc (a 0) 1 [.int (nI h), .int (nI w), .int wd, .int s0, .int z, .ref (a 1), .ref (a 2), .ref (a 3), .ref (a 4), .ref (a 5), .ref (a 6), .ref (a 7), .ref (a 8)], rc E (a 1) (a 9) 4 st, rc E (a 2) (a 10) 192 he, rc E (a 3) (a 11) 192 ke, rc E (a 4) (a 12) 192 tu, rc E (a 5) (a 13) 192 ca, rc E (a 6) (a 14) 192 tr, rc E (a 7) (a 15) 12 co, rc E (a 8) (a 16) 4 la]) H locs := hw
  refine W.eq (g2 := F0 mm 24 ls []) rfl ?_
  refine lv_aload_n hx hb dX0_find_24 rfl (lv_at hl 0 rfl) ?_
  refine lv_iconst (v := 0) hx hb dX0_find_25 (by decide) ?_
  refine k_put (pre := []) C0 hw hinX0 tyX0 tyX0_ok nmX0 rfl 4 (by decide) (hts (.fieldLink RX0 32 "SlabDunes$DuneMap" "found" "I") (by decide +kernel)) rfl rfl (ty := .int) (by decide +kernel) rfl rfl (Nat.le_of_ble_eq_true rfl) dX0_find_26 (fun H locs hw => ?_)
  have hw : kW E AA sx (List.flatten [oc (b 0) 0 [.ref (b 1), .ref (b 2), .ref (b 3), .ref (b 4), .int 0], rc E (b 1) (b 5) 192 (fun _ => 0), rc E (b 2) (b 6) 193 (fun _ => 0), rc E (b 3) (b 7) 193 (fun _ => 0), rc E (b 4) (b 8) 192 qu, oc (a 0) 1 [.int (nI h), .int (nI w), .int wd, .int s0, .int z, .ref (a 1), .ref (a 2), .ref (a 3), .ref (a 4), .ref (a 5), .ref (a 6), .ref (a 7), .ref (a 8)], rc E (a 1) (a 9) 4 st, rc E (a 2) (a 10) 192 he, rc E (a 3) (a 11) 192 ke, rc E (a 4) (a 12) 192 tu, rc E (a 5) (a 13) 192 ca, rc E (a 6) (a 14) 192 tr, rc E (a 7) (a 15) 12 co, rc E (a 8) (a 16) 4 la]) H locs := hw
  refine lv_aload_n hx hb dX0_find_29 rfl (lv_at hl 1 rfl) ?_
  refine k_V (As := []) (rest := []) (pre := [oc (b 0) 0 [.ref (b 1), .ref (b 2), .ref (b 3), .ref (b 4), .int 0], rc E (b 1) (b 5) 192 (fun _ => 0), rc E (b 2) (b 6) 193 (fun _ => 0), rc E (b 3) (b 7) 193 (fun _ => 0), rc E (b 4) (b 8) 192 qu]) (mid := [oc (a 0) 1 [.int (nI h), .int (nI w), .int wd, .int s0, .int z, .ref (a 1), .ref (a 2), .ref (a 3), .ref (a 4), .ref (a 5), .ref (a 6), .ref (a 7), .ref (a 8)], rc E (a 1) (a 9) 4 st, rc E (a 2) (a 10) 192 he, rc E (a 3) (a 11) 192 ke, rc E (a 4) (a 12) 192 tu, rc E (a 5) (a 13) 192 ca, rc E (a 6) (a 14) 192 tr, rc E (a 7) (a 15) 12 co, rc E (a 8) (a 16) 4 la]) C0 (c_X1_cells l E a h w wd s0 z st he ke tu ca tr co la (by first | assumption | omega)) (cwV 0 hts gX0_find_X1_cells rfl rfl rfl (by decide +kernel) ⟨Nat.le_of_ble_eq_true rfl, Nat.le_of_ble_eq_true rfl⟩) hw rfl (fun _ => [oc (a 0) 1 [.int (nI h), .int (nI w), .int wd, .int s0, .int z, .ref (a 1), .ref (a 2), .ref (a 3), .ref (a 4), .ref (a 5), .ref (a 6), .ref (a 7), .ref (a 8)], rc E (a 1) (a 9) 4 st, rc E (a 2) (a 10) 192 he, rc E (a 3) (a 11) 192 ke, rc E (a 4) (a 12) 192 tu, rc E (a 5) (a 13) 192 ca, rc E (a 6) (a 14) 192 tr, rc E (a 7) (a 15) 12 co, rc E (a 8) (a 16) 4 la]) (fun _ => rfl) 0 1 rfl rfl rfl rfl hl.1 rfl (Nat.le_of_ble_eq_true rfl) dX0_find_30 ⟨Nat.le_of_ble_eq_true rfl, Nat.le_of_ble_eq_true rfl⟩ (fun r u H locs hq99 hw => ?_)
  subst hq99
  have hw : kW E AA sx (List.flatten [oc (b 0) 0 [.ref (b 1), .ref (b 2), .ref (b 3), .ref (b 4), .int 0], rc E (b 1) (b 5) 192 (fun _ => 0), rc E (b 2) (b 6) 193 (fun _ => 0), rc E (b 3) (b 7) 193 (fun _ => 0), rc E (b 4) (b 8) 192 qu, oc (a 0) 1 [.int (nI h), .int (nI w), .int wd, .int s0, .int z, .ref (a 1), .ref (a 2), .ref (a 3), .ref (a 4), .ref (a 5), .ref (a 6), .ref (a 7), .ref (a 8)], rc E (a 1) (a 9) 4 st, rc E (a 2) (a 10) 192 he, rc E (a 3) (a 11) 192 ke, rc E (a 4) (a 12) 192 tu, rc E (a 5) (a 13) 192 ca, rc E (a 6) (a 14) 192 tr, rc E (a 7) (a 15) 12 co, rc E (a 8) (a 16) 4 la]) H locs := hw
  refine W.eq (g2 := F0 mm 33 ls [.int (nI (h * w))]) rfl ?_
  refine lv_istore_n (lv' := [(3, .int (nI (h * w))), (0, .ref (b 0)), (1, .ref (a 0)), (2, .int t)]) hx hb dX0_find_33 rfl hl (by decide) rfl (fun ls hl => ?_)
  refine lv_iconst (v := 0) hx hb dX0_find_34 (by decide) ?_
  refine lv_istore (lv' := [(4, .int 0), (3, .int (nI (h * w))), (0, .ref (b 0)), (1, .ref (a 0)), (2, .int t)]) hx hb dX0_find_35 hl (by decide) rfl (fun ls hl => ?_)
  have loop37 : ∀ (nn : Nat) (i : Nat) (fo : Nat) (D9 : Nat → Int32) (Z9 : Nat → Int32) (M9 : Nat → Int32) (Q9 : Nat → Int32), (i ≤ h * w) → (fo = (dnL h w he t i).2) → (fnR h w he t i D9 Z9 M9) → h * w - i < nn → ∀ (H : Heap) (locs : List Loc) (ls : Array Slot), lv_has ls 5 [(4, .int (nI i)), (3, .int (nI (h * w))), (0, .ref (b 0)), (1, .ref (a 0)), (2, .int t)] → kW E AA sx (List.flatten [oc (b 0) 0 [.ref (b 1), .ref (b 2), .ref (b 3), .ref (b 4), .int (nI fo)], rc E (b 1) (b 5) 192 D9, rc E (b 2) (b 6) 193 Z9, rc E (b 3) (b 7) 193 M9, rc E (b 4) (b 8) 192 Q9, oc (a 0) 1 [.int (nI h), .int (nI w), .int wd, .int s0, .int z, .ref (a 1), .ref (a 2), .ref (a 3), .ref (a 4), .ref (a 5), .ref (a 6), .ref (a 7), .ref (a 8)], rc E (a 1) (a 9) 4 st, rc E (a 2) (a 10) 192 he, rc E (a 3) (a 11) 192 ke, rc E (a 4) (a 12) 192 tu, rc E (a 5) (a 13) 192 ca, rc E (a 6) (a 14) 192 tr, rc E (a 7) (a 15) 12 co, rc E (a 8) (a 16) 4 la]) H locs → W pp l ee rmX0_find sx mm aa bb me cd H locs 0 0 (kEnd E kI (fun (r : Int32) (u : fP × fP) => r = nI (dnL h w he t (h * w)).2 ∧ fnR h w he t (h * w) u.1.1 u.1.2 u.2.1) (fun (u : fP × fP) => List.flatten [dm E b u.1.1 u.1.2 u.2.1 u.2.2 (nI (dnL h w he t (h * w)).2), fc E a (nI h) (nI w) wd s0 z st he ke tu ca tr co la]) bb aa sx AA 0 0) (F0 mm 37 ls []) := by
    intro nn
    induction nn with
    | zero => intro i fo D9 Z9 M9 Q9 hi hfo hFn hm37; exact absurd hm37 (Nat.not_lt_zero _)
    | succ nn ih37 =>
      intro i fo D9 Z9 M9 Q9 hi hfo hFn hm37 H locs ls hl hw
      have hle9 := dnL_le (h := h) (w := w) (he := he) (t := t) i
      have hlb9 := dnL_lb (h := h) (w := w) (he := he) (t := t) i
      have hfl9 : fo ≤ i := by omega
      refine lv_iload hx hb dX0_find_37 (lv_at hl 0 rfl) ?_
      refine lv_iload_n hx hb dX0_find_39 rfl (lv_at hl 1 rfl) ?_
      refine lv_icmp_ge (tgt := 92) hx hb dX0_find_40 (by decide) (fun c40 => ?_) (fun c40 => ?_)
      · have c40 : (h * w) ≤ i := (nI_leI (a := (h * w)) (b := i) (by omega) (by omega)).mp c40
        have hie9 : i = h * w := by omega
        rw [hie9] at hFn
        refine lv_aload_n hx hb dX0_find_92 rfl (lv_at hl 2 rfl) ?_
        refine k_get (pre := []) C0 hw hinX0 rfl 4 (by decide) (hts (.fieldLink RX0 32 "SlabDunes$DuneMap" "found" "I") (by decide +kernel)) rfl rfl dX0_find_93 ?_
        -- leaf 0
        exact k_iret C0 hr hlk hw ((D9, Z9), (M9, Q9)) (by rw [hfo, hie9]; rfl) (⟨by rw [hfo, hie9], hFn⟩) (Nat.le_of_ble_eq_true rfl) (Nat.le_of_ble_eq_true rfl) dX0_find_96
      · have c40 : ¬ (h * w) ≤ i := fun h99 => c40 ((nI_leI (a := (h * w)) (b := i) (by omega) (by omega)).mpr h99)
        refine lv_aload_n hx hb dX0_find_43 rfl (lv_at hl 3 rfl) ?_
        refine k_getN (host := RX6) (pre := [oc (b 0) 0 [.ref (b 1), .ref (b 2), .ref (b 3), .ref (b 4), .int (nI fo)], rc E (b 1) (b 5) 192 D9, rc E (b 2) (b 6) 193 Z9, rc E (b 3) (b 7) 193 M9, rc E (b 4) (b 8) 192 Q9]) C0 hw hinX1 rfl 6 (by decide) (kN.get hw.2.2.1.2 (by decide +kernel)) rfl rfl dX0_find_44 ?_
        refine lv_iload hx hb dX0_find_47 (lv_at hl 0 rfl) ?_
        refine k_V (As := [.int (nI i)]) (rest := []) (pre := [oc (b 0) 0 [.ref (b 1), .ref (b 2), .ref (b 3), .ref (b 4), .int (nI fo)], rc E (b 1) (b 5) 192 D9, rc E (b 2) (b 6) 193 Z9, rc E (b 3) (b 7) 193 M9, rc E (b 4) (b 8) 192 Q9, oc (a 0) 1 [.int (nI h), .int (nI w), .int wd, .int s0, .int z, .ref (a 1), .ref (a 2), .ref (a 3), .ref (a 4), .ref (a 5), .ref (a 6), .ref (a 7), .ref (a 8)], rc E (a 1) (a 9) 4 st]) (mid := [rc E (a 2) (a 10) 192 he]) C0 (c_X4_atN l E (a 2) (a 10) 192 he i (by first | assumption | omega) (by first | assumption | omega)) (cwV 1 hts gX0_find_X4_at rfl rfl rfl (by decide +kernel) ⟨Nat.le_of_ble_eq_true rfl, Nat.le_of_ble_eq_true rfl⟩) hw rfl (fun _ => [rc E (a 2) (a 10) 192 he]) (fun _ => rfl) 0 4 rfl rfl rfl rfl hl.1 rfl (Nat.le_of_ble_eq_true rfl) dX0_find_49 ⟨Nat.le_of_ble_eq_true rfl, Nat.le_of_ble_eq_true rfl⟩ (fun r u H locs hq99 hw => ?_)
        subst hq99
        have hw : kW E AA sx (List.flatten [oc (b 0) 0 [.ref (b 1), .ref (b 2), .ref (b 3), .ref (b 4), .int (nI fo)], rc E (b 1) (b 5) 192 D9, rc E (b 2) (b 6) 193 Z9, rc E (b 3) (b 7) 193 M9, rc E (b 4) (b 8) 192 Q9, oc (a 0) 1 [.int (nI h), .int (nI w), .int wd, .int s0, .int z, .ref (a 1), .ref (a 2), .ref (a 3), .ref (a 4), .ref (a 5), .ref (a 6), .ref (a 7), .ref (a 8)], rc E (a 1) (a 9) 4 st, rc E (a 2) (a 10) 192 he, rc E (a 3) (a 11) 192 ke, rc E (a 4) (a 12) 192 tu, rc E (a 5) (a 13) 192 ca, rc E (a 6) (a 14) 192 tr, rc E (a 7) (a 15) 12 co, rc E (a 8) (a 16) 4 la]) H locs := hw
        refine W.eq (g2 := F0 mm 52 ls [.int (he i)]) rfl ?_
        refine lv_iload_n hx hb dX0_find_52 rfl (lv_at hl 4 rfl) ?_
        refine lv_icmp_lt (tgt := 86) hx hb dX0_find_53 (by decide) (fun c53 => ?_) (fun c53 => ?_)
        · skip
          refine lv_iinc (v := nI (i + 1)) (lv' := [(4, .int (nI (i + 1))), (3, .int (nI (h * w))), (0, .ref (b 0)), (1, .ref (a 0)), (2, .int t)]) hx hb dX0_find_86 hl (k := 0) rfl (nI_1 _) (by decide) rfl (fun ls hl => ?_)
          refine lv_goto (tgt := 37) hx hb dX0_find_89 (by decide) ?_
          -- back 0
          exact ih37 (i + 1) fo D9 Z9 M9 Q9 (by first | assumption | omega) (by rw [dnL_n (fun h98 => h98.1 c53)]; exact hfo) (fnR_n hFn (fun h98 => h98.1 c53)) (by omega) H _ ls (lv_sub hl [0, 1, 2, 3, 4] rfl) hw
        · refine lv_aload_n hx hb dX0_find_56 rfl (lv_at hl 2 rfl) ?_
          refine k_get (pre := []) C0 hw hinX0 rfl 0 (by decide) (hts (.fieldLink RX0 14 "SlabDunes$DuneMap" "duneNumbers" "LSlabDunes$Row;") (by decide +kernel)) rfl rfl dX0_find_57 ?_
          refine lv_iload hx hb dX0_find_60 (lv_at hl 0 rfl) ?_
          have hlx9 := hlb9 i
          refine k_V (As := [.int (nI i)]) (rest := []) (pre := [oc (b 0) 0 [.ref (b 1), .ref (b 2), .ref (b 3), .ref (b 4), .int (nI fo)]]) (mid := [rc E (b 1) (b 5) 192 D9]) C0 (c_X4_atN l E (b 1) (b 5) 192 D9 i (by first | assumption | omega) (by first | assumption | omega)) (cwV 1 hts gX0_find_X4_at rfl rfl rfl (by decide +kernel) ⟨Nat.le_of_ble_eq_true rfl, Nat.le_of_ble_eq_true rfl⟩) hw rfl (fun _ => [rc E (b 1) (b 5) 192 D9]) (fun _ => rfl) 0 4 rfl rfl rfl rfl hl.1 rfl (Nat.le_of_ble_eq_true rfl) dX0_find_62 ⟨Nat.le_of_ble_eq_true rfl, Nat.le_of_ble_eq_true rfl⟩ (fun r u H locs hq99 hw => ?_)
          subst hq99
          have hw : kW E AA sx (List.flatten [oc (b 0) 0 [.ref (b 1), .ref (b 2), .ref (b 3), .ref (b 4), .int (nI fo)], rc E (b 1) (b 5) 192 D9, rc E (b 2) (b 6) 193 Z9, rc E (b 3) (b 7) 193 M9, rc E (b 4) (b 8) 192 Q9, oc (a 0) 1 [.int (nI h), .int (nI w), .int wd, .int s0, .int z, .ref (a 1), .ref (a 2), .ref (a 3), .ref (a 4), .ref (a 5), .ref (a 6), .ref (a 7), .ref (a 8)], rc E (a 1) (a 9) 4 st, rc E (a 2) (a 10) 192 he, rc E (a 3) (a 11) 192 ke, rc E (a 4) (a 12) 192 tu, rc E (a 5) (a 13) 192 ca, rc E (a 6) (a 14) 192 tr, rc E (a 7) (a 15) 12 co, rc E (a 8) (a 16) 4 la]) H locs := hw
          refine W.eq (g2 := F0 mm 65 ls [.int (D9 i)]) rfl ?_
          refine W.eq (g2 := F0 mm 65 ls [.int (nI ((dnL h w he t i).1 i))]) (congrArg (fun z9 => F0 mm 65 ls [.int z9]) (show (D9 i : Int32) = nI ((dnL h w he t i).1 i) from hFn.1 i (by omega))) ?_
          refine lv_if_ne (tgt := 86) hx hb dX0_find_65 (by decide) (fun c65 => ?_) (fun c65 => ?_)
          · have c65 : ¬ ((dnL h w he t i).1 i) = 0 := fun h99 => c65 ((nI_eq (a := ((dnL h w he t i).1 i)) (b := 0) (by omega) (by omega)).mpr h99)
            skip
            refine lv_iinc (v := nI (i + 1)) (lv' := [(4, .int (nI (i + 1))), (3, .int (nI (h * w))), (0, .ref (b 0)), (1, .ref (a 0)), (2, .int t)]) hx hb dX0_find_86 hl (k := 0) rfl (nI_1 _) (by decide) rfl (fun ls hl => ?_)
            refine lv_goto (tgt := 37) hx hb dX0_find_89 (by decide) ?_
            -- back 1
            exact ih37 (i + 1) fo D9 Z9 M9 Q9 (by first | assumption | omega) (by rw [dnL_n (fun h98 => c65 h98.2)]; exact hfo) (fnR_n hFn (fun h98 => c65 h98.2)) (by omega) H _ ls (lv_sub hl [0, 1, 2, 3, 4] rfl) hw
          · have c65 : ((dnL h w he t i).1 i) = 0 := (nI_eq (a := ((dnL h w he t i).1 i)) (b := 0) (by omega) (by omega)).mp c65
            refine lv_aload_n hx hb dX0_find_68 rfl (lv_at hl 2 rfl) ?_
            refine lv_dup hx hb dX0_find_69 rfl ?_
            refine k_get (pre := []) C0 hw hinX0 rfl 4 (by decide) (hts (.fieldLink RX0 32 "SlabDunes$DuneMap" "found" "I") (by decide +kernel)) rfl rfl dX0_find_70 ?_
            refine lv_iconst (v := 1) hx hb dX0_find_73 (by decide) ?_
            refine lv_iadd hx hb dX0_find_74 ?_
            refine W.eq (g2 := F0 mm 75 ls [.int (nI (fo + 1)), .ref (b 0)]) (congrArg (fun z9 => F0 mm 75 ls [.int z9, .ref (b 0)]) (show ((nI fo) + 1 : Int32) = nI (fo + 1) from nI_1 _)) ?_
            refine k_put (pre := []) C0 hw hinX0 tyX0 tyX0_ok nmX0 rfl 4 (by decide) (hts (.fieldLink RX0 32 "SlabDunes$DuneMap" "found" "I") (by decide +kernel)) rfl rfl (ty := .int) (by decide +kernel) rfl rfl (Nat.le_of_ble_eq_true rfl) dX0_find_75 (fun H locs hw => ?_)
            have hw : kW E AA sx (List.flatten [oc (b 0) 0 [.ref (b 1), .ref (b 2), .ref (b 3), .ref (b 4), .int (nI (fo + 1))], rc E (b 1) (b 5) 192 D9, rc E (b 2) (b 6) 193 Z9, rc E (b 3) (b 7) 193 M9, rc E (b 4) (b 8) 192 Q9, oc (a 0) 1 [.int (nI h), .int (nI w), .int wd, .int s0, .int z, .ref (a 1), .ref (a 2), .ref (a 3), .ref (a 4), .ref (a 5), .ref (a 6), .ref (a 7), .ref (a 8)], rc E (a 1) (a 9) 4 st, rc E (a 2) (a 10) 192 he, rc E (a 3) (a 11) 192 ke, rc E (a 4) (a 12) 192 tu, rc E (a 5) (a 13) 192 ca, rc E (a 6) (a 14) 192 tr, rc E (a 7) (a 15) 12 co, rc E (a 8) (a 16) 4 la]) H locs := hw
            refine lv_aload_n hx hb dX0_find_78 rfl (lv_at hl 2 rfl) ?_
            refine lv_aload_n hx hb dX0_find_79 rfl (lv_at hl 3 rfl) ?_
            refine lv_iload hx hb dX0_find_80 (lv_at hl 0 rfl) ?_
            refine lv_iload_n hx hb dX0_find_82 rfl (lv_at hl 4 rfl) ?_
            refine k_V (As := [.ref (a 0), .int (nI i), .int t]) (rest := []) (pre := []) (mid := [oc (b 0) 0 [.ref (b 1), .ref (b 2), .ref (b 3), .ref (b 4), .int (nI (fo + 1))], rc E (b 1) (b 5) 192 D9, rc E (b 2) (b 6) 193 Z9, rc E (b 3) (b 7) 193 M9, rc E (b 4) (b 8) 192 Q9, oc (a 0) 1 [.int (nI h), .int (nI w), .int wd, .int s0, .int z, .ref (a 1), .ref (a 2), .ref (a 3), .ref (a 4), .ref (a 5), .ref (a 6), .ref (a 7), .ref (a 8)], rc E (a 1) (a 9) 4 st, rc E (a 2) (a 10) 192 he, rc E (a 3) (a 11) 192 ke, rc E (a 4) (a 12) 192 tu, rc E (a 5) (a 13) 192 ca, rc E (a 6) (a 14) 192 tr, rc E (a 7) (a 15) 12 co, rc E (a 8) (a 16) 4 la]) C0 (c_X0_spread l E b D9 Z9 M9 Q9 a h w wd s0 z st he ke tu ca tr co la i t (fo + 1) ((dnL h w he t i).1) (by first | assumption | omega) (by first | assumption | omega) (hFn.1) (fun x => by rw [hfo]; exact Nat.lt_succ_of_le (hlb9 x)) (by omega) (by omega) (c65) ((hFn.2.2 _ (Or.inr (by rw [hfo]; exact Nat.lt_succ_self _))).1) ((hFn.2.2 _ (Or.inr (by rw [hfo]; exact Nat.lt_succ_self _))).2)) (cwV 3 hts gX0_find_X0_spread rfl rfl rfl (by decide +kernel) ⟨Nat.le_of_ble_eq_true rfl, Nat.le_of_ble_eq_true rfl⟩) hw rfl (fun (u83 : fP × fP) => [oc (b 0) 0 [.ref (b 1), .ref (b 2), .ref (b 3), .ref (b 4), .int (nI (fo + 1))], rc E (b 1) (b 5) 192 u83.1.1, rc E (b 2) (b 6) 193 u83.1.2, rc E (b 3) (b 7) 193 u83.2.1, rc E (b 4) (b 8) 192 u83.2.2, oc (a 0) 1 [.int (nI h), .int (nI w), .int wd, .int s0, .int z, .ref (a 1), .ref (a 2), .ref (a 3), .ref (a 4), .ref (a 5), .ref (a 6), .ref (a 7), .ref (a 8)], rc E (a 1) (a 9) 4 st, rc E (a 2) (a 10) 192 he, rc E (a 3) (a 11) 192 ke, rc E (a 4) (a 12) 192 tu, rc E (a 5) (a 13) 192 ca, rc E (a 6) (a 14) 192 tr, rc E (a 7) (a 15) 12 co, rc E (a 8) (a 16) 4 la]) (fun _ => rfl) 0 0 rfl rfl rfl rfl hl.1 rfl (Nat.le_of_ble_eq_true rfl) dX0_find_83 ⟨Nat.le_of_ble_eq_true rfl, Nat.le_of_ble_eq_true rfl⟩ (fun r u83 H locs hq99 hw => ?_)
            have h83 : dnR (h * w) u83.1.1 (sprL h w he t ((dnL h w he t i).1) (fo + 1) i) ∧ oneR (fo + 1) (nI (cntL (sprL h w he t ((dnL h w he t i).1) (fo + 1) i) (fo + 1) (h * w))) Z9 u83.1.2 ∧ oneR (fo + 1) (sumL he (sprL h w he t ((dnL h w he t i).1) (fo + 1) i) (fo + 1) (h * w)) M9 u83.2.1 := hq99
            have hw : kW E AA sx (List.flatten [oc (b 0) 0 [.ref (b 1), .ref (b 2), .ref (b 3), .ref (b 4), .int (nI (fo + 1))], rc E (b 1) (b 5) 192 u83.1.1, rc E (b 2) (b 6) 193 u83.1.2, rc E (b 3) (b 7) 193 u83.2.1, rc E (b 4) (b 8) 192 u83.2.2, oc (a 0) 1 [.int (nI h), .int (nI w), .int wd, .int s0, .int z, .ref (a 1), .ref (a 2), .ref (a 3), .ref (a 4), .ref (a 5), .ref (a 6), .ref (a 7), .ref (a 8)], rc E (a 1) (a 9) 4 st, rc E (a 2) (a 10) 192 he, rc E (a 3) (a 11) 192 ke, rc E (a 4) (a 12) 192 tu, rc E (a 5) (a 13) 192 ca, rc E (a 6) (a 14) 192 tr, rc E (a 7) (a 15) 12 co, rc E (a 8) (a 16) 4 la]) H locs := hw
            refine W.eq (g2 := F0 mm 86 ls []) rfl ?_
            skip
            refine lv_iinc (v := nI (i + 1)) (lv' := [(4, .int (nI (i + 1))), (3, .int (nI (h * w))), (0, .ref (b 0)), (1, .ref (a 0)), (2, .int t)]) hx hb dX0_find_86 hl (k := 0) rfl (nI_1 _) (by decide) rfl (fun ls hl => ?_)
            refine lv_goto (tgt := 37) hx hb dX0_find_89 (by decide) ?_
            -- back 2
            exact ih37 (i + 1) (fo + 1) u83.1.1 u83.1.2 u83.2.1 u83.2.2 (by first | assumption | omega) (by rw [dnL_y c53 c65, hfo]) (fnR_y hFn c53 c65 (by rw [← hfo]; exact h83.1) (by rw [← hfo]; exact h83.2.1) (by rw [← hfo]; exact h83.2.2)) (by omega) H _ ls (lv_sub hl [0, 1, 2, 3, 4] rfl) hw
  exact loop37 ((h * w - 0) + 1) 0 0 (fun _ => 0) (fun _ => 0) (fun _ => 0) qu (by first | assumption | omega) (rfl) (fnR_0) (Nat.lt_succ_self _) H _ ls (lv_sub hl [0, 1, 2, 3, 4] rfl) hw
