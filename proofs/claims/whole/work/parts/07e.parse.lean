/-! parse: what a text without error is like -/
theorem nI_nm1 {n : Nat} (h : n < 2147483648) : ¬ nI n = -1 := fun e => nI_pos h (by rw [e]; decide)
def epI (f : Nat → Int32) (r c i p : Nat) : Prop := (r = 1 ∧ i = p ∧ i ≤ 16 ∧ ∀ j, j < p → ¬ f j = 47) ∨ (2 ≤ r ∧ r ≤ 12 ∧ 3 ≤ c ∧ c ≤ 16 ∧ i ≤ c ∧ p = (r - 1) * (c + 1) + i ∧ ∀ j, j < p → (f j = 47 ↔ j % (c + 1) = c))
theorem ep_mod {a c i : Nat} (hi : i ≤ c) : (a * (c + 1) + i) % (c + 1) = i := by
  rw [Nat.mul_comm, Nat.mul_add_mod]
  exact Nat.mod_eq_of_lt (by omega)
theorem epI_d {f : Nat → Int32} {r c i p : Nat} (hI : epI f r c i p) (hd : ¬ f p < 48 ∧ ¬ 57 < f p) (hi : i < (if r = 1 then 16 else c)) : epI f r c (i + 1) (p + 1) := by
  have h47 : ¬ f p = 47 := fun h => by rw [h] at hd; exact absurd hd.1 (by decide)
  rcases hI with ⟨h1, h2, h3, h4⟩ | ⟨h1, h2, h3, h4, h5, h6, h7⟩
  · rw [if_pos h1] at hi
    refine Or.inl ⟨h1, by omega, by omega, fun j hj => ?_⟩
    by_cases hjp : j = p
    · rw [hjp]; exact h47
    · exact h4 j (by omega)
  · rw [if_neg (by omega)] at hi
    refine Or.inr ⟨h1, h2, h3, h4, by omega, by omega, fun j hj => ?_⟩
    by_cases hjp : j = p
    · rw [hjp, h6, ep_mod h5, ← h6]
      exact ⟨fun h => absurd h h47, fun h => absurd h (by omega)⟩
    · exact h7 j (by omega)
theorem epI_s {f : Nat → Int32} {r c i p : Nat} (hI : epI f r c i p) (hd : f p = 47) (hi : ¬ i < (if r = 1 then 3 else c)) (hr : r < 12) : epI f (r + 1) i 0 (p + 1) := by
  rcases hI with ⟨h1, h2, h3, h4⟩ | ⟨h1, h2, h3, h4, h5, h6, h7⟩
  · rw [if_pos h1] at hi
    refine Or.inr ⟨by omega, by omega, by omega, by omega, by omega, ?_, fun j hj => ?_⟩
    · rw [h1, h2]; show p + 1 = 1 * (p + 1) + 0; omega
    · by_cases hjp : j = p
      · rw [hjp, h2, Nat.mod_eq_of_lt (Nat.lt_succ_self p)]
        exact ⟨fun _ => rfl, fun _ => hd⟩
      · have h8 : j < p := by omega
        rw [h2, Nat.mod_eq_of_lt (by omega)]
        exact ⟨fun h => absurd h (h4 j h8), fun h => absurd h hjp⟩
  · rw [if_neg (by omega)] at hi
    have hic : i = c := by omega
    subst hic
    refine Or.inr ⟨by omega, by omega, h3, h4, by omega, ?_, fun j hj => ?_⟩
    · obtain ⟨r0, rfl⟩ : ∃ r0, r = r0 + 1 := ⟨r - 1, by omega⟩
      rw [h6]
      simp only [Nat.add_sub_cancel]
      rw [Nat.succ_mul]
      omega
    · by_cases hjp : j = p
      · rw [hjp, h6, ep_mod h5, ← h6]
        exact ⟨fun _ => rfl, fun _ => hd⟩
      · exact h7 j (by omega)
theorem epL_ok {f : Nat → Int32} {m R C : Nat} (hm : m < 2147483648) : ∀ (n r c i p : Nat), p + n = m → epI f r c i p → epL f m n r c i p = (-1, (R, C)) → kG R C ∧ m + 1 = R * (C + 1) ∧ ∀ j, j < m → (f j = 47 ↔ j % (C + 1) = C)
  | 0, r, c, i, p, hp, hI, he => by
    rw [epL_0] at he
    by_cases h9 : 3 ≤ r ∧ i = c
    · rw [if_pos h9] at he
      have e1 : r = R := by have h := congrArg (fun z => z.2.1) he; exact h
      have e2 : c = C := by have h := congrArg (fun z => z.2.2) he; exact h
      subst e1; subst e2
      rcases hI with ⟨h1, _⟩ | ⟨h1, h2, h3, h4, h5, h6, h7⟩
      · omega
      · have hpm : p = m := by omega
        subst hpm
        refine ⟨⟨by omega, h2, h3, h4⟩, ?_, h7⟩
        obtain ⟨r0, rfl⟩ : ∃ r0, r = r0 + 1 := ⟨r - 1, by omega⟩
        rw [h6, h9.2]
        simp only [Nat.add_sub_cancel]
        rw [Nat.succ_mul]
        omega
    · rw [if_neg h9] at he
      have e1 : nI m = -1 := by have h := congrArg (fun z => z.1) he; exact h
      exact absurd e1 (nI_nm1 hm)
  | n + 1, r, c, i, p, hp, hI, he => by
    have hbad : ∀ x : Nat × Nat, ((nI p, x) : Int32 × (Nat × Nat)) = (-1, (R, C)) → False := fun x h => by
      have e1 : nI p = -1 := by have h := congrArg (fun z => z.1) h; exact h
      exact absurd e1 (nI_nm1 (by omega))
    rw [epL_s] at he
    by_cases hd : ¬ f p < 48 ∧ ¬ 57 < f p
    · rw [if_pos hd] at he
      by_cases hi : i < (if r = 1 then 16 else c)
      · rw [if_pos hi] at he
        exact epL_ok hm n r c (i + 1) (p + 1) (by omega) (epI_d hI hd hi) he
      · rw [if_neg hi] at he
        exact (hbad _ he).elim
    · rw [if_neg hd] at he
      by_cases hs : f p = 47
      · rw [if_pos hs] at he
        by_cases hi : i < (if r = 1 then 3 else c) ∨ ¬ r < 12
        · rw [if_pos hi] at he
          exact (hbad _ he).elim
        · rw [if_neg hi] at he
          exact epL_ok hm n (r + 1) i 0 (p + 1) (by omega) (epI_s hI hs (fun h => hi (Or.inl h)) (Classical.byContradiction fun h => hi (Or.inr h))) he
      · rw [if_neg hs] at he
        exact (hbad _ he).elim
theorem epL_ok0 {f : Nat → Int32} {m R C : Nat} (hm : m < 2147483648) (he : epL f m m 1 0 0 0 = (-1, (R, C))) : kG R C ∧ m + 1 = R * (C + 1) ∧ ∀ j, j < m → (f j = 47 ↔ j % (C + 1) = C) :=
  epL_ok hm m 1 0 0 0 (by omega) (Or.inl ⟨rfl, rfl, by omega, fun j hj => absurd hj (Nat.not_lt_zero _)⟩) he
/-- the heights that a text gives -/
def prH (f : Nat → Int32) (c i : Nat) : Nat → Int32 := fun k => if k < i then f (k + k / c) - 48 else 0
theorem prH_0 {f : Nat → Int32} {c : Nat} : (fun _ => 0) = prH f c 0 := by
  funext k
  unfold prH
  rw [if_neg (Nat.not_lt_zero _)]
theorem prH_s {f : Nat → Int32} {c i : Nat} : upd (prH f c i) i (f (i + i / c) - 48) = prH f c (i + 1) := by
  funext k
  unfold upd prH
  by_cases h : k = i
  · rw [if_pos h, if_pos (by omega), h]
  · rw [if_neg h]
    by_cases h2 : k < i
    · rw [if_pos h2, if_pos (by omega)]
    · rw [if_neg h2, if_neg (by omega)]
theorem prk_lt {r c i : Nat} (hG : kG r c) (hi : i < r * c) : i + i / c < 220 := by
  have h1 := kG_n hG
  obtain ⟨a1, a2, a3, a4⟩ := hG
  have h2 : i / c < r := Nat.div_lt_of_lt_mul (by rw [Nat.mul_comm]; exact hi)
  omega
theorem c_X2_errorPosition_v (l : Launch) (E : kE) (t : Nat → Nat) (by0 : Nat → Int32) (m9 : Nat) (r9 : Nat) (c9 : Nat) (x : Int32) (r2 c2 : Nat) (hm9 : m9 ≤ 220) (hE : epL by0 m9 m9 1 0 0 0 = (x, (r2, c2))) : kC E l yX2_errorPosition wsX2_errorPosition rmX2_errorPosition [.ref (t 0)] (tx E t by0 (nI m9) (nI r9) (nI c9)) kI (fun (r : Int32) (_ : Unit) => r = x) (fun _ => tx E t by0 (nI m9) (nI r2) (nI c2)) 0 0 := by
  have k := c_X2_errorPosition l E t by0 m9 r9 c9 hm9
  rw [hE] at k
  exact k
abbrev rmX6_parse : Room := { frames := 4, cells := 0, slots := 0, locals := 86 }
set_option maxHeartbeats 4000000 in
set_option maxRecDepth 100000 in
theorem c_X6_parse_err (l : Launch) (E : kE) (d0 : Nat) (q1 : Nat) (q2 : Nat) (a : Nat → Nat) (e : Nat → Nat) (m : Nat → Nat) (t : Nat → Nat) (q : Nat) (by0 : Nat → Int32) (m9 : Nat) (r9 : Nat) (c9 : Nat) (r2 : Nat) (c2 : Nat) (x8 : Int32) (hm9 : m9 ≤ 220) (hE : epL by0 m9 m9 1 0 0 0 = (x8, (r2, c2))) (hne : ¬ x8 = -1) : kC E l yX6_parse wsX6_parse rmX6_parse [.ref d0] (List.flatten [oc d0 6 [.ref (a 0), .ref q1, .ref (e 0), .ref q2, .ref (m 0), .ref q, .ref (t 0)], tx E t by0 (nI m9) (nI r9) (nI c9)]) kI (fun (r : Int32) (_ : Unit) => r = -10 - x8) (fun _ => List.flatten [oc d0 6 [.ref (a 0), .ref q1, .ref (e 0), .ref q2, .ref (m 0), .ref q, .ref (t 0)], tx E t by0 (nI m9) (nI r2) (nI c2)]) 0 0 := by
  refine k_body (cc := cX6_parse) (maxL := 4) (ret := (some .int)) (by decide) rfl (Nat.le_of_ble_eq_true rfl) ?_
  intro pp ee sx mm aa bb me cd H locs AA ls C0 hr hlk hnm hl hw
  obtain ⟨hx, hb, hml, hown, hts⟩ := id C0
  have hl : lv_has ls 4 [(0, .ref d0)] := hl
  have hw : kW E AA sx (List.flatten [oc d0 6 [.ref (a 0), .ref q1, .ref (e 0), .ref q2, .ref (m 0), .ref q, .ref (t 0)], tx E t by0 (nI m9) (nI r9) (nI c9)]) H locs := hw
  have hinX6 : ∀ w ∈ u_ws RX6 TX6 7, w ∈ wsX6_parse := by decide +kernel
  refine lv_aload_n hx hb dX6_parse_0 rfl (lv_at hl 0 rfl) ?_
  refine k_get (pre := []) C0 hw hinX6 rfl 6 (by decide) (hts (.fieldLink RX6 48 "SlabDunes" "text" "LSlabDunes$FieldText;") (by decide +kernel)) rfl rfl dX6_parse_1 ?_
  refine k_V (As := []) (rest := []) (pre := [oc d0 6 [.ref (a 0), .ref q1, .ref (e 0), .ref q2, .ref (m 0), .ref q, .ref (t 0)]]) (mid := [tx E t by0 (nI m9) (nI r9) (nI c9)]) C0 (c_X2_errorPosition_v l E t by0 m9 r9 c9 x8 r2 c2 (by first | assumption | omega) (by first | assumption | omega)) (cwV 0 hts gX6_parse_X2_errorPosition rfl rfl rfl (by decide +kernel) ⟨Nat.le_of_ble_eq_true rfl, Nat.le_of_ble_eq_true rfl⟩) hw rfl (fun _ => [tx E t by0 (nI m9) (nI r2) (nI c2)]) (fun _ => rfl) 0 2 rfl rfl rfl rfl hl.1 rfl (Nat.le_of_ble_eq_true rfl) dX6_parse_4 ⟨Nat.le_of_ble_eq_true rfl, Nat.le_of_ble_eq_true rfl⟩ (fun r u H locs hq99 hw => ?_)
  subst r
  have hw : kW E AA sx (List.flatten [oc d0 6 [.ref (a 0), .ref q1, .ref (e 0), .ref q2, .ref (m 0), .ref q, .ref (t 0)], tx E t by0 (nI m9) (nI r2) (nI c2)]) H locs := hw
  refine W.eq (g2 := F0 mm 7 ls [.int x8]) rfl ?_
  refine lv_istore_n (lv' := [(1, .int x8), (0, .ref d0)]) hx hb dX6_parse_7 rfl hl (by decide) rfl (fun ls hl => ?_)
  refine lv_iload_n hx hb dX6_parse_8 rfl (lv_at hl 0 rfl) ?_
  refine lv_iconst (v := (-1)) hx hb dX6_parse_9 (by decide) ?_
  refine lv_icmp_eq (tgt := 18) hx hb dX6_parse_10 (by decide) (fun c10 => absurd c10 (hne)) (fun c10 => ?_)
  refine lv_bipush (v := (-10)) hx hb dX6_parse_13 (by decide) ?_
  refine lv_iload_n hx hb dX6_parse_15 rfl (lv_at hl 0 rfl) ?_
  refine lv_isub hx hb dX6_parse_16 ?_
  -- leaf 0
  exact k_iret C0 hr hlk hw () (rfl) (rfl) (Nat.le_of_ble_eq_true rfl) (Nat.le_of_ble_eq_true rfl) dX6_parse_17

set_option maxHeartbeats 4000000 in
set_option maxRecDepth 100000 in
theorem c_X6_parse_ok (l : Launch) (E : kE) (d0 : Nat) (q1 : Nat) (q2 : Nat) (a : Nat → Nat) (e : Nat → Nat) (m : Nat → Nat) (t : Nat → Nat) (q : Nat) (n : Nat) (b : Nat → Nat → Nat) (G : Nat → cT) (o : Nat) (k9 : Nat) (h : Nat) (w : Nat) (wd : Int32) (s0 : Int32) (z : Int32) (st : Nat → Int32) (he : Nat → Int32) (ke : Nat → Int32) (tu : Nat → Int32) (ca : Nat → Int32) (tr : Nat → Int32) (co : Nat → Int32) (la : Nat → Int32) (by0 : Nat → Int32) (m9 : Nat) (r9 : Nat) (c9 : Nat) (r2 : Nat) (c2 : Nat) (hm9 : m9 ≤ 220) (hE : epL by0 m9 m9 1 0 0 0 = (-1, (r2, c2))) (hG8 : kG r2 c2) (ho : o < 4) (hk9 : k9 ≤ 4) : kC E l yX6_parse wsX6_parse rmX6_parse [.ref d0] (List.flatten [oc d0 6 [.ref (a 0), .ref q1, .ref (e 0), .ref q2, .ref (m 0), .ref q, .ref (t 0)], fc E a (nI h) (nI w) wd s0 z st he ke tu ca tr co la, tx E t by0 (nI m9) (nI r9) (nI c9), hw4 E q n b (nI o) (nI k9) G]) kI (fun (r : Int32) (_ : Unit) => r = nI (r2 * c2)) (fun _ => List.flatten [oc d0 6 [.ref (a 0), .ref q1, .ref (e 0), .ref q2, .ref (m 0), .ref q, .ref (t 0)], fc E a (nI r2) (nI c2) wd s0 0 st (prH by0 c2 (r2 * c2)) (prH by0 c2 (r2 * c2)) (fun _ => 0) (fun _ => (-1)) (fun _ => 0) (fun _ => 0) (fun _ => (-1)), tx E t by0 (nI m9) (nI r2) (nI c2), hw4 E q n b (nI (svO o k9)) (nI (svK k9)) (cup G (svI o k9) (nI h, nI w, wd, s0, z, st, he, ke, tu, ca, tr, co, la))]) 0 0 := by
  refine k_body (cc := cX6_parse) (maxL := 4) (ret := (some .int)) (by decide) rfl (Nat.le_of_ble_eq_true rfl) ?_
  intro pp ee sx mm aa bb me cd H locs AA ls C0 hr hlk hnm hl hw
  obtain ⟨hx, hb, hml, hown, hts⟩ := id C0
  have hl : lv_has ls 4 [(0, .ref d0)] := hl
  have hw : kW E AA sx (List.flatten [oc d0 6 [.ref (a 0), .ref q1, .ref (e 0), .ref q2, .ref (m 0), .ref q, .ref (t 0)], fc E a (nI h) (nI w) wd s0 z st he ke tu ca tr co la, tx E t by0 (nI m9) (nI r9) (nI c9), hw4 E q n b (nI o) (nI k9) G]) H locs := hw
  have hinX2 : ∀ w ∈ u_ws RX2 TX2 4, w ∈ wsX6_parse := by decide +kernel
  have hinX6 : ∀ w ∈ u_ws RX6 TX6 7, w ∈ wsX6_parse := by decide +kernel
  obtain ⟨hG81, hG82, hG83, hG84⟩ := id hG8
  have hn9 := kG_n hG8
  refine lv_aload_n hx hb dX6_parse_0 rfl (lv_at hl 0 rfl) ?_
  refine k_get (pre := []) C0 hw hinX6 rfl 6 (by decide) (hts (.fieldLink RX6 48 "SlabDunes" "text" "LSlabDunes$FieldText;") (by decide +kernel)) rfl rfl dX6_parse_1 ?_
  refine k_V (As := []) (rest := []) (pre := [oc d0 6 [.ref (a 0), .ref q1, .ref (e 0), .ref q2, .ref (m 0), .ref q, .ref (t 0)], fc E a (nI h) (nI w) wd s0 z st he ke tu ca tr co la]) (mid := [tx E t by0 (nI m9) (nI r9) (nI c9)]) C0 (c_X2_errorPosition_v l E t by0 m9 r9 c9 (-1) r2 c2 (by first | assumption | omega) (by first | assumption | omega)) (cwV 0 hts gX6_parse_X2_errorPosition rfl rfl rfl (by decide +kernel) ⟨Nat.le_of_ble_eq_true rfl, Nat.le_of_ble_eq_true rfl⟩) hw rfl (fun _ => [tx E t by0 (nI m9) (nI r2) (nI c2)]) (fun _ => rfl) 0 2 rfl rfl rfl rfl hl.1 rfl (Nat.le_of_ble_eq_true rfl) dX6_parse_4 ⟨Nat.le_of_ble_eq_true rfl, Nat.le_of_ble_eq_true rfl⟩ (fun r u H locs hq99 hw => ?_)
  subst hq99
  have hw : kW E AA sx (List.flatten [oc d0 6 [.ref (a 0), .ref q1, .ref (e 0), .ref q2, .ref (m 0), .ref q, .ref (t 0)], fc E a (nI h) (nI w) wd s0 z st he ke tu ca tr co la, tx E t by0 (nI m9) (nI r2) (nI c2), hw4 E q n b (nI o) (nI k9) G]) H locs := hw
  refine W.eq (g2 := F0 mm 7 ls [.int (-1)]) rfl ?_
  refine lv_istore_n (lv' := [(1, .int (-1)), (0, .ref d0)]) hx hb dX6_parse_7 rfl hl (by decide) rfl (fun ls hl => ?_)
  refine lv_iload_n hx hb dX6_parse_8 rfl (lv_at hl 0 rfl) ?_
  refine lv_iconst (v := (-1)) hx hb dX6_parse_9 (by decide) ?_
  refine lv_icmp_eq (tgt := 18) hx hb dX6_parse_10 (by decide) (fun c10 => ?_) (fun c10 => absurd (rfl) c10)
  refine lv_aload_n hx hb dX6_parse_18 rfl (lv_at hl 1 rfl) ?_
  refine k_get (pre := []) C0 hw hinX6 rfl 5 (by decide) (hts (.fieldLink RX6 41 "SlabDunes" "history" "LSlabDunes$History;") (by decide +kernel)) rfl rfl dX6_parse_19 ?_
  refine lv_aload_n hx hb dX6_parse_22 rfl (lv_at hl 1 rfl) ?_
  refine k_get (pre := []) C0 hw hinX6 rfl 0 (by decide) (hts (.fieldLink RX6 10 "SlabDunes" "field" "LSlabDunes$Field;") (by decide +kernel)) rfl rfl dX6_parse_23 ?_
  have hw : kW E AA sx (List.flatten [fc E a (nI h) (nI w) wd s0 z st he ke tu ca tr co la, oc d0 6 [.ref (a 0), .ref q1, .ref (e 0), .ref q2, .ref (m 0), .ref q, .ref (t 0)], tx E t by0 (nI m9) (nI r2) (nI c2), hw4 E q n b (nI o) (nI k9) G]) H locs := kW.front (pre := [oc d0 6 [.ref (a 0), .ref q1, .ref (e 0), .ref q2, .ref (m 0), .ref q, .ref (t 0)]]) hw
  have hw : kW E AA sx (List.flatten [hw4 E q n b (nI o) (nI k9) G, fc E a (nI h) (nI w) wd s0 z st he ke tu ca tr co la, oc d0 6 [.ref (a 0), .ref q1, .ref (e 0), .ref q2, .ref (m 0), .ref q, .ref (t 0)], tx E t by0 (nI m9) (nI r2) (nI c2)]) H locs := kW.front (pre := [fc E a (nI h) (nI w) wd s0 z st he ke tu ca tr co la, oc d0 6 [.ref (a 0), .ref q1, .ref (e 0), .ref q2, .ref (m 0), .ref q, .ref (t 0)], tx E t by0 (nI m9) (nI r2) (nI c2)]) hw
  refine k_V (As := [.ref (a 0)]) (rest := []) (pre := []) (mid := [hw4 E q n b (nI o) (nI k9) G, fc E a (nI h) (nI w) wd s0 z st he ke tu ca tr co la]) C0 (c_X3_save l E q n b G o k9 a (nI h) (nI w) wd s0 z st he ke tu ca tr co la h w (rfl) (rfl) (by first | assumption | omega) (by first | assumption | omega)) (cwV 1 hts gX6_parse_X3_save rfl rfl rfl (by decide +kernel) ⟨Nat.le_of_ble_eq_true rfl, Nat.le_of_ble_eq_true rfl⟩) hw rfl (fun _ => [hw4 E q n b (nI (svO o k9)) (nI (svK k9)) (cup G (svI o k9) ((nI h), (nI w), wd, s0, z, st, he, ke, tu, ca, tr, co, la)), fc E a (nI h) (nI w) wd s0 z st he ke tu ca tr co la]) (fun _ => rfl) 0 3 rfl rfl rfl rfl hl.1 rfl (Nat.le_of_ble_eq_true rfl) dX6_parse_26 ⟨Nat.le_of_ble_eq_true rfl, Nat.le_of_ble_eq_true rfl⟩ (fun r u H locs hq99 hw => ?_)
  have hw : kW E AA sx (List.flatten [hw4 E q n b (nI (svO o k9)) (nI (svK k9)) (cup G (svI o k9) ((nI h), (nI w), wd, s0, z, st, he, ke, tu, ca, tr, co, la)), fc E a (nI h) (nI w) wd s0 z st he ke tu ca tr co la, oc d0 6 [.ref (a 0), .ref q1, .ref (e 0), .ref q2, .ref (m 0), .ref q, .ref (t 0)], tx E t by0 (nI m9) (nI r2) (nI c2)]) H locs := hw
  refine W.eq (g2 := F0 mm 29 ls []) rfl ?_
  refine lv_aload_n hx hb dX6_parse_29 rfl (lv_at hl 1 rfl) ?_
  refine k_get (pre := [hw4 E q n b (nI (svO o k9)) (nI (svK k9)) (cup G (svI o k9) ((nI h), (nI w), wd, s0, z, st, he, ke, tu, ca, tr, co, la)), fc E a (nI h) (nI w) wd s0 z st he ke tu ca tr co la]) C0 hw hinX6 rfl 0 (by decide) (hts (.fieldLink RX6 10 "SlabDunes" "field" "LSlabDunes$Field;") (by decide +kernel)) rfl rfl dX6_parse_30 ?_
  refine lv_aload_n hx hb dX6_parse_33 rfl (lv_at hl 1 rfl) ?_
  refine k_get (pre := [hw4 E q n b (nI (svO o k9)) (nI (svK k9)) (cup G (svI o k9) ((nI h), (nI w), wd, s0, z, st, he, ke, tu, ca, tr, co, la)), fc E a (nI h) (nI w) wd s0 z st he ke tu ca tr co la]) C0 hw hinX6 rfl 6 (by decide) (hts (.fieldLink RX6 48 "SlabDunes" "text" "LSlabDunes$FieldText;") (by decide +kernel)) rfl rfl dX6_parse_34 ?_
  refine k_getN (host := RX6) (pre := [hw4 E q n b (nI (svO o k9)) (nI (svK k9)) (cup G (svI o k9) ((nI h), (nI w), wd, s0, z, st, he, ke, tu, ca, tr, co, la)), fc E a (nI h) (nI w) wd s0 z st he ke tu ca tr co la, oc d0 6 [.ref (a 0), .ref q1, .ref (e 0), .ref q2, .ref (m 0), .ref q, .ref (t 0)]]) C0 hw hinX2 rfl 2 (by decide) (kN.get hw.2.2.1.2 (by decide +kernel)) rfl rfl dX6_parse_37 ?_
  refine lv_aload_n hx hb dX6_parse_40 rfl (lv_at hl 1 rfl) ?_
  refine k_get (pre := [hw4 E q n b (nI (svO o k9)) (nI (svK k9)) (cup G (svI o k9) ((nI h), (nI w), wd, s0, z, st, he, ke, tu, ca, tr, co, la)), fc E a (nI h) (nI w) wd s0 z st he ke tu ca tr co la]) C0 hw hinX6 rfl 6 (by decide) (hts (.fieldLink RX6 48 "SlabDunes" "text" "LSlabDunes$FieldText;") (by decide +kernel)) rfl rfl dX6_parse_41 ?_
  refine k_getN (host := RX6) (pre := [hw4 E q n b (nI (svO o k9)) (nI (svK k9)) (cup G (svI o k9) ((nI h), (nI w), wd, s0, z, st, he, ke, tu, ca, tr, co, la)), fc E a (nI h) (nI w) wd s0 z st he ke tu ca tr co la, oc d0 6 [.ref (a 0), .ref q1, .ref (e 0), .ref q2, .ref (m 0), .ref q, .ref (t 0)]]) C0 hw hinX2 rfl 3 (by decide) (kN.get hw.2.2.1.2 (by decide +kernel)) rfl rfl dX6_parse_44 ?_
  refine lv_iconst (v := 0) hx hb dX6_parse_47 (by decide) ?_
  refine k_V (As := [.int (nI r2), .int (nI c2), .int 0]) (rest := []) (pre := [hw4 E q n b (nI (svO o k9)) (nI (svK k9)) (cup G (svI o k9) ((nI h), (nI w), wd, s0, z, st, he, ke, tu, ca, tr, co, la))]) (mid := [fc E a (nI h) (nI w) wd s0 z st he ke tu ca tr co la]) C0 (c_X1_layOut l E a (nI h) (nI w) wd s0 z (nI r2) (nI c2) 0 st he ke tu ca tr co la ) (cwV 3 hts gX6_parse_X1_layOut rfl rfl rfl (by decide +kernel) ⟨Nat.le_of_ble_eq_true rfl, Nat.le_of_ble_eq_true rfl⟩) hw rfl (fun _ => [fc E a (nI r2) (nI c2) wd s0 0 st (fun _ => 0) (fun _ => 0) (fun _ => 0) (fun _ => (-1)) (fun _ => 0) (fun _ => 0) (fun _ => (-1))]) (fun _ => rfl) 0 1 rfl rfl rfl rfl hl.1 rfl (Nat.le_of_ble_eq_true rfl) dX6_parse_48 ⟨Nat.le_of_ble_eq_true rfl, Nat.le_of_ble_eq_true rfl⟩ (fun r u H locs hq99 hw => ?_)
  have hw : kW E AA sx (List.flatten [hw4 E q n b (nI (svO o k9)) (nI (svK k9)) (cup G (svI o k9) ((nI h), (nI w), wd, s0, z, st, he, ke, tu, ca, tr, co, la)), fc E a (nI r2) (nI c2) wd s0 0 st (fun _ => 0) (fun _ => 0) (fun _ => 0) (fun _ => (-1)) (fun _ => 0) (fun _ => 0) (fun _ => (-1)), oc d0 6 [.ref (a 0), .ref q1, .ref (e 0), .ref q2, .ref (m 0), .ref q, .ref (t 0)], tx E t by0 (nI m9) (nI r2) (nI c2)]) H locs := hw
  refine W.eq (g2 := F0 mm 51 ls []) rfl ?_
  refine lv_aload_n hx hb dX6_parse_51 rfl (lv_at hl 1 rfl) ?_
  refine k_get (pre := [hw4 E q n b (nI (svO o k9)) (nI (svK k9)) (cup G (svI o k9) ((nI h), (nI w), wd, s0, z, st, he, ke, tu, ca, tr, co, la)), fc E a (nI r2) (nI c2) wd s0 0 st (fun _ => 0) (fun _ => 0) (fun _ => 0) (fun _ => (-1)) (fun _ => 0) (fun _ => 0) (fun _ => (-1))]) C0 hw hinX6 rfl 0 (by decide) (hts (.fieldLink RX6 10 "SlabDunes" "field" "LSlabDunes$Field;") (by decide +kernel)) rfl rfl dX6_parse_52 ?_
  refine k_V (As := []) (rest := []) (pre := [hw4 E q n b (nI (svO o k9)) (nI (svK k9)) (cup G (svI o k9) ((nI h), (nI w), wd, s0, z, st, he, ke, tu, ca, tr, co, la))]) (mid := [fc E a (nI r2) (nI c2) wd s0 0 st (fun _ => 0) (fun _ => 0) (fun _ => 0) (fun _ => (-1)) (fun _ => 0) (fun _ => 0) (fun _ => (-1))]) C0 (c_X1_cells l E a r2 c2 wd s0 0 st (fun _ => 0) (fun _ => 0) (fun _ => 0) (fun _ => (-1)) (fun _ => 0) (fun _ => 0) (fun _ => (-1)) (hG8)) (cwV 0 hts gX6_parse_X1_cells rfl rfl rfl (by decide +kernel) ⟨Nat.le_of_ble_eq_true rfl, Nat.le_of_ble_eq_true rfl⟩) hw rfl (fun _ => [fc E a (nI r2) (nI c2) wd s0 0 st (fun _ => 0) (fun _ => 0) (fun _ => 0) (fun _ => (-1)) (fun _ => 0) (fun _ => 0) (fun _ => (-1))]) (fun _ => rfl) 0 1 rfl rfl rfl rfl hl.1 rfl (Nat.le_of_ble_eq_true rfl) dX6_parse_55 ⟨Nat.le_of_ble_eq_true rfl, Nat.le_of_ble_eq_true rfl⟩ (fun r u H locs hq99 hw => ?_)
  subst hq99
  have hw : kW E AA sx (List.flatten [hw4 E q n b (nI (svO o k9)) (nI (svK k9)) (cup G (svI o k9) ((nI h), (nI w), wd, s0, z, st, he, ke, tu, ca, tr, co, la)), fc E a (nI r2) (nI c2) wd s0 0 st (fun _ => 0) (fun _ => 0) (fun _ => 0) (fun _ => (-1)) (fun _ => 0) (fun _ => 0) (fun _ => (-1)), oc d0 6 [.ref (a 0), .ref q1, .ref (e 0), .ref q2, .ref (m 0), .ref q, .ref (t 0)], tx E t by0 (nI m9) (nI r2) (nI c2)]) H locs := hw
  refine W.eq (g2 := F0 mm 58 ls [.int (nI (r2 * c2))]) rfl ?_
  refine lv_istore_n (lv' := [(2, .int (nI (r2 * c2))), (1, .int (-1)), (0, .ref d0)]) hx hb dX6_parse_58 rfl hl (by decide) rfl (fun ls hl => ?_)
  refine lv_iconst (v := 0) hx hb dX6_parse_59 (by decide) ?_
  refine lv_istore_n (lv' := [(3, .int 0), (2, .int (nI (r2 * c2))), (1, .int (-1)), (0, .ref d0)]) hx hb dX6_parse_60 rfl hl (by decide) rfl (fun ls hl => ?_)
  have loop61 : ∀ (nn : Nat) (i : Nat) (g9 : Nat → Int32), (i ≤ r2 * c2) → (g9 = prH by0 c2 i) → r2 * c2 - i < nn → ∀ (H : Heap) (locs : List Loc) (ls : Array Slot), lv_has ls 4 [(3, .int (nI i)), (2, .int (nI (r2 * c2))), (1, .int (-1)), (0, .ref d0)] → kW E AA sx (List.flatten [hw4 E q n b (nI (svO o k9)) (nI (svK k9)) (cup G (svI o k9) ((nI h), (nI w), wd, s0, z, st, he, ke, tu, ca, tr, co, la)), fc E a (nI r2) (nI c2) wd s0 0 st g9 g9 (fun _ => 0) (fun _ => (-1)) (fun _ => 0) (fun _ => 0) (fun _ => (-1)), oc d0 6 [.ref (a 0), .ref q1, .ref (e 0), .ref q2, .ref (m 0), .ref q, .ref (t 0)], tx E t by0 (nI m9) (nI r2) (nI c2)]) H locs → W pp l ee rmX6_parse sx mm aa bb me cd H locs 0 0 (kEnd E kI (fun (r : Int32) (_ : Unit) => r = nI (r2 * c2)) (fun _ => List.flatten [oc d0 6 [.ref (a 0), .ref q1, .ref (e 0), .ref q2, .ref (m 0), .ref q, .ref (t 0)], fc E a (nI r2) (nI c2) wd s0 0 st (prH by0 c2 (r2 * c2)) (prH by0 c2 (r2 * c2)) (fun _ => 0) (fun _ => (-1)) (fun _ => 0) (fun _ => 0) (fun _ => (-1)), tx E t by0 (nI m9) (nI r2) (nI c2), hw4 E q n b (nI (svO o k9)) (nI (svK k9)) (cup G (svI o k9) (nI h, nI w, wd, s0, z, st, he, ke, tu, ca, tr, co, la))]) bb aa sx AA 0 0) (F0 mm 61 ls []) := by
    intro nn
    induction nn with
    | zero => intro i g9 hi hg9 hm61; exact absurd hm61 (Nat.not_lt_zero _)
    | succ nn ih61 =>
      intro i g9 hi hg9 hm61 H locs ls hl hw
      refine lv_iload_n hx hb dX6_parse_61 rfl (lv_at hl 0 rfl) ?_
      refine lv_iload_n hx hb dX6_parse_62 rfl (lv_at hl 1 rfl) ?_
      refine lv_icmp_ge (tgt := 88) hx hb dX6_parse_63 (by decide) (fun c63 => ?_) (fun c63 => ?_)
      · have c63 : (r2 * c2) ≤ i := (nI_leI (a := (r2 * c2)) (b := i) (by omega) (by omega)).mp c63
        refine lv_iload_n hx hb dX6_parse_88 rfl (lv_at hl 1 rfl) ?_
        have hw : kW E AA sx (List.flatten [tx E t by0 (nI m9) (nI r2) (nI c2), hw4 E q n b (nI (svO o k9)) (nI (svK k9)) (cup G (svI o k9) ((nI h), (nI w), wd, s0, z, st, he, ke, tu, ca, tr, co, la)), fc E a (nI r2) (nI c2) wd s0 0 st g9 g9 (fun _ => 0) (fun _ => (-1)) (fun _ => 0) (fun _ => 0) (fun _ => (-1)), oc d0 6 [.ref (a 0), .ref q1, .ref (e 0), .ref q2, .ref (m 0), .ref q, .ref (t 0)]]) H locs := kW.front (pre := [hw4 E q n b (nI (svO o k9)) (nI (svK k9)) (cup G (svI o k9) ((nI h), (nI w), wd, s0, z, st, he, ke, tu, ca, tr, co, la)), fc E a (nI r2) (nI c2) wd s0 0 st g9 g9 (fun _ => 0) (fun _ => (-1)) (fun _ => 0) (fun _ => 0) (fun _ => (-1)), oc d0 6 [.ref (a 0), .ref q1, .ref (e 0), .ref q2, .ref (m 0), .ref q, .ref (t 0)]]) hw
        have hw : kW E AA sx (List.flatten [fc E a (nI r2) (nI c2) wd s0 0 st g9 g9 (fun _ => 0) (fun _ => (-1)) (fun _ => 0) (fun _ => 0) (fun _ => (-1)), tx E t by0 (nI m9) (nI r2) (nI c2), hw4 E q n b (nI (svO o k9)) (nI (svK k9)) (cup G (svI o k9) ((nI h), (nI w), wd, s0, z, st, he, ke, tu, ca, tr, co, la)), oc d0 6 [.ref (a 0), .ref q1, .ref (e 0), .ref q2, .ref (m 0), .ref q, .ref (t 0)]]) H locs := kW.front (pre := [tx E t by0 (nI m9) (nI r2) (nI c2), hw4 E q n b (nI (svO o k9)) (nI (svK k9)) (cup G (svI o k9) ((nI h), (nI w), wd, s0, z, st, he, ke, tu, ca, tr, co, la))]) hw
        have hw : kW E AA sx (List.flatten [oc d0 6 [.ref (a 0), .ref q1, .ref (e 0), .ref q2, .ref (m 0), .ref q, .ref (t 0)], fc E a (nI r2) (nI c2) wd s0 0 st g9 g9 (fun _ => 0) (fun _ => (-1)) (fun _ => 0) (fun _ => 0) (fun _ => (-1)), tx E t by0 (nI m9) (nI r2) (nI c2), hw4 E q n b (nI (svO o k9)) (nI (svK k9)) (cup G (svI o k9) ((nI h), (nI w), wd, s0, z, st, he, ke, tu, ca, tr, co, la))]) H locs := kW.front (pre := [fc E a (nI r2) (nI c2) wd s0 0 st g9 g9 (fun _ => 0) (fun _ => (-1)) (fun _ => 0) (fun _ => 0) (fun _ => (-1)), tx E t by0 (nI m9) (nI r2) (nI c2), hw4 E q n b (nI (svO o k9)) (nI (svK k9)) (cup G (svI o k9) ((nI h), (nI w), wd, s0, z, st, he, ke, tu, ca, tr, co, la))]) hw
        -- leaf 0
        exact k_iret C0 hr hlk hw () (by rw [hg9, show i = r2 * c2 by omega]) (rfl) (Nat.le_of_ble_eq_true rfl) (Nat.le_of_ble_eq_true rfl) dX6_parse_89
      · have c63 : ¬ (r2 * c2) ≤ i := fun h99 => c63 ((nI_leI (a := (r2 * c2)) (b := i) (by omega) (by omega)).mpr h99)
        have hk9 := prk_lt hG8 (show i < r2 * c2 by omega)
        refine lv_aload_n hx hb dX6_parse_66 rfl (lv_at hl 3 rfl) ?_
        refine k_get (pre := [hw4 E q n b (nI (svO o k9)) (nI (svK k9)) (cup G (svI o k9) ((nI h), (nI w), wd, s0, z, st, he, ke, tu, ca, tr, co, la)), fc E a (nI r2) (nI c2) wd s0 0 st g9 g9 (fun _ => 0) (fun _ => (-1)) (fun _ => 0) (fun _ => 0) (fun _ => (-1))]) C0 hw hinX6 rfl 0 (by decide) (hts (.fieldLink RX6 10 "SlabDunes" "field" "LSlabDunes$Field;") (by decide +kernel)) rfl rfl dX6_parse_67 ?_
        refine lv_iload_n hx hb dX6_parse_70 rfl (lv_at hl 0 rfl) ?_
        refine lv_aload_n hx hb dX6_parse_71 rfl (lv_at hl 3 rfl) ?_
        refine k_get (pre := [hw4 E q n b (nI (svO o k9)) (nI (svK k9)) (cup G (svI o k9) ((nI h), (nI w), wd, s0, z, st, he, ke, tu, ca, tr, co, la)), fc E a (nI r2) (nI c2) wd s0 0 st g9 g9 (fun _ => 0) (fun _ => (-1)) (fun _ => 0) (fun _ => 0) (fun _ => (-1))]) C0 hw hinX6 rfl 6 (by decide) (hts (.fieldLink RX6 48 "SlabDunes" "text" "LSlabDunes$FieldText;") (by decide +kernel)) rfl rfl dX6_parse_72 ?_
        refine lv_iload_n hx hb dX6_parse_75 rfl (lv_at hl 0 rfl) ?_
        refine k_V (As := [.int (nI i)]) (rest := [.int (nI i), .ref (a 0)]) (pre := [hw4 E q n b (nI (svO o k9)) (nI (svK k9)) (cup G (svI o k9) ((nI h), (nI w), wd, s0, z, st, he, ke, tu, ca, tr, co, la)), fc E a (nI r2) (nI c2) wd s0 0 st g9 g9 (fun _ => 0) (fun _ => (-1)) (fun _ => 0) (fun _ => 0) (fun _ => (-1)), oc d0 6 [.ref (a 0), .ref q1, .ref (e 0), .ref q2, .ref (m 0), .ref q, .ref (t 0)]]) (mid := [tx E t by0 (nI m9) (nI r2) (nI c2)]) C0 (c_X2_heightOf l E t by0 m9 r2 c2 i (by first | assumption | omega) (by first | assumption | omega) (by first | assumption | omega)) (cwV 1 hts gX6_parse_X2_heightOf rfl rfl rfl (by decide +kernel) ⟨Nat.le_of_ble_eq_true rfl, Nat.le_of_ble_eq_true rfl⟩) hw rfl (fun _ => [tx E t by0 (nI m9) (nI r2) (nI c2)]) (fun _ => rfl) 0 2 rfl rfl rfl rfl hl.1 rfl (Nat.le_of_ble_eq_true rfl) dX6_parse_76 ⟨Nat.le_of_ble_eq_true rfl, Nat.le_of_ble_eq_true rfl⟩ (fun r u H locs hq99 hw => ?_)
        subst hq99
        have hw : kW E AA sx (List.flatten [hw4 E q n b (nI (svO o k9)) (nI (svK k9)) (cup G (svI o k9) ((nI h), (nI w), wd, s0, z, st, he, ke, tu, ca, tr, co, la)), fc E a (nI r2) (nI c2) wd s0 0 st g9 g9 (fun _ => 0) (fun _ => (-1)) (fun _ => 0) (fun _ => 0) (fun _ => (-1)), oc d0 6 [.ref (a 0), .ref q1, .ref (e 0), .ref q2, .ref (m 0), .ref q, .ref (t 0)], tx E t by0 (nI m9) (nI r2) (nI c2)]) H locs := hw
        refine W.eq (g2 := F0 mm 79 ls [.int (by0 (i + i / c2) - 48), .int (nI i), .ref (a 0)]) rfl ?_
        refine k_V (As := [.int (nI i), .int (by0 (i + i / c2) - 48)]) (rest := []) (pre := [hw4 E q n b (nI (svO o k9)) (nI (svK k9)) (cup G (svI o k9) ((nI h), (nI w), wd, s0, z, st, he, ke, tu, ca, tr, co, la))]) (mid := [fc E a (nI r2) (nI c2) wd s0 0 st g9 g9 (fun _ => 0) (fun _ => (-1)) (fun _ => 0) (fun _ => 0) (fun _ => (-1))]) C0 (c_X1_giveHeight l E a r2 c2 wd s0 0 st g9 g9 (fun _ => 0) (fun _ => (-1)) (fun _ => 0) (fun _ => 0) (fun _ => (-1)) i (by0 (i + i / c2) - 48) (hG8) (by omega)) (cwV 2 hts gX6_parse_X1_giveHeight rfl rfl rfl (by decide +kernel) ⟨Nat.le_of_ble_eq_true rfl, Nat.le_of_ble_eq_true rfl⟩) hw rfl (fun _ => [fc E a (nI r2) (nI c2) wd s0 0 st (upd g9 i (by0 (i + i / c2) - 48)) (upd g9 i (by0 (i + i / c2) - 48)) (fun _ => 0) (fun _ => (-1)) (fun _ => 0) (fun _ => 0) (fun _ => (-1))]) (fun _ => rfl) 0 1 rfl rfl rfl rfl hl.1 rfl (Nat.le_of_ble_eq_true rfl) dX6_parse_79 ⟨Nat.le_of_ble_eq_true rfl, Nat.le_of_ble_eq_true rfl⟩ (fun r u H locs hq99 hw => ?_)
        have hw : kW E AA sx (List.flatten [hw4 E q n b (nI (svO o k9)) (nI (svK k9)) (cup G (svI o k9) ((nI h), (nI w), wd, s0, z, st, he, ke, tu, ca, tr, co, la)), fc E a (nI r2) (nI c2) wd s0 0 st (upd g9 i (by0 (i + i / c2) - 48)) (upd g9 i (by0 (i + i / c2) - 48)) (fun _ => 0) (fun _ => (-1)) (fun _ => 0) (fun _ => 0) (fun _ => (-1)), oc d0 6 [.ref (a 0), .ref q1, .ref (e 0), .ref q2, .ref (m 0), .ref q, .ref (t 0)], tx E t by0 (nI m9) (nI r2) (nI c2)]) H locs := hw
        refine W.eq (g2 := F0 mm 82 ls []) rfl ?_
        refine lv_iinc (v := nI (i + 1)) (lv' := [(3, .int (nI (i + 1))), (2, .int (nI (r2 * c2))), (1, .int (-1)), (0, .ref d0)]) hx hb dX6_parse_82 hl (k := 0) rfl (nI_1 _) (by decide) rfl (fun ls hl => ?_)
        refine lv_goto (tgt := 61) hx hb dX6_parse_85 (by decide) ?_
        -- back 0
        exact ih61 (i + 1) (upd g9 i (by0 (i + i / c2) - 48)) (by first | assumption | omega) (by rw [hg9]; exact prH_s) (by omega) H _ ls (lv_sub hl [0, 1, 2, 3] rfl) hw
  exact loop61 ((r2 * c2 - 0) + 1) 0 (fun _ => 0) (Nat.zero_le _) (prH_0) (Nat.lt_succ_self _) H _ ls (lv_sub hl [0, 1, 2, 3] rfl) hw
