/-! THE MODEL: the text -/
theorem ep_d {f : Nat → Int32} {m n R c i p : Nat} {X : Int32 × (Nat × Nat)} (hE : epL f m (n + 1) (R + 1) c i p = X) (hd : ¬ f p < 48 ∧ ¬ 57 < f p) (hl : (R = 0 ∧ i < 16) ∨ (¬ R = 0 ∧ i < c)) : epL f m n (R + 1) c (i + 1) (p + 1) = X := by
  rw [epL_s, if_pos hd] at hE
  rcases hl with ⟨h1, h2⟩ | ⟨h1, h2⟩
  · rw [if_pos (by rw [if_pos (by omega)]; exact h2)] at hE; exact hE
  · rw [if_pos (by rw [if_neg (by omega)]; exact h2)] at hE; exact hE
theorem ep_de {f : Nat → Int32} {m n R c i p : Nat} {x : Int32} {y : Nat × Nat} (hE : epL f m (n + 1) (R + 1) c i p = (x, y)) (hd : ¬ f p < 48 ∧ ¬ 57 < f p) (hl : (R = 0 ∧ i = 16) ∨ (¬ R = 0 ∧ i = c)) : x = nI p := by
  rw [epL_s, if_pos hd] at hE
  rcases hl with ⟨h1, h2⟩ | ⟨h1, h2⟩
  · rw [if_neg (by rw [if_pos (by omega)]; omega)] at hE; have h := congrArg (fun z => z.1) hE; exact h.symm
  · rw [if_neg (by rw [if_neg (by omega)]; omega)] at hE; have h := congrArg (fun z => z.1) hE; exact h.symm
theorem ep_s {f : Nat → Int32} {m n R c i p : Nat} {X : Int32 × (Nat × Nat)} (hE : epL f m (n + 1) (R + 1) c i p = X) (hd : ¬ (¬ f p < 48 ∧ ¬ 57 < f p)) (h47 : f p = 47) (hl : (R = 0 ∧ 3 ≤ i) ∨ (¬ R = 0 ∧ i = c)) (hR : R < 11) : epL f m n (R + 1 + 1) i 0 (p + 1) = X := by
  rw [epL_s, if_neg hd, if_pos h47] at hE
  rcases hl with ⟨h1, h2⟩ | ⟨h1, h2⟩
  · rw [if_neg (by rw [if_pos (by omega)]; omega)] at hE; exact hE
  · rw [if_neg (by rw [if_neg (by omega)]; omega)] at hE; exact hE
theorem ep_se1 {f : Nat → Int32} {m n R c i p : Nat} {x : Int32} {y : Nat × Nat} (hE : epL f m (n + 1) (R + 1) c i p = (x, y)) (hd : ¬ (¬ f p < 48 ∧ ¬ 57 < f p)) (h47 : ¬ f p = 47) : x = nI p := by
  rw [epL_s, if_neg hd, if_neg h47] at hE
  have h := congrArg (fun z => z.1) hE
  exact h.symm
theorem ep_se2 {f : Nat → Int32} {m n R c i p : Nat} {x : Int32} {y : Nat × Nat} (hE : epL f m (n + 1) (R + 1) c i p = (x, y)) (hd : ¬ (¬ f p < 48 ∧ ¬ 57 < f p)) (h47 : f p = 47) (hl : (R = 0 ∧ i < 3) ∨ (¬ R = 0 ∧ i < c) ∨ R = 11) : x = nI p := by
  rw [epL_s, if_neg hd, if_pos h47] at hE
  have h9 : i < (if R + 1 = 1 then 3 else c) ∨ ¬ R + 1 < 12 := by
    rcases hl with ⟨h1, h2⟩ | ⟨h1, h2⟩ | h1
    · rw [if_pos (by omega)]; exact Or.inl h2
    · rw [if_neg (by omega)]; exact Or.inl h2
    · exact Or.inr (by omega)
  rw [if_pos h9] at hE
  have h := congrArg (fun z => z.1) hE
  exact h.symm
theorem ep_e1 {f : Nat → Int32} {m R c i p r2 c2 : Nat} {x : Int32} (hE : epL f m 0 (R + 1) c i p = (x, (r2, c2))) (hl : 2 ≤ R ∧ i = c) : x = -1 ∧ r2 = R + 1 ∧ c2 = c := by
  rw [epL_0, if_pos (by omega)] at hE
  have h1 := congrArg (fun z => z.1) hE
  have h2 := congrArg (fun z => z.2.1) hE
  have h3 := congrArg (fun z => z.2.2) hE
  exact ⟨h1.symm, h2.symm, h3.symm⟩
theorem ep_e2 {f : Nat → Int32} {m R c i p : Nat} {x : Int32} {y : Nat × Nat} (hE : epL f m 0 (R + 1) c i p = (x, y)) (hl : ¬ (2 ≤ R ∧ i = c)) : x = nI m := by
  rw [epL_0, if_neg (by omega)] at hE
  have h1 := congrArg (fun z => z.1) hE
  exact h1.symm
theorem ep_lf {x : Int32} {p r2 c2 : Nat} {u : Int32 × Int32} (h : x = nI p) (hp : p < 2147483648) : nI p = x ∧ (x = -1 → u = (nI r2, nI c2)) := ⟨h.symm, fun h2 => absurd (h.symm.trans h2) (nI_nm1 hp)⟩
/-- cells before a place of the text -/
def cel (c p : Nat) : Nat := p / (c + 1) * c + p % (c + 1)
theorem cel_d (c p : Nat) : ∃ q r, r < c + 1 ∧ p = q * (c + 1) + r ∧ p / (c + 1) = q ∧ p % (c + 1) = r := ⟨p / (c + 1), p % (c + 1), Nat.mod_lt _ (by omega), (kpos_e (c + 1) p).symm, rfl, rfl⟩
theorem cel_n {c p : Nat} (h : ¬ p % (c + 1) = c) : cel c (p + 1) = cel c p + 1 := by
  obtain ⟨q, r, h1, h2, h3, h4⟩ := cel_d c p
  have e1 : (p + 1) / (c + 1) = q := by rw [h2, Nat.add_assoc]; exact kpos_d (by omega)
  have e2 : (p + 1) % (c + 1) = r + 1 := by rw [h2, Nat.add_assoc]; exact kpos_m (by omega)
  unfold cel
  rw [e1, e2, h3, h4, Nat.add_assoc]
theorem cel_s {c p : Nat} (h : p % (c + 1) = c) : cel c (p + 1) = cel c p := by
  obtain ⟨q, r, h1, h2, h3, h4⟩ := cel_d c p
  have h5 : p + 1 = (q + 1) * (c + 1) + 0 := by rw [Nat.succ_mul, h2]; omega
  have e1 : (p + 1) / (c + 1) = q + 1 := by rw [h5]; exact kpos_d (by omega)
  have e2 : (p + 1) % (c + 1) = 0 := by rw [h5]; exact kpos_m (by omega)
  unfold cel
  rw [e1, e2, h3, h, Nat.succ_mul, Nat.add_zero]
theorem cel_i {c p : Nat} (hc : 0 < c) (h : ¬ p % (c + 1) = c) : cel c p + cel c p / c = p := by
  obtain ⟨q, r, h1, h2, h3, h4⟩ := cel_d c p
  unfold cel
  rw [h3, h4]
  rw [kpos_d (show r < c by omega)]
  rw [Nat.mul_add, Nat.mul_one] at h2
  omega
theorem cel_lt {c p r : Nat} (hp : p < r * (c + 1)) (h : ¬ p % (c + 1) = c) : cel c p < r * c := by
  obtain ⟨q, s, h1, h2, h3, h4⟩ := cel_d c p
  have hq : q < r := by
    rw [← h3]
    exact Nat.div_lt_of_lt_mul (by rw [Nat.mul_comm]; exact hp)
  unfold cel
  rw [h3, h4]
  have h5 := Nat.mul_le_mul_right c (show q + 1 ≤ r by omega)
  rw [Nat.succ_mul] at h5
  omega
theorem cel_e {c m r : Nat} (hm : m + 1 = r * (c + 1)) : cel c m = r * c := by
  obtain ⟨q, s, h1, h2, h3, h4⟩ := cel_d c m
  have hr : 1 ≤ r := by
    rcases Nat.eq_zero_or_pos r with h9 | h9
    · rw [h9, Nat.zero_mul] at hm; omega
    · exact h9
  obtain ⟨r0, rfl⟩ : ∃ r0, r = r0 + 1 := ⟨r - 1, by omega⟩
  have h5 : m = r0 * (c + 1) + c := by rw [Nat.succ_mul] at hm; omega
  have e1 : m / (c + 1) = r0 := by rw [h5]; exact kpos_d (by omega)
  have e2 : m % (c + 1) = c := by rw [h5]; exact kpos_m (by omega)
  unfold cel
  rw [e1, e2, Nat.succ_mul]
theorem cel_0 (c : Nat) : cel c 0 = 0 := by unfold cel; rw [Nat.zero_div, Nat.zero_mod, Nat.zero_mul]
abbrev rmX7_faultOf : Room := { frames := 1, cells := 0, slots := 0, locals := 25 }
set_option maxHeartbeats 4000000 in
set_option maxRecDepth 100000 in
theorem c_X7_faultOf (l : Launch) (E : kE) (m0 : Nat) (A0 : Nat) (V0 : Nat) (Z0 : Nat) (D0 : Nat) (W0 : Nat) (T0 : Nat) (sm : Int32) (th : Int32) (pl : Int32) (hz : Int32) (tw : Int32) (tc : Int32) (tb : Nat → Int32) (m9 : Nat) (x8 : Int32) (r2 : Nat) (c2 : Nat) (hm9 : m9 ≤ 220) (hE : epL tb m9 m9 1 0 0 0 = (x8, (r2, c2))) : kC E l yX7_faultOf wsX7_faultOf rmX7_faultOf [.ref m0] (List.flatten [oc m0 7 [.ref A0, .ref V0, .ref Z0, .int sm, .int th, .int pl, .int hz, .ref D0, .ref W0, .ref T0, .int (nI m9), .int tw, .int tc], ac E T0 220 tb]) kI (fun (r : Int32) (u : Int32 × Int32) => r = x8 ∧ (x8 = (-1 : Int32) → u = (nI r2, nI c2))) (fun (u : Int32 × Int32) => List.flatten [oc m0 7 [.ref A0, .ref V0, .ref Z0, .int sm, .int th, .int pl, .int hz, .ref D0, .ref W0, .ref T0, .int (nI m9), .int u.1, .int u.2], ac E T0 220 tb]) 0 0 := by
  refine k_body (cc := cX7_faultOf) (maxL := 5) (ret := (some .int)) (by decide) rfl (Nat.le_of_ble_eq_true rfl) ?_
  intro pp ee sx mm aa bb me cd H locs AA ls C0 hr hlk hnm hl hw
  obtain ⟨hx, hb, hml, hown, hts⟩ := id C0
  have hl : lv_has ls 5 [(0, .ref m0)] := hl
  have hw : kW E AA sx (List.flatten [oc m0 7 [.ref A0, .ref V0, .ref Z0, .int sm, .int th, .int pl, .int hz, .ref D0, .ref W0, .ref T0, .int (nI m9), .int tw, .int tc], ac E T0 220 tb]) H locs := hw
  have hinX7 : ∀ w ∈ u_ws RX7 TX7 13, w ∈ wsX7_faultOf := by decide +kernel
  refine lv_aload_n hx hb dX7_faultOf_0 rfl (lv_at hl 0 rfl) ?_
  refine lv_iconst (v := 0) hx hb dX7_faultOf_1 (by decide) ?_
  refine k_put (pre := []) C0 hw hinX7 tyX7 tyX7_ok nmX7 rfl 11 (by decide) (hts (.fieldLink RX7 205 "SlabDunesModel" "textRows" "I") (by decide +kernel)) rfl rfl (ty := .int) (by decide +kernel) rfl rfl (Nat.le_of_ble_eq_true rfl) dX7_faultOf_2 (fun H locs hw => ?_)
  have hw : kW E AA sx (List.flatten [oc m0 7 [.ref A0, .ref V0, .ref Z0, .int sm, .int th, .int pl, .int hz, .ref D0, .ref W0, .ref T0, .int (nI m9), .int 0, .int tc], ac E T0 220 tb]) H locs := hw
  refine lv_aload_n hx hb dX7_faultOf_5 rfl (lv_at hl 0 rfl) ?_
  refine lv_iconst (v := 0) hx hb dX7_faultOf_6 (by decide) ?_
  refine k_put (pre := []) C0 hw hinX7 tyX7 tyX7_ok nmX7 rfl 12 (by decide) (hts (.fieldLink RX7 208 "SlabDunesModel" "textColumns" "I") (by decide +kernel)) rfl rfl (ty := .int) (by decide +kernel) rfl rfl (Nat.le_of_ble_eq_true rfl) dX7_faultOf_7 (fun H locs hw => ?_)
  have hw : kW E AA sx (List.flatten [oc m0 7 [.ref A0, .ref V0, .ref Z0, .int sm, .int th, .int pl, .int hz, .ref D0, .ref W0, .ref T0, .int (nI m9), .int 0, .int 0], ac E T0 220 tb]) H locs := hw
  refine lv_iconst (v := 0) hx hb dX7_faultOf_10 (by decide) ?_
  refine lv_istore_n (lv' := [(1, .int 0), (0, .ref m0)]) hx hb dX7_faultOf_11 rfl hl (by decide) rfl (fun ls hl => ?_)
  refine lv_iconst (v := 0) hx hb dX7_faultOf_12 (by decide) ?_
  refine lv_istore_n (lv' := [(2, .int 0), (1, .int 0), (0, .ref m0)]) hx hb dX7_faultOf_13 rfl hl (by decide) rfl (fun ls hl => ?_)
  have loop14 : ∀ (nn : Nat) (i : Nat) (p : Nat) (R : Nat) (c : Nat), (p ≤ m9) → (R ≤ 11) → (c ≤ 16) → ((R = 0 ∧ i ≤ 16) ∨ (¬ R = 0 ∧ i ≤ c)) → (epL tb m9 (m9 - p) (R + 1) c i p = (x8, (r2, c2))) → m9 - p < nn → ∀ (H : Heap) (locs : List Loc) (ls : Array Slot), lv_has ls 5 [(2, .int (nI p)), (1, .int (nI i)), (0, .ref m0)] → kW E AA sx (List.flatten [oc m0 7 [.ref A0, .ref V0, .ref Z0, .int sm, .int th, .int pl, .int hz, .ref D0, .ref W0, .ref T0, .int (nI m9), .int (nI R), .int (nI c)], ac E T0 220 tb]) H locs → W pp l ee rmX7_faultOf sx mm aa bb me cd H locs 0 0 (kEnd E kI (fun (r : Int32) (u : Int32 × Int32) => r = x8 ∧ (x8 = (-1 : Int32) → u = (nI r2, nI c2))) (fun (u : Int32 × Int32) => List.flatten [oc m0 7 [.ref A0, .ref V0, .ref Z0, .int sm, .int th, .int pl, .int hz, .ref D0, .ref W0, .ref T0, .int (nI m9), .int u.1, .int u.2], ac E T0 220 tb]) bb aa sx AA 0 0) (F0 mm 14 ls []) := by
    intro nn
    induction nn with
    | zero => intro i p R c hp hR hc16 hi hEp hm14; exact absurd hm14 (Nat.not_lt_zero _)
    | succ nn ih14 =>
      intro i p R c hp hR hc16 hi hEp hm14 H locs ls hl hw
      refine lv_iload_n hx hb dX7_faultOf_14 rfl (lv_at hl 0 rfl) ?_
      refine lv_aload_n hx hb dX7_faultOf_15 rfl (lv_at hl 2 rfl) ?_
      refine k_get (pre := []) C0 hw hinX7 rfl 10 (by decide) (hts (.fieldLink RX7 202 "SlabDunesModel" "textLong" "I") (by decide +kernel)) rfl rfl dX7_faultOf_16 ?_
      refine lv_icmp_ge (tgt := 161) hx hb dX7_faultOf_19 (by decide) (fun c19 => ?_) (fun c19 => ?_)
      · have c19 : m9 ≤ p := (nI_leI (a := m9) (b := p) (by omega) (by omega)).mp c19
        rw [show m9 - p = 0 by omega] at hEp
        refine lv_aload_n hx hb dX7_faultOf_161 rfl (lv_at hl 2 rfl) ?_
        refine k_get (pre := []) C0 hw hinX7 rfl 11 (by decide) (hts (.fieldLink RX7 205 "SlabDunesModel" "textRows" "I") (by decide +kernel)) rfl rfl dX7_faultOf_162 ?_
        refine lv_iconst (v := 2) hx hb dX7_faultOf_165 (by decide) ?_
        refine lv_icmp_lt (tgt := 181) hx hb dX7_faultOf_166 (by decide) (fun c166 => ?_) (fun c166 => ?_)
        · have c166 : R < 2 := (nI_ltI (a := R) (b := 2) (by omega) (by omega)).mp c166
          refine lv_iconst (v := 0) hx hb dX7_faultOf_181 (by decide) ?_
          refine lv_istore_n (lv' := [(2, .int 0), (1, .int (nI i)), (0, .ref m0)]) hx hb dX7_faultOf_182 rfl hl (by decide) rfl (fun ls hl => ?_)
          refine lv_aload_n hx hb dX7_faultOf_183 rfl (lv_at hl 2 rfl) ?_
          refine lv_dup hx hb dX7_faultOf_184 rfl ?_
          refine k_get (pre := []) C0 hw hinX7 rfl 11 (by decide) (hts (.fieldLink RX7 205 "SlabDunesModel" "textRows" "I") (by decide +kernel)) rfl rfl dX7_faultOf_185 ?_
          refine lv_iconst (v := 1) hx hb dX7_faultOf_188 (by decide) ?_
          refine lv_iadd hx hb dX7_faultOf_189 ?_
          refine W.eq (g2 := F0 mm 190 ls [.int (nI (R + 1)), .ref m0]) (congrArg (fun z9 => F0 mm 190 ls [.int z9, .ref m0]) (show ((nI R) + 1 : Int32) = nI (R + 1) from nI_1 _)) ?_
          refine k_put (pre := []) C0 hw hinX7 tyX7 tyX7_ok nmX7 rfl 11 (by decide) (hts (.fieldLink RX7 205 "SlabDunesModel" "textRows" "I") (by decide +kernel)) rfl rfl (ty := .int) (by decide +kernel) rfl rfl (Nat.le_of_ble_eq_true rfl) dX7_faultOf_190 (fun H locs hw => ?_)
          have hw : kW E AA sx (List.flatten [oc m0 7 [.ref A0, .ref V0, .ref Z0, .int sm, .int th, .int pl, .int hz, .ref D0, .ref W0, .ref T0, .int (nI m9), .int (nI (R + 1)), .int (nI c)], ac E T0 220 tb]) H locs := hw
          refine lv_iload_n hx hb dX7_faultOf_193 rfl (lv_at hl 0 rfl) ?_
          refine lv_if_eq (tgt := 201) hx hb dX7_faultOf_194 (by decide) (fun c194 => ?_) (fun c194 => absurd c194 (by decide))
          refine lv_aload_n hx hb dX7_faultOf_201 rfl (lv_at hl 2 rfl) ?_
          refine k_get (pre := []) C0 hw hinX7 rfl 10 (by decide) (hts (.fieldLink RX7 202 "SlabDunesModel" "textLong" "I") (by decide +kernel)) rfl rfl dX7_faultOf_202 ?_
          -- leaf 0
          exact k_iret C0 hr hlk hw (nI (R + 1), nI c) (rfl) (ep_lf (ep_e2 hEp (by omega)) (by omega)) (Nat.le_of_ble_eq_true rfl) (Nat.le_of_ble_eq_true rfl) dX7_faultOf_205
        · have c166 : ¬ R < 2 := fun h99 => c166 ((nI_ltI (a := R) (b := 2) (by omega) (by omega)).mpr h99)
          refine lv_iload_n hx hb dX7_faultOf_169 rfl (lv_at hl 1 rfl) ?_
          refine lv_aload_n hx hb dX7_faultOf_170 rfl (lv_at hl 2 rfl) ?_
          refine k_get (pre := []) C0 hw hinX7 rfl 12 (by decide) (hts (.fieldLink RX7 208 "SlabDunesModel" "textColumns" "I") (by decide +kernel)) rfl rfl dX7_faultOf_171 ?_
          refine lv_icmp_ne (tgt := 181) hx hb dX7_faultOf_174 (by decide) (fun c174 => ?_) (fun c174 => ?_)
          · have c174 : ¬ i = c := fun h99 => c174 ((nI_eq (a := i) (b := c) (by omega) (by omega)).mpr h99)
            refine lv_iconst (v := 0) hx hb dX7_faultOf_181 (by decide) ?_
            refine lv_istore_n (lv' := [(2, .int 0), (1, .int (nI i)), (0, .ref m0)]) hx hb dX7_faultOf_182 rfl hl (by decide) rfl (fun ls hl => ?_)
            refine lv_aload_n hx hb dX7_faultOf_183 rfl (lv_at hl 2 rfl) ?_
            refine lv_dup hx hb dX7_faultOf_184 rfl ?_
            refine k_get (pre := []) C0 hw hinX7 rfl 11 (by decide) (hts (.fieldLink RX7 205 "SlabDunesModel" "textRows" "I") (by decide +kernel)) rfl rfl dX7_faultOf_185 ?_
            refine lv_iconst (v := 1) hx hb dX7_faultOf_188 (by decide) ?_
            refine lv_iadd hx hb dX7_faultOf_189 ?_
            refine W.eq (g2 := F0 mm 190 ls [.int (nI (R + 1)), .ref m0]) (congrArg (fun z9 => F0 mm 190 ls [.int z9, .ref m0]) (show ((nI R) + 1 : Int32) = nI (R + 1) from nI_1 _)) ?_
            refine k_put (pre := []) C0 hw hinX7 tyX7 tyX7_ok nmX7 rfl 11 (by decide) (hts (.fieldLink RX7 205 "SlabDunesModel" "textRows" "I") (by decide +kernel)) rfl rfl (ty := .int) (by decide +kernel) rfl rfl (Nat.le_of_ble_eq_true rfl) dX7_faultOf_190 (fun H locs hw => ?_)
            have hw : kW E AA sx (List.flatten [oc m0 7 [.ref A0, .ref V0, .ref Z0, .int sm, .int th, .int pl, .int hz, .ref D0, .ref W0, .ref T0, .int (nI m9), .int (nI (R + 1)), .int (nI c)], ac E T0 220 tb]) H locs := hw
            refine lv_iload_n hx hb dX7_faultOf_193 rfl (lv_at hl 0 rfl) ?_
            refine lv_if_eq (tgt := 201) hx hb dX7_faultOf_194 (by decide) (fun c194 => ?_) (fun c194 => absurd c194 (by decide))
            refine lv_aload_n hx hb dX7_faultOf_201 rfl (lv_at hl 2 rfl) ?_
            refine k_get (pre := []) C0 hw hinX7 rfl 10 (by decide) (hts (.fieldLink RX7 202 "SlabDunesModel" "textLong" "I") (by decide +kernel)) rfl rfl dX7_faultOf_202 ?_
            -- leaf 1
            exact k_iret C0 hr hlk hw (nI (R + 1), nI c) (rfl) (ep_lf (ep_e2 hEp (by omega)) (by omega)) (Nat.le_of_ble_eq_true rfl) (Nat.le_of_ble_eq_true rfl) dX7_faultOf_205
          · have c174 : i = c := (nI_eq (a := i) (b := c) (by omega) (by omega)).mp c174
            refine lv_iconst (v := 1) hx hb dX7_faultOf_177 (by decide) ?_
            refine lv_goto (tgt := 182) hx hb dX7_faultOf_178 (by decide) ?_
            refine lv_istore_n (lv' := [(2, .int 1), (1, .int (nI i)), (0, .ref m0)]) hx hb dX7_faultOf_182 rfl hl (by decide) rfl (fun ls hl => ?_)
            refine lv_aload_n hx hb dX7_faultOf_183 rfl (lv_at hl 2 rfl) ?_
            refine lv_dup hx hb dX7_faultOf_184 rfl ?_
            refine k_get (pre := []) C0 hw hinX7 rfl 11 (by decide) (hts (.fieldLink RX7 205 "SlabDunesModel" "textRows" "I") (by decide +kernel)) rfl rfl dX7_faultOf_185 ?_
            refine lv_iconst (v := 1) hx hb dX7_faultOf_188 (by decide) ?_
            refine lv_iadd hx hb dX7_faultOf_189 ?_
            refine W.eq (g2 := F0 mm 190 ls [.int (nI (R + 1)), .ref m0]) (congrArg (fun z9 => F0 mm 190 ls [.int z9, .ref m0]) (show ((nI R) + 1 : Int32) = nI (R + 1) from nI_1 _)) ?_
            refine k_put (pre := []) C0 hw hinX7 tyX7 tyX7_ok nmX7 rfl 11 (by decide) (hts (.fieldLink RX7 205 "SlabDunesModel" "textRows" "I") (by decide +kernel)) rfl rfl (ty := .int) (by decide +kernel) rfl rfl (Nat.le_of_ble_eq_true rfl) dX7_faultOf_190 (fun H locs hw => ?_)
            have hw : kW E AA sx (List.flatten [oc m0 7 [.ref A0, .ref V0, .ref Z0, .int sm, .int th, .int pl, .int hz, .ref D0, .ref W0, .ref T0, .int (nI m9), .int (nI (R + 1)), .int (nI c)], ac E T0 220 tb]) H locs := hw
            refine lv_iload_n hx hb dX7_faultOf_193 rfl (lv_at hl 0 rfl) ?_
            refine lv_if_eq (tgt := 201) hx hb dX7_faultOf_194 (by decide) (fun c194 => absurd c194 (by decide)) (fun c194 => ?_)
            refine lv_iconst (v := (-1)) hx hb dX7_faultOf_197 (by decide) ?_
            refine lv_goto (tgt := 205) hx hb dX7_faultOf_198 (by decide) ?_
            -- leaf 2
            exact k_iret C0 hr hlk hw (nI (R + 1), nI c) (rfl) (by obtain ⟨e1, e2, e3⟩ := ep_e1 hEp ⟨by omega, by omega⟩; exact ⟨e1.symm, fun _ => by rw [e2, e3]⟩) (Nat.le_of_ble_eq_true rfl) (Nat.le_of_ble_eq_true rfl) dX7_faultOf_205
      · have c19 : ¬ m9 ≤ p := fun h99 => c19 ((nI_leI (a := m9) (b := p) (by omega) (by omega)).mpr h99)
        obtain ⟨n9, hn9⟩ : ∃ n9, m9 - p = n9 + 1 := ⟨m9 - p - 1, by omega⟩
        rw [hn9] at hEp
        refine lv_aload_n hx hb dX7_faultOf_22 rfl (lv_at hl 2 rfl) ?_
        refine k_get (pre := []) C0 hw hinX7 rfl 11 (by decide) (hts (.fieldLink RX7 205 "SlabDunesModel" "textRows" "I") (by decide +kernel)) rfl rfl dX7_faultOf_23 ?_
        refine lv_if_ne (tgt := 33) hx hb dX7_faultOf_26 (by decide) (fun c26 => ?_) (fun c26 => ?_)
        · have c26 : ¬ R = 0 := fun h99 => c26 ((nI_eq (a := R) (b := 0) (by omega) (by omega)).mpr h99)
          refine lv_iconst (v := 0) hx hb dX7_faultOf_33 (by decide) ?_
          refine lv_istore_n (lv' := [(3, .int 0), (2, .int (nI p)), (1, .int (nI i)), (0, .ref m0)]) hx hb dX7_faultOf_34 rfl hl (by decide) rfl (fun ls hl => ?_)
          refine lv_aload_n hx hb dX7_faultOf_35 rfl (lv_at hl 3 rfl) ?_
          refine k_get (pre := []) C0 hw hinX7 rfl 9 (by decide) (hts (.fieldLink RX7 25 "SlabDunesModel" "text" "[I") (by decide +kernel)) rfl rfl dX7_faultOf_36 ?_
          refine lv_iload_n hx hb dX7_faultOf_39 rfl (lv_at hl 1 rfl) ?_
          refine k_iald (pre := [oc m0 7 [.ref A0, .ref V0, .ref Z0, .int sm, .int th, .int pl, .int hz, .ref D0, .ref W0, .ref T0, .int (nI m9), .int (nI R), .int (nI c)]]) (l1 := []) C0 hw (i := nI p) (kinN (by omega) (by decide)) dX7_faultOf_40 ?_
          refine W.eq (g2 := F0 mm 41 ls [.int (tb p)]) (congrArg (fun z9 => F0 mm 41 ls [.int z9]) (show (tb (Int32.toNatClampNeg (nI p)) : Int32) = tb p from by rw [nI_clamp (by omega)])) ?_
          refine lv_i2l (v := Int32.toInt64 (tb p)) hx hb dX7_faultOf_41 rfl ?_
          refine lv_ldc2 (v := 48) hx hb hown (hts (.constantLong RX7 211 48) (by decide +kernel)) dX7_faultOf_42 ?_
          refine lv_ldc2 (v := 57) hx hb hown (hts (.constantLong RX7 213 57) (by decide +kernel)) dX7_faultOf_45 ?_
          refine k_S (As := [.long (Int32.toInt64 (tb p)), .long 48, .long 57]) (rest := []) (pre := []) (mid := []) C0 (c_X7_in_48_57 l E (tb p) ) (va_cwS 3 hts gX7_faultOf_X7_in rfl rfl rfl (by decide +kernel) ⟨Nat.le_of_ble_eq_true rfl, Nat.le_of_ble_eq_true rfl⟩) hw rfl (fun _ => []) (fun _ => rfl) rfl hl.1 rfl (Nat.le_of_ble_eq_true rfl) dX7_faultOf_48 ⟨Nat.le_of_ble_eq_true rfl, Nat.le_of_ble_eq_true rfl⟩ (fun r u H locs hq99 hw => ?_)
          subst hq99
          have hw : kW E AA sx (List.flatten [oc m0 7 [.ref A0, .ref V0, .ref Z0, .int sm, .int th, .int pl, .int hz, .ref D0, .ref W0, .ref T0, .int (nI m9), .int (nI R), .int (nI c)], ac E T0 220 tb]) H locs := hw
          refine W.eq (g2 := F0 mm 51 ls [.int (if ¬ (tb p) < 48 ∧ ¬ 57 < (tb p) then 1 else 0)]) rfl ?_
          refine lv_if_eq (tgt := 79) hx hb dX7_faultOf_51 (by decide) (fun c51 => ?_) (fun c51 => ?_)
          · have c51 := kb10t c51
            refine lv_iload_n hx hb dX7_faultOf_79 rfl (lv_at hl 0 rfl) ?_
            refine lv_if_eq (tgt := 96) hx hb dX7_faultOf_80 (by decide) (fun c80 => ?_) (fun c80 => absurd c80 (by decide))
            refine lv_iload_n hx hb dX7_faultOf_96 rfl (lv_at hl 2 rfl) ?_
            refine lv_aload_n hx hb dX7_faultOf_97 rfl (lv_at hl 3 rfl) ?_
            refine k_get (pre := []) C0 hw hinX7 rfl 12 (by decide) (hts (.fieldLink RX7 208 "SlabDunesModel" "textColumns" "I") (by decide +kernel)) rfl rfl dX7_faultOf_98 ?_
            refine lv_icmp_ne (tgt := 108) hx hb dX7_faultOf_101 (by decide) (fun c101 => ?_) (fun c101 => ?_)
            · have c101 : ¬ i = c := fun h99 => c101 ((nI_eq (a := i) (b := c) (by omega) (by omega)).mpr h99)
              refine lv_iconst (v := 0) hx hb dX7_faultOf_108 (by decide) ?_
              refine lv_istore (lv' := [(4, .int 0), (3, .int 0), (2, .int (nI p)), (1, .int (nI i)), (0, .ref m0)]) hx hb dX7_faultOf_109 hl (by decide) rfl (fun ls hl => ?_)
              refine lv_aload_n hx hb dX7_faultOf_111 rfl (lv_at hl 4 rfl) ?_
              refine k_get (pre := []) C0 hw hinX7 rfl 9 (by decide) (hts (.fieldLink RX7 25 "SlabDunesModel" "text" "[I") (by decide +kernel)) rfl rfl dX7_faultOf_112 ?_
              refine lv_iload_n hx hb dX7_faultOf_115 rfl (lv_at hl 2 rfl) ?_
              refine k_iald (pre := [oc m0 7 [.ref A0, .ref V0, .ref Z0, .int sm, .int th, .int pl, .int hz, .ref D0, .ref W0, .ref T0, .int (nI m9), .int (nI R), .int (nI c)]]) (l1 := []) C0 hw (i := nI p) (kinN (by omega) (by decide)) dX7_faultOf_116 ?_
              refine W.eq (g2 := F0 mm 117 ls [.int (tb p)]) (congrArg (fun z9 => F0 mm 117 ls [.int z9]) (show (tb (Int32.toNatClampNeg (nI p)) : Int32) = tb p from by rw [nI_clamp (by omega)])) ?_
              refine lv_bipush (v := 47) hx hb dX7_faultOf_117 (by decide) ?_
              refine lv_icmp_ne (tgt := 136) hx hb dX7_faultOf_119 (by decide) (fun c119 => ?_) (fun c119 => ?_)
              · refine lv_iload_n hx hb dX7_faultOf_136 rfl (lv_at hl 2 rfl) ?_
                -- leaf 3
                exact k_iret C0 hr hlk hw (nI R, nI c) (rfl) (ep_lf (by first | exact ep_se1 hEp c51 c119 | exact ep_se2 hEp c51 c119 (by omega)) (by omega)) (Nat.le_of_ble_eq_true rfl) (Nat.le_of_ble_eq_true rfl) dX7_faultOf_137
              · refine lv_iload hx hb dX7_faultOf_122 (lv_at hl 0 rfl) ?_
                refine lv_if_eq (tgt := 136) hx hb dX7_faultOf_124 (by decide) (fun c124 => ?_) (fun c124 => absurd c124 (by decide))
                refine lv_iload_n hx hb dX7_faultOf_136 rfl (lv_at hl 2 rfl) ?_
                -- leaf 4
                exact k_iret C0 hr hlk hw (nI R, nI c) (rfl) (ep_lf (by first | exact ep_se1 hEp c51 c119 | exact ep_se2 hEp c51 c119 (by omega)) (by omega)) (Nat.le_of_ble_eq_true rfl) (Nat.le_of_ble_eq_true rfl) dX7_faultOf_137
            · have c101 : i = c := (nI_eq (a := i) (b := c) (by omega) (by omega)).mp c101
              refine lv_iconst (v := 1) hx hb dX7_faultOf_104 (by decide) ?_
              refine lv_goto (tgt := 109) hx hb dX7_faultOf_105 (by decide) ?_
              refine lv_istore (lv' := [(4, .int 1), (3, .int 0), (2, .int (nI p)), (1, .int (nI i)), (0, .ref m0)]) hx hb dX7_faultOf_109 hl (by decide) rfl (fun ls hl => ?_)
              refine lv_aload_n hx hb dX7_faultOf_111 rfl (lv_at hl 4 rfl) ?_
              refine k_get (pre := []) C0 hw hinX7 rfl 9 (by decide) (hts (.fieldLink RX7 25 "SlabDunesModel" "text" "[I") (by decide +kernel)) rfl rfl dX7_faultOf_112 ?_
              refine lv_iload_n hx hb dX7_faultOf_115 rfl (lv_at hl 2 rfl) ?_
              refine k_iald (pre := [oc m0 7 [.ref A0, .ref V0, .ref Z0, .int sm, .int th, .int pl, .int hz, .ref D0, .ref W0, .ref T0, .int (nI m9), .int (nI R), .int (nI c)]]) (l1 := []) C0 hw (i := nI p) (kinN (by omega) (by decide)) dX7_faultOf_116 ?_
              refine W.eq (g2 := F0 mm 117 ls [.int (tb p)]) (congrArg (fun z9 => F0 mm 117 ls [.int z9]) (show (tb (Int32.toNatClampNeg (nI p)) : Int32) = tb p from by rw [nI_clamp (by omega)])) ?_
              refine lv_bipush (v := 47) hx hb dX7_faultOf_117 (by decide) ?_
              refine lv_icmp_ne (tgt := 136) hx hb dX7_faultOf_119 (by decide) (fun c119 => ?_) (fun c119 => ?_)
              · refine lv_iload_n hx hb dX7_faultOf_136 rfl (lv_at hl 2 rfl) ?_
                -- leaf 5
                exact k_iret C0 hr hlk hw (nI R, nI c) (rfl) (ep_lf (by first | exact ep_se1 hEp c51 c119 | exact ep_se2 hEp c51 c119 (by omega)) (by omega)) (Nat.le_of_ble_eq_true rfl) (Nat.le_of_ble_eq_true rfl) dX7_faultOf_137
              · refine lv_iload hx hb dX7_faultOf_122 (lv_at hl 0 rfl) ?_
                refine lv_if_eq (tgt := 136) hx hb dX7_faultOf_124 (by decide) (fun c124 => absurd c124 (by decide)) (fun c124 => ?_)
                refine lv_aload_n hx hb dX7_faultOf_127 rfl (lv_at hl 4 rfl) ?_
                refine k_get (pre := []) C0 hw hinX7 rfl 11 (by decide) (hts (.fieldLink RX7 205 "SlabDunesModel" "textRows" "I") (by decide +kernel)) rfl rfl dX7_faultOf_128 ?_
                refine lv_bipush (v := 11) hx hb dX7_faultOf_131 (by decide) ?_
                refine lv_icmp_ne (tgt := 138) hx hb dX7_faultOf_133 (by decide) (fun c133 => ?_) (fun c133 => ?_)
                · have c133 : ¬ R = 11 := fun h99 => c133 ((nI_eq (a := R) (b := 11) (by omega) (by omega)).mpr h99)
                  refine lv_aload_n hx hb dX7_faultOf_138 rfl (lv_at hl 4 rfl) ?_
                  refine lv_iload_n hx hb dX7_faultOf_139 rfl (lv_at hl 3 rfl) ?_
                  refine k_put (pre := []) C0 hw hinX7 tyX7 tyX7_ok nmX7 rfl 12 (by decide) (hts (.fieldLink RX7 208 "SlabDunesModel" "textColumns" "I") (by decide +kernel)) rfl rfl (ty := .int) (by decide +kernel) rfl rfl (Nat.le_of_ble_eq_true rfl) dX7_faultOf_140 (fun H locs hw => ?_)
                  have hw : kW E AA sx (List.flatten [oc m0 7 [.ref A0, .ref V0, .ref Z0, .int sm, .int th, .int pl, .int hz, .ref D0, .ref W0, .ref T0, .int (nI m9), .int (nI R), .int (nI i)], ac E T0 220 tb]) H locs := hw
                  refine lv_aload_n hx hb dX7_faultOf_143 rfl (lv_at hl 4 rfl) ?_
                  refine lv_dup hx hb dX7_faultOf_144 rfl ?_
                  refine k_get (pre := []) C0 hw hinX7 rfl 11 (by decide) (hts (.fieldLink RX7 205 "SlabDunesModel" "textRows" "I") (by decide +kernel)) rfl rfl dX7_faultOf_145 ?_
                  refine lv_iconst (v := 1) hx hb dX7_faultOf_148 (by decide) ?_
                  refine lv_iadd hx hb dX7_faultOf_149 ?_
                  refine W.eq (g2 := F0 mm 150 ls [.int (nI (R + 1)), .ref m0]) (congrArg (fun z9 => F0 mm 150 ls [.int z9, .ref m0]) (show ((nI R) + 1 : Int32) = nI (R + 1) from nI_1 _)) ?_
                  refine k_put (pre := []) C0 hw hinX7 tyX7 tyX7_ok nmX7 rfl 11 (by decide) (hts (.fieldLink RX7 205 "SlabDunesModel" "textRows" "I") (by decide +kernel)) rfl rfl (ty := .int) (by decide +kernel) rfl rfl (Nat.le_of_ble_eq_true rfl) dX7_faultOf_150 (fun H locs hw => ?_)
                  have hw : kW E AA sx (List.flatten [oc m0 7 [.ref A0, .ref V0, .ref Z0, .int sm, .int th, .int pl, .int hz, .ref D0, .ref W0, .ref T0, .int (nI m9), .int (nI (R + 1)), .int (nI i)], ac E T0 220 tb]) H locs := hw
                  refine lv_iconst (v := 0) hx hb dX7_faultOf_153 (by decide) ?_
                  refine lv_istore_n (lv' := [(1, .int 0), (4, .int 1), (3, .int 0), (2, .int (nI p)), (0, .ref m0)]) hx hb dX7_faultOf_154 rfl hl (by decide) rfl (fun ls hl => ?_)
                  refine lv_iinc (v := nI (p + 1)) (lv' := [(2, .int (nI (p + 1))), (1, .int 0), (4, .int 1), (3, .int 0), (0, .ref m0)]) hx hb dX7_faultOf_155 hl (k := 3) rfl (nI_1 _) (by decide) rfl (fun ls hl => ?_)
                  refine lv_goto (tgt := 14) hx hb dX7_faultOf_158 (by decide) ?_
                  -- back 0
                  exact ih14 0 (p + 1) (R + 1) i (by first | assumption | omega) (by first | assumption | omega) (by first | assumption | omega) (by first | assumption | omega) (by rw [show m9 - (p + 1) = n9 by omega]; first | exact ep_d hEp c51 (by omega) | exact ep_s hEp c51 c119 (by omega) (by omega)) (by omega) H _ ls (lv_sub hl [0, 1, 4] rfl) hw
                · have c133 : R = 11 := (nI_eq (a := R) (b := 11) (by omega) (by omega)).mp c133
                  refine lv_iload_n hx hb dX7_faultOf_136 rfl (lv_at hl 2 rfl) ?_
                  -- leaf 6
                  exact k_iret C0 hr hlk hw (nI R, nI c) (rfl) (ep_lf (by first | exact ep_se1 hEp c51 c119 | exact ep_se2 hEp c51 c119 (by omega)) (by omega)) (Nat.le_of_ble_eq_true rfl) (Nat.le_of_ble_eq_true rfl) dX7_faultOf_137
          · have c51 := kb10f c51
            refine lv_iload_n hx hb dX7_faultOf_54 rfl (lv_at hl 2 rfl) ?_
            refine lv_iload_n hx hb dX7_faultOf_55 rfl (lv_at hl 0 rfl) ?_
            refine lv_if_eq (tgt := 64) hx hb dX7_faultOf_56 (by decide) (fun c56 => ?_) (fun c56 => absurd c56 (by decide))
            refine lv_aload_n hx hb dX7_faultOf_64 rfl (lv_at hl 3 rfl) ?_
            refine k_get (pre := []) C0 hw hinX7 rfl 12 (by decide) (hts (.fieldLink RX7 208 "SlabDunesModel" "textColumns" "I") (by decide +kernel)) rfl rfl dX7_faultOf_65 ?_
            refine lv_icmp_ne (tgt := 73) hx hb dX7_faultOf_68 (by decide) (fun c68 => ?_) (fun c68 => ?_)
            · have c68 : ¬ i = c := fun h99 => c68 ((nI_eq (a := i) (b := c) (by omega) (by omega)).mpr h99)
              refine lv_iinc (v := nI (i + 1)) (lv' := [(1, .int (nI (i + 1))), (3, .int 0), (2, .int (nI p)), (0, .ref m0)]) hx hb dX7_faultOf_73 hl (k := 2) rfl (nI_1 _) (by decide) rfl (fun ls hl => ?_)
              refine lv_goto (tgt := 155) hx hb dX7_faultOf_76 (by decide) ?_
              refine lv_iinc (v := nI (p + 1)) (lv' := [(2, .int (nI (p + 1))), (1, .int (nI (i + 1))), (3, .int 0), (0, .ref m0)]) hx hb dX7_faultOf_155 hl (k := 2) rfl (nI_1 _) (by decide) rfl (fun ls hl => ?_)
              refine lv_goto (tgt := 14) hx hb dX7_faultOf_158 (by decide) ?_
              -- back 1
              exact ih14 (i + 1) (p + 1) R c (by first | assumption | omega) (by first | assumption | omega) (by first | assumption | omega) (by first | assumption | omega) (by rw [show m9 - (p + 1) = n9 by omega]; first | exact ep_d hEp c51 (by omega) | exact ep_s hEp c51 c119 (by omega) (by omega)) (by omega) H _ ls (lv_sub hl [0, 1, 3] rfl) hw
            · have c68 : i = c := (nI_eq (a := i) (b := c) (by omega) (by omega)).mp c68
              refine lv_iload_n hx hb dX7_faultOf_71 rfl (lv_at hl 1 rfl) ?_
              -- leaf 7
              exact k_iret C0 hr hlk hw (nI R, nI c) (rfl) (ep_lf (ep_de hEp c51 (by omega)) (by omega)) (Nat.le_of_ble_eq_true rfl) (Nat.le_of_ble_eq_true rfl) dX7_faultOf_72
        · have c26 : R = 0 := (nI_eq (a := R) (b := 0) (by omega) (by omega)).mp c26
          refine lv_iconst (v := 1) hx hb dX7_faultOf_29 (by decide) ?_
          refine lv_goto (tgt := 34) hx hb dX7_faultOf_30 (by decide) ?_
          refine lv_istore_n (lv' := [(3, .int 1), (2, .int (nI p)), (1, .int (nI i)), (0, .ref m0)]) hx hb dX7_faultOf_34 rfl hl (by decide) rfl (fun ls hl => ?_)
          refine lv_aload_n hx hb dX7_faultOf_35 rfl (lv_at hl 3 rfl) ?_
          refine k_get (pre := []) C0 hw hinX7 rfl 9 (by decide) (hts (.fieldLink RX7 25 "SlabDunesModel" "text" "[I") (by decide +kernel)) rfl rfl dX7_faultOf_36 ?_
          refine lv_iload_n hx hb dX7_faultOf_39 rfl (lv_at hl 1 rfl) ?_
          refine k_iald (pre := [oc m0 7 [.ref A0, .ref V0, .ref Z0, .int sm, .int th, .int pl, .int hz, .ref D0, .ref W0, .ref T0, .int (nI m9), .int (nI R), .int (nI c)]]) (l1 := []) C0 hw (i := nI p) (kinN (by omega) (by decide)) dX7_faultOf_40 ?_
          refine W.eq (g2 := F0 mm 41 ls [.int (tb p)]) (congrArg (fun z9 => F0 mm 41 ls [.int z9]) (show (tb (Int32.toNatClampNeg (nI p)) : Int32) = tb p from by rw [nI_clamp (by omega)])) ?_
          refine lv_i2l (v := Int32.toInt64 (tb p)) hx hb dX7_faultOf_41 rfl ?_
          refine lv_ldc2 (v := 48) hx hb hown (hts (.constantLong RX7 211 48) (by decide +kernel)) dX7_faultOf_42 ?_
          refine lv_ldc2 (v := 57) hx hb hown (hts (.constantLong RX7 213 57) (by decide +kernel)) dX7_faultOf_45 ?_
          refine k_S (As := [.long (Int32.toInt64 (tb p)), .long 48, .long 57]) (rest := []) (pre := []) (mid := []) C0 (c_X7_in_48_57 l E (tb p) ) (va_cwS 3 hts gX7_faultOf_X7_in rfl rfl rfl (by decide +kernel) ⟨Nat.le_of_ble_eq_true rfl, Nat.le_of_ble_eq_true rfl⟩) hw rfl (fun _ => []) (fun _ => rfl) rfl hl.1 rfl (Nat.le_of_ble_eq_true rfl) dX7_faultOf_48 ⟨Nat.le_of_ble_eq_true rfl, Nat.le_of_ble_eq_true rfl⟩ (fun r u H locs hq99 hw => ?_)
          subst hq99
          have hw : kW E AA sx (List.flatten [oc m0 7 [.ref A0, .ref V0, .ref Z0, .int sm, .int th, .int pl, .int hz, .ref D0, .ref W0, .ref T0, .int (nI m9), .int (nI R), .int (nI c)], ac E T0 220 tb]) H locs := hw
          refine W.eq (g2 := F0 mm 51 ls [.int (if ¬ (tb p) < 48 ∧ ¬ 57 < (tb p) then 1 else 0)]) rfl ?_
          refine lv_if_eq (tgt := 79) hx hb dX7_faultOf_51 (by decide) (fun c51 => ?_) (fun c51 => ?_)
          · have c51 := kb10t c51
            refine lv_iload_n hx hb dX7_faultOf_79 rfl (lv_at hl 0 rfl) ?_
            refine lv_if_eq (tgt := 96) hx hb dX7_faultOf_80 (by decide) (fun c80 => absurd c80 (by decide)) (fun c80 => ?_)
            refine lv_iload_n hx hb dX7_faultOf_83 rfl (lv_at hl 2 rfl) ?_
            refine lv_iconst (v := 3) hx hb dX7_faultOf_84 (by decide) ?_
            refine lv_icmp_lt (tgt := 92) hx hb dX7_faultOf_85 (by decide) (fun c85 => ?_) (fun c85 => ?_)
            · have c85 : i < 3 := (nI_ltI (a := i) (b := 3) (by omega) (by omega)).mp c85
              refine lv_iconst (v := 0) hx hb dX7_faultOf_92 (by decide) ?_
              refine lv_goto (tgt := 109) hx hb dX7_faultOf_93 (by decide) ?_
              refine lv_istore (lv' := [(4, .int 0), (3, .int 1), (2, .int (nI p)), (1, .int (nI i)), (0, .ref m0)]) hx hb dX7_faultOf_109 hl (by decide) rfl (fun ls hl => ?_)
              refine lv_aload_n hx hb dX7_faultOf_111 rfl (lv_at hl 4 rfl) ?_
              refine k_get (pre := []) C0 hw hinX7 rfl 9 (by decide) (hts (.fieldLink RX7 25 "SlabDunesModel" "text" "[I") (by decide +kernel)) rfl rfl dX7_faultOf_112 ?_
              refine lv_iload_n hx hb dX7_faultOf_115 rfl (lv_at hl 2 rfl) ?_
              refine k_iald (pre := [oc m0 7 [.ref A0, .ref V0, .ref Z0, .int sm, .int th, .int pl, .int hz, .ref D0, .ref W0, .ref T0, .int (nI m9), .int (nI R), .int (nI c)]]) (l1 := []) C0 hw (i := nI p) (kinN (by omega) (by decide)) dX7_faultOf_116 ?_
              refine W.eq (g2 := F0 mm 117 ls [.int (tb p)]) (congrArg (fun z9 => F0 mm 117 ls [.int z9]) (show (tb (Int32.toNatClampNeg (nI p)) : Int32) = tb p from by rw [nI_clamp (by omega)])) ?_
              refine lv_bipush (v := 47) hx hb dX7_faultOf_117 (by decide) ?_
              refine lv_icmp_ne (tgt := 136) hx hb dX7_faultOf_119 (by decide) (fun c119 => ?_) (fun c119 => ?_)
              · refine lv_iload_n hx hb dX7_faultOf_136 rfl (lv_at hl 2 rfl) ?_
                -- leaf 8
                exact k_iret C0 hr hlk hw (nI R, nI c) (rfl) (ep_lf (by first | exact ep_se1 hEp c51 c119 | exact ep_se2 hEp c51 c119 (by omega)) (by omega)) (Nat.le_of_ble_eq_true rfl) (Nat.le_of_ble_eq_true rfl) dX7_faultOf_137
              · refine lv_iload hx hb dX7_faultOf_122 (lv_at hl 0 rfl) ?_
                refine lv_if_eq (tgt := 136) hx hb dX7_faultOf_124 (by decide) (fun c124 => ?_) (fun c124 => absurd c124 (by decide))
                refine lv_iload_n hx hb dX7_faultOf_136 rfl (lv_at hl 2 rfl) ?_
                -- leaf 9
                exact k_iret C0 hr hlk hw (nI R, nI c) (rfl) (ep_lf (by first | exact ep_se1 hEp c51 c119 | exact ep_se2 hEp c51 c119 (by omega)) (by omega)) (Nat.le_of_ble_eq_true rfl) (Nat.le_of_ble_eq_true rfl) dX7_faultOf_137
            · have c85 : ¬ i < 3 := fun h99 => c85 ((nI_ltI (a := i) (b := 3) (by omega) (by omega)).mpr h99)
              refine lv_iconst (v := 1) hx hb dX7_faultOf_88 (by decide) ?_
              refine lv_goto (tgt := 109) hx hb dX7_faultOf_89 (by decide) ?_
              refine lv_istore (lv' := [(4, .int 1), (3, .int 1), (2, .int (nI p)), (1, .int (nI i)), (0, .ref m0)]) hx hb dX7_faultOf_109 hl (by decide) rfl (fun ls hl => ?_)
              refine lv_aload_n hx hb dX7_faultOf_111 rfl (lv_at hl 4 rfl) ?_
              refine k_get (pre := []) C0 hw hinX7 rfl 9 (by decide) (hts (.fieldLink RX7 25 "SlabDunesModel" "text" "[I") (by decide +kernel)) rfl rfl dX7_faultOf_112 ?_
              refine lv_iload_n hx hb dX7_faultOf_115 rfl (lv_at hl 2 rfl) ?_
              refine k_iald (pre := [oc m0 7 [.ref A0, .ref V0, .ref Z0, .int sm, .int th, .int pl, .int hz, .ref D0, .ref W0, .ref T0, .int (nI m9), .int (nI R), .int (nI c)]]) (l1 := []) C0 hw (i := nI p) (kinN (by omega) (by decide)) dX7_faultOf_116 ?_
              refine W.eq (g2 := F0 mm 117 ls [.int (tb p)]) (congrArg (fun z9 => F0 mm 117 ls [.int z9]) (show (tb (Int32.toNatClampNeg (nI p)) : Int32) = tb p from by rw [nI_clamp (by omega)])) ?_
              refine lv_bipush (v := 47) hx hb dX7_faultOf_117 (by decide) ?_
              refine lv_icmp_ne (tgt := 136) hx hb dX7_faultOf_119 (by decide) (fun c119 => ?_) (fun c119 => ?_)
              · refine lv_iload_n hx hb dX7_faultOf_136 rfl (lv_at hl 2 rfl) ?_
                -- leaf 10
                exact k_iret C0 hr hlk hw (nI R, nI c) (rfl) (ep_lf (by first | exact ep_se1 hEp c51 c119 | exact ep_se2 hEp c51 c119 (by omega)) (by omega)) (Nat.le_of_ble_eq_true rfl) (Nat.le_of_ble_eq_true rfl) dX7_faultOf_137
              · refine lv_iload hx hb dX7_faultOf_122 (lv_at hl 0 rfl) ?_
                refine lv_if_eq (tgt := 136) hx hb dX7_faultOf_124 (by decide) (fun c124 => absurd c124 (by decide)) (fun c124 => ?_)
                refine lv_aload_n hx hb dX7_faultOf_127 rfl (lv_at hl 4 rfl) ?_
                refine k_get (pre := []) C0 hw hinX7 rfl 11 (by decide) (hts (.fieldLink RX7 205 "SlabDunesModel" "textRows" "I") (by decide +kernel)) rfl rfl dX7_faultOf_128 ?_
                refine lv_bipush (v := 11) hx hb dX7_faultOf_131 (by decide) ?_
                refine lv_icmp_ne (tgt := 138) hx hb dX7_faultOf_133 (by decide) (fun c133 => ?_) (fun c133 => ?_)
                · have c133 : ¬ R = 11 := fun h99 => c133 ((nI_eq (a := R) (b := 11) (by omega) (by omega)).mpr h99)
                  refine lv_aload_n hx hb dX7_faultOf_138 rfl (lv_at hl 4 rfl) ?_
                  refine lv_iload_n hx hb dX7_faultOf_139 rfl (lv_at hl 3 rfl) ?_
                  refine k_put (pre := []) C0 hw hinX7 tyX7 tyX7_ok nmX7 rfl 12 (by decide) (hts (.fieldLink RX7 208 "SlabDunesModel" "textColumns" "I") (by decide +kernel)) rfl rfl (ty := .int) (by decide +kernel) rfl rfl (Nat.le_of_ble_eq_true rfl) dX7_faultOf_140 (fun H locs hw => ?_)
                  have hw : kW E AA sx (List.flatten [oc m0 7 [.ref A0, .ref V0, .ref Z0, .int sm, .int th, .int pl, .int hz, .ref D0, .ref W0, .ref T0, .int (nI m9), .int (nI R), .int (nI i)], ac E T0 220 tb]) H locs := hw
                  refine lv_aload_n hx hb dX7_faultOf_143 rfl (lv_at hl 4 rfl) ?_
                  refine lv_dup hx hb dX7_faultOf_144 rfl ?_
                  refine k_get (pre := []) C0 hw hinX7 rfl 11 (by decide) (hts (.fieldLink RX7 205 "SlabDunesModel" "textRows" "I") (by decide +kernel)) rfl rfl dX7_faultOf_145 ?_
                  refine lv_iconst (v := 1) hx hb dX7_faultOf_148 (by decide) ?_
                  refine lv_iadd hx hb dX7_faultOf_149 ?_
                  refine W.eq (g2 := F0 mm 150 ls [.int (nI (R + 1)), .ref m0]) (congrArg (fun z9 => F0 mm 150 ls [.int z9, .ref m0]) (show ((nI R) + 1 : Int32) = nI (R + 1) from nI_1 _)) ?_
                  refine k_put (pre := []) C0 hw hinX7 tyX7 tyX7_ok nmX7 rfl 11 (by decide) (hts (.fieldLink RX7 205 "SlabDunesModel" "textRows" "I") (by decide +kernel)) rfl rfl (ty := .int) (by decide +kernel) rfl rfl (Nat.le_of_ble_eq_true rfl) dX7_faultOf_150 (fun H locs hw => ?_)
                  have hw : kW E AA sx (List.flatten [oc m0 7 [.ref A0, .ref V0, .ref Z0, .int sm, .int th, .int pl, .int hz, .ref D0, .ref W0, .ref T0, .int (nI m9), .int (nI (R + 1)), .int (nI i)], ac E T0 220 tb]) H locs := hw
                  refine lv_iconst (v := 0) hx hb dX7_faultOf_153 (by decide) ?_
                  refine lv_istore_n (lv' := [(1, .int 0), (4, .int 1), (3, .int 1), (2, .int (nI p)), (0, .ref m0)]) hx hb dX7_faultOf_154 rfl hl (by decide) rfl (fun ls hl => ?_)
                  refine lv_iinc (v := nI (p + 1)) (lv' := [(2, .int (nI (p + 1))), (1, .int 0), (4, .int 1), (3, .int 1), (0, .ref m0)]) hx hb dX7_faultOf_155 hl (k := 3) rfl (nI_1 _) (by decide) rfl (fun ls hl => ?_)
                  refine lv_goto (tgt := 14) hx hb dX7_faultOf_158 (by decide) ?_
                  -- back 2
                  exact ih14 0 (p + 1) (R + 1) i (by first | assumption | omega) (by first | assumption | omega) (by first | assumption | omega) (by first | assumption | omega) (by rw [show m9 - (p + 1) = n9 by omega]; first | exact ep_d hEp c51 (by omega) | exact ep_s hEp c51 c119 (by omega) (by omega)) (by omega) H _ ls (lv_sub hl [0, 1, 4] rfl) hw
                · have c133 : R = 11 := (nI_eq (a := R) (b := 11) (by omega) (by omega)).mp c133
                  refine lv_iload_n hx hb dX7_faultOf_136 rfl (lv_at hl 2 rfl) ?_
                  -- leaf 11
                  exact k_iret C0 hr hlk hw (nI R, nI c) (rfl) (ep_lf (by first | exact ep_se1 hEp c51 c119 | exact ep_se2 hEp c51 c119 (by omega)) (by omega)) (Nat.le_of_ble_eq_true rfl) (Nat.le_of_ble_eq_true rfl) dX7_faultOf_137
          · have c51 := kb10f c51
            refine lv_iload_n hx hb dX7_faultOf_54 rfl (lv_at hl 2 rfl) ?_
            refine lv_iload_n hx hb dX7_faultOf_55 rfl (lv_at hl 0 rfl) ?_
            refine lv_if_eq (tgt := 64) hx hb dX7_faultOf_56 (by decide) (fun c56 => absurd c56 (by decide)) (fun c56 => ?_)
            refine lv_bipush (v := 16) hx hb dX7_faultOf_59 (by decide) ?_
            refine lv_goto (tgt := 68) hx hb dX7_faultOf_61 (by decide) ?_
            refine lv_icmp_ne (tgt := 73) hx hb dX7_faultOf_68 (by decide) (fun c68 => ?_) (fun c68 => ?_)
            · have c68 : ¬ i = 16 := fun h99 => c68 ((nI_eq (a := i) (b := 16) (by omega) (by omega)).mpr h99)
              refine lv_iinc (v := nI (i + 1)) (lv' := [(1, .int (nI (i + 1))), (3, .int 1), (2, .int (nI p)), (0, .ref m0)]) hx hb dX7_faultOf_73 hl (k := 2) rfl (nI_1 _) (by decide) rfl (fun ls hl => ?_)
              refine lv_goto (tgt := 155) hx hb dX7_faultOf_76 (by decide) ?_
              refine lv_iinc (v := nI (p + 1)) (lv' := [(2, .int (nI (p + 1))), (1, .int (nI (i + 1))), (3, .int 1), (0, .ref m0)]) hx hb dX7_faultOf_155 hl (k := 2) rfl (nI_1 _) (by decide) rfl (fun ls hl => ?_)
              refine lv_goto (tgt := 14) hx hb dX7_faultOf_158 (by decide) ?_
              -- back 3
              exact ih14 (i + 1) (p + 1) R c (by first | assumption | omega) (by first | assumption | omega) (by first | assumption | omega) (by first | assumption | omega) (by rw [show m9 - (p + 1) = n9 by omega]; first | exact ep_d hEp c51 (by omega) | exact ep_s hEp c51 c119 (by omega) (by omega)) (by omega) H _ ls (lv_sub hl [0, 1, 3] rfl) hw
            · have c68 : i = 16 := (nI_eq (a := i) (b := 16) (by omega) (by omega)).mp c68
              refine lv_iload_n hx hb dX7_faultOf_71 rfl (lv_at hl 1 rfl) ?_
              -- leaf 12
              exact k_iret C0 hr hlk hw (nI R, nI c) (rfl) (ep_lf (ep_de hEp c51 (by omega)) (by omega)) (Nat.le_of_ble_eq_true rfl) (Nat.le_of_ble_eq_true rfl) dX7_faultOf_72
  exact loop14 ((m9 - 0) + 1) 0 0 0 0 (by first | assumption | omega) (by first | assumption | omega) (by first | assumption | omega) (by first | assumption | omega) (hE) (Nat.lt_succ_self _) H _ ls (lv_sub hl [0, 1, 2] rfl) hw

abbrev rmX7_parse : Room := { frames := 2, cells := 0, slots := 0, locals := 49 }
set_option maxHeartbeats 4000000 in
set_option maxRecDepth 100000 in
theorem c_X7_parse_err (l : Launch) (E : kE) (m0 : Nat) (A0 : Nat) (V0 : Nat) (Z0 : Nat) (D0 : Nat) (W0 : Nat) (T0 : Nat) (sm : Int32) (th : Int32) (pl : Int32) (hz : Int32) (tw : Int32) (tc : Int32) (tb : Nat → Int32) (m9 : Nat) (x8 : Int32) (r2 : Nat) (c2 : Nat) (hm9 : m9 ≤ 220) (hE : epL tb m9 m9 1 0 0 0 = (x8, (r2, c2))) (hne : ¬ x8 = -1) : kC E l yX7_parse wsX7_parse rmX7_parse [.ref m0] (List.flatten [oc m0 7 [.ref A0, .ref V0, .ref Z0, .int sm, .int th, .int pl, .int hz, .ref D0, .ref W0, .ref T0, .int (nI m9), .int tw, .int tc], ac E T0 220 tb]) kI (fun (r : Int32) (u : Int32 × Int32) => r = (-10) - x8) (fun (u : Int32 × Int32) => List.flatten [oc m0 7 [.ref A0, .ref V0, .ref Z0, .int sm, .int 0, .int pl, .int hz, .ref D0, .ref W0, .ref T0, .int (nI m9), .int u.1, .int u.2], ac E T0 220 tb]) 0 0 := by
  refine k_body (cc := cX7_parse) (maxL := 4) (ret := (some .int)) (by decide) rfl (Nat.le_of_ble_eq_true rfl) ?_
  intro pp ee sx mm aa bb me cd H locs AA ls C0 hr hlk hnm hl hw
  obtain ⟨hx, hb, hml, hown, hts⟩ := id C0
  have hl : lv_has ls 4 [(0, .ref m0)] := hl
  have hw : kW E AA sx (List.flatten [oc m0 7 [.ref A0, .ref V0, .ref Z0, .int sm, .int th, .int pl, .int hz, .ref D0, .ref W0, .ref T0, .int (nI m9), .int tw, .int tc], ac E T0 220 tb]) H locs := hw
  have hinX7 : ∀ w ∈ u_ws RX7 TX7 13, w ∈ wsX7_parse := by decide +kernel
  refine lv_aload_n hx hb dX7_parse_0 rfl (lv_at hl 0 rfl) ?_
  refine lv_iconst (v := 0) hx hb dX7_parse_1 (by decide) ?_
  refine k_put (pre := []) C0 hw hinX7 tyX7 tyX7_ok nmX7 rfl 4 (by decide) (hts (.fieldLink RX7 32 "SlabDunesModel" "thrown" "I") (by decide +kernel)) rfl rfl (ty := .int) (by decide +kernel) rfl rfl (Nat.le_of_ble_eq_true rfl) dX7_parse_2 (fun H locs hw => ?_)
  have hw : kW E AA sx (List.flatten [oc m0 7 [.ref A0, .ref V0, .ref Z0, .int sm, .int 0, .int pl, .int hz, .ref D0, .ref W0, .ref T0, .int (nI m9), .int tw, .int tc], ac E T0 220 tb]) H locs := hw
  refine lv_aload_n hx hb dX7_parse_5 rfl (lv_at hl 0 rfl) ?_
  refine k_V (As := []) (rest := []) (pre := []) (mid := [oc m0 7 [.ref A0, .ref V0, .ref Z0, .int sm, .int 0, .int pl, .int hz, .ref D0, .ref W0, .ref T0, .int (nI m9), .int tw, .int tc], ac E T0 220 tb]) C0 (c_X7_faultOf l E m0 A0 V0 Z0 D0 W0 T0 sm 0 pl hz tw tc tb m9 x8 r2 c2 (by first | assumption | omega) (by first | assumption | omega)) (cwV 0 hts gX7_parse_X7_faultOf rfl rfl rfl (by decide +kernel) ⟨Nat.le_of_ble_eq_true rfl, Nat.le_of_ble_eq_true rfl⟩) hw rfl (fun (u6 : Int32 × Int32) => [oc m0 7 [.ref A0, .ref V0, .ref Z0, .int sm, .int 0, .int pl, .int hz, .ref D0, .ref W0, .ref T0, .int (nI m9), .int u6.1, .int u6.2], ac E T0 220 tb]) (fun _ => rfl) 0 7 rfl rfl rfl rfl hl.1 rfl (Nat.le_of_ble_eq_true rfl) dX7_parse_6 ⟨Nat.le_of_ble_eq_true rfl, Nat.le_of_ble_eq_true rfl⟩ (fun r u6 H locs hq99 hw => ?_)
  obtain ⟨r6, rfl⟩ : ∃ z, z = r := ⟨_, rfl⟩
  have h6 : r6 = x8 ∧ (x8 = (-1 : Int32) → u6 = (nI r2, nI c2)) := hq99
  have hw : kW E AA sx (List.flatten [oc m0 7 [.ref A0, .ref V0, .ref Z0, .int sm, .int 0, .int pl, .int hz, .ref D0, .ref W0, .ref T0, .int (nI m9), .int u6.1, .int u6.2], ac E T0 220 tb]) H locs := hw
  refine W.eq (g2 := F0 mm 9 ls [.int r6]) rfl ?_
  refine lv_istore_n (lv' := [(1, .int r6), (0, .ref m0)]) hx hb dX7_parse_9 rfl hl (by decide) rfl (fun ls hl => ?_)
  refine lv_iload_n hx hb dX7_parse_10 rfl (lv_at hl 0 rfl) ?_
  refine lv_iconst (v := (-1)) hx hb dX7_parse_11 (by decide) ?_
  refine lv_icmp_eq (tgt := 20) hx hb dX7_parse_12 (by decide) (fun c12 => absurd c12 (by rw [h6.1]; exact hne)) (fun c12 => ?_)
  refine lv_bipush (v := (-10)) hx hb dX7_parse_15 (by decide) ?_
  refine lv_iload_n hx hb dX7_parse_17 rfl (lv_at hl 0 rfl) ?_
  refine lv_isub hx hb dX7_parse_18 ?_
  -- leaf 0
  exact k_iret C0 hr hlk hw u6 (rfl) (by rw [h6.1]) (Nat.le_of_ble_eq_true rfl) (Nat.le_of_ble_eq_true rfl) dX7_parse_19

set_option maxHeartbeats 4000000 in
set_option maxRecDepth 100000 in
theorem c_X7_parse_ok (l : Launch) (E : kE) (m0 : Nat) (A0 : Nat) (V0 : Nat) (Z0 : Nat) (D0 : Nat) (W0 : Nat) (T0 : Nat) (th : Int32) (pl : Int32) (hz : Int32) (tw : Int32) (tc : Int32) (h : Nat) (w : Nat) (k9 : Nat) (wd : Int32) (s0 : Int32) (z : Int32) (st : Nat → Int32) (he : Nat → Int32) (ke : Nat → Int32) (tu : Nat → Int32) (ca : Nat → Int32) (tr : Nat → Int32) (co : Nat → Int32) (la : Nat → Int32) (V : Nat → Int32) (tb : Nat → Int32) (m9 : Nat) (r2 : Nat) (c2 : Nat) (hm9 : m9 ≤ 220) (hE : epL tb m9 m9 1 0 0 0 = (-1, (r2, c2))) (hG8 : kG r2 c2) (hk9 : k9 ≤ 4) : kC E l yX7_parse wsX7_parse rmX7_parse [.ref m0] (List.flatten [oc m0 7 [.ref A0, .ref V0, .ref Z0, .int (nI k9), .int th, .int pl, .int hz, .ref D0, .ref W0, .ref T0, .int (nI m9), .int tw, .int tc], ac E A0 985 (mA h w wd s0 z st he ke tu ca tr co la), ac E V0 3940 V, ac E T0 220 tb]) kI (fun (r : Int32) (_ : Unit) => r = nI (r2 * c2)) (fun _ => List.flatten [oc m0 7 [.ref A0, .ref V0, .ref Z0, .int (nI (svK k9)), .int 0, .int pl, .int hz, .ref D0, .ref W0, .ref T0, .int (nI m9), .int (nI r2), .int (nI c2)], ac E A0 985 (mA r2 c2 wd s0 0 st (prH tb c2 (r2 * c2)) (prH tb c2 (r2 * c2)) (fun _ => 0) (fun _ => (-1)) (fun _ => 0) (fun _ => 0) (fun _ => (-1))), ac E V0 3940 (svA V (mA h w wd s0 z st he ke tu ca tr co la) k9), ac E T0 220 tb]) 0 0 := by
  refine k_body (cc := cX7_parse) (maxL := 4) (ret := (some .int)) (by decide) rfl (Nat.le_of_ble_eq_true rfl) ?_
  intro pp ee sx mm aa bb me cd H locs AA ls C0 hr hlk hnm hl hw
  obtain ⟨hx, hb, hml, hown, hts⟩ := id C0
  have hl : lv_has ls 4 [(0, .ref m0)] := hl
  have hw : kW E AA sx (List.flatten [oc m0 7 [.ref A0, .ref V0, .ref Z0, .int (nI k9), .int th, .int pl, .int hz, .ref D0, .ref W0, .ref T0, .int (nI m9), .int tw, .int tc], ac E A0 985 (mA h w wd s0 z st he ke tu ca tr co la), ac E V0 3940 V, ac E T0 220 tb]) H locs := hw
  have hinX7 : ∀ w ∈ u_ws RX7 TX7 13, w ∈ wsX7_parse := by decide +kernel
  have hn9 := kG_n hG8
  have hok := epL_ok0 (by omega) hE
  obtain ⟨hG81, hG82, hG83, hG84⟩ := id hG8
  refine lv_aload_n hx hb dX7_parse_0 rfl (lv_at hl 0 rfl) ?_
  refine lv_iconst (v := 0) hx hb dX7_parse_1 (by decide) ?_
  refine k_put (pre := []) C0 hw hinX7 tyX7 tyX7_ok nmX7 rfl 4 (by decide) (hts (.fieldLink RX7 32 "SlabDunesModel" "thrown" "I") (by decide +kernel)) rfl rfl (ty := .int) (by decide +kernel) rfl rfl (Nat.le_of_ble_eq_true rfl) dX7_parse_2 (fun H locs hw => ?_)
  have hw : kW E AA sx (List.flatten [oc m0 7 [.ref A0, .ref V0, .ref Z0, .int (nI k9), .int 0, .int pl, .int hz, .ref D0, .ref W0, .ref T0, .int (nI m9), .int tw, .int tc], ac E A0 985 (mA h w wd s0 z st he ke tu ca tr co la), ac E V0 3940 V, ac E T0 220 tb]) H locs := hw
  refine lv_aload_n hx hb dX7_parse_5 rfl (lv_at hl 0 rfl) ?_
  have hw : kW E AA sx (List.flatten [ac E T0 220 tb, oc m0 7 [.ref A0, .ref V0, .ref Z0, .int (nI k9), .int 0, .int pl, .int hz, .ref D0, .ref W0, .ref T0, .int (nI m9), .int tw, .int tc], ac E A0 985 (mA h w wd s0 z st he ke tu ca tr co la), ac E V0 3940 V]) H locs := kW.front (pre := [oc m0 7 [.ref A0, .ref V0, .ref Z0, .int (nI k9), .int 0, .int pl, .int hz, .ref D0, .ref W0, .ref T0, .int (nI m9), .int tw, .int tc], ac E A0 985 (mA h w wd s0 z st he ke tu ca tr co la), ac E V0 3940 V]) hw
  have hw : kW E AA sx (List.flatten [oc m0 7 [.ref A0, .ref V0, .ref Z0, .int (nI k9), .int 0, .int pl, .int hz, .ref D0, .ref W0, .ref T0, .int (nI m9), .int tw, .int tc], ac E T0 220 tb, ac E A0 985 (mA h w wd s0 z st he ke tu ca tr co la), ac E V0 3940 V]) H locs := kW.front (pre := [ac E T0 220 tb]) hw
  refine k_V (As := []) (rest := []) (pre := []) (mid := [oc m0 7 [.ref A0, .ref V0, .ref Z0, .int (nI k9), .int 0, .int pl, .int hz, .ref D0, .ref W0, .ref T0, .int (nI m9), .int tw, .int tc], ac E T0 220 tb]) C0 (c_X7_faultOf l E m0 A0 V0 Z0 D0 W0 T0 (nI k9) 0 pl hz tw tc tb m9 (-1) r2 c2 (by first | assumption | omega) (by first | assumption | omega)) (cwV 0 hts gX7_parse_X7_faultOf rfl rfl rfl (by decide +kernel) ⟨Nat.le_of_ble_eq_true rfl, Nat.le_of_ble_eq_true rfl⟩) hw rfl (fun (u6 : Int32 × Int32) => [oc m0 7 [.ref A0, .ref V0, .ref Z0, .int (nI k9), .int 0, .int pl, .int hz, .ref D0, .ref W0, .ref T0, .int (nI m9), .int u6.1, .int u6.2], ac E T0 220 tb]) (fun _ => rfl) 0 7 rfl rfl rfl rfl hl.1 rfl (Nat.le_of_ble_eq_true rfl) dX7_parse_6 ⟨Nat.le_of_ble_eq_true rfl, Nat.le_of_ble_eq_true rfl⟩ (fun r u6 H locs hq99 hw => ?_)
  obtain ⟨r6, rfl⟩ : ∃ z, z = r := ⟨_, rfl⟩
  have h6 : r6 = (-1) ∧ ((-1) = (-1 : Int32) → u6 = (nI r2, nI c2)) := hq99
  have hw : kW E AA sx (List.flatten [oc m0 7 [.ref A0, .ref V0, .ref Z0, .int (nI k9), .int 0, .int pl, .int hz, .ref D0, .ref W0, .ref T0, .int (nI m9), .int u6.1, .int u6.2], ac E T0 220 tb, ac E A0 985 (mA h w wd s0 z st he ke tu ca tr co la), ac E V0 3940 V]) H locs := hw
  refine W.eq (g2 := F0 mm 9 ls [.int r6]) rfl ?_
  refine lv_istore_n (lv' := [(1, .int r6), (0, .ref m0)]) hx hb dX7_parse_9 rfl hl (by decide) rfl (fun ls hl => ?_)
  refine lv_iload_n hx hb dX7_parse_10 rfl (lv_at hl 0 rfl) ?_
  refine lv_iconst (v := (-1)) hx hb dX7_parse_11 (by decide) ?_
  refine lv_icmp_eq (tgt := 20) hx hb dX7_parse_12 (by decide) (fun c12 => ?_) (fun c12 => False.elim (c12 h6.1))
  have hw : kW E AA sx (List.flatten [oc m0 7 [.ref A0, .ref V0, .ref Z0, .int (nI k9), .int 0, .int pl, .int hz, .ref D0, .ref W0, .ref T0, .int (nI m9), .int (nI r2), .int u6.2], ac E T0 220 tb, ac E A0 985 (mA h w wd s0 z st he ke tu ca tr co la), ac E V0 3940 V]) H locs := by have h99 := congrArg (fun z9 : Int32 => (List.flatten [oc m0 7 [.ref A0, .ref V0, .ref Z0, .int (nI k9), .int 0, .int pl, .int hz, .ref D0, .ref W0, .ref T0, .int (nI m9), .int z9, .int u6.2], ac E T0 220 tb, ac E A0 985 (mA h w wd s0 z st he ke tu ca tr co la), ac E V0 3940 V] : va_W)) (show (u6.1 : Int32) = nI r2 from by rw [h6.2 rfl]); rw [← h99]; exact hw
  have hw : kW E AA sx (List.flatten [oc m0 7 [.ref A0, .ref V0, .ref Z0, .int (nI k9), .int 0, .int pl, .int hz, .ref D0, .ref W0, .ref T0, .int (nI m9), .int (nI r2), .int (nI c2)], ac E T0 220 tb, ac E A0 985 (mA h w wd s0 z st he ke tu ca tr co la), ac E V0 3940 V]) H locs := by have h99 := congrArg (fun z9 : Int32 => (List.flatten [oc m0 7 [.ref A0, .ref V0, .ref Z0, .int (nI k9), .int 0, .int pl, .int hz, .ref D0, .ref W0, .ref T0, .int (nI m9), .int (nI r2), .int z9], ac E T0 220 tb, ac E A0 985 (mA h w wd s0 z st he ke tu ca tr co la), ac E V0 3940 V] : va_W)) (show (u6.2 : Int32) = nI c2 from by rw [h6.2 rfl]); rw [← h99]; exact hw
  refine lv_aload_n hx hb dX7_parse_20 rfl (lv_at hl 1 rfl) ?_
  have hw : kW E AA sx (List.flatten [ac E V0 3940 V, oc m0 7 [.ref A0, .ref V0, .ref Z0, .int (nI k9), .int 0, .int pl, .int hz, .ref D0, .ref W0, .ref T0, .int (nI m9), .int (nI r2), .int (nI c2)], ac E T0 220 tb, ac E A0 985 (mA h w wd s0 z st he ke tu ca tr co la)]) H locs := kW.front (pre := [oc m0 7 [.ref A0, .ref V0, .ref Z0, .int (nI k9), .int 0, .int pl, .int hz, .ref D0, .ref W0, .ref T0, .int (nI m9), .int (nI r2), .int (nI c2)], ac E T0 220 tb, ac E A0 985 (mA h w wd s0 z st he ke tu ca tr co la)]) hw
  have hw : kW E AA sx (List.flatten [ac E A0 985 (mA h w wd s0 z st he ke tu ca tr co la), ac E V0 3940 V, oc m0 7 [.ref A0, .ref V0, .ref Z0, .int (nI k9), .int 0, .int pl, .int hz, .ref D0, .ref W0, .ref T0, .int (nI m9), .int (nI r2), .int (nI c2)], ac E T0 220 tb]) H locs := kW.front (pre := [ac E V0 3940 V, oc m0 7 [.ref A0, .ref V0, .ref Z0, .int (nI k9), .int 0, .int pl, .int hz, .ref D0, .ref W0, .ref T0, .int (nI m9), .int (nI r2), .int (nI c2)], ac E T0 220 tb]) hw
  have hw : kW E AA sx (List.flatten [oc m0 7 [.ref A0, .ref V0, .ref Z0, .int (nI k9), .int 0, .int pl, .int hz, .ref D0, .ref W0, .ref T0, .int (nI m9), .int (nI r2), .int (nI c2)], ac E A0 985 (mA h w wd s0 z st he ke tu ca tr co la), ac E V0 3940 V, ac E T0 220 tb]) H locs := kW.front (pre := [ac E A0 985 (mA h w wd s0 z st he ke tu ca tr co la), ac E V0 3940 V]) hw
  refine k_V (As := []) (rest := []) (pre := []) (mid := [oc m0 7 [.ref A0, .ref V0, .ref Z0, .int (nI k9), .int 0, .int pl, .int hz, .ref D0, .ref W0, .ref T0, .int (nI m9), .int (nI r2), .int (nI c2)], ac E A0 985 (mA h w wd s0 z st he ke tu ca tr co la), ac E V0 3940 V]) C0 (c_X7_save l E m0 A0 V0 Z0 D0 W0 T0 0 pl hz (nI m9) (nI r2) (nI c2) k9 (mA h w wd s0 z st he ke tu ca tr co la) V (by first | assumption | omega)) (cwV 0 hts gX7_parse_X7_save rfl rfl rfl (by decide +kernel) ⟨Nat.le_of_ble_eq_true rfl, Nat.le_of_ble_eq_true rfl⟩) hw rfl (fun _ => [oc m0 7 [.ref A0, .ref V0, .ref Z0, .int (nI (svK k9)), .int 0, .int pl, .int hz, .ref D0, .ref W0, .ref T0, .int (nI m9), .int (nI r2), .int (nI c2)], ac E A0 985 (mA h w wd s0 z st he ke tu ca tr co la), ac E V0 3940 (svA V (mA h w wd s0 z st he ke tu ca tr co la) k9)]) (fun _ => rfl) 0 7 rfl rfl rfl rfl hl.1 rfl (Nat.le_of_ble_eq_true rfl) dX7_parse_21 ⟨Nat.le_of_ble_eq_true rfl, Nat.le_of_ble_eq_true rfl⟩ (fun r u H locs hq99 hw => ?_)
  have hw : kW E AA sx (List.flatten [oc m0 7 [.ref A0, .ref V0, .ref Z0, .int (nI (svK k9)), .int 0, .int pl, .int hz, .ref D0, .ref W0, .ref T0, .int (nI m9), .int (nI r2), .int (nI c2)], ac E A0 985 (mA h w wd s0 z st he ke tu ca tr co la), ac E V0 3940 (svA V (mA h w wd s0 z st he ke tu ca tr co la) k9), ac E T0 220 tb]) H locs := hw
  refine W.eq (g2 := F0 mm 24 ls []) rfl ?_
  refine lv_aload_n hx hb dX7_parse_24 rfl (lv_at hl 1 rfl) ?_
  refine lv_aload_n hx hb dX7_parse_25 rfl (lv_at hl 1 rfl) ?_
  refine k_get (pre := []) C0 hw hinX7 rfl 11 (by decide) (hts (.fieldLink RX7 205 "SlabDunesModel" "textRows" "I") (by decide +kernel)) rfl rfl dX7_parse_26 ?_
  refine lv_aload_n hx hb dX7_parse_29 rfl (lv_at hl 1 rfl) ?_
  refine k_get (pre := []) C0 hw hinX7 rfl 12 (by decide) (hts (.fieldLink RX7 208 "SlabDunesModel" "textColumns" "I") (by decide +kernel)) rfl rfl dX7_parse_30 ?_
  refine k_V (As := [.int (nI r2), .int (nI c2)]) (rest := []) (pre := []) (mid := [oc m0 7 [.ref A0, .ref V0, .ref Z0, .int (nI (svK k9)), .int 0, .int pl, .int hz, .ref D0, .ref W0, .ref T0, .int (nI m9), .int (nI r2), .int (nI c2)], ac E A0 985 (mA h w wd s0 z st he ke tu ca tr co la)]) C0 (c_X7_clears l E m0 A0 V0 Z0 D0 W0 T0 (nI (svK k9)) 0 pl hz (nI m9) (nI r2) (nI c2) (mA h w wd s0 z st he ke tu ca tr co la) r2 c2 (hG8)) (cwV 2 hts gX7_parse_X7_clears rfl rfl rfl (by decide +kernel) ⟨Nat.le_of_ble_eq_true rfl, Nat.le_of_ble_eq_true rfl⟩) hw rfl (fun _ => [oc m0 7 [.ref A0, .ref V0, .ref Z0, .int (nI (svK k9)), .int 0, .int pl, .int hz, .ref D0, .ref W0, .ref T0, .int (nI m9), .int (nI r2), .int (nI c2)], ac E A0 985 (mA r2 c2 ((mA h w wd s0 z st he ke tu ca tr co la) 6) ((mA h w wd s0 z st he ke tu ca tr co la) 7) 0 (mA h w wd s0 z st he ke tu ca tr co la) (fun _ => 0) (fun _ => 0) (fun _ => 0) (fun _ => (-1)) (fun _ => 0) (fun _ => 0) (fun _ => (-1)))]) (fun _ => rfl) 0 7 rfl rfl rfl rfl hl.1 rfl (Nat.le_of_ble_eq_true rfl) dX7_parse_33 ⟨Nat.le_of_ble_eq_true rfl, Nat.le_of_ble_eq_true rfl⟩ (fun r u H locs hq99 hw => ?_)
  have hw : kW E AA sx (List.flatten [oc m0 7 [.ref A0, .ref V0, .ref Z0, .int (nI (svK k9)), .int 0, .int pl, .int hz, .ref D0, .ref W0, .ref T0, .int (nI m9), .int (nI r2), .int (nI c2)], ac E A0 985 (mA r2 c2 ((mA h w wd s0 z st he ke tu ca tr co la) 6) ((mA h w wd s0 z st he ke tu ca tr co la) 7) 0 (mA h w wd s0 z st he ke tu ca tr co la) (fun _ => 0) (fun _ => 0) (fun _ => 0) (fun _ => (-1)) (fun _ => 0) (fun _ => 0) (fun _ => (-1))), ac E V0 3940 (svA V (mA h w wd s0 z st he ke tu ca tr co la) k9), ac E T0 220 tb]) H locs := hw
  refine W.eq (g2 := F0 mm 36 ls []) rfl ?_
  have hw : kW E AA sx (List.flatten [oc m0 7 [.ref A0, .ref V0, .ref Z0, .int (nI (svK k9)), .int 0, .int pl, .int hz, .ref D0, .ref W0, .ref T0, .int (nI m9), .int (nI r2), .int (nI c2)], ac E A0 985 (mA r2 c2 wd s0 0 st (fun _ => 0) (fun _ => 0) (fun _ => 0) (fun _ => (-1)) (fun _ => 0) (fun _ => 0) (fun _ => (-1))), ac E V0 3940 (svA V (mA h w wd s0 z st he ke tu ca tr co la) k9), ac E T0 220 tb]) H locs := kW.arr (pre := [oc m0 7 [.ref A0, .ref V0, .ref Z0, .int (nI (svK k9)), .int 0, .int pl, .int hz, .ref D0, .ref W0, .ref T0, .int (nI m9), .int (nI r2), .int (nI c2)]]) (l1 := []) hw (fun j9 _ => mA_eq (fun j8 h8 => by unfold mA mB; rw [if_pos h8]) (fun _ _ => ⟨rfl, rfl, rfl, rfl, rfl⟩) (fun _ _ => rfl) (fun _ _ => rfl) j9)
  refine lv_iconst (v := 0) hx hb dX7_parse_36 (by decide) ?_
  refine lv_istore_n (lv' := [(2, .int 0), (1, .int r6), (0, .ref m0)]) hx hb dX7_parse_37 rfl hl (by decide) rfl (fun ls hl => ?_)
  refine lv_iconst (v := 0) hx hb dX7_parse_38 (by decide) ?_
  refine lv_istore_n (lv' := [(3, .int 0), (2, .int 0), (1, .int r6), (0, .ref m0)]) hx hb dX7_parse_39 rfl hl (by decide) rfl (fun ls hl => ?_)
  have loop40 : ∀ (nn : Nat) (i : Nat) (p : Nat) (g9 : Nat → Int32), (p ≤ m9) → (i = cel c2 p) → (g9 = prH tb c2 i) → m9 - p < nn → ∀ (H : Heap) (locs : List Loc) (ls : Array Slot), lv_has ls 4 [(3, .int (nI p)), (2, .int (nI i)), (1, .int r6), (0, .ref m0)] → kW E AA sx (List.flatten [oc m0 7 [.ref A0, .ref V0, .ref Z0, .int (nI (svK k9)), .int 0, .int pl, .int hz, .ref D0, .ref W0, .ref T0, .int (nI m9), .int (nI r2), .int (nI c2)], ac E A0 985 (mA r2 c2 wd s0 0 st g9 g9 (fun _ => 0) (fun _ => (-1)) (fun _ => 0) (fun _ => 0) (fun _ => (-1))), ac E V0 3940 (svA V (mA h w wd s0 z st he ke tu ca tr co la) k9), ac E T0 220 tb]) H locs → W pp l ee rmX7_parse sx mm aa bb me cd H locs 0 0 (kEnd E kI (fun (r : Int32) (_ : Unit) => r = nI (r2 * c2)) (fun _ => List.flatten [oc m0 7 [.ref A0, .ref V0, .ref Z0, .int (nI (svK k9)), .int 0, .int pl, .int hz, .ref D0, .ref W0, .ref T0, .int (nI m9), .int (nI r2), .int (nI c2)], ac E A0 985 (mA r2 c2 wd s0 0 st (prH tb c2 (r2 * c2)) (prH tb c2 (r2 * c2)) (fun _ => 0) (fun _ => (-1)) (fun _ => 0) (fun _ => 0) (fun _ => (-1))), ac E V0 3940 (svA V (mA h w wd s0 z st he ke tu ca tr co la) k9), ac E T0 220 tb]) bb aa sx AA 0 0) (F0 mm 40 ls []) := by
    intro nn
    induction nn with
    | zero => intro i p g9 hp hic hg9 hm40; exact absurd hm40 (Nat.not_lt_zero _)
    | succ nn ih40 =>
      intro i p g9 hp hic hg9 hm40 H locs ls hl hw
      refine lv_iload_n hx hb dX7_parse_40 rfl (lv_at hl 0 rfl) ?_
      refine lv_aload_n hx hb dX7_parse_41 rfl (lv_at hl 3 rfl) ?_
      refine k_get (pre := []) C0 hw hinX7 rfl 10 (by decide) (hts (.fieldLink RX7 202 "SlabDunesModel" "textLong" "I") (by decide +kernel)) rfl rfl dX7_parse_42 ?_
      refine lv_icmp_ge (tgt := 82) hx hb dX7_parse_45 (by decide) (fun c45 => ?_) (fun c45 => ?_)
      · have c45 : m9 ≤ p := (nI_leI (a := m9) (b := p) (by omega) (by omega)).mp c45
        have hie9 : i = r2 * c2 := by rw [hic, show p = m9 by omega]; exact cel_e hok.2.1
        have hw : kW E AA sx (List.flatten [oc m0 7 [.ref A0, .ref V0, .ref Z0, .int (nI (svK k9)), .int 0, .int pl, .int hz, .ref D0, .ref W0, .ref T0, .int (nI m9), .int (nI r2), .int (nI c2)], ac E A0 985 (mA r2 c2 wd s0 0 st (prH tb c2 (r2 * c2)) (prH tb c2 (r2 * c2)) (fun _ => 0) (fun _ => (-1)) (fun _ => 0) (fun _ => 0) (fun _ => (-1))), ac E V0 3940 (svA V (mA h w wd s0 z st he ke tu ca tr co la) k9), ac E T0 220 tb]) H locs := kW.arr (pre := [oc m0 7 [.ref A0, .ref V0, .ref Z0, .int (nI (svK k9)), .int 0, .int pl, .int hz, .ref D0, .ref W0, .ref T0, .int (nI m9), .int (nI r2), .int (nI c2)]]) (l1 := []) hw (fun j9 _ => by rw [hg9, hie9])
        refine lv_aload_n hx hb dX7_parse_82 rfl (lv_at hl 3 rfl) ?_
        refine k_V (As := []) (rest := []) (pre := []) (mid := [oc m0 7 [.ref A0, .ref V0, .ref Z0, .int (nI (svK k9)), .int 0, .int pl, .int hz, .ref D0, .ref W0, .ref T0, .int (nI m9), .int (nI r2), .int (nI c2)], ac E A0 985 (mA r2 c2 wd s0 0 st (prH tb c2 (r2 * c2)) (prH tb c2 (r2 * c2)) (fun _ => 0) (fun _ => (-1)) (fun _ => 0) (fun _ => 0) (fun _ => (-1)))]) C0 (c_X7_cells l E m0 A0 V0 Z0 D0 W0 T0 (nI (svK k9)) 0 pl hz (nI m9) (nI r2) (nI c2) r2 c2 wd s0 0 st (prH tb c2 (r2 * c2)) (prH tb c2 (r2 * c2)) (fun _ => 0) (fun _ => (-1)) (fun _ => 0) (fun _ => 0) (fun _ => (-1)) ) (cwV 0 hts gX7_parse_X7_cells rfl rfl rfl (by decide +kernel) ⟨Nat.le_of_ble_eq_true rfl, Nat.le_of_ble_eq_true rfl⟩) hw rfl (fun _ => [oc m0 7 [.ref A0, .ref V0, .ref Z0, .int (nI (svK k9)), .int 0, .int pl, .int hz, .ref D0, .ref W0, .ref T0, .int (nI m9), .int (nI r2), .int (nI c2)], ac E A0 985 (mA r2 c2 wd s0 0 st (prH tb c2 (r2 * c2)) (prH tb c2 (r2 * c2)) (fun _ => 0) (fun _ => (-1)) (fun _ => 0) (fun _ => 0) (fun _ => (-1)))]) (fun _ => rfl) 0 7 rfl rfl rfl rfl hl.1 rfl (Nat.le_of_ble_eq_true rfl) dX7_parse_83 ⟨Nat.le_of_ble_eq_true rfl, Nat.le_of_ble_eq_true rfl⟩ (fun r u H locs hq99 hw => ?_)
        subst hq99
        have hw : kW E AA sx (List.flatten [oc m0 7 [.ref A0, .ref V0, .ref Z0, .int (nI (svK k9)), .int 0, .int pl, .int hz, .ref D0, .ref W0, .ref T0, .int (nI m9), .int (nI r2), .int (nI c2)], ac E A0 985 (mA r2 c2 wd s0 0 st (prH tb c2 (r2 * c2)) (prH tb c2 (r2 * c2)) (fun _ => 0) (fun _ => (-1)) (fun _ => 0) (fun _ => 0) (fun _ => (-1))), ac E V0 3940 (svA V (mA h w wd s0 z st he ke tu ca tr co la) k9), ac E T0 220 tb]) H locs := hw
        refine W.eq (g2 := F0 mm 86 ls [.int (nI (r2 * c2))]) rfl ?_
        -- leaf 0
        exact k_iret C0 hr hlk hw () (rfl) (rfl) (Nat.le_of_ble_eq_true rfl) (Nat.le_of_ble_eq_true rfl) dX7_parse_86
      · have c45 : ¬ m9 ≤ p := fun h99 => c45 ((nI_leI (a := m9) (b := p) (by omega) (by omega)).mpr h99)
        refine lv_aload_n hx hb dX7_parse_48 rfl (lv_at hl 3 rfl) ?_
        refine k_get (pre := []) C0 hw hinX7 rfl 9 (by decide) (hts (.fieldLink RX7 25 "SlabDunesModel" "text" "[I") (by decide +kernel)) rfl rfl dX7_parse_49 ?_
        refine lv_iload_n hx hb dX7_parse_52 rfl (lv_at hl 0 rfl) ?_
        refine k_iald (pre := [oc m0 7 [.ref A0, .ref V0, .ref Z0, .int (nI (svK k9)), .int 0, .int pl, .int hz, .ref D0, .ref W0, .ref T0, .int (nI m9), .int (nI r2), .int (nI c2)], ac E A0 985 (mA r2 c2 wd s0 0 st g9 g9 (fun _ => 0) (fun _ => (-1)) (fun _ => 0) (fun _ => 0) (fun _ => (-1))), ac E V0 3940 (svA V (mA h w wd s0 z st he ke tu ca tr co la) k9)]) (l1 := []) C0 hw (i := nI p) (kinN (by omega) (by decide)) dX7_parse_53 ?_
        refine W.eq (g2 := F0 mm 54 ls [.int (tb p)]) (congrArg (fun z9 => F0 mm 54 ls [.int z9]) (show (tb (Int32.toNatClampNeg (nI p)) : Int32) = tb p from by rw [nI_clamp (by omega)])) ?_
        refine lv_bipush (v := 47) hx hb dX7_parse_54 (by decide) ?_
        refine lv_icmp_eq (tgt := 76) hx hb dX7_parse_56 (by decide) (fun c56 => ?_) (fun c56 => ?_)
        · skip
          refine lv_iinc (v := nI (p + 1)) (lv' := [(3, .int (nI (p + 1))), (2, .int (nI i)), (1, .int r6), (0, .ref m0)]) hx hb dX7_parse_76 hl (k := 0) rfl (nI_1 _) (by decide) rfl (fun ls hl => ?_)
          refine lv_goto (tgt := 40) hx hb dX7_parse_79 (by decide) ?_
          -- back 0
          exact ih40 i (p + 1) g9 (by first | assumption | omega) (by rw [cel_s ((hok.2.2 p (by omega)).mp c56)]; exact hic) (hg9) (by omega) H _ ls (lv_sub hl [0, 1, 2, 3] rfl) hw
        · have hmd9 : ¬ p % (c2 + 1) = c2 := fun h99 => c56 ((hok.2.2 p (by omega)).mpr h99)
          have hil9 : i < r2 * c2 := by rw [hic]; exact cel_lt (by rw [← hok.2.1]; omega) hmd9
          have hip9 : i + i / c2 = p := by rw [hic]; exact cel_i (by omega) hmd9
          refine lv_aload_n hx hb dX7_parse_59 rfl (lv_at hl 3 rfl) ?_
          refine lv_iload_n hx hb dX7_parse_60 rfl (lv_at hl 1 rfl) ?_
          refine lv_aload_n hx hb dX7_parse_61 rfl (lv_at hl 3 rfl) ?_
          refine k_get (pre := []) C0 hw hinX7 rfl 9 (by decide) (hts (.fieldLink RX7 25 "SlabDunesModel" "text" "[I") (by decide +kernel)) rfl rfl dX7_parse_62 ?_
          refine lv_iload_n hx hb dX7_parse_65 rfl (lv_at hl 0 rfl) ?_
          refine k_iald (pre := [oc m0 7 [.ref A0, .ref V0, .ref Z0, .int (nI (svK k9)), .int 0, .int pl, .int hz, .ref D0, .ref W0, .ref T0, .int (nI m9), .int (nI r2), .int (nI c2)], ac E A0 985 (mA r2 c2 wd s0 0 st g9 g9 (fun _ => 0) (fun _ => (-1)) (fun _ => 0) (fun _ => 0) (fun _ => (-1))), ac E V0 3940 (svA V (mA h w wd s0 z st he ke tu ca tr co la) k9)]) (l1 := []) C0 hw (i := nI p) (kinN (by omega) (by decide)) dX7_parse_66 ?_
          refine W.eq (g2 := F0 mm 67 ls [.int (tb p), .int (nI i), .ref m0]) (congrArg (fun z9 => F0 mm 67 ls [.int z9, .int (nI i), .ref m0]) (show (tb (Int32.toNatClampNeg (nI p)) : Int32) = tb p from by rw [nI_clamp (by omega)])) ?_
          refine lv_bipush (v := 48) hx hb dX7_parse_67 (by decide) ?_
          refine lv_isub hx hb dX7_parse_69 ?_
          refine k_V (As := [.int (nI i), .int ((tb p) - 48)]) (rest := []) (pre := []) (mid := [oc m0 7 [.ref A0, .ref V0, .ref Z0, .int (nI (svK k9)), .int 0, .int pl, .int hz, .ref D0, .ref W0, .ref T0, .int (nI m9), .int (nI r2), .int (nI c2)], ac E A0 985 (mA r2 c2 wd s0 0 st g9 g9 (fun _ => 0) (fun _ => (-1)) (fun _ => 0) (fun _ => 0) (fun _ => (-1)))]) C0 (c_X7_heightens l E m0 A0 V0 Z0 D0 W0 T0 (nI (svK k9)) 0 pl hz (nI m9) (nI r2) (nI c2) r2 c2 wd s0 0 st g9 g9 (fun _ => 0) (fun _ => (-1)) (fun _ => 0) (fun _ => 0) (fun _ => (-1)) i ((tb p) - 48) (hG8) (hil9)) (cwV 2 hts gX7_parse_X7_heightens rfl rfl rfl (by decide +kernel) ⟨Nat.le_of_ble_eq_true rfl, Nat.le_of_ble_eq_true rfl⟩) hw rfl (fun _ => [oc m0 7 [.ref A0, .ref V0, .ref Z0, .int (nI (svK k9)), .int 0, .int pl, .int hz, .ref D0, .ref W0, .ref T0, .int (nI m9), .int (nI r2), .int (nI c2)], ac E A0 985 (mA r2 c2 wd s0 0 st (upd g9 i ((tb p) - 48)) (upd g9 i ((tb p) - 48)) (fun _ => 0) (fun _ => (-1)) (fun _ => 0) (fun _ => 0) (fun _ => (-1)))]) (fun _ => rfl) 0 7 rfl rfl rfl rfl hl.1 rfl (Nat.le_of_ble_eq_true rfl) dX7_parse_70 ⟨Nat.le_of_ble_eq_true rfl, Nat.le_of_ble_eq_true rfl⟩ (fun r u H locs hq99 hw => ?_)
          have hw : kW E AA sx (List.flatten [oc m0 7 [.ref A0, .ref V0, .ref Z0, .int (nI (svK k9)), .int 0, .int pl, .int hz, .ref D0, .ref W0, .ref T0, .int (nI m9), .int (nI r2), .int (nI c2)], ac E A0 985 (mA r2 c2 wd s0 0 st (upd g9 i ((tb p) - 48)) (upd g9 i ((tb p) - 48)) (fun _ => 0) (fun _ => (-1)) (fun _ => 0) (fun _ => 0) (fun _ => (-1))), ac E V0 3940 (svA V (mA h w wd s0 z st he ke tu ca tr co la) k9), ac E T0 220 tb]) H locs := hw
          refine W.eq (g2 := F0 mm 73 ls []) rfl ?_
          refine lv_iinc (v := nI (i + 1)) (lv' := [(2, .int (nI (i + 1))), (3, .int (nI p)), (1, .int r6), (0, .ref m0)]) hx hb dX7_parse_73 hl (k := 1) rfl (nI_1 _) (by decide) rfl (fun ls hl => ?_)
          skip
          refine lv_iinc (v := nI (p + 1)) (lv' := [(3, .int (nI (p + 1))), (2, .int (nI (i + 1))), (1, .int r6), (0, .ref m0)]) hx hb dX7_parse_76 hl (k := 1) rfl (nI_1 _) (by decide) rfl (fun ls hl => ?_)
          refine lv_goto (tgt := 40) hx hb dX7_parse_79 (by decide) ?_
          -- back 1
          exact ih40 (i + 1) (p + 1) (upd g9 i (tb p - 48)) (by first | assumption | omega) (by rw [cel_n hmd9, ← hic]) (by rw [hg9]; have h97 := prH_s (f := tb) (c := c2) (i := i); rw [hip9] at h97; exact h97) (by omega) H _ ls (lv_sub hl [0, 1, 2, 3] rfl) hw
  exact loop40 ((m9 - 0) + 1) 0 0 (fun _ => 0) (by first | assumption | omega) ((cel_0 c2).symm) (prH_0) (Nat.lt_succ_self _) H _ ls (lv_sub hl [0, 1, 2, 3] rfl) hw

abbrev rmX7_init : Room := { frames := 3, cells := 6, slots := 6514, locals := 68 }
set_option maxHeartbeats 4000000 in
set_option maxRecDepth 100000 in
theorem c_X7_init (l : Launch) (E : kE) (m0 : Nat)  : kC E l yX7_init wsX7_init rmX7_init [.ref m0] (oc m0 7 [.null, .null, .null, .int 0, .int 0, .int 0, .int 0, .null, .null, .null, .int 0, .int 0, .int 0]) kV (fun (r : Unit) (u : Nat × (Nat × (Nat × (Nat × (Nat × Nat))))) => True) (fun (u : Nat × (Nat × (Nat × (Nat × (Nat × Nat))))) => List.flatten [oc m0 7 [.ref u.1, .ref u.2.1, .ref u.2.2.1, .int 0, .int 0, .int 0, .int 0, .ref u.2.2.2.1, .ref u.2.2.2.2.1, .ref u.2.2.2.2.2, .int 0, .int 0, .int 0], ac E u.1 985 (mA 6 10 0 1 0 st0F (fun _ => 2) (fun _ => 2) (fun _ => 0) (fun _ => (-1)) (fun _ => 0) (fun _ => 0) (fun _ => (-1))), ac E u.2.1 3940 (fun _ => 0), ac E u.2.2.1 985 (fun _ => 0), ac E u.2.2.2.1 192 (fun _ => 0), ac E u.2.2.2.2.1 192 (fun _ => 0), ac E u.2.2.2.2.2 220 (fun _ => 0)]) 6 6514 := by
  refine k_body (cc := cX7_init) (maxL := 1) (ret := none) (by decide) rfl (Nat.le_of_ble_eq_true rfl) ?_
  intro pp ee sx mm aa bb me cd H locs AA ls C0 hr hlk hnm hl hw
  obtain ⟨hx, hb, hml, hown, hts⟩ := id C0
  have hl : lv_has ls 1 [(0, .ref m0)] := hl
  have hw : kW E AA sx (List.flatten [oc m0 7 [.null, .null, .null, .int 0, .int 0, .int 0, .int 0, .null, .null, .null, .int 0, .int 0, .int 0]]) H locs := hw
  have hinX7 : ∀ w ∈ u_ws RX7 TX7 13, w ∈ wsX7_init := by decide +kernel
  refine lv_aload_n hx hb dX7_init_0 rfl (lv_at hl 0 rfl) ?_
  refine W.objInit hx hb hown (hts (.methodLink RX7 1 objectInit) (by decide +kernel)) (hts (.instanceMethod objectInit) (by decide +kernel)) (hts (.code objectInit ⟨#[0xb1]⟩ 1 none) (by decide +kernel)) rfl (by rw [hml]; exact hl.1) rfl dX7_init_1 (Nat.le_of_ble_eq_true rfl) (Nat.le_of_ble_eq_true rfl) ?_
  refine W.eq (g2 := F0 mm 4 ls []) rfl ?_
  refine lv_aload_n hx hb dX7_init_4 rfl (lv_at hl 0 rfl) ?_
  refine lv_sipush (v := 985) hx hb dX7_init_5 (by decide) ?_
  refine k_newa (chs := [oc m0 7 [.null, .null, .null, .int 0, .int 0, .int 0, .int 0, .null, .null, .null, .int 0, .int 0, .int 0]]) C0 hw (hts (.arrayClass .int) (by decide +kernel)) (N' := 985) (by decide) (by decide) (Nat.le_of_ble_eq_true rfl) (Nat.le_of_ble_eq_true rfl) (Nat.le_of_ble_eq_true rfl) dX7_init_8 (fun n8 H hw => ?_)
  have hw : kW E AA sx (List.flatten [oc m0 7 [.null, .null, .null, .int 0, .int 0, .int 0, .int 0, .null, .null, .null, .int 0, .int 0, .int 0], ac E n8 985 (fun _ => 0)]) H locs := hw
  refine k_putF (pre := []) C0 hw hinX7 tyX7 tyX7_ok nmX7 rfl 0 (by decide) (hts (.fieldLink RX7 7 "SlabDunesModel" "all" "[I") (by decide +kernel)) rfl rfl hnm rfl (ty := .array .int) (by decide +kernel) rfl rfl (Nat.le_of_ble_eq_true rfl) dX7_init_10 (fun H locs hw => ?_)
  have hw : kW E AA sx (List.flatten [oc m0 7 [.ref n8, .null, .null, .int 0, .int 0, .int 0, .int 0, .null, .null, .null, .int 0, .int 0, .int 0], ac E n8 985 (fun _ => 0)]) H locs := hw
  refine lv_aload_n hx hb dX7_init_13 rfl (lv_at hl 0 rfl) ?_
  refine lv_sipush (v := 3940) hx hb dX7_init_14 (by decide) ?_
  refine k_newa (chs := [oc m0 7 [.ref n8, .null, .null, .int 0, .int 0, .int 0, .int 0, .null, .null, .null, .int 0, .int 0, .int 0], ac E n8 985 (fun _ => 0)]) C0 hw (hts (.arrayClass .int) (by decide +kernel)) (N' := 3940) (by decide) (by decide) (Nat.le_of_ble_eq_true rfl) (Nat.le_of_ble_eq_true rfl) (Nat.le_of_ble_eq_true rfl) dX7_init_17 (fun n17 H hw => ?_)
  have hw : kW E AA sx (List.flatten [oc m0 7 [.ref n8, .null, .null, .int 0, .int 0, .int 0, .int 0, .null, .null, .null, .int 0, .int 0, .int 0], ac E n8 985 (fun _ => 0), ac E n17 3940 (fun _ => 0)]) H locs := hw
  refine k_putF (pre := []) C0 hw hinX7 tyX7 tyX7_ok nmX7 rfl 1 (by decide) (hts (.fieldLink RX7 13 "SlabDunesModel" "saved" "[I") (by decide +kernel)) rfl rfl hnm rfl (ty := .array .int) (by decide +kernel) rfl rfl (Nat.le_of_ble_eq_true rfl) dX7_init_19 (fun H locs hw => ?_)
  have hw : kW E AA sx (List.flatten [oc m0 7 [.ref n8, .ref n17, .null, .int 0, .int 0, .int 0, .int 0, .null, .null, .null, .int 0, .int 0, .int 0], ac E n8 985 (fun _ => 0), ac E n17 3940 (fun _ => 0)]) H locs := hw
  refine lv_aload_n hx hb dX7_init_22 rfl (lv_at hl 0 rfl) ?_
  refine lv_sipush (v := 985) hx hb dX7_init_23 (by decide) ?_
  refine k_newa (chs := [oc m0 7 [.ref n8, .ref n17, .null, .int 0, .int 0, .int 0, .int 0, .null, .null, .null, .int 0, .int 0, .int 0], ac E n8 985 (fun _ => 0), ac E n17 3940 (fun _ => 0)]) C0 hw (hts (.arrayClass .int) (by decide +kernel)) (N' := 985) (by decide) (by decide) (Nat.le_of_ble_eq_true rfl) (Nat.le_of_ble_eq_true rfl) (Nat.le_of_ble_eq_true rfl) dX7_init_26 (fun n26 H hw => ?_)
  have hw : kW E AA sx (List.flatten [oc m0 7 [.ref n8, .ref n17, .null, .int 0, .int 0, .int 0, .int 0, .null, .null, .null, .int 0, .int 0, .int 0], ac E n8 985 (fun _ => 0), ac E n17 3940 (fun _ => 0), ac E n26 985 (fun _ => 0)]) H locs := hw
  refine k_putF (pre := []) C0 hw hinX7 tyX7 tyX7_ok nmX7 rfl 2 (by decide) (hts (.fieldLink RX7 16 "SlabDunesModel" "aside" "[I") (by decide +kernel)) rfl rfl hnm rfl (ty := .array .int) (by decide +kernel) rfl rfl (Nat.le_of_ble_eq_true rfl) dX7_init_28 (fun H locs hw => ?_)
  have hw : kW E AA sx (List.flatten [oc m0 7 [.ref n8, .ref n17, .ref n26, .int 0, .int 0, .int 0, .int 0, .null, .null, .null, .int 0, .int 0, .int 0], ac E n8 985 (fun _ => 0), ac E n17 3940 (fun _ => 0), ac E n26 985 (fun _ => 0)]) H locs := hw
  refine lv_aload_n hx hb dX7_init_31 rfl (lv_at hl 0 rfl) ?_
  refine lv_sipush (v := 192) hx hb dX7_init_32 (by decide) ?_
  refine k_newa (chs := [oc m0 7 [.ref n8, .ref n17, .ref n26, .int 0, .int 0, .int 0, .int 0, .null, .null, .null, .int 0, .int 0, .int 0], ac E n8 985 (fun _ => 0), ac E n17 3940 (fun _ => 0), ac E n26 985 (fun _ => 0)]) C0 hw (hts (.arrayClass .int) (by decide +kernel)) (N' := 192) (by decide) (by decide) (Nat.le_of_ble_eq_true rfl) (Nat.le_of_ble_eq_true rfl) (Nat.le_of_ble_eq_true rfl) dX7_init_35 (fun n35 H hw => ?_)
  have hw : kW E AA sx (List.flatten [oc m0 7 [.ref n8, .ref n17, .ref n26, .int 0, .int 0, .int 0, .int 0, .null, .null, .null, .int 0, .int 0, .int 0], ac E n8 985 (fun _ => 0), ac E n17 3940 (fun _ => 0), ac E n26 985 (fun _ => 0), ac E n35 192 (fun _ => 0)]) H locs := hw
  refine k_putF (pre := []) C0 hw hinX7 tyX7 tyX7_ok nmX7 rfl 7 (by decide) (hts (.fieldLink RX7 19 "SlabDunesModel" "duneAt" "[I") (by decide +kernel)) rfl rfl hnm rfl (ty := .array .int) (by decide +kernel) rfl rfl (Nat.le_of_ble_eq_true rfl) dX7_init_37 (fun H locs hw => ?_)
  have hw : kW E AA sx (List.flatten [oc m0 7 [.ref n8, .ref n17, .ref n26, .int 0, .int 0, .int 0, .int 0, .ref n35, .null, .null, .int 0, .int 0, .int 0], ac E n8 985 (fun _ => 0), ac E n17 3940 (fun _ => 0), ac E n26 985 (fun _ => 0), ac E n35 192 (fun _ => 0)]) H locs := hw
  refine lv_aload_n hx hb dX7_init_40 rfl (lv_at hl 0 rfl) ?_
  refine lv_sipush (v := 192) hx hb dX7_init_41 (by decide) ?_
  refine k_newa (chs := [oc m0 7 [.ref n8, .ref n17, .ref n26, .int 0, .int 0, .int 0, .int 0, .ref n35, .null, .null, .int 0, .int 0, .int 0], ac E n8 985 (fun _ => 0), ac E n17 3940 (fun _ => 0), ac E n26 985 (fun _ => 0), ac E n35 192 (fun _ => 0)]) C0 hw (hts (.arrayClass .int) (by decide +kernel)) (N' := 192) (by decide) (by decide) (Nat.le_of_ble_eq_true rfl) (Nat.le_of_ble_eq_true rfl) (Nat.le_of_ble_eq_true rfl) dX7_init_44 (fun n44 H hw => ?_)
  have hw : kW E AA sx (List.flatten [oc m0 7 [.ref n8, .ref n17, .ref n26, .int 0, .int 0, .int 0, .int 0, .ref n35, .null, .null, .int 0, .int 0, .int 0], ac E n8 985 (fun _ => 0), ac E n17 3940 (fun _ => 0), ac E n26 985 (fun _ => 0), ac E n35 192 (fun _ => 0), ac E n44 192 (fun _ => 0)]) H locs := hw
  refine k_putF (pre := []) C0 hw hinX7 tyX7 tyX7_ok nmX7 rfl 8 (by decide) (hts (.fieldLink RX7 22 "SlabDunesModel" "waits" "[I") (by decide +kernel)) rfl rfl hnm rfl (ty := .array .int) (by decide +kernel) rfl rfl (Nat.le_of_ble_eq_true rfl) dX7_init_46 (fun H locs hw => ?_)
  have hw : kW E AA sx (List.flatten [oc m0 7 [.ref n8, .ref n17, .ref n26, .int 0, .int 0, .int 0, .int 0, .ref n35, .ref n44, .null, .int 0, .int 0, .int 0], ac E n8 985 (fun _ => 0), ac E n17 3940 (fun _ => 0), ac E n26 985 (fun _ => 0), ac E n35 192 (fun _ => 0), ac E n44 192 (fun _ => 0)]) H locs := hw
  refine lv_aload_n hx hb dX7_init_49 rfl (lv_at hl 0 rfl) ?_
  refine lv_sipush (v := 220) hx hb dX7_init_50 (by decide) ?_
  refine k_newa (chs := [oc m0 7 [.ref n8, .ref n17, .ref n26, .int 0, .int 0, .int 0, .int 0, .ref n35, .ref n44, .null, .int 0, .int 0, .int 0], ac E n8 985 (fun _ => 0), ac E n17 3940 (fun _ => 0), ac E n26 985 (fun _ => 0), ac E n35 192 (fun _ => 0), ac E n44 192 (fun _ => 0)]) C0 hw (hts (.arrayClass .int) (by decide +kernel)) (N' := 220) (by decide) (by decide) (Nat.le_of_ble_eq_true rfl) (Nat.le_of_ble_eq_true rfl) (Nat.le_of_ble_eq_true rfl) dX7_init_53 (fun n53 H hw => ?_)
  have hw : kW E AA sx (List.flatten [oc m0 7 [.ref n8, .ref n17, .ref n26, .int 0, .int 0, .int 0, .int 0, .ref n35, .ref n44, .null, .int 0, .int 0, .int 0], ac E n8 985 (fun _ => 0), ac E n17 3940 (fun _ => 0), ac E n26 985 (fun _ => 0), ac E n35 192 (fun _ => 0), ac E n44 192 (fun _ => 0), ac E n53 220 (fun _ => 0)]) H locs := hw
  refine k_putF (pre := []) C0 hw hinX7 tyX7 tyX7_ok nmX7 rfl 9 (by decide) (hts (.fieldLink RX7 25 "SlabDunesModel" "text" "[I") (by decide +kernel)) rfl rfl hnm rfl (ty := .array .int) (by decide +kernel) rfl rfl (Nat.le_of_ble_eq_true rfl) dX7_init_55 (fun H locs hw => ?_)
  have hw : kW E AA sx (List.flatten [oc m0 7 [.ref n8, .ref n17, .ref n26, .int 0, .int 0, .int 0, .int 0, .ref n35, .ref n44, .ref n53, .int 0, .int 0, .int 0], ac E n8 985 (fun _ => 0), ac E n17 3940 (fun _ => 0), ac E n26 985 (fun _ => 0), ac E n35 192 (fun _ => 0), ac E n44 192 (fun _ => 0), ac E n53 220 (fun _ => 0)]) H locs := hw
  refine lv_aload_n hx hb dX7_init_58 rfl (lv_at hl 0 rfl) ?_
  refine lv_bipush (v := 6) hx hb dX7_init_59 (by decide) ?_
  refine lv_bipush (v := 10) hx hb dX7_init_61 (by decide) ?_
  refine lv_iconst (v := 2) hx hb dX7_init_63 (by decide) ?_
  refine k_V (As := [.int 6, .int 10, .int 2]) (rest := []) (pre := []) (mid := [oc m0 7 [.ref n8, .ref n17, .ref n26, .int 0, .int 0, .int 0, .int 0, .ref n35, .ref n44, .ref n53, .int 0, .int 0, .int 0], ac E n8 985 (fun _ => 0)]) C0 (c_X7_begins l E m0 n8 n17 n26 n35 n44 n53 0 0 0 0 0 0 0 (fun _ => 0) 6 10 2 (⟨by decide, by decide, by decide, by decide⟩)) (cwV 3 hts gX7_init_X7_begins rfl rfl rfl (by decide +kernel) ⟨Nat.le_of_ble_eq_true rfl, Nat.le_of_ble_eq_true rfl⟩) hw rfl (fun _ => [oc m0 7 [.ref n8, .ref n17, .ref n26, .int 0, .int 0, .int 0, .int 0, .ref n35, .ref n44, .ref n53, .int 0, .int 0, .int 0], ac E n8 985 (mA 6 10 0 1 0 st0F (fun _ => 2) (fun _ => 2) (fun _ => 0) (fun _ => (-1)) (fun _ => 0) (fun _ => 0) (fun _ => (-1)))]) (fun _ => rfl) 0 7 rfl rfl rfl rfl hl.1 rfl (Nat.le_of_ble_eq_true rfl) dX7_init_64 ⟨Nat.le_of_ble_eq_true rfl, Nat.le_of_ble_eq_true rfl⟩ (fun r u H locs hq99 hw => ?_)
  have hw : kW E AA sx (List.flatten [oc m0 7 [.ref n8, .ref n17, .ref n26, .int 0, .int 0, .int 0, .int 0, .ref n35, .ref n44, .ref n53, .int 0, .int 0, .int 0], ac E n8 985 (mA 6 10 0 1 0 st0F (fun _ => 2) (fun _ => 2) (fun _ => 0) (fun _ => (-1)) (fun _ => 0) (fun _ => 0) (fun _ => (-1))), ac E n17 3940 (fun _ => 0), ac E n26 985 (fun _ => 0), ac E n35 192 (fun _ => 0), ac E n44 192 (fun _ => 0), ac E n53 220 (fun _ => 0)]) H locs := hw
  refine W.eq (g2 := F0 mm 67 ls []) rfl ?_
  -- leaf 0
  exact k_vret C0 hr hlk hw (n8, (n17, (n26, (n35, (n44, n53))))) (rfl) (trivial) (Nat.le_of_ble_eq_true rfl) (Nat.le_of_ble_eq_true rfl) dX7_init_67
