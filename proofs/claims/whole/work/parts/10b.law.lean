/-! THE LAW: what its loop keeps -/
def tuI (n : Nat) (tu : Nat → Int32) : Prop := ∀ c, c < n → ∃ t, t ≤ 100 ∧ tu c = nI t
def fOKc (B h w d n0 hp : Nat) (st he tu : Nat → Int32) : Prop := kG h w ∧ d < 4 ∧ n0 < 2147483648 ∧ st 0 = nI hp ∧ 1 ≤ hp ∧ hp ≤ 8 ∧ 1 ≤ (st 3).toInt ∧ hI (h * w) he B ∧ tuI (h * w) tu
def fOK (B : Nat) (F : cT) : Prop := ∃ h w d n0 hp : Nat, F.1 = nI h ∧ F.2.1 = nI w ∧ F.2.2.1 = nI d ∧ F.2.2.2.1 = nI n0 ∧ fOKc B h w d n0 hp F.2.2.2.2.2.1 F.2.2.2.2.2.2.1 F.2.2.2.2.2.2.2.2.1
def mT (F : cT) : Nat → Int32 := mA F.1.toNatClampNeg F.2.1.toNatClampNeg F.2.2.1 F.2.2.2.1 F.2.2.2.2.1 F.2.2.2.2.2.1 F.2.2.2.2.2.2.1 F.2.2.2.2.2.2.2.1 F.2.2.2.2.2.2.2.2.1 F.2.2.2.2.2.2.2.2.2.1 F.2.2.2.2.2.2.2.2.2.2.1 F.2.2.2.2.2.2.2.2.2.2.2.1 F.2.2.2.2.2.2.2.2.2.2.2.2
def sav (B : Nat) (G : Nat → cT) (o k9 : Nat) (V : Nat → Int32) : Prop := ∀ j, j < k9 → fOK B (G ((o + j) % 4)) ∧ ∀ x, x < 985 → V (985 * j + x) = mT (G ((o + j) % 4)) x
theorem fOKc.le {B B' h w d n0 hp : Nat} {st he tu : Nat → Int32} (hk : fOKc B h w d n0 hp st he tu) (hB : B ≤ B') : fOKc B' h w d n0 hp st he tu := by
  obtain ⟨a1, a2, a3, a4, a5, a6, a7, a8, a9⟩ := hk
  exact ⟨a1, a2, a3, a4, a5, a6, a7, hI_le a8 hB, a9⟩
theorem sav.le {B B' : Nat} {G : Nat → cT} {o k9 : Nat} {V : Nat → Int32} (hs : sav B G o k9 V) (hB : B ≤ B') : sav B' G o k9 V := fun j hj => by
  obtain ⟨⟨h, w, d, n0, hp, e1, e2, e3, e4, hk⟩, h2⟩ := hs j hj
  exact ⟨⟨h, w, d, n0, hp, e1, e2, e3, e4, hk.le hB⟩, h2⟩
theorem mT_e {h w : Nat} (hG : kG h w) (wd s0 z : Int32) (st he ke tu ca tr co la : Nat → Int32) : mT (nI h, nI w, wd, s0, z, st, he, ke, tu, ca, tr, co, la) = mA h w wd s0 z st he ke tu ca tr co la := by
  obtain ⟨a1, a2, a3, a4⟩ := hG
  show mA (nI h).toNatClampNeg (nI w).toNatClampNeg _ _ _ _ _ _ _ _ _ _ _ = _
  rw [nI_clamp (by omega), nI_clamp (by omega)]
theorem cup_s (G : Nat → cT) (i : Nat) (F : cT) : cup G i F i = F := if_pos rfl
theorem cup_n {G : Nat → cT} {i j : Nat} {F : cT} (h : ¬ j = i) : cup G i F j = G j := if_neg h
theorem sav_save {B : Nat} {G : Nat → cT} {o k9 : Nat} {V M : Nat → Int32} {F : cT} (hs : sav B G o k9 V) (ho : o < 4) (hk9 : k9 ≤ 4) (hF : fOK B F) (hM : ∀ x, x < 985 → M x = mT F x) : sav B (cup G (svI o k9) F) (svO o k9) (svK k9) (svA V M k9) := by
  intro j hj
  by_cases h4 : k9 = 4
  · rw [svK, if_pos h4] at hj
    rw [svI, svO, svA, if_pos h4, if_pos h4, if_pos h4]
    by_cases h3 : j = 3
    · have e1 : ((o + 1) % 4 + j) % 4 = ((o + 1) % 4 + 3) % 4 := by rw [h3]
      rw [e1, cup_s]
      refine ⟨hF, fun x hx => ?_⟩
      rw [← hM x hx]
      unfold svQ
      rw [if_pos (by omega)]
      exact congrArg M (by omega)
    · rw [cup_n (by omega)]
      obtain ⟨a1, a2⟩ := hs (j + 1) (by omega)
      have e1 : ((o + 1) % 4 + j) % 4 = (o + (j + 1)) % 4 := by omega
      rw [e1]
      refine ⟨a1, fun x hx => ?_⟩
      rw [← a2 x hx]
      unfold svQ svH
      rw [if_neg (by omega), if_pos (by omega)]
      exact congrArg V (by omega)
  · rw [svK, if_neg h4] at hj
    rw [svI, svO, svA, if_neg h4, if_neg h4, if_neg h4]
    by_cases h3 : j = k9
    · rw [h3, cup_s]
      refine ⟨hF, fun x hx => ?_⟩
      rw [← hM x hx]
      unfold svQ
      rw [if_pos (by omega)]
      exact congrArg M (by omega)
    · rw [cup_n (by omega)]
      obtain ⟨a1, a2⟩ := hs j (by omega)
      refine ⟨a1, fun x hx => ?_⟩
      rw [← a2 x hx]
      unfold svQ
      rw [if_neg (by omega)]
theorem sav_sv {B h w d n0 hp : Nat} {z : Int32} {st he ke tu ca tr co la : Nat → Int32} {G : Nat → cT} {o k9 : Nat} {V : Nat → Int32} (hs : sav B G o k9 V) (ho : o < 4) (hk9 : k9 ≤ 4) (hk : fOKc B h w d n0 hp st he tu) :
    sav B (cup G (svI o k9) (nI h, nI w, nI d, nI n0, z, st, he, ke, tu, ca, tr, co, la)) (svO o k9) (svK k9) (svA V (mA h w (nI d) (nI n0) z st he ke tu ca tr co la) k9) :=
  sav_save hs ho hk9 ⟨h, w, d, n0, hp, rfl, rfl, rfl, rfl, hk⟩ (fun x _ => by rw [mT_e hk.1])
/-- heights that are set, that are all one, that a text gives -/
theorem hI_set {n B c v : Nat} {he : Nat → Int32} (hH : hI n he B) (hB : B < 1000000) (hc : c < n) (hv : v ≤ 99) : hI n (upd he c (nI v)) (B + 99) := by
  obtain ⟨u, hu, eu⟩ := hI_v hH hc
  exact hI_le (hI_up (v := v) hH hc eu (by omega) hB) (by omega)
theorem sumN_b {H : Nat → Nat} {b : Nat} (h : ∀ x, H x ≤ b) : ∀ n, sumN H n ≤ n * b
  | 0 => by rw [Nat.zero_mul]; exact Nat.le_refl _
  | n + 1 => by
    have h1 := sumN_b h n
    have h2 := h n
    rw [sumN_s, Nat.succ_mul]
    omega
theorem hI_c {n v : Nat} (hn : n ≤ 192) (hv : v ≤ 20) : hI n (fun _ => nI v) 3840 := by
  refine ⟨fun _ => v, fun _ _ => rfl, ?_⟩
  have h1 := sumN_b (H := fun _ => v) (b := 20) (fun _ => hv) n
  omega
theorem epL_dg {f : Nat → Int32} {m R C : Nat} (hm : m < 2147483648) : ∀ (n r c i p : Nat), p + n = m → epL f m n r c i p = (-1, (R, C)) → ∀ j, p ≤ j → j < m → f j = 47 ∨ (¬ f j < 48 ∧ ¬ 57 < f j)
  | 0, r, c, i, p, hp, he => fun j h1 h2 => by omega
  | n + 1, r, c, i, p, hp, he => by
    have hbad : ∀ x : Nat × Nat, ((nI p, x) : Int32 × (Nat × Nat)) = (-1, (R, C)) → False := fun x h => by
      have e1 : nI p = -1 := by have h := congrArg (fun z => z.1) h; exact h
      exact absurd e1 (nI_nm1 (by omega))
    rw [epL_s] at he
    intro j h1 h2
    by_cases hd : ¬ f p < 48 ∧ ¬ 57 < f p
    · rw [if_pos hd] at he
      by_cases hi : i < (if r = 1 then 16 else c)
      · rw [if_pos hi] at he
        by_cases hjp : j = p
        · rw [hjp]; exact Or.inr hd
        · exact epL_dg hm n _ _ _ _ (by omega) he j (by omega) h2
      · rw [if_neg hi] at he
        exact (hbad _ he).elim
    · rw [if_neg hd] at he
      by_cases hs : f p = 47
      · rw [if_pos hs] at he
        by_cases hi : i < (if r = 1 then 3 else c) ∨ ¬ r < 12
        · rw [if_pos hi] at he
          exact (hbad _ he).elim
        · rw [if_neg hi] at he
          by_cases hjp : j = p
          · rw [hjp]; exact Or.inl hs
          · exact epL_dg hm n _ _ _ _ (by omega) he j (by omega) h2
      · rw [if_neg hs] at he
        exact (hbad _ he).elim
theorem kdig {x : Int32} (h : ¬ x < 48 ∧ ¬ 57 < x) : ∃ v, v ≤ 9 ∧ x - 48 = nI v := by
  have h0 : ¬ x < 0 := fun h9 => h.1 (Int32.lt_trans h9 (by decide))
  obtain ⟨j, hj, rfl⟩ := nI_of2 (x := x) (M := 57) (n := 57) rfl h0 (Int32.not_lt.mp h.2)
  have h2 : 48 ≤ j := by
    rcases Nat.lt_or_ge j 48 with h9 | h9
    · exact absurd (nI_lt (a := j) (b := 48) h9 (by decide)) h.1
    · exact h9
  exact ⟨j - 48, by omega, pk_sub (b := 48) h2⟩
theorem hI_pr {f : Nat → Int32} {m R C : Nat} (hm : m < 2147483648) (he : epL f m m 1 0 0 0 = (-1, (R, C))) : hI (R * C) (prH f C (R * C)) 3840 := by
  obtain ⟨hG, hm1, hsl⟩ := epL_ok0 hm he
  have hn := kG_n hG
  have hd := epL_dg hm m 1 0 0 0 (by omega) he
  have hC : 3 ≤ C := hG.2.2.1
  have key : ∀ k, ∃ v, k < R * C → v ≤ 9 ∧ prH f C (R * C) k = nI v := by
    intro k
    by_cases hk : k < R * C
    · have h1 : k / C < R := Nat.div_lt_of_lt_mul (by rw [Nat.mul_comm]; exact hk)
      have e0 := Nat.div_add_mod k C
      have e1 : k % C < C := Nat.mod_lt _ (by omega)
      have e2 : k + k / C = k / C * (C + 1) + k % C := by rw [Nat.mul_add, Nat.mul_one, Nat.mul_comm (k / C) C]; omega
      have h2 : k + k / C < m := by
        have h3 := Nat.mul_le_mul_right (C + 1) (show k / C + 1 ≤ R by omega)
        rw [Nat.succ_mul] at h3
        omega
      have h4 : ¬ f (k + k / C) = 47 := fun h9 => by
        have h5 := (hsl _ h2).mp h9
        rw [e2, kpos_m (by omega)] at h5
        omega
      obtain ⟨v, hv, ev⟩ := kdig ((hd _ (Nat.zero_le _) h2).resolve_left h4)
      exact ⟨v, fun _ => ⟨hv, by unfold prH; rw [if_pos hk]; exact ev⟩⟩
    · exact ⟨0, fun h => absurd h hk⟩
  refine ⟨fun k => if k < R * C then (key k).choose else 0, fun x hx => ?_, ?_⟩
  · have h1 := ((key x).choose_spec hx).2
    rw [h1]
    show _ = nI (if x < R * C then _ else 0)
    rw [if_pos hx]
  · have h1 := sumN_b (H := fun k => if k < R * C then (key k).choose else 0) (b := 9) (fun x => by
      show (if x < R * C then (key x).choose else 0) ≤ 9
      split
      · exact ((key x).choose_spec (by assumption)).1
      · omega) (R * C)
    omega
theorem kcellx {n : Nat} {x : Int32} (h1 : 1 ≤ n) (hn : n ≤ 192) (h : ¬ x < 0 ∧ ¬ nI (n - 1) < x) : ∃ k, k < n ∧ x = nI k := by
  obtain ⟨j, hj, rfl⟩ := nI_of2 (x := x) (M := nI (n - 1)) (n := n - 1) (nI_toInt (by omega)) h.1 (Int32.not_lt.mp h.2)
  exact ⟨j, by omega, rfl⟩
theorem krng {M : Int32} {n : Nat} {x : Int32} (hM : M.toInt = (n : Int)) (h : ¬ x < 0 ∧ ¬ M < x) : ∃ k, k ≤ n ∧ x = nI k := nI_of2 hM h.1 (Int32.not_lt.mp h.2)
theorem tuI_es {n : Nat} {he ke tu : Nat → Int32} (h : tuI n tu) : tuI n (es2 n he ke tu) := by
  intro c hc
  obtain ⟨t, ht, et⟩ := h c hc
  show ∃ t, t ≤ 100 ∧ es2 n he ke tu c = nI t
  unfold es2
  rw [if_pos hc, ← sn_es (he := he) (ke := ke) ht et]
  unfold sn2
  by_cases h1 : sn1 (he c - ke c) (tu c) < 0
  · rw [if_pos h1]; exact ⟨0, by omega, rfl⟩
  · rw [if_neg h1]
    by_cases h2 : 100 < sn1 (he c - ke c) (tu c)
    · rw [if_pos h2]; exact ⟨100, by omega, rfl⟩
    · rw [if_neg h2]
      obtain ⟨j, hj, ej⟩ := nI_of2 (x := sn1 (he c - ke c) (tu c)) (M := 100) (n := 100) rfl h1 (Int32.not_lt.mp h2)
      exact ⟨j, hj, ej⟩
theorem tuI_up {n k v : Nat} {tu : Nat → Int32} (h : tuI n tu) (hv : v ≤ 100) : tuI n (upd tu k (nI v)) := by
  intro c hc
  unfold upd
  split
  · exact ⟨v, hv, rfl⟩
  · exact h c hc
theorem tuI_0 {n : Nat} : tuI n (fun _ => 0) := fun _ _ => ⟨0, by omega, rfl⟩
/-- settings that are set -/
theorem stB_ok {j : Nat} {v : Int32} {st : Nat → Int32} {hp : Nat} (hj : j < 4) (hv : stB (nI j) v = true) (h0 : st 0 = nI hp) (h1 : 1 ≤ hp) (h8 : hp ≤ 8) (h3 : 1 ≤ (st 3).toInt) : ∃ hp', upd st j v 0 = nI hp' ∧ 1 ≤ hp' ∧ hp' ≤ 8 ∧ 1 ≤ (upd st j v 3).toInt := by
  have e1 : (1 : Int32).toInt = 1 := rfl
  rcases (show j = 0 ∨ j = 3 ∨ (j = 1 ∨ j = 2) by omega) with rfl | rfl | hj2
  · have h2 : stB (nI 0) v = decide (¬ v < 1 ∧ ¬ 8 < v) := by unfold stB; rw [if_pos (by decide)]
    rw [h2, decide_eq_true_eq] at hv
    have h9 : ¬ v < 0 := fun h9 => hv.1 (Int32.lt_trans h9 (by decide))
    obtain ⟨i, hi, rfl⟩ := nI_of2 (x := v) (M := 8) (n := 8) rfl h9 (Int32.not_lt.mp hv.2)
    refine ⟨i, pk_us, ?_, hi, ?_⟩
    · rcases Nat.lt_or_ge i 1 with h7 | h7
      · exact absurd (nI_lt (a := i) (b := 1) h7 (by decide)) hv.1
      · exact h7
    · rw [pk_un (by decide)]; exact h3
  · have h2 : stB (nI 3) v = decide (¬ v < 1 ∧ ¬ 5 < v) := by unfold stB; rw [if_neg (by decide), if_neg (by decide), if_pos (by decide)]
    rw [h2, decide_eq_true_eq] at hv
    refine ⟨hp, by rw [pk_un (by decide)]; exact h0, h1, h8, ?_⟩
    rw [pk_us]
    have h7 := hv.1
    rw [Int32.lt_iff_toInt_lt, e1] at h7
    omega
  · refine ⟨hp, by rw [pk_un (by omega)]; exact h0, h1, h8, by rw [pk_un (by omega)]; exact h3⟩
