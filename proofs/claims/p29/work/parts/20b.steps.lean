/-! STEPS: what a step keeps: the sum of heights, the counts of reasons, fences, the latest step -/
theorem nb_sumI_s (f : Nat → Int32) (n : Nat) : sumI f (n + 1) = sumI f n + f n := rfl
theorem nb_sum_far {f : Nat → Int32} {x : Nat} {v : Int32} : ∀ n, n ≤ x → sumI (upd f x v) n = sumI f n
  | 0, _ => rfl
  | n + 1, h => by rw [nb_sumI_s, nb_sumI_s, nb_sum_far n (by omega), pk_un (by omega)]
theorem nb_sum_up {f : Nat → Int32} {x : Nat} {v : Int32} : ∀ n, x < n → sumI (upd f x v) n = sumI f n + (v - f x)
  | 0, h => absurd h (Nat.not_lt_zero _)
  | n + 1, h => by
    rw [nb_sumI_s, nb_sumI_s]
    by_cases h9 : x = n
    · subst h9
      rw [nb_sum_far x (Nat.le_refl _), pk_us, Int32.add_assoc, Int32.add_comm (f x), Int32.sub_add_cancel]
    · rw [pk_un (fun e => h9 e.symm), nb_sum_up n (by omega), Int32.add_assoc, Int32.add_assoc, Int32.add_comm (v - f x)]
theorem nb_sum_c {f g : Nat → Int32} : ∀ n, (∀ x, x < n → f x = g x) → sumI f n = sumI g n
  | 0, _ => rfl
  | n + 1, h => by rw [nb_sumI_s, nb_sumI_s, nb_sum_c n (fun x hx => h x (by omega)), h n (by omega)]
theorem nb_dd (a b : Int32) : (a + b) - a = b := by rw [Int32.add_comm, Int32.add_sub_cancel]
theorem nb_sum_d {f : Nat → Int32} {x n : Nat} {v : Int32} (hx : x < n) : sumI (upd f x (f x + v)) n = sumI f n + v := by
  rw [nb_sum_up n hx, nb_dd]
theorem nb_sld {g : Nat → Int32} {f t n : Nat} (hf : f < n) (ht : t < n) : sumI (sld g f t) n = sumI g n := by
  unfold sld
  rw [nb_sum_d ht, nb_sum_d hf, Int32.add_assoc]
  exact Int32.add_zero _
theorem nb_slF {h w : Nat} {sl : Int32} (hG : kG h w) : ∀ (n : Nat) (he co : Nat → Int32) (c : Nat), c < h * w → sumI (slF h w sl n he co c).1 (h * w) = sumI he (h * w) ∧ ∀ j, j ≠ 9 → (slF h w sl n he co c).2 j = co j
  | 0, _, _, _, _ => ⟨rfl, fun _ _ => rfl⟩
  | n + 1, he, co, c, hc => by
    rw [slF_s]
    split
    · exact ⟨rfl, fun _ _ => rfl⟩
    · have hl := lowN_lt (he := he) hG hc 3
      obtain ⟨i1, i2⟩ := nb_slF (sl := sl) hG n (sld he c (lowN h w he c 3)) (c9 co) (lowN h w he c 3) hl
      refine ⟨i1.trans (nb_sld hc hl), fun j hj => (i2 j hj).trans ?_⟩
      unfold c9
      exact pk_un hj
theorem nb_slI {h w : Nat} {sl : Int32} (hG : kG h w) : ∀ (n : Nat) (he co : Nat → Int32) (c : Nat), c < h * w → sumI (slI h w sl n he co c).1 (h * w) = sumI he (h * w) ∧ ∀ j, j ≠ 9 → (slI h w sl n he co c).2 j = co j
  | 0, _, _, _, _ => ⟨rfl, fun _ _ => rfl⟩
  | n + 1, he, co, c, hc => by
    rw [slI_s]
    split
    · exact ⟨rfl, fun _ _ => rfl⟩
    · have hl := higN_lt (he := he) hG hc 3
      obtain ⟨i1, i2⟩ := nb_slI (sl := sl) hG n (sld he (higN h w he c 3) c) (c9 co) (higN h w he c 3) hl
      refine ⟨i1.trans (nb_sld hl hc), fun j hj => (i2 j hj).trans ?_⟩
      unfold c9
      exact pk_un hj
theorem nb_mvC {h w d c j : Nat} {co : Nat → Int32} (hj : j < 10) : mvC h w d co c j = co j := by
  unfold mvC
  split
  · exact pk_un (by omega)
  · split
    · exact pk_un (by omega)
    · rfl
theorem nb_hopF {h w d : Nat} {ca tr : Nat → Int32} {j : Nat} (hj : j < 10) : ∀ (n c : Nat) (co : Nat → Int32), (hopF h w d ca tr n c co).2 j = co j
  | 0, _, _ => rfl
  | n + 1, c, co => by
    rw [hopF_s]
    split
    · exact nb_mvC hj
    · exact (nb_hopF hj n _ _).trans (nb_mvC hj)
/-- the reasons to stay -/
theorem nb_rs {h w d : Nat} {st he tu ca tr : Nat → Int32} {c k n0 : Nat} : ((rsS h w d st he tu ca tr c k n0).1 = 0 ∧ k < 12) ∨ (5 ≤ (rsS h w d st he tu ca tr c k n0).1 ∧ (rsS h w d st he tu ca tr c k n0).1 ≤ 8 ∧ ((rsS h w d st he tu ca tr c k n0).1 = 5 → opnB ca tr c = true)) := by
  unfold rsS
  by_cases h1 : opnB ca tr c = true
  · rw [if_pos h1]; exact Or.inr ⟨Nat.le_refl 5, (by decide : 5 ≤ 8), fun _ => h1⟩
  · rw [if_neg h1]
    by_cases h2 : shd h w d he c = true
    · rw [if_pos h2]; exact Or.inr ⟨(by decide : 5 ≤ 6), (by decide : 6 ≤ 8), fun h9 => absurd (show (6 : Nat) = 5 from h9) (by decide)⟩
    · rw [if_neg h2]
      by_cases h3 : gnd st he c + tu c ≤ nI (d100 n0)
      · rw [if_pos h3]
        show (hop12 k = 0 ∧ k < 12) ∨ (5 ≤ hop12 k ∧ hop12 k ≤ 8 ∧ (hop12 k = 5 → _))
        unfold hop12
        by_cases h4 : k < 12
        · rw [if_pos h4]; exact Or.inl ⟨rfl, h4⟩
        · rw [if_neg h4]; exact Or.inr ⟨by decide, by decide, fun h9 => absurd h9 (by decide)⟩
      · rw [if_neg h3]; exact Or.inr ⟨(by decide : 5 ≤ 7), (by decide : 7 ≤ 8), fun h9 => absurd (show (7 : Nat) = 5 from h9) (by decide)⟩
/-- the reasons to lie -/
theorem nb_rl {h w d : Nat} {he tu ca : Nat → Int32} {c n0 : Nat} (h0 : ¬ (rlS h w d he tu ca c n0).1 = 0) : 1 ≤ (rlS h w d he tu ca c n0).1 ∧ (rlS h w d he tu ca c n0).1 ≤ 4 := by
  revert h0
  unfold rlS
  split
  · exact fun _ => ⟨(by decide : 1 ≤ 1), (by decide : 1 ≤ 4)⟩
  · split
    · exact fun _ => ⟨(by decide : 1 ≤ 2), (by decide : 2 ≤ 4)⟩
    · split
      · exact fun _ => ⟨(by decide : 1 ≤ 3), (by decide : 3 ≤ 4)⟩
      · split
        · exact fun h9 => absurd rfl h9
        · exact fun _ => ⟨(by decide : 1 ≤ 4), (by decide : 4 ≤ 4)⟩
/-- the flight's end -/
theorem nb_fly {h w d hp : Nat} {st he tu ca tr : Nat → Int32} : ∀ (m c k : Nat) (co : Nat → Int32) (n0 : Nat), 0 < m → m + k = 12 →
    5 ≤ (fly h w d hp st he tu ca tr m c k co n0).1 ∧ (fly h w d hp st he tu ca tr m c k co n0).1 ≤ 8 ∧ ((fly h w d hp st he tu ca tr m c k co n0).1 = 5 → opnB ca tr (fly h w d hp st he tu ca tr m c k co n0).2.1 = true) ∧
    (fly h w d hp st he tu ca tr m c k co n0).2.2.1 ≤ 12 ∧ ∀ j, j < 10 → (fly h w d hp st he tu ca tr m c k co n0).2.2.2.1 j = co j
  | 0, _, _, _, _, h, _ => absurd h (Nat.lt_irrefl _)
  | m + 1, c, k, co, n0, _, hk => by
    rw [fly_s]
    have hr := nb_rs (h := h) (w := w) (d := d) (st := st) (he := he) (tu := tu) (ca := ca) (tr := tr) (c := (hopF h w d ca tr hp c co).1) (k := k + 1) (n0 := n0)
    by_cases h0 : (rsS h w d st he tu ca tr (hopF h w d ca tr hp c co).1 (k + 1) n0).1 = 0
    · rw [if_pos h0]
      have hk2 : k + 1 < 12 := by
        rcases hr with h9 | h9
        · exact h9.2
        · rw [h0] at h9; exact absurd h9.1 (by decide)
      obtain ⟨i1, i2, i3, i4, i5⟩ := nb_fly (h := h) (w := w) (d := d) (hp := hp) (st := st) (he := he) (tu := tu) (ca := ca) (tr := tr) m (hopF h w d ca tr hp c co).1 (k + 1) (hopF h w d ca tr hp c co).2 (rsS h w d st he tu ca tr (hopF h w d ca tr hp c co).1 (k + 1) n0).2 (by omega) (by omega)
      exact ⟨i1, i2, i3, i4, fun j hj => (i5 j hj).trans (nb_hopF hj _ _ _)⟩
    · rw [if_neg h0]
      rcases hr with h9 | h9
      · exact absurd h9.1 h0
      · exact ⟨h9.1, h9.2.1, h9.2.2, (show k + 1 ≤ 12 by omega), fun j hj => nb_hopF hj _ _ _⟩
/-- fences -/
def fnI (ca tr : Nat → Int32) : Prop := ∀ k, ca k = -1 ∨ ∃ c t : Nat, 1 ≤ c ∧ c ≤ 50 ∧ t ≤ c ∧ ca k = nI c ∧ tr k = nI t
/-- what is trapped in a cell, 0 without a fence -/
def tpI (ca tr : Nat → Int32) : Nat → Int32 := fun k => if 0 < trpN ca tr k then trpN ca tr k else 0
theorem tp_fence {ca tr : Nat → Int32} {k c t : Nat} (hc : 1 ≤ c ∧ c ≤ 50) (ht : t ≤ c) (e1 : ca k = nI c) (e2 : tr k = nI t) : tpI ca tr k = nI t := by
  have h1 : ¬ ca k = -1 := fun h9 => by
    rw [e1] at h9
    exact absurd (nI_pos (n := c) (by omega)) (by rw [h9]; decide)
  unfold tpI trpN
  rw [if_neg h1, e2]
  by_cases h0 : t = 0
  · rw [h0]; rfl
  · rw [if_pos (show (0 : Int32) < nI t from (nI_lt (a := 0) (b := t) (by omega) (by omega)))]
theorem tp_none {ca tr : Nat → Int32} {k : Nat} (e1 : ca k = -1) : tpI ca tr k = 0 := by
  unfold tpI trpN
  rw [if_pos e1]
  rfl
theorem tp_v {ca tr : Nat → Int32} (hF : fnI ca tr) (k : Nat) : ∃ t, t ≤ 50 ∧ tpI ca tr k = nI t := by
  rcases hF k with h1 | ⟨c, t, h1, h2, h3, h4, h5⟩
  · exact ⟨0, by omega, tp_none h1⟩
  · exact ⟨t, by omega, tp_fence ⟨h1, h2⟩ h3 h4 h5⟩
theorem tp_sum {ca tr : Nat → Int32} (hF : fnI ca tr) : ∀ n, ∃ A, A ≤ 50 * n ∧ sumI (tpI ca tr) n = nI A
  | 0 => ⟨0, by omega, rfl⟩
  | n + 1 => by
    obtain ⟨A, h1, h2⟩ := tp_sum hF n
    obtain ⟨t, h3, h4⟩ := tp_v hF n
    exact ⟨A + t, by omega, by rw [nb_sumI_s, h2, h4, nI_add]⟩
/-- an open fence traps one more -/
theorem tp_trap {ca tr : Nat → Int32} {x n : Nat} (hF : fnI ca tr) (hx : x < n) (ho : opnB ca tr x = true) : fnI ca (upd tr x (tr x + 1)) ∧ sumI (tpI ca (upd tr x (tr x + 1))) n = sumI (tpI ca tr) n + nI 1 := by
  unfold opnB at ho
  simp only [Bool.and_eq_true, decide_eq_true_eq] at ho
  rcases hF x with h1 | ⟨c, t, h1, h2, h3, h4, h5⟩
  · exact absurd h1 ho.1
  · have h6 : t < c := by
      have h9 := ho.2
      rw [h4, h5] at h9
      exact (nI_ltI (by omega) (by omega)).mp h9
    have e1 : upd tr x (tr x + 1) x = nI (t + 1) := by rw [pk_us, h5, nI_1]
    refine ⟨fun k => ?_, ?_⟩
    · by_cases hk : k = x
      · rw [hk]; exact Or.inr ⟨c, t + 1, h1, h2, h6, h4, e1⟩
      · rw [pk_un hk]; exact hF k
    · have e2 : sumI (tpI ca (upd tr x (tr x + 1))) n = sumI (upd (tpI ca tr) x (tpI ca tr x + nI 1)) n := by
        refine nb_sum_c n (fun k hk => ?_)
        by_cases h9 : k = x
        · rw [h9, pk_us, tp_fence ⟨h1, h2⟩ h6 h4 e1, tp_fence ⟨h1, h2⟩ h3 h4 h5, nI_add]
        · rw [pk_un h9]; unfold tpI trpN; rw [pk_un h9]
      rw [e2, nb_sum_d hx]
/-- the counts: n steps, each with one of the reasons 1 to 8 -/
def ctI (n : Nat) (co : Nat → Int32) : Prop := co 0 = nI n ∧ sumI (fun j => co (j + 1)) 8 = nI n ∧ ∃ m, m ≤ n ∧ co 5 = nI m
theorem ct_c {n : Nat} {co co' : Nat → Int32} (hC : ctI n co) (h : ∀ j, j < 9 → co' j = co j) : ctI n co' := by
  obtain ⟨h1, h2, m, h3, h4⟩ := hC
  exact ⟨(h 0 (by omega)).trans h1, (nb_sum_c 8 (fun j hj => h (j + 1) (by omega))).trans h2, m, h3, (h 5 (by omega)).trans h4⟩
theorem nco_e {co : Nat → Int32} {r j : Nat} (hr : 1 ≤ r) : nco co r j = if j = r then co r + 1 else if j = 0 then co 0 + 1 else co j := by
  unfold nco
  by_cases h1 : j = r
  · rw [if_pos h1, h1, pk_us, pk_un (by omega)]
  · rw [if_neg h1, pk_un h1]
    by_cases h2 : j = 0
    · rw [if_pos h2, h2, pk_us]
    · rw [if_neg h2, pk_un h2]
theorem ct_n {n r : Nat} {co : Nat → Int32} (hC : ctI n co) (h1 : 1 ≤ r) (h8 : r ≤ 8) : ctI (n + 1) (nco co r) ∧ nco co r 5 = co 5 + nI (if r = 5 then 1 else 0) := by
  obtain ⟨c1, c2, m, c3, c4⟩ := hC
  have e5 : nco co r 5 = co 5 + nI (if r = 5 then 1 else 0) := by
    rw [nco_e h1]
    by_cases h9 : r = 5
    · rw [if_pos h9.symm, if_pos h9, h9]; rfl
    · rw [if_neg (fun e => h9 e.symm), if_neg (by decide), if_neg h9]; exact (Int32.add_zero _).symm
  refine ⟨⟨?_, ?_, m + (if r = 5 then 1 else 0), by split <;> omega, ?_⟩, e5⟩
  · rw [nco_e h1, if_neg (by omega), if_pos rfl, c1, nI_1]
  · have e1 : sumI (fun j => nco co r (j + 1)) 8 = sumI (upd (fun j => co (j + 1)) (r - 1) ((fun j => co (j + 1)) (r - 1) + nI 1)) 8 := by
      refine nb_sum_c 8 (fun j hj => ?_)
      show nco co r (j + 1) = _
      rw [nco_e h1]
      by_cases h9 : j + 1 = r
      · rw [if_pos h9, show j = r - 1 by omega, pk_us]
        show _ = co (r - 1 + 1) + nI 1
        rw [show r - 1 + 1 = r by omega]; rfl
      · rw [if_neg h9, if_neg (by omega), pk_un (by omega)]
    rw [e1, nb_sum_d (by omega), c2, nI_add]
  · rw [e5, c4, nI_add]
/-- the latest step -/
def laI (n : Nat) (la : Nat → Int32) : Prop := (n = 0 ∧ la 0 = -1 ∧ la 1 = -1) ∨ (0 < n ∧ ∃ r c k : Nat, 1 ≤ r ∧ r ≤ 8 ∧ c < 1000 ∧ k ≤ 12 ∧ la 0 = nI r ∧ la 1 = nI c ∧ (la 2 = -1 ↔ r < 5) ∧ la 3 = nI k)
/-- all that a step needs and keeps -/
def sOK (h w B n : Nat) (ca : Nat → Int32) (S : stT) : Prop := hI (h * w) S.2.1 B ∧ fnI ca S.2.2.1 ∧ ctI n S.2.2.2.1 ∧ laI n S.2.2.2.2
theorem nb_nm1 {n : Nat} (h : n < 2147483648) : ¬ nI n = -1 := fun h9 => absurd (nI_pos h) (by rw [h9]; decide)
theorem stp_ok {h w d hp B n : Nat} {st tu ca : Nat → Int32} {S : stT} (hG : kG h w) (hB : B < 1000000) (hsl : 1 ≤ (st 3).toInt) (hS : sOK h w B n ca S) :
    sOK h w B (n + 1) ca (stp h w d hp st tu ca S).2 ∧ sumI (stp h w d hp st tu ca S).2.2.1 (h * w) = sumI S.2.1 (h * w) ∧
    ∃ x, x ≤ 1 ∧ sumI (tpI ca (stp h w d hp st tu ca S).2.2.2.1) (h * w) = sumI (tpI ca S.2.2.1) (h * w) + nI x ∧ (stp h w d hp st tu ca S).2.2.2.2.1 5 = S.2.2.2.1 5 + nI x := by
  obtain ⟨hH, hF, hC, hL⟩ := hS
  have hn := kG_n hG
  have hc : drwS S.1 / 65536 % (h * w) < h * w := Nat.mod_lt _ (by omega)
  unfold stp stpA
  generalize drwS S.1 / 65536 % (h * w) = c at hc ⊢
  generalize hrl : rlS h w d S.2.1 tu ca c (drwS S.1) = rl
  by_cases h0 : rl.1 = 0
  · rw [if_pos h0]
    obtain ⟨B1, hB1, hH1⟩ := hI_dec hH hB hc (rlS_0 (h := h) (w := w) (d := d) (tu := tu) (ca := ca) (n0 := drwS S.1) (by rw [hrl]; exact h0))
    have s1 := nb_slI (sl := st 3) hG 1000000 (upd S.2.1 c (S.2.1 c + (-1))) S.2.2.2.1 c hc
    have s2 := slI_H (sl := st 3) hG (by omega) hsl 1000000 (upd S.2.1 c (S.2.1 c + (-1))) S.2.2.2.1 c hc hH1
    unfold car carF carG carH
    generalize slI h w (st 3) 1000000 (upd S.2.1 c (S.2.1 c + (-1))) S.2.2.2.1 c = a1 at s1 s2 ⊢
    have f1 := nb_fly (h := h) (w := w) (d := d) (hp := hp) (st := st) (he := a1.1) (tu := tu) (ca := ca) (tr := S.2.2.1) 12 c 0 a1.2 rl.2 (by decide) rfl
    have f2 := fly_lt (d := d) (hp := hp) (st := st) (he := a1.1) (tu := tu) (ca := ca) (tr := S.2.2.1) hG 12 c 0 a1.2 rl.2 hc
    generalize fly h w d hp st a1.1 tu ca S.2.2.1 12 c 0 a1.2 rl.2 = f at f1 f2 ⊢
    have g1 := nb_slF (sl := st 3) hG 1000000 (upd a1.1 f.2.1 (a1.1 f.2.1 + 1)) f.2.2.2.1 f.2.1 f2
    have g2 := slF_H (sl := st 3) hG (B := B) hB hsl 1000000 (upd a1.1 f.2.1 (a1.1 f.2.1 + 1)) f.2.2.2.1 f.2.1 f2 (by rw [← hB1]; exact hI_inc s2 (by omega) f2)
    generalize slF h w (st 3) 1000000 (upd a1.1 f.2.1 (a1.1 f.2.1 + 1)) f.2.2.2.1 f.2.1 = b at g1 g2 ⊢
    obtain ⟨r1, r2, r3, r4, r5⟩ := f1
    have hco : ∀ j, j < 9 → b.2 j = S.2.2.2.1 j := fun j hj => (g1.2 j (by omega)).trans ((r5 j (by omega)).trans (s1.2 j (by omega)))
    have n1 := ct_n (r := f.1) (ct_c hC hco) (by omega) r2
    have n5 : nco b.2 f.1 5 = S.2.2.2.1 5 + nI (if f.1 = 5 then 1 else 0) := by rw [n1.2, hco 5 (by omega)]
    have esum : sumI b.1 (h * w) = sumI S.2.1 (h * w) := by
      rw [g1.1, nb_sum_d f2, s1.1, nb_sum_d hc, Int32.add_assoc]
      exact Int32.add_zero _
    have hla : laI (n + 1) (laF (nI f.1) (nI c) (nI f.2.1) (nI f.2.2.1)) := Or.inr ⟨by omega, f.1, c, f.2.2.1, by omega, r2, by omega, r4, rfl, rfl, ⟨fun h9 => absurd (show nI f.2.1 = -1 from h9) (nb_nm1 (by omega)), fun h9 => absurd h9 (by omega)⟩, rfl⟩
    by_cases h5 : f.1 = 5
    · have t1 := tp_trap hF f2 (r3 h5)
      rw [if_pos h5] at n5 ⊢
      exact ⟨⟨g2, t1.1, n1.1, hla⟩, esum, 1, Nat.le_refl 1, t1.2, n5⟩
    · rw [if_neg h5] at n5 ⊢
      exact ⟨⟨g2, hF, n1.1, hla⟩, esum, 0, Nat.zero_le 1, (Int32.add_zero _).symm, n5⟩
  · rw [if_neg h0]
    have r1 := nb_rl (h := h) (w := w) (d := d) (he := S.2.1) (tu := tu) (ca := ca) (c := c) (n0 := drwS S.1) (by rw [hrl]; exact h0)
    rw [hrl] at r1
    have n1 := ct_n (r := rl.1) hC r1.1 (by omega)
    have n5 := n1.2
    rw [if_neg (by omega)] at n5
    exact ⟨⟨hH, hF, n1.1, Or.inr ⟨by omega, rl.1, c, 0, r1.1, by omega, by omega, by omega, rfl, rfl, ⟨fun _ => by omega, fun _ => rfl⟩, rfl⟩⟩, rfl, 0, Nat.zero_le 1, (Int32.add_zero _).symm, n5⟩
theorem blo_ok {h w d hp B n : Nat} {st tu ca : Nat → Int32} {S : stT} (hG : kG h w) (hB : B < 1000000) (hsl : 1 ≤ (st 3).toInt) (hS : sOK h w B n ca S) : ∀ m,
    sOK h w B (n + m) ca (blo h w d hp st tu ca m S).2 ∧ sumI (blo h w d hp st tu ca m S).2.2.1 (h * w) = sumI S.2.1 (h * w) ∧
    ∃ x, x ≤ m ∧ sumI (tpI ca (blo h w d hp st tu ca m S).2.2.2.1) (h * w) = sumI (tpI ca S.2.2.1) (h * w) + nI x ∧ (blo h w d hp st tu ca m S).2.2.2.2.1 5 = S.2.2.2.1 5 + nI x
  | 0 => ⟨hS, rfl, 0, Nat.le_refl 0, (Int32.add_zero _).symm, (Int32.add_zero _).symm⟩
  | m + 1 => by
    obtain ⟨i1, i2, x, i3, i4, i5⟩ := blo_ok (d := d) (hp := hp) (tu := tu) hG hB hsl hS m
    obtain ⟨j1, j2, y, j3, j4, j5⟩ := stp_ok (d := d) (hp := hp) (tu := tu) hG hB hsl i1
    rw [blo_s]
    refine ⟨j1, j2.trans i2, x + y, by omega, ?_, ?_⟩
    · exact j4.trans (by rw [i4, Int32.add_assoc, nI_add])
    · exact j5.trans (by rw [i5, Int32.add_assoc, nI_add])
theorem blo_add {h w d hp : Nat} {st tu ca : Nat → Int32} {S : stT} (m : Nat) : ∀ n, blo h w d hp st tu ca (m + n) S = ((blo h w d hp st tu ca m S).1 + (blo h w d hp st tu ca n (blo h w d hp st tu ca m S).2).1, (blo h w d hp st tu ca n (blo h w d hp st tu ca m S).2).2)
  | 0 => rfl
  | n + 1 => by
    rw [show m + (n + 1) = (m + n) + 1 from rfl, blo_s, blo_add m n, blo_s]
    show (_ + _ + _, _) = (_ + (_ + _), _)
    rw [Nat.add_assoc]
