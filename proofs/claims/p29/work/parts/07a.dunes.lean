/-! DUNES: labels, what a flood reaches, counts -/
/-- x can be reached from c over open cells: at least t high, without a label -/
def rch (h w : Nat) (he : Nat → Int32) (t : Int32) (lab : Nat → Nat) (c x : Nat) : Prop :=
  ∀ P : Nat → Prop, P c → (∀ y k, P y → k < 4 → ¬ he (nbr h w y k) < t → lab (nbr h w y k) = 0 → P (nbr h w y k)) → P x
theorem rch_c {h w : Nat} {he : Nat → Int32} {t : Int32} {lab : Nat → Nat} {c : Nat} : rch h w he t lab c c := fun _ h0 _ => h0
theorem rch_s {h w : Nat} {he : Nat → Int32} {t : Int32} {lab : Nat → Nat} {c y k : Nat} (hy : rch h w he t lab c y) (hk : k < 4) (h1 : ¬ he (nbr h w y k) < t) (h2 : lab (nbr h w y k) = 0) : rch h w he t lab c (nbr h w y k) :=
  fun P p0 ps => ps y k (hy P p0 ps) hk h1 h2
theorem rch_lt {h w : Nat} {he : Nat → Int32} {t : Int32} {lab : Nat → Nat} {c x : Nat} (hG : kG h w) (hc : c < h * w) (hx : rch h w he t lab c x) : x < h * w :=
  hx (fun y => y < h * w) hc (fun _ k hy _ _ _ => nbr_lt k hG hy)
/-- the labels behind a flood from c with the label num -/
noncomputable def sprL (h w : Nat) (he : Nat → Int32) (t : Int32) (lab : Nat → Nat) (num c : Nat) : Nat → Nat := fun x => @ite Nat (rch h w he t lab c x) (Classical.propDecidable _) num (lab x)
theorem sprL_y {h w : Nat} {he : Nat → Int32} {t : Int32} {lab : Nat → Nat} {num c x : Nat} (hx : rch h w he t lab c x) : sprL h w he t lab num c x = num := if_pos hx
theorem sprL_n {h w : Nat} {he : Nat → Int32} {t : Int32} {lab : Nat → Nat} {num c x : Nat} (hx : ¬ rch h w he t lab c x) : sprL h w he t lab num c x = lab x := if_neg hx
/-- labels in the midst of a flood -/
def flI (h w : Nat) (he : Nat → Int32) (t : Int32) (lab : Nat → Nat) (num c : Nat) (L : Nat → Nat) : Prop :=
  L c = num ∧ (∀ x, L x = num → rch h w he t lab c x) ∧ (∀ x, L x ≠ num → L x = lab x)
theorem flI_eq {h w : Nat} {he : Nat → Int32} {t : Int32} {lab : Nat → Nat} {num c : Nat} {L : Nat → Nat} (hL : flI h w he t lab num c L)
    (hcl : ∀ x k, L x = num → k < 4 → ¬ he (nbr h w x k) < t → lab (nbr h w x k) = 0 → L (nbr h w x k) = num) : L = sprL h w he t lab num c := by
  funext x
  by_cases hx : rch h w he t lab c x
  · rw [sprL_y hx]
    exact hx (fun y => L y = num) hL.1 (fun y k hy hk h1 h2 => hcl y k hy hk h1 h2)
  · rw [sprL_n hx]
    exact hL.2.2 x (fun h9 => hx (hL.2.1 x h9))
theorem flI_0 {h w : Nat} {he : Nat → Int32} {t : Int32} {lab : Nat → Nat} {num c : Nat} (hf : ∀ x, lab x < num) : flI h w he t lab num c (va_up lab c num) := by
  refine ⟨va_up_self _ _ _, fun x hx => ?_, fun x hx => ?_⟩
  · by_cases h9 : x = c
    · rw [h9]; exact rch_c
    · rw [va_up_ne _ _ h9] at hx
      have := hf x
      omega
  · by_cases h9 : x = c
    · rw [h9, va_up_self] at hx; exact absurd rfl hx
    · exact va_up_ne _ _ h9
theorem flI_s {h w : Nat} {he : Nat → Int32} {t : Int32} {lab : Nat → Nat} {num c : Nat} {L : Nat → Nat} (hL : flI h w he t lab num c L) {y k : Nat} (hy : L y = num) (hk : k < 4) (h1 : ¬ he (nbr h w y k) < t) (h2 : L (nbr h w y k) = 0) (hn : 0 < num) :
    flI h w he t lab num c (va_up L (nbr h w y k) num) := by
  have h3 : lab (nbr h w y k) = 0 := by rw [← hL.2.2 _ (by omega)]; exact h2
  refine ⟨?_, fun x hx => ?_, fun x hx => ?_⟩
  · by_cases h9 : c = nbr h w y k
    · rw [← h9]; exact va_up_self _ _ _
    · rw [va_up_ne _ _ h9]; exact hL.1
  · by_cases h9 : x = nbr h w y k
    · rw [h9]; exact rch_s (hL.2.1 y hy) hk h1 h3
    · rw [va_up_ne _ _ h9] at hx; exact hL.2.1 x hx
  · by_cases h9 : x = nbr h w y k
    · rw [h9, va_up_self] at hx; exact absurd rfl hx
    · rw [va_up_ne _ _ h9] at hx ⊢; exact hL.2.2 x hx
/-- how many cells bear a label; the sum of their heights -/
def cntL (L : Nat → Nat) (v : Nat) : Nat → Nat
  | 0 => 0
  | n + 1 => cntL L v n + (if L n = v then 1 else 0)
def sumL (he : Nat → Int32) (L : Nat → Nat) (v : Nat) : Nat → Int32
  | 0 => 0
  | n + 1 => sumL he L v n + (if L n = v then he n else 0)
theorem cntL_s (L : Nat → Nat) (v n : Nat) : cntL L v (n + 1) = cntL L v n + (if L n = v then 1 else 0) := rfl
theorem sumL_s (he : Nat → Int32) (L : Nat → Nat) (v n : Nat) : sumL he L v (n + 1) = sumL he L v n + (if L n = v then he n else 0) := rfl
theorem cntL_le (L : Nat → Nat) (v : Nat) : ∀ n, cntL L v n ≤ n
  | 0 => Nat.le_refl _
  | n + 1 => by
    have := cntL_le L v n
    rw [cntL_s]
    split <;> omega
theorem cntL_far {L : Nat → Nat} {v x : Nat} : ∀ n, n ≤ x → cntL (va_up L x v) v n = cntL L v n
  | 0, _ => rfl
  | n + 1, h => by rw [cntL_s, cntL_s, cntL_far n (by omega), va_up_ne _ _ (by omega)]
theorem cntL_up {L : Nat → Nat} {v x : Nat} (hx : L x ≠ v) : ∀ n, x < n → cntL (va_up L x v) v n = cntL L v n + 1
  | 0, h => absurd h (Nat.not_lt_zero _)
  | n + 1, h => by
    rw [cntL_s, cntL_s]
    by_cases h9 : x = n
    · subst h9
      rw [cntL_far x (Nat.le_refl _), va_up_self, if_pos rfl, if_neg hx]
    · rw [cntL_up hx n (by omega), va_up_ne _ _ (fun e => h9 e.symm)]
      omega
theorem sumL_far {he : Nat → Int32} {L : Nat → Nat} {v x : Nat} : ∀ n, n ≤ x → sumL he (va_up L x v) v n = sumL he L v n
  | 0, _ => rfl
  | n + 1, h => by rw [sumL_s, sumL_s, sumL_far n (by omega), va_up_ne _ _ (by omega)]
theorem sumL_up {he : Nat → Int32} {L : Nat → Nat} {v x : Nat} (hx : L x ≠ v) : ∀ n, x < n → sumL he (va_up L x v) v n = sumL he L v n + he x
  | 0, h => absurd h (Nat.not_lt_zero _)
  | n + 1, h => by
    rw [sumL_s, sumL_s]
    by_cases h9 : x = n
    · subst h9
      rw [sumL_far x (Nat.le_refl _), va_up_self, if_pos rfl, if_neg hx, Int32.add_zero]
    · rw [sumL_up hx n (by omega), va_up_ne _ _ (fun e => h9 e.symm), Int32.add_assoc, Int32.add_assoc, Int32.add_comm (he x)]
theorem cntL_0 {L : Nat → Nat} {v : Nat} (h : ∀ x, L x ≠ v) : ∀ n, cntL L v n = 0
  | 0 => rfl
  | n + 1 => by rw [cntL_s, cntL_0 h n, if_neg (h n)]
theorem sumL_0 {he : Nat → Int32} {L : Nat → Nat} {v : Nat} (h : ∀ x, L x ≠ v) : ∀ n, sumL he L v n = 0
  | 0 => rfl
  | n + 1 => by rw [sumL_s, sumL_0 h n, if_neg (h n)]; rfl
/-- a queue's sum -/
def qsm (he : Nat → Int32) (q : Nat → Nat) : Nat → Int32
  | 0 => 0
  | n + 1 => qsm he q n + he (q n)
theorem qsm_s (he : Nat → Int32) (q : Nat → Nat) (n : Nat) : qsm he q (n + 1) = qsm he q n + he (q n) := rfl
theorem qsm_far {he : Nat → Int32} {q : Nat → Nat} {m x : Nat} : ∀ n, n ≤ m → qsm he (va_up q m x) n = qsm he q n
  | 0, _ => rfl
  | n + 1, h => by rw [qsm_s, qsm_s, qsm_far n (by omega), va_up_ne _ _ (by omega)]
/-- the flood by a queue: m cells in it -/
def flQ (h w : Nat) (he : Nat → Int32) (num : Nat) (L : Nat → Nat) (q : Nat → Nat) (m : Nat) : Prop :=
  (∀ j, j < m → q j < h * w ∧ L (q j) = num) ∧ (∀ x, x < h * w → L x = num → ∃ j, j < m ∧ q j = x) ∧ cntL L num (h * w) = m ∧ sumL he L num (h * w) = qsm he q m
theorem flQ_0 {h w : Nat} {he : Nat → Int32} {num c : Nat} {lab : Nat → Nat} (hc : c < h * w) (hf : ∀ x, lab x < num) : flQ h w he num (va_up lab c num) (fun _ => c) 1 := by
  have hne : ∀ x, lab x ≠ num := fun x => Nat.ne_of_lt (hf x)
  refine ⟨fun j _ => ⟨hc, va_up_self _ _ _⟩, fun x _ hx => ⟨0, by decide, ?_⟩, ?_, ?_⟩
  · by_cases h9 : x = c
    · exact h9.symm
    · rw [va_up_ne _ _ h9] at hx; exact absurd hx (hne x)
  · rw [cntL_up (hne c) _ hc, cntL_0 hne]
  · rw [sumL_up (hne c) _ hc, sumL_0 hne]; rfl
theorem flQ_s {h w : Nat} {he : Nat → Int32} {num x m : Nat} {L q : Nat → Nat} (hQ : flQ h w he num L q m) (hx : x < h * w) (hxn : L x ≠ num) : flQ h w he num (va_up L x num) (va_up q m x) (m + 1) := by
  obtain ⟨h1, h2, h3, h4⟩ := hQ
  refine ⟨fun j hj => ?_, fun y hy hyn => ?_, ?_, ?_⟩
  · by_cases h9 : j = m
    · rw [h9, va_up_self]; exact ⟨hx, va_up_self _ _ _⟩
    · rw [va_up_ne _ _ h9]
      obtain ⟨a1, a2⟩ := h1 j (by omega)
      refine ⟨a1, ?_⟩
      rw [va_up_ne]
      · exact a2
      · intro e9; rw [e9] at a2; exact hxn a2
  · by_cases h9 : y = x
    · exact ⟨m, by omega, by rw [va_up_self]; exact h9.symm⟩
    · rw [va_up_ne _ _ h9] at hyn
      obtain ⟨j, a1, a2⟩ := h2 y hy hyn
      exact ⟨j, by omega, by rw [va_up_ne _ _ (by omega)]; exact a2⟩
  · rw [cntL_up hxn _ hx, h3]
  · rw [sumL_up hxn _ hx, h4, qsm_s, va_up_self, qsm_far m (Nat.le_refl _)]
theorem flQ_le {h w : Nat} {he : Nat → Int32} {num m : Nat} {L q : Nat → Nat} (hQ : flQ h w he num L q m) : m ≤ h * w := by
  rw [← hQ.2.2.1]; exact cntL_le _ _ _
theorem flQ_lt {h w : Nat} {he : Nat → Int32} {num m x : Nat} {L q : Nat → Nat} (hQ : flQ h w he num L q m) (hx : x < h * w) (hxn : L x ≠ num) : m < h * w := by
  have := flQ_le (flQ_s hQ hx hxn)
  omega
/-- what is closed: the cells of the queue before i, and k sides of i -/
def clI (h w : Nat) (he : Nat → Int32) (t : Int32) (lab : Nat → Nat) (num : Nat) (L q : Nat → Nat) (i k : Nat) : Prop :=
  ∀ j k' : Nat, ((j < i ∧ k' < 4) ∨ (j = i ∧ k' < k)) → ¬ he (nbr h w (q j) k') < t → lab (nbr h w (q j) k') = 0 → L (nbr h w (q j) k') = num
theorem clI_0 {h w : Nat} {he : Nat → Int32} {t : Int32} {lab : Nat → Nat} {num : Nat} {L q : Nat → Nat} : clI h w he t lab num L q 0 0 := fun j k' hj => by omega
theorem clI_next {h w : Nat} {he : Nat → Int32} {t : Int32} {lab : Nat → Nat} {num i : Nat} {L q : Nat → Nat} (hC : clI h w he t lab num L q i 4) : clI h w he t lab num L q (i + 1) 0 := fun j k' hj => hC j k' (by omega)
theorem clI_same {h w : Nat} {he : Nat → Int32} {t : Int32} {lab : Nat → Nat} {num i k : Nat} {L q : Nat → Nat} (hC : clI h w he t lab num L q i k) (h1 : ¬ he (nbr h w (q i) k) < t → lab (nbr h w (q i) k) = 0 → L (nbr h w (q i) k) = num) : clI h w he t lab num L q i (k + 1) := by
  intro j k' hj a1 a2
  by_cases h9 : j = i ∧ k' = k
  · obtain ⟨rfl, rfl⟩ := h9
    exact h1 a1 a2
  · exact hC j k' (by omega) a1 a2
theorem clI_push {h w : Nat} {he : Nat → Int32} {t : Int32} {lab : Nat → Nat} {num i k m : Nat} {L q : Nat → Nat} (hC : clI h w he t lab num L q i k) (hi : i < m) : clI h w he t lab num (va_up L (nbr h w (q i) k) num) (va_up q m (nbr h w (q i) k)) i (k + 1) := by
  have hq : ∀ j, j ≤ i → va_up q m (nbr h w (q i) k) j = q j := fun j hj => va_up_ne _ _ (by omega)
  intro j k' hj
  rw [hq j (by omega)]
  intro a1 a2
  by_cases h8 : nbr h w (q j) k' = nbr h w (q i) k
  · rw [h8, va_up_self]
  · rw [va_up_ne _ _ h8]
    by_cases h9 : j = i ∧ k' = k
    · obtain ⟨rfl, rfl⟩ := h9
      exact absurd rfl h8
    · exact hC j k' (by omega) a1 a2
theorem flQ_end {h w : Nat} {he : Nat → Int32} {t : Int32} {lab : Nat → Nat} {num c m i : Nat} {L q : Nat → Nat} (hG : kG h w) (hc : c < h * w) (hL : flI h w he t lab num c L) (hQ : flQ h w he num L q m) (hC : clI h w he t lab num L q i 0) (hi : m ≤ i) : L = sprL h w he t lab num c := by
  refine flI_eq hL (fun x k hx hk h1 h2 => ?_)
  obtain ⟨j, a1, a2⟩ := hQ.2.1 x (rch_lt hG hc (hL.2.1 x hx)) hx
  subst a2
  exact hC j k (Or.inl ⟨by omega, hk⟩) h1 h2
/-- all dunes: labels and how many, from the cells before i -/
noncomputable def dnL (h w : Nat) (he : Nat → Int32) (t : Int32) : Nat → (Nat → Nat) × Nat
  | 0 => (fun _ => 0, 0)
  | i + 1 => @ite _ (¬ he i < t ∧ (dnL h w he t i).1 i = 0) (Classical.propDecidable _) (sprL h w he t (dnL h w he t i).1 ((dnL h w he t i).2 + 1) i, (dnL h w he t i).2 + 1) (dnL h w he t i)
theorem dnL_y {h w : Nat} {he : Nat → Int32} {t : Int32} {i : Nat} (h1 : ¬ he i < t) (h2 : (dnL h w he t i).1 i = 0) : dnL h w he t (i + 1) = (sprL h w he t (dnL h w he t i).1 ((dnL h w he t i).2 + 1) i, (dnL h w he t i).2 + 1) := if_pos ⟨h1, h2⟩
theorem dnL_n {h w : Nat} {he : Nat → Int32} {t : Int32} {i : Nat} (h1 : ¬ (¬ he i < t ∧ (dnL h w he t i).1 i = 0)) : dnL h w he t (i + 1) = dnL h w he t i := if_neg h1
theorem dnL_le {h w : Nat} {he : Nat → Int32} {t : Int32} : ∀ i, (dnL h w he t i).2 ≤ i
  | 0 => Nat.le_refl _
  | i + 1 => by
    have h9 := dnL_le (h := h) (w := w) (he := he) (t := t) i
    by_cases h1 : ¬ he i < t ∧ (dnL h w he t i).1 i = 0
    · rw [dnL_y h1.1 h1.2]; exact Nat.succ_le_succ h9
    · rw [dnL_n h1]; omega
theorem dnL_lb {h w : Nat} {he : Nat → Int32} {t : Int32} : ∀ i x, (dnL h w he t i).1 x ≤ (dnL h w he t i).2
  | 0, _ => Nat.le_refl _
  | i + 1, x => by
    have h9 := dnL_lb (h := h) (w := w) (he := he) (t := t) i x
    by_cases h1 : ¬ he i < t ∧ (dnL h w he t i).1 i = 0
    · rw [dnL_y h1.1 h1.2]
      by_cases hx : rch h w he t (dnL h w he t i).1 i x
      · show sprL _ _ _ _ _ _ _ _ ≤ _
        rw [sprL_y hx]; exact Nat.le_refl _
      · show sprL _ _ _ _ _ _ _ _ ≤ _
        rw [sprL_n hx]; exact Nat.le_succ_of_le h9
    · rw [dnL_n h1]; exact h9
