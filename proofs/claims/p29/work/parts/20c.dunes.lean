/-! RELIEF AND DUNES: what the answers say of each other -/
theorem hi_max {f : Nat → Int32} : ∀ n x, x < n → f x ≤ f (hiC f n)
  | 0, _, h => absurd h (Nat.not_lt_zero _)
  | n + 1, x, h => by
    rw [hiC_s]
    by_cases h1 : f n ≤ f (hiC f n)
    · rw [if_pos h1]
      by_cases h9 : x = n
      · rw [h9]; exact h1
      · exact hi_max n x (by omega)
    · rw [if_neg h1]
      by_cases h9 : x = n
      · rw [h9]; exact Int32.le_refl _
      · exact Int32.le_trans (hi_max n x (by omega)) (Int32.le_of_lt (Int32.not_le.mp h1))
theorem rlf_0 (h w : Nat) (he : Nat → Int32) : rlfN h w he 0 = he (hiC he (h * w)) := rfl
theorem rlf_1 (h w : Nat) (he : Nat → Int32) : rlfN h w he 1 = nI (hiC he (h * w)) := rfl
theorem rlf_2 (h w : Nat) (he : Nat → Int32) : rlfN h w he 2 = stpI h w he (h * w) := rfl
theorem rlf_3 (h w : Nat) (he : Nat → Int32) : rlfN h w he 3 = nI (barN he (h * w)) := rfl
theorem st_hi {h w B : Nat} {f : Nat → Int32} (hG : kG h w) (hH : hI (h * w) f B) (hB : B < 1000000) : stpI h w f (h * w) ≤ f (hiC f (h * w)) := by
  have hn := kG_n hG
  have hl := hiC_lt f (h * w) (by omega)
  obtain ⟨M, hM, eM⟩ := hI_v hH hl
  have h0 : (0 : Int32) ≤ f (hiC f (h * w)) := by rw [eM]; exact nI_pos' (by omega)
  have key : ∀ x y, x < h * w → y < h * w → kabs (f x - f y) ≤ f (hiC f (h * w)) := fun x y hx hy => by
    obtain ⟨a, ha, ea⟩ := hI_v hH hx
    obtain ⟨b, hb, eb⟩ := hI_v hH hy
    have m1 := hi_max (f := f) (h * w) x hx
    have m2 := hi_max (f := f) (h * w) y hy
    rw [ea, eM] at m1
    rw [eb, eM] at m2
    have m3 := (nI_leI (a := a) (b := M) (by omega) (by omega)).mp m1
    have m4 := (nI_leI (a := b) (b := M) (by omega) (by omega)).mp m2
    rw [ea, eb]
    rw [eM] at h0 ⊢
    have eT : (nI M).toInt = (M : Int) := nI_toInt (by omega)
    exact (kabs_le (by omega) (by omega) h0).mpr ⟨(klt (s := nI M) (by omega) (by omega)).2.mpr (by rw [eT]; omega), (klt (s := nI M) (by omega) (by omega)).2.mpr (by rw [eT]; omega)⟩
  exact (stpI_le (h * w)).mpr ⟨h0, fun c hc => ⟨key c _ hc (nbr_lt 1 hG hc), key c _ hc (nbr_lt 2 hG hc)⟩⟩
/-- a neighbor's neighbor -/
theorem nb_sym {h w c k : Nat} (hG : kG h w) (hc : c < h * w) (hk : k < 4) : ∃ k', k' < 4 ∧ nbr h w (nbr h w c k) k' = c := by
  obtain ⟨a1, a3, a2, a0⟩ := nbr_31i hG hc
  rcases (show k = 0 ∨ k = 1 ∨ k = 2 ∨ k = 3 by omega) with rfl | rfl | rfl | rfl
  · exact ⟨2, by decide, a0⟩
  · exact ⟨3, by decide, a1⟩
  · exact ⟨0, by decide, a2⟩
  · exact ⟨1, by decide, a3⟩
/-- labels of whole dunes -/
def lbI (h w : Nat) (he : Nat → Int32) (t : Int32) (i : Nat) (L : Nat → Nat) : Prop :=
  (∀ x, L x ≠ 0 → x < h * w ∧ ¬ he x < t) ∧ (∀ x k, L x ≠ 0 → k < 4 → ¬ he (nbr h w x k) < t → L (nbr h w x k) = L x) ∧ (∀ x, x < i → x < h * w → ¬ he x < t → L x ≠ 0)
theorem rch_hi {h w : Nat} {he : Nat → Int32} {t : Int32} {lab : Nat → Nat} {c x : Nat} (hc : ¬ he c < t) (hx : rch h w he t lab c x) : ¬ he x < t := hx (fun y => ¬ he y < t) hc (fun _ _ _ _ h1 _ => h1)
theorem lb_y {h w i num : Nat} {he : Nat → Int32} {t : Int32} {L : Nat → Nat} (hG : kG h w) (hi : i < h * w) (hL : lbI h w he t i L) (h1 : ¬ he i < t) (h2 : L i = 0) (hn : num ≠ 0) : lbI h w he t (i + 1) (sprL h w he t L num i) := by
  obtain ⟨a, b, c⟩ := hL
  refine ⟨fun x hx => ?_, fun x k hx hk h3 => ?_, fun x hx hn9 h3 => ?_⟩
  · by_cases hr : rch h w he t L i x
    · exact ⟨rch_lt hG hi hr, rch_hi h1 hr⟩
    · rw [sprL_n hr] at hx; exact a x hx
  · by_cases hr : rch h w he t L i x
    · rw [sprL_y hr]
      by_cases h4 : L (nbr h w x k) = 0
      · exact sprL_y (rch_s hr hk h3 h4)
      · have hxl := rch_lt hG hi hr
        obtain ⟨k', hk', ek⟩ := nb_sym hG hxl hk
        have h5 := b (nbr h w x k) k' h4 hk' (by rw [ek]; exact rch_hi h1 hr)
        rw [ek, rch_lab h2 hr] at h5
        exact absurd h5.symm h4
    · rw [sprL_n hr] at hx ⊢
      have h4 := b x k hx hk h3
      have h5 : ¬ rch h w he t L i (nbr h w x k) := fun h9 => by
        rw [rch_lab h2 h9] at h4
        exact hx h4.symm
      rw [sprL_n h5]; exact h4
  · by_cases hr : rch h w he t L i x
    · rw [sprL_y hr]; exact hn
    · rw [sprL_n hr]
      by_cases h9 : x = i
      · rw [h9] at hr; exact absurd rch_c hr
      · exact c x (by omega) hn9 h3
theorem dnL_lbI {h w : Nat} {he : Nat → Int32} {t : Int32} (hG : kG h w) : ∀ i, i ≤ h * w → lbI h w he t i (dnL h w he t i).1
  | 0, _ => ⟨fun x hx => absurd rfl hx, fun x k hx => absurd rfl hx, fun x hx => absurd hx (Nat.not_lt_zero _)⟩
  | i + 1, hi => by
    have ih := dnL_lbI (he := he) (t := t) hG i (by omega)
    by_cases h1 : ¬ he i < t ∧ (dnL h w he t i).1 i = 0
    · rw [dnL_y h1.1 h1.2]
      exact lb_y hG (by omega) ih h1.1 h1.2 (Nat.succ_ne_zero _)
    · rw [dnL_n h1]
      refine ⟨ih.1, ih.2.1, fun x hx hn9 h3 => ?_⟩
      by_cases h9 : x = i
      · rw [h9] at h3 ⊢; exact fun h8 => h1 ⟨h3, h8⟩
      · exact ih.2.2 x (by omega) hn9 h3
/-- what is one over neighbors of this height is one over a dune -/
theorem dnL_con {h w : Nat} {he : Nat → Int32} {t : Int32} (hG : kG h w) (M : Nat → Nat) (hM : ∀ x k, x < h * w → k < 4 → ¬ he x < t → ¬ he (nbr h w x k) < t → M (nbr h w x k) = M x) :
    ∀ i, i ≤ h * w → ∀ x y, (dnL h w he t i).1 x = (dnL h w he t i).1 y → (dnL h w he t i).1 x ≠ 0 → M x = M y
  | 0, _, _, _, _, hx => absurd rfl hx
  | i + 1, hi, x, y, e, hx => by
    have ih := dnL_con hG M hM i (by omega) x y
    by_cases h1 : ¬ he i < t ∧ (dnL h w he t i).1 i = 0
    · have hr9 : ∀ z, rch h w he t (dnL h w he t i).1 i z → M z = M i := fun z hz =>
        (hz (fun u => (u < h * w ∧ ¬ he u < t) ∧ M u = M i) ⟨⟨by omega, h1.1⟩, rfl⟩ (fun u k hu hk h3 _ => ⟨⟨nbr_lt k hG hu.1.1, h3⟩, (hM u k hu.1.1 hk hu.1.2 h3).trans hu.2⟩)).2
      rw [dnL_y h1.1 h1.2] at e hx
      have e : sprL h w he t (dnL h w he t i).1 ((dnL h w he t i).2 + 1) i x = sprL h w he t (dnL h w he t i).1 ((dnL h w he t i).2 + 1) i y := e
      have hx : sprL h w he t (dnL h w he t i).1 ((dnL h w he t i).2 + 1) i x ≠ 0 := hx
      have lx := dnL_lb (h := h) (w := w) (he := he) (t := t) i x
      have ly := dnL_lb (h := h) (w := w) (he := he) (t := t) i y
      by_cases rx : rch h w he t (dnL h w he t i).1 i x
      · by_cases ry : rch h w he t (dnL h w he t i).1 i y
        · rw [hr9 x rx, hr9 y ry]
        · rw [sprL_y rx, sprL_n ry] at e; omega
      · by_cases ry : rch h w he t (dnL h w he t i).1 i y
        · rw [sprL_n rx, sprL_y ry] at e; omega
        · rw [sprL_n rx, sprL_n ry] at e
          rw [sprL_n rx] at hx
          exact ih e hx
    · rw [dnL_n h1] at e hx
      exact ih e hx
theorem dnL_any {h w : Nat} {he : Nat → Int32} {t : Int32} : ∀ i, 0 < (dnL h w he t i).2 → ∃ x, x < i ∧ ¬ he x < t
  | 0, h0 => absurd h0 (Nat.lt_irrefl _)
  | i + 1, h0 => by
    by_cases h1 : ¬ he i < t ∧ (dnL h w he t i).1 i = 0
    · exact ⟨i, by omega, h1.1⟩
    · rw [dnL_n h1] at h0
      obtain ⟨x, a, b⟩ := dnL_any i h0
      exact ⟨x, by omega, b⟩
theorem cnt_pos {L : Nat → Nat} {v x : Nat} (hx : L x = v) : ∀ n, x < n → 0 < cntL L v n
  | 0, h => absurd h (Nat.not_lt_zero _)
  | n + 1, h => by
    rw [cntL_s]
    by_cases h9 : x = n
    · rw [if_pos (by rw [← h9]; exact hx)]; omega
    · have := cnt_pos hx n (by omega)
      omega
theorem cnt_mono {L M : Nat → Nat} {u v : Nat} : ∀ n, (∀ x, x < n → L x = u → M x = v) → cntL L u n ≤ cntL M v n
  | 0, _ => Nat.le_refl _
  | n + 1, h => by
    have h1 := cnt_mono n (fun x hx => h x (by omega))
    have h2 := h n (by omega)
    rw [cntL_s, cntL_s]
    by_cases h9 : L n = u
    · rw [if_pos h9, if_pos (h2 h9)]; omega
    · rw [if_neg h9]; omega
theorem do_pos {h w k : Nat} {he : Nat → Int32} {t : Int32} (hG : kG h w) (hk : k < h * w) : 0 < doN h w he t k ↔ ¬ he k < t := by
  have hL := dnL_lbI (he := he) (t := t) hG (h * w) (Nat.le_refl _)
  unfold doN
  by_cases h0 : (dnL h w he t (h * w)).1 k = 0
  · rw [if_pos h0]
    exact ⟨fun h9 => absurd h9 (Nat.lt_irrefl _), fun h9 => absurd h0 (hL.2.2 k hk hk h9)⟩
  · rw [if_neg h0]
    exact ⟨fun _ => (hL.1 k h0).2, fun _ => cnt_pos rfl (h * w) hk⟩
theorem do_mono {h w k : Nat} {he : Nat → Int32} {t t' : Int32} (hG : kG h w) (ht : ∀ x, ¬ he x < t' → ¬ he x < t) : doN h w he t' k ≤ doN h w he t k := by
  have hL := dnL_lbI (he := he) (t := t) hG (h * w) (Nat.le_refl _)
  have hL' := dnL_lbI (he := he) (t := t') hG (h * w) (Nat.le_refl _)
  unfold doN
  by_cases h0 : (dnL h w he t' (h * w)).1 k = 0
  · rw [if_pos h0]; exact Nat.zero_le _
  · rw [if_neg h0]
    obtain ⟨hk, hk2⟩ := hL'.1 k h0
    have h1 := hL.2.2 k hk hk (ht k hk2)
    rw [if_neg h1]
    refine cnt_mono (h * w) (fun x hx e => ?_)
    exact dnL_con hG (dnL h w he t (h * w)).1 (fun y j hy hj a b => hL.2.1 y j (hL.2.2 y hy hy (ht y a)) hj (ht _ b)) (h * w) (Nat.le_refl _) x k e (by rw [e]; exact h0)
theorem do_le {h w k : Nat} {he : Nat → Int32} {t : Int32} (hG : kG h w) : doN h w he t k ≤ 192 := by
  have hn := kG_n hG
  unfold doN
  split
  · omega
  · exact Nat.le_trans (cntL_le _ _ _) hn.1
theorem dn_pos {h w : Nat} {he : Nat → Int32} {t : Int32} (hG : kG h w) : 0 < dnN h w he t ↔ ¬ he (hiC he (h * w)) < t := by
  have hn := kG_n hG
  have hL := dnL_lbI (he := he) (t := t) hG (h * w) (Nat.le_refl _)
  have hl := hiC_lt he (h * w) (by omega)
  constructor
  · intro h0
    obtain ⟨x, a, b⟩ := dnL_any (h * w) h0
    exact fun h9 => b (Int32.lt_of_le_of_lt (hi_max (h * w) x a) h9)
  · intro h0
    have h1 := hL.2.2 _ hl hl h0
    have h2 := dnL_lb (h := h) (w := w) (he := he) (t := t) (h * w) (hiC he (h * w))
    show 0 < (dnL h w he t (h * w)).2
    omega
/-- sums of heights, as numbers -/
theorem hI_sum {n B : Nat} {he : Nat → Int32} (hH : hI n he B) : ∃ s, s ≤ B ∧ sumI he n = nI s ∧ ∀ (L : Nat → Nat) (v : Nat), ∃ u, u ≤ s ∧ sumL he L v n = nI u := by
  obtain ⟨H, h1, h2⟩ := hH
  have key : ∀ m, m ≤ n → sumI he m = nI (sumN H m) ∧ ∀ (L : Nat → Nat) (v : Nat), ∃ u, u ≤ sumN H m ∧ sumL he L v m = nI u := by
    intro m
    induction m with
    | zero => exact fun _ => ⟨rfl, fun _ _ => ⟨0, Nat.le_refl _, rfl⟩⟩
    | succ m ih =>
      intro hm
      obtain ⟨i1, i2⟩ := ih (by omega)
      refine ⟨by rw [nb_sumI_s, i1, h1 m (by omega), nI_add]; rfl, fun L v => ?_⟩
      obtain ⟨u, i3, i4⟩ := i2 L v
      rw [sumL_s, i4, sumN_s]
      by_cases h9 : L m = v
      · rw [if_pos h9, h1 m (by omega), nI_add]; exact ⟨u + H m, by omega, rfl⟩
      · rw [if_neg h9]; exact ⟨u, by omega, Int32.add_zero _⟩
  obtain ⟨k1, k2⟩ := key n (Nat.le_refl _)
  exact ⟨sumN H n, h2, k1, k2⟩
theorem mx_le {f : Nat → Int32} {s : Int32} (h0 : 0 ≤ s) (hf : ∀ v, f v ≤ s) : ∀ n, mxS f n ≤ s
  | 0 => h0
  | n + 1 => by
    show kmax (mxS f n) (f (n + 1)) ≤ s
    exact kmax_le.mpr ⟨mx_le h0 hf n, hf _⟩
theorem gd_le {h w B : Nat} {he : Nat → Int32} {t : Int32} (hH : hI (h * w) he B) (hB : B < 1000000) : gdN h w he t ≤ sumI he (h * w) := by
  obtain ⟨s, h1, h2, h3⟩ := hI_sum hH
  rw [h2]
  refine mx_le (nI_pos' (by omega)) (fun v => ?_) _
  obtain ⟨u, h4, h5⟩ := h3 (dnL h w he t (h * w)).1 v
  show sumL he (dnL h w he t (h * w)).1 v (h * w) ≤ nI s
  rw [h5]
  exact nI_le h4 (by omega)
