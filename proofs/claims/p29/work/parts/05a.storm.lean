/-! THE STORM: steps, flights, slides -/
def lowN (h w : Nat) (he : Nat → Int32) (c : Nat) : Nat → Nat
  | 0 => nbr h w c 0
  | n + 1 => if he (lowN h w he c n) ≤ he (nbr h w c (n + 1)) then lowN h w he c n else nbr h w c (n + 1)
def higN (h w : Nat) (he : Nat → Int32) (c : Nat) : Nat → Nat
  | 0 => nbr h w c 0
  | n + 1 => if he (nbr h w c (n + 1)) ≤ he (higN h w he c n) then higN h w he c n else nbr h w c (n + 1)
theorem lowN_s (h w : Nat) (he : Nat → Int32) (c n : Nat) : lowN h w he c (n + 1) = if he (lowN h w he c n) ≤ he (nbr h w c (n + 1)) then lowN h w he c n else nbr h w c (n + 1) := rfl
theorem higN_s (h w : Nat) (he : Nat → Int32) (c n : Nat) : higN h w he c (n + 1) = if he (nbr h w c (n + 1)) ≤ he (higN h w he c n) then higN h w he c n else nbr h w c (n + 1) := rfl
theorem lowN_lt {h w c : Nat} {he : Nat → Int32} (hG : kG h w) (hc : c < h * w) : ∀ n, lowN h w he c n < h * w
  | 0 => nbr_lt 0 hG hc
  | n + 1 => by
    rw [lowN_s]
    split
    · exact lowN_lt hG hc n
    · exact nbr_lt (n + 1) hG hc
theorem higN_lt {h w c : Nat} {he : Nat → Int32} (hG : kG h w) (hc : c < h * w) : ∀ n, higN h w he c n < h * w
  | 0 => nbr_lt 0 hG hc
  | n + 1 => by
    rw [higN_s]
    split
    · exact higN_lt hG hc n
    · exact nbr_lt (n + 1) hG hc
/-- a slab slides -/
def sld (he : Nat → Int32) (f t : Nat) : Nat → Int32 := upd (upd he f (he f + (-1))) t (upd he f (he f + (-1)) t + 1)
def c9 (co : Nat → Int32) : Nat → Int32 := upd co 9 (co 9 + 1)
abbrev fP : Type := (Nat → Int32) × (Nat → Int32)
/-- c has got a slab: at most n slides -/
def slF (h w : Nat) (sl : Int32) : Nat → (Nat → Int32) → (Nat → Int32) → Nat → fP
  | 0, he, co, _ => (he, co)
  | n + 1, he, co, c => if he c - he (lowN h w he c 3) ≤ sl then (he, co) else slF h w sl n (sld he c (lowN h w he c 3)) (c9 co) (lowN h w he c 3)
/-- c has lost a slab -/
def slI (h w : Nat) (sl : Int32) : Nat → (Nat → Int32) → (Nat → Int32) → Nat → fP
  | 0, he, co, _ => (he, co)
  | n + 1, he, co, c => if he (higN h w he c 3) - he c ≤ sl then (he, co) else slI h w sl n (sld he (higN h w he c 3) c) (c9 co) (higN h w he c 3)
theorem slF_s (h w : Nat) (sl : Int32) (n : Nat) (he co : Nat → Int32) (c : Nat) : slF h w sl (n + 1) he co c = if he c - he (lowN h w he c 3) ≤ sl then (he, co) else slF h w sl n (sld he c (lowN h w he c 3)) (c9 co) (lowN h w he c 3) := rfl
theorem slI_s (h w : Nat) (sl : Int32) (n : Nat) (he co : Nat → Int32) (c : Nat) : slI h w sl (n + 1) he co c = if he (higN h w he c 3) - he c ≤ sl then (he, co) else slI h w sl n (sld he (higN h w he c 3) c) (c9 co) (higN h w he c 3) := rfl
theorem kpair1 {α β : Type} {a : α} {b : β} {p : α × β} (h : (a, b) = p) : a = p.1 := by rw [← h]
theorem kpair2 {α β : Type} {a : α} {b : β} {p : α × β} (h : (a, b) = p) : b = p.2 := by rw [← h]
/-- a move downwind: what it counts -/
def mvC (h w d : Nat) (co : Nat → Int32) (c : Nat) : Nat → Int32 :=
  if d = 0 ∧ nbr h w c ((d + 1) % 4) < c then upd co 10 (co 10 + 1) else if d = 2 ∧ c < nbr h w c ((d + 1) % 4) then upd co 11 (co 11 + 1) else co
/-- a hop of n moves -/
def hopF (h w d : Nat) (ca tr : Nat → Int32) : Nat → Nat → (Nat → Int32) → Nat × (Nat → Int32)
  | 0, c, co => (c, co)
  | n + 1, c, co => if opnB ca tr (nbr h w c ((d + 1) % 4)) then (nbr h w c ((d + 1) % 4), mvC h w d co c) else hopF h w d ca tr n (nbr h w c ((d + 1) % 4)) (mvC h w d co c)
theorem hopF_s (h w d : Nat) (ca tr : Nat → Int32) (n c : Nat) (co : Nat → Int32) : hopF h w d ca tr (n + 1) c co = if opnB ca tr (nbr h w c ((d + 1) % 4)) then (nbr h w c ((d + 1) % 4), mvC h w d co c) else hopF h w d ca tr n (nbr h w c ((d + 1) % 4)) (mvC h w d co c) := rfl
theorem hopF_lt {h w d : Nat} {ca tr : Nat → Int32} (hG : kG h w) : ∀ (n c : Nat) (co : Nat → Int32), c < h * w → (hopF h w d ca tr n c co).1 < h * w
  | 0, _, _, hc => hc
  | n + 1, c, co, hc => by
    rw [hopF_s]
    split
    · exact nbr_lt _ hG hc
    · exact hopF_lt hG n _ _ (nbr_lt _ hG hc)
def d100 (n0 : Nat) : Nat := drwS n0 / 65536 % 100
theorem d100_eq (n0 : Nat) : nI (drwS n0 / 65536 % 100) = nI (d100 n0) := by rw [d100]
/-- the chance of the ground at c; what the twelfth hop says -/
def gnd (st he : Nat → Int32) (c : Nat) : Int32 := if he c = 0 then st 2 else st 1
def hop12 (k : Nat) : Nat := if k < 12 then 0 else 8
theorem hop12_lt (k : Nat) : hop12 k < 9 := by
  unfold hop12
  split <;> omega
/-- the reason to stay (0: none) and s behind it -/
def rsS (h w d : Nat) (st he tu ca tr : Nat → Int32) (c k n0 : Nat) : Nat × Nat :=
  if opnB ca tr c then (5, n0) else if shd h w d he c then (6, n0)
  else if gnd st he c + tu c ≤ nI (d100 n0) then (hop12 k, drwS n0) else (7, drwS n0)
theorem rsS_lt {h w d : Nat} {st he tu ca tr : Nat → Int32} {c k n0 : Nat} (hn : n0 < 2147483648) : (rsS h w d st he tu ca tr c k n0).1 < 9 ∧ (rsS h w d st he tu ca tr c k n0).2 < 2147483648 := by
  have h9 := drwS_lt n0
  have h8 := hop12_lt k
  unfold rsS
  generalize drwS n0 = x at h9 ⊢
  generalize hop12 k = y at h8 ⊢
  by_cases h1 : opnB ca tr c = true
  · rw [if_pos h1]; exact ⟨show 5 < 9 by omega, hn⟩
  · rw [if_neg h1]
    by_cases h2 : shd h w d he c = true
    · rw [if_pos h2]; exact ⟨show 6 < 9 by omega, hn⟩
    · rw [if_neg h2]
      by_cases h3 : gnd st he c + tu c ≤ nI (d100 n0)
      · rw [if_pos h3]; exact ⟨h8, h9⟩
      · rw [if_neg h3]; exact ⟨show 7 < 9 by omega, h9⟩
/-- the reason to lie (0: none) and s behind it -/
def rlS (h w d : Nat) (he tu ca : Nat → Int32) (c n0 : Nat) : Nat × Nat :=
  if he c = 0 then (1, n0) else if ¬ ca c = -1 then (2, n0) else if shd h w d he c then (3, n0)
  else if tu c ≤ nI (d100 n0) then (0, drwS n0) else (4, drwS n0)
theorem rlS_lt {h w d : Nat} {he tu ca : Nat → Int32} {c n0 : Nat} (hn : n0 < 2147483648) : (rlS h w d he tu ca c n0).1 < 9 ∧ (rlS h w d he tu ca c n0).2 < 2147483648 := by
  have h9 := drwS_lt n0
  unfold rlS
  generalize drwS n0 = x at h9 ⊢
  by_cases h1 : he c = 0
  · rw [if_pos h1]; exact ⟨show 1 < 9 by omega, hn⟩
  · rw [if_neg h1]
    by_cases h2 : ¬ ca c = -1
    · rw [if_pos h2]; exact ⟨show 2 < 9 by omega, hn⟩
    · rw [if_neg h2]
      by_cases h3 : shd h w d he c = true
      · rw [if_pos h3]; exact ⟨show 3 < 9 by omega, hn⟩
      · rw [if_neg h3]
        by_cases h4 : tu c ≤ nI (d100 n0)
        · rw [if_pos h4]; exact ⟨show 0 < 9 by omega, h9⟩
        · rw [if_neg h4]; exact ⟨show 4 < 9 by omega, h9⟩
def nco (co : Nat → Int32) (r : Nat) : Nat → Int32 := upd (upd co 0 (co 0 + 1)) r (upd co 0 (co 0 + 1) r + 1)
def laF (v0 v1 v2 v3 : Int32) : Nat → Int32 := fun j => if j = 0 then v0 else if j = 1 then v1 else if j = 2 then v2 else v3
theorem laF_up (la : Nat → Int32) (v0 v1 v2 v3 : Int32) : ∀ j, j < 4 → upd (upd (upd (upd la 0 v0) 1 v1) 2 v2) 3 v3 j = laF v0 v1 v2 v3 j := by
  intro j hj
  rcases (show j = 0 ∨ j = 1 ∨ j = 2 ∨ j = 3 by omega) with rfl | rfl | rfl | rfl <;> rfl
abbrev flT : Type := Nat × (Nat × (Nat × ((Nat → Int32) × Nat)))
/-- the flight: reason, cell, hops, counts, s -/
def fly (h w d hp : Nat) (st he tu ca tr : Nat → Int32) : Nat → Nat → Nat → (Nat → Int32) → Nat → flT
  | 0, c, k, co, n0 => (0, c, k, co, n0)
  | m + 1, c, k, co, n0 =>
    if (rsS h w d st he tu ca tr (hopF h w d ca tr hp c co).1 (k + 1) n0).1 = 0
    then fly h w d hp st he tu ca tr m (hopF h w d ca tr hp c co).1 (k + 1) (hopF h w d ca tr hp c co).2 (rsS h w d st he tu ca tr (hopF h w d ca tr hp c co).1 (k + 1) n0).2
    else ((rsS h w d st he tu ca tr (hopF h w d ca tr hp c co).1 (k + 1) n0).1, (hopF h w d ca tr hp c co).1, k + 1, (hopF h w d ca tr hp c co).2, (rsS h w d st he tu ca tr (hopF h w d ca tr hp c co).1 (k + 1) n0).2)
theorem fly_s (h w d hp : Nat) (st he tu ca tr : Nat → Int32) (m c k : Nat) (co : Nat → Int32) (n0 : Nat) : fly h w d hp st he tu ca tr (m + 1) c k co n0 =
    if (rsS h w d st he tu ca tr (hopF h w d ca tr hp c co).1 (k + 1) n0).1 = 0
    then fly h w d hp st he tu ca tr m (hopF h w d ca tr hp c co).1 (k + 1) (hopF h w d ca tr hp c co).2 (rsS h w d st he tu ca tr (hopF h w d ca tr hp c co).1 (k + 1) n0).2
    else ((rsS h w d st he tu ca tr (hopF h w d ca tr hp c co).1 (k + 1) n0).1, (hopF h w d ca tr hp c co).1, k + 1, (hopF h w d ca tr hp c co).2, (rsS h w d st he tu ca tr (hopF h w d ca tr hp c co).1 (k + 1) n0).2) := rfl
def flG (h w d hp : Nat) (st he tu ca tr : Nat → Int32) (m r c k : Nat) (co : Nat → Int32) (n0 : Nat) : flT := if r = 0 then fly h w d hp st he tu ca tr m c k co n0 else (r, c, k, co, n0)
theorem flG_step {h w d hp : Nat} {st he tu ca tr : Nat → Int32} {m c k : Nat} {co : Nat → Int32} {n0 : Nat} {F : flT} (hF : flG h w d hp st he tu ca tr (m + 1) 0 c k co n0 = F) :
    flG h w d hp st he tu ca tr m (rsS h w d st he tu ca tr (hopF h w d ca tr hp c co).1 (k + 1) n0).1 (hopF h w d ca tr hp c co).1 (k + 1) (hopF h w d ca tr hp c co).2 (rsS h w d st he tu ca tr (hopF h w d ca tr hp c co).1 (k + 1) n0).2 = F := by
  rw [← hF]
  show _ = fly h w d hp st he tu ca tr (m + 1) c k co n0
  rw [fly_s]
  rfl
theorem flG_end {h w d hp : Nat} {st he tu ca tr : Nat → Int32} {m r c k : Nat} {co : Nat → Int32} {n0 : Nat} {F : flT} (hF : flG h w d hp st he tu ca tr m r c k co n0 = F) (he : ¬ r = 0 ∨ m = 0) : F = (r, c, k, co, n0) := by
  rw [← hF]
  unfold flG
  by_cases h0 : r = 0
  · rcases he with h1 | h1
    · exact absurd h0 h1
    · rw [if_pos h0, h1, h0]; rfl
  · rw [if_neg h0]
abbrev stT : Type := Nat × ((Nat → Int32) × ((Nat → Int32) × ((Nat → Int32) × (Nat → Int32))))
/-- a slab is carried from c: s, heights, trapped, counts, latest behind it -/
def carH (la : Nat → Int32) (c : Nat) (tr : Nat → Int32) (f : flT) (b : fP) : stT := (f.2.2.2.2, b.1, (if f.1 = 5 then upd tr f.2.1 (tr f.2.1 + 1) else tr), nco b.2 f.1, laF (nI f.1) (nI c) (nI f.2.1) (nI f.2.2.1))
def carG (h w : Nat) (st : Nat → Int32) (la : Nat → Int32) (c : Nat) (tr : Nat → Int32) (a1 : fP) (f : flT) : stT :=
  carH la c tr f (slF h w (st 3) 1000000 (upd a1.1 f.2.1 (a1.1 f.2.1 + 1)) f.2.2.2.1 f.2.1)
def carF (h w d hp : Nat) (st tu ca tr : Nat → Int32) (la : Nat → Int32) (c n0 : Nat) (a1 : fP) : stT := carG h w st la c tr a1 (fly h w d hp st a1.1 tu ca tr 12 c 0 a1.2 n0)
def car (h w d hp : Nat) (st tu ca : Nat → Int32) (c n0 : Nat) (he tr co la : Nat → Int32) : stT := carF h w d hp st tu ca tr la c n0 (slI h w (st 3) 1000000 (upd he c (he c + (-1))) co c)
/-- a step: whether a slab is lifted, and what is behind it -/
def stpA (h w d hp : Nat) (st tu ca : Nat → Int32) (c : Nat) (rl : Nat × Nat) (he tr co la : Nat → Int32) : Nat × stT :=
  if rl.1 = 0 then (1, car h w d hp st tu ca c rl.2 he tr co la) else (0, (rl.2, he, tr, nco co rl.1, laF (nI rl.1) (nI c) (-1) 0))
def stp (h w d hp : Nat) (st tu ca : Nat → Int32) (S : stT) : Nat × stT :=
  stpA h w d hp st tu ca (drwS S.1 / 65536 % (h * w)) (rlS h w d S.2.1 tu ca (drwS S.1 / 65536 % (h * w)) (drwS S.1)) S.2.1 S.2.2.1 S.2.2.2.1 S.2.2.2.2
def blo (h w d hp : Nat) (st tu ca : Nat → Int32) : Nat → stT → Nat × stT
  | 0, S => (0, S)
  | n + 1, S => ((blo h w d hp st tu ca n S).1 + (stp h w d hp st tu ca (blo h w d hp st tu ca n S).2).1, (stp h w d hp st tu ca (blo h w d hp st tu ca n S).2).2)
theorem blo_s (h w d hp : Nat) (st tu ca : Nat → Int32) (n : Nat) (S : stT) : blo h w d hp st tu ca (n + 1) S = ((blo h w d hp st tu ca n S).1 + (stp h w d hp st tu ca (blo h w d hp st tu ca n S).2).1, (stp h w d hp st tu ca (blo h w d hp st tu ca n S).2).2) := rfl
theorem fly_n {h w d hp : Nat} {st he tu ca tr : Nat → Int32} : ∀ (m c k : Nat) (co : Nat → Int32) (n0 : Nat), n0 < 2147483648 → (fly h w d hp st he tu ca tr m c k co n0).2.2.2.2 < 2147483648
  | 0, _, _, _, _, hn => hn
  | m + 1, c, k, co, n0, hn => by
    rw [fly_s]
    split
    · exact fly_n m _ _ _ _ (rsS_lt hn).2
    · exact (rsS_lt hn).2
theorem stp_n {h w d hp : Nat} {st tu ca : Nat → Int32} {S : stT} : (stp h w d hp st tu ca S).2.1 < 2147483648 := by
  unfold stp stpA
  split
  · exact fly_n _ _ _ _ _ (rlS_lt (drwS_lt _)).2
  · exact (rlS_lt (drwS_lt _)).2
theorem blo_n {h w d hp : Nat} {st tu ca : Nat → Int32} {S : stT} (hS : S.1 < 2147483648) : ∀ n, (blo h w d hp st tu ca n S).2.1 < 2147483648
  | 0 => hS
  | n + 1 => stp_n
theorem stp_1 (h w d hp : Nat) (st tu ca : Nat → Int32) (S : stT) : (stp h w d hp st tu ca S).1 ≤ 1 := by
  unfold stp stpA
  split <;> simp
theorem blo_1 (h w d hp : Nat) (st tu ca : Nat → Int32) (S : stT) : ∀ n, (blo h w d hp st tu ca n S).1 ≤ n
  | 0 => Nat.le_refl _
  | n + 1 => by
    have h1 := blo_1 h w d hp st tu ca S n
    have h2 := stp_1 h w d hp st tu ca (blo h w d hp st tu ca n S).2
    rw [blo_s]
    show _ + _ ≤ n + 1
    omega
