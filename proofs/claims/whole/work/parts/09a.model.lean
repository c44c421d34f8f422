/-! THE MODEL: its one row of numbers -/
def cm (he ke tu ca tr : Nat → Int32) (c j : Nat) : Int32 := if j = 0 then he c else if j = 1 then tu c else if j = 2 then ca c else if j = 3 then trpN ca tr c else ke c
def mB (h w : Nat) (wd s0 z : Int32) (st co la : Nat → Int32) (X : Nat → Nat → Int32) (j : Nat) : Int32 :=
  if j < 4 then st j else if j = 4 then nI h else if j = 5 then nI w else if j = 6 then wd else if j = 7 then s0 else if j = 8 then z else if j < 21 then co (j - 9) else if j < 25 then la (j - 21) else if (j - 25) / 5 < h * w then X ((j - 25) / 5) ((j - 25) % 5) else 0
def mA (h w : Nat) (wd s0 z : Int32) (st he ke tu ca tr co la : Nat → Int32) (j : Nat) : Int32 := mB h w wd s0 z st co la (cm he ke tu ca tr) j
theorem mB_cell {h w : Nat} {wd s0 z : Int32} {st co la : Nat → Int32} {X : Nat → Nat → Int32} {c i : Nat} (hc : c < h * w) (hi : i < 5) : mB h w wd s0 z st co la X (25 + 5 * c + i) = X c i := by
  unfold mB
  rw [if_neg (by omega), if_neg (by omega), if_neg (by omega), if_neg (by omega), if_neg (by omega), if_neg (by omega), if_neg (by omega), if_neg (by omega), show (25 + 5 * c + i - 25) / 5 = c by omega, show (25 + 5 * c + i - 25) % 5 = i by omega, if_pos hc]
theorem mB_congr {h w : Nat} {wd s0 z : Int32} {st co la : Nat → Int32} {X Y : Nat → Nat → Int32} {j : Nat} (hX : 25 ≤ j → (j - 25) / 5 < h * w → X ((j - 25) / 5) ((j - 25) % 5) = Y ((j - 25) / 5) ((j - 25) % 5)) : mB h w wd s0 z st co la X j = mB h w wd s0 z st co la Y j := by
  unfold mB
  by_cases h0 : j < 25
  · simp only [h0, if_true]
  · by_cases h1 : (j - 25) / 5 < h * w
    · rw [hX (by omega) h1]
    · simp only [h1, if_false]
section MA
variable {h w : Nat} {wd s0 z : Int32} {st he ke tu ca tr co la : Nat → Int32}
theorem mA_cell {c i : Nat} (hc : c < h * w) (hi : i < 5) : mA h w wd s0 z st he ke tu ca tr co la (25 + 5 * c + i) = cm he ke tu ca tr c i := mB_cell hc hi
theorem mA_ld {c i : Nat} (hc : c < h * w) (hn : h * w ≤ 192) (hi : i < 5) : mA h w wd s0 z st he ke tu ca tr co la (Int32.toNatClampNeg (nI (25 + 5 * c + i))) = cm he ke tu ca tr c i := by
  rw [nI_clamp (by omega)]
  exact mA_cell hc hi
theorem mA_up {he' ke' tu' ca' tr' : Nat → Int32} {k i : Nat} {v : Int32} (hk : k < h * w) (hn : h * w ≤ 192) (hi : i < 5) (h1 : cm he' ke' tu' ca' tr' k i = v) (h2 : ∀ c j, ¬ (c = k ∧ j = i) → cm he' ke' tu' ca' tr' c j = cm he ke tu ca tr c j) :
    ∀ j, upd (mA h w wd s0 z st he ke tu ca tr co la) (Int32.toNatClampNeg (nI (25 + 5 * k + i))) v j = mA h w wd s0 z st he' ke' tu' ca' tr' co la j := by
  intro j
  rw [nI_clamp (by omega)]
  by_cases hj : j = 25 + 5 * k + i
  · rw [hj, pk_us, mA_cell hk hi, h1]
  · rw [pk_un hj]
    exact (mB_congr fun a1 a2 => h2 _ _ (by omega)).symm
theorem cm_he {c j k : Nat} {v : Int32} (hn : ¬ (c = k ∧ j = 0)) : cm (upd he k v) ke tu ca tr c j = cm he ke tu ca tr c j := by
  unfold cm
  by_cases h0 : j = 0
  · rw [if_pos h0, if_pos h0, pk_un (fun e => hn ⟨e, h0⟩)]
  · rw [if_neg h0, if_neg h0]
theorem cm_tu {c j k : Nat} {v : Int32} (hn : ¬ (c = k ∧ j = 1)) : cm he ke (upd tu k v) ca tr c j = cm he ke tu ca tr c j := by
  unfold cm
  by_cases h1 : j = 1
  · rw [if_pos h1, if_pos h1, pk_un (fun e => hn ⟨e, h1⟩)]
  · rw [if_neg h1, if_neg h1]
theorem cm_ke {c j k : Nat} {v : Int32} (hn : ¬ (c = k ∧ j = 4)) (hj : j < 5) : cm he (upd ke k v) tu ca tr c j = cm he ke tu ca tr c j := by
  unfold cm
  by_cases h1 : j = 4
  · rw [pk_un (fun e => hn ⟨e, h1⟩)]
  · rcases (show j = 0 ∨ j = 1 ∨ j = 2 ∨ j = 3 by omega) with rfl | rfl | rfl | rfl <;> rfl
theorem mA_wh {k : Nat} {v : Int32} (hk : k < h * w) (hn : h * w ≤ 192) : ∀ j, upd (mA h w wd s0 z st he ke tu ca tr co la) (Int32.toNatClampNeg (nI (25 + 5 * k + 0))) v j = mA h w wd s0 z st (upd he k v) ke tu ca tr co la j :=
  mA_up hk hn (by decide) (by show upd he k v k = v; exact pk_us) (fun _ _ => cm_he)
theorem mA_wt {k : Nat} {v : Int32} (hk : k < h * w) (hn : h * w ≤ 192) : ∀ j, upd (mA h w wd s0 z st he ke tu ca tr co la) (Int32.toNatClampNeg (nI (25 + 5 * k + 1))) v j = mA h w wd s0 z st he ke (upd tu k v) ca tr co la j :=
  mA_up hk hn (by decide) (by show upd tu k v k = v; exact pk_us) (fun _ _ => cm_tu)
theorem mA_wk {k : Nat} {v : Int32} (hk : k < h * w) (hn : h * w ≤ 192) : ∀ j, upd (mA h w wd s0 z st he ke tu ca tr co la) (Int32.toNatClampNeg (nI (25 + 5 * k + 4))) v j = mA h w wd s0 z st he (upd ke k v) tu ca tr co la j := by
  intro j
  rw [nI_clamp (by omega)]
  by_cases hj : j = 25 + 5 * k + 4
  · rw [hj, pk_us, mA_cell hk (by decide)]; exact pk_us.symm
  · rw [pk_un hj]
    exact (mB_congr fun a1 a2 => cm_ke (by omega) (by omega)).symm
/-- a fence traps a slab -/
theorem mA_tp {k : Nat} (hk : k < h * w) (hn : h * w ≤ 192) (ho : ¬ ca k = -1) : ∀ j, upd (mA h w wd s0 z st he ke tu ca tr co la) (Int32.toNatClampNeg (nI (25 + 5 * k + 3))) (trpN ca tr k + 1) j = mA h w wd s0 z st he ke tu ca (upd tr k (tr k + 1)) co la j :=
  mA_up hk hn (by decide) (by show trpN ca (upd tr k (tr k + 1)) k = trpN ca tr k + 1; unfold trpN; rw [if_neg ho, if_neg ho, pk_us]) (fun c j hcj => by
    unfold cm trpN
    by_cases h3 : j = 3
    · rw [pk_un (fun e => hcj ⟨e, h3⟩)]
    · by_cases h0 : j = 0
      · rw [if_pos h0, if_pos h0]
      · by_cases h1 : j = 1
        · rw [if_neg h0, if_pos h1, if_neg h0, if_pos h1]
        · by_cases h2 : j = 2
          · rw [if_neg h0, if_neg h1, if_pos h2, if_neg h0, if_neg h1, if_pos h2]
          · rw [if_neg h0, if_neg h1, if_neg h2, if_neg h3, if_neg h0, if_neg h1, if_neg h2, if_neg h3])
/-- a fence is put -/
theorem mA_fn {k : Nat} {v : Int32} (hk : k < h * w) (hn : h * w ≤ 192) : ∀ j, upd (upd (mA h w wd s0 z st he ke tu ca tr co la) (Int32.toNatClampNeg (nI (25 + 5 * k + 2))) v) (Int32.toNatClampNeg (nI (25 + 5 * k + 3))) (if v = -1 then -1 else 0) j = mA h w wd s0 z st he ke tu (upd ca k v) (upd tr k 0) co la j := by
  intro j
  rw [nI_clamp (by omega), nI_clamp (by omega)]
  by_cases hj : j = 25 + 5 * k + 3
  · rw [hj, pk_us, mA_cell hk (by decide)]
    show _ = trpN (upd ca k v) (upd tr k 0) k
    unfold trpN
    rw [pk_us, pk_us]
  · rw [pk_un hj]
    by_cases hj2 : j = 25 + 5 * k + 2
    · rw [hj2, pk_us, mA_cell hk (by decide)]
      exact pk_us.symm
    · rw [pk_un hj2]
      refine (mB_congr fun a1 a2 => ?_).symm
      unfold cm
      by_cases hk2 : (j - 25) / 5 = k
      · rcases (show (j - 25) % 5 = 0 ∨ (j - 25) % 5 = 1 ∨ (j - 25) % 5 = 4 by omega) with e | e | e <;> rw [e] <;> rfl
      · unfold trpN
        rw [pk_un hk2, pk_un hk2]
theorem mA_i (j : Nat) (i : Int32) (hi : Int32.toNatClampNeg i = j) {f : Nat → Int32} {v : Int32} {g : Nat → Int32} (h1 : g j = v) (h2 : ∀ x, ¬ x = j → g x = f x) : ∀ x, upd f (Int32.toNatClampNeg i) v x = g x := by
  intro x
  rw [hi]
  by_cases hx : x = j
  · rw [hx, pk_us, h1]
  · rw [pk_un hx, h2 x hx]
theorem mA_wst {k : Nat} {v : Int32} (hk : k < 4) : ∀ j, upd (mA h w wd s0 z st he ke tu ca tr co la) (Int32.toNatClampNeg (nI k)) v j = mA h w wd s0 z (upd st k v) he ke tu ca tr co la j :=
  mA_i k (nI k) (nI_clamp (by omega)) (by unfold mA mB; rw [if_pos hk, pk_us]) (fun x hx => by unfold mA mB; rw [pk_un hx])
theorem mA_ww {v : Int32} : ∀ j, upd (mA h w wd s0 z st he ke tu ca tr co la) (Int32.toNatClampNeg 6) v j = mA h w v s0 z st he ke tu ca tr co la j :=
  mA_i 6 6 rfl (by unfold mA mB; rfl) (fun x hx => by unfold mA mB; simp only [hx, if_false])
theorem mA_ws {v : Int32} : ∀ j, upd (mA h w wd s0 z st he ke tu ca tr co la) (Int32.toNatClampNeg 7) v j = mA h w wd v z st he ke tu ca tr co la j :=
  mA_i 7 7 rfl (by unfold mA mB; rfl) (fun x hx => by unfold mA mB; simp only [hx, if_false])
theorem mA_wz {v : Int32} : ∀ j, upd (mA h w wd s0 z st he ke tu ca tr co la) (Int32.toNatClampNeg 8) v j = mA h w wd s0 v st he ke tu ca tr co la j :=
  mA_i 8 8 rfl (by unfold mA mB; rfl) (fun x hx => by unfold mA mB; simp only [hx, if_false])
theorem mA_co {k : Nat} (hk : k < 12) : mA h w wd s0 z st he ke tu ca tr co la (9 + k) = co k := by
  unfold mA mB
  rw [if_neg (by omega), if_neg (by omega), if_neg (by omega), if_neg (by omega), if_neg (by omega), if_neg (by omega), if_pos (by omega), Nat.add_sub_cancel_left]
theorem mA_la {k : Nat} (hk : k < 4) : mA h w wd s0 z st he ke tu ca tr co la (21 + k) = la k := by
  unfold mA mB
  rw [if_neg (by omega), if_neg (by omega), if_neg (by omega), if_neg (by omega), if_neg (by omega), if_neg (by omega), if_neg (by omega), if_pos (by omega), Nat.add_sub_cancel_left]
theorem mA_wc {k : Nat} {v : Int32} (hk : k < 12) : ∀ j, upd (mA h w wd s0 z st he ke tu ca tr co la) (Int32.toNatClampNeg (nI (9 + k))) v j = mA h w wd s0 z st he ke tu ca tr (upd co k v) la j :=
  mA_i (9 + k) _ (nI_clamp (by omega)) (by rw [mA_co hk, pk_us]) (fun x hx => by
    unfold mA mB
    by_cases h9 : x < 9
    · rcases (show x < 4 ∨ x = 4 ∨ x = 5 ∨ x = 6 ∨ x = 7 ∨ x = 8 by omega) with e | rfl | rfl | rfl | rfl | rfl
      · rw [if_pos e, if_pos e]
      all_goals rfl
    · rw [pk_un (by omega)])
theorem mA_wl {k : Nat} {v : Int32} (hk : k < 4) : ∀ j, upd (mA h w wd s0 z st he ke tu ca tr co la) (Int32.toNatClampNeg (nI (21 + k))) v j = mA h w wd s0 z st he ke tu ca tr co (upd la k v) j :=
  mA_i (21 + k) _ (nI_clamp (by omega)) (by rw [mA_la hk, pk_us]) (fun x hx => by
    unfold mA mB
    by_cases h9 : x < 21
    · rcases (show x < 4 ∨ x = 4 ∨ x = 5 ∨ x = 6 ∨ x = 7 ∨ x = 8 ∨ (9 ≤ x ∧ x < 21) by omega) with e | rfl | rfl | rfl | rfl | rfl | e
      · rw [if_pos e, if_pos e]
      · rfl
      · rfl
      · rfl
      · rfl
      · rfl
      · simp only [e.2, if_true]
    · rw [pk_un (by omega)])
theorem mA_st {k : Nat} (hk : k < 4) : mA h w wd s0 z st he ke tu ca tr co la (Int32.toNatClampNeg (nI k)) = st k := by
  rw [nI_clamp (by omega)]
  unfold mA mB
  rw [if_pos hk]
theorem mA_val {k : Nat} (hk : k < 9) : mA h w wd s0 z st he ke tu ca tr co la (Int32.toNatClampNeg (nI k)) = valN (nI h) (nI w) wd s0 z st k := by
  rw [nI_clamp (by omega)]
  by_cases h4 : k < 4
  · unfold mA mB valN
    rw [if_pos h4, if_neg (by omega), if_neg (by omega), if_neg (by omega), if_neg (by omega), if_neg (by omega)]
  · rcases (show k = 4 ∨ k = 5 ∨ k = 6 ∨ k = 7 ∨ k = 8 by omega) with rfl | rfl | rfl | rfl | rfl <;> rfl
theorem mA_cn {k : Nat} (hk : k < 12) : mA h w wd s0 z st he ke tu ca tr co la (Int32.toNatClampNeg (nI (9 + k))) = co k := by rw [nI_clamp (by omega)]; exact mA_co hk
theorem mA_ln {k : Nat} (hk : k < 4) : mA h w wd s0 z st he ke tu ca tr co la (Int32.toNatClampNeg (nI (21 + k))) = la k := by rw [nI_clamp (by omega)]; exact mA_la hk
/-- a row by its rows below what is looked at -/
theorem mA_eq {st' he' ke' tu' ca' tr' co' la' : Nat → Int32} (h1 : ∀ j, j < 4 → st j = st' j) (h2 : ∀ c, c < h * w → he c = he' c ∧ ke c = ke' c ∧ tu c = tu' c ∧ ca c = ca' c ∧ tr c = tr' c) (h3 : ∀ j, j < 12 → co j = co' j) (h4 : ∀ j, j < 4 → la j = la' j) :
    ∀ j, mA h w wd s0 z st he ke tu ca tr co la j = mA h w wd s0 z st' he' ke' tu' ca' tr' co' la' j := by
  intro j
  unfold mA
  rw [mB_congr (Y := cm he' ke' tu' ca' tr') (fun _ a2 => by
    obtain ⟨e1, e2, e3, e4, e5⟩ := h2 _ a2
    unfold cm trpN
    rw [e1, e2, e3, e4, e5])]
  unfold mB
  rcases (show j < 4 ∨ j = 4 ∨ j = 5 ∨ j = 6 ∨ j = 7 ∨ j = 8 ∨ (9 ≤ j ∧ j < 21) ∨ (21 ≤ j ∧ j < 25) ∨ 25 ≤ j by omega) with e | rfl | rfl | rfl | rfl | rfl | e | e | e
  · rw [if_pos e, if_pos e, h1 j e]
  · rfl
  · rfl
  · rfl
  · rfl
  · rfl
  · rw [h3 _ (by omega)]
    simp only [show ¬ j < 4 by omega, e.2, if_true, if_false]
  · rw [h4 _ (by omega)]
    simp only [show ¬ j < 4 by omega, show ¬ j < 21 by omega, e.2, if_true, if_false]
  · simp only [show ¬ j < 4 by omega, show ¬ j < 21 by omega, show ¬ j < 25 by omega, if_false]
end MA
theorem kp10 {P : Prop} [Decidable P] (h : P) : ¬ (if P then (1 : Int32) else 0) = 0 := by rw [if_pos h]; decide
theorem kn10 {P : Prop} [Decidable P] (h : ¬ P) : (if P then (1 : Int32) else 0) = 0 := if_neg h
theorem kin64 {v lo hi : Int32} : (if ¬ v.toInt64 < lo.toInt64 ∧ ¬ hi.toInt64 < v.toInt64 then (1 : Int32) else 0) = if ¬ v < lo ∧ ¬ hi < v then 1 else 0 := by
  have e : ∀ a b : Int32, a.toInt64 < b.toInt64 ↔ a < b := fun a b => by rw [Int64.lt_iff_toInt_lt, Int32.lt_iff_toInt_lt, Int32.toInt_toInt64, Int32.toInt_toInt64]
  have p : (¬ v.toInt64 < lo.toInt64 ∧ ¬ hi.toInt64 < v.toInt64) ↔ (¬ v < lo ∧ ¬ hi < v) := by rw [e, e]
  by_cases h : ¬ v < lo ∧ ¬ hi < v
  · rw [if_pos h, if_pos (p.mpr h)]
  · rw [if_neg h, if_neg (fun z => h (p.mp z))]
