/-! WHAT THE CALLS DO TO A FIELD -/
def heF (F : fT) (k : Nat) (v : Int32) : fT := (F.1, F.2.1, F.2.2.1, F.2.2.2.1, F.2.2.2.2.1, F.2.2.2.2.2.1, upd F.2.2.2.2.2.2.1 k v, upd F.2.2.2.2.2.2.2.1 k v, F.2.2.2.2.2.2.2.2.1, F.2.2.2.2.2.2.2.2.2.1, F.2.2.2.2.2.2.2.2.2.2.1, F.2.2.2.2.2.2.2.2.2.2.2.1, F.2.2.2.2.2.2.2.2.2.2.2.2)
def tuF (F : fT) (k : Nat) (v : Int32) : fT := (F.1, F.2.1, F.2.2.1, F.2.2.2.1, F.2.2.2.2.1, F.2.2.2.2.2.1, F.2.2.2.2.2.2.1, F.2.2.2.2.2.2.2.1, upd F.2.2.2.2.2.2.2.2.1 k v, F.2.2.2.2.2.2.2.2.2.1, F.2.2.2.2.2.2.2.2.2.2.1, F.2.2.2.2.2.2.2.2.2.2.2.1, F.2.2.2.2.2.2.2.2.2.2.2.2)
def caF (F : fT) (k : Nat) (v : Int32) : fT := (F.1, F.2.1, F.2.2.1, F.2.2.2.1, F.2.2.2.2.1, F.2.2.2.2.2.1, F.2.2.2.2.2.2.1, F.2.2.2.2.2.2.2.1, F.2.2.2.2.2.2.2.2.1, upd F.2.2.2.2.2.2.2.2.2.1 k v, upd F.2.2.2.2.2.2.2.2.2.2.1 k 0, F.2.2.2.2.2.2.2.2.2.2.2.1, F.2.2.2.2.2.2.2.2.2.2.2.2)
def stF9 (F : fT) (j : Nat) (v : Int32) : fT := (F.1, F.2.1, F.2.2.1, F.2.2.2.1, F.2.2.2.2.1, upd F.2.2.2.2.2.1 j v, F.2.2.2.2.2.2.1, F.2.2.2.2.2.2.2.1, F.2.2.2.2.2.2.2.2.1, F.2.2.2.2.2.2.2.2.2.1, F.2.2.2.2.2.2.2.2.2.2.1, F.2.2.2.2.2.2.2.2.2.2.2.1, F.2.2.2.2.2.2.2.2.2.2.2.2)
def wdF (F : fT) (d2 v : Nat) : fT := (F.1, F.2.1, d2, v, F.2.2.2.2.1, F.2.2.2.2.2.1, F.2.2.2.2.2.2.1, F.2.2.2.2.2.2.2.1, F.2.2.2.2.2.2.2.2.1, F.2.2.2.2.2.2.2.2.2.1, F.2.2.2.2.2.2.2.2.2.2.1, F.2.2.2.2.2.2.2.2.2.2.2.1, F.2.2.2.2.2.2.2.2.2.2.2.2)
def seF (F : fT)  : fT := (F.1, F.2.1, F.2.2.1, F.2.2.2.1, F.2.2.2.2.1 + 1, F.2.2.2.2.2.1, F.2.2.2.2.2.2.1, F.2.2.2.2.2.2.1, es2 (F.1 * F.2.1) F.2.2.2.2.2.2.1 F.2.2.2.2.2.2.2.1 F.2.2.2.2.2.2.2.2.1, F.2.2.2.2.2.2.2.2.2.1, F.2.2.2.2.2.2.2.2.2.2.1, F.2.2.2.2.2.2.2.2.2.2.2.1, F.2.2.2.2.2.2.2.2.2.2.2.2)
def bgF (r2 c2 v : Nat) : fT := (r2, c2, 0, 1, 0, st0F, (fun _ => nI v), (fun _ => nI v), (fun _ => 0), (fun _ => (-1)), (fun _ => 0), (fun _ => 0), (fun _ => (-1)))
def rb (F : fT) (hp m9 : Nat) : Nat × stT := blo F.1 F.2.1 F.2.2.1 hp F.2.2.2.2.2.1 F.2.2.2.2.2.2.2.2.1 F.2.2.2.2.2.2.2.2.2.1 m9 (F.2.2.2.1, F.2.2.2.2.2.2.1, F.2.2.2.2.2.2.2.2.2.2.1, F.2.2.2.2.2.2.2.2.2.2.2.1, F.2.2.2.2.2.2.2.2.2.2.2.2)
def rF (F : fT) (hp m9 : Nat) : fT := (F.1, F.2.1, F.2.2.1, (rb F hp m9).2.1, F.2.2.2.2.1, F.2.2.2.2.2.1, (rb F hp m9).2.2.1, F.2.2.2.2.2.2.2.1, F.2.2.2.2.2.2.2.2.1, F.2.2.2.2.2.2.2.2.2.1, (rb F hp m9).2.2.2.1, (rb F hp m9).2.2.2.2.1, (rb F hp m9).2.2.2.2.2)
theorem p_setHeight (l : Launch) (hfl : l.stackTraces = false) (E : kE) (X : xT) (O : oT) (k : Nat) (v : Int32) (hG : kG O.1.1 O.1.2.1) (hc : k < O.1.1 * O.1.2.1) (hv : ¬ v < 0 ∧ ¬ 99 < v) (hH : hOK O) : kF E l yX6_setHeight wsX6_setHeight rmX6_setHeight [.ref X.1.1, .int (nI k), .int v] (List.flatten [ob E X O]) kI (fun (r : Int32) (u : oT) => r = O.1.2.2.2.2.2.2.1 k ∧ u = (heF O.1 k v, (O.2.1, (O.2.2.1, svJ O)))) (fun u => List.flatten [ob E X u]) 0 0 := o_setHeight l hfl E X O k v hG hc hv hH
theorem p_setTuft (l : Launch) (hfl : l.stackTraces = false) (E : kE) (X : xT) (O : oT) (k : Nat) (v : Int32) (hG : kG O.1.1 O.1.2.1) (hc : k < O.1.1 * O.1.2.1) (hv : ¬ v < 0 ∧ ¬ 100 < v) (hH : hOK O) : kF E l yX6_setTuft wsX6_setTuft rmX6_setTuft [.ref X.1.1, .int (nI k), .int v] (List.flatten [ob E X O]) kI (fun (r : Int32) (u : oT) => r = O.1.2.2.2.2.2.2.2.2.1 k ∧ u = (tuF O.1 k v, (O.2.1, (O.2.2.1, svJ O)))) (fun u => List.flatten [ob E X u]) 0 0 := o_setTuft l hfl E X O k v hG hc hv hH
theorem p_setFence (l : Launch) (hfl : l.stackTraces = false) (E : kE) (X : xT) (O : oT) (k : Nat) (v : Int32) (hG : kG O.1.1 O.1.2.1) (hc : k < O.1.1 * O.1.2.1) (hv : v = -1 ∨ (¬ v < 1 ∧ ¬ 50 < v)) (hH : hOK O) : kF E l yX6_setFence wsX6_setFence rmX6_setFence [.ref X.1.1, .int (nI k), .int v] (List.flatten [ob E X O]) kI (fun (r : Int32) (u : oT) => r = trpN O.1.2.2.2.2.2.2.2.2.2.1 O.1.2.2.2.2.2.2.2.2.2.2.1 k ∧ u = (caF O.1 k v, (O.2.1, (O.2.2.1, svJ O)))) (fun u => List.flatten [ob E X u]) 0 0 := o_setFence l hfl E X O k v hG hc hv hH
theorem p_set (l : Launch) (hfl : l.stackTraces = false) (E : kE) (X : xT) (O : oT) (j : Nat) (v : Int32) (hj : j < 4) (hv : stB (nI j) v = true) (hH : hOK O) : kF E l yX6_set wsX6_set rmX6_set [.ref X.1.1, .int (nI j), .int v] (List.flatten [ob E X O]) kI (fun (r : Int32) (u : oT) => r = O.1.2.2.2.2.2.1 j ∧ u = (stF9 O.1 j v, (O.2.1, (O.2.2.1, svJ O)))) (fun u => List.flatten [ob E X u]) 0 0 := o_set l hfl E X O j v hj hv hH
theorem p_setWind (l : Launch) (hfl : l.stackTraces = false) (E : kE) (X : xT) (O : oT) (d2 v : Nat) (hd2 : d2 < 4) (hv : v < 1000000) (hH : hOK O) : kF E l yX6_setWind wsX6_setWind rmX6_setWind [.ref X.1.1, .int (nI d2), .int (nI v)] (List.flatten [ob E X O]) kI (fun (r : Int32) (u : oT) => r = nI O.1.2.2.1 ∧ u = (wdF O.1 d2 v, (O.2.1, (O.2.2.1, svJ O)))) (fun u => List.flatten [ob E X u]) 0 0 := o_setWind l hfl E X O d2 v hd2 hv hH
theorem p_begin (l : Launch) (hfl : l.stackTraces = false) (E : kE) (X : xT) (O : oT) (r2 c2 v : Nat) (hG8 : kG r2 c2) (hv : v ≤ 20) (hH : hOK O) : kF E l yX6_begin wsX6_begin rmX6_begin [.ref X.1.1, .int (nI r2), .int (nI c2), .int (nI v)] (List.flatten [ob E X O]) kI (fun (r : Int32) (u : oT) => r = nI (r2 * c2) ∧ u = (bgF r2 c2 v, (O.2.1, (O.2.2.1, svJ O)))) (fun u => List.flatten [ob E X u]) 0 0 := o_begin l hfl E X O r2 c2 v hG8 hv hH
theorem p_season (l : Launch) (hfl : l.stackTraces = false) (E : kE) (X : xT) (O : oT)  (hG : kG O.1.1 O.1.2.1) (hH : hOK O) : kF E l yX6_season wsX6_season rmX6_season [.ref X.1.1] (List.flatten [ob E X O]) kI (fun (r : Int32) (u : oT) => r = nI (esN O.1.2.2.2.2.2.2.1 O.1.2.2.2.2.2.2.2.1 O.1.2.2.2.2.2.2.2.2.1 (O.1.1 * O.1.2.1)) ∧ u = (seF O.1, (O.2.1, (O.2.2.1, svJ O)))) (fun u => List.flatten [ob E X u]) 0 0 := o_season l hfl E X O hG hH
theorem p_run (l : Launch) (hfl : l.stackTraces = false) (E : kE) (X : xT) (O : oT) (m9 hp : Nat) (hG : kG O.1.1 O.1.2.1) (hm9 : m9 ≤ 2000) (hd : O.1.2.2.1 < 4) (hn0 : O.1.2.2.2.1 < 2147483648) (hst0 : O.1.2.2.2.2.2.1 0 = nI hp) (hp8 : hp ≤ 8) (hH : hOK O) : kF E l yX6_run wsX6_run rmX6_run [.ref X.1.1, .int (nI m9)] (List.flatten [ob E X O]) kI (fun (r : Int32) (u : oT) => r = nI (rb O.1 hp m9).1 ∧ u = (rF O.1 hp m9, (O.2.1, (O.2.2.1, svJ O)))) (fun u => List.flatten [ob E X u]) 0 0 := o_run l hfl E X O m9 hp hG hm9 hd hn0 hst0 hp8 hH
/-- what holds of a field, with the sum of heights at most B, behind N steps -/
def fOK (B N : Nat) (F : fT) : Prop := kG F.1 F.2.1 ∧ F.2.2.1 < 4 ∧ F.2.2.2.1 < 2147483648 ∧ (∃ hp, 1 ≤ hp ∧ hp ≤ 8 ∧ F.2.2.2.2.2.1 0 = nI hp) ∧ 1 ≤ (F.2.2.2.2.2.1 3).toInt ∧ hI (F.1 * F.2.1) F.2.2.2.2.2.2.1 B ∧ fnI F.2.2.2.2.2.2.2.2.2.1 F.2.2.2.2.2.2.2.2.2.2.1 ∧ ctI N F.2.2.2.2.2.2.2.2.2.2.2.1 ∧ laI N F.2.2.2.2.2.2.2.2.2.2.2.2
theorem fOK.le {B B' N : Nat} {F : fT} (h : fOK B N F) (hB : B ≤ B') : fOK B' N F := by
  obtain ⟨a, b, c, d, e, f, g⟩ := h
  exact ⟨a, b, c, d, e, hI_le f hB, g⟩
theorem fs_he {B N k v : Nat} {F : fT} (h : fOK B N F) (hB : B < 1000000) (hk : k < F.1 * F.2.1) (hv : v ≤ 14) : fOK (B + 14) N (heF F k (nI v)) := by
  obtain ⟨a, b, c, d, e, f, g⟩ := h
  obtain ⟨u, hu, eu⟩ := hI_v f hk
  exact ⟨a, b, c, d, e, hI_le (hI_up (v := v) f hk eu (by omega) hB) (by omega), g⟩
theorem fs_tu {B N k : Nat} {v : Int32} {F : fT} (h : fOK B N F) : fOK B N (tuF F k v) := h
theorem fs_ca {B N k : Nat} {v : Int32} {F : fT} (h : fOK B N F) (hv : v = -1 ∨ ∃ c, 1 ≤ c ∧ c ≤ 50 ∧ v = nI c) : fOK B N (caF F k v) := by
  obtain ⟨a, b, c, d, e, f, g, i, j⟩ := h
  refine ⟨a, b, c, d, e, f, fun x => ?_, i, j⟩
  show upd F.2.2.2.2.2.2.2.2.2.1 k v x = -1 ∨ ∃ c t : Nat, 1 ≤ c ∧ c ≤ 50 ∧ t ≤ c ∧ upd F.2.2.2.2.2.2.2.2.2.1 k v x = nI c ∧ upd F.2.2.2.2.2.2.2.2.2.2.1 k 0 x = nI t
  by_cases hx : x = k
  · rw [hx, pk_us, pk_us]
    rcases hv with h9 | ⟨c9, h1, h2, h3⟩
    · exact Or.inl h9
    · exact Or.inr ⟨c9, 0, h1, h2, Nat.zero_le _, h3, nI_0.symm⟩
  · rw [pk_un hx, pk_un hx]; exact g x
theorem st_ok (u8 : Nat) (h : u8 < 8) : stB (nI 0) (nI (1 + u8)) = true := by
  unfold stB
  rw [if_pos (show nI 0 = 0 from nI_0)]
  exact decide_eq_true ⟨nI_nlt (a := 1 + u8) (b := 1) (by omega) (by omega), nI_nlt (a := 8) (b := 1 + u8) (by omega) (by omega)⟩
theorem st_ok3 (u5 : Nat) (h : u5 < 5) : stB (nI 3) (nI (1 + u5)) = true := by
  unfold stB
  rw [if_neg (by decide), if_neg (by decide), if_pos (by decide)]
  exact decide_eq_true ⟨nI_nlt (a := 1 + u5) (b := 1) (by omega) (by omega), nI_nlt (a := 5) (b := 1 + u5) (by omega) (by omega)⟩
theorem st_ok1 {j : Nat} (hj : j = 1 ∨ j = 2) (u : Nat) (h : u < 101) : stB (nI j) (nI u) = true := by
  unfold stB
  rcases hj with rfl | rfl
  · rw [if_neg (by decide), if_pos (by decide)]
    exact decide_eq_true ⟨nI_pos (by omega), nI_nlt (a := 100) (b := u) (by omega) (by omega)⟩
  · rw [if_neg (by decide), if_pos (by decide)]
    exact decide_eq_true ⟨nI_pos (by omega), nI_nlt (a := 100) (b := u) (by omega) (by omega)⟩
theorem fs_st0 {B N u8 : Nat} {F : fT} (h : fOK B N F) (hu : u8 < 8) : fOK B N (stF9 F 0 (nI (1 + u8))) := by
  obtain ⟨a, b, c, d, e, f, g⟩ := h
  refine ⟨a, b, c, ⟨1 + u8, by omega, by omega, ?_⟩, ?_, f, g⟩
  · show upd F.2.2.2.2.2.1 0 (nI (1 + u8)) 0 = _
    rw [pk_us]
  · show 1 ≤ (upd F.2.2.2.2.2.1 0 (nI (1 + u8)) 3).toInt
    rw [pk_un (by decide)]; exact e
theorem fs_st3 {B N u5 : Nat} {F : fT} (h : fOK B N F) (hu : u5 < 5) : fOK B N (stF9 F 3 (nI (1 + u5))) := by
  obtain ⟨a, b, c, d, e, f, g⟩ := h
  refine ⟨a, b, c, ?_, ?_, f, g⟩
  · obtain ⟨hp, h1, h2, h3⟩ := d
    exact ⟨hp, h1, h2, by show upd F.2.2.2.2.2.1 3 (nI (1 + u5)) 0 = _; rw [pk_un (by decide)]; exact h3⟩
  · show 1 ≤ (upd F.2.2.2.2.2.1 3 (nI (1 + u5)) 3).toInt
    rw [pk_us, nI_toInt (by omega)]; omega
theorem fs_st1 {B N j : Nat} {v : Int32} {F : fT} (h : fOK B N F) (hj : j = 1 ∨ j = 2) : fOK B N (stF9 F j v) := by
  obtain ⟨a, b, c, d, e, f, g⟩ := h
  refine ⟨a, b, c, ?_, ?_, f, g⟩
  · obtain ⟨hp, h1, h2, h3⟩ := d
    exact ⟨hp, h1, h2, by show upd F.2.2.2.2.2.1 j v 0 = _; rw [pk_un (by omega)]; exact h3⟩
  · show 1 ≤ (upd F.2.2.2.2.2.1 j v 3).toInt
    rw [pk_un (by omega)]; exact e
theorem fs_wd {B N d2 v : Nat} {F : fT} (h : fOK B N F) (hd : d2 < 4) (hv : v < 1000000) : fOK B N (wdF F d2 v) := by
  obtain ⟨a, b, c, d, e, f, g⟩ := h
  exact ⟨a, hd, Nat.lt_trans hv (by decide), d, e, f, g⟩
theorem fs_se {B N : Nat} {F : fT} (h : fOK B N F) : fOK B N (seF F) := h
theorem fs_bg {r2 c2 v : Nat} (hG : kG r2 c2) (hv : v ≤ 20) : fOK 3840 0 (bgF r2 c2 v) := by
  have hn := kG_n hG
  refine ⟨hG, (by decide : 0 < 4), (by decide : 1 < 2147483648), ⟨3, by decide, by decide, rfl⟩, (by decide : 1 ≤ (st0F 3).toInt), hI_c hn.1 hv, fun k => Or.inl rfl, ⟨rfl, rfl, 0, Nat.le_refl 0, rfl⟩, Or.inl ⟨rfl, rfl, rfl⟩⟩
/-- a run -/
theorem fs_rn {B N hp m : Nat} {F : fT} (h : fOK B N F) (hB : B < 1000000) (hN : N + m < 100000000) (hst0 : F.2.2.2.2.2.1 0 = nI hp) : fOK B (N + m) (rF F hp m) ∧ (rb F hp m).1 ≤ m ∧ sumI (rb F hp m).2.2.1 (F.1 * F.2.1) = sumI F.2.2.2.2.2.2.1 (F.1 * F.2.1) ∧
    ¬ sumI (tpI F.2.2.2.2.2.2.2.2.2.1 (rb F hp m).2.2.2.1) (F.1 * F.2.1) < sumI (tpI F.2.2.2.2.2.2.2.2.2.1 F.2.2.2.2.2.2.2.2.2.2.1) (F.1 * F.2.1) ∧ ¬ (rb F hp m).2.2.2.2.1 5 < sumI (tpI F.2.2.2.2.2.2.2.2.2.1 (rb F hp m).2.2.2.1) (F.1 * F.2.1) - sumI (tpI F.2.2.2.2.2.2.2.2.2.1 F.2.2.2.2.2.2.2.2.2.2.1) (F.1 * F.2.1) := by
  obtain ⟨a, b, c, d, e, f, g, i, j⟩ := h
  have hn := kG_n a
  obtain ⟨⟨k1, k2, k3, k4⟩, k5, x, k6, k7, k8⟩ := blo_ok (d := F.2.2.1) (hp := hp) (tu := F.2.2.2.2.2.2.2.2.1) (S := (F.2.2.2.1, F.2.2.2.2.2.2.1, F.2.2.2.2.2.2.2.2.2.2.1, F.2.2.2.2.2.2.2.2.2.2.2.1, F.2.2.2.2.2.2.2.2.2.2.2.2)) a hB e ⟨f, g, i, j⟩ m
  obtain ⟨A, t1, t2⟩ := tp_sum g (F.1 * F.2.1)
  obtain ⟨m5, c1, c2⟩ := i.2.2
  have e1 : sumI (tpI F.2.2.2.2.2.2.2.2.2.1 (rb F hp m).2.2.2.1) (F.1 * F.2.1) = nI (A + x) := by
    refine k7.trans ?_
    show sumI (tpI F.2.2.2.2.2.2.2.2.2.1 F.2.2.2.2.2.2.2.2.2.2.1) (F.1 * F.2.1) + nI x = _
    rw [t2, nI_add]
  have e2 : (rb F hp m).2.2.2.2.1 5 = nI (m5 + x) := by
    refine k8.trans ?_
    show F.2.2.2.2.2.2.2.2.2.2.2.1 5 + nI x = _
    rw [c2, nI_add]
  refine ⟨⟨a, b, blo_n c m, d, e, k1, k2, k3, k4⟩, blo_1 _ _ _ _ _ _ _ _ _, k5, ?_, ?_⟩
  · rw [e1, t2]; exact nI_nlt (by omega) (by omega)
  · rw [e1, e2, t2, pk_sub (by omega), show A + x - A = x by omega]; exact nI_nlt (by omega) (by omega)
/-- a run in two parts -/
theorem rb_2 (F : fT) (hp : Nat) {m n : Nat} (h : n ≤ m) : rF (rF F hp n) hp (m - n) = rF F hp m ∧ (rb F hp m).1 = (rb F hp n).1 + (rb (rF F hp n) hp (m - n)).1 := by
  have h1 := blo_add (h := F.1) (w := F.2.1) (d := F.2.2.1) (hp := hp) (st := F.2.2.2.2.2.1) (tu := F.2.2.2.2.2.2.2.2.1) (ca := F.2.2.2.2.2.2.2.2.2.1) (S := (F.2.2.2.1, F.2.2.2.2.2.2.1, F.2.2.2.2.2.2.2.2.2.2.1, F.2.2.2.2.2.2.2.2.2.2.2.1, F.2.2.2.2.2.2.2.2.2.2.2.2)) n (m - n)
  rw [show n + (m - n) = m by omega] at h1
  have h2 : rb F hp m = ((rb F hp n).1 + (rb (rF F hp n) hp (m - n)).1, (rb (rF F hp n) hp (m - n)).2) := h1
  refine ⟨?_, by rw [h2]⟩
  have h3 : (rb (rF F hp n) hp (m - n)).2 = (rb F hp m).2 := by rw [h2]
  generalize hy : (rb (rF F hp n) hp (m - n)).2 = y at h3
  generalize hz : (rb F hp m).2 = z at h3
  show (F.1, F.2.1, F.2.2.1, (rb (rF F hp n) hp (m - n)).2.1, F.2.2.2.2.1, F.2.2.2.2.2.1, (rb (rF F hp n) hp (m - n)).2.2.1, F.2.2.2.2.2.2.2.1, F.2.2.2.2.2.2.2.2.1, F.2.2.2.2.2.2.2.2.2.1, (rb (rF F hp n) hp (m - n)).2.2.2.1, (rb (rF F hp n) hp (m - n)).2.2.2.2.1, (rb (rF F hp n) hp (m - n)).2.2.2.2.2) = (F.1, F.2.1, F.2.2.1, (rb F hp m).2.1, F.2.2.2.2.1, F.2.2.2.2.2.1, (rb F hp m).2.2.1, F.2.2.2.2.2.2.2.1, F.2.2.2.2.2.2.2.2.1, F.2.2.2.2.2.2.2.2.2.1, (rb F hp m).2.2.2.1, (rb F hp m).2.2.2.2.1, (rb F hp m).2.2.2.2.2)
  rw [hy, hz, h3]
def gOK (B N : Nat) (O P : oT) : Prop := O.1 = P.1 ∧ fOK B N O.1 ∧ hOK O ∧ hOK P
