/-! THE LAW: undo, digests -/
def udK (k : Nat) : Nat := if k = 4 then 3 else k
theorem ud_1 (k : Nat) : svK k = udK k + 1 := by unfold svK udK; split <;> rfl
theorem ud_2 {o k : Nat} (ho : o < 4) (hk : k ≤ 4) : (svO o k + udK k) % 4 = svI o k := by unfold svO udK svI; split <;> omega
theorem ud_3 {k : Nat} (hk : k ≤ 4) : udK k < 4 := by unfold udK; split <;> omega
theorem ud_4 {G : Nat → cT} {o k : Nat} {K : cT} (ho : o < 4) (hk : k ≤ 4) : cup G (svI o k) K ((svO o k + udK k) % 4) = K := by rw [ud_2 ho hk]; exact cup_s _ _ _
theorem o_undo (l : Launch) (hfl : l.stackTraces = false) (E : kE) (X : xT) (O : oT) (k : Nat) (F0 : fT) (hk : O.2.2.2.2.1 = k + 1) (ho : O.2.2.2.1 < 4) (hk4 : k < 4) (hGi : O.2.2.2.2.2 ((O.2.2.2.1 + k) % 4) = fld F0) :
    kF E l yX6_undo wsX6_undo rmX6_undo [.ref X.1.1] (List.flatten [ob E X O]) kI (fun (r : Int32) (u : oT) => r = nI k ∧ u = (F0, (O.2.1, (O.2.2.1, (O.2.2.2.1, (k, O.2.2.2.2.2)))))) (fun u => List.flatten [ob E X u]) 0 0 := by
  obtain ⟨F, C, D, o, k9, G⟩ := O
  have hkj : k9 = k + 1 := hk
  have hGj : G ((o + k) % 4) = fld F0 := hGi
  subst hkj
  have h := c_X6_undo_ok l hfl E X.1.1 X.1.2.1 X.1.2.2.1 X.2.1.1 X.2.1.2.1 X.2.1.2.2.1 X.2.1.2.2.2 X.1.2.2.2.1 X.1.2.2.2.2 X.2.2 G o k F.1 F.2.1 (nI F.2.2.1) (nI F.2.2.2.1) F.2.2.2.2.1 F.2.2.2.2.2.1 F.2.2.2.2.2.2.1 F.2.2.2.2.2.2.2.1 F.2.2.2.2.2.2.2.2.1 F.2.2.2.2.2.2.2.2.2.1 F.2.2.2.2.2.2.2.2.2.2.1 F.2.2.2.2.2.2.2.2.2.2.2.1 F.2.2.2.2.2.2.2.2.2.2.2.2 ho hk4
  rw [hGj] at h
  exact kX_frame (S2 := oT) (post2 := (fun (r : Int32) (u : oT) => r = nI k ∧ u = (F0, (C, (D, (o, (k, G))))))) (w2 := (fun u => List.flatten [ob E X u])) h (List.flatten [oc1 X, oc3 X, oc4 E X C, oc5 E X D, oc7 E X]) (kperm (pm_026 _ _ _ _ _ _ _ _)) (fun (_ : Unit) => ((F0, (C, (D, (o, (k, G))))) : oT)) (fun r u e => ⟨e, rfl⟩) (fun u => kperm (pm_026 _ _ _ _ _ _ _ _))
theorem dg_1 (h w d : Nat) (s0 z : Int32) (st he ke tu ca tr co la : Nat → Int32) : digF h w d s0 z st he ke tu ca tr co la 0 3 = digF h w d s0 z st he ke tu ca tr co la 0 4 - 1 := by
  unfold digF
  generalize 31 * dgF (fun t8 => nI (dnN h w he (nI (t8 + 1)))) (dgF la (dgF co (dgC (cvN h w d he ke tu ca tr) (dgF (valN (nI h) (nI w) (nI d) s0 z st) (31 * 3301 + (nI 0).toInt64) 9) (h * w)) 12) 4) 5 = x
  rw [show (nI 4).toInt64 = (nI 3).toInt64 + 1 from by decide, ← Int64.add_assoc, Int64.add_sub_cancel]
theorem ob_fold {E : kE} {A : Nat → Prop} {s : State} {H : Heap} {locs : List Loc} {X : xT} {O : oT} (pre chs : List va_W) (h : ob E X O = chs.flatten) (hw : kW E A s (pre ++ chs).flatten H locs) : kW E A s (pre ++ [ob E X O]).flatten H locs := by
  rw [List.flatten_append, List.flatten_cons, List.flatten_nil, List.append_nil, h, ← List.flatten_append]
  exact hw
