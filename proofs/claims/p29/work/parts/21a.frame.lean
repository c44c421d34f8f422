/-! THE FRAME RULE for contracts; a whole object in one chunk -/
section KF
variable {p : Program} {l : Launch} {e : Env} {R : Room} {s : State} {m : MethodId} {args : Array Value} {below : List Frame} {meth : Method} {c : Code} {H : Heap} {locs : List Loc} {cells slots : Nat} {Q : State → Prop}
variable {pc : Nat} {ls : Array Slot} {rest st0 : List Value} {a : Array Value} {A : Nat → Prop} {mc ms : Nat} {E : kE} {α S S2 : Type} {emb : α → Option Value} {post : α → S → Prop} {w' : S → va_W} {w : va_W} {pre mid post9 : List va_W}
variable {y : MethodName} {bytes cc : ByteArray} {maxL nL n index : Nat} {ret : Option FieldType} {ws : List Cond} {rm : Room} {Ts : List Cond} {own C : String} {b : Addr} {As : List Value}
abbrev kNo : String → Prop := fun _ => False
/-- a contract of a method that returns -/
abbrev kF {α S : Type} (E : kE) (l : Launch) (y : MethodName) (ws : List Cond) (rm : Room) (As : List Value) (w : va_W) (emb : α → Option Value) (post : α → S → Prop) (w' : S → va_W) (mc ms : Nat) : Prop := kX E l y ws rm As w emb post w' kNo mc ms
theorem kZ.at {A' : Nat → Prop} {U : State} (hZ : kZ A s) (hS : va_S A s.heap H locs) (hA : ∀ q, A' q → A q) (hU : U.heap = H) (hW : s.WarmedH U.vm) : kZ A' U := by
  unfold kZ
  rw [hU]
  exact ⟨((hZ.1.kept hS.2.1).moved hW.alike).narrow hA, ((hZ.2.kept hS.2.1).moved hW.alike).narrow hA⟩
theorem kZ.less {A' : Nat → Prop} (hZ : kZ A s) (hA : ∀ q, A' q → A q) : kZ A' s := ⟨hZ.1.narrow hA, hZ.2.narrow hA⟩
theorem kPreX.blind {sz : Nat} : FrameBlind (kPreX E As w sz) := fun a U g mk q => by
  obtain ⟨q0, q1, qP, qK, qD, qZ⟩ := q
  exact ⟨q0, q1, qP, ⟨va_K.moved (u := U) (U := U.calling g mk a) (Vm.Alike.refl U.vm) qK.1, kN.same (u := U) (U := U.calling g mk a) rfl qK.2⟩, qD, vx_Zq.moved (u := U) (U := U.calling g mk a) (Vm.Alike.refl U.vm) qZ.1, vx_Zq.moved (u := U) (U := U.calling g mk a) (Vm.Alike.refl U.vm) qZ.2⟩
theorem kPreX.at {ws : va_W} (hw : kW E A s ws H locs) (hZ : kZ A s) (h : va_P E.1 vwCl w H ∧ va_D A w) : ∀ U : State, U.heap = H → s.WarmedH U.vm → kPreX E As w H.size As.toArray U := fun U hU hW =>
  ⟨rfl, by rw [hU], by rw [hU]; exact h.1, ⟨va_K.moved hW.alike hw.2.2.1.1, kN.warm hW hw.2.2.1.2⟩, h.2.weaken (fun _ _ _ _ => trivial), hZ.at hw.2.2.2.1 (hw.free h.2) hU hW⟩
theorem k_goX {xc : String → Prop} (hxc : ∀ X, ¬ xc X) (hr : vx_Run p l e R s m args below meth c H locs cells slots mc ms (F0 m pc ls st0) rest (kQ E emb post w' (va_A w H.size) a) (kXC E w (va_A w H.size) xc) (va_A w H.size)) (hw : kW E A s (pre ++ (mid ++ post9)).flatten H locs) (hs : mid.flatten = w) (mid' : S → List va_W) (h1 : ∀ u, (mid' u).flatten = w' u)
    (kk : ∀ (r : α) (u : S) (H1 : Heap) (locs1 : List Loc), post r u → kW E A s (pre ++ (mid' u ++ post9)).flatten H1 locs1 → W p l e R s m args below meth c H1 locs1 (cells + mc) (slots + ms) Q (F0 m (pc + 3) ls ((emb r).toList ++ rest))) : W p l e R s m args below meth c H locs cells slots Q (F0 m pc ls st0) := by
  have hF := hw.free (hw.sub hs).2
  have hS := hw.2.2.2.1
  have keep : ∀ {st₀ t T' : State} {L : List Loc}, st₀.heap = H → T'.heap = t.heap → (∀ q ∈ L, va_A w H.size q.base) → va_F (va_A w H.size) st₀ t → va_S A s.heap T'.heap (locs ++ L) := fun {st₀ t T' L} h0 e1 hL hf => by
    obtain ⟨hz, hk⟩ := hf
    rw [h0] at hz hk
    exact ⟨Nat.le_trans hS.1 (by rw [e1]; exact hz), fun q h1 h2 => by rw [e1, hk q (Nat.lt_of_lt_of_le h1 hS.1) (fun z => h2 (hF q z))]; exact hS.2.1 q h1 h2, fun q hq => by
      rcases List.mem_append.mp hq with h | h
      · exact hS.2.2 q h
      · exact hF _ (hL q h)⟩
  intro T hT X
  rcases hr T hT X with ⟨v, st₀, t, T', L, h0, X', hL, e1, e2, ⟨⟨r, u, hv, hpo, hP1, hD1⟩, hf⟩, st⟩ | ⟨q, st₀, t, T', L, EX, ce, h0, X', hL, e1, e2, ⟨u, hp, ⟨hxc9, hP1, hD1⟩, hf⟩, hce, hcv, hcl, st⟩
  · cases hv
    have hk := hf.2
    rw [h0] at hk
    have hw1 : kW E A s (pre ++ (mid' u ++ post9)).flatten T'.heap (locs ++ L) := kjoin hw hs (h1 u) (fun q h1 h2 => by rw [e1]; exact hk q h1 h2) (by rw [e1]; exact hP1) hD1 (keep h0 e1 hL hf)
    obtain ⟨t2, a1, b1⟩ := kk r u T'.heap (locs ++ L) hpo hw1 T' rfl X'
    exact ⟨t2, st t2 a1, b1⟩
  · exact (hxc EX hxc9).elim
/-- invokevirtual -/
theorem k_VF (C0 : CallFix p m c cc nL s args Ts own) (hM : kF E l y ws rm (.ref b :: As) w emb post w' mc ms) (cw : CallW R s args own C index y bytes maxL ret ws rm mc ms n)
    (hw : kW E A s (pre ++ (mid ++ post9)).flatten H locs) (hs : mid.flatten = w) (hZ : kZ A s) (mid' : S → List va_W) (h1 : ∀ u, (mid' u).flatten = w' u)
    (q0 ci : Nat) {q : vw_C} {fs : List Value} (hc : vwCl[ci]? = some q) (hC : q.1 = C) (he : w[q0]? = some (b, .inr (ci, fs)))
    (hn : As.length = n) (hsize : ls.size = nL) (hst : st0 = As.reverse ++ .ref b :: rest) (hR : (rest.map fun v => v.category).sum ≤ 8) (hdg : decode cc pc = .ok (.invokevirtual index, 3)) (hf : cells + mc ≤ R.cells ∧ slots + ms ≤ R.slots)
    (kk : ∀ (r : α) (u : S) (H1 : Heap) (locs1 : List Loc), post r u → kW E A s (pre ++ (mid' u ++ post9)).flatten H1 locs1 → W p l e R s m args below meth c H1 locs1 (cells + mc) (slots + ms) Q (F0 m (pc + 3) ls ((emb r).toList ++ rest))) : W p l e R s m args below meth c H locs cells slots Q (F0 m pc ls st0) := by
  have h := hw.sub hs
  subst hC
  exact k_goX (fun _ hx => hx) (vx_runV C0 (hM H.size) cw ⟨kPreX.blind, va_recv hw.2.2.1.1 h.1 hc he, kPreX.at hw hZ h⟩ rfl hn hsize hst (lv_room hR) hdg hf) hw hs mid' h1 kk
theorem kA_sub {w W : va_W} {sz : Nat} (h : ∀ x ∈ w, x ∈ W) {q : Nat} (hq : va_A w sz q) : va_A W sz q := by
  rcases hq with ⟨k, e, h1⟩ | h1
  · obtain ⟨k2, h2⟩ := List.getElem?_of_mem (h _ (List.mem_of_getElem? h1))
    exact Or.inl ⟨k2, e, h2⟩
  · exact Or.inr h1
/-- what returns always keeps the form of what may throw -/
theorem kX_ofC {xc : String → Prop} (h : kC E l y ws rm As w emb post w' mc ms) : kX E l y ws rm As w emb post w' xc mc ms := by
  intro sz
  refine MetFree.mono (h sz) (fun a s hp => ?_) (fun _ _ _ _ _ _ => trivial) (fun a s o t _ hq => Or.inl hq)
  obtain ⟨q0, q1, qP, qK, qD, qZ⟩ := hp
  exact ⟨q0, q1, qP, qK, qD⟩
/-- a contract speaks of its own cells alone: with r beside them, it keeps r -/
theorem kX_frame (h : kF E l y ws rm As w emb post w' mc ms) (r : va_W) {W : va_W} {post2 : α → S2 → Prop} {w2 : S2 → va_W} (hW : W.Perm (w ++ r)) (f : S → S2) (hpo : ∀ x u, post x u → post2 x (f u)) (h2 : ∀ u, (w2 (f u)).Perm (w' u ++ r)) :
    kF E l y ws rm As W emb post2 w2 mc ms := by
  intro sz
  have hsub : ∀ x ∈ w, x ∈ W := fun x hx => hW.mem_iff.mpr (List.mem_append_left _ hx)
  refine MetFree.mono (h sz) (fun a s hp => ?_) (fun _ _ _ _ _ _ => trivial) (fun a s o t hp hq => ?_)
  · obtain ⟨q0, q1, qP, qK, qD, qZ⟩ := hp
    rw [kP_mem] at qP
    rw [kD_iff] at qD
    have nd := (hW.map (fun q => q.1)).nodup qD.1
    rw [List.map_append, List.nodup_append] at nd
    exact ⟨q0, q1, kP_mem.mpr fun q hq => qP q (hsub q hq), qK, kD_iff.mpr ⟨nd.1, fun _ _ => trivial⟩, qZ.less (fun q hq => kA_sub hsub hq)⟩
  · obtain ⟨q0, q1, qP, qK, qD, qZ⟩ := hp
    rcases hq with ⟨⟨⟨x, u, hv, hpost, hP1, hD1⟩, hz, hk⟩, L, hF, hL⟩ | ⟨q, e9, X, ce, L, ⟨u, hu, ⟨hxc, _⟩, _⟩, _⟩
    · rw [kP_mem] at qP hP1
      rw [kD_iff] at qD hD1
      have nd := (hW.map (fun q => q.1)).nodup qD.1
      rw [List.map_append, List.nodup_append] at nd
      have hr : ∀ q ∈ r, q.1 < s.heap.size ∧ ¬ va_A w sz q.1 := fun q hq => by
        have hlt := (qP q (hW.mem_iff.mpr (List.mem_append_right _ hq))).lt
        refine ⟨hlt, fun h9 => ?_⟩
        rcases h9 with ⟨k, e, h9⟩ | h9
        · exact nd.2.2 q.1 (List.mem_map.mpr ⟨(q.1, e), List.mem_of_getElem? h9, rfl⟩) q.1 (List.mem_map.mpr ⟨q, hq, rfl⟩) rfl
        · omega
      refine Or.inl ⟨⟨⟨x, f u, hv, hpo x u hpost, kP_mem.mpr fun q hq => ?_, kD_iff.mpr ⟨?_, fun q hq => ?_⟩⟩, hz, fun q h1 h3 => hk q h1 (fun z => h3 (kA_sub hsub z))⟩, L, hF, fun q hq => kA_sub hsub (hL q hq)⟩
      · rcases List.mem_append.mp ((h2 u).mem_iff.mp hq) with h9 | h9
        · exact hP1 q h9
        · exact (qP q (hW.mem_iff.mpr (List.mem_append_right _ h9))).kept (hk q.1 (hr q h9).1 (hr q h9).2)
      · refine ((h2 u).map (fun q => q.1)).symm.nodup ?_
        rw [List.map_append, List.nodup_append]
        refine ⟨hD1.1, nd.2.1, fun a9 ha b9 hb hab => ?_⟩
        obtain ⟨x9, hx9, rfl⟩ := List.mem_map.mp ha
        obtain ⟨z9, hz9, rfl⟩ := List.mem_map.mp hb
        exact (hr z9 hz9).2 (hab ▸ hD1.2 x9 hx9)
      · rcases List.mem_append.mp ((h2 u).mem_iff.mp hq) with h9 | h9
        · exact kA_sub hsub (hD1.2 q h9)
        · obtain ⟨k, hk9⟩ := List.getElem?_of_mem (hW.mem_iff.mpr (List.mem_append_right w h9))
          exact Or.inl ⟨k, q.2, hk9⟩
    · exact hxc.elim
theorem kperm {chs mid rest : List va_W} (hp : chs.Perm (mid ++ rest)) : (List.flatten [chs.flatten]).Perm (mid.flatten ++ rest.flatten) := by
  rw [List.flatten_cons, List.flatten_nil, List.append_nil, ← List.flatten_append]
  exact hp.flatten
end KF
section PM
variable {α : Type}
theorem pm_026 (a b c d e f g h : α) : [a, b, c, d, e, f, g, h].Perm ([a, c, g] ++ [b, d, e, f, h]) := (show [0, 1, 2, 3, 4, 5, 6, 7].Perm [0, 2, 6, 1, 3, 4, 5, 7] by decide).map (fun i => [a, b, c, d, e, f, g, h].getD i a)
theorem pm_0126 (a b c d e f g h : α) : [a, b, c, d, e, f, g, h].Perm ([a, b, c, g] ++ [d, e, f, h]) := (show [0, 1, 2, 3, 4, 5, 6, 7].Perm [0, 1, 2, 6, 3, 4, 5, 7] by decide).map (fun i => [a, b, c, d, e, f, g, h].getD i a)
theorem pm_02 (a b c d e f g h : α) : [a, b, c, d, e, f, g, h].Perm ([a, c] ++ [b, d, e, f, g, h]) := (show [0, 1, 2, 3, 4, 5, 6, 7].Perm [0, 2, 1, 3, 4, 5, 6, 7] by decide).map (fun i => [a, b, c, d, e, f, g, h].getD i a)
theorem pm_052 (a b c d e f g h : α) : [a, b, c, d, e, f, g, h].Perm ([a, f, c] ++ [b, d, e, g, h]) := (show [0, 1, 2, 3, 4, 5, 6, 7].Perm [0, 5, 2, 1, 3, 4, 6, 7] by decide).map (fun i => [a, b, c, d, e, f, g, h].getD i a)
theorem pm_05234 (a b c d e f g h : α) : [a, b, c, d, e, f, g, h].Perm ([a, f, c, d, e] ++ [b, g, h]) := (show [0, 1, 2, 3, 4, 5, 6, 7].Perm [0, 5, 2, 3, 4, 1, 6, 7] by decide).map (fun i => [a, b, c, d, e, f, g, h].getD i a)
theorem pm_0234 (a b c d e f g h : α) : [a, b, c, d, e, f, g, h].Perm ([a, c, d, e] ++ [b, f, g, h]) := (show [0, 1, 2, 3, 4, 5, 6, 7].Perm [0, 2, 3, 4, 1, 5, 6, 7] by decide).map (fun i => [a, b, c, d, e, f, g, h].getD i a)
theorem pm_05276 (a b c d e f g h : α) : [a, b, c, d, e, f, g, h].Perm ([a, f, c, h, g] ++ [b, d, e]) := (show [0, 1, 2, 3, 4, 5, 6, 7].Perm [0, 5, 2, 7, 6, 1, 3, 4] by decide).map (fun i => [a, b, c, d, e, f, g, h].getD i a)
end PM
/-- an object's addresses: d0, q1, q2, q, n; a, e, m, t; b -/
abbrev xT : Type := (Nat × (Nat × (Nat × (Nat × Nat)))) × (((Nat → Nat) × ((Nat → Nat) × ((Nat → Nat) × (Nat → Nat)))) × (Nat → Nat → Nat))
/-- its field: h, w, d, s; z; settings, heights, kept heights, tufts, capacities, trapped, counts, latest -/
abbrev fT : Type := Nat × (Nat × (Nat × (Nat × (Int32 × ((Nat → Int32) × ((Nat → Int32) × ((Nat → Int32) × ((Nat → Int32) × ((Nat → Int32) × ((Nat → Int32) × ((Nat → Int32) × (Nat → Int32))))))))))))
/-- the rest: the trial field, the dunes, the saved states -/
abbrev jT : Type := cT × ((fP × (fP × Int32)) × (Nat × (Nat × (Nat → cT))))
abbrev oT : Type := fT × jT
def fld (F : fT) : cT := (nI F.1, nI F.2.1, nI F.2.2.1, nI F.2.2.2.1, F.2.2.2.2)
abbrev oc0 (X : xT) : va_W := oc X.1.1 6 [.ref (X.2.1.1 0), .ref X.1.2.1, .ref (X.2.1.2.1 0), .ref X.1.2.2.1, .ref (X.2.1.2.2.1 0), .ref X.1.2.2.2.1, .ref (X.2.1.2.2.2 0)]
abbrev oc1 (X : xT) : va_W := oc X.1.2.1 5 [.ref (X.2.1.1 0), .ref (X.2.1.1 2)]
abbrev oc2 (E : kE) (X : xT) (F : fT) : va_W := fc E X.2.1.1 (nI F.1) (nI F.2.1) (nI F.2.2.1) (nI F.2.2.2.1) F.2.2.2.2.1 F.2.2.2.2.2.1 F.2.2.2.2.2.2.1 F.2.2.2.2.2.2.2.1 F.2.2.2.2.2.2.2.2.1 F.2.2.2.2.2.2.2.2.2.1 F.2.2.2.2.2.2.2.2.2.2.1 F.2.2.2.2.2.2.2.2.2.2.2.1 F.2.2.2.2.2.2.2.2.2.2.2.2
abbrev oc3 (X : xT) : va_W := oc X.1.2.2.1 5 [.ref (X.2.1.2.1 0), .ref (X.2.1.2.1 2)]
abbrev oc4 (E : kE) (X : xT) (K : cT) : va_W := fcT E X.2.1.2.1 K
abbrev oc5 (E : kE) (X : xT) (D : fP × (fP × Int32)) : va_W := dm E X.2.1.2.2.1 D.1.1 D.1.2 D.2.1.1 D.2.1.2 D.2.2
abbrev oc6 (E : kE) (X : xT) (G : Nat × (Nat × (Nat → cT))) : va_W := hw4 E X.1.2.2.2.1 X.1.2.2.2.2 X.2.2 (nI G.1) (nI G.2.1) G.2.2
abbrev oc7 (E : kE) (X : xT) : va_W := tx E X.2.1.2.2.2 (fun _ => 0) (nI 0) (nI 0) (nI 0)
/-- a whole object -/
def ob (E : kE) (X : xT) (O : oT) : va_W := List.flatten [oc0 X, oc1 X, oc2 E X O.1, oc3 X, oc4 E X O.2.1, oc5 E X O.2.2.1, oc6 E X O.2.2.2, oc7 E X]
