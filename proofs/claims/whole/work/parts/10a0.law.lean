/-! THE LAW: calls of methods that throw, within a method that catches -/
section KL
variable {p : Program} {l : Launch} {e : Env} {R : Room} {s : State} {m : MethodId} {args : Array Value} {below : List Frame} {meth : Method} {c : Code} {H : Heap} {locs : List Loc} {cells slots : Nat} {Q : State → Prop}
variable {pc : Nat} {ls : Array Slot} {rest st0 : List Value} {a : Array Value} {A : Nat → Prop} {mc ms : Nat} {E : kE} {α S : Type} {emb : α → Option Value} {post : α → S → Prop} {w' : S → va_W} {w : va_W} {pre mid post9 : List va_W}
variable {y : MethodName} {bytes cc : ByteArray} {maxL nL n index : Nat} {ret : Option FieldType} {ws : List Cond} {rm : Room} {Ts : List Cond} {own C : String} {b : Addr} {As : List Value}
theorem kZ.at {A' : Nat → Prop} {U : State} (hZ : kZ A s) (hS : va_S A s.heap H locs) (hA : ∀ q, A' q → A q) (hU : U.heap = H) (hW : s.WarmedH U.vm) : kZ A' U := by
  unfold kZ
  rw [hU]
  exact ⟨((hZ.1.kept hS.2.1).moved hW.alike).narrow hA, ((hZ.2.kept hS.2.1).moved hW.alike).narrow hA⟩
theorem kPreX.blind {sz : Nat} : FrameBlind (kPreX E As w sz) := fun a U g mk q => by
  obtain ⟨q0, q1, qP, qK, qD, qZ⟩ := q
  exact ⟨q0, q1, qP, ⟨va_K.moved (u := U) (U := U.calling g mk a) (Vm.Alike.refl U.vm) qK.1, kN.same (u := U) (U := U.calling g mk a) rfl qK.2⟩, qD, vx_Zq.moved (u := U) (U := U.calling g mk a) (Vm.Alike.refl U.vm) qZ.1, vx_Zq.moved (u := U) (U := U.calling g mk a) (Vm.Alike.refl U.vm) qZ.2⟩
theorem kPreX.at {ws : va_W} (hw : kW E A s ws H locs) (hZ : kZ A s) (h : va_P E.1 vwCl w H ∧ va_D A w) : ∀ U : State, U.heap = H → s.WarmedH U.vm → kPreX E As w H.size As.toArray U := fun U hU hW =>
  ⟨rfl, by rw [hU], by rw [hU]; exact h.1, ⟨va_K.moved hW.alike hw.2.2.1.1, kN.warm hW hw.2.2.1.2⟩, h.2.weaken (fun _ _ _ _ => trivial), hZ.at hw.2.2.2.1 (hw.free h.2) hU hW⟩
theorem k_goX {xc : String → Prop} (hr : vx_Run p l e R s m args below meth c H locs cells slots mc ms (F0 m pc ls st0) rest (kQ E emb post w' (va_A w H.size) a) (kXC E w (va_A w H.size) xc) (va_A w H.size)) (hw : kW E A s (pre ++ (mid ++ post9)).flatten H locs) (hs : mid.flatten = w) (mid' : S → List va_W) (h1 : ∀ u, (mid' u).flatten = w' u)
    (kx : ∀ (X : String) (ce : Cell) (q9 : Addr) (H1 : Heap) (locs1 : List Loc), xc X → kW E A s (pre ++ (mid ++ post9)).flatten H1 locs1 → H1[q9]? = some ce → ce.vm = .none → s.vm.findClass X = some ce.cls → vx_W p l e R s m args below meth c H1 locs1 (cells + mc) (slots + ms) Q (F0 m pc ls rest) q9)
    (kk : ∀ (r : α) (u : S) (H1 : Heap) (locs1 : List Loc), post r u → kW E A s (pre ++ (mid' u ++ post9)).flatten H1 locs1 → W p l e R s m args below meth c H1 locs1 (cells + mc) (slots + ms) Q (F0 m (pc + 3) ls ((emb r).toList ++ rest))) : W p l e R s m args below meth c H locs cells slots Q (F0 m pc ls st0) := by
  have hF := hw.free (hw.sub hs).2
  have hS := hw.2.2.2.1
  have keep : ∀ {st₀ t T' : State} {L : List Loc}, st₀.heap = H → T'.heap = t.heap → (∀ q ∈ L, va_A w H.size q.base) → va_F (va_A w H.size) st₀ t → va_S A s.heap T'.heap (locs ++ L) := fun {st₀ t T' L} h0 e1 hL hf => by
    obtain ⟨hz, hk⟩ := hf
    rw [h0] at hz hk
    exact ⟨Nat.le_trans hS.1 (by rw [e1]; exact hz), fun q h1 h2 => by rw [e1, hk q (Nat.lt_of_lt_of_le h1 hS.1) (fun z => h2 (hF q z))]; exact hS.2.1 q h1 h2, fun q hq => by
      rcases List.mem_append.mp hq with h | h
      · exact hS.2.2 q h
      · exact hF _ (hL q h)⟩
  intro T hT X
  rcases hr T hT X with ⟨v, st₀, t, T', L, h0, X', hL, e1, e2, ⟨⟨r, u, hv, hpo, hP1, hD1⟩, hf⟩, st⟩ | ⟨q, st₀, t, T', L, EX, ce, h0, X', hL, e1, e2, ⟨u, hp, ⟨hxc, hP1, hD1⟩, hf⟩, hce, hcv, hcl, st⟩
  · cases hv
    have hk := hf.2
    rw [h0] at hk
    have hw1 : kW E A s (pre ++ (mid' u ++ post9)).flatten T'.heap (locs ++ L) := kjoin hw hs (h1 u) (fun q h1 h2 => by rw [e1]; exact hk q h1 h2) (by rw [e1]; exact hP1) hD1 (keep h0 e1 hL hf)
    obtain ⟨t2, a1, b1⟩ := kk r u T'.heap (locs ++ L) hpo hw1 T' rfl X'
    exact ⟨t2, st t2 a1, b1⟩
  · have hk := hf.2
    rw [h0] at hk
    have hw1 : kW E A s (pre ++ (mid ++ post9)).flatten T'.heap (locs ++ L) := kjoin hw hs hs (fun q h1 h2 => by rw [e1]; exact hk q h1 h2) (by rw [e1]; exact hP1) hD1 (keep h0 e1 hL hf)
    obtain ⟨t2, a1, b1⟩ := kx EX ce q T'.heap (locs ++ L) hxc hw1 (by rw [e1]; exact hce) hcv hcl T' rfl X'
    exact ⟨t2, st.trans a1, b1⟩
/-- invokevirtual of a method that may throw -/
theorem k_VX {xc : String → Prop} (C0 : CallFix p m c cc nL s args Ts own) (hM : kX E l y ws rm (.ref b :: As) w emb post w' xc mc ms) (cw : CallW R s args own C index y bytes maxL ret ws rm mc ms n)
    (hw : kW E A s (pre ++ (mid ++ post9)).flatten H locs) (hs : mid.flatten = w) (hZ : kZ A s) (mid' : S → List va_W) (h1 : ∀ u, (mid' u).flatten = w' u)
    (q0 ci : Nat) {q : vw_C} {fs : List Value} (hc : vwCl[ci]? = some q) (hC : q.1 = C) (he : w[q0]? = some (b, .inr (ci, fs)))
    (hn : As.length = n) (hsize : ls.size = nL) (hst : st0 = As.reverse ++ .ref b :: rest) (hR : (rest.map fun v => v.category).sum ≤ 8) (hdg : decode cc pc = .ok (.invokevirtual index, 3)) (hf : cells + mc ≤ R.cells ∧ slots + ms ≤ R.slots)
    (kx : ∀ (X : String) (ce : Cell) (q9 : Addr) (H1 : Heap) (locs1 : List Loc), xc X → kW E A s (pre ++ (mid ++ post9)).flatten H1 locs1 → H1[q9]? = some ce → ce.vm = .none → s.vm.findClass X = some ce.cls → vx_W p l e R s m args below meth c H1 locs1 (cells + mc) (slots + ms) Q (F0 m pc ls rest) q9)
    (kk : ∀ (r : α) (u : S) (H1 : Heap) (locs1 : List Loc), post r u → kW E A s (pre ++ (mid' u ++ post9)).flatten H1 locs1 → W p l e R s m args below meth c H1 locs1 (cells + mc) (slots + ms) Q (F0 m (pc + 3) ls ((emb r).toList ++ rest))) : W p l e R s m args below meth c H locs cells slots Q (F0 m pc ls st0) := by
  have h := hw.sub hs
  subst hC
  exact k_goX (vx_runV C0 (hM H.size) cw ⟨kPreX.blind, va_recv hw.2.2.1.1 h.1 hc he, kPreX.at hw hZ h⟩ rfl hn hsize hst (lv_room hR) hdg hf) hw hs mid' h1 kx kk
/-- a contract of a method that catches -/
def kH {α S : Type} (E : kE) (l : Launch) (y : MethodName) (ws : List Cond) (rm : Room) (As : List Value) (w : va_W) (emb : α → Option Value) (post : α → S → Prop) (w' : S → va_W) (mc ms : Nat) : Prop :=
  ∀ sz : Nat, Met l y ws rm (kPreX E As w sz) (kQ E emb post w' (va_A w sz)) mc ms (va_A w sz)
theorem kH_body {ws' : List Cond} {hh : List (Nat × Nat × Nat × Nat)} (hy : plainName y.cls = true) (hws : ws = Cond.codeWith y cc maxL ret hh :: ws') (hLen : (lg_sl As).length ≤ maxL)
    (body : ∀ (p : Program) (e : Env) (s : State) (m : MethodId) (args : Array Value) (below : List Frame) (meth : Method) (c : Code) (H : Heap) (locs : List Loc) (A : Nat → Prop) (ls : Array Slot), CallFix p m c cc maxL s args ws y.cls → meth.sig.returnType = ret → meth.locks = false → c.exceptionTable.toList = tableOf hh → kZ A s → lv_has ls maxL (lv_args 0 As) → kW E A s w H locs →
      W p l e rm s m args below meth c H locs 0 0 (kEnd E emb post w' below args s A mc ms) (F0 m 0 ls [])) : kH E l y ws rm As w emb post w' mc ms := by
  intro sz
  refine MetFree.of_bodyS (code := cc) (maxLocals := maxL) (ret := ret) hy ?_ ?_
  · intro args s m h hn
    obtain ⟨m9, meth, c, hn9, h1, h2, h3, h4, -, h5, h6, -⟩ := Cond.codeWith_spec (atoms_spec (ws := ws) h _ (by rw [hws]; exact List.mem_cons_self))
    cases hn.symm.trans hn9
    exact ⟨meth, c, h1, h2, h3, h4, h5, h6⟩
  · intro p e s m args below meth c s₁ B hml hv _
    obtain ⟨rfl, hsz, hP, hK, hD0, hZ⟩ := hv
    have hts := atoms_spec (ws := ws) B.pre
    have hown : s.vm.findClass y.cls = some m.cls := findClass_of_methodNamed B.named
    have hxt := vx_table (x := y) B (hts _ (by rw [hws]; exact List.mem_cons_self))
    have hh0 : s₁.heap = s.heap := by rw [B.state]; rfl
    subst hsz
    have K : W p l e rm s m As.toArray below meth c s.heap [] 0 0 (kEnd E emb post w' below As.toArray s (va_A w s.heap.size) mc ms) (entryFrame m As.toArray maxL) := by
      rw [lg_entry_eq]
      exact body p e s m _ below meth c s.heap [] (va_A w s.heap.size) _ ⟨B.exec, B.bytes, hml, hown, hts⟩ B.returns B.notSynchronized hxt hZ (lv_entry As hLen) ⟨hP, hD0.self, hK, va_S.rf, fun q h => Or.inr h⟩
    obtain ⟨t, a1, o, b1, b2, b3⟩ := K s₁ hh0 (Stand.of_body B)
    exact ⟨t, o, a1, b1, b2, b3⟩
/-- invokestatic of a method that catches -/
theorem k_SW {hh : List (Nat × Nat × Nat × Nat)} (C0 : CallFix p m c cc nL s args Ts own) (hM : kH E l y ws rm As w emb post w' mc ms) (cw : vx_CSW R s args own index y bytes maxL ret hh ws rm mc ms n)
    (hw : kW E A s (pre ++ (mid ++ post9)).flatten H locs) (hs : mid.flatten = w) (hZ : kZ A s) (mid' : S → List va_W) (h1 : ∀ u, (mid' u).flatten = w' u)
    (hn : As.length = n) (hsize : ls.size = nL) (hst : st0 = As.reverse ++ rest) (hR : (rest.map fun v => v.category).sum ≤ 8) (hdg : decode cc pc = .ok (.invokestatic index, 3)) (hf : cells + mc ≤ R.cells ∧ slots + ms ≤ R.slots)
    (kk : ∀ (r : α) (u : S) (H1 : Heap) (locs1 : List Loc), post r u → kW E A s (pre ++ (mid' u ++ post9)).flatten H1 locs1 → W p l e R s m args below meth c H1 locs1 (cells + mc) (slots + ms) Q (F0 m (pc + 3) ls ((emb r).toList ++ rest))) : W p l e R s m args below meth c H locs cells slots Q (F0 m pc ls st0) := by
  have h := hw.sub hs
  exact k_go (vx_runSW C0 (hM H.size) cw ⟨kPreX.blind, kPreX.at hw hZ h⟩ rfl hn hsize hst (lv_room hR) hdg hf) hw hs mid' h1 kk
theorem k_lald {x0 len : Nat} {f : Nat → Int64} (C0 : CallFix p m c cc nL s args Ts own) (hw : kW E A s (pre ++ lc E x0 len f :: post9).flatten H locs) {i : Int32} (hin : vp_in i len) (hdg : decode cc pc = .ok (.laload, 1))
    (kk : W p l e R s m args below meth c H locs cells slots Q (F0 m (pc + 1) ls (.long (f i.toNatClampNeg) :: rest))) : W p l e R s m args below meth c H locs cells slots Q (F0 m pc ls (.int i :: .ref x0 :: rest)) :=
  va_lald C0.1 C0.2.1 hw.2.2.1.1 hw.1 _ 2 (kfl_get pre post9 [] [] (x0, .inl (E.2.2.2, len, .inr (.inl f)))) rfl hin hdg kk
theorem k_last {x0 len : Nat} {f : Nat → Int64} (C0 : CallFix p m c cc nL s args Ts own) (hw : kW E A s (pre ++ lc E x0 len f :: post9).flatten H locs) {i : Int32} {x : Int64} (hin : vp_in i len) (hdg : decode cc pc = .ok (.lastore, 1))
    (kk : ∀ (H1 : Heap) (locs1 : List Loc), kW E A s (pre ++ lc E x0 len (vp_updL f i.toNatClampNeg x) :: post9).flatten H1 locs1 → W p l e R s m args below meth c H1 locs1 cells slots Q (F0 m (pc + 1) ls rest)) : W p l e R s m args below meth c H locs cells slots Q (F0 m pc ls (.long x :: .int i :: .ref x0 :: rest)) := by
  refine va_last C0.1 C0.2.1 hw.2.2.1.1 hw.1 hw.2.1 hw.2.2.2.1 _ 2 (kfl_get pre post9 [] [] (x0, .inl (E.2.2.2, len, .inr (.inl f)))) rfl hin hdg (fun H1 locs1 hP hD hS => kk H1 locs1 ?_)
  have hs9 : (pre ++ lc E x0 len f :: post9).flatten.set (pre.flatten.length + ([] : va_W).length) (x0, .inl (E.2.2.2, len, .inr (.inl (vp_updL f i.toNatClampNeg x)))) = (pre ++ lc E x0 len (vp_updL f i.toNatClampNeg x) :: post9).flatten := kfl_set pre post9 [] [] (x0, .inl (E.2.2.2, len, .inr (.inl f))) _
  rw [hs9] at hP hD
  exact ⟨hP, hD, hw.2.2.1, hS, hw.2.2.2.2⟩
end KL
