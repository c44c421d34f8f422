/-! THE BASE: worlds in chunks, contracts in one form, calls and ends in one row each. -/
section KB
/-- the run's own names: the classes' numbers and slots; the classes of int[], Field[], long[] -/
abbrev kE : Type := va_G × (ClassId × (ClassId × ClassId))
abbrev kT (E : kE) : List (ClassId × FieldType) := [(E.2.1, .int), (E.2.2.1, .object RX1)]
/-- the links between nest mates that the tables hold: their private fields, and one private method -/
def kNF : List (String × Nat × String × String × String) := [("SlabDunes", 194, "SlabDunes$Field", "rows", "I"), ("SlabDunes", 189, "SlabDunes$Field", "columns", "I"), ("SlabDunes$Storm", 91, "SlabDunes$Field", "wind", "I"), ("SlabDunes", 128, "SlabDunes$Field", "wind", "I"), ("SlabDunes", 132, "SlabDunes$Field", "s", "I"), ("SlabDunes$Storm", 76, "SlabDunes$Field", "settings", "LSlabDunes$Row;"), ("SlabDunes", 120, "SlabDunes$Field", "settings", "LSlabDunes$Row;"), ("SlabDunes$Storm", 15, "SlabDunes$Field", "heights", "LSlabDunes$Row;"), ("SlabDunes$DuneMap", 42, "SlabDunes$Field", "heights", "LSlabDunes$Row;"), ("SlabDunes", 84, "SlabDunes$Field", "heights", "LSlabDunes$Row;"), ("SlabDunes$Storm", 53, "SlabDunes$Field", "tufts", "LSlabDunes$Row;"), ("SlabDunes", 100, "SlabDunes$Field", "tufts", "LSlabDunes$Row;"), ("SlabDunes$Storm", 70, "SlabDunes$Field", "trapped", "LSlabDunes$Row;"), ("SlabDunes$Storm", 95, "SlabDunes$Field", "counts", "LSlabDunes$Row;"), ("SlabDunes", 152, "SlabDunes$Field", "counts", "LSlabDunes$Row;"), ("SlabDunes", 155, "SlabDunes$Field", "latestStep", "LSlabDunes$Row;"), ("SlabDunes$Storm", 108, "SlabDunes$Field", "latestStep", "LSlabDunes$Row;"), ("SlabDunes", 226, "SlabDunes$History", "kept", "I"), ("SlabDunes", 206, "SlabDunes$FieldText", "length", "I")]
/-- the texts of the class's exceptions; the exceptions' own words that are not steady -/
def kStr : List (Nat × String) := [(58, "rows or columns are out of range"), (63, "height is out of range"), (81, "no such cell"), (98, "tuft is out of range"), (106, "capacity is out of range"), (118, "what or value is out of range"), (123, "direction is out of range"), (126, "s is out of range"), (135, "steps is out of range"), (143, "what is out of range"), (174, "threshold is out of range"), (192, "no such column"), (229, "no saved state")]
def kXn : List String := ["java/lang/IllegalArgumentException", "java/lang/IndexOutOfBoundsException", "java/lang/IllegalStateException"]
def kNc : List (String × String) := []
def kDc : List MethodName := [Bundle.initS "java/lang/RuntimeException", Bundle.initS "java/lang/Exception", Bundle.initS Bundle.tN]
def kN (U : State) : Prop := (∀ q ∈ kNF, va_Nw (.fieldLinkNest q.1 q.2.1 q.2.2.1 q.2.2.2.1 q.2.2.2.2 RX6) U) ∧ (True ∧ ((∀ X ∈ kXn, va_Nw (.castable X X) U) ∧ ((∀ q ∈ kStr, ∃ sa : Nat, vk_R RX6 q.1 q.2 sa U) ∧ ((∀ q ∈ kNc, va_Nc q.1 q.2 U) ∧ ((∀ x ∈ kDc, va_Nw (.declares x) U) ∧ va_AO RX1 U)))))
theorem kN.warm {s U : State} (hW : s.WarmedH U.vm) (h : kN s) : kN U := ⟨fun q hq => va_Nw.warmF hW (h.1 q hq), trivial, fun X hX => va_Nw.warmC hW (h.2.2.1 X hX), fun q hq => by obtain ⟨sa, h9⟩ := h.2.2.2.1 q hq; exact ⟨sa, h9.warm hW⟩, fun q hq => (h.2.2.2.2.1 q hq).moved hW.alike, fun x hx => va_Nw.warmD hW (h.2.2.2.2.2.1 x hx), va_AO.moved hW.alike h.2.2.2.2.2.2⟩
theorem kN.same {u U : State} (e : U.vm = u.vm) (h : kN u) : kN U := kN.warm (by rw [e]; exact State.WarmedH.refl u) h
theorem kN.get {s : State} {args : Array Value} (h : kN s) {own : String} {i : Nat} {C n d : String} (hm : (own, i, C, n, d) ∈ kNF) : (Cond.fieldLinkNest own i C n d RX6).before args s = true := va_Nw.use rfl (h.1 _ hm)
def kK (E : kE) (U : State) : Prop := va_K E.1 vwCl (kT E) U ∧ kN U
/-- the world ws in the heap H, within a walk from s -/
def kW (E : kE) (A : Nat → Prop) (s : State) (ws : va_W) (H : Heap) (locs : List Loc) : Prop := va_P E.1 vwCl ws H ∧ va_D A ws ∧ kK E s ∧ va_S A s.heap H locs ∧ ∀ q, s.heap.size ≤ q → A q
def kQ {α S : Type} (E : kE) (emb : α → Option Value) (post : α → S → Prop) (w' : S → va_W) (A : Nat → Prop) : Array Value → State → Outcome → State → Prop := fun _ st oc t => (∃ (r : α) (u : S), oc = .returned (emb r) ∧ post r u ∧ va_P E.1 vwCl (w' u) t.heap ∧ va_D A (w' u)) ∧ va_F A st t
def kPre (E : kE) (As : List Value) (w : va_W) (sz : Nat) : Array Value → State → Prop := va_Pc As (fun U => U.heap.size = sz ∧ va_P E.1 vwCl w U.heap ∧ kK E U ∧ va_D (fun _ => True) w)
/-- a contract: from the world w, the answer r (as the value emb r) and the world w' u, with post r u -/
def kC {α S : Type} (E : kE) (l : Launch) (y : MethodName) (ws : List Cond) (rm : Room) (As : List Value) (w : va_W) (emb : α → Option Value) (post : α → S → Prop) (w' : S → va_W) (mc ms : Nat) : Prop :=
  ∀ sz : Nat, Met l y ws rm (kPre E As w sz) (kQ E emb post w' (va_A w sz)) mc ms (va_A w sz)
abbrev kI : Int32 → Option Value := fun r => some (.int r)
abbrev kL : Int64 → Option Value := fun r => some (.long r)
abbrev kV : Unit → Option Value := fun _ => none
abbrev kA : Nat → Option Value := fun r => some (.ref r)
theorem kP_mem {D : va_G} {cl : List vw_C} {ws : va_W} {H : Heap} : va_P D cl ws H ↔ ∀ q ∈ ws, va_at D cl q H :=
  ⟨fun h q hq => by obtain ⟨k, hk⟩ := List.getElem?_of_mem hq; exact h k q hk, fun h k q hk => h q (List.mem_of_getElem? hk)⟩
theorem kD_iff {A : Nat → Prop} {ws : va_W} : va_D A ws ↔ (ws.map (fun q => q.1)).Nodup ∧ ∀ q ∈ ws, A q.1 := by
  constructor
  · intro h
    refine ⟨?_, fun q hq => ?_⟩
    · rw [List.nodup_iff_pairwise_ne, List.pairwise_iff_getElem]
      intro i j hi hj hij he
      simp only [List.length_map] at hi hj
      have h9 := h.1 i j ws[i] ws[j] (List.getElem?_eq_getElem hi) (List.getElem?_eq_getElem hj) (by simpa using he)
      omega
    · obtain ⟨k, hk⟩ := List.getElem?_of_mem hq
      exact h.2 k q hk
  · intro h
    refine ⟨fun i j p q hi hj hpq => ?_, fun k q hk => h.2 q (List.mem_of_getElem? hk)⟩
    have h1 := h.1
    rw [List.nodup_iff_pairwise_ne, List.pairwise_iff_getElem] at h1
    obtain ⟨hi', ei⟩ := List.getElem?_eq_some_iff.mp hi
    obtain ⟨hj', ej⟩ := List.getElem?_eq_some_iff.mp hj
    rcases Nat.lt_trichotomy i j with c | c | c
    · exact (h1 i j (by simpa using hi') (by simpa using hj') c (by simp [ei, ej, hpq])).elim
    · exact c
    · exact (h1 j i (by simpa using hj') (by simpa using hi') c (by simp [ei, ej, hpq])).elim
theorem kW.sub {E : kE} {A : Nat → Prop} {s : State} {pre mid post : List va_W} {w : va_W} {H : Heap} {locs : List Loc} (hw : kW E A s (pre ++ (mid ++ post)).flatten H locs) (hs : mid.flatten = w) : va_P E.1 vwCl w H ∧ va_D A w := by
  obtain ⟨hP, hD, hK, hS, hA⟩ := hw
  rw [List.flatten_append, List.flatten_append, hs] at hP hD
  rw [kP_mem] at hP
  rw [kD_iff, List.map_append, List.map_append, List.nodup_append, List.nodup_append] at hD
  exact ⟨kP_mem.mpr fun q hq => hP q (List.mem_append_right _ (List.mem_append_left _ hq)), kD_iff.mpr ⟨hD.1.2.1.1, fun q hq => hD.2 q (List.mem_append_right _ (List.mem_append_left _ hq))⟩⟩
theorem kW.free {E : kE} {A : Nat → Prop} {s : State} {ws w : va_W} {H : Heap} {locs : List Loc} (hw : kW E A s ws H locs) (hD : va_D A w) : ∀ q, va_A w H.size q → A q := by
  intro q h
  rcases h with ⟨k, e, h⟩ | h
  · exact hD.2 k _ h
  · exact hw.2.2.2.2 q (Nat.le_trans hw.2.2.2.1.1 h)
theorem kW.perm {E : kE} {A : Nat → Prop} {s : State} {ws ws' : va_W} {H : Heap} {locs : List Loc} (hw : kW E A s ws H locs) (hp : ws.Perm ws') : kW E A s ws' H locs := by
  obtain ⟨hP, hD, hK, hS, hA⟩ := hw
  rw [kP_mem] at hP
  rw [kD_iff] at hD
  exact ⟨kP_mem.mpr fun q hq => hP q (hp.mem_iff.mpr hq), kD_iff.mpr ⟨(hp.map (fun q => q.1)).nodup hD.1, fun q hq => hD.2 q (hp.mem_iff.mpr hq)⟩, hK, hS, hA⟩
/-- one chunk goes to the front -/
theorem kW.front {E : kE} {A : Nat → Prop} {s : State} {pre post : List va_W} {c : va_W} {H : Heap} {locs : List Loc} (hw : kW E A s (pre ++ c :: post).flatten H locs) : kW E A s (c :: (pre ++ post)).flatten H locs := by
  refine hw.perm (List.Perm.flatten ?_)
  exact List.perm_middle
theorem kjoin {E : kE} {A : Nat → Prop} {s : State} {H H1 : Heap} {locs locs1 : List Loc} {pre mid mid' post : List va_W} {w w1 : va_W} (hw : kW E A s (pre ++ (mid ++ post)).flatten H locs) (hs : mid.flatten = w) (h1 : mid'.flatten = w1)
    (hk : ∀ q : Nat, q < H.size → ¬ va_A w H.size q → H1[q]? = H[q]?) (hP1 : va_P E.1 vwCl w1 H1) (hD1 : va_D (va_A w H.size) w1) (hS1 : va_S A s.heap H1 locs1) : kW E A s (pre ++ (mid' ++ post)).flatten H1 locs1 := by
  have hsub := hw.sub hs
  have hF := hw.free hsub.2
  obtain ⟨hP, hD, hK, hS, hA⟩ := hw
  have p1 : ((pre ++ (mid ++ post)).flatten).Perm (w ++ (pre.flatten ++ post.flatten)) := by
    rw [List.flatten_append, List.flatten_append, hs]
    exact List.perm_append_comm_assoc _ _ _
  have p2 : ((pre ++ (mid' ++ post)).flatten).Perm (w1 ++ (pre.flatten ++ post.flatten)) := by
    rw [List.flatten_append, List.flatten_append, h1]
    exact List.perm_append_comm_assoc _ _ _
  generalize pre.flatten ++ post.flatten = wr at p1 p2
  rw [kP_mem] at hP hP1
  rw [kD_iff] at hD hD1
  have nd := (p1.map (fun q => q.1)).nodup hD.1
  rw [List.map_append, List.nodup_append] at nd
  have hr : ∀ q ∈ wr, q.1 < H.size ∧ ¬ va_A w H.size q.1 := fun q hq => by
    have hlt := (hP q (p1.mem_iff.mpr (List.mem_append_right _ hq))).lt
    refine ⟨hlt, fun h => ?_⟩
    rcases h with ⟨k, e, h⟩ | h
    · exact nd.2.2 q.1 (List.mem_map.mpr ⟨(q.1, e), List.mem_of_getElem? h, rfl⟩) q.1 (List.mem_map.mpr ⟨q, hq, rfl⟩) rfl
    · omega
  refine ⟨kP_mem.mpr fun q hq => ?_, kD_iff.mpr ⟨?_, fun q hq => ?_⟩, hK, hS1, hA⟩
  · rcases List.mem_append.mp (p2.mem_iff.mp hq) with h | h
    · exact hP1 q h
    · exact (hP q (p1.mem_iff.mpr (List.mem_append_right _ h))).kept (hk q.1 (hr q h).1 (hr q h).2)
  · refine (p2.map (fun q => q.1)).symm.nodup ?_
    rw [List.map_append, List.nodup_append]
    refine ⟨hD1.1, nd.2.1, fun a ha b hb hab => ?_⟩
    obtain ⟨x, hx, rfl⟩ := List.mem_map.mp ha
    obtain ⟨z, hz, rfl⟩ := List.mem_map.mp hb
    exact (hr z hz).2 (hab ▸ hD1.2 x hx)
  · rcases List.mem_append.mp (p2.mem_iff.mp hq) with h | h
    · exact hF _ (hD1.2 q h)
    · exact hD.2 q (p1.mem_iff.mpr (List.mem_append_right _ h))
theorem kfl_get (pre post : List va_W) (l1 l2 : va_W) (x : Nat × va_E) : (pre ++ (l1 ++ x :: l2) :: post).flatten[pre.flatten.length + l1.length]? = some x := by
  rw [List.flatten_append, List.flatten_cons, List.getElem?_append_right (by omega), Nat.add_sub_cancel_left, List.append_assoc, List.getElem?_append_right (by omega), Nat.sub_self]
  rfl
theorem kfl_set (pre post : List va_W) (l1 l2 : va_W) (x y : Nat × va_E) : (pre ++ (l1 ++ x :: l2) :: post).flatten.set (pre.flatten.length + l1.length) y = (pre ++ (l1 ++ y :: l2) :: post).flatten := by
  rw [List.flatten_append, List.flatten_cons, List.set_append_right _ _ (by omega), Nat.add_sub_cancel_left, List.append_assoc, List.set_append_right _ _ (by omega), Nat.sub_self]
  simp [List.flatten_append]
section KG
variable {p : Program} {l : Launch} {e : Env} {R : Room} {s : State} {m : MethodId} {args : Array Value} {below : List Frame} {meth : Method} {c : Code} {H : Heap} {locs : List Loc} {cells slots : Nat} {Q : State → Prop}
variable {pc : Nat} {ls : Array Slot} {rest st0 : List Value} {a : Array Value} {A : Nat → Prop} {mc ms : Nat} {E : kE} {α S : Type} {emb : α → Option Value} {post : α → S → Prop} {w' : S → va_W} {w : va_W} {pre mid post9 : List va_W}
theorem k_go (hr : va_Run p l e R s m args below meth c H locs cells slots mc ms (F0 m pc ls st0) rest (kQ E emb post w' (va_A w H.size) a) (va_A w H.size)) (hw : kW E A s (pre ++ (mid ++ post9)).flatten H locs) (hs : mid.flatten = w) (mid' : S → List va_W) (h1 : ∀ u, (mid' u).flatten = w' u)
    (kk : ∀ (r : α) (u : S) (H1 : Heap) (locs1 : List Loc), post r u → kW E A s (pre ++ (mid' u ++ post9)).flatten H1 locs1 → W p l e R s m args below meth c H1 locs1 (cells + mc) (slots + ms) Q (F0 m (pc + 3) ls ((emb r).toList ++ rest))) : W p l e R s m args below meth c H locs cells slots Q (F0 m pc ls st0) := by
  have hF := hw.free (hw.sub hs).2
  intro T hT X
  obtain ⟨v, st₀, t, T', L, h0, X', hL, e1, e2, ⟨⟨r, u, hv, hpo, hP1, hD1⟩, hz, hk⟩, st⟩ := hr T hT X
  cases hv
  rw [h0] at hz hk
  have hS := hw.2.2.2.1
  have hS1 : va_S A s.heap T'.heap (locs ++ L) := ⟨Nat.le_trans hS.1 (by rw [e1]; exact hz), fun q h1 h2 => by rw [e1, hk q (Nat.lt_of_lt_of_le h1 hS.1) (fun z => h2 (hF q z))]; exact hS.2.1 q h1 h2, fun q hq => by
      rcases List.mem_append.mp hq with h | h
      · exact hS.2.2 q h
      · exact hF _ (hL q h)⟩
  have hw1 : kW E A s (pre ++ (mid' u ++ post9)).flatten T'.heap (locs ++ L) := kjoin hw hs (h1 u) (fun q h1 h2 => by rw [e1]; exact hk q h1 h2) (by rw [e1]; exact hP1) hD1 hS1
  obtain ⟨t2, a1, b1⟩ := kk r u T'.heap (locs ++ L) hpo hw1 T' rfl X'
  exact ⟨t2, st t2 a1, b1⟩
theorem kPre.blind {As : List Value} {sz : Nat} : FrameBlind (kPre E As w sz) := fun a U g mk q => by
  obtain ⟨q0, q1, qP, qK, qD⟩ := q
  exact ⟨q0, q1, qP, ⟨va_K.moved (u := U) (U := U.calling g mk a) (Vm.Alike.refl U.vm) qK.1, kN.same (u := U) (U := U.calling g mk a) rfl qK.2⟩, qD⟩
theorem kPre.at {As : List Value} {ws : va_W} (hw : kW E A s ws H locs) (h : va_P E.1 vwCl w H ∧ va_D A w) : ∀ U : State, U.heap = H → s.WarmedH U.vm → kPre E As w H.size As.toArray U := fun U hU hW =>
  ⟨rfl, by rw [hU], by rw [hU]; exact h.1, ⟨va_K.moved hW.alike hw.2.2.1.1, kN.warm hW hw.2.2.1.2⟩, h.2.weaken (fun _ _ _ _ => trivial)⟩
variable {y : MethodName} {bytes cc : ByteArray} {maxL nL n index : Nat} {ret : Option FieldType} {ws : List Cond} {rm : Room} {Ts : List Cond} {own C : String} {b : Addr} {As : List Value}
/-- invokevirtual -/
theorem k_V (C0 : CallFix p m c cc nL s args Ts own) (hM : kC E l y ws rm (.ref b :: As) w emb post w' mc ms) (cw : CallW R s args own C index y bytes maxL ret ws rm mc ms n)
    (hw : kW E A s (pre ++ (mid ++ post9)).flatten H locs) (hs : mid.flatten = w) (mid' : S → List va_W) (h1 : ∀ u, (mid' u).flatten = w' u)
    (q0 ci : Nat) {q : vw_C} {fs : List Value} (hc : vwCl[ci]? = some q) (hC : q.1 = C) (he : w[q0]? = some (b, .inr (ci, fs)))
    (hn : As.length = n) (hsize : ls.size = nL) (hst : st0 = As.reverse ++ .ref b :: rest) (hR : (rest.map fun v => v.category).sum ≤ 8) (hdg : decode cc pc = .ok (.invokevirtual index, 3)) (hf : cells + mc ≤ R.cells ∧ slots + ms ≤ R.slots)
    (kk : ∀ (r : α) (u : S) (H1 : Heap) (locs1 : List Loc), post r u → kW E A s (pre ++ (mid' u ++ post9)).flatten H1 locs1 → W p l e R s m args below meth c H1 locs1 (cells + mc) (slots + ms) Q (F0 m (pc + 3) ls ((emb r).toList ++ rest))) : W p l e R s m args below meth c H locs cells slots Q (F0 m pc ls st0) := by
  have h := hw.sub hs
  subst hC
  exact k_go (va_runV C0 (hM H.size) cw ⟨kPre.blind, va_recv hw.2.2.1.1 h.1 hc he, kPre.at hw h⟩ rfl hn hsize hst (lv_room hR) hdg hf) hw hs mid' h1 kk
/-- invokestatic -/
theorem k_S (C0 : CallFix p m c cc nL s args Ts own) (hM : kC E l y ws rm As w emb post w' mc ms) (cw : CallB R s args own index y bytes maxL ret ws rm mc ms n ∧ (Cond.static y).before args s = true)
    (hw : kW E A s (pre ++ (mid ++ post9)).flatten H locs) (hs : mid.flatten = w) (mid' : S → List va_W) (h1 : ∀ u, (mid' u).flatten = w' u)
    (hn : As.length = n) (hsize : ls.size = nL) (hst : st0 = As.reverse ++ rest) (hR : (rest.map fun v => v.category).sum ≤ 8) (hdg : decode cc pc = .ok (.invokestatic index, 3)) (hf : cells + mc ≤ R.cells ∧ slots + ms ≤ R.slots)
    (kk : ∀ (r : α) (u : S) (H1 : Heap) (locs1 : List Loc), post r u → kW E A s (pre ++ (mid' u ++ post9)).flatten H1 locs1 → W p l e R s m args below meth c H1 locs1 (cells + mc) (slots + ms) Q (F0 m (pc + 3) ls ((emb r).toList ++ rest))) : W p l e R s m args below meth c H locs cells slots Q (F0 m pc ls st0) := by
  have h := hw.sub hs
  exact k_go (va_runS C0 (hM H.size) cw ⟨kPre.blind, kPre.at hw h⟩ rfl hn hsize hst (lv_room hR) hdg hf) hw hs mid' h1 kk
/-- invokespecial of a constructor -/
theorem k_N (C0 : CallFix p m c cc nL s args Ts own) (hM : kC E l y ws rm (.ref b :: As) w emb post w' mc ms) (cw : CallB R s args own index y bytes maxL none ws rm mc ms n ∧ y.name = "<init>" ∧ (Cond.instanceMethod y).before args s = true)
    (hw : kW E A s (pre ++ (mid ++ post9)).flatten H locs) (hs : mid.flatten = w) (mid' : S → List va_W) (h1 : ∀ u, (mid' u).flatten = w' u)
    (hn : As.length = n) (hsize : ls.size = nL) (hst : st0 = As.reverse ++ .ref b :: rest) (hR : (rest.map fun v => v.category).sum ≤ 8) (hdg : decode cc pc = .ok (.invokespecial index, 3)) (hf : cells + mc ≤ R.cells ∧ slots + ms ≤ R.slots)
    (kk : ∀ (r : α) (u : S) (H1 : Heap) (locs1 : List Loc), post r u → kW E A s (pre ++ (mid' u ++ post9)).flatten H1 locs1 → W p l e R s m args below meth c H1 locs1 (cells + mc) (slots + ms) Q (F0 m (pc + 3) ls ((emb r).toList ++ rest))) : W p l e R s m args below meth c H locs cells slots Q (F0 m pc ls st0) := by
  have h := hw.sub hs
  exact k_go (va_runI C0 (hM H.size) cw ⟨kPre.blind, kPre.at hw h⟩ rfl hn hsize hst (lv_room hR) hdg hf) hw hs mid' h1 kk
/-- what a body owes at its end -/
def kEnd (E : kE) (emb : α → Option Value) (post : α → S → Prop) (w' : S → va_W) (below : List Frame) (args : Array Value) (s : State) (A : Nat → Prop) (mc ms : Nat) : State → Prop := MQ below (kQ E emb post w' A) args s mc ms A
theorem k_body {ws' : List Cond} (hy : plainName y.cls = true) (hws : ws = Cond.code y cc maxL ret :: ws') (hLen : (lg_sl As).length ≤ maxL)
    (body : ∀ (p : Program) (e : Env) (s : State) (m : MethodId) (args : Array Value) (below : List Frame) (meth : Method) (c : Code) (H : Heap) (locs : List Loc) (A : Nat → Prop) (ls : Array Slot), CallFix p m c cc maxL s args ws y.cls → meth.sig.returnType = ret → meth.locks = false → meth.name = y.name → lv_has ls maxL (lv_args 0 As) → kW E A s w H locs →
      W p l e rm s m args below meth c H locs 0 0 (kEnd E emb post w' below args s A mc ms) (F0 m 0 ls [])) : kC E l y ws rm As w emb post w' mc ms := by
  intro sz
  refine Met.ofW (cc := cc) (maxL := maxL) (ret := ret) hy hws ?_
  intro p e s m args below meth c s₁ B hml hv
  obtain ⟨rfl, hsz, hP, hK, hD0⟩ := hv
  have hts := atoms_spec (ws := ws) B.pre
  have hown : s.vm.findClass y.cls = some m.cls := findClass_of_methodNamed B.named
  subst hsz
  rw [lg_entry_eq]
  exact body p e s m _ below meth c s.heap [] (va_A w s.heap.size) _ ⟨B.exec, B.bytes, hml, hown, hts⟩ B.returns B.notSynchronized (name_of_methodNamed B.named B.method).1 (lv_entry As hLen) ⟨hP, hD0.self, hK, va_S.rf, fun q h => Or.inr h⟩
theorem k_iret {post : Int32 → S → Prop} {w1 : va_W} {r : Int32} (C0 : CallFix p m c cc nL s args Ts own) (hr : meth.sig.returnType = some .int) (hlk : meth.locks = false) (hw : kW E A s w1 H locs) (u : S) (hu : w' u = w1) (hpo : post r u) (hc : cells ≤ mc) (hs : slots ≤ ms) (hdg : decode cc pc = .ok (.ireturn, 1)) :
    W p l e R s m args below meth c H locs cells slots (kEnd E kI post w' below args s A mc ms) (F0 m pc ls [.int r]) := by
  refine W.widen hc hs ?_
  exact W.iret C0.1 C0.2.1 hr (fun t ht hW => ⟨⟨r, u, rfl, hpo, by rw [ht, hu]; exact hw.1, by rw [hu]; exact hw.2.1⟩, hw.2.2.2.1.F ht⟩) hw.2.2.2.1.2.2 hdg hlk
theorem k_zret {post : Int32 → S → Prop} {w1 : va_W} {r : Int32} (C0 : CallFix p m c cc nL s args Ts own) (hr : meth.sig.returnType = some .boolean) (hlk : meth.locks = false) (hw : kW E A s w1 H locs) (u : S) (hu : w' u = w1) (hpo : post r u) (hn : narrow .boolean (.int r) = .int r) (hc : cells ≤ mc) (hs : slots ≤ ms) (hdg : decode cc pc = .ok (.ireturn, 1)) :
    W p l e R s m args below meth c H locs cells slots (kEnd E kI post w' below args s A mc ms) (F0 m pc ls [.int r]) := by
  refine W.widen hc hs ?_
  exact W.zret C0.1 C0.2.1 hr hn (fun t ht hW => ⟨⟨r, u, rfl, hpo, by rw [ht, hu]; exact hw.1, by rw [hu]; exact hw.2.1⟩, hw.2.2.2.1.F ht⟩) hw.2.2.2.1.2.2 hdg hlk
theorem k_lret {post : Int64 → S → Prop} {w1 : va_W} {r : Int64} (C0 : CallFix p m c cc nL s args Ts own) (hr : meth.sig.returnType = some .long) (hlk : meth.locks = false) (hw : kW E A s w1 H locs) (u : S) (hu : w' u = w1) (hpo : post r u) (hc : cells ≤ mc) (hs : slots ≤ ms) (hdg : decode cc pc = .ok (.lreturn, 1)) :
    W p l e R s m args below meth c H locs cells slots (kEnd E kL post w' below args s A mc ms) (F0 m pc ls [.long r]) := by
  refine W.widen hc hs ?_
  exact W.lret C0.1 C0.2.1 hr (fun t ht hW => ⟨⟨r, u, rfl, hpo, by rw [ht, hu]; exact hw.1, by rw [hu]; exact hw.2.1⟩, hw.2.2.2.1.F ht⟩) hw.2.2.2.1.2.2 hdg hlk
theorem k_vret {post : Unit → S → Prop} {w1 : va_W} (C0 : CallFix p m c cc nL s args Ts own) (hr : meth.sig.returnType = none) (hlk : meth.locks = false) (hw : kW E A s w1 H locs) (u : S) (hu : w' u = w1) (hpo : post () u) (hc : cells ≤ mc) (hs : slots ≤ ms) (hdg : decode cc pc = .ok (.return_, 1)) :
    W p l e R s m args below meth c H locs cells slots (kEnd E kV post w' below args s A mc ms) (F0 m pc ls []) := by
  refine W.widen hc hs ?_
  exact W.vret C0.1 C0.2.1 hr (fun t ht hW => ⟨⟨(), u, rfl, hpo, by rw [ht, hu]; exact hw.1, by rw [hu]; exact hw.2.1⟩, hw.2.2.2.1.F ht⟩) hw.2.2.2.1.2.2 hdg hlk
/-- getfield; the own class's, or a nest mate's -/
theorem k_get (C0 : CallFix p m c cc nL s args Ts own) {pre post9 : List va_W} {tl : va_W} {a ci : Nat} {fs : List Value} (hw : kW E A s (pre ++ ((a, .inr (ci, fs)) :: tl) :: post9).flatten H locs) {ref C : String} {T : u_T} {N index : Nat} (hin : ∀ w ∈ u_ws C T N, w ∈ Ts) (hc : vwCl[ci]? = some (C, T, N)) (k : Nat) (hk : k < N) (hlink : (Cond.fieldLink own index ref (T k).2.1 (T k).2.2.1).before args s = true) (href : (T k).1 = ref) {v : Value} (hv : fs[k]? = some v) (hdg : decode cc pc = .ok (.getfield index, 3))
    (kk : W p l e R s m args below meth c H locs cells slots Q (F0 m (pc + 3) ls (v :: rest))) : W p l e R s m args below meth c H locs cells slots Q (F0 m pc ls (.ref a :: rest)) := by
  subst href
  exact va_get C0.1 C0.2.1 C0.2.2.2.2 hin C0.2.2.2.1 hw.2.2.1.1 hw.1 _ (kfl_get pre post9 [] tl (a, .inr (ci, fs))) hc k hk hlink (fun _ h => h) hv hdg kk
theorem k_getN (C0 : CallFix p m c cc nL s args Ts own) {pre post9 : List va_W} {tl : va_W} {a ci : Nat} {fs : List Value} (hw : kW E A s (pre ++ ((a, .inr (ci, fs)) :: tl) :: post9).flatten H locs) {ref C host : String} {T : u_T} {N index : Nat} (hin : ∀ w ∈ u_ws C T N, w ∈ Ts) (hc : vwCl[ci]? = some (C, T, N)) (k : Nat) (hk : k < N) (hlink : (Cond.fieldLinkNest own index ref (T k).2.1 (T k).2.2.1 host).before args s = true) (href : (T k).1 = ref) {v : Value} (hv : fs[k]? = some v) (hdg : decode cc pc = .ok (.getfield index, 3))
    (kk : W p l e R s m args below meth c H locs cells slots Q (F0 m (pc + 3) ls (v :: rest))) : W p l e R s m args below meth c H locs cells slots Q (F0 m pc ls (.ref a :: rest)) := by
  subst href
  exact va_getN C0.1 C0.2.1 C0.2.2.2.2 hin C0.2.2.2.1 hw.2.2.1.1 hw.1 _ (kfl_get pre post9 [] tl (a, .inr (ci, fs))) hc k hk hlink (fun _ h => h) hv hdg kk
theorem k_put (C0 : CallFix p m c cc nL s args Ts own) {pre post9 : List va_W} {tl : va_W} {a ci : Nat} {fs : List Value} (hw : kW E A s (pre ++ ((a, .inr (ci, fs)) :: tl) :: post9).flatten H locs) {ref C : String} {T : u_T} {N index : Nat} (hin : ∀ w ∈ u_ws C T N, w ∈ Ts) (ty0 : Nat → FieldType) (hty : ∀ k, k < N → parseFieldDescriptor (T k).2.2.1 = some (ty0 k)) (hnm : ∀ a, a < N → ∀ b, b < N → a ≠ b → (T a).2.1 ≠ (T b).2.1) (hc : vwCl[ci]? = some (C, T, N)) (k : Nat) (hk : k < N) (hlink : (Cond.fieldLink own index ref (T k).2.1 (T k).2.2.1).before args s = true) (href : (T k).1 = ref) (hfin : (T k).2.2.2 = false) {ty : FieldType} {v : Value} (hd : parseFieldDescriptor (T k).2.2.1 = some ty) (hn : narrow ty v = v) (hfit : fits ty v = true) (hlen : k < fs.length)
    (hdg : decode cc pc = .ok (.putfield index, 3)) (kk : ∀ (H1 : Heap) (locs1 : List Loc), kW E A s (pre ++ ((a, .inr (ci, fs.set k v)) :: tl) :: post9).flatten H1 locs1 → W p l e R s m args below meth c H1 locs1 cells slots Q (F0 m (pc + 3) ls rest)) : W p l e R s m args below meth c H locs cells slots Q (F0 m pc ls (v :: .ref a :: rest)) := by
  subst href
  refine va_put C0.1 C0.2.1 C0.2.2.2.2 hin ty0 hty hnm C0.2.2.2.1 hw.2.2.1.1 hw.1 hw.2.1 hw.2.2.2.1 _ (kfl_get pre post9 [] tl (a, .inr (ci, fs))) hc k hk hlink (fun _ h => h) hfin hd hn hfit hlen hdg (fun H1 locs1 hP hD hS => kk H1 locs1 ?_)
  have hs9 := kfl_set pre post9 [] tl (a, .inr (ci, fs)) (a, .inr (ci, fs.set k v))
  simp only [List.nil_append] at hs9
  rw [hs9] at hP hD
  exact ⟨hP, hD, hw.2.2.1, hS, hw.2.2.2.2⟩
theorem k_putF (C0 : CallFix p m c cc nL s args Ts own) {pre post9 : List va_W} {tl : va_W} {a ci : Nat} {fs : List Value} (hw : kW E A s (pre ++ ((a, .inr (ci, fs)) :: tl) :: post9).flatten H locs) {ref C : String} {T : u_T} {N index : Nat} (hin : ∀ w ∈ u_ws C T N, w ∈ Ts) (ty0 : Nat → FieldType) (hty : ∀ k, k < N → parseFieldDescriptor (T k).2.2.1 = some (ty0 k)) (hnm : ∀ a, a < N → ∀ b, b < N → a ≠ b → (T a).2.1 ≠ (T b).2.1) (hc : vwCl[ci]? = some (C, T, N)) (k : Nat) (hk : k < N) (hlink : (Cond.fieldLink own index ref (T k).2.1 (T k).2.2.1).before args s = true) (href : (T k).1 = ref) (hfin : (T k).2.2.2 = true) (hin2 : meth.name = "<init>") (hdecl : ref = own) {ty : FieldType} {v : Value} (hd : parseFieldDescriptor (T k).2.2.1 = some ty) (hn : narrow ty v = v) (hfit : fits ty v = true) (hlen : k < fs.length)
    (hdg : decode cc pc = .ok (.putfield index, 3)) (kk : ∀ (H1 : Heap) (locs1 : List Loc), kW E A s (pre ++ ((a, .inr (ci, fs.set k v)) :: tl) :: post9).flatten H1 locs1 → W p l e R s m args below meth c H1 locs1 cells slots Q (F0 m (pc + 3) ls rest)) : W p l e R s m args below meth c H locs cells slots Q (F0 m pc ls (v :: .ref a :: rest)) := by
  subst href
  refine va_putF C0.1 C0.2.1 C0.2.2.2.2 hin ty0 hty hnm C0.2.2.2.1 hw.2.2.1.1 hw.1 hw.2.1 hw.2.2.2.1 _ (kfl_get pre post9 [] tl (a, .inr (ci, fs))) hc k hk hlink (fun _ h => h) hfin hin2 hdecl hd hn hfit hlen hdg (fun H1 locs1 hP hD hS => kk H1 locs1 ?_)
  have hs9 := kfl_set pre post9 [] tl (a, .inr (ci, fs)) (a, .inr (ci, fs.set k v))
  simp only [List.nil_append] at hs9
  rw [hs9] at hP hD
  exact ⟨hP, hD, hw.2.2.1, hS, hw.2.2.2.2⟩
theorem k_putN (C0 : CallFix p m c cc nL s args Ts own) {pre post9 : List va_W} {tl : va_W} {a ci : Nat} {fs : List Value} (hw : kW E A s (pre ++ ((a, .inr (ci, fs)) :: tl) :: post9).flatten H locs) {ref C host : String} {T : u_T} {N index : Nat} (hin : ∀ w ∈ u_ws C T N, w ∈ Ts) (ty0 : Nat → FieldType) (hty : ∀ k, k < N → parseFieldDescriptor (T k).2.2.1 = some (ty0 k)) (hnm : ∀ a, a < N → ∀ b, b < N → a ≠ b → (T a).2.1 ≠ (T b).2.1) (hc : vwCl[ci]? = some (C, T, N)) (k : Nat) (hk : k < N) (hlink : (Cond.fieldLinkNest own index ref (T k).2.1 (T k).2.2.1 host).before args s = true) (href : (T k).1 = ref) (hfin : (T k).2.2.2 = false) {ty : FieldType} {v : Value} (hd : parseFieldDescriptor (T k).2.2.1 = some ty) (hn : narrow ty v = v) (hfit : fits ty v = true) (hlen : k < fs.length)
    (hdg : decode cc pc = .ok (.putfield index, 3)) (kk : ∀ (H1 : Heap) (locs1 : List Loc), kW E A s (pre ++ ((a, .inr (ci, fs.set k v)) :: tl) :: post9).flatten H1 locs1 → W p l e R s m args below meth c H1 locs1 cells slots Q (F0 m (pc + 3) ls rest)) : W p l e R s m args below meth c H locs cells slots Q (F0 m pc ls (v :: .ref a :: rest)) := by
  subst href
  refine va_putN C0.1 C0.2.1 C0.2.2.2.2 hin ty0 hty hnm C0.2.2.2.1 hw.2.2.1.1 hw.1 hw.2.1 hw.2.2.2.1 _ (kfl_get pre post9 [] tl (a, .inr (ci, fs))) hc k hk hlink (fun _ h => h) hfin hd hn hfit hlen hdg (fun H1 locs1 hP hD hS => kk H1 locs1 ?_)
  have hs9 := kfl_set pre post9 [] tl (a, .inr (ci, fs)) (a, .inr (ci, fs.set k v))
  simp only [List.nil_append] at hs9
  rw [hs9] at hP hD
  exact ⟨hP, hD, hw.2.2.1, hS, hw.2.2.2.2⟩
theorem k_iald {pre post9 : List va_W} {l1 : va_W} {a n : Nat} {f : Nat → Int32} (C0 : CallFix p m c cc nL s args Ts own) (hw : kW E A s (pre ++ (l1 ++ [(a, .inl (E.2.1, n, .inl f))]) :: post9).flatten H locs) {i : Int32} (hin : vp_in i n) (hdg : decode cc pc = .ok (.iaload, 1))
    (kk : W p l e R s m args below meth c H locs cells slots Q (F0 m (pc + 1) ls (.int (f i.toNatClampNeg) :: rest))) : W p l e R s m args below meth c H locs cells slots Q (F0 m pc ls (.int i :: .ref a :: rest)) :=
  va_iald C0.1 C0.2.1 hw.2.2.1.1 hw.1 _ 0 (kfl_get pre post9 l1 [] _) rfl hin hdg kk
theorem k_iast {pre post9 : List va_W} {l1 : va_W} {a n : Nat} {f : Nat → Int32} (C0 : CallFix p m c cc nL s args Ts own) (hw : kW E A s (pre ++ (l1 ++ [(a, .inl (E.2.1, n, .inl f))]) :: post9).flatten H locs) {i x : Int32} (hin : vp_in i n) (hdg : decode cc pc = .ok (.iastore, 1))
    (kk : ∀ (H1 : Heap) (locs1 : List Loc), kW E A s (pre ++ (l1 ++ [(a, .inl (E.2.1, n, .inl (upd f i.toNatClampNeg x)))]) :: post9).flatten H1 locs1 → W p l e R s m args below meth c H1 locs1 cells slots Q (F0 m (pc + 1) ls rest)) : W p l e R s m args below meth c H locs cells slots Q (F0 m pc ls (.int x :: .int i :: .ref a :: rest)) := by
  refine va_iast C0.1 C0.2.1 hw.2.2.1.1 hw.1 hw.2.1 hw.2.2.2.1 _ 0 (kfl_get pre post9 l1 [] _) rfl hin hdg (fun H1 locs1 hP hD hS => kk H1 locs1 ?_)
  rw [kfl_set pre post9 l1 []] at hP hD
  exact ⟨hP, hD, hw.2.2.1, hS, hw.2.2.2.2⟩
theorem k_alen {pre post9 : List va_W} {l1 : va_W} {a n : Nat} {f : Nat → Int32} (C0 : CallFix p m c cc nL s args Ts own) (hw : kW E A s (pre ++ (l1 ++ [(a, .inl (E.2.1, n, .inl f))]) :: post9).flatten H locs) (hdg : decode cc pc = .ok (.arraylength, 1))
    (kk : W p l e R s m args below meth c H locs cells slots Q (F0 m (pc + 1) ls (.int (nI n) :: rest))) : W p l e R s m args below meth c H locs cells slots Q (F0 m pc ls (.ref a :: rest)) :=
  va_alen C0.1 C0.2.1 hw.2.2.1.1 hw.1 _ 0 (kfl_get pre post9 l1 [] _) rfl rfl hdg kk
theorem k_aald {pre post9 : List va_W} {l1 : va_W} {a n : Nat} {f : Nat → Option Nat} (C0 : CallFix p m c cc nL s args Ts own) (hw : kW E A s (pre ++ (l1 ++ [(a, .inl (E.2.2.1, n, .inr (.inr (.inr (.inr f)))))]) :: post9).flatten H locs) {i : Int32} (hin : vp_in i n) (hdg : decode cc pc = .ok (.aaload, 1))
    (kk : W p l e R s m args below meth c H locs cells slots Q (F0 m (pc + 1) ls (va_rf (f i.toNatClampNeg) :: rest))) : W p l e R s m args below meth c H locs cells slots Q (F0 m pc ls (.int i :: .ref a :: rest)) :=
  va_aldq C0.1 C0.2.1 hw.2.2.1.1 hw.1 _ 1 (kfl_get pre post9 l1 [] _) rfl hin hdg kk
theorem k_aalen {pre post9 : List va_W} {l1 : va_W} {a n : Nat} {f : Nat → Option Nat} (C0 : CallFix p m c cc nL s args Ts own) (hw : kW E A s (pre ++ (l1 ++ [(a, .inl (E.2.2.1, n, .inr (.inr (.inr (.inr f)))))]) :: post9).flatten H locs) (hdg : decode cc pc = .ok (.arraylength, 1))
    (kk : W p l e R s m args below meth c H locs cells slots Q (F0 m (pc + 1) ls (.int (nI n) :: rest))) : W p l e R s m args below meth c H locs cells slots Q (F0 m pc ls (.ref a :: rest)) :=
  va_alen C0.1 C0.2.1 hw.2.2.1.1 hw.1 _ 1 (kfl_get pre post9 l1 [] _) rfl rfl hdg kk
theorem k_aret {post : Nat → S → Prop} {w1 : va_W} {r : Nat} {rt : FieldType} (C0 : CallFix p m c cc nL s args Ts own) (hr : meth.sig.returnType = some rt) (hrt : (∃ n, rt = .object n) ∨ ∃ t, rt = .array t) (hlk : meth.locks = false) (hw : kW E A s w1 H locs) (u : S) (hu : w' u = w1) (hpo : post r u) (hc : cells ≤ mc) (hs : slots ≤ ms) (hdg : decode cc pc = .ok (.areturn, 1)) :
    W p l e R s m args below meth c H locs cells slots (kEnd E kA post w' below args s A mc ms) (F0 m pc ls [.ref r]) := by
  refine W.widen hc hs ?_
  exact W.aret C0.1 C0.2.1 hr hrt (Or.inr ⟨r, rfl⟩) (fun t ht hW => ⟨⟨r, u, rfl, hpo, by rw [ht, hu]; exact hw.1, by rw [hu]; exact hw.2.1⟩, hw.2.2.2.1.F ht⟩) hw.2.2.2.1.2.2 hdg hlk
/-- invokestatic of a nest mate's private method -/
theorem k_SN {host : String} (C0 : CallFix p m c cc nL s args Ts own) (hM : kC E l y ws rm As w emb post w' mc ms) (cw : va_CN R s args own index y host bytes maxL ret ws rm mc ms n) (hst9 : (Cond.static y).before args s = true)
    (hw : kW E A s (pre ++ (mid ++ post9)).flatten H locs) (hs : mid.flatten = w) (mid' : S → List va_W) (h1 : ∀ u, (mid' u).flatten = w' u)
    (hn : As.length = n) (hsize : ls.size = nL) (hst : st0 = As.reverse ++ rest) (hR : (rest.map fun v => v.category).sum ≤ 8) (hdg : decode cc pc = .ok (.invokestatic index, 3)) (hf : cells + mc ≤ R.cells ∧ slots + ms ≤ R.slots)
    (kk : ∀ (r : α) (u : S) (H1 : Heap) (locs1 : List Loc), post r u → kW E A s (pre ++ (mid' u ++ post9)).flatten H1 locs1 → W p l e R s m args below meth c H1 locs1 (cells + mc) (slots + ms) Q (F0 m (pc + 3) ls ((emb r).toList ++ rest))) : W p l e R s m args below meth c H locs cells slots Q (F0 m pc ls st0) := by
  have h := hw.sub hs
  exact k_go (va_runSN C0 (hM H.size) ⟨cw, hst9, trivial⟩ ⟨kPre.blind, kPre.at hw h⟩ rfl hn hsize hst (lv_room hR) hdg hf) hw hs mid' h1 kk
/-- the array's numbers, by what they are below its length -/
theorem kW.arr {pre post9 : List va_W} {l1 : va_W} {a n : Nat} {f g : Nat → Int32} (hw : kW E A s (pre ++ (l1 ++ [(a, .inl (E.2.1, n, .inl f))]) :: post9).flatten H locs) (hfg : ∀ j, j < n → f j = g j) : kW E A s (pre ++ (l1 ++ [(a, .inl (E.2.1, n, .inl g))]) :: post9).flatten H locs := by
  have ha := kfl_get pre post9 l1 [] (a, .inl (E.2.1, n, .inl f))
  rw [← kfl_set pre post9 l1 [] (a, .inl (E.2.1, n, .inl f)) (a, .inl (E.2.1, n, .inl g))]
  refine ⟨hw.1.set hw.2.1 ha ?_ (fun q _ => rfl), hw.2.1.set ha, hw.2.2⟩
  have h1 := hw.1 _ _ ha
  show H[a]? = some (vp_cell E.2.1 (n, .inl g))
  rw [show vp_cell E.2.1 (n, .inl g) = vp_cell E.2.1 (n, .inl f) from ?_]
  · exact h1
  · show arrCell E.2.1 n g = arrCell E.2.1 n f
    unfold arrCell
    congr 1
    apply Array.ext
    · simp [arrSlots]
    · intro i h1 h2
      have h3 : i < n := by simpa [arrSlots] using h1
      simp [arrSlots, hfg i h3]
/-- the two statics of Throwable, apart from A -/
def kZ (A : Nat → Prop) (s : State) : Prop := vx_Zq Bundle.tN "UNASSIGNED_STACK" Bundle.steD A s s.heap ∧ vx_Zq Bundle.tN "SUPPRESSED_SENTINEL" Bundle.listD A s s.heap
def kPreX (E : kE) (As : List Value) (w : va_W) (sz : Nat) : Array Value → State → Prop := va_Pc As (fun U => U.heap.size = sz ∧ va_P E.1 vwCl w U.heap ∧ kK E U ∧ va_D (fun _ => True) w ∧ kZ (va_A w sz) U)
def kXC (E : kE) (w : va_W) (A : Nat → Prop) (xc : String → Prop) : String → State → State → Prop := vx_X (fun _ : Unit => True) (fun X _ t => xc X ∧ va_P E.1 vwCl w t.heap ∧ va_D A w) A
/-- a contract of a method that may throw one of xc: the world is then as it was -/
def kX {α S : Type} (E : kE) (l : Launch) (y : MethodName) (ws : List Cond) (rm : Room) (As : List Value) (w : va_W) (emb : α → Option Value) (post : α → S → Prop) (w' : S → va_W) (xc : String → Prop) (mc ms : Nat) : Prop :=
  ∀ sz : Nat, vx_Met l y ws rm (kPreX E As w sz) (kQ E emb post w' (va_A w sz)) (kXC E w (va_A w sz) xc) mc ms (va_A w sz)
def kEndX (E : kE) (emb : α → Option Value) (post : α → S → Prop) (w' : S → va_W) (w : va_W) (xc : String → Prop) (below : List Frame) (args : Array Value) (s : State) (A : Nat → Prop) (mc ms : Nat) : State → Prop := vx_MQ below (kQ E emb post w' A) (kXC E w A xc) args s mc ms A
theorem kX_body {ws' : List Cond} {xc : String → Prop} (hy : plainName y.cls = true) (hws : ws = Cond.code y cc maxL ret :: ws') (hLen : (lg_sl As).length ≤ maxL)
    (body : ∀ (p : Program) (e : Env) (s : State) (m : MethodId) (args : Array Value) (below : List Frame) (meth : Method) (c : Code) (H : Heap) (locs : List Loc) (A : Nat → Prop) (ls : Array Slot), CallFix p m c cc maxL s args ws y.cls → meth.sig.returnType = ret → meth.locks = false → (∀ x ∈ c.exceptionTable.toList, False) → kZ A s → lv_has ls maxL (lv_args 0 As) → kW E A s w H locs →
      W p l e rm s m args below meth c H locs 0 0 (kEndX E emb post w' w xc below args s A mc ms) (F0 m 0 ls [])) : kX E l y ws rm As w emb post w' xc mc ms := by
  intro sz
  refine vx_ofW (cc := cc) (maxL := maxL) (ret := ret) hy hws ?_
  intro p e s m args below meth c s₁ B hml hxt hv
  obtain ⟨rfl, hsz, hP, hK, hD0, hZ⟩ := hv
  have hts := atoms_spec (ws := ws) B.pre
  have hown : s.vm.findClass y.cls = some m.cls := findClass_of_methodNamed B.named
  subst hsz
  rw [lg_entry_eq]
  exact body p e s m _ below meth c s.heap [] (va_A w s.heap.size) _ ⟨B.exec, B.bytes, hml, hown, hts⟩ B.returns B.notSynchronized hxt hZ (lv_entry As hLen) ⟨hP, hD0.self, hK, va_S.rf, fun q h => Or.inr h⟩
abbrev kNms : List String := ["java/lang/RuntimeException", "java/lang/Exception"]
theorem k_throw {xc : String → Prop} {w0 : va_W} (C0 : CallFix p m c cc nL s args Ts RX6) (hw : kW E A s w0 H locs) (hw0 : w0 = w) (hZ : kZ A s) (hfl : l.stackTraces = false) (hxt : ∀ x ∈ c.exceptionTable.toList, False) (hlk : meth.locks = false) {X text : String} {ik is ic : Nat} (hX : X ∈ kXn) (hsx : (is, text) ∈ kStr)
    (hk : (Cond.classLink RX6 ik X).before args s = true) (hini : (Cond.initialized X).before args s = true) (hsub : ∀ w ∈ (vx_atS RX6 ic X kNms).filter goodWord, w ∈ Ts) (hcls : Bundle.fit X = true)
    (hgood : ∀ w ∈ Cond.classLink RX6 ik X :: Cond.initialized X :: vx_atS RX6 ic X kNms, vx_ot w = true) (h2 : ∀ w ∈ (vx_atS RX6 ic X kNms).filter (fun w => !goodWord w), w ∈ [Cond.castable X X, Cond.declares (Bundle.initS "java/lang/RuntimeException"), Cond.declares (Bundle.initS "java/lang/Exception"), Cond.declares (Bundle.initS Bundle.tN)]) (hsize : ls.size = nL)
    (d0 : decode cc pc = .ok (.new ik, 3)) (d3 : decode cc (pc + 3) = .ok (.dup, 1)) (d4 : decode cc (pc + 4) = .ok (.ldc is, 2)) (d6 : decode cc (pc + 6) = .ok (.invokespecial ic, 3)) (d9 : decode cc (pc + 9) = .ok (.athrow, 1))
    (hRf : 5 < R.frames) (hRl : (rest.map fun v => v.category).sum + 82 ≤ R.locals) (hRc : cells + 1 ≤ R.cells) (hRs : slots + 6 ≤ R.slots) (hxc : xc X) (hc : cells + 1 ≤ mc) (hs : slots + 6 ≤ ms) :
    W p l e R s m args below meth c H locs cells slots (kEndX E emb post w' w xc below args s A mc ms) (F0 m pc ls rest) := by
  subst hw0
  obtain ⟨sa, hstr⟩ := hw.2.2.1.2.2.2.2.1 _ hsx
  refine vx_throwS (own := RX6) (cls := X) (text := text) (names := kNms) (ik := ik) (is := is) (ic := ic) (sa := sa) (A := A) C0.1 C0.2.1 hfl C0.2.2.2.1 hcls (by decide) hk hini hstr
    (vx_hat (fun w hw9 => C0.2.2.2.2 w (hsub w hw9)) h2 (vx_c (va_Nw.use rfl (hw.2.2.1.2.2.2.1 X hX)) (vx_c (va_Nw.use rfl (hw.2.2.1.2.2.2.2.2.2.1 _ (List.mem_of_getElem? (i := 0) rfl))) (vx_c (va_Nw.use rfl (hw.2.2.1.2.2.2.2.2.2.1 _ (List.mem_of_getElem? (i := 1) rfl))) (vx_c (va_Nw.use rfl (hw.2.2.1.2.2.2.2.2.2.1 _ (List.mem_of_getElem? (i := 2) rfl))) vx_n))))) hgood hZ.1 hZ.2 hw.2.2.2.1 (hsize.trans C0.2.2.1.symm) d0 d3 d4 d6 d9 (fun x hx => (hxt x hx).elim) hRf hRl hRc hRs hlk (fun t hvm hz hq => ?_) hw.2.2.2.1.2.2 hc hs
  refine ⟨(), trivial, ⟨hxc, hw.1.kept (fun k q hk9 => hq q.1 ((hw.1 k q hk9).lt)), hw.2.1⟩, Nat.le_trans hw.2.2.2.1.1 hz, fun q h1 h3 => ?_⟩
  rw [hq q (Nat.lt_of_lt_of_le h1 hw.2.2.2.1.1)]
  exact hw.2.2.2.1.2.1 q h1 h3
end KG
/-- cells in their groups -/
abbrev oc (a ci : Nat) (fs : List Value) : va_W := [(a, .inr (ci, fs))]
abbrev ac (E : kE) (a n : Nat) (f : Nat → Int32) : va_W := [(a, .inl (E.2.1, n, .inl f))]
abbrev rc (E : kE) (h a n : Nat) (f : Nat → Int32) : va_W := [(h, .inr (4, [.ref a])), (a, .inl (E.2.1, n, .inl f))]
def fc (E : kE) (a : Nat → Nat) (R C wd s0 z : Int32) (st he ke tu ca tr co la : Nat → Int32) : va_W :=
  List.flatten [oc (a 0) 1 [.int R, .int C, .int wd, .int s0, .int z, .ref (a 1), .ref (a 2), .ref (a 3), .ref (a 4), .ref (a 5), .ref (a 6), .ref (a 7), .ref (a 8)],
    rc E (a 1) (a 9) 4 st, rc E (a 2) (a 10) 192 he, rc E (a 3) (a 11) 192 ke, rc E (a 4) (a 12) 192 tu, rc E (a 5) (a 13) 192 ca, rc E (a 6) (a 14) 192 tr, rc E (a 7) (a 15) 12 co, rc E (a 8) (a 16) 4 la]
/-- a Storm at q and its Field at a -/
def sw (E : kE) (q : Nat) (a : Nat → Nat) (R C wd s0 z : Int32) (st he ke tu ca tr co la : Nat → Int32) : va_W :=
  List.flatten [oc q 5 [.ref (a 0), .ref (a 2)], oc (a 0) 1 [.int R, .int C, .int wd, .int s0, .int z, .ref (a 1), .ref (a 2), .ref (a 3), .ref (a 4), .ref (a 5), .ref (a 6), .ref (a 7), .ref (a 8)],
    rc E (a 1) (a 9) 4 st, rc E (a 2) (a 10) 192 he, rc E (a 3) (a 11) 192 ke, rc E (a 4) (a 12) 192 tu, rc E (a 5) (a 13) 192 ca, rc E (a 6) (a 14) 192 tr, rc E (a 7) (a 15) 12 co, rc E (a 8) (a 16) 4 la]
def dm (E : kE) (a : Nat → Nat) (dn sz sm qu : Nat → Int32) (found : Int32) : va_W :=
  List.flatten [oc (a 0) 0 [.ref (a 1), .ref (a 2), .ref (a 3), .ref (a 4), .int found], rc E (a 1) (a 5) 192 dn, rc E (a 2) (a 6) 193 sz, rc E (a 3) (a 7) 193 sm, rc E (a 4) (a 8) 192 qu]
def tx (E : kE) (a : Nat → Nat) (by0 : Nat → Int32) (len rows cols : Int32) : va_W := List.flatten [oc (a 0) 2 [.ref (a 1), .int len, .int rows, .int cols], rc E (a 1) (a 2) 220 by0]
/-- what a Field holds, in one -/
abbrev cT : Type := Int32 × (Int32 × (Int32 × (Int32 × (Int32 × ((Nat → Int32) × ((Nat → Int32) × ((Nat → Int32) × ((Nat → Int32) × ((Nat → Int32) × ((Nat → Int32) × ((Nat → Int32) × (Nat → Int32))))))))))))
abbrev fcT (E : kE) (a : Nat → Nat) (F : cT) : va_W := fc E a F.1 F.2.1 F.2.2.1 F.2.2.2.1 F.2.2.2.2.1 F.2.2.2.2.2.1 F.2.2.2.2.2.2.1 F.2.2.2.2.2.2.2.1 F.2.2.2.2.2.2.2.2.1 F.2.2.2.2.2.2.2.2.2.1 F.2.2.2.2.2.2.2.2.2.2.1 F.2.2.2.2.2.2.2.2.2.2.2.1 F.2.2.2.2.2.2.2.2.2.2.2.2
abbrev qc (E : kE) (a n : Nat) (f : Nat → Option Nat) : va_W := [(a, .inl (E.2.2.1, n, .inr (.inr (.inr (.inr f)))))]
/-- the History at q: its row of states, at n; the states' Fields, at b 0 .. b 3 -/
def hw4 (E : kE) (q n : Nat) (b : Nat → Nat → Nat) (o k : Int32) (G : Nat → cT) : va_W :=
  List.flatten [oc q 3 [.ref n, .int o, .int k], qc E n 4 (fun i => some (b i 0)), fcT E (b 0) (G 0), fcT E (b 1) (G 1), fcT E (b 2) (G 2), fcT E (b 3) (G 3)]
theorem kswitch (x : Int32) (lo : Int) (N : Nat) : (x.toInt < lo ∨ lo + N ≤ x.toInt) ∨ ∃ j : Nat, j < N ∧ x.toInt = lo + j := by
  by_cases h : x.toInt < lo ∨ lo + N ≤ x.toInt
  · exact Or.inl h
  · exact Or.inr ⟨(x.toInt - lo).toNat, by omega, by omega⟩
theorem kin {x : Int32} {n : Nat} (h0 : ¬ x < 0) (h1 : ¬ nI n ≤ x) (hn : n < 2147483648) : vp_in x n := by
  rcases pk_ix x (n := n) hn with h | h | ⟨j, h, rfl⟩
  · exact absurd h h0
  · exact absurd h h1
  · exact vp_in_nI h hn
theorem kinN {n N : Nat} (h : n < N) (hN : N < 2147483648) : vp_in (nI n) N := vp_in_nI h hN
theorem kcl {n : Nat} (h : n < 2147483648) : (nI n).toNatClampNeg = n := nI_clamp h
end KB
