/-! THE LAW: static calls; the script's cells; numbers out of ints -/
section KG9
variable {p : Program} {l : Launch} {e : Env} {R : Room} {s : State} {m : MethodId} {args : Array Value} {below : List Frame} {meth : Method} {c : Code} {H : Heap} {locs : List Loc} {cells slots : Nat} {Q : State → Prop}
variable {pc : Nat} {ls : Array Slot} {rest st0 : List Value} {a : Array Value} {A : Nat → Prop} {mc ms : Nat} {E : kE} {α S : Type} {emb : α → Option Value} {post : α → S → Prop} {w' : S → va_W} {w : va_W} {pre mid post9 : List va_W}
variable {y : MethodName} {bytes cc : ByteArray} {maxL nL n index : Nat} {ret : Option FieldType} {ws : List Cond} {rm : Room} {Ts : List Cond} {own C : String} {b : Addr} {As : List Value}
/-- invokestatic -/
theorem k_SF (C0 : CallFix p m c cc nL s args Ts own) (hM : kF E l y ws rm As w emb post w' mc ms) (cw : CallB R s args own index y bytes maxL ret ws rm mc ms n ∧ (Cond.static y).before args s = true)
    (hw : kW E A s (pre ++ (mid ++ post9)).flatten H locs) (hs : mid.flatten = w) (hZ : kZ A s) (mid' : S → List va_W) (h1 : ∀ u, (mid' u).flatten = w' u)
    (hn : As.length = n) (hsize : ls.size = nL) (hst : st0 = As.reverse ++ rest) (hR : (rest.map fun v => v.category).sum ≤ 8) (hdg : decode cc pc = .ok (.invokestatic index, 3)) (hf : cells + mc ≤ R.cells ∧ slots + ms ≤ R.slots)
    (kk : ∀ (r : α) (u : S) (H1 : Heap) (locs1 : List Loc), post r u → kW E A s (pre ++ (mid' u ++ post9)).flatten H1 locs1 → W p l e R s m args below meth c H1 locs1 (cells + mc) (slots + ms) Q (F0 m (pc + 3) ls ((emb r).toList ++ rest))) : W p l e R s m args below meth c H locs cells slots Q (F0 m pc ls st0) := by
  have h := hw.sub hs
  exact k_goX (fun _ hx => hx) (vx_runS C0 (hM H.size) cw ⟨kPreX.blind, kPreX.at hw hZ h⟩ rfl hn hsize hst (lv_room hR) hdg hf) hw hs mid' h1 kk
end KG9
def upN (v : Int32) (n : Nat) : Nat := v.toBitVec.toNat % 2147483648 % n
theorem upN_lt {v : Int32} {n : Nat} (h : 0 < n) : upN v n < n := Nat.mod_lt _ h
theorem upN_e {v : Int32} {n : Nat} (h : 0 < n) (h2 : n < 2147483648) : (v &&& 2147483647) - (v &&& 2147483647) / nI n * nI n = nI (upN v n) := by
  rw [pk_and v (m := 2147483647) 31 (by decide)]
  exact pk_rem (Nat.mod_lt _ (by decide)) h h2
/-- what the script holds at k, or what stands in for it -/
def scN (L : Nat) (xs : Nat → Int32) (k : Nat) : Int32 := if nI L ≤ nI k then 1116352408 * (nI k + 541) else xs k
theorem sh_cmp {h w d : Nat} {he : Nat → Int32} (hG : kG h w) : Op.cmpValue (FP.dcmp (shM h w d he) (shM h w d he)) .l = 0 := by
  have h1 : FP.Core.dIsNaN (shM h w d he) = false := by
    unfold shM
    by_cases h0 : shN h w d he (h * w) = 0
    · rw [if_pos h0]; rfl
    · rw [if_neg h0]
      refine FP.Core.ddiv_out (FP.Core.DFin.notNaN (FP.Core.i2d_fin _)) (FP.Core.i2d_fin _) (fun h9 => FP.Core.i2d_ne_zero ?_ ((FP.Core.zero_bits2 _).mp h9))
      have h2 := shN_le h w d he (h * w)
      have h3 := (kG_n hG).1
      exact nI_ne0 (by omega) (by omega)
  rw [show FP.dcmp (shM h w d he) (shM h w d he) = some .eq from FP.Core.dcmp_refl h1]
  rfl
abbrev rmL_cell : Room := { frames := 0, cells := 0, slots := 0, locals := 0 }
def kPreA (E : kE) (b L : Nat) (xs : Nat → Int32) (As : List Value) (sz : Nat) : Array Value → State → Prop := va_Pc As (fun U => U.heap.size = sz ∧ va_X b L xs U U.heap ∧ b < sz ∧ kK E U)
theorem c_L_cell (l : Launch) (E : kE) (b L : Nat) (xs : Nat → Int32) (k : Nat) (hk : k < 1000) (hL : L < 1000) : ∀ sz, Met l yL_cell wsL_cell rmL_cell (kPreA E b L xs [.ref b, .int (nI k)] sz) (kQ E kI (fun r (_ : Unit) => r = scN L xs k) (fun _ => []) (va_A [] sz)) 0 0 (va_A [] sz) := by
  intro sz
  refine Met.ofW (cc := cL_cell) (maxL := 2) (ret := some .int) (by decide) rfl ?_
  intro p e s m args below meth c s₁ B hml hv
  obtain ⟨rfl, hsz, hX, hbl, hK⟩ := hv
  have hts := atoms_spec (ws := wsL_cell) B.pre
  have hown : s.vm.findClass yL_cell.cls = some m.cls := findClass_of_methodNamed B.named
  subst hsz
  have hx := B.exec
  have hb := B.bytes
  have hr := B.returns
  have hlk := B.notSynchronized
  have hl := lv_entry ([.ref b, .int (nI k)]) (n := 2) (Nat.le_of_ble_eq_true rfl)
  rw [lg_entry_eq]
  generalize (lg_sl ([.ref b, .int (nI k)]) ++ List.replicate (2 - (lg_sl ([.ref b, .int (nI k)])).length) Slot.unset).toArray = ls at hl ⊢
  have hl : lv_has ls 2 [(0, .ref b), (1, .int (nI k))] := hl
  have hS : va_S (va_A [] s.heap.size) s.heap s.heap [] := va_S.rf
  have hbA : ¬ va_A [] s.heap.size b := fun h9 => by
    rcases h9 with ⟨k9, e9, h9⟩ | h9
    · simp at h9
    · omega
  have hP0 : ∀ H : Heap, va_P E.1 vwCl [] H := fun H k q h => by simp at h
  have hD0 : va_D (va_A [] s.heap.size) [] := ⟨fun i j p q h => by simp at h, fun k q h => by simp at h⟩
  refine lv_iload_n hx hb dL_cell_0 rfl (lv_at hl 1 rfl) ?_
  refine lv_aload_n hx hb dL_cell_1 rfl (lv_at hl 0 rfl) ?_
  refine va_slen hx hb hX hbl hbA hS dL_cell_2 ?_
  refine lv_icmp_ge (tgt := 12) hx hb dL_cell_3 (by decide) (fun c3 => ?_) (fun c3 => ?_)
  · have c3 : nI L ≤ nI k := c3
    refine lv_ldc (v := 1116352408) hx hb hown (hts (.constant RL 7 1116352408) (by decide +kernel)) dL_cell_12 ?_
    refine lv_iload_n hx hb dL_cell_14 rfl (lv_at hl 1 rfl) ?_
    refine lv_sipush (v := 541) hx hb dL_cell_15 (by decide) ?_
    refine lv_iadd hx hb dL_cell_18 ?_
    refine lv_imul hx hb dL_cell_19 ?_
    exact W.iret hx hb hr (fun t ht hW => ⟨⟨_, (), rfl, by unfold scN; rw [if_pos c3], hP0 _, hD0⟩, hS.F ht⟩) hS.2.2 dL_cell_20 hlk
  · have c3 : ¬ nI L ≤ nI k := c3
    have hkL : k < L := by
      rcases Nat.lt_or_ge k L with h9 | h9
      · exact h9
      · exact absurd (nI_le h9 (by omega)) c3
    refine lv_aload_n hx hb dL_cell_6 rfl (lv_at hl 0 rfl) ?_
    refine lv_iload_n hx hb dL_cell_7 rfl (lv_at hl 1 rfl) ?_
    refine va_sld hx hb hX hbl hbA hS (i := nI k) (kinN hkL (by omega)) dL_cell_8 ?_
    refine lv_goto (tgt := 20) hx hb dL_cell_9 (by decide) ?_
    exact W.iret hx hb hr (fun t ht hW => ⟨⟨_, (), rfl, by unfold scN; rw [if_neg c3, kcl (by omega)], hP0 _, hD0⟩, hS.F ht⟩) hS.2.2 dL_cell_20 hlk
section KC9
variable {p : Program} {l : Launch} {e : Env} {R : Room} {s : State} {m : MethodId} {args : Array Value} {below : List Frame} {meth : Method} {c : Code} {H : Heap} {locs : List Loc} {cells slots : Nat} {Q : State → Prop}
variable {pc nL index maxL n : Nat} {ls : Array Slot} {rest st0 : List Value} {A : Nat → Prop} {E : kE} {chs : List va_W} {bytes cc : ByteArray} {ret : Option FieldType} {Ts : List Cond} {own : String}
/-- the law reads its script -/
theorem k_cell {b L k : Nat} {xs : Nat → Int32} (hk : k < 1000) (hL : L < 1000) (hX : va_X b L xs s s.heap) (hbl : b < s.heap.size) (hbA : ¬ A b) (C0 : CallFix p m c cc nL s args Ts own) (cw : CallB R s args own index yL_cell bytes maxL ret wsL_cell rmL_cell 0 0 n ∧ (Cond.static yL_cell).before args s = true)
    (hw : kW E A s chs.flatten H locs) (hn : 2 = n) (hsize : ls.size = nL) (hst : st0 = .int (nI k) :: .ref b :: rest) (hR : (rest.map fun v => v.category).sum ≤ 8) (hdg : decode cc pc = .ok (.invokestatic index, 3)) (hf : cells + 0 ≤ R.cells ∧ slots + 0 ≤ R.slots)
    (kk : ∀ (H1 : Heap) (locs1 : List Loc), kW E A s chs.flatten H1 locs1 → W p l e R s m args below meth c H1 locs1 (cells + 0) (slots + 0) Q (F0 m (pc + 3) ls (.int (scN L xs k) :: rest))) : W p l e R s m args below meth c H locs cells slots Q (F0 m pc ls st0) := by
  have hS := hw.2.2.2.1
  have bl : FrameBlind (kPreA E b L xs [.ref b, .int (nI k)] H.size) := fun a U g mk q => by
    obtain ⟨q0, q1, qX, qb, qK⟩ := q
    exact ⟨q0, q1, va_X.moved (u := U) (U := U.calling g mk a) (Vm.Alike.refl U.vm) qX, qb, va_K.moved (u := U) (U := U.calling g mk a) (Vm.Alike.refl U.vm) qK.1, kN.same (u := U) (U := U.calling g mk a) rfl qK.2⟩
  have hat : ∀ U : State, U.heap = H → s.WarmedH U.vm → kPreA E b L xs [.ref b, .int (nI k)] H.size ([.ref b, .int (nI k)] : List Value).toArray U := fun U hU hW =>
    ⟨rfl, by rw [hU], by rw [hU]; exact (hX.kept (hS.2.1 b hbl hbA)).moved hW.alike, Nat.lt_of_lt_of_le hbl hS.1, ⟨va_K.moved hW.alike hw.2.2.1.1, kN.warm hW hw.2.2.1.2⟩⟩
  refine k_go (S := Unit) (emb := kI) (post := fun r (_ : Unit) => r = scN L xs k) (w' := fun _ => []) (w := []) (pre := []) (mid := []) (post9 := chs) (va_runS (As := [.ref b, .int (nI k)]) C0 (c_L_cell l E b L xs k hk hL H.size) cw ⟨bl, hat⟩ rfl hn hsize hst (lv_room hR) hdg hf) hw rfl (fun _ => []) (fun _ => rfl) (fun r u H1 locs1 hr hw1 => ?_)
  subst hr
  exact kk H1 locs1 hw1
end KC9
