/-! the mean height of shadowed cells -/
abbrev kD : UInt64 → Option Value := fun r => some (.double r)
section KD
variable {p : Program} {l : Launch} {e : Env} {R : Room} {s : State} {m : MethodId} {args : Array Value} {below : List Frame} {meth : Method} {c : Code} {H : Heap} {locs : List Loc} {cells slots : Nat}
variable {pc nL : Nat} {ls : Array Slot} {A : Nat → Prop} {mc ms : Nat} {E : kE} {S : Type} {w' : S → va_W} {own : String} {cc : ByteArray} {Ts : List Cond}
theorem k_dret {post : UInt64 → S → Prop} {w1 : va_W} {r : UInt64} (C0 : CallFix p m c cc nL s args Ts own) (hr : meth.sig.returnType = some .double) (hlk : meth.locks = false) (hw : kW E A s w1 H locs) (u : S) (hu : w' u = w1) (hpo : post r u) (hc : cells ≤ mc) (hs : slots ≤ ms) (hdg : decode cc pc = .ok (.dreturn, 1)) :
    W p l e R s m args below meth c H locs cells slots (kEnd E kD post w' below args s A mc ms) (F0 m pc ls [.double r]) := by
  refine W.widen hc hs ?_
  exact W.dret C0.1 C0.2.1 hr (fun t ht hW => ⟨⟨r, u, rfl, hpo, by rw [ht, hu]; exact hw.1, by rw [hu]; exact hw.2.1⟩, hw.2.2.2.1.F ht⟩) hw.2.2.2.1.2.2 hdg hlk
end KD
theorem kdiv_n {s n : Int32} (h : ¬ n = 0) : vf_n64 (FP.ddiv (FP.i2d s) (FP.i2d n)) := by
  have h1 : FP.Core.dIsNaN (FP.Core.ddiv (FP.Core.i2d s) (FP.Core.i2d n)) = false :=
    FP.Core.ddiv_out (FP.Core.DFin.notNaN (FP.Core.i2d_fin s)) (FP.Core.i2d_fin n) (fun h9 => FP.Core.i2d_ne_zero h ((FP.Core.zero_bits2 _).mp h9))
  have h2 : ¬ 9218868437227405312 < (FP.Core.ddiv (FP.Core.i2d s) (FP.Core.i2d n)).toNat % 2 ^ 63 := fun h9 => absurd (h1.symm.trans ((FP.Core.isNaN_bits _).mpr h9)) (by decide)
  unfold vf_n64
  show FP.Core.ddiv (FP.Core.i2d s) (FP.Core.i2d n) &&& 0x7fffffffffffffff ≤ 0x7ff0000000000000
  generalize FP.Core.ddiv (FP.Core.i2d s) (FP.Core.i2d n) = x at h2 ⊢
  rw [UInt64.le_iff_toNat_le, UInt64.toNat_and]
  show x.toNat &&& 9223372036854775807 ≤ 9218868437227405312
  rw [show (9223372036854775807 : Nat) = 2 ^ 63 - 1 from rfl, Nat.and_two_pow_sub_one_eq_mod]
  exact Nat.not_lt.mp h2
def shS (h w d : Nat) (he : Nat → Int32) : Nat → Int32
  | 0 => 0
  | n + 1 => if shd h w d he n then shS h w d he n + he n else shS h w d he n
def shN (h w d : Nat) (he : Nat → Int32) : Nat → Nat
  | 0 => 0
  | n + 1 => if shd h w d he n then shN h w d he n + 1 else shN h w d he n
theorem shS_s (h w d : Nat) (he : Nat → Int32) (n : Nat) : shS h w d he (n + 1) = if shd h w d he n then shS h w d he n + he n else shS h w d he n := rfl
theorem shN_s (h w d : Nat) (he : Nat → Int32) (n : Nat) : shN h w d he (n + 1) = if shd h w d he n then shN h w d he n + 1 else shN h w d he n := rfl
theorem shN_le (h w d : Nat) (he : Nat → Int32) : ∀ n, shN h w d he n ≤ n
  | 0 => Nat.le_refl _
  | n + 1 => by
    have := shN_le h w d he n
    rw [shN_s]
    split <;> omega
/-- the mean height of the shadowed cells -/
def shM (h w d : Nat) (he : Nat → Int32) : UInt64 := if shN h w d he (h * w) = 0 then FP.dconst0 else FP.ddiv (FP.i2d (shS h w d he (h * w))) (FP.i2d (nI (shN h w d he (h * w))))
abbrev rmX1_meanShadowHeight : Room := { frames := 2, cells := 0, slots := 0, locals := 50 }
set_option maxHeartbeats 4000000 in
set_option maxRecDepth 100000 in
theorem c_X1_meanShadowHeight (l : Launch) (E : kE) (a : Nat → Nat) (h : Nat) (w : Nat) (s0 : Int32) (z : Int32) (d : Nat) (st : Nat → Int32) (he : Nat → Int32) (ke : Nat → Int32) (tu : Nat → Int32) (ca : Nat → Int32) (tr : Nat → Int32) (co : Nat → Int32) (la : Nat → Int32) (hG : kG h w) (hd : d < 4) : kC E l yX1_meanShadowHeight wsX1_meanShadowHeight rmX1_meanShadowHeight [.ref (a 0)] (fc E a (nI h) (nI w) (nI d) s0 z st he ke tu ca tr co la) kD (fun (r : UInt64) (_ : Unit) => r = shM h w d he) (fun _ => fc E a (nI h) (nI w) (nI d) s0 z st he ke tu ca tr co la) 0 0 := by
  refine k_body (cc := cX1_meanShadowHeight) (maxL := 5) (ret := (some .double)) (by decide) rfl (Nat.le_of_ble_eq_true rfl) ?_
  intro pp ee sx mm aa bb me cd H locs AA ls C0 hr hlk hnm hl hw
  obtain ⟨hx, hb, hml, hown, hts⟩ := id C0
  have hl : lv_has ls 5 [(0, .ref (a 0))] := hl
  have hw : kW E AA sx (List.flatten [oc (a 0) 1 [.int (nI h), .int (nI w), .int (nI d), .int s0, .int z, .ref (a 1), .ref (a 2), .ref (a 3), .ref (a 4), .ref (a 5), .ref (a 6), .ref (a 7), .ref (a 8)], rc E (a 1) (a 9) 4 st, rc E (a 2) (a 10) 192 he, rc E (a 3) (a 11) 192 ke, rc E (a 4) (a 12) 192 tu, rc E (a 5) (a 13) 192 ca, rc E (a 6) (a 14) 192 tr, rc E (a 7) (a 15) 12 co, rc E (a 8) (a 16) 4 la]) H locs := hw
  have hn9 := kG_n hG
  have hG9 := id hG
  obtain ⟨hG1, hG2, hG3, hG4⟩ := hG9
  have hinX1 : ∀ w ∈ u_ws RX1 TX1 13, w ∈ wsX1_meanShadowHeight := by decide +kernel
  refine lv_iconst (v := 0) hx hb dX1_meanShadowHeight_0 (by decide) ?_
  refine lv_istore_n (lv' := [(1, .int 0), (0, .ref (a 0))]) hx hb dX1_meanShadowHeight_1 rfl hl (by decide) rfl (fun ls hl => ?_)
  refine lv_iconst (v := 0) hx hb dX1_meanShadowHeight_2 (by decide) ?_
  refine lv_istore_n (lv' := [(2, .int 0), (1, .int 0), (0, .ref (a 0))]) hx hb dX1_meanShadowHeight_3 rfl hl (by decide) rfl (fun ls hl => ?_)
  refine lv_aload_n hx hb dX1_meanShadowHeight_4 rfl (lv_at hl 2 rfl) ?_
  refine k_V (As := []) (rest := []) (pre := []) (mid := [oc (a 0) 1 [.int (nI h), .int (nI w), .int (nI d), .int s0, .int z, .ref (a 1), .ref (a 2), .ref (a 3), .ref (a 4), .ref (a 5), .ref (a 6), .ref (a 7), .ref (a 8)], rc E (a 1) (a 9) 4 st, rc E (a 2) (a 10) 192 he, rc E (a 3) (a 11) 192 ke, rc E (a 4) (a 12) 192 tu, rc E (a 5) (a 13) 192 ca, rc E (a 6) (a 14) 192 tr, rc E (a 7) (a 15) 12 co, rc E (a 8) (a 16) 4 la]) C0 (c_X1_cells l E a h w (nI d) s0 z st he ke tu ca tr co la (by first | assumption | omega)) (cwV 0 hts gX1_meanShadowHeight_X1_cells rfl rfl rfl (by decide +kernel) ⟨Nat.le_of_ble_eq_true rfl, Nat.le_of_ble_eq_true rfl⟩) hw rfl (fun _ => [oc (a 0) 1 [.int (nI h), .int (nI w), .int (nI d), .int s0, .int z, .ref (a 1), .ref (a 2), .ref (a 3), .ref (a 4), .ref (a 5), .ref (a 6), .ref (a 7), .ref (a 8)], rc E (a 1) (a 9) 4 st, rc E (a 2) (a 10) 192 he, rc E (a 3) (a 11) 192 ke, rc E (a 4) (a 12) 192 tu, rc E (a 5) (a 13) 192 ca, rc E (a 6) (a 14) 192 tr, rc E (a 7) (a 15) 12 co, rc E (a 8) (a 16) 4 la]) (fun _ => rfl) 0 1 rfl rfl rfl rfl hl.1 rfl (Nat.le_of_ble_eq_true rfl) dX1_meanShadowHeight_5 ⟨Nat.le_of_ble_eq_true rfl, Nat.le_of_ble_eq_true rfl⟩ (fun r u H locs hq99 hw => ?_)
  subst hq99
  have hw : kW E AA sx (List.flatten [oc (a 0) 1 [.int (nI h), .int (nI w), .int (nI d), .int s0, .int z, .ref (a 1), .ref (a 2), .ref (a 3), .ref (a 4), .ref (a 5), .ref (a 6), .ref (a 7), .ref (a 8)], rc E (a 1) (a 9) 4 st, rc E (a 2) (a 10) 192 he, rc E (a 3) (a 11) 192 ke, rc E (a 4) (a 12) 192 tu, rc E (a 5) (a 13) 192 ca, rc E (a 6) (a 14) 192 tr, rc E (a 7) (a 15) 12 co, rc E (a 8) (a 16) 4 la]) H locs := hw
  refine W.eq (g2 := F0 mm 8 ls [.int (nI (h * w))]) rfl ?_
  refine lv_istore_n (lv' := [(3, .int (nI (h * w))), (2, .int 0), (1, .int 0), (0, .ref (a 0))]) hx hb dX1_meanShadowHeight_8 rfl hl (by decide) rfl (fun ls hl => ?_)
  refine lv_iconst (v := 0) hx hb dX1_meanShadowHeight_9 (by decide) ?_
  refine lv_istore (lv' := [(4, .int 0), (3, .int (nI (h * w))), (2, .int 0), (1, .int 0), (0, .ref (a 0))]) hx hb dX1_meanShadowHeight_10 hl (by decide) rfl (fun ls hl => ?_)
  have loop12 : ∀ (nn : Nat) (i : Nat) (n9 : Nat) (x : Int32), (i ≤ h * w) → (x = shS h w d he i) → (n9 = shN h w d he i) → h * w - i < nn → ∀ (H : Heap) (locs : List Loc) (ls : Array Slot), lv_has ls 5 [(4, .int (nI i)), (3, .int (nI (h * w))), (2, .int (nI n9)), (1, .int x), (0, .ref (a 0))] → kW E AA sx (List.flatten [oc (a 0) 1 [.int (nI h), .int (nI w), .int (nI d), .int s0, .int z, .ref (a 1), .ref (a 2), .ref (a 3), .ref (a 4), .ref (a 5), .ref (a 6), .ref (a 7), .ref (a 8)], rc E (a 1) (a 9) 4 st, rc E (a 2) (a 10) 192 he, rc E (a 3) (a 11) 192 ke, rc E (a 4) (a 12) 192 tu, rc E (a 5) (a 13) 192 ca, rc E (a 6) (a 14) 192 tr, rc E (a 7) (a 15) 12 co, rc E (a 8) (a 16) 4 la]) H locs → W pp l ee rmX1_meanShadowHeight sx mm aa bb me cd H locs 0 0 (kEnd E kD (fun (r : UInt64) (_ : Unit) => r = shM h w d he) (fun _ => fc E a (nI h) (nI w) (nI d) s0 z st he ke tu ca tr co la) bb aa sx AA 0 0) (F0 mm 12 ls []) := by
    intro nn
    induction nn with
    | zero => intro i n9 x hi hxx hnn hm12; exact absurd hm12 (Nat.not_lt_zero _)
    | succ nn ih12 =>
      intro i n9 x hi hxx hnn hm12 H locs ls hl hw
      have hnl9 := shN_le h w d he i
      refine lv_iload hx hb dX1_meanShadowHeight_12 (lv_at hl 0 rfl) ?_
      refine lv_iload_n hx hb dX1_meanShadowHeight_14 rfl (lv_at hl 1 rfl) ?_
      refine lv_icmp_ge (tgt := 48) hx hb dX1_meanShadowHeight_15 (by decide) (fun c15 => ?_) (fun c15 => ?_)
      · have c15 : (h * w) ≤ i := (nI_leI (a := (h * w)) (b := i) (by omega) (by omega)).mp c15
        refine lv_iload_n hx hb dX1_meanShadowHeight_48 rfl (lv_at hl 2 rfl) ?_
        refine lv_if_le (tgt := 60) hx hb dX1_meanShadowHeight_49 (by decide) (fun c49 => ?_) (fun c49 => ?_)
        · have c49 : n9 ≤ 0 := (nI_leI (a := n9) (b := 0) (by omega) (by omega)).mp c49
          refine lv_dconst0 hx hb dX1_meanShadowHeight_60 ?_
          -- leaf 0
          exact k_dret C0 hr hlk hw () (rfl) (by unfold shM; rw [show h * w = i by omega, ← hnn, if_pos (by omega)]) (Nat.le_of_ble_eq_true rfl) (Nat.le_of_ble_eq_true rfl) dX1_meanShadowHeight_61
        · have c49 : ¬ n9 ≤ 0 := fun h99 => c49 ((nI_leI (a := n9) (b := 0) (by omega) (by omega)).mpr h99)
          refine lv_iload_n hx hb dX1_meanShadowHeight_52 rfl (lv_at hl 3 rfl) ?_
          refine lv_i2d hx hb dX1_meanShadowHeight_53 ?_
          refine lv_iload_n hx hb dX1_meanShadowHeight_54 rfl (lv_at hl 2 rfl) ?_
          refine lv_i2d hx hb dX1_meanShadowHeight_55 ?_
          refine lv_ddiv hx hb dX1_meanShadowHeight_56 (kdiv_n (nI_ne0 (by omega) (by omega))) ?_
          refine lv_goto (tgt := 61) hx hb dX1_meanShadowHeight_57 (by decide) ?_
          -- leaf 1
          exact k_dret C0 hr hlk hw () (rfl) (by unfold shM; rw [show h * w = i by omega, ← hnn, ← hxx, if_neg (by omega)]) (Nat.le_of_ble_eq_true rfl) (Nat.le_of_ble_eq_true rfl) dX1_meanShadowHeight_61
      · have c15 : ¬ (h * w) ≤ i := fun h99 => c15 ((nI_leI (a := (h * w)) (b := i) (by omega) (by omega)).mpr h99)
        refine lv_aload_n hx hb dX1_meanShadowHeight_18 rfl (lv_at hl 4 rfl) ?_
        refine lv_iload hx hb dX1_meanShadowHeight_19 (lv_at hl 0 rfl) ?_
        refine k_V (As := [.int (nI i)]) (rest := []) (pre := []) (mid := [oc (a 0) 1 [.int (nI h), .int (nI w), .int (nI d), .int s0, .int z, .ref (a 1), .ref (a 2), .ref (a 3), .ref (a 4), .ref (a 5), .ref (a 6), .ref (a 7), .ref (a 8)], rc E (a 1) (a 9) 4 st, rc E (a 2) (a 10) 192 he, rc E (a 3) (a 11) 192 ke, rc E (a 4) (a 12) 192 tu, rc E (a 5) (a 13) 192 ca, rc E (a 6) (a 14) 192 tr, rc E (a 7) (a 15) 12 co, rc E (a 8) (a 16) 4 la]) C0 (c_X1_inShadow l E a h w s0 z d st he ke tu ca tr co la i (by first | assumption | omega) (by first | assumption | omega) (by first | assumption | omega)) (cwV 1 hts gX1_meanShadowHeight_X1_inShadow rfl rfl rfl (by decide +kernel) ⟨Nat.le_of_ble_eq_true rfl, Nat.le_of_ble_eq_true rfl⟩) hw rfl (fun _ => [oc (a 0) 1 [.int (nI h), .int (nI w), .int (nI d), .int s0, .int z, .ref (a 1), .ref (a 2), .ref (a 3), .ref (a 4), .ref (a 5), .ref (a 6), .ref (a 7), .ref (a 8)], rc E (a 1) (a 9) 4 st, rc E (a 2) (a 10) 192 he, rc E (a 3) (a 11) 192 ke, rc E (a 4) (a 12) 192 tu, rc E (a 5) (a 13) 192 ca, rc E (a 6) (a 14) 192 tr, rc E (a 7) (a 15) 12 co, rc E (a 8) (a 16) 4 la]) (fun _ => rfl) 0 1 rfl rfl rfl rfl hl.1 rfl (Nat.le_of_ble_eq_true rfl) dX1_meanShadowHeight_21 ⟨Nat.le_of_ble_eq_true rfl, Nat.le_of_ble_eq_true rfl⟩ (fun r u H locs hq99 hw => ?_)
        subst hq99
        have hw : kW E AA sx (List.flatten [oc (a 0) 1 [.int (nI h), .int (nI w), .int (nI d), .int s0, .int z, .ref (a 1), .ref (a 2), .ref (a 3), .ref (a 4), .ref (a 5), .ref (a 6), .ref (a 7), .ref (a 8)], rc E (a 1) (a 9) 4 st, rc E (a 2) (a 10) 192 he, rc E (a 3) (a 11) 192 ke, rc E (a 4) (a 12) 192 tu, rc E (a 5) (a 13) 192 ca, rc E (a 6) (a 14) 192 tr, rc E (a 7) (a 15) 12 co, rc E (a 8) (a 16) 4 la]) H locs := hw
        refine W.eq (g2 := F0 mm 24 ls [.int (if shd h w d he i then 1 else 0)]) rfl ?_
        refine lv_if_eq (tgt := 42) hx hb dX1_meanShadowHeight_24 (by decide) (fun c24 => ?_) (fun c24 => ?_)
        · have c24 := kb10t c24
          refine lv_iinc (v := nI (i + 1)) (lv' := [(4, .int (nI (i + 1))), (3, .int (nI (h * w))), (2, .int (nI n9)), (1, .int x), (0, .ref (a 0))]) hx hb dX1_meanShadowHeight_42 hl (k := 0) rfl (nI_1 _) (by decide) rfl (fun ls hl => ?_)
          refine lv_goto (tgt := 12) hx hb dX1_meanShadowHeight_45 (by decide) ?_
          -- back 0
          exact ih12 (i + 1) n9 x (by first | assumption | omega) (by rw [hxx, shS_s, if_neg c24]) (by rw [hnn, shN_s, if_neg c24]) (by omega) H _ ls (lv_sub hl [0, 1, 2, 3, 4] rfl) hw
        · have c24 := kb10f c24
          refine lv_iload_n hx hb dX1_meanShadowHeight_27 rfl (lv_at hl 3 rfl) ?_
          refine lv_aload_n hx hb dX1_meanShadowHeight_28 rfl (lv_at hl 4 rfl) ?_
          refine k_get (pre := []) C0 hw hinX1 rfl 6 (by decide) (hts (.fieldLink RX1 20 "SlabDunes$Field" "heights" "LSlabDunes$Row;") (by decide +kernel)) rfl rfl dX1_meanShadowHeight_29 ?_
          refine lv_iload hx hb dX1_meanShadowHeight_32 (lv_at hl 0 rfl) ?_
          refine k_V (As := [.int (nI i)]) (rest := [.int x]) (pre := [oc (a 0) 1 [.int (nI h), .int (nI w), .int (nI d), .int s0, .int z, .ref (a 1), .ref (a 2), .ref (a 3), .ref (a 4), .ref (a 5), .ref (a 6), .ref (a 7), .ref (a 8)], rc E (a 1) (a 9) 4 st]) (mid := [rc E (a 2) (a 10) 192 he]) C0 (c_X4_atN l E (a 2) (a 10) 192 he i (by first | assumption | omega) (by first | assumption | omega)) (cwV 1 hts gX1_meanShadowHeight_X4_at rfl rfl rfl (by decide +kernel) ⟨Nat.le_of_ble_eq_true rfl, Nat.le_of_ble_eq_true rfl⟩) hw rfl (fun _ => [rc E (a 2) (a 10) 192 he]) (fun _ => rfl) 0 4 rfl rfl rfl rfl hl.1 rfl (Nat.le_of_ble_eq_true rfl) dX1_meanShadowHeight_34 ⟨Nat.le_of_ble_eq_true rfl, Nat.le_of_ble_eq_true rfl⟩ (fun r u H locs hq99 hw => ?_)
          subst hq99
          have hw : kW E AA sx (List.flatten [oc (a 0) 1 [.int (nI h), .int (nI w), .int (nI d), .int s0, .int z, .ref (a 1), .ref (a 2), .ref (a 3), .ref (a 4), .ref (a 5), .ref (a 6), .ref (a 7), .ref (a 8)], rc E (a 1) (a 9) 4 st, rc E (a 2) (a 10) 192 he, rc E (a 3) (a 11) 192 ke, rc E (a 4) (a 12) 192 tu, rc E (a 5) (a 13) 192 ca, rc E (a 6) (a 14) 192 tr, rc E (a 7) (a 15) 12 co, rc E (a 8) (a 16) 4 la]) H locs := hw
          refine W.eq (g2 := F0 mm 37 ls [.int (he i), .int x]) rfl ?_
          refine lv_iadd hx hb dX1_meanShadowHeight_37 ?_
          refine lv_istore_n (lv' := [(1, .int (x + (he i))), (4, .int (nI i)), (3, .int (nI (h * w))), (2, .int (nI n9)), (0, .ref (a 0))]) hx hb dX1_meanShadowHeight_38 rfl hl (by decide) rfl (fun ls hl => ?_)
          refine lv_iinc (v := nI (n9 + 1)) (lv' := [(2, .int (nI (n9 + 1))), (1, .int (x + (he i))), (4, .int (nI i)), (3, .int (nI (h * w))), (0, .ref (a 0))]) hx hb dX1_meanShadowHeight_39 hl (k := 3) rfl (nI_1 _) (by decide) rfl (fun ls hl => ?_)
          refine lv_iinc (v := nI (i + 1)) (lv' := [(4, .int (nI (i + 1))), (2, .int (nI (n9 + 1))), (1, .int (x + (he i))), (3, .int (nI (h * w))), (0, .ref (a 0))]) hx hb dX1_meanShadowHeight_42 hl (k := 2) rfl (nI_1 _) (by decide) rfl (fun ls hl => ?_)
          refine lv_goto (tgt := 12) hx hb dX1_meanShadowHeight_45 (by decide) ?_
          -- back 1
          exact ih12 (i + 1) (n9 + 1) (x + (he i)) (by first | assumption | omega) (by rw [hxx, shS_s, if_pos c24]) (by rw [hnn, shN_s, if_pos c24]) (by omega) H _ ls (lv_sub hl [0, 3, 1, 2, 4] rfl) hw
  exact loop12 ((h * w - 0) + 1) 0 0 0 (Nat.zero_le _) (rfl) (rfl) (Nat.lt_succ_self _) H _ ls (lv_sub hl [0, 1, 2, 3, 4] rfl) hw

abbrev rmX6_shadowHeight : Room := { frames := 3, cells := 0, slots := 0, locals := 74 }
set_option maxHeartbeats 4000000 in
set_option maxRecDepth 100000 in
theorem c_X6_shadowHeight_ok (l : Launch) (E : kE) (d0 : Nat) (q1 : Nat) (q2 : Nat) (a : Nat → Nat) (e : Nat → Nat) (m : Nat → Nat) (t : Nat → Nat) (q : Nat) (h : Nat) (w : Nat) (s0 : Int32) (z : Int32) (st : Nat → Int32) (he : Nat → Int32) (ke : Nat → Int32) (tu : Nat → Int32) (ca : Nat → Int32) (tr : Nat → Int32) (co : Nat → Int32) (la : Nat → Int32) (d : Nat) (hG : kG h w) (hd : d < 4) : kC E l yX6_shadowHeight wsX6_shadowHeight rmX6_shadowHeight [.ref d0] (List.flatten [oc d0 6 [.ref (a 0), .ref q1, .ref (e 0), .ref q2, .ref (m 0), .ref q, .ref (t 0)], fc E a (nI h) (nI w) (nI d) s0 z st he ke tu ca tr co la]) kD (fun (r : UInt64) (_ : Unit) => r = shM h w d he) (fun _ => List.flatten [oc d0 6 [.ref (a 0), .ref q1, .ref (e 0), .ref q2, .ref (m 0), .ref q, .ref (t 0)], fc E a (nI h) (nI w) (nI d) s0 z st he ke tu ca tr co la]) 0 0 := by
  refine k_body (cc := cX6_shadowHeight) (maxL := 1) (ret := (some .double)) (by decide) rfl (Nat.le_of_ble_eq_true rfl) ?_
  intro pp ee sx mm aa bb me cd H locs AA ls C0 hr hlk hnm hl hw
  obtain ⟨hx, hb, hml, hown, hts⟩ := id C0
  have hl : lv_has ls 1 [(0, .ref d0)] := hl
  have hw : kW E AA sx (List.flatten [oc d0 6 [.ref (a 0), .ref q1, .ref (e 0), .ref q2, .ref (m 0), .ref q, .ref (t 0)], fc E a (nI h) (nI w) (nI d) s0 z st he ke tu ca tr co la]) H locs := hw
  have hn9 := kG_n hG
  have hG9 := id hG
  obtain ⟨hG1, hG2, hG3, hG4⟩ := hG9
  have hinX6 : ∀ w ∈ u_ws RX6 TX6 7, w ∈ wsX6_shadowHeight := by decide +kernel
  refine lv_aload_n hx hb dX6_shadowHeight_0 rfl (lv_at hl 0 rfl) ?_
  refine k_get (pre := []) C0 hw hinX6 rfl 0 (by decide) (hts (.fieldLink RX6 10 "SlabDunes" "field" "LSlabDunes$Field;") (by decide +kernel)) rfl rfl dX6_shadowHeight_1 ?_
  refine k_V (As := []) (rest := []) (pre := [oc d0 6 [.ref (a 0), .ref q1, .ref (e 0), .ref q2, .ref (m 0), .ref q, .ref (t 0)]]) (mid := [fc E a (nI h) (nI w) (nI d) s0 z st he ke tu ca tr co la]) C0 (c_X1_meanShadowHeight l E a h w s0 z d st he ke tu ca tr co la (by first | assumption | omega) (by first | assumption | omega)) (cwV 0 hts gX6_shadowHeight_X1_meanShadowHeight rfl rfl rfl (by decide +kernel) ⟨Nat.le_of_ble_eq_true rfl, Nat.le_of_ble_eq_true rfl⟩) hw rfl (fun _ => [fc E a (nI h) (nI w) (nI d) s0 z st he ke tu ca tr co la]) (fun _ => rfl) 0 1 rfl rfl rfl rfl hl.1 rfl (Nat.le_of_ble_eq_true rfl) dX6_shadowHeight_4 ⟨Nat.le_of_ble_eq_true rfl, Nat.le_of_ble_eq_true rfl⟩ (fun r u H locs hq99 hw => ?_)
  subst hq99
  have hw : kW E AA sx (List.flatten [oc d0 6 [.ref (a 0), .ref q1, .ref (e 0), .ref q2, .ref (m 0), .ref q, .ref (t 0)], fc E a (nI h) (nI w) (nI d) s0 z st he ke tu ca tr co la]) H locs := hw
  refine W.eq (g2 := F0 mm 7 ls [.double (shM h w d he)]) rfl ?_
  -- leaf 0
  exact k_dret C0 hr hlk hw () (rfl) (rfl) (Nat.le_of_ble_eq_true rfl) (Nat.le_of_ble_eq_true rfl) dX6_shadowHeight_7
