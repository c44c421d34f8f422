/-! THE ROW: numbers behind tested indexes -/
def rAt (len : Nat) (f : Nat → Int32) (i : Int32) : Int32 := if i < 0 then 0 else if nI len ≤ i then 0 else f i.toNatClampNeg
def rPut (len : Nat) (f : Nat → Int32) (i v : Int32) : Nat → Int32 := if i < 0 then f else if nI len ≤ i then f else upd f i.toNatClampNeg v
def rAdd (len : Nat) (f : Nat → Int32) (i v : Int32) : Nat → Int32 := if i < 0 then f else if nI len ≤ i then f else upd f i.toNatClampNeg (f i.toNatClampNeg + v)
theorem rAt_nI {len c : Nat} {f : Nat → Int32} (h : c < len) (hl : len < 2147483648) : rAt len f (nI c) = f c := by
  simp [rAt, nI_pos (n := c) (by omega), nI_ge (a := c) (b := len) h hl, nI_clamp (n := c) (by omega)]
theorem rPut_nI {len c : Nat} {f : Nat → Int32} {v : Int32} (h : c < len) (hl : len < 2147483648) : rPut len f (nI c) v = upd f c v := by
  simp [rPut, nI_pos (n := c) (by omega), nI_ge (a := c) (b := len) h hl, nI_clamp (n := c) (by omega)]
theorem rAdd_nI {len c : Nat} {f : Nat → Int32} {v : Int32} (h : c < len) (hl : len < 2147483648) : rAdd len f (nI c) v = upd f c (f c + v) := by
  simp [rAdd, nI_pos (n := c) (by omega), nI_ge (a := c) (b := len) h hl, nI_clamp (n := c) (by omega)]

theorem kfill_step {g : Nat → Int32} {v : Int32} {i : Nat} (hg : ∀ j, j < i → g j = v) (hi : i < 2147483648) : ∀ j, j < i + 1 → upd g (nI i).toNatClampNeg v j = v := by
  intro j hj
  rw [kcl hi]
  unfold upd
  split
  · rfl
  · exact hg j (by omega)
theorem kcopy_step {g f2 : Nat → Int32} {i : Nat} (hg : ∀ j, j < i → g j = f2 j) (hi : i < 2147483648) : ∀ j, j < i + 1 → upd g (nI i).toNatClampNeg (f2 i) j = f2 j := by
  intro j hj
  rw [kcl hi]
  unfold upd
  split
  · rename_i h; rw [h]
  · exact hg j (by omega)

abbrev rmX4_at : Room := { frames := 0, cells := 0, slots := 0, locals := 0 }
set_option maxHeartbeats 4000000 in
set_option maxRecDepth 100000 in
theorem c_X4_at (l : Launch) (E : kE) (h : Nat) (n : Nat) (len : Nat) (f : Nat → Int32) (i : Int32) (hlen : len < 2147483648) : kC E l yX4_at wsX4_at rmX4_at [.ref h, .int i] (rc E h n len f) kI (fun (r : Int32) (_ : Unit) => r = rAt len f i) (fun _ => rc E h n len f) 0 0 := by
  refine k_body (cc := cX4_at) (maxL := 2) (ret := (some .int)) (by decide) rfl (Nat.le_of_ble_eq_true rfl) ?_
  intro pp ee sx mm aa bb me cd H locs AA ls C0 hr hlk hnm hl hw
  obtain ⟨hx, hb, hml, hown, hts⟩ := id C0
  have hl : lv_has ls 2 [(0, .ref h), (1, .int i)] := hl
  have hw : kW E AA sx (List.flatten [rc E h n len f]) H locs := hw
  have hinX4 : ∀ w ∈ u_ws RX4 TX4 1, w ∈ wsX4_at := by decide +kernel
  refine lv_iload_n hx hb dX4_at_0 rfl (lv_at hl 1 rfl) ?_
  refine lv_if_lt (tgt := 22) hx hb dX4_at_1 (by decide) (fun c1 => ?_) (fun c1 => ?_)
  · refine lv_iconst (v := 0) hx hb dX4_at_22 (by decide) ?_
    -- leaf 0
    exact k_iret C0 hr hlk hw () (rfl) (by simp [rAt, *]) (Nat.le_of_ble_eq_true rfl) (Nat.le_of_ble_eq_true rfl) dX4_at_23
  · refine lv_iload_n hx hb dX4_at_4 rfl (lv_at hl 1 rfl) ?_
    refine lv_aload_n hx hb dX4_at_5 rfl (lv_at hl 0 rfl) ?_
    refine k_get (pre := []) C0 hw hinX4 rfl 0 (by decide) (hts (.fieldLink RX4 7 "SlabDunes$Row" "numbers" "[I") (by decide +kernel)) rfl rfl dX4_at_6 ?_
    refine k_alen (pre := []) (l1 := [(h, .inr (4, [.ref n]))]) C0 hw dX4_at_9 ?_
    refine lv_icmp_ge (tgt := 22) hx hb dX4_at_10 (by decide) (fun c10 => ?_) (fun c10 => ?_)
    · refine lv_iconst (v := 0) hx hb dX4_at_22 (by decide) ?_
      -- leaf 1
      exact k_iret C0 hr hlk hw () (rfl) (by simp [rAt, *]) (Nat.le_of_ble_eq_true rfl) (Nat.le_of_ble_eq_true rfl) dX4_at_23
    · refine lv_aload_n hx hb dX4_at_13 rfl (lv_at hl 0 rfl) ?_
      refine k_get (pre := []) C0 hw hinX4 rfl 0 (by decide) (hts (.fieldLink RX4 7 "SlabDunes$Row" "numbers" "[I") (by decide +kernel)) rfl rfl dX4_at_14 ?_
      refine lv_iload_n hx hb dX4_at_17 rfl (lv_at hl 1 rfl) ?_
      refine k_iald (pre := []) (l1 := [(h, .inr (4, [.ref n]))]) C0 hw (i := i) (kin c1 c10 hlen) dX4_at_18 ?_
      refine lv_goto (tgt := 23) hx hb dX4_at_19 (by decide) ?_
      -- leaf 2
      exact k_iret C0 hr hlk hw () (rfl) (by simp [rAt, *]) (Nat.le_of_ble_eq_true rfl) (Nat.le_of_ble_eq_true rfl) dX4_at_23

/-- at a place that is there -/
theorem c_X4_atN (l : Launch) (E : kE) (h n len : Nat) (f : Nat → Int32) (c : Nat) (hc : c < len) (hlen : len < 2147483648) : kC E l yX4_at wsX4_at rmX4_at [.ref h, .int (nI c)] (rc E h n len f) kI (fun (r : Int32) (_ : Unit) => r = f c) (fun _ => rc E h n len f) 0 0 := by
  have k := c_X4_at l E h n len f (nI c) hlen
  rw [rAt_nI hc hlen] at k
  exact k
abbrev rmX4_put : Room := { frames := 0, cells := 0, slots := 0, locals := 0 }
set_option maxHeartbeats 4000000 in
set_option maxRecDepth 100000 in
theorem c_X4_put (l : Launch) (E : kE) (h : Nat) (n : Nat) (len : Nat) (f : Nat → Int32) (i : Int32) (v : Int32) (hlen : len < 2147483648) : kC E l yX4_put wsX4_put rmX4_put [.ref h, .int i, .int v] (rc E h n len f) kV (fun (_ : Unit) (_ : Unit) => True) (fun _ => rc E h n len (rPut len f i v)) 0 0 := by
  refine k_body (cc := cX4_put) (maxL := 3) (ret := none) (by decide) rfl (Nat.le_of_ble_eq_true rfl) ?_
  intro pp ee sx mm aa bb me cd H locs AA ls C0 hr hlk hnm hl hw
  obtain ⟨hx, hb, hml, hown, hts⟩ := id C0
  have hl : lv_has ls 3 [(0, .ref h), (1, .int i), (2, .int v)] := hl
  have hw : kW E AA sx (List.flatten [rc E h n len f]) H locs := hw
  have hinX4 : ∀ w ∈ u_ws RX4 TX4 1, w ∈ wsX4_put := by decide +kernel
  refine lv_iload_n hx hb dX4_put_0 rfl (lv_at hl 1 rfl) ?_
  refine lv_if_lt (tgt := 20) hx hb dX4_put_1 (by decide) (fun c1 => ?_) (fun c1 => ?_)
  · have hw : kW E AA sx (List.flatten [rc E h n len (rPut len f i v)]) H locs := kW.arr (pre := []) (l1 := [(h, .inr (4, [.ref n]))]) hw (fun j _ => by simp [rPut, *])
    -- leaf 0
    exact k_vret C0 hr hlk hw () (rfl) (trivial) (Nat.le_of_ble_eq_true rfl) (Nat.le_of_ble_eq_true rfl) dX4_put_20
  · refine lv_iload_n hx hb dX4_put_4 rfl (lv_at hl 1 rfl) ?_
    refine lv_aload_n hx hb dX4_put_5 rfl (lv_at hl 0 rfl) ?_
    refine k_get (pre := []) C0 hw hinX4 rfl 0 (by decide) (hts (.fieldLink RX4 7 "SlabDunes$Row" "numbers" "[I") (by decide +kernel)) rfl rfl dX4_put_6 ?_
    refine k_alen (pre := []) (l1 := [(h, .inr (4, [.ref n]))]) C0 hw dX4_put_9 ?_
    refine lv_icmp_ge (tgt := 20) hx hb dX4_put_10 (by decide) (fun c10 => ?_) (fun c10 => ?_)
    · have hw : kW E AA sx (List.flatten [rc E h n len (rPut len f i v)]) H locs := kW.arr (pre := []) (l1 := [(h, .inr (4, [.ref n]))]) hw (fun j _ => by simp [rPut, *])
      -- leaf 1
      exact k_vret C0 hr hlk hw () (rfl) (trivial) (Nat.le_of_ble_eq_true rfl) (Nat.le_of_ble_eq_true rfl) dX4_put_20
    · refine lv_aload_n hx hb dX4_put_13 rfl (lv_at hl 0 rfl) ?_
      refine k_get (pre := []) C0 hw hinX4 rfl 0 (by decide) (hts (.fieldLink RX4 7 "SlabDunes$Row" "numbers" "[I") (by decide +kernel)) rfl rfl dX4_put_14 ?_
      refine lv_iload_n hx hb dX4_put_17 rfl (lv_at hl 1 rfl) ?_
      refine lv_iload_n hx hb dX4_put_18 rfl (lv_at hl 2 rfl) ?_
      refine k_iast (pre := []) (l1 := [(h, .inr (4, [.ref n]))]) C0 hw (i := i) (kin c1 c10 hlen) dX4_put_19 (fun H locs hw => ?_)
      have hw : kW E AA sx (List.flatten [rc E h n len (upd f (Int32.toNatClampNeg i) v)]) H locs := hw
      have hw : kW E AA sx (List.flatten [rc E h n len (rPut len f i v)]) H locs := kW.arr (pre := []) (l1 := [(h, .inr (4, [.ref n]))]) hw (fun j _ => by simp [rPut, *])
      -- leaf 2
      exact k_vret C0 hr hlk hw () (rfl) (trivial) (Nat.le_of_ble_eq_true rfl) (Nat.le_of_ble_eq_true rfl) dX4_put_20

abbrev rmX4_add : Room := { frames := 0, cells := 0, slots := 0, locals := 0 }
set_option maxHeartbeats 4000000 in
set_option maxRecDepth 100000 in
theorem c_X4_add (l : Launch) (E : kE) (h : Nat) (n : Nat) (len : Nat) (f : Nat → Int32) (i : Int32) (v : Int32) (hlen : len < 2147483648) : kC E l yX4_add wsX4_add rmX4_add [.ref h, .int i, .int v] (rc E h n len f) kV (fun (_ : Unit) (_ : Unit) => True) (fun _ => rc E h n len (rAdd len f i v)) 0 0 := by
  refine k_body (cc := cX4_add) (maxL := 3) (ret := none) (by decide) rfl (Nat.le_of_ble_eq_true rfl) ?_
  intro pp ee sx mm aa bb me cd H locs AA ls C0 hr hlk hnm hl hw
  obtain ⟨hx, hb, hml, hown, hts⟩ := id C0
  have hl : lv_has ls 3 [(0, .ref h), (1, .int i), (2, .int v)] := hl
  have hw : kW E AA sx (List.flatten [rc E h n len f]) H locs := hw
  have hinX4 : ∀ w ∈ u_ws RX4 TX4 1, w ∈ wsX4_add := by decide +kernel
  refine lv_iload_n hx hb dX4_add_0 rfl (lv_at hl 1 rfl) ?_
  refine lv_if_lt (tgt := 23) hx hb dX4_add_1 (by decide) (fun c1 => ?_) (fun c1 => ?_)
  · have hw : kW E AA sx (List.flatten [rc E h n len (rAdd len f i v)]) H locs := kW.arr (pre := []) (l1 := [(h, .inr (4, [.ref n]))]) hw (fun j _ => by simp [rAdd, *])
    -- leaf 0
    exact k_vret C0 hr hlk hw () (rfl) (trivial) (Nat.le_of_ble_eq_true rfl) (Nat.le_of_ble_eq_true rfl) dX4_add_23
  · refine lv_iload_n hx hb dX4_add_4 rfl (lv_at hl 1 rfl) ?_
    refine lv_aload_n hx hb dX4_add_5 rfl (lv_at hl 0 rfl) ?_
    refine k_get (pre := []) C0 hw hinX4 rfl 0 (by decide) (hts (.fieldLink RX4 7 "SlabDunes$Row" "numbers" "[I") (by decide +kernel)) rfl rfl dX4_add_6 ?_
    refine k_alen (pre := []) (l1 := [(h, .inr (4, [.ref n]))]) C0 hw dX4_add_9 ?_
    refine lv_icmp_ge (tgt := 23) hx hb dX4_add_10 (by decide) (fun c10 => ?_) (fun c10 => ?_)
    · have hw : kW E AA sx (List.flatten [rc E h n len (rAdd len f i v)]) H locs := kW.arr (pre := []) (l1 := [(h, .inr (4, [.ref n]))]) hw (fun j _ => by simp [rAdd, *])
      -- leaf 1
      exact k_vret C0 hr hlk hw () (rfl) (trivial) (Nat.le_of_ble_eq_true rfl) (Nat.le_of_ble_eq_true rfl) dX4_add_23
    · refine lv_aload_n hx hb dX4_add_13 rfl (lv_at hl 0 rfl) ?_
      refine k_get (pre := []) C0 hw hinX4 rfl 0 (by decide) (hts (.fieldLink RX4 7 "SlabDunes$Row" "numbers" "[I") (by decide +kernel)) rfl rfl dX4_add_14 ?_
      refine lv_iload_n hx hb dX4_add_17 rfl (lv_at hl 1 rfl) ?_
      refine lv_dup2_11 hx hb dX4_add_18 rfl rfl ?_
      refine k_iald (pre := []) (l1 := [(h, .inr (4, [.ref n]))]) C0 hw (i := i) (kin c1 c10 hlen) dX4_add_19 ?_
      refine lv_iload_n hx hb dX4_add_20 rfl (lv_at hl 2 rfl) ?_
      refine lv_iadd hx hb dX4_add_21 ?_
      refine k_iast (pre := []) (l1 := [(h, .inr (4, [.ref n]))]) C0 hw (i := i) (kin c1 c10 hlen) dX4_add_22 (fun H locs hw => ?_)
      have hw : kW E AA sx (List.flatten [rc E h n len (upd f (Int32.toNatClampNeg i) ((f (Int32.toNatClampNeg i)) + v))]) H locs := hw
      have hw : kW E AA sx (List.flatten [rc E h n len (rAdd len f i v)]) H locs := kW.arr (pre := []) (l1 := [(h, .inr (4, [.ref n]))]) hw (fun j _ => by simp [rAdd, *])
      -- leaf 2
      exact k_vret C0 hr hlk hw () (rfl) (trivial) (Nat.le_of_ble_eq_true rfl) (Nat.le_of_ble_eq_true rfl) dX4_add_23

theorem c_X4_putN (l : Launch) (E : kE) (h n len : Nat) (f : Nat → Int32) (c : Nat) (v : Int32) (hc : c < len) (hlen : len < 2147483648) : kC E l yX4_put wsX4_put rmX4_put [.ref h, .int (nI c), .int v] (rc E h n len f) kV (fun (_ : Unit) (_ : Unit) => True) (fun _ => rc E h n len (upd f c v)) 0 0 := by
  have k := c_X4_put l E h n len f (nI c) v hlen
  rw [rPut_nI hc hlen] at k
  exact k
theorem c_X4_addN (l : Launch) (E : kE) (h n len : Nat) (f : Nat → Int32) (c : Nat) (v : Int32) (hc : c < len) (hlen : len < 2147483648) : kC E l yX4_add wsX4_add rmX4_add [.ref h, .int (nI c), .int v] (rc E h n len f) kV (fun (_ : Unit) (_ : Unit) => True) (fun _ => rc E h n len (upd f c (f c + v))) 0 0 := by
  have k := c_X4_add l E h n len f (nI c) v hlen
  rw [rAdd_nI hc hlen] at k
  exact k
abbrev rmX4_fill : Room := { frames := 0, cells := 0, slots := 0, locals := 0 }
set_option maxHeartbeats 4000000 in
set_option maxRecDepth 100000 in
theorem c_X4_fill (l : Launch) (E : kE) (h : Nat) (n : Nat) (len : Nat) (f : Nat → Int32) (v : Int32) (hlen : len < 2147483648) : kC E l yX4_fill wsX4_fill rmX4_fill [.ref h, .int v] (rc E h n len f) kV (fun (_ : Unit) (_ : Unit) => True) (fun _ => rc E h n len (fun _ => v)) 0 0 := by
  refine k_body (cc := cX4_fill) (maxL := 3) (ret := none) (by decide) rfl (Nat.le_of_ble_eq_true rfl) ?_
  intro pp ee sx mm aa bb me cd H locs AA ls C0 hr hlk hnm hl hw
  obtain ⟨hx, hb, hml, hown, hts⟩ := id C0
  have hl : lv_has ls 3 [(0, .ref h), (1, .int v)] := hl
  have hw : kW E AA sx (List.flatten [rc E h n len f]) H locs := hw
  have hinX4 : ∀ w ∈ u_ws RX4 TX4 1, w ∈ wsX4_fill := by decide +kernel
  refine lv_iconst (v := 0) hx hb dX4_fill_0 (by decide) ?_
  refine lv_istore_n (lv' := [(2, .int 0), (0, .ref h), (1, .int v)]) hx hb dX4_fill_1 rfl hl (by decide) rfl (fun ls hl => ?_)
  have loop2 : ∀ (nn : Nat) (i : Nat) (g : Nat → Int32), (i ≤ len) → (∀ j, j < i → g j = v) → len - i < nn → ∀ (H : Heap) (locs : List Loc) (ls : Array Slot), lv_has ls 3 [(2, .int (nI i)), (0, .ref h), (1, .int v)] → kW E AA sx (List.flatten [rc E h n len g]) H locs → W pp l ee rmX4_fill sx mm aa bb me cd H locs 0 0 (kEnd E kV (fun (_ : Unit) (_ : Unit) => True) (fun _ => rc E h n len (fun _ => v)) bb aa sx AA 0 0) (F0 mm 2 ls []) := by
    intro nn
    induction nn with
    | zero => intro i g hi hg hm2; exact absurd hm2 (Nat.not_lt_zero _)
    | succ nn ih2 =>
      intro i g hi hg hm2 H locs ls hl hw
      refine lv_iload_n hx hb dX4_fill_2 rfl (lv_at hl 0 rfl) ?_
      refine lv_aload_n hx hb dX4_fill_3 rfl (lv_at hl 1 rfl) ?_
      refine k_get (pre := []) C0 hw hinX4 rfl 0 (by decide) (hts (.fieldLink RX4 7 "SlabDunes$Row" "numbers" "[I") (by decide +kernel)) rfl rfl dX4_fill_4 ?_
      refine k_alen (pre := []) (l1 := [(h, .inr (4, [.ref n]))]) C0 hw dX4_fill_7 ?_
      refine lv_icmp_ge (tgt := 24) hx hb dX4_fill_8 (by decide) (fun c8 => ?_) (fun c8 => ?_)
      · have c8 : len ≤ i := (nI_leI (a := len) (b := i) (by omega) (by omega)).mp c8
        have hw : kW E AA sx (List.flatten [rc E h n len (fun _ => v)]) H locs := kW.arr (pre := []) (l1 := [(h, .inr (4, [.ref n]))]) hw (fun j hj => hg j (by omega))
        -- leaf 0
        exact k_vret C0 hr hlk hw () (rfl) (trivial) (Nat.le_of_ble_eq_true rfl) (Nat.le_of_ble_eq_true rfl) dX4_fill_24
      · have c8 : ¬ len ≤ i := fun h99 => c8 ((nI_leI (a := len) (b := i) (by omega) (by omega)).mpr h99)
        refine lv_aload_n hx hb dX4_fill_11 rfl (lv_at hl 1 rfl) ?_
        refine k_get (pre := []) C0 hw hinX4 rfl 0 (by decide) (hts (.fieldLink RX4 7 "SlabDunes$Row" "numbers" "[I") (by decide +kernel)) rfl rfl dX4_fill_12 ?_
        refine lv_iload_n hx hb dX4_fill_15 rfl (lv_at hl 0 rfl) ?_
        refine lv_iload_n hx hb dX4_fill_16 rfl (lv_at hl 2 rfl) ?_
        refine k_iast (pre := []) (l1 := [(h, .inr (4, [.ref n]))]) C0 hw (i := nI i) (kinN (by omega) hlen) dX4_fill_17 (fun H locs hw => ?_)
        have hw : kW E AA sx (List.flatten [rc E h n len (upd g (Int32.toNatClampNeg (nI i)) v)]) H locs := hw
        refine lv_iinc (v := nI (i + 1)) (lv' := [(2, .int (nI (i + 1))), (0, .ref h), (1, .int v)]) hx hb dX4_fill_18 hl (k := 0) rfl (nI_1 _) (by decide) rfl (fun ls hl => ?_)
        refine lv_goto (tgt := 2) hx hb dX4_fill_21 (by decide) ?_
        -- back 0
        exact ih2 (i + 1) (upd g (Int32.toNatClampNeg (nI i)) v) (by first | assumption | omega) (kfill_step hg (by omega)) (by omega) H _ ls (lv_sub hl [0, 1, 2] rfl) hw
  exact loop2 ((len - 0) + 1) 0 f (Nat.zero_le _) (fun j hj => absurd hj (Nat.not_lt_zero _)) (Nat.lt_succ_self _) H _ ls (lv_sub hl [0, 1, 2] rfl) hw

abbrev rmX4_copyFrom : Room := { frames := 1, cells := 0, slots := 0, locals := 21 }
set_option maxHeartbeats 4000000 in
set_option maxRecDepth 100000 in
theorem c_X4_copyFrom (l : Launch) (E : kE) (h : Nat) (n : Nat) (len : Nat) (f : Nat → Int32) (h2 : Nat) (n2 : Nat) (f2 : Nat → Int32) (hlen : len < 2147483648) : kC E l yX4_copyFrom wsX4_copyFrom rmX4_copyFrom [.ref h, .ref h2] (List.flatten [rc E h n len f, rc E h2 n2 len f2]) kV (fun (_ : Unit) (_ : Unit) => True) (fun _ => List.flatten [rc E h n len f2, rc E h2 n2 len f2]) 0 0 := by
  refine k_body (cc := cX4_copyFrom) (maxL := 3) (ret := none) (by decide) rfl (Nat.le_of_ble_eq_true rfl) ?_
  intro pp ee sx mm aa bb me cd H locs AA ls C0 hr hlk hnm hl hw
  obtain ⟨hx, hb, hml, hown, hts⟩ := id C0
  have hl : lv_has ls 3 [(0, .ref h), (1, .ref h2)] := hl
  have hw : kW E AA sx (List.flatten [rc E h n len f, rc E h2 n2 len f2]) H locs := hw
  have hinX4 : ∀ w ∈ u_ws RX4 TX4 1, w ∈ wsX4_copyFrom := by decide +kernel
  refine lv_iconst (v := 0) hx hb dX4_copyFrom_0 (by decide) ?_
  refine lv_istore_n (lv' := [(2, .int 0), (0, .ref h), (1, .ref h2)]) hx hb dX4_copyFrom_1 rfl hl (by decide) rfl (fun ls hl => ?_)
  have loop2 : ∀ (nn : Nat) (i : Nat) (g : Nat → Int32), (i ≤ len) → (∀ j, j < i → g j = f2 j) → len - i < nn → ∀ (H : Heap) (locs : List Loc) (ls : Array Slot), lv_has ls 3 [(2, .int (nI i)), (0, .ref h), (1, .ref h2)] → kW E AA sx (List.flatten [rc E h n len g, rc E h2 n2 len f2]) H locs → W pp l ee rmX4_copyFrom sx mm aa bb me cd H locs 0 0 (kEnd E kV (fun (_ : Unit) (_ : Unit) => True) (fun _ => List.flatten [rc E h n len f2, rc E h2 n2 len f2]) bb aa sx AA 0 0) (F0 mm 2 ls []) := by
    intro nn
    induction nn with
    | zero => intro i g hi hg hm2; exact absurd hm2 (Nat.not_lt_zero _)
    | succ nn ih2 =>
      intro i g hi hg hm2 H locs ls hl hw
      refine lv_iload_n hx hb dX4_copyFrom_2 rfl (lv_at hl 0 rfl) ?_
      refine lv_aload_n hx hb dX4_copyFrom_3 rfl (lv_at hl 1 rfl) ?_
      refine k_get (pre := []) C0 hw hinX4 rfl 0 (by decide) (hts (.fieldLink RX4 7 "SlabDunes$Row" "numbers" "[I") (by decide +kernel)) rfl rfl dX4_copyFrom_4 ?_
      refine k_alen (pre := []) (l1 := [(h, .inr (4, [.ref n]))]) C0 hw dX4_copyFrom_7 ?_
      refine lv_icmp_ge (tgt := 28) hx hb dX4_copyFrom_8 (by decide) (fun c8 => ?_) (fun c8 => ?_)
      · have c8 : len ≤ i := (nI_leI (a := len) (b := i) (by omega) (by omega)).mp c8
        have hw : kW E AA sx (List.flatten [rc E h n len f2, rc E h2 n2 len f2]) H locs := kW.arr (pre := []) (l1 := [(h, .inr (4, [.ref n]))]) hw (fun j hj => hg j (by omega))
        -- leaf 0
        exact k_vret C0 hr hlk hw () (rfl) (trivial) (Nat.le_of_ble_eq_true rfl) (Nat.le_of_ble_eq_true rfl) dX4_copyFrom_28
      · have c8 : ¬ len ≤ i := fun h99 => c8 ((nI_leI (a := len) (b := i) (by omega) (by omega)).mpr h99)
        refine lv_aload_n hx hb dX4_copyFrom_11 rfl (lv_at hl 1 rfl) ?_
        refine k_get (pre := []) C0 hw hinX4 rfl 0 (by decide) (hts (.fieldLink RX4 7 "SlabDunes$Row" "numbers" "[I") (by decide +kernel)) rfl rfl dX4_copyFrom_12 ?_
        refine lv_iload_n hx hb dX4_copyFrom_15 rfl (lv_at hl 0 rfl) ?_
        refine lv_aload_n hx hb dX4_copyFrom_16 rfl (lv_at hl 2 rfl) ?_
        refine lv_iload_n hx hb dX4_copyFrom_17 rfl (lv_at hl 0 rfl) ?_
        refine k_V (As := [.int (nI i)]) (rest := [.int (nI i), .ref n]) (pre := [rc E h n len g]) (mid := [rc E h2 n2 len f2]) C0 (c_X4_atN l E h2 n2 len f2 i (by first | assumption | omega) (by first | assumption | omega)) (cwV 1 hts gX4_copyFrom_X4_at rfl rfl rfl (by decide +kernel) ⟨Nat.le_of_ble_eq_true rfl, Nat.le_of_ble_eq_true rfl⟩) hw rfl (fun _ => [rc E h2 n2 len f2]) (fun _ => rfl) 0 4 rfl rfl rfl rfl hl.1 rfl (Nat.le_of_ble_eq_true rfl) dX4_copyFrom_18 ⟨Nat.le_of_ble_eq_true rfl, Nat.le_of_ble_eq_true rfl⟩ (fun r u H locs hq99 hw => ?_)
        subst hq99
        have hw : kW E AA sx (List.flatten [rc E h n len g, rc E h2 n2 len f2]) H locs := hw
        refine W.eq (g2 := F0 mm 21 ls [.int (f2 i), .int (nI i), .ref n]) rfl ?_
        refine k_iast (pre := []) (l1 := [(h, .inr (4, [.ref n]))]) C0 hw (i := nI i) (kinN (by omega) hlen) dX4_copyFrom_21 (fun H locs hw => ?_)
        have hw : kW E AA sx (List.flatten [rc E h n len (upd g (Int32.toNatClampNeg (nI i)) (f2 i)), rc E h2 n2 len f2]) H locs := hw
        refine lv_iinc (v := nI (i + 1)) (lv' := [(2, .int (nI (i + 1))), (0, .ref h), (1, .ref h2)]) hx hb dX4_copyFrom_22 hl (k := 0) rfl (nI_1 _) (by decide) rfl (fun ls hl => ?_)
        refine lv_goto (tgt := 2) hx hb dX4_copyFrom_25 (by decide) ?_
        -- back 0
        exact ih2 (i + 1) (upd g (Int32.toNatClampNeg (nI i)) (f2 i)) (by first | assumption | omega) (kcopy_step hg (by omega)) (by omega) H _ ls (lv_sub hl [0, 1, 2] rfl) hw
  exact loop2 ((len - 0) + 1) 0 f (Nat.zero_le _) (fun j hj => absurd hj (Nat.not_lt_zero _)) (Nat.lt_succ_self _) H _ ls (lv_sub hl [0, 1, 2] rfl) hw
