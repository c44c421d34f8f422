/-! THE LAW: its body -/
set_option maxHeartbeats 4000000 in
set_option maxRecDepth 100000 in
theorem law_tail {pp : Program} {ee : Env} {sx : State} {mm : MethodId} {bb : List Frame} {me : Method} {cd : Code} {AA : Nat → Prop} {Q9 : State → Prop} (l : Launch) (hfl : l.stackTraces = false) (E : kE) (L sb : Nat) (xs : Nat → Int32) (X Y : xT) (F : fT) (J K : jT) (B N : Nat) (hF8 : fOK B N F) (hBl : B < 900000) (hNl : N < 10000000) (hJ : hOK (F, J)) (hK : hOK (F, K)) (C0 : CallFix pp mm cd cL_law 9 sx #[Value.ref sb] wsL_law RL) (hX : va_X sb L xs sx sx.heap) (hbl : sb < sx.heap.size) (hbA : ¬ AA sb) (hZ : kZ AA sx) (hL : L ≤ 260) (hend : ∀ (cc ss : Nat) (H : Heap) (locs : List Loc) (ls : Array Slot), cc ≤ 600130 → ss ≤ 7301080 → va_S AA sx.heap H locs → ls.size = 9 → W pp l ee room_1 sx mm #[Value.ref sb] bb me cd H locs cc ss Q9 (F0 mm 321 ls [.int 1])) {ls : Array Slot} {H : Heap} {locs : List Loc}  (hl : lv_has ls 9 [(5, .int 1), (2, .ref Y.1.1), (1, .ref X.1.1), (0, .ref sb)]) (hw : kW E AA sx (List.flatten [ob E X (F, J), ob E Y (F, K)]) H locs) : W pp l ee room_1 sx mm #[Value.ref sb] bb me cd H locs 300 30000 Q9 (F0 mm 148 ls []) := by
  obtain ⟨hx, hb, hml, hown, hts⟩ := id C0
  obtain ⟨hG, hd, hn0, ⟨hp, hp1, hp8, hst0⟩, hsl, hHe, hFn, hCt, hLa⟩ := id hF8
  have hn9 := kG_n hG
  have hG3 := hG.2.2.1
  obtain ⟨t8, ht8, ht8l⟩ : ∃ z, z = upN (scN L xs 25) 8 ∧ z < 8 := ⟨_, rfl, upN_lt (by omega)⟩
  obtain ⟨t2, ht2, ht2l⟩ : ∃ z, z = upN (scN L xs 26) 200 ∧ z < 200 := ⟨_, rfl, upN_lt (by omega)⟩
  refine lv_iload hx hb dL_law_148 (lv_at hl 0 rfl) ?_
  refine lv_if_eq (tgt := 177) hx hb dL_law_150 (by decide) (fun c150 => absurd c150 (by decide)) (fun c150 => ?_)
  refine lv_aload_n hx hb dL_law_153 rfl (lv_at hl 2 rfl) ?_
  refine lv_iconst (v := 1) hx hb dL_law_154 (by decide) ?_
  refine lv_aload_n hx hb dL_law_155 rfl (lv_at hl 3 rfl) ?_
  refine lv_bipush (v := 25) hx hb dL_law_156 (by decide) ?_
  refine k_cell (chs := [ob E X (F, J), ob E Y (F, K)]) (k := 25) (L := L) (xs := xs) (by omega) (by omega) hX hbl hbA C0 (va_cwS 2 hts gL_law_L_cell rfl rfl rfl (by decide +kernel) ⟨Nat.le_of_ble_eq_true rfl, Nat.le_of_ble_eq_true rfl⟩) hw rfl hl.1 rfl (rest := [.int 1, .ref X.1.1]) (Nat.le_of_ble_eq_true rfl) dL_law_158 ⟨Nat.le_of_ble_eq_true rfl, Nat.le_of_ble_eq_true rfl⟩ (fun H locs hw => ?_)
  refine W.eq (g2 := F0 mm 161 ls [.int (scN L xs 25), .int 1, .ref X.1.1]) rfl ?_
  refine lv_bipush (v := 8) hx hb dL_law_161 (by decide) ?_
  refine k_S (As := [.int (scN L xs 25), .int 8]) (rest := [.int 1, .ref X.1.1]) (pre := []) (mid := []) C0 (c_L_up l E (scN L xs 25) 8 (by first | assumption | omega) (by first | assumption | omega)) (va_cwS 2 hts gL_law_L_up rfl rfl rfl (by decide +kernel) ⟨Nat.le_of_ble_eq_true rfl, Nat.le_of_ble_eq_true rfl⟩) hw rfl (fun _ => []) (fun _ => rfl) rfl hl.1 rfl (Nat.le_of_ble_eq_true rfl) dL_law_163 ⟨Nat.le_of_ble_eq_true rfl, Nat.le_of_ble_eq_true rfl⟩ (fun r u H locs hq99 hw => ?_)
  subst hq99
  have hw : kW E AA sx (List.flatten [ob E X (F, J), ob E Y (F, K)]) H locs := hw
  refine W.eq (g2 := F0 mm 166 ls [.int (nI (upN (scN L xs 25) 8)), .int 1, .ref X.1.1]) rfl ?_
  refine W.eq (g2 := F0 mm 166 ls [.int (nI t8), .int 1, .ref X.1.1]) (congrArg (fun z9 => F0 mm 166 ls [.int z9, .int 1, .ref X.1.1]) (show (nI (upN (scN L xs 25) 8) : Int32) = nI t8 from by rw [ht8])) ?_
  refine lv_iadd hx hb dL_law_166 ?_
  refine W.eq (g2 := F0 mm 167 ls [.int (nI (1 + t8)), .ref X.1.1]) (congrArg (fun z9 => F0 mm 167 ls [.int z9, .ref X.1.1]) (show (1 + (nI t8) : Int32) = nI (1 + t8) from nI_add 1 _)) ?_
  refine k_SF (As := [.ref X.1.1, .int (nI (1 + t8))]) (rest := []) (pre := []) (mid := [ob E X (F, J)]) C0 (c_L_isSound l hfl E X F J (1 + t8) B N (by first | assumption | omega) (by first | assumption | omega) (by first | assumption | omega) (by first | assumption | omega) (by first | assumption | omega)) (va_cwS 2 hts gL_law_L_isSound rfl rfl rfl (by decide +kernel) ⟨Nat.le_of_ble_eq_true rfl, Nat.le_of_ble_eq_true rfl⟩) hw rfl hZ (fun (u167 : oT) => [ob E X u167]) (fun _ => rfl) rfl hl.1 rfl (Nat.le_of_ble_eq_true rfl) dL_law_167 ⟨Nat.le_of_ble_eq_true rfl, Nat.le_of_ble_eq_true rfl⟩ (fun r u167 H locs hq99 hw => ?_)
  obtain ⟨r167, rfl⟩ : ∃ z, z = r := ⟨_, rfl⟩
  have h167 : r167 = 1 ∧ u167.1 = F ∧ u167.2.2.2 = J.2.2 := hq99
  obtain ⟨z9, u167⟩ := u167
  have e9 : F = z9 := h167.2.1.symm
  subst e9
  have hw : kW E AA sx (List.flatten [ob E X (F, u167), ob E Y (F, K)]) H locs := hw
  refine W.eq (g2 := F0 mm 170 ls [.int r167]) rfl ?_
  refine W.eq (g2 := F0 mm 170 ls [.int 1]) (congrArg (fun z9 => F0 mm 170 ls [.int z9]) (show (r167 : Int32) = 1 from h167.1)) ?_
  refine lv_if_eq (tgt := 177) hx hb dL_law_170 (by decide) (fun c170 => absurd c170 (by decide)) (fun c170 => ?_)
  refine lv_iconst (v := 1) hx hb dL_law_173 (by decide) ?_
  refine lv_goto (tgt := 178) hx hb dL_law_174 (by decide) ?_
  refine lv_istore (lv' := [(5, .int 1), (2, .ref Y.1.1), (1, .ref X.1.1), (0, .ref sb)]) hx hb dL_law_178 hl (by decide) rfl (fun ls hl => ?_)
  refine lv_aload_n hx hb dL_law_180 rfl (lv_at hl 3 rfl) ?_
  refine lv_bipush (v := 26) hx hb dL_law_181 (by decide) ?_
  refine k_cell (chs := [ob E X (F, u167), ob E Y (F, K)]) (k := 26) (L := L) (xs := xs) (by omega) (by omega) hX hbl hbA C0 (va_cwS 2 hts gL_law_L_cell rfl rfl rfl (by decide +kernel) ⟨Nat.le_of_ble_eq_true rfl, Nat.le_of_ble_eq_true rfl⟩) hw rfl hl.1 rfl (rest := []) (Nat.le_of_ble_eq_true rfl) dL_law_183 ⟨Nat.le_of_ble_eq_true rfl, Nat.le_of_ble_eq_true rfl⟩ (fun H locs hw => ?_)
  refine W.eq (g2 := F0 mm 186 ls [.int (scN L xs 26)]) rfl ?_
  refine lv_sipush (v := 200) hx hb dL_law_186 (by decide) ?_
  refine k_S (As := [.int (scN L xs 26), .int 200]) (rest := []) (pre := []) (mid := []) C0 (c_L_up l E (scN L xs 26) 200 (by first | assumption | omega) (by first | assumption | omega)) (va_cwS 2 hts gL_law_L_up rfl rfl rfl (by decide +kernel) ⟨Nat.le_of_ble_eq_true rfl, Nat.le_of_ble_eq_true rfl⟩) hw rfl (fun _ => []) (fun _ => rfl) rfl hl.1 rfl (Nat.le_of_ble_eq_true rfl) dL_law_189 ⟨Nat.le_of_ble_eq_true rfl, Nat.le_of_ble_eq_true rfl⟩ (fun r u H locs hq99 hw => ?_)
  subst hq99
  have hw : kW E AA sx (List.flatten [ob E X (F, u167), ob E Y (F, K)]) H locs := hw
  refine W.eq (g2 := F0 mm 192 ls [.int (nI (upN (scN L xs 26) 200))]) rfl ?_
  refine W.eq (g2 := F0 mm 192 ls [.int (nI t2)]) (congrArg (fun z9 => F0 mm 192 ls [.int z9]) (show (nI (upN (scN L xs 26) 200) : Int32) = nI t2 from by rw [ht2])) ?_
  refine lv_istore (lv' := [(6, .int (nI t2)), (5, .int 1), (2, .ref Y.1.1), (1, .ref X.1.1), (0, .ref sb)]) hx hb dL_law_192 hl (by decide) rfl (fun ls hl => ?_)
  refine lv_iload hx hb dL_law_194 (lv_at hl 1 rfl) ?_
  refine lv_if_eq (tgt := 252) hx hb dL_law_196 (by decide) (fun c196 => absurd c196 (by decide)) (fun c196 => ?_)
  refine lv_aload_n hx hb dL_law_199 rfl (lv_at hl 3 rfl) ?_
  refine lv_iload hx hb dL_law_200 (lv_at hl 0 rfl) ?_
  refine k_VF (As := [.int (nI t2)]) (rest := []) (pre := []) (mid := [ob E X (F, u167)]) C0 (o_liveliestWind l hfl E X (F, u167) t2 hp (by first | assumption | omega) (by first | assumption | omega) (by first | assumption | omega) (by first | assumption | omega) (by first | assumption | omega)) (cwV 1 hts gL_law_X6_liveliestWind rfl rfl rfl (by decide +kernel) ⟨Nat.le_of_ble_eq_true rfl, Nat.le_of_ble_eq_true rfl⟩) hw rfl hZ (fun (u202 : oT) => [ob E X u202]) (fun _ => rfl) 0 6 rfl rfl rfl rfl hl.1 rfl (Nat.le_of_ble_eq_true rfl) dL_law_202 ⟨Nat.le_of_ble_eq_true rfl, Nat.le_of_ble_eq_true rfl⟩ (fun r u202 H locs hq99 hw => ?_)
  obtain ⟨r202, rfl⟩ : ∃ z, z = r := ⟨_, rfl⟩
  have h202 : r202 = (bfS (lwG F.1 F.2.1 hp F.2.2.2.2.2.1 F.2.2.2.2.2.2.2.2.1 F.2.2.2.2.2.2.2.2.2.1 t2 F.2.2.2.1 F.2.2.2.2.2.2.1 F.2.2.2.2.2.2.2.2.2.2.1 F.2.2.2.2.2.2.2.2.2.2.2.1 F.2.2.2.2.2.2.2.2.2.2.2.2) 4).1 ∧ u202.1 = F ∧ u202.2.2.2 = u167.2.2 := hq99
  obtain ⟨z9, u202⟩ := u202
  have e9 : F = z9 := h202.2.1.symm
  subst e9
  have hw : kW E AA sx (List.flatten [ob E X (F, u202), ob E Y (F, K)]) H locs := hw
  refine W.eq (g2 := F0 mm 205 ls [.int r202]) rfl ?_
  refine lv_aload_n hx hb dL_law_205 rfl (lv_at hl 2 rfl) ?_
  refine lv_iload hx hb dL_law_206 (lv_at hl 0 rfl) ?_
  refine k_VF (As := [.int (nI t2)]) (rest := [.int r202]) (pre := [ob E X (F, u202)]) (mid := [ob E Y (F, K)]) C0 (o_liveliestWind l hfl E Y (F, K) t2 hp (by first | assumption | omega) (by first | assumption | omega) (by first | assumption | omega) (by first | assumption | omega) (by first | assumption | omega)) (cwV 1 hts gL_law_X6_liveliestWind rfl rfl rfl (by decide +kernel) ⟨Nat.le_of_ble_eq_true rfl, Nat.le_of_ble_eq_true rfl⟩) hw rfl hZ (fun (u208 : oT) => [ob E Y u208]) (fun _ => rfl) 0 6 rfl rfl rfl rfl hl.1 rfl (Nat.le_of_ble_eq_true rfl) dL_law_208 ⟨Nat.le_of_ble_eq_true rfl, Nat.le_of_ble_eq_true rfl⟩ (fun r u208 H locs hq99 hw => ?_)
  obtain ⟨r208, rfl⟩ : ∃ z, z = r := ⟨_, rfl⟩
  have h208 : r208 = (bfS (lwG F.1 F.2.1 hp F.2.2.2.2.2.1 F.2.2.2.2.2.2.2.2.1 F.2.2.2.2.2.2.2.2.2.1 t2 F.2.2.2.1 F.2.2.2.2.2.2.1 F.2.2.2.2.2.2.2.2.2.2.1 F.2.2.2.2.2.2.2.2.2.2.2.1 F.2.2.2.2.2.2.2.2.2.2.2.2) 4).1 ∧ u208.1 = F ∧ u208.2.2.2 = K.2.2 := hq99
  obtain ⟨z9, u208⟩ := u208
  have e9 : F = z9 := h208.2.1.symm
  subst e9
  have hw : kW E AA sx (List.flatten [ob E X (F, u202), ob E Y (F, u208)]) H locs := hw
  refine W.eq (g2 := F0 mm 211 ls [.int r208, .int r202]) rfl ?_
  refine lv_icmp_ne (tgt := 252) hx hb dL_law_211 (by decide) (fun c211 => absurd c211 (fun h99 => h99 (h202.1.trans h208.1.symm))) (fun c211 => ?_)
  refine lv_aload_n hx hb dL_law_214 rfl (lv_at hl 3 rfl) ?_
  refine lv_iload hx hb dL_law_215 (lv_at hl 0 rfl) ?_
  refine lv_iconst (v := 2) hx hb dL_law_217 (by decide) ?_
  refine k_VF (As := [.int (nI t2), .int 2]) (rest := []) (pre := []) (mid := [ob E X (F, u202)]) C0 (o_dunesAfter l hfl E X (F, u202) t2 hp 2 (by first | assumption | omega) (by first | assumption | omega) (by first | assumption | omega) (by first | assumption | omega) (by first | assumption | omega) (by first | assumption | omega) (⟨by decide, by decide⟩)) (cwV 2 hts gL_law_X6_dunesAfter rfl rfl rfl (by decide +kernel) ⟨Nat.le_of_ble_eq_true rfl, Nat.le_of_ble_eq_true rfl⟩) hw rfl hZ (fun (u218 : oT) => [ob E X u218]) (fun _ => rfl) 0 6 rfl rfl rfl rfl hl.1 rfl (Nat.le_of_ble_eq_true rfl) dL_law_218 ⟨Nat.le_of_ble_eq_true rfl, Nat.le_of_ble_eq_true rfl⟩ (fun r u218 H locs hq99 hw => ?_)
  obtain ⟨r218, rfl⟩ : ∃ z, z = r := ⟨_, rfl⟩
  have h218 : r218 = nI (dnN F.1 F.2.1 (blo F.1 F.2.1 F.2.2.1 hp F.2.2.2.2.2.1 F.2.2.2.2.2.2.2.2.1 F.2.2.2.2.2.2.2.2.2.1 t2 (F.2.2.2.1, F.2.2.2.2.2.2.1, F.2.2.2.2.2.2.2.2.2.2.1, F.2.2.2.2.2.2.2.2.2.2.2.1, F.2.2.2.2.2.2.2.2.2.2.2.2)).2.2.1 2) ∧ u218.1 = F ∧ u218.2.2.2 = u202.2.2 := hq99
  obtain ⟨z9, u218⟩ := u218
  have e9 : F = z9 := h218.2.1.symm
  subst e9
  have hw : kW E AA sx (List.flatten [ob E X (F, u218), ob E Y (F, u208)]) H locs := hw
  refine W.eq (g2 := F0 mm 221 ls [.int r218]) rfl ?_
  refine lv_aload_n hx hb dL_law_221 rfl (lv_at hl 2 rfl) ?_
  refine lv_iload hx hb dL_law_222 (lv_at hl 0 rfl) ?_
  refine lv_iconst (v := 2) hx hb dL_law_224 (by decide) ?_
  refine k_VF (As := [.int (nI t2), .int 2]) (rest := [.int r218]) (pre := [ob E X (F, u218)]) (mid := [ob E Y (F, u208)]) C0 (o_dunesAfter l hfl E Y (F, u208) t2 hp 2 (by first | assumption | omega) (by first | assumption | omega) (by first | assumption | omega) (by first | assumption | omega) (by first | assumption | omega) (by first | assumption | omega) (⟨by decide, by decide⟩)) (cwV 2 hts gL_law_X6_dunesAfter rfl rfl rfl (by decide +kernel) ⟨Nat.le_of_ble_eq_true rfl, Nat.le_of_ble_eq_true rfl⟩) hw rfl hZ (fun (u225 : oT) => [ob E Y u225]) (fun _ => rfl) 0 6 rfl rfl rfl rfl hl.1 rfl (Nat.le_of_ble_eq_true rfl) dL_law_225 ⟨Nat.le_of_ble_eq_true rfl, Nat.le_of_ble_eq_true rfl⟩ (fun r u225 H locs hq99 hw => ?_)
  obtain ⟨r225, rfl⟩ : ∃ z, z = r := ⟨_, rfl⟩
  have h225 : r225 = nI (dnN F.1 F.2.1 (blo F.1 F.2.1 F.2.2.1 hp F.2.2.2.2.2.1 F.2.2.2.2.2.2.2.2.1 F.2.2.2.2.2.2.2.2.2.1 t2 (F.2.2.2.1, F.2.2.2.2.2.2.1, F.2.2.2.2.2.2.2.2.2.2.1, F.2.2.2.2.2.2.2.2.2.2.2.1, F.2.2.2.2.2.2.2.2.2.2.2.2)).2.2.1 2) ∧ u225.1 = F ∧ u225.2.2.2 = u208.2.2 := hq99
  obtain ⟨z9, u225⟩ := u225
  have e9 : F = z9 := h225.2.1.symm
  subst e9
  have hw : kW E AA sx (List.flatten [ob E X (F, u218), ob E Y (F, u225)]) H locs := hw
  refine W.eq (g2 := F0 mm 228 ls [.int r225, .int r218]) rfl ?_
  refine lv_icmp_ne (tgt := 252) hx hb dL_law_228 (by decide) (fun c228 => absurd c228 (fun h99 => h99 (h218.1.trans h225.1.symm))) (fun c228 => ?_)
  refine lv_aload_n hx hb dL_law_231 rfl (lv_at hl 3 rfl) ?_
  refine lv_iconst (v := 1) hx hb dL_law_232 (by decide) ?_
  refine lv_iload hx hb dL_law_233 (lv_at hl 0 rfl) ?_
  refine k_VF (As := [.int 1, .int (nI t2)]) (rest := []) (pre := []) (mid := [ob E X (F, u218)]) C0 (o_bestFence l hfl E X (F, u218) t2 hp 1 (Nat.lt_of_lt_of_le (by decide : 1 < 3) hG3) (by first | assumption | omega) (by first | assumption | omega) (by first | assumption | omega) (by first | assumption | omega) (by first | assumption | omega) (by first | assumption | omega)) (cwV 2 hts gL_law_X6_bestFence rfl rfl rfl (by decide +kernel) ⟨Nat.le_of_ble_eq_true rfl, Nat.le_of_ble_eq_true rfl⟩) hw rfl hZ (fun (u235 : oT) => [ob E X u235]) (fun _ => rfl) 0 6 rfl rfl rfl rfl hl.1 rfl (Nat.le_of_ble_eq_true rfl) dL_law_235 ⟨Nat.le_of_ble_eq_true rfl, Nat.le_of_ble_eq_true rfl⟩ (fun r u235 H locs hq99 hw => ?_)
  obtain ⟨r235, rfl⟩ : ∃ z, z = r := ⟨_, rfl⟩
  have h235 : r235 = (bfS (bfG F.1 F.2.1 F.2.2.1 hp F.2.2.2.2.2.1 F.2.2.2.2.2.2.2.2.1 F.2.2.2.2.2.2.2.2.2.1 t2 F.2.2.2.1 F.2.2.2.2.2.2.1 F.2.2.2.2.2.2.2.2.2.2.1 F.2.2.2.2.2.2.2.2.2.2.2.1 F.2.2.2.2.2.2.2.2.2.2.2.2 1) F.1).1 ∧ u235.1 = F ∧ u235.2.2.2 = u218.2.2 := hq99
  obtain ⟨z9, u235⟩ := u235
  have e9 : F = z9 := h235.2.1.symm
  subst e9
  have hw : kW E AA sx (List.flatten [ob E X (F, u235), ob E Y (F, u225)]) H locs := hw
  refine W.eq (g2 := F0 mm 238 ls [.int r235]) rfl ?_
  refine lv_aload_n hx hb dL_law_238 rfl (lv_at hl 2 rfl) ?_
  refine lv_iconst (v := 1) hx hb dL_law_239 (by decide) ?_
  refine lv_iload hx hb dL_law_240 (lv_at hl 0 rfl) ?_
  refine k_VF (As := [.int 1, .int (nI t2)]) (rest := [.int r235]) (pre := [ob E X (F, u235)]) (mid := [ob E Y (F, u225)]) C0 (o_bestFence l hfl E Y (F, u225) t2 hp 1 (Nat.lt_of_lt_of_le (by decide : 1 < 3) hG3) (by first | assumption | omega) (by first | assumption | omega) (by first | assumption | omega) (by first | assumption | omega) (by first | assumption | omega) (by first | assumption | omega)) (cwV 2 hts gL_law_X6_bestFence rfl rfl rfl (by decide +kernel) ⟨Nat.le_of_ble_eq_true rfl, Nat.le_of_ble_eq_true rfl⟩) hw rfl hZ (fun (u242 : oT) => [ob E Y u242]) (fun _ => rfl) 0 6 rfl rfl rfl rfl hl.1 rfl (Nat.le_of_ble_eq_true rfl) dL_law_242 ⟨Nat.le_of_ble_eq_true rfl, Nat.le_of_ble_eq_true rfl⟩ (fun r u242 H locs hq99 hw => ?_)
  obtain ⟨r242, rfl⟩ : ∃ z, z = r := ⟨_, rfl⟩
  have h242 : r242 = (bfS (bfG F.1 F.2.1 F.2.2.1 hp F.2.2.2.2.2.1 F.2.2.2.2.2.2.2.2.1 F.2.2.2.2.2.2.2.2.2.1 t2 F.2.2.2.1 F.2.2.2.2.2.2.1 F.2.2.2.2.2.2.2.2.2.2.1 F.2.2.2.2.2.2.2.2.2.2.2.1 F.2.2.2.2.2.2.2.2.2.2.2.2 1) F.1).1 ∧ u242.1 = F ∧ u242.2.2.2 = u225.2.2 := hq99
  obtain ⟨z9, u242⟩ := u242
  have e9 : F = z9 := h242.2.1.symm
  subst e9
  have hw : kW E AA sx (List.flatten [ob E X (F, u235), ob E Y (F, u242)]) H locs := hw
  refine W.eq (g2 := F0 mm 245 ls [.int r242, .int r235]) rfl ?_
  refine lv_icmp_ne (tgt := 252) hx hb dL_law_245 (by decide) (fun c245 => absurd c245 (fun h99 => h99 (h235.1.trans h242.1.symm))) (fun c245 => ?_)
  refine lv_iconst (v := 1) hx hb dL_law_248 (by decide) ?_
  refine lv_goto (tgt := 253) hx hb dL_law_249 (by decide) ?_
  refine lv_istore (lv' := [(5, .int 1), (6, .int (nI t2)), (2, .ref Y.1.1), (1, .ref X.1.1), (0, .ref sb)]) hx hb dL_law_253 hl (by decide) rfl (fun ls hl => ?_)
  have hJ9 : (F, u235).2.2.2 = J.2.2 := h235.2.2.trans (h218.2.2.trans (h202.2.2.trans h167.2.2))
  have hk9 : u235.2.2.2.1 = J.2.2.2.1 := congrArg (fun z : Nat × (Nat × (Nat → cT)) => z.2.1) hJ9
  have hk8 : u235.2.2.2.1 ≤ 4 := by rw [hk9]; exact hJ.2
  refine lv_aload_n hx hb dL_law_255 rfl (lv_at hl 3 rfl) ?_
  refine k_VF (As := []) (rest := []) (pre := []) (mid := [ob E X (F, u235)]) C0 (o_digest l hfl E X (F, u235) (by first | assumption | omega) (by first | assumption | omega) (hk8)) (cwV 0 hts gL_law_X6_digest rfl rfl rfl (by decide +kernel) ⟨Nat.le_of_ble_eq_true rfl, Nat.le_of_ble_eq_true rfl⟩) hw rfl hZ (fun (u256 : oT) => [ob E X u256]) (fun _ => rfl) 0 6 rfl rfl rfl rfl hl.1 rfl (Nat.le_of_ble_eq_true rfl) dL_law_256 ⟨Nat.le_of_ble_eq_true rfl, Nat.le_of_ble_eq_true rfl⟩ (fun r u256 H locs hq99 hw => ?_)
  obtain ⟨r256, rfl⟩ : ∃ z, z = r := ⟨_, rfl⟩
  have h256 : r256 = digF F.1 F.2.1 F.2.2.1 (nI F.2.2.2.1) F.2.2.2.2.1 F.2.2.2.2.2.1 F.2.2.2.2.2.2.1 F.2.2.2.2.2.2.2.1 F.2.2.2.2.2.2.2.2.1 F.2.2.2.2.2.2.2.2.2.1 F.2.2.2.2.2.2.2.2.2.2.1 F.2.2.2.2.2.2.2.2.2.2.2.1 F.2.2.2.2.2.2.2.2.2.2.2.2 0 u235.2.2.2.1 ∧ u256.1 = F ∧ u256.2.2.2 = u235.2.2 := hq99
  obtain ⟨z9, u256⟩ := u256
  have e9 : F = z9 := h256.2.1.symm
  subst e9
  have hw : kW E AA sx (List.flatten [ob E X (F, u256), ob E Y (F, u242)]) H locs := hw
  refine W.eq (g2 := F0 mm 259 ls [.long r256]) rfl ?_
  refine lv_lstore (lv' := [(7, .long r256), (5, .int 1), (6, .int (nI t2)), (2, .ref Y.1.1), (1, .ref X.1.1), (0, .ref sb)]) hx hb dL_law_259 hl (by decide) rfl (fun ls hl => ?_)
  refine lv_iload hx hb dL_law_261 (lv_at hl 1 rfl) ?_
  refine lv_if_eq (tgt := 286) hx hb dL_law_263 (by decide) (fun c263 => absurd c263 (by decide)) (fun c263 => ?_)
  have hJa : (F, u256).2.2.2 = J.2.2 := h256.2.2.trans hJ9
  have hJb : hOK (F, u256) := ⟨Nat.lt_of_le_of_lt (Nat.le_of_eq (congrArg (fun z : Nat × (Nat × (Nat → cT)) => z.1) hJa)) hJ.1, Nat.le_trans (Nat.le_of_eq (congrArg (fun z : Nat × (Nat × (Nat → cT)) => z.2.1) hJa)) hJ.2⟩
  have hR := fs_rn (hp := hp) (m := t2) hF8 (by omega) (by omega) hst0
  have hrb : (rb F hp t2).1 < 2147483648 := Nat.lt_of_le_of_lt hR.2.1 (by omega)
  have hud : udK u256.2.2.2.1 < 2147483648 := Nat.lt_trans (ud_3 hJb.2) (by decide)
  have hk5 : u256.2.2.2.1 = u235.2.2.2.1 := congrArg (fun z : Nat × (Nat × (Nat → cT)) => z.2.1) h256.2.2
  refine lv_aload_n hx hb dL_law_266 rfl (lv_at hl 4 rfl) ?_
  refine lv_iload hx hb dL_law_267 (lv_at hl 2 rfl) ?_
  refine k_VF (As := [.int (nI t2)]) (rest := []) (pre := []) (mid := [ob E X (F, u256)]) C0 (p_run l hfl E X (F, u256) t2 hp (by first | assumption | omega) (by first | assumption | omega) (by first | assumption | omega) (by first | assumption | omega) (by first | assumption | omega) (by first | assumption | omega) (hJb)) (cwV 1 hts gL_law_X6_run rfl rfl rfl (by decide +kernel) ⟨Nat.le_of_ble_eq_true rfl, Nat.le_of_ble_eq_true rfl⟩) hw rfl hZ (fun (u269 : oT) => [ob E X u269]) (fun _ => rfl) 0 6 rfl rfl rfl rfl hl.1 rfl (Nat.le_of_ble_eq_true rfl) dL_law_269 ⟨Nat.le_of_ble_eq_true rfl, Nat.le_of_ble_eq_true rfl⟩ (fun r u269 H locs hq99 hw => ?_)
  obtain ⟨r269, rfl⟩ : ∃ z, z = r := ⟨_, rfl⟩
  have h269 : r269 = nI (rb F hp t2).1 ∧ u269 = (rF F hp t2, (u256.1, (u256.2.1, svJ (F, u256)))) := hq99
  have hw : kW E AA sx (List.flatten [ob E X u269, ob E Y (F, u242)]) H locs := hw
  refine W.eq (g2 := F0 mm 272 ls [.int r269]) rfl ?_
  refine lv_if_lt (tgt := 286) hx hb dL_law_272 (by decide) (fun c272 => absurd c272 (by rw [h269.1]; exact nI_pos hrb)) (fun c272 => ?_)
  refine lv_aload_n hx hb dL_law_275 rfl (lv_at hl 4 rfl) ?_
  refine k_VF (As := []) (rest := []) (pre := []) (mid := [ob E X u269]) C0 (o_undo l hfl E X u269 (udK u256.2.2.2.1) F (by rw [h269.2]; exact ud_1 _) (by rw [h269.2]; exact svO_lt hJb.1) (ud_3 hJb.2) (by rw [h269.2]; exact ud_4 hJb.1 hJb.2)) (cwV 0 hts gL_law_X6_undo rfl rfl rfl (by decide +kernel) ⟨Nat.le_of_ble_eq_true rfl, Nat.le_of_ble_eq_true rfl⟩) hw rfl hZ (fun (u276 : oT) => [ob E X u276]) (fun _ => rfl) 0 6 rfl rfl rfl rfl hl.1 rfl (Nat.le_of_ble_eq_true rfl) dL_law_276 ⟨Nat.le_of_ble_eq_true rfl, Nat.le_of_ble_eq_true rfl⟩ (fun r u276 H locs hq99 hw => ?_)
  obtain ⟨r276, rfl⟩ : ∃ z, z = r := ⟨_, rfl⟩
  have h276 : r276 = nI (udK u256.2.2.2.1) ∧ u276 = (F, (u269.2.1, (u269.2.2.1, (u269.2.2.2.1, ((udK u256.2.2.2.1), u269.2.2.2.2.2))))) := hq99
  have hw : kW E AA sx (List.flatten [ob E X u276, ob E Y (F, u242)]) H locs := hw
  refine W.eq (g2 := F0 mm 279 ls [.int r276]) rfl ?_
  refine lv_if_lt (tgt := 286) hx hb dL_law_279 (by decide) (fun c279 => absurd c279 (by rw [h276.1]; exact nI_pos hud)) (fun c279 => ?_)
  obtain ⟨K9, hK9⟩ : ∃ z : jT, z = (u269.2.1, (u269.2.2.1, (u269.2.2.2.1, (udK u256.2.2.2.1, u269.2.2.2.2.2)))) := ⟨_, rfl⟩
  have hk7 : K9.2.2.2.1 = udK u256.2.2.2.1 := by rw [hK9]
  have hu9 : u276 = (F, K9) := by rw [hK9]; exact h276.2
  subst hu9
  have hw : kW E AA sx (List.flatten [ob E X (F, K9), ob E Y (F, u242)]) H locs := hw
  refine lv_iconst (v := 1) hx hb dL_law_282 (by decide) ?_
  refine lv_goto (tgt := 287) hx hb dL_law_283 (by decide) ?_
  refine lv_istore (lv' := [(5, .int 1), (7, .long r256), (6, .int (nI t2)), (2, .ref Y.1.1), (1, .ref X.1.1), (0, .ref sb)]) hx hb dL_law_287 hl (by decide) rfl (fun ls hl => ?_)
  refine lv_iload hx hb dL_law_289 (lv_at hl 0 rfl) ?_
  refine lv_if_eq (tgt := 320) hx hb dL_law_291 (by decide) (fun c291 => absurd c291 (by decide)) (fun c291 => ?_)
  have hk4 : K9.2.2.2.1 ≤ 4 := by rw [hk7]; exact Nat.le_of_lt (ud_3 hJb.2)
  refine lv_aload_n hx hb dL_law_294 rfl (lv_at hl 4 rfl) ?_
  refine k_VF (As := []) (rest := []) (pre := []) (mid := [ob E X (F, K9)]) C0 (o_digest l hfl E X (F, K9) (by first | assumption | omega) (by first | assumption | omega) (hk4)) (cwV 0 hts gL_law_X6_digest rfl rfl rfl (by decide +kernel) ⟨Nat.le_of_ble_eq_true rfl, Nat.le_of_ble_eq_true rfl⟩) hw rfl hZ (fun (u295 : oT) => [ob E X u295]) (fun _ => rfl) 0 6 rfl rfl rfl rfl hl.1 rfl (Nat.le_of_ble_eq_true rfl) dL_law_295 ⟨Nat.le_of_ble_eq_true rfl, Nat.le_of_ble_eq_true rfl⟩ (fun r u295 H locs hq99 hw => ?_)
  obtain ⟨r295, rfl⟩ : ∃ z, z = r := ⟨_, rfl⟩
  have h295 : r295 = digF F.1 F.2.1 F.2.2.1 (nI F.2.2.2.1) F.2.2.2.2.1 F.2.2.2.2.2.1 F.2.2.2.2.2.2.1 F.2.2.2.2.2.2.2.1 F.2.2.2.2.2.2.2.2.1 F.2.2.2.2.2.2.2.2.2.1 F.2.2.2.2.2.2.2.2.2.2.1 F.2.2.2.2.2.2.2.2.2.2.2.1 F.2.2.2.2.2.2.2.2.2.2.2.2 0 K9.2.2.2.1 ∧ u295.1 = F ∧ u295.2.2.2 = K9.2.2 := hq99
  obtain ⟨z9, u295⟩ := u295
  have e9 : F = z9 := h295.2.1.symm
  subst e9
  have hw : kW E AA sx (List.flatten [ob E X (F, u295), ob E Y (F, u242)]) H locs := hw
  refine W.eq (g2 := F0 mm 298 ls [.long r295]) rfl ?_
  refine lv_lload hx hb dL_law_298 (lv_at hl 1 rfl) ?_
  refine W.lcmp hx hb dL_law_300 ?_
  refine lv_if_eq (tgt := 316) hx hb dL_law_301 (by decide) (fun c301 => ?_) (fun c301 => ?_)
  · refine lv_iconst (v := 1) hx hb dL_law_316 (by decide) ?_
    refine lv_goto (tgt := 321) hx hb dL_law_317 (by decide) ?_
    exact hend _ _ H locs ls (Nat.le_of_ble_eq_true rfl) (Nat.le_of_ble_eq_true rfl) hw.2.2.2.1 hl.1
  · have hk6 : u295.2.2.2.1 = udK u256.2.2.2.1 := (congrArg (fun z : Nat × (Nat × (Nat → cT)) => z.2.1) h295.2.2).trans hk7
    have hk3 : u295.2.2.2.1 ≤ 4 := by rw [hk6]; exact Nat.le_of_lt (ud_3 hJb.2)
    refine lv_aload_n hx hb dL_law_304 rfl (lv_at hl 4 rfl) ?_
    refine k_VF (As := []) (rest := []) (pre := []) (mid := [ob E X (F, u295)]) C0 (o_digest l hfl E X (F, u295) (by first | assumption | omega) (by first | assumption | omega) (hk3)) (cwV 0 hts gL_law_X6_digest rfl rfl rfl (by decide +kernel) ⟨Nat.le_of_ble_eq_true rfl, Nat.le_of_ble_eq_true rfl⟩) hw rfl hZ (fun (u305 : oT) => [ob E X u305]) (fun _ => rfl) 0 6 rfl rfl rfl rfl hl.1 rfl (Nat.le_of_ble_eq_true rfl) dL_law_305 ⟨Nat.le_of_ble_eq_true rfl, Nat.le_of_ble_eq_true rfl⟩ (fun r u305 H locs hq99 hw => ?_)
    obtain ⟨r305, rfl⟩ : ∃ z, z = r := ⟨_, rfl⟩
    have h305 : r305 = digF F.1 F.2.1 F.2.2.1 (nI F.2.2.2.1) F.2.2.2.2.1 F.2.2.2.2.2.1 F.2.2.2.2.2.2.1 F.2.2.2.2.2.2.2.1 F.2.2.2.2.2.2.2.2.1 F.2.2.2.2.2.2.2.2.2.1 F.2.2.2.2.2.2.2.2.2.2.1 F.2.2.2.2.2.2.2.2.2.2.2.1 F.2.2.2.2.2.2.2.2.2.2.2.2 0 u295.2.2.2.1 ∧ u305.1 = F ∧ u305.2.2.2 = u295.2.2 := hq99
    obtain ⟨z9, u305⟩ := u305
    have e9 : F = z9 := h305.2.1.symm
    subst e9
    have hw : kW E AA sx (List.flatten [ob E X (F, u305), ob E Y (F, u242)]) H locs := hw
    refine W.eq (g2 := F0 mm 308 ls [.long r305]) rfl ?_
    have hkk : u256.2.2.2.1 = 4 := by
      refine Classical.byContradiction (fun h9 => c301 ((lg_cmp_eq _ _).mpr ?_))
      rw [h295.1, h256.1, hk7, ← hk5, show udK u256.2.2.2.1 = u256.2.2.2.1 from if_neg h9]
    have hdd : r305 = r256 - 1 := by
      rw [h305.1, h256.1, hk6, ← hk5, hkk]
      exact dg_1 _ _ _ _ _ _ _ _ _ _ _ _ _
    refine lv_lload hx hb dL_law_308 (lv_at hl 1 rfl) ?_
    refine lv_lconst (v := 1) hx hb dL_law_310 (by decide) ?_
    refine lv_lsub hx hb dL_law_311 ?_
    refine W.lcmp hx hb dL_law_312 ?_
    refine lv_if_ne (tgt := 320) hx hb dL_law_313 (by decide) (fun c313 => absurd c313 (fun h99 => h99 ((lg_cmp_eq _ _).mpr hdd))) (fun c313 => ?_)
    refine lv_iconst (v := 1) hx hb dL_law_316 (by decide) ?_
    refine lv_goto (tgt := 321) hx hb dL_law_317 (by decide) ?_
    exact hend _ _ H locs ls (Nat.le_of_ble_eq_true rfl) (Nat.le_of_ble_eq_true rfl) hw.2.2.2.1 hl.1

set_option maxHeartbeats 4000000 in
set_option maxRecDepth 100000 in
theorem law_step {pp : Program} {ee : Env} {sx : State} {mm : MethodId} {bb : List Frame} {me : Method} {cd : Code} {AA : Nat → Prop} {Q9 : State → Prop} (l : Launch) (hfl : l.stackTraces = false) (E : kE) (L sb : Nat) (xs : Nat → Int32) (X Y : xT) (F : fT) (J K : jT) (B N k : Nat) (hF8 : fOK B N F) (hBl : B < 800000) (hNl : N < 9000000) (hJ : hOK (F, J)) (hK : hOK (F, K)) (hk : 1 ≤ k ∧ k ≤ 24) (C0 : CallFix pp mm cd cL_law 9 sx #[Value.ref sb] wsL_law RL) (hX : va_X sb L xs sx sx.heap) (hbl : sb < sx.heap.size) (hbA : ¬ AA sb) (hZ : kZ AA sx) (hL : L ≤ 260) (hend : ∀ (cc ss : Nat) (H : Heap) (locs : List Loc) (ls : Array Slot), cc ≤ 600130 → ss ≤ 7301080 → va_S AA sx.heap H locs → ls.size = 9 → W pp l ee room_1 sx mm #[Value.ref sb] bb me cd H locs cc ss Q9 (F0 mm 321 ls [.int 1])) {ls : Array Slot} {H : Heap} {locs : List Loc} (hback : k < 24 → ∀ (F1 : fT) (J1 K1 : jT) (M : Nat), fOK (B + 14) M F1 → N ≤ M → M ≤ N + 299 → hOK (F1, J1) → hOK (F1, K1) → ∀ (H : Heap) (locs : List Loc) (ls : Array Slot), lv_has ls 9 [(6, .int (nI (k + 1))), (5, .int 1), (2, .ref Y.1.1), (1, .ref X.1.1), (0, .ref sb)] → kW E AA sx (List.flatten [ob E X (F1, J1), ob E Y (F1, K1)]) H locs → W pp l ee room_1 sx mm #[Value.ref sb] bb me cd H locs 300 30000 Q9 (F0 mm 101 ls [])) (hl : lv_has ls 9 [(6, .int (nI k)), (5, .int 1), (2, .ref Y.1.1), (1, .ref X.1.1), (0, .ref sb)]) (hw : kW E AA sx (List.flatten [ob E X (F, J), ob E Y (F, K)]) H locs) : W pp l ee room_1 sx mm #[Value.ref sb] bb me cd H locs 300 30000 Q9 (F0 mm 101 ls []) := by
  obtain ⟨hx, hb, hml, hown, hts⟩ := id C0
  have hG := hF8.1
  have hk1 := hk.1
  have hk2 := hk.2
  refine lv_iload hx hb dL_law_101 (lv_at hl 0 rfl) ?_
  refine lv_bipush (v := 24) hx hb dL_law_103 (by decide) ?_
  refine lv_icmp_ge (tgt := 148) hx hb dL_law_105 (by decide) (fun c105 => ?_) (fun c105 => ?_)
  · have c105 : 24 ≤ k := (nI_leI (a := 24) (b := k) (by omega) (by omega)).mp c105
    exact law_tail l hfl E L sb xs X Y F J K B N hF8 (by omega) (by omega) hJ hK C0 hX hbl hbA hZ hL hend (lv_sub hl [1, 2, 3, 4] rfl) hw
  · have c105 : ¬ 24 ≤ k := fun h99 => c105 ((nI_leI (a := 24) (b := k) (by omega) (by omega)).mpr h99)
    refine lv_iload hx hb dL_law_108 (lv_at hl 1 rfl) ?_
    refine lv_if_eq (tgt := 148) hx hb dL_law_110 (by decide) (fun c110 => absurd c110 (by decide)) (fun c110 => ?_)
    refine lv_aload_n hx hb dL_law_113 rfl (lv_at hl 3 rfl) ?_
    refine lv_aload_n hx hb dL_law_114 rfl (lv_at hl 2 rfl) ?_
    refine lv_aload_n hx hb dL_law_115 rfl (lv_at hl 4 rfl) ?_
    refine lv_iload hx hb dL_law_116 (lv_at hl 0 rfl) ?_
    refine k_cell (chs := [ob E X (F, J), ob E Y (F, K)]) (k := k) (L := L) (xs := xs) (by omega) (by omega) hX hbl hbA C0 (va_cwS 2 hts gL_law_L_cell rfl rfl rfl (by decide +kernel) ⟨Nat.le_of_ble_eq_true rfl, Nat.le_of_ble_eq_true rfl⟩) hw rfl hl.1 rfl (rest := [.ref Y.1.1, .ref X.1.1]) (Nat.le_of_ble_eq_true rfl) dL_law_118 ⟨Nat.le_of_ble_eq_true rfl, Nat.le_of_ble_eq_true rfl⟩ (fun H locs hw => ?_)
    refine W.eq (g2 := F0 mm 121 ls [.int (scN L xs k), .ref Y.1.1, .ref X.1.1]) rfl ?_
    refine k_SF (As := [.ref X.1.1, .ref Y.1.1, .int (scN L xs k)]) (rest := []) (pre := []) (mid := [ob E X (F, J), ob E Y (F, K)]) C0 (c_L_isStep l hfl E X Y F J K (scN L xs k) B N (by first | assumption | omega) (by first | assumption | omega) (by first | assumption | omega) (by first | assumption | omega) (by first | assumption | omega)) (va_cwS 3 hts gL_law_L_isStep rfl rfl rfl (by decide +kernel) ⟨Nat.le_of_ble_eq_true rfl, Nat.le_of_ble_eq_true rfl⟩) hw rfl hZ (fun (u121 : oT × oT) => [ob E X u121.1, ob E Y u121.2]) (fun _ => rfl) rfl hl.1 rfl (Nat.le_of_ble_eq_true rfl) dL_law_121 ⟨Nat.le_of_ble_eq_true rfl, Nat.le_of_ble_eq_true rfl⟩ (fun r u121 H locs hq99 hw => ?_)
    obtain ⟨r121, rfl⟩ : ∃ z, z = r := ⟨_, rfl⟩
    have h121 : r121 = 1 ∧ ∃ M, N ≤ M ∧ M ≤ N + 299 ∧ gOK (B + 14) M u121.1 u121.2 := hq99
    have hw : kW E AA sx (List.flatten [ob E X u121.1, ob E Y u121.2]) H locs := hw
    refine W.eq (g2 := F0 mm 124 ls [.int r121]) rfl ?_
    refine W.eq (g2 := F0 mm 124 ls [.int 1]) (congrArg (fun z9 => F0 mm 124 ls [.int z9]) (show (r121 : Int32) = 1 from h121.1)) ?_
    obtain ⟨⟨F1, J1⟩, ⟨F2, K1⟩⟩ := u121
    obtain ⟨e0, M, hM1, hM2, e9, hf9, hj9, hk9⟩ := h121
    have e9 : F1 = F2 := e9
    subst e9
    have hf9 : fOK (B + 14) M F1 := hf9
    have hj9 : hOK (F1, J1) := hj9
    have hk9 : hOK (F1, K1) := hk9
    have hw : kW E AA sx (List.flatten [ob E X (F1, J1), ob E Y (F1, K1)]) H locs := hw
    refine lv_if_eq (tgt := 139) hx hb dL_law_124 (by decide) (fun c124 => absurd c124 (by decide)) (fun c124 => ?_)
    refine lv_aload_n hx hb dL_law_127 rfl (lv_at hl 3 rfl) ?_
    refine lv_aload_n hx hb dL_law_128 rfl (lv_at hl 2 rfl) ?_
    refine k_SF (As := [.ref X.1.1, .ref Y.1.1]) (rest := []) (pre := []) (mid := [ob E X (F1, J1), ob E Y (F1, K1)]) C0 (c_L_areAlike l hfl E X Y F1 J1 K1 (hf9.1) (hf9.2.1)) (va_cwS 2 hts gL_law_L_areAlike rfl rfl rfl (by decide +kernel) ⟨Nat.le_of_ble_eq_true rfl, Nat.le_of_ble_eq_true rfl⟩) hw rfl hZ (fun _ => [ob E X (F1, J1), ob E Y (F1, K1)]) (fun _ => rfl) rfl hl.1 rfl (Nat.le_of_ble_eq_true rfl) dL_law_129 ⟨Nat.le_of_ble_eq_true rfl, Nat.le_of_ble_eq_true rfl⟩ (fun r u H locs hq99 hw => ?_)
    subst r
    have hw : kW E AA sx (List.flatten [ob E X (F1, J1), ob E Y (F1, K1)]) H locs := hw
    refine W.eq (g2 := F0 mm 132 ls [.int 1]) rfl ?_
    refine lv_if_eq (tgt := 139) hx hb dL_law_132 (by decide) (fun c132 => absurd c132 (by decide)) (fun c132 => ?_)
    refine lv_iconst (v := 1) hx hb dL_law_135 (by decide) ?_
    refine lv_goto (tgt := 140) hx hb dL_law_136 (by decide) ?_
    refine lv_istore (lv' := [(5, .int 1), (6, .int (nI k)), (2, .ref Y.1.1), (1, .ref X.1.1), (0, .ref sb)]) hx hb dL_law_140 hl (by decide) rfl (fun ls hl => ?_)
    refine lv_iinc (v := nI (k + 1)) (lv' := [(6, .int (nI (k + 1))), (5, .int 1), (2, .ref Y.1.1), (1, .ref X.1.1), (0, .ref sb)]) hx hb dL_law_142 hl (k := 1) rfl (nI_1 _) (by decide) rfl (fun ls hl => ?_)
    refine lv_goto (tgt := 101) hx hb dL_law_145 (by decide) ?_
    exact hback (by omega) F1 J1 K1 M hf9 hM1 hM2 hj9 hk9 H _ ls (lv_sub hl [0, 1, 2, 3, 4] rfl) hw

theorem law_loop {pp : Program} {ee : Env} {sx : State} {mm : MethodId} {bb : List Frame} {me : Method} {cd : Code} {AA : Nat → Prop} {Q9 : State → Prop} (l : Launch) (hfl : l.stackTraces = false) (E : kE) (L sb : Nat) (xs : Nat → Int32) (X Y : xT) (C0 : CallFix pp mm cd cL_law 9 sx #[Value.ref sb] wsL_law RL) (hX : va_X sb L xs sx sx.heap) (hbl : sb < sx.heap.size) (hbA : ¬ AA sb) (hZ : kZ AA sx) (hL : L ≤ 260) (hend : ∀ (cc ss : Nat) (H : Heap) (locs : List Loc) (ls : Array Slot), cc ≤ 600130 → ss ≤ 7301080 → va_S AA sx.heap H locs → ls.size = 9 → W pp l ee room_1 sx mm #[Value.ref sb] bb me cd H locs cc ss Q9 (F0 mm 321 ls [.int 1])) : ∀ (n k : Nat) (F : fT) (J K : jT) (B N : Nat), k + n = 24 → 1 ≤ k → fOK B N F → B + 14 * n < 800000 → N + 299 * n < 9000000 → hOK (F, J) → hOK (F, K) → ∀ (H : Heap) (locs : List Loc) (ls : Array Slot), lv_has ls 9 [(6, .int (nI k)), (5, .int 1), (2, .ref Y.1.1), (1, .ref X.1.1), (0, .ref sb)] → kW E AA sx (List.flatten [ob E X (F, J), ob E Y (F, K)]) H locs → W pp l ee room_1 sx mm #[Value.ref sb] bb me cd H locs 300 30000 Q9 (F0 mm 101 ls [])
  | 0, k, F, J, K, B, N, hkn, hk1, hF8, hB, hN, hJ, hK, H, locs, ls, hl, hw => law_step l hfl E L sb xs X Y F J K B N k hF8 (by omega) (by omega) hJ hK ⟨hk1, by omega⟩ C0 hX hbl hbA hZ hL hend (fun h9 => absurd h9 (by omega)) hl hw
  | n + 1, k, F, J, K, B, N, hkn, hk1, hF8, hB, hN, hJ, hK, H, locs, ls, hl, hw => law_step l hfl E L sb xs X Y F J K B N k hF8 (by omega) (by omega) hJ hK ⟨hk1, by omega⟩ C0 hX hbl hbA hZ hL hend
      (fun _ F1 J1 K1 M g1 g2 g3 g4 g5 H1 locs1 ls1 hl1 hw1 => law_loop l hfl E L sb xs X Y C0 hX hbl hbA hZ hL hend n (k + 1) F1 J1 K1 (B + 14) M (by omega) (by omega) g1 (by omega) (by omega) g4 g5 H1 locs1 ls1 hl1 hw1) hl hw

set_option maxHeartbeats 4000000 in
set_option maxRecDepth 100000 in
theorem law_beg {pp : Program} {ee : Env} {sx : State} {mm : MethodId} {bb : List Frame} {me : Method} {cd : Code} {AA : Nat → Prop} {Q9 : State → Prop} (l : Launch) (hfl : l.stackTraces = false) (E : kE) (L sb : Nat) (xs : Nat → Int32) (X Y : xT) (O P : oT) (hO : hOK O) (hP : hOK P) (C0 : CallFix pp mm cd cL_law 9 sx #[Value.ref sb] wsL_law RL) (hX : va_X sb L xs sx sx.heap) (hbl : sb < sx.heap.size) (hbA : ¬ AA sb) (hZ : kZ AA sx) (hL : L ≤ 260) (hend : ∀ (cc ss : Nat) (H : Heap) (locs : List Loc) (ls : Array Slot), cc ≤ 600130 → ss ≤ 7301080 → va_S AA sx.heap H locs → ls.size = 9 → W pp l ee room_1 sx mm #[Value.ref sb] bb me cd H locs cc ss Q9 (F0 mm 321 ls [.int 1])) {ls : Array Slot} {H : Heap} {locs : List Loc}  (hl : lv_has ls 9 [(2, .ref Y.1.1), (1, .ref X.1.1), (0, .ref sb)]) (hw : kW E AA sx (List.flatten [ob E X O, ob E Y P]) H locs) : W pp l ee room_1 sx mm #[Value.ref sb] bb me cd H locs 238 23636 Q9 (F0 mm 16 ls []) := by
  obtain ⟨hx, hb, hml, hown, hts⟩ := id C0
  obtain ⟨r6, hr6, hr6l⟩ : ∃ z, z = upN (scN L xs 0) 6 ∧ z < 6 := ⟨_, rfl, upN_lt (by omega)⟩
  obtain ⟨c8, hc8, hc8l⟩ : ∃ z, z = upN (scN L xs 0 >>> (3 &&& 31 : Int32)) 8 ∧ z < 8 := ⟨_, rfl, upN_lt (by omega)⟩
  obtain ⟨v6, hv6, hv6l⟩ : ∃ z, z = upN (scN L xs 0 >>> (6 &&& 31 : Int32)) 6 ∧ z < 6 := ⟨_, rfl, upN_lt (by omega)⟩
  have hG9 : kG (3 + r6) (3 + c8) := ⟨by omega, by omega, by omega, by omega⟩
  refine lv_aload_n hx hb dL_law_16 rfl (lv_at hl 2 rfl) ?_
  refine lv_iconst (v := 0) hx hb dL_law_17 (by decide) ?_
  refine k_cell (chs := [ob E X O, ob E Y P]) (k := 0) (L := L) (xs := xs) (by omega) (by omega) hX hbl hbA C0 (va_cwS 2 hts gL_law_L_cell rfl rfl rfl (by decide +kernel) ⟨Nat.le_of_ble_eq_true rfl, Nat.le_of_ble_eq_true rfl⟩) hw rfl hl.1 rfl (rest := []) (Nat.le_of_ble_eq_true rfl) dL_law_18 ⟨Nat.le_of_ble_eq_true rfl, Nat.le_of_ble_eq_true rfl⟩ (fun H locs hw => ?_)
  refine W.eq (g2 := F0 mm 21 ls [.int (scN L xs 0)]) rfl ?_
  refine lv_istore_n (lv' := [(3, .int (scN L xs 0)), (2, .ref Y.1.1), (1, .ref X.1.1), (0, .ref sb)]) hx hb dL_law_21 rfl hl (by decide) rfl (fun ls hl => ?_)
  refine lv_aload_n hx hb dL_law_22 rfl (lv_at hl 2 rfl) ?_
  refine lv_iconst (v := 3) hx hb dL_law_23 (by decide) ?_
  refine lv_iload_n hx hb dL_law_24 rfl (lv_at hl 0 rfl) ?_
  refine lv_bipush (v := 6) hx hb dL_law_25 (by decide) ?_
  refine k_S (As := [.int (scN L xs 0), .int 6]) (rest := [.int 3, .ref X.1.1]) (pre := []) (mid := []) C0 (c_L_up l E (scN L xs 0) 6 (by first | assumption | omega) (by first | assumption | omega)) (va_cwS 2 hts gL_law_L_up rfl rfl rfl (by decide +kernel) ⟨Nat.le_of_ble_eq_true rfl, Nat.le_of_ble_eq_true rfl⟩) hw rfl (fun _ => []) (fun _ => rfl) rfl hl.1 rfl (Nat.le_of_ble_eq_true rfl) dL_law_27 ⟨Nat.le_of_ble_eq_true rfl, Nat.le_of_ble_eq_true rfl⟩ (fun r u H locs hq99 hw => ?_)
  subst hq99
  have hw : kW E AA sx (List.flatten [ob E X O, ob E Y P]) H locs := hw
  refine W.eq (g2 := F0 mm 30 ls [.int (nI (upN (scN L xs 0) 6)), .int 3, .ref X.1.1]) rfl ?_
  refine W.eq (g2 := F0 mm 30 ls [.int (nI r6), .int 3, .ref X.1.1]) (congrArg (fun z9 => F0 mm 30 ls [.int z9, .int 3, .ref X.1.1]) (show (nI (upN (scN L xs 0) 6) : Int32) = nI r6 from by rw [hr6])) ?_
  refine lv_iadd hx hb dL_law_30 ?_
  refine W.eq (g2 := F0 mm 31 ls [.int (nI (3 + r6)), .ref X.1.1]) (congrArg (fun z9 => F0 mm 31 ls [.int z9, .ref X.1.1]) (show (3 + (nI r6) : Int32) = nI (3 + r6) from nI_add 3 _)) ?_
  refine lv_iconst (v := 3) hx hb dL_law_31 (by decide) ?_
  refine lv_iload_n hx hb dL_law_32 rfl (lv_at hl 0 rfl) ?_
  refine lv_iconst (v := 3) hx hb dL_law_33 (by decide) ?_
  refine lv_ishr hx hb dL_law_34 ?_
  refine lv_bipush (v := 8) hx hb dL_law_35 (by decide) ?_
  refine k_S (As := [.int ((scN L xs 0) >>> (3 &&& 31 : Int32)), .int 8]) (rest := [.int 3, .int (nI (3 + r6)), .ref X.1.1]) (pre := []) (mid := []) C0 (c_L_up l E ((scN L xs 0) >>> (3 &&& 31 : Int32)) 8 (by first | assumption | omega) (by first | assumption | omega)) (va_cwS 2 hts gL_law_L_up rfl rfl rfl (by decide +kernel) ⟨Nat.le_of_ble_eq_true rfl, Nat.le_of_ble_eq_true rfl⟩) hw rfl (fun _ => []) (fun _ => rfl) rfl hl.1 rfl (Nat.le_of_ble_eq_true rfl) dL_law_37 ⟨Nat.le_of_ble_eq_true rfl, Nat.le_of_ble_eq_true rfl⟩ (fun r u H locs hq99 hw => ?_)
  subst hq99
  have hw : kW E AA sx (List.flatten [ob E X O, ob E Y P]) H locs := hw
  refine W.eq (g2 := F0 mm 40 ls [.int (nI (upN ((scN L xs 0) >>> (3 &&& 31 : Int32)) 8)), .int 3, .int (nI (3 + r6)), .ref X.1.1]) rfl ?_
  refine W.eq (g2 := F0 mm 40 ls [.int (nI c8), .int 3, .int (nI (3 + r6)), .ref X.1.1]) (congrArg (fun z9 => F0 mm 40 ls [.int z9, .int 3, .int (nI (3 + r6)), .ref X.1.1]) (show (nI (upN ((scN L xs 0) >>> (3 &&& 31 : Int32)) 8) : Int32) = nI c8 from by rw [hc8])) ?_
  refine lv_iadd hx hb dL_law_40 ?_
  refine W.eq (g2 := F0 mm 41 ls [.int (nI (3 + c8)), .int (nI (3 + r6)), .ref X.1.1]) (congrArg (fun z9 => F0 mm 41 ls [.int z9, .int (nI (3 + r6)), .ref X.1.1]) (show (3 + (nI c8) : Int32) = nI (3 + c8) from nI_add 3 _)) ?_
  refine lv_iload_n hx hb dL_law_41 rfl (lv_at hl 0 rfl) ?_
  refine lv_bipush (v := 6) hx hb dL_law_42 (by decide) ?_
  refine lv_ishr hx hb dL_law_44 ?_
  refine lv_bipush (v := 6) hx hb dL_law_45 (by decide) ?_
  refine k_S (As := [.int ((scN L xs 0) >>> (6 &&& 31 : Int32)), .int 6]) (rest := [.int (nI (3 + c8)), .int (nI (3 + r6)), .ref X.1.1]) (pre := []) (mid := []) C0 (c_L_up l E ((scN L xs 0) >>> (6 &&& 31 : Int32)) 6 (by first | assumption | omega) (by first | assumption | omega)) (va_cwS 2 hts gL_law_L_up rfl rfl rfl (by decide +kernel) ⟨Nat.le_of_ble_eq_true rfl, Nat.le_of_ble_eq_true rfl⟩) hw rfl (fun _ => []) (fun _ => rfl) rfl hl.1 rfl (Nat.le_of_ble_eq_true rfl) dL_law_47 ⟨Nat.le_of_ble_eq_true rfl, Nat.le_of_ble_eq_true rfl⟩ (fun r u H locs hq99 hw => ?_)
  subst hq99
  have hw : kW E AA sx (List.flatten [ob E X O, ob E Y P]) H locs := hw
  refine W.eq (g2 := F0 mm 50 ls [.int (nI (upN ((scN L xs 0) >>> (6 &&& 31 : Int32)) 6)), .int (nI (3 + c8)), .int (nI (3 + r6)), .ref X.1.1]) rfl ?_
  refine W.eq (g2 := F0 mm 50 ls [.int (nI v6), .int (nI (3 + c8)), .int (nI (3 + r6)), .ref X.1.1]) (congrArg (fun z9 => F0 mm 50 ls [.int z9, .int (nI (3 + c8)), .int (nI (3 + r6)), .ref X.1.1]) (show (nI (upN ((scN L xs 0) >>> (6 &&& 31 : Int32)) 6) : Int32) = nI v6 from by rw [hv6])) ?_
  refine k_VF (As := [.int (nI (3 + r6)), .int (nI (3 + c8)), .int (nI v6)]) (rest := []) (pre := []) (mid := [ob E X O]) C0 (p_begin l hfl E X O (3 + r6) (3 + c8) v6 (hG9) (by omega) (by first | assumption | omega)) (cwV 3 hts gL_law_X6_begin rfl rfl rfl (by decide +kernel) ⟨Nat.le_of_ble_eq_true rfl, Nat.le_of_ble_eq_true rfl⟩) hw rfl hZ (fun (u50 : oT) => [ob E X u50]) (fun _ => rfl) 0 6 rfl rfl rfl rfl hl.1 rfl (Nat.le_of_ble_eq_true rfl) dL_law_50 ⟨Nat.le_of_ble_eq_true rfl, Nat.le_of_ble_eq_true rfl⟩ (fun r u50 H locs hq99 hw => ?_)
  obtain ⟨r50, rfl⟩ : ∃ z, z = r := ⟨_, rfl⟩
  have h50 : r50 = nI ((3 + r6) * (3 + c8)) ∧ u50 = (bgF (3 + r6) (3 + c8) v6, (O.2.1, (O.2.2.1, svJ O))) := hq99
  have hw : kW E AA sx (List.flatten [ob E X u50, ob E Y P]) H locs := hw
  refine W.eq (g2 := F0 mm 53 ls [.int r50]) rfl ?_
  refine lv_istore (lv' := [(4, .int r50), (3, .int (scN L xs 0)), (2, .ref Y.1.1), (1, .ref X.1.1), (0, .ref sb)]) hx hb dL_law_53 hl (by decide) rfl (fun ls hl => ?_)
  refine lv_iload hx hb dL_law_55 (lv_at hl 0 rfl) ?_
  refine lv_aload_n hx hb dL_law_57 rfl (lv_at hl 2 rfl) ?_
  refine lv_iconst (v := 3) hx hb dL_law_58 (by decide) ?_
  refine lv_iload_n hx hb dL_law_59 rfl (lv_at hl 1 rfl) ?_
  refine lv_bipush (v := 6) hx hb dL_law_60 (by decide) ?_
  refine k_S (As := [.int (scN L xs 0), .int 6]) (rest := [.int 3, .ref Y.1.1, .int r50]) (pre := []) (mid := []) C0 (c_L_up l E (scN L xs 0) 6 (by first | assumption | omega) (by first | assumption | omega)) (va_cwS 2 hts gL_law_L_up rfl rfl rfl (by decide +kernel) ⟨Nat.le_of_ble_eq_true rfl, Nat.le_of_ble_eq_true rfl⟩) hw rfl (fun _ => []) (fun _ => rfl) rfl hl.1 rfl (Nat.le_of_ble_eq_true rfl) dL_law_62 ⟨Nat.le_of_ble_eq_true rfl, Nat.le_of_ble_eq_true rfl⟩ (fun r u H locs hq99 hw => ?_)
  subst hq99
  have hw : kW E AA sx (List.flatten [ob E X u50, ob E Y P]) H locs := hw
  refine W.eq (g2 := F0 mm 65 ls [.int (nI (upN (scN L xs 0) 6)), .int 3, .ref Y.1.1, .int r50]) rfl ?_
  refine W.eq (g2 := F0 mm 65 ls [.int (nI r6), .int 3, .ref Y.1.1, .int r50]) (congrArg (fun z9 => F0 mm 65 ls [.int z9, .int 3, .ref Y.1.1, .int r50]) (show (nI (upN (scN L xs 0) 6) : Int32) = nI r6 from by rw [hr6])) ?_
  refine lv_iadd hx hb dL_law_65 ?_
  refine W.eq (g2 := F0 mm 66 ls [.int (nI (3 + r6)), .ref Y.1.1, .int r50]) (congrArg (fun z9 => F0 mm 66 ls [.int z9, .ref Y.1.1, .int r50]) (show (3 + (nI r6) : Int32) = nI (3 + r6) from nI_add 3 _)) ?_
  refine lv_iconst (v := 3) hx hb dL_law_66 (by decide) ?_
  refine lv_iload_n hx hb dL_law_67 rfl (lv_at hl 1 rfl) ?_
  refine lv_iconst (v := 3) hx hb dL_law_68 (by decide) ?_
  refine lv_ishr hx hb dL_law_69 ?_
  refine lv_bipush (v := 8) hx hb dL_law_70 (by decide) ?_
  refine k_S (As := [.int ((scN L xs 0) >>> (3 &&& 31 : Int32)), .int 8]) (rest := [.int 3, .int (nI (3 + r6)), .ref Y.1.1, .int r50]) (pre := []) (mid := []) C0 (c_L_up l E ((scN L xs 0) >>> (3 &&& 31 : Int32)) 8 (by first | assumption | omega) (by first | assumption | omega)) (va_cwS 2 hts gL_law_L_up rfl rfl rfl (by decide +kernel) ⟨Nat.le_of_ble_eq_true rfl, Nat.le_of_ble_eq_true rfl⟩) hw rfl (fun _ => []) (fun _ => rfl) rfl hl.1 rfl (Nat.le_of_ble_eq_true rfl) dL_law_72 ⟨Nat.le_of_ble_eq_true rfl, Nat.le_of_ble_eq_true rfl⟩ (fun r u H locs hq99 hw => ?_)
  subst hq99
  have hw : kW E AA sx (List.flatten [ob E X u50, ob E Y P]) H locs := hw
  refine W.eq (g2 := F0 mm 75 ls [.int (nI (upN ((scN L xs 0) >>> (3 &&& 31 : Int32)) 8)), .int 3, .int (nI (3 + r6)), .ref Y.1.1, .int r50]) rfl ?_
  refine W.eq (g2 := F0 mm 75 ls [.int (nI c8), .int 3, .int (nI (3 + r6)), .ref Y.1.1, .int r50]) (congrArg (fun z9 => F0 mm 75 ls [.int z9, .int 3, .int (nI (3 + r6)), .ref Y.1.1, .int r50]) (show (nI (upN ((scN L xs 0) >>> (3 &&& 31 : Int32)) 8) : Int32) = nI c8 from by rw [hc8])) ?_
  refine lv_iadd hx hb dL_law_75 ?_
  refine W.eq (g2 := F0 mm 76 ls [.int (nI (3 + c8)), .int (nI (3 + r6)), .ref Y.1.1, .int r50]) (congrArg (fun z9 => F0 mm 76 ls [.int z9, .int (nI (3 + r6)), .ref Y.1.1, .int r50]) (show (3 + (nI c8) : Int32) = nI (3 + c8) from nI_add 3 _)) ?_
  refine lv_iload_n hx hb dL_law_76 rfl (lv_at hl 1 rfl) ?_
  refine lv_bipush (v := 6) hx hb dL_law_77 (by decide) ?_
  refine lv_ishr hx hb dL_law_79 ?_
  refine lv_bipush (v := 6) hx hb dL_law_80 (by decide) ?_
  refine k_S (As := [.int ((scN L xs 0) >>> (6 &&& 31 : Int32)), .int 6]) (rest := [.int (nI (3 + c8)), .int (nI (3 + r6)), .ref Y.1.1, .int r50]) (pre := []) (mid := []) C0 (c_L_up l E ((scN L xs 0) >>> (6 &&& 31 : Int32)) 6 (by first | assumption | omega) (by first | assumption | omega)) (va_cwS 2 hts gL_law_L_up rfl rfl rfl (by decide +kernel) ⟨Nat.le_of_ble_eq_true rfl, Nat.le_of_ble_eq_true rfl⟩) hw rfl (fun _ => []) (fun _ => rfl) rfl hl.1 rfl (Nat.le_of_ble_eq_true rfl) dL_law_82 ⟨Nat.le_of_ble_eq_true rfl, Nat.le_of_ble_eq_true rfl⟩ (fun r u H locs hq99 hw => ?_)
  subst hq99
  have hw : kW E AA sx (List.flatten [ob E X u50, ob E Y P]) H locs := hw
  refine W.eq (g2 := F0 mm 85 ls [.int (nI (upN ((scN L xs 0) >>> (6 &&& 31 : Int32)) 6)), .int (nI (3 + c8)), .int (nI (3 + r6)), .ref Y.1.1, .int r50]) rfl ?_
  refine W.eq (g2 := F0 mm 85 ls [.int (nI v6), .int (nI (3 + c8)), .int (nI (3 + r6)), .ref Y.1.1, .int r50]) (congrArg (fun z9 => F0 mm 85 ls [.int z9, .int (nI (3 + c8)), .int (nI (3 + r6)), .ref Y.1.1, .int r50]) (show (nI (upN ((scN L xs 0) >>> (6 &&& 31 : Int32)) 6) : Int32) = nI v6 from by rw [hv6])) ?_
  refine k_VF (As := [.int (nI (3 + r6)), .int (nI (3 + c8)), .int (nI v6)]) (rest := [.int r50]) (pre := [ob E X u50]) (mid := [ob E Y P]) C0 (p_begin l hfl E Y P (3 + r6) (3 + c8) v6 (hG9) (by omega) (by first | assumption | omega)) (cwV 3 hts gL_law_X6_begin rfl rfl rfl (by decide +kernel) ⟨Nat.le_of_ble_eq_true rfl, Nat.le_of_ble_eq_true rfl⟩) hw rfl hZ (fun (u85 : oT) => [ob E Y u85]) (fun _ => rfl) 0 6 rfl rfl rfl rfl hl.1 rfl (Nat.le_of_ble_eq_true rfl) dL_law_85 ⟨Nat.le_of_ble_eq_true rfl, Nat.le_of_ble_eq_true rfl⟩ (fun r u85 H locs hq99 hw => ?_)
  obtain ⟨r85, rfl⟩ : ∃ z, z = r := ⟨_, rfl⟩
  have h85 : r85 = nI ((3 + r6) * (3 + c8)) ∧ u85 = (bgF (3 + r6) (3 + c8) v6, (P.2.1, (P.2.2.1, svJ P))) := hq99
  have hw : kW E AA sx (List.flatten [ob E X u50, ob E Y u85]) H locs := hw
  refine W.eq (g2 := F0 mm 88 ls [.int r85, .int r50]) rfl ?_
  refine lv_icmp_ne (tgt := 95) hx hb dL_law_88 (by decide) (fun c88 => absurd c88 (fun h99 => h99 (h50.1.trans h85.1.symm))) (fun c88 => ?_)
  refine lv_iconst (v := 1) hx hb dL_law_91 (by decide) ?_
  refine lv_goto (tgt := 96) hx hb dL_law_92 (by decide) ?_
  refine lv_istore (lv' := [(5, .int 1), (4, .int r50), (3, .int (scN L xs 0)), (2, .ref Y.1.1), (1, .ref X.1.1), (0, .ref sb)]) hx hb dL_law_96 hl (by decide) rfl (fun ls hl => ?_)
  refine lv_iconst (v := 1) hx hb dL_law_98 (by decide) ?_
  refine lv_istore (lv' := [(6, .int 1), (5, .int 1), (4, .int r50), (3, .int (scN L xs 0)), (2, .ref Y.1.1), (1, .ref X.1.1), (0, .ref sb)]) hx hb dL_law_99 hl (by decide) rfl (fun ls hl => ?_)
  have hw : kW E AA sx (List.flatten [ob E X (bgF (3 + r6) (3 + c8) v6, (O.2.1, (O.2.2.1, svJ O))), ob E Y (bgF (3 + r6) (3 + c8) v6, (P.2.1, (P.2.2.1, svJ P)))]) H locs := by rw [← h50.2, ← h85.2]; exact hw
  refine W.widen (k := 300) (n := 30000) (Nat.le_of_ble_eq_true rfl) (Nat.le_of_ble_eq_true rfl) ?_
  exact law_loop l hfl E L sb xs X Y C0 hX hbl hbA hZ hL hend 23 1 (bgF (3 + r6) (3 + c8) v6) _ _ 3840 0 rfl (by decide) (fs_bg hG9 (by omega)) (by decide) (by decide) (hOK_sv hO) (hOK_sv hP) H _ ls (lv_sub hl [0, 1, 4, 5, 6] rfl) hw
