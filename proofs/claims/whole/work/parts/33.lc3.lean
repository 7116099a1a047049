set_option maxHeartbeats 4000000 in
set_option maxRecDepth 100000 in
def wpL_C33 (xs : Nat → Int32) (L : Nat) (i0 : Int32) (w : St) (post : St → Prop) : Prop := wpX4_entries w (fun r_2 w_1 => wpX5_entries w_1 (fun r_4 w_3 => (r_2 = r_4 → (post w_3)) ∧ (¬ (r_2 = r_4) → False)))
set_option maxHeartbeats 4000000 in
set_option maxRecDepth 100000 in
theorem mL_C33 {p : Program} {l : Launch} {e : Env} {s : State} {m : MethodId} {below : List Frame} {meth : Method} {c : Code} {D : va_G} {ca : Nat → ClassId} {ad : Nat → Nat} {base b L : Nat} {xs : Nat → Int32} (C0 : LX p l s m c D ca ad base b L xs) {Q : State → Prop} {cells slots : Nat} (hcel : cells + 4 ≤ 603072) (hslo : slots + 24 ≤ 7215210) (i0 : Int32) (w : St) (post : St → Prop) (hw : wpL_C33 xs L i0 w post) (hK : ∀ (w : St), post w → ∀ (H : Heap) (locs : List Loc), PA D ca ad w H → va_S (AB base) s.heap H locs → ∀ ls : Array Slot, lv_has ls 10 [(0, .ref b), (1, .ref (ad 0)), (2, .ref (ad 33)), (3, .ref (ad 59)), (4, .ref (ad 60)), (5, .int i0)] → W p l e room_1 s m #[Value.ref b] below meth c H locs (cells + 4) (slots + 24) Q (F0 m 2692 ls [])) (H : Heap) (locs : List Loc) (hP : PA D ca ad w H) (hS : va_S (AB base) s.heap H locs) (ls : Array Slot) (hl : lv_has ls 10 [(0, .ref b), (1, .ref (ad 0)), (2, .ref (ad 33)), (3, .ref (ad 59)), (4, .ref (ad 60)), (5, .int i0)]) : W p l e room_1 s m #[Value.ref b] below meth c H locs cells slots Q (F0 m 2376 ls []) := by
  obtain ⟨hx, hb, hml, hown, hts, hK0, hXP, hAd, hbs, hX, hbl, hbA, hl9⟩ := C0
  refine lv_aload_n hx hb dL_law_2376 rfl (lv_at hl 1 rfl) ?_
  refine va_calli (va_runV (As := []) (rest := []) ⟨hx, hb, hml, hown, hts⟩ (mX4_entries l D ca ad base hAd w _ hw) (cwV 0 hts gL_law_X4_entries rfl rfl rfl (by decide +kernel) ⟨Nat.le_of_ble_eq_true rfl, Nat.le_of_ble_eq_true rfl⟩) (pv [] hK0 hP hbs hS rfl (wg0 ca ad w)) rfl rfl hl.1 rfl (lv_room (Nat.le_of_ble_eq_true rfl)) dL_law_2377 ⟨by simp only [room_1]; omega, by simp only [room_1]; omega⟩) hS (fun q _ h => h) (fun q h => h) (fun r_2 w_1 t H locs ht hvm hw hP hz1 hk1 hS => ?_)
  have hP : PA D ca ad w_1 H := by rw [← ht]; exact hP
  refine lv_aload_n hx hb dL_law_2380 rfl (lv_at hl 2 rfl) ?_
  refine va_calli (va_runV (As := []) (rest := [.int r_2]) ⟨hx, hb, hml, hown, hts⟩ (mX5_entries l D ca ad base hAd w_1 _ hw) (cwV 0 hts gL_law_X5_entries rfl rfl rfl (by decide +kernel) ⟨Nat.le_of_ble_eq_true rfl, Nat.le_of_ble_eq_true rfl⟩) (pv [] hK0 hP hbs hS rfl (wg33 ca ad w_1)) rfl rfl hl.1 rfl (lv_room (Nat.le_of_ble_eq_true rfl)) dL_law_2381 ⟨by simp only [room_1]; omega, by simp only [room_1]; omega⟩) hS (fun q _ h => h) (fun q h => h) (fun r_4 w_3 t H locs ht hvm hw hP hz1 hk1 hS => ?_)
  have hP : PA D ca ad w_3 H := by rw [← ht]; exact hP
  refine lv_icmp_eq (tgt := 2692) hx hb dL_law_2384 (by decide) (fun c_5 => ?_) (fun c_5 => ?_)
  · have hw := hw.1 c_5
    refine W.widen (k := cells + 4) (n := slots + 24) (by omega) (by omega) ?_
    exact hK w_3 hw _ _ hP hS ls (lv_sub hl [0, 1, 2, 3, 4, 5] rfl)
  · have hw := hw.2 c_5
    refine lv_iconst (v := 0) hx hb dL_law_2387 (by decide) ?_
    exact hw.elim
set_option maxHeartbeats 4000000 in
set_option maxRecDepth 100000 in
def wpL_C34 (xs : Nat → Int32) (L : Nat) (i0 : Int32) (w : St) (post : St → Prop) : Prop := (vp_in (i0 + 1) L) ∧ (wpL_kindOf (xs ((i0 + 1)).toNatClampNeg) w (fun r_3 w_2 => (vp_in (i0 + 1) L) ∧ (wpX5_kindOf (xs ((i0 + 1)).toNatClampNeg) w_2 (fun r_6 w_5 => wpX5_thrown w_5 (fun r_8 w_7 => (r_8 = r_3 → ((r_3 = 0 → ((vp_in 0 1) ∧ (((lg_cmp (w_7.2.2.1 (0 : Int32).toNatClampNeg) ((r_6).toInt64)) = 0 → (post w_7)) ∧ (¬ ((lg_cmp (w_7.2.2.1 (0 : Int32).toNatClampNeg) ((r_6).toInt64)) = 0) → False)))) ∧ (¬ (r_3 = 0) → (post w_7)))) ∧ (¬ (r_8 = r_3) → False))))))
set_option maxHeartbeats 4000000 in
set_option maxRecDepth 100000 in
theorem mL_C34 {p : Program} {l : Launch} {e : Env} {s : State} {m : MethodId} {below : List Frame} {meth : Method} {c : Code} {D : va_G} {ca : Nat → ClassId} {ad : Nat → Nat} {base b L : Nat} {xs : Nat → Int32} (C0 : LX p l s m c D ca ad base b L xs) {Q : State → Prop} {cells slots : Nat} (hcel : cells + 4 ≤ 603072) (hslo : slots + 24 ≤ 7215210) (i0 : Int32) (w : St) (post : St → Prop) (hw : wpL_C34 xs L i0 w post) (hK : ∀ (w : St), post w → ∀ (H : Heap) (locs : List Loc), PA D ca ad w H → va_S (AB base) s.heap H locs → ∀ ls : Array Slot, lv_has ls 10 [(0, .ref b), (1, .ref (ad 0)), (2, .ref (ad 33)), (3, .ref (ad 59)), (4, .ref (ad 60)), (5, .int i0)] → W p l e room_1 s m #[Value.ref b] below meth c H locs (cells + 4) (slots + 24) Q (F0 m 2692 ls [])) (H : Heap) (locs : List Loc) (hP : PA D ca ad w H) (hS : va_S (AB base) s.heap H locs) (ls : Array Slot) (hl : lv_has ls 10 [(0, .ref b), (1, .ref (ad 0)), (2, .ref (ad 33)), (3, .ref (ad 59)), (4, .ref (ad 60)), (5, .int i0)]) : W p l e room_1 s m #[Value.ref b] below meth c H locs cells slots Q (F0 m 2389 ls []) := by
  obtain ⟨hx, hb, hml, hown, hts, hK0, hXP, hAd, hbs, hX, hbl, hbA, hl9⟩ := C0
  refine lv_aload_n hx hb dL_law_2389 rfl (lv_at hl 1 rfl) ?_
  refine lv_aload_n hx hb dL_law_2390 rfl (lv_at hl 0 rfl) ?_
  refine lv_iload hx hb dL_law_2391 (lv_at hl 5 rfl) ?_
  refine lv_iconst (v := 1) hx hb dL_law_2393 (by decide) ?_
  refine lv_iadd hx hb dL_law_2394 ?_
  obtain ⟨h_1, hw⟩ := hw
  refine va_sld hx hb hX hbl hbA hS h_1 dL_law_2395 ?_
  refine lv_aload_n hx hb dL_law_2396 rfl (lv_at hl 3 rfl) ?_
  refine va_calli (vx_runSW (As := [.ref (ad 0), .int (xs ((i0 + 1)).toNatClampNeg), .ref (ad 59)]) (rest := []) ⟨hx, hb, hml, hown, hts⟩ (mL_kindOf l D ca ad base hAd w (xs ((i0 + 1)).toNatClampNeg) _ hw hl9) (vx_cwSW 3 hts gL_law_L_kindOf rfl rfl rfl (by decide +kernel) ⟨Nat.le_of_ble_eq_true rfl, Nat.le_of_ble_eq_true rfl⟩) (psx [.ref (ad 0), .int (xs ((i0 + 1)).toNatClampNeg), .ref (ad 59)] hK0 hXP hP hbs hS) rfl rfl hl.1 rfl (lv_room (Nat.le_of_ble_eq_true rfl)) dL_law_2397 ⟨by simp only [room_1]; omega, by simp only [room_1]; omega⟩) hS (fun q _ h => h) (fun q h => h) (fun r_3 w_2 t H locs ht hvm hw hP hz1 hk1 hS => ?_)
  have hP : PA D ca ad w_2 H := by rw [← ht]; exact hP
  refine lv_istore (lv' := [(6, .int r_3), (0, .ref b), (1, .ref (ad 0)), (2, .ref (ad 33)), (3, .ref (ad 59)), (4, .ref (ad 60)), (5, .int i0)]) hx hb dL_law_2400 hl (by decide) rfl (fun ls hl => ?_)
  refine lv_aload_n hx hb dL_law_2402 rfl (lv_at hl 3 rfl) ?_
  refine lv_aload_n hx hb dL_law_2403 rfl (lv_at hl 1 rfl) ?_
  refine lv_iload hx hb dL_law_2404 (lv_at hl 6 rfl) ?_
  refine lv_iconst (v := 1) hx hb dL_law_2406 (by decide) ?_
  refine lv_iadd hx hb dL_law_2407 ?_
  obtain ⟨h_4, hw⟩ := hw
  refine va_sld hx hb hX hbl hbA hS h_4 dL_law_2408 ?_
  refine va_calli (va_runV (As := [.int (xs ((i0 + 1)).toNatClampNeg)]) (rest := []) ⟨hx, hb, hml, hown, hts⟩ (mX5_kindOf l D ca ad base hAd w_2 (xs ((i0 + 1)).toNatClampNeg) _ hw) (cwV 1 hts gL_law_X5_kindOf rfl rfl rfl (by decide +kernel) ⟨Nat.le_of_ble_eq_true rfl, Nat.le_of_ble_eq_true rfl⟩) (pv [.int (xs ((i0 + 1)).toNatClampNeg)] hK0 hP hbs hS rfl (wg33 ca ad w_2)) rfl rfl hl.1 rfl (lv_room (Nat.le_of_ble_eq_true rfl)) dL_law_2409 ⟨by simp only [room_1]; omega, by simp only [room_1]; omega⟩) hS (fun q _ h => h) (fun q h => h) (fun r_6 w_5 t H locs ht hvm hw hP hz1 hk1 hS => ?_)
  have hP : PA D ca ad w_5 H := by rw [← ht]; exact hP
  refine lv_istore (lv' := [(7, .int r_6), (6, .int r_3), (0, .ref b), (1, .ref (ad 0)), (2, .ref (ad 33)), (3, .ref (ad 59)), (4, .ref (ad 60)), (5, .int i0)]) hx hb dL_law_2412 hl (by decide) rfl (fun ls hl => ?_)
  refine lv_aload_n hx hb dL_law_2414 rfl (lv_at hl 4 rfl) ?_
  refine va_calli (va_runV (As := []) (rest := []) ⟨hx, hb, hml, hown, hts⟩ (mX5_thrown l D ca ad base hAd w_5 _ hw) (cwV 0 hts gL_law_X5_thrown rfl rfl rfl (by decide +kernel) ⟨Nat.le_of_ble_eq_true rfl, Nat.le_of_ble_eq_true rfl⟩) (pv [] hK0 hP hbs hS rfl (wg33 ca ad w_5)) rfl rfl hl.1 rfl (lv_room (Nat.le_of_ble_eq_true rfl)) dL_law_2415 ⟨by simp only [room_1]; omega, by simp only [room_1]; omega⟩) hS (fun q _ h => h) (fun q h => h) (fun r_8 w_7 t H locs ht hvm hw hP hz1 hk1 hS => ?_)
  have hP : PA D ca ad w_7 H := by rw [← ht]; exact hP
  refine lv_iload hx hb dL_law_2418 (lv_at hl 1 rfl) ?_
  refine lv_icmp_eq (tgt := 2425) hx hb dL_law_2420 (by decide) (fun c_9 => ?_) (fun c_9 => ?_)
  · have hw := hw.1 c_9
    refine lv_iload hx hb dL_law_2425 (lv_at hl 1 rfl) ?_
    refine lv_if_ne (tgt := 2442) hx hb dL_law_2427 (by decide) (fun c_10 => ?_) (fun c_10 => ?_)
    · have hw := hw.2 c_10
      refine lv_goto (tgt := 2692) hx hb dL_law_2442 (by decide) ?_
      refine W.widen (k := cells + 4) (n := slots + 24) (by omega) (by omega) ?_
      exact hK w_7 hw _ _ hP hS ls (lv_sub hl [2, 3, 4, 5, 6, 7] rfl)
    · have hw := hw.1 c_10
      refine lv_aload_n hx hb dL_law_2430 rfl (lv_at hl 5 rfl) ?_
      refine lv_iconst (v := 0) hx hb dL_law_2431 (by decide) ?_
      obtain ⟨h_11, hw⟩ := hw
      refine va_lald hx hb hK0 hP 59 3 (wg59 ca ad w_7) rfl h_11 dL_law_2432 ?_
      refine lv_iload hx hb dL_law_2433 (lv_at hl 0 rfl) ?_
      refine lv_i2l (v := (r_6).toInt64) hx hb dL_law_2435 rfl ?_
      refine W.lcmp hx hb dL_law_2436 ?_
      refine lv_if_eq (tgt := 2442) hx hb dL_law_2437 (by decide) (fun c_12 => ?_) (fun c_12 => ?_)
      · have hw := hw.1 c_12
        refine lv_goto (tgt := 2692) hx hb dL_law_2442 (by decide) ?_
        refine W.widen (k := cells + 4) (n := slots + 24) (by omega) (by omega) ?_
        exact hK w_7 hw _ _ hP hS ls (lv_sub hl [2, 3, 4, 5, 6, 7] rfl)
      · have hw := hw.2 c_12
        refine lv_iconst (v := 0) hx hb dL_law_2440 (by decide) ?_
        exact hw.elim
  · have hw := hw.2 c_9
    refine lv_iconst (v := 0) hx hb dL_law_2423 (by decide) ?_
    exact hw.elim
set_option maxHeartbeats 4000000 in
set_option maxRecDepth 100000 in
def wpL_C35 (xs : Nat → Int32) (L : Nat) (i0 : Int32) (w : St) (post : St → Prop) : Prop := (vp_in (i0 + 1) L) ∧ (wpL_termOfEntry (xs ((i0 + 1)).toNatClampNeg) w (fun r_3 w_2 => (vp_in (i0 + 1) L) ∧ (wpX5_termOfEntry (xs ((i0 + 1)).toNatClampNeg) w_2 (fun r_6 w_5 => wpX5_thrown w_5 (fun r_8 w_7 => (r_8 = r_3 → ((r_3 = 0 → ((vp_in 0 1) ∧ (((lg_cmp (w_7.2.2.1 (0 : Int32).toNatClampNeg) ((r_6).toInt64)) = 0 → (post w_7)) ∧ (¬ ((lg_cmp (w_7.2.2.1 (0 : Int32).toNatClampNeg) ((r_6).toInt64)) = 0) → False)))) ∧ (¬ (r_3 = 0) → (post w_7)))) ∧ (¬ (r_8 = r_3) → False))))))
set_option maxHeartbeats 4000000 in
set_option maxRecDepth 100000 in
theorem mL_C35 {p : Program} {l : Launch} {e : Env} {s : State} {m : MethodId} {below : List Frame} {meth : Method} {c : Code} {D : va_G} {ca : Nat → ClassId} {ad : Nat → Nat} {base b L : Nat} {xs : Nat → Int32} (C0 : LX p l s m c D ca ad base b L xs) {Q : State → Prop} {cells slots : Nat} (hcel : cells + 4 ≤ 603072) (hslo : slots + 24 ≤ 7215210) (i0 : Int32) (w : St) (post : St → Prop) (hw : wpL_C35 xs L i0 w post) (hK : ∀ (w : St), post w → ∀ (H : Heap) (locs : List Loc), PA D ca ad w H → va_S (AB base) s.heap H locs → ∀ ls : Array Slot, lv_has ls 10 [(0, .ref b), (1, .ref (ad 0)), (2, .ref (ad 33)), (3, .ref (ad 59)), (4, .ref (ad 60)), (5, .int i0)] → W p l e room_1 s m #[Value.ref b] below meth c H locs (cells + 4) (slots + 24) Q (F0 m 2692 ls [])) (H : Heap) (locs : List Loc) (hP : PA D ca ad w H) (hS : va_S (AB base) s.heap H locs) (ls : Array Slot) (hl : lv_has ls 10 [(0, .ref b), (1, .ref (ad 0)), (2, .ref (ad 33)), (3, .ref (ad 59)), (4, .ref (ad 60)), (5, .int i0)]) : W p l e room_1 s m #[Value.ref b] below meth c H locs cells slots Q (F0 m 2445 ls []) := by
  obtain ⟨hx, hb, hml, hown, hts, hK0, hXP, hAd, hbs, hX, hbl, hbA, hl9⟩ := C0
  refine lv_aload_n hx hb dL_law_2445 rfl (lv_at hl 1 rfl) ?_
  refine lv_aload_n hx hb dL_law_2446 rfl (lv_at hl 0 rfl) ?_
  refine lv_iload hx hb dL_law_2447 (lv_at hl 5 rfl) ?_
  refine lv_iconst (v := 1) hx hb dL_law_2449 (by decide) ?_
  refine lv_iadd hx hb dL_law_2450 ?_
  obtain ⟨h_1, hw⟩ := hw
  refine va_sld hx hb hX hbl hbA hS h_1 dL_law_2451 ?_
  refine lv_aload_n hx hb dL_law_2452 rfl (lv_at hl 3 rfl) ?_
  refine va_calli (vx_runSW (As := [.ref (ad 0), .int (xs ((i0 + 1)).toNatClampNeg), .ref (ad 59)]) (rest := []) ⟨hx, hb, hml, hown, hts⟩ (mL_termOfEntry l D ca ad base hAd w (xs ((i0 + 1)).toNatClampNeg) _ hw hl9) (vx_cwSW 3 hts gL_law_L_termOfEntry rfl rfl rfl (by decide +kernel) ⟨Nat.le_of_ble_eq_true rfl, Nat.le_of_ble_eq_true rfl⟩) (psx [.ref (ad 0), .int (xs ((i0 + 1)).toNatClampNeg), .ref (ad 59)] hK0 hXP hP hbs hS) rfl rfl hl.1 rfl (lv_room (Nat.le_of_ble_eq_true rfl)) dL_law_2453 ⟨by simp only [room_1]; omega, by simp only [room_1]; omega⟩) hS (fun q _ h => h) (fun q h => h) (fun r_3 w_2 t H locs ht hvm hw hP hz1 hk1 hS => ?_)
  have hP : PA D ca ad w_2 H := by rw [← ht]; exact hP
  refine lv_istore (lv' := [(6, .int r_3), (0, .ref b), (1, .ref (ad 0)), (2, .ref (ad 33)), (3, .ref (ad 59)), (4, .ref (ad 60)), (5, .int i0)]) hx hb dL_law_2456 hl (by decide) rfl (fun ls hl => ?_)
  refine lv_aload_n hx hb dL_law_2458 rfl (lv_at hl 3 rfl) ?_
  refine lv_aload_n hx hb dL_law_2459 rfl (lv_at hl 1 rfl) ?_
  refine lv_iload hx hb dL_law_2460 (lv_at hl 6 rfl) ?_
  refine lv_iconst (v := 1) hx hb dL_law_2462 (by decide) ?_
  refine lv_iadd hx hb dL_law_2463 ?_
  obtain ⟨h_4, hw⟩ := hw
  refine va_sld hx hb hX hbl hbA hS h_4 dL_law_2464 ?_
  refine va_calli (va_runV (As := [.int (xs ((i0 + 1)).toNatClampNeg)]) (rest := []) ⟨hx, hb, hml, hown, hts⟩ (mX5_termOfEntry l D ca ad base hAd w_2 (xs ((i0 + 1)).toNatClampNeg) _ hw) (cwV 1 hts gL_law_X5_termOfEntry rfl rfl rfl (by decide +kernel) ⟨Nat.le_of_ble_eq_true rfl, Nat.le_of_ble_eq_true rfl⟩) (pv [.int (xs ((i0 + 1)).toNatClampNeg)] hK0 hP hbs hS rfl (wg33 ca ad w_2)) rfl rfl hl.1 rfl (lv_room (Nat.le_of_ble_eq_true rfl)) dL_law_2465 ⟨by simp only [room_1]; omega, by simp only [room_1]; omega⟩) hS (fun q _ h => h) (fun q h => h) (fun r_6 w_5 t H locs ht hvm hw hP hz1 hk1 hS => ?_)
  have hP : PA D ca ad w_5 H := by rw [← ht]; exact hP
  refine lv_istore (lv' := [(7, .int r_6), (6, .int r_3), (0, .ref b), (1, .ref (ad 0)), (2, .ref (ad 33)), (3, .ref (ad 59)), (4, .ref (ad 60)), (5, .int i0)]) hx hb dL_law_2468 hl (by decide) rfl (fun ls hl => ?_)
  refine lv_aload_n hx hb dL_law_2470 rfl (lv_at hl 4 rfl) ?_
  refine va_calli (va_runV (As := []) (rest := []) ⟨hx, hb, hml, hown, hts⟩ (mX5_thrown l D ca ad base hAd w_5 _ hw) (cwV 0 hts gL_law_X5_thrown rfl rfl rfl (by decide +kernel) ⟨Nat.le_of_ble_eq_true rfl, Nat.le_of_ble_eq_true rfl⟩) (pv [] hK0 hP hbs hS rfl (wg33 ca ad w_5)) rfl rfl hl.1 rfl (lv_room (Nat.le_of_ble_eq_true rfl)) dL_law_2471 ⟨by simp only [room_1]; omega, by simp only [room_1]; omega⟩) hS (fun q _ h => h) (fun q h => h) (fun r_8 w_7 t H locs ht hvm hw hP hz1 hk1 hS => ?_)
  have hP : PA D ca ad w_7 H := by rw [← ht]; exact hP
  refine lv_iload hx hb dL_law_2474 (lv_at hl 1 rfl) ?_
  refine lv_icmp_eq (tgt := 2481) hx hb dL_law_2476 (by decide) (fun c_9 => ?_) (fun c_9 => ?_)
  · have hw := hw.1 c_9
    refine lv_iload hx hb dL_law_2481 (lv_at hl 1 rfl) ?_
    refine lv_if_ne (tgt := 2498) hx hb dL_law_2483 (by decide) (fun c_10 => ?_) (fun c_10 => ?_)
    · have hw := hw.2 c_10
      refine lv_goto (tgt := 2692) hx hb dL_law_2498 (by decide) ?_
      refine W.widen (k := cells + 4) (n := slots + 24) (by omega) (by omega) ?_
      exact hK w_7 hw _ _ hP hS ls (lv_sub hl [2, 3, 4, 5, 6, 7] rfl)
    · have hw := hw.1 c_10
      refine lv_aload_n hx hb dL_law_2486 rfl (lv_at hl 5 rfl) ?_
      refine lv_iconst (v := 0) hx hb dL_law_2487 (by decide) ?_
      obtain ⟨h_11, hw⟩ := hw
      refine va_lald hx hb hK0 hP 59 3 (wg59 ca ad w_7) rfl h_11 dL_law_2488 ?_
      refine lv_iload hx hb dL_law_2489 (lv_at hl 0 rfl) ?_
      refine lv_i2l (v := (r_6).toInt64) hx hb dL_law_2491 rfl ?_
      refine W.lcmp hx hb dL_law_2492 ?_
      refine lv_if_eq (tgt := 2498) hx hb dL_law_2493 (by decide) (fun c_12 => ?_) (fun c_12 => ?_)
      · have hw := hw.1 c_12
        refine lv_goto (tgt := 2692) hx hb dL_law_2498 (by decide) ?_
        refine W.widen (k := cells + 4) (n := slots + 24) (by omega) (by omega) ?_
        exact hK w_7 hw _ _ hP hS ls (lv_sub hl [2, 3, 4, 5, 6, 7] rfl)
      · have hw := hw.2 c_12
        refine lv_iconst (v := 0) hx hb dL_law_2496 (by decide) ?_
        exact hw.elim
  · have hw := hw.2 c_9
    refine lv_iconst (v := 0) hx hb dL_law_2479 (by decide) ?_
    exact hw.elim
set_option maxHeartbeats 4000000 in
set_option maxRecDepth 100000 in
def wpL_C36 (xs : Nat → Int32) (L : Nat) (i0 : Int32) (w : St) (post : St → Prop) : Prop := (vp_in (i0 + 1) L) ∧ (wpL_knownBy (xs ((i0 + 1)).toNatClampNeg) w (fun r_3 w_2 => (vp_in (i0 + 1) L) ∧ (wpX5_knownBy (xs ((i0 + 1)).toNatClampNeg) w_2 (fun r_6 w_5 => wpX5_thrown w_5 (fun r_8 w_7 => (r_8 = r_3 → ((r_3 = 0 → ((vp_in 0 1) ∧ (((lg_cmp (w_7.2.2.1 (0 : Int32).toNatClampNeg) ((r_6).toInt64)) = 0 → (post w_7)) ∧ (¬ ((lg_cmp (w_7.2.2.1 (0 : Int32).toNatClampNeg) ((r_6).toInt64)) = 0) → False)))) ∧ (¬ (r_3 = 0) → (post w_7)))) ∧ (¬ (r_8 = r_3) → False))))))
set_option maxHeartbeats 4000000 in
set_option maxRecDepth 100000 in
theorem mL_C36 {p : Program} {l : Launch} {e : Env} {s : State} {m : MethodId} {below : List Frame} {meth : Method} {c : Code} {D : va_G} {ca : Nat → ClassId} {ad : Nat → Nat} {base b L : Nat} {xs : Nat → Int32} (C0 : LX p l s m c D ca ad base b L xs) {Q : State → Prop} {cells slots : Nat} (hcel : cells + 4 ≤ 603072) (hslo : slots + 24 ≤ 7215210) (i0 : Int32) (w : St) (post : St → Prop) (hw : wpL_C36 xs L i0 w post) (hK : ∀ (w : St), post w → ∀ (H : Heap) (locs : List Loc), PA D ca ad w H → va_S (AB base) s.heap H locs → ∀ ls : Array Slot, lv_has ls 10 [(0, .ref b), (1, .ref (ad 0)), (2, .ref (ad 33)), (3, .ref (ad 59)), (4, .ref (ad 60)), (5, .int i0)] → W p l e room_1 s m #[Value.ref b] below meth c H locs (cells + 4) (slots + 24) Q (F0 m 2692 ls [])) (H : Heap) (locs : List Loc) (hP : PA D ca ad w H) (hS : va_S (AB base) s.heap H locs) (ls : Array Slot) (hl : lv_has ls 10 [(0, .ref b), (1, .ref (ad 0)), (2, .ref (ad 33)), (3, .ref (ad 59)), (4, .ref (ad 60)), (5, .int i0)]) : W p l e room_1 s m #[Value.ref b] below meth c H locs cells slots Q (F0 m 2501 ls []) := by
  obtain ⟨hx, hb, hml, hown, hts, hK0, hXP, hAd, hbs, hX, hbl, hbA, hl9⟩ := C0
  refine lv_aload_n hx hb dL_law_2501 rfl (lv_at hl 1 rfl) ?_
  refine lv_aload_n hx hb dL_law_2502 rfl (lv_at hl 0 rfl) ?_
  refine lv_iload hx hb dL_law_2503 (lv_at hl 5 rfl) ?_
  refine lv_iconst (v := 1) hx hb dL_law_2505 (by decide) ?_
  refine lv_iadd hx hb dL_law_2506 ?_
  obtain ⟨h_1, hw⟩ := hw
  refine va_sld hx hb hX hbl hbA hS h_1 dL_law_2507 ?_
  refine lv_aload_n hx hb dL_law_2508 rfl (lv_at hl 3 rfl) ?_
  refine va_calli (vx_runSW (As := [.ref (ad 0), .int (xs ((i0 + 1)).toNatClampNeg), .ref (ad 59)]) (rest := []) ⟨hx, hb, hml, hown, hts⟩ (mL_knownBy l D ca ad base hAd w (xs ((i0 + 1)).toNatClampNeg) _ hw hl9) (vx_cwSW 3 hts gL_law_L_knownBy rfl rfl rfl (by decide +kernel) ⟨Nat.le_of_ble_eq_true rfl, Nat.le_of_ble_eq_true rfl⟩) (psx [.ref (ad 0), .int (xs ((i0 + 1)).toNatClampNeg), .ref (ad 59)] hK0 hXP hP hbs hS) rfl rfl hl.1 rfl (lv_room (Nat.le_of_ble_eq_true rfl)) dL_law_2509 ⟨by simp only [room_1]; omega, by simp only [room_1]; omega⟩) hS (fun q _ h => h) (fun q h => h) (fun r_3 w_2 t H locs ht hvm hw hP hz1 hk1 hS => ?_)
  have hP : PA D ca ad w_2 H := by rw [← ht]; exact hP
  refine lv_istore (lv' := [(6, .int r_3), (0, .ref b), (1, .ref (ad 0)), (2, .ref (ad 33)), (3, .ref (ad 59)), (4, .ref (ad 60)), (5, .int i0)]) hx hb dL_law_2512 hl (by decide) rfl (fun ls hl => ?_)
  refine lv_aload_n hx hb dL_law_2514 rfl (lv_at hl 3 rfl) ?_
  refine lv_aload_n hx hb dL_law_2515 rfl (lv_at hl 1 rfl) ?_
  refine lv_iload hx hb dL_law_2516 (lv_at hl 6 rfl) ?_
  refine lv_iconst (v := 1) hx hb dL_law_2518 (by decide) ?_
  refine lv_iadd hx hb dL_law_2519 ?_
  obtain ⟨h_4, hw⟩ := hw
  refine va_sld hx hb hX hbl hbA hS h_4 dL_law_2520 ?_
  refine va_calli (va_runV (As := [.int (xs ((i0 + 1)).toNatClampNeg)]) (rest := []) ⟨hx, hb, hml, hown, hts⟩ (mX5_knownBy l D ca ad base hAd w_2 (xs ((i0 + 1)).toNatClampNeg) _ hw) (cwV 1 hts gL_law_X5_knownBy rfl rfl rfl (by decide +kernel) ⟨Nat.le_of_ble_eq_true rfl, Nat.le_of_ble_eq_true rfl⟩) (pv [.int (xs ((i0 + 1)).toNatClampNeg)] hK0 hP hbs hS rfl (wg33 ca ad w_2)) rfl rfl hl.1 rfl (lv_room (Nat.le_of_ble_eq_true rfl)) dL_law_2521 ⟨by simp only [room_1]; omega, by simp only [room_1]; omega⟩) hS (fun q _ h => h) (fun q h => h) (fun r_6 w_5 t H locs ht hvm hw hP hz1 hk1 hS => ?_)
  have hP : PA D ca ad w_5 H := by rw [← ht]; exact hP
  refine lv_istore (lv' := [(7, .int r_6), (6, .int r_3), (0, .ref b), (1, .ref (ad 0)), (2, .ref (ad 33)), (3, .ref (ad 59)), (4, .ref (ad 60)), (5, .int i0)]) hx hb dL_law_2524 hl (by decide) rfl (fun ls hl => ?_)
  refine lv_aload_n hx hb dL_law_2526 rfl (lv_at hl 4 rfl) ?_
  refine va_calli (va_runV (As := []) (rest := []) ⟨hx, hb, hml, hown, hts⟩ (mX5_thrown l D ca ad base hAd w_5 _ hw) (cwV 0 hts gL_law_X5_thrown rfl rfl rfl (by decide +kernel) ⟨Nat.le_of_ble_eq_true rfl, Nat.le_of_ble_eq_true rfl⟩) (pv [] hK0 hP hbs hS rfl (wg33 ca ad w_5)) rfl rfl hl.1 rfl (lv_room (Nat.le_of_ble_eq_true rfl)) dL_law_2527 ⟨by simp only [room_1]; omega, by simp only [room_1]; omega⟩) hS (fun q _ h => h) (fun q h => h) (fun r_8 w_7 t H locs ht hvm hw hP hz1 hk1 hS => ?_)
  have hP : PA D ca ad w_7 H := by rw [← ht]; exact hP
  refine lv_iload hx hb dL_law_2530 (lv_at hl 1 rfl) ?_
  refine lv_icmp_eq (tgt := 2537) hx hb dL_law_2532 (by decide) (fun c_9 => ?_) (fun c_9 => ?_)
  · have hw := hw.1 c_9
    refine lv_iload hx hb dL_law_2537 (lv_at hl 1 rfl) ?_
    refine lv_if_ne (tgt := 2554) hx hb dL_law_2539 (by decide) (fun c_10 => ?_) (fun c_10 => ?_)
    · have hw := hw.2 c_10
      refine lv_goto (tgt := 2692) hx hb dL_law_2554 (by decide) ?_
      refine W.widen (k := cells + 4) (n := slots + 24) (by omega) (by omega) ?_
      exact hK w_7 hw _ _ hP hS ls (lv_sub hl [2, 3, 4, 5, 6, 7] rfl)
    · have hw := hw.1 c_10
      refine lv_aload_n hx hb dL_law_2542 rfl (lv_at hl 5 rfl) ?_
      refine lv_iconst (v := 0) hx hb dL_law_2543 (by decide) ?_
      obtain ⟨h_11, hw⟩ := hw
      refine va_lald hx hb hK0 hP 59 3 (wg59 ca ad w_7) rfl h_11 dL_law_2544 ?_
      refine lv_iload hx hb dL_law_2545 (lv_at hl 0 rfl) ?_
      refine lv_i2l (v := (r_6).toInt64) hx hb dL_law_2547 rfl ?_
      refine W.lcmp hx hb dL_law_2548 ?_
      refine lv_if_eq (tgt := 2554) hx hb dL_law_2549 (by decide) (fun c_12 => ?_) (fun c_12 => ?_)
      · have hw := hw.1 c_12
        refine lv_goto (tgt := 2692) hx hb dL_law_2554 (by decide) ?_
        refine W.widen (k := cells + 4) (n := slots + 24) (by omega) (by omega) ?_
        exact hK w_7 hw _ _ hP hS ls (lv_sub hl [2, 3, 4, 5, 6, 7] rfl)
      · have hw := hw.2 c_12
        refine lv_iconst (v := 0) hx hb dL_law_2552 (by decide) ?_
        exact hw.elim
  · have hw := hw.2 c_9
    refine lv_iconst (v := 0) hx hb dL_law_2535 (by decide) ?_
    exact hw.elim
set_option maxHeartbeats 4000000 in
set_option maxRecDepth 100000 in
def wpL_C37 (xs : Nat → Int32) (L : Nat) (i0 : Int32) (w : St) (post : St → Prop) : Prop := wpX4_leased w (fun r_2 w_1 => wpX5_leased w_1 (fun r_4 w_3 => ((lg_cmp r_2 r_4) = 0 → (post w_3)) ∧ (¬ ((lg_cmp r_2 r_4) = 0) → False)))
set_option maxHeartbeats 4000000 in
set_option maxRecDepth 100000 in
theorem mL_C37 {p : Program} {l : Launch} {e : Env} {s : State} {m : MethodId} {below : List Frame} {meth : Method} {c : Code} {D : va_G} {ca : Nat → ClassId} {ad : Nat → Nat} {base b L : Nat} {xs : Nat → Int32} (C0 : LX p l s m c D ca ad base b L xs) {Q : State → Prop} {cells slots : Nat} (hcel : cells + 4 ≤ 603072) (hslo : slots + 24 ≤ 7215210) (i0 : Int32) (w : St) (post : St → Prop) (hw : wpL_C37 xs L i0 w post) (hK : ∀ (w : St), post w → ∀ (H : Heap) (locs : List Loc), PA D ca ad w H → va_S (AB base) s.heap H locs → ∀ ls : Array Slot, lv_has ls 10 [(0, .ref b), (1, .ref (ad 0)), (2, .ref (ad 33)), (3, .ref (ad 59)), (4, .ref (ad 60)), (5, .int i0)] → W p l e room_1 s m #[Value.ref b] below meth c H locs (cells + 4) (slots + 24) Q (F0 m 2692 ls [])) (H : Heap) (locs : List Loc) (hP : PA D ca ad w H) (hS : va_S (AB base) s.heap H locs) (ls : Array Slot) (hl : lv_has ls 10 [(0, .ref b), (1, .ref (ad 0)), (2, .ref (ad 33)), (3, .ref (ad 59)), (4, .ref (ad 60)), (5, .int i0)]) : W p l e room_1 s m #[Value.ref b] below meth c H locs cells slots Q (F0 m 2557 ls []) := by
  obtain ⟨hx, hb, hml, hown, hts, hK0, hXP, hAd, hbs, hX, hbl, hbA, hl9⟩ := C0
  refine lv_aload_n hx hb dL_law_2557 rfl (lv_at hl 1 rfl) ?_
  refine va_calll (va_runV (As := []) (rest := []) ⟨hx, hb, hml, hown, hts⟩ (mX4_leased l D ca ad base hAd w _ hw) (cwV 0 hts gL_law_X4_leased rfl rfl rfl (by decide +kernel) ⟨Nat.le_of_ble_eq_true rfl, Nat.le_of_ble_eq_true rfl⟩) (pv [] hK0 hP hbs hS rfl (wg0 ca ad w)) rfl rfl hl.1 rfl (lv_room (Nat.le_of_ble_eq_true rfl)) dL_law_2558 ⟨by simp only [room_1]; omega, by simp only [room_1]; omega⟩) hS (fun q _ h => h) (fun q h => h) (fun r_2 w_1 t H locs ht hvm hw hP hz1 hk1 hS => ?_)
  have hP : PA D ca ad w_1 H := by rw [← ht]; exact hP
  refine lv_aload_n hx hb dL_law_2561 rfl (lv_at hl 2 rfl) ?_
  refine va_calll (va_runV (As := []) (rest := [.long r_2]) ⟨hx, hb, hml, hown, hts⟩ (mX5_leased l D ca ad base hAd w_1 _ hw) (cwV 0 hts gL_law_X5_leased rfl rfl rfl (by decide +kernel) ⟨Nat.le_of_ble_eq_true rfl, Nat.le_of_ble_eq_true rfl⟩) (pv [] hK0 hP hbs hS rfl (wg33 ca ad w_1)) rfl rfl hl.1 rfl (lv_room (Nat.le_of_ble_eq_true rfl)) dL_law_2562 ⟨by simp only [room_1]; omega, by simp only [room_1]; omega⟩) hS (fun q _ h => h) (fun q h => h) (fun r_4 w_3 t H locs ht hvm hw hP hz1 hk1 hS => ?_)
  have hP : PA D ca ad w_3 H := by rw [← ht]; exact hP
  refine W.lcmp hx hb dL_law_2565 ?_
  refine lv_if_eq (tgt := 2692) hx hb dL_law_2566 (by decide) (fun c_5 => ?_) (fun c_5 => ?_)
  · have hw := hw.1 c_5
    refine W.widen (k := cells + 4) (n := slots + 24) (by omega) (by omega) ?_
    exact hK w_3 hw _ _ hP hS ls (lv_sub hl [0, 1, 2, 3, 4, 5] rfl)
  · have hw := hw.2 c_5
    refine lv_iconst (v := 0) hx hb dL_law_2569 (by decide) ?_
    exact hw.elim
set_option maxHeartbeats 4000000 in
set_option maxRecDepth 100000 in
def wpL_C38 (xs : Nat → Int32) (L : Nat) (i0 : Int32) (w : St) (post : St → Prop) : Prop := wpX4_upShare w (fun r_2 w_1 => (vf_n64 (FP.f2d r_2)) ∧ (wpX5_upShare w_1 (fun r_5 w_4 => (vf_n64 (FP.f2d r_5)) ∧ (((Op.cmpValue (FP.dcmp (FP.f2d r_2) (FP.f2d r_5)) CmpOp.l) = 0 → (post w_4)) ∧ (¬ ((Op.cmpValue (FP.dcmp (FP.f2d r_2) (FP.f2d r_5)) CmpOp.l) = 0) → (((Op.cmpValue (FP.dcmp (FP.f2d r_2) (FP.f2d r_2)) CmpOp.l) = 0 → False) ∧ (¬ ((Op.cmpValue (FP.dcmp (FP.f2d r_2) (FP.f2d r_2)) CmpOp.l) = 0) → (((Op.cmpValue (FP.dcmp (FP.f2d r_5) (FP.f2d r_5)) CmpOp.l) = 0 → False) ∧ (¬ ((Op.cmpValue (FP.dcmp (FP.f2d r_5) (FP.f2d r_5)) CmpOp.l) = 0) → (post w_4))))))))))
set_option maxHeartbeats 4000000 in
set_option maxRecDepth 100000 in
theorem mL_C38 {p : Program} {l : Launch} {e : Env} {s : State} {m : MethodId} {below : List Frame} {meth : Method} {c : Code} {D : va_G} {ca : Nat → ClassId} {ad : Nat → Nat} {base b L : Nat} {xs : Nat → Int32} (C0 : LX p l s m c D ca ad base b L xs) {Q : State → Prop} {cells slots : Nat} (hcel : cells + 4 ≤ 603072) (hslo : slots + 24 ≤ 7215210) (i0 : Int32) (w : St) (post : St → Prop) (hw : wpL_C38 xs L i0 w post) (hK : ∀ (w : St), post w → ∀ (H : Heap) (locs : List Loc), PA D ca ad w H → va_S (AB base) s.heap H locs → ∀ ls : Array Slot, lv_has ls 10 [(0, .ref b), (1, .ref (ad 0)), (2, .ref (ad 33)), (3, .ref (ad 59)), (4, .ref (ad 60)), (5, .int i0)] → W p l e room_1 s m #[Value.ref b] below meth c H locs (cells + 4) (slots + 24) Q (F0 m 2692 ls [])) (H : Heap) (locs : List Loc) (hP : PA D ca ad w H) (hS : va_S (AB base) s.heap H locs) (ls : Array Slot) (hl : lv_has ls 10 [(0, .ref b), (1, .ref (ad 0)), (2, .ref (ad 33)), (3, .ref (ad 59)), (4, .ref (ad 60)), (5, .int i0)]) : W p l e room_1 s m #[Value.ref b] below meth c H locs cells slots Q (F0 m 2571 ls []) := by
  obtain ⟨hx, hb, hml, hown, hts, hK0, hXP, hAd, hbs, hX, hbl, hbA, hl9⟩ := C0
  refine lv_aload_n hx hb dL_law_2571 rfl (lv_at hl 1 rfl) ?_
  refine va_callf (va_runV (As := []) (rest := []) ⟨hx, hb, hml, hown, hts⟩ (mX4_upShare l D ca ad base hAd w _ hw) (cwV 0 hts gL_law_X4_upShare rfl rfl rfl (by decide +kernel) ⟨Nat.le_of_ble_eq_true rfl, Nat.le_of_ble_eq_true rfl⟩) (pv [] hK0 hP hbs hS rfl (wg0 ca ad w)) rfl rfl hl.1 rfl (lv_room (Nat.le_of_ble_eq_true rfl)) dL_law_2572 ⟨by simp only [room_1]; omega, by simp only [room_1]; omega⟩) hS (fun q _ h => h) (fun q h => h) (fun r_2 w_1 t H locs ht hvm hw hP hz1 hk1 hS => ?_)
  have hP : PA D ca ad w_1 H := by rw [← ht]; exact hP
  obtain ⟨h_3, hw⟩ := hw
  refine lv_f2d hx hb dL_law_2575 h_3 ?_
  refine lv_dstore (lv' := [(6, .double (FP.f2d r_2)), (0, .ref b), (1, .ref (ad 0)), (2, .ref (ad 33)), (3, .ref (ad 59)), (4, .ref (ad 60)), (5, .int i0)]) hx hb dL_law_2576 hl (by decide) rfl (fun ls hl => ?_)
  refine lv_aload_n hx hb dL_law_2578 rfl (lv_at hl 3 rfl) ?_
  refine va_callf (va_runV (As := []) (rest := []) ⟨hx, hb, hml, hown, hts⟩ (mX5_upShare l D ca ad base hAd w_1 _ hw) (cwV 0 hts gL_law_X5_upShare rfl rfl rfl (by decide +kernel) ⟨Nat.le_of_ble_eq_true rfl, Nat.le_of_ble_eq_true rfl⟩) (pv [] hK0 hP hbs hS rfl (wg33 ca ad w_1)) rfl rfl hl.1 rfl (lv_room (Nat.le_of_ble_eq_true rfl)) dL_law_2579 ⟨by simp only [room_1]; omega, by simp only [room_1]; omega⟩) hS (fun q _ h => h) (fun q h => h) (fun r_5 w_4 t H locs ht hvm hw hP hz1 hk1 hS => ?_)
  have hP : PA D ca ad w_4 H := by rw [← ht]; exact hP
  obtain ⟨h_6, hw⟩ := hw
  refine lv_f2d hx hb dL_law_2582 h_6 ?_
  refine lv_dstore (lv' := [(8, .double (FP.f2d r_5)), (6, .double (FP.f2d r_2)), (0, .ref b), (1, .ref (ad 0)), (2, .ref (ad 33)), (3, .ref (ad 59)), (4, .ref (ad 60)), (5, .int i0)]) hx hb dL_law_2583 hl (by decide) rfl (fun ls hl => ?_)
  refine lv_dload hx hb dL_law_2585 (lv_at hl 1 rfl) ?_
  refine lv_dload hx hb dL_law_2587 (lv_at hl 0 rfl) ?_
  refine lv_dcmp hx hb dL_law_2589 ?_
  refine lv_if_eq (tgt := 2611) hx hb dL_law_2590 (by decide) (fun c_7 => ?_) (fun c_7 => ?_)
  · have hw := hw.1 c_7
    refine lv_goto (tgt := 2692) hx hb dL_law_2611 (by decide) ?_
    refine W.widen (k := cells + 4) (n := slots + 24) (by omega) (by omega) ?_
    exact hK w_4 hw _ _ hP hS ls (lv_sub hl [2, 3, 4, 5, 6, 7] rfl)
  · have hw := hw.2 c_7
    refine lv_dload hx hb dL_law_2593 (lv_at hl 1 rfl) ?_
    refine lv_dload hx hb dL_law_2595 (lv_at hl 1 rfl) ?_
    refine lv_dcmp hx hb dL_law_2597 ?_
    refine lv_if_eq (tgt := 2609) hx hb dL_law_2598 (by decide) (fun c_8 => ?_) (fun c_8 => ?_)
    · have hw := hw.1 c_8
      refine lv_iconst (v := 0) hx hb dL_law_2609 (by decide) ?_
      exact hw.elim
    · have hw := hw.2 c_8
      refine lv_dload hx hb dL_law_2601 (lv_at hl 0 rfl) ?_
      refine lv_dload hx hb dL_law_2603 (lv_at hl 0 rfl) ?_
      refine lv_dcmp hx hb dL_law_2605 ?_
      refine lv_if_ne (tgt := 2611) hx hb dL_law_2606 (by decide) (fun c_9 => ?_) (fun c_9 => ?_)
      · have hw := hw.2 c_9
        refine lv_goto (tgt := 2692) hx hb dL_law_2611 (by decide) ?_
        refine W.widen (k := cells + 4) (n := slots + 24) (by omega) (by omega) ?_
        exact hK w_4 hw _ _ hP hS ls (lv_sub hl [2, 3, 4, 5, 6, 7] rfl)
      · have hw := hw.1 c_9
        refine lv_iconst (v := 0) hx hb dL_law_2609 (by decide) ?_
        exact hw.elim
set_option maxHeartbeats 4000000 in
set_option maxRecDepth 100000 in
def wpL_C39 (xs : Nat → Int32) (L : Nat) (i0 : Int32) (w : St) (post : St → Prop) : Prop := wpL_meanKnown w (fun r_2 w_1 => wpX5_meanKnown w_1 (fun r_4 w_3 => wpX5_thrown w_3 (fun r_6 w_5 => (r_6 = r_2 → ((r_2 = 0 → ((vp_in 0 1) ∧ (((Op.cmpValue (FP.dcmp (w_5.2.2.2 (0 : Int32).toNatClampNeg) r_4) CmpOp.l) = 0 → (post w_5)) ∧ (¬ ((Op.cmpValue (FP.dcmp (w_5.2.2.2 (0 : Int32).toNatClampNeg) r_4) CmpOp.l) = 0) → ((vp_in 0 1) ∧ ((vp_in 0 1) ∧ (((Op.cmpValue (FP.dcmp (w_5.2.2.2 (0 : Int32).toNatClampNeg) (w_5.2.2.2 (0 : Int32).toNatClampNeg)) CmpOp.l) = 0 → False) ∧ (¬ ((Op.cmpValue (FP.dcmp (w_5.2.2.2 (0 : Int32).toNatClampNeg) (w_5.2.2.2 (0 : Int32).toNatClampNeg)) CmpOp.l) = 0) → (((Op.cmpValue (FP.dcmp r_4 r_4) CmpOp.l) = 0 → False) ∧ (¬ ((Op.cmpValue (FP.dcmp r_4 r_4) CmpOp.l) = 0) → (post w_5))))))))))) ∧ (¬ (r_2 = 0) → (post w_5)))) ∧ (¬ (r_6 = r_2) → False))))
set_option maxHeartbeats 4000000 in
set_option maxRecDepth 100000 in
theorem mL_C39 {p : Program} {l : Launch} {e : Env} {s : State} {m : MethodId} {below : List Frame} {meth : Method} {c : Code} {D : va_G} {ca : Nat → ClassId} {ad : Nat → Nat} {base b L : Nat} {xs : Nat → Int32} (C0 : LX p l s m c D ca ad base b L xs) {Q : State → Prop} {cells slots : Nat} (hcel : cells + 4 ≤ 603072) (hslo : slots + 24 ≤ 7215210) (i0 : Int32) (w : St) (post : St → Prop) (hw : wpL_C39 xs L i0 w post) (hK : ∀ (w : St), post w → ∀ (H : Heap) (locs : List Loc), PA D ca ad w H → va_S (AB base) s.heap H locs → ∀ ls : Array Slot, lv_has ls 10 [(0, .ref b), (1, .ref (ad 0)), (2, .ref (ad 33)), (3, .ref (ad 59)), (4, .ref (ad 60)), (5, .int i0)] → W p l e room_1 s m #[Value.ref b] below meth c H locs (cells + 4) (slots + 24) Q (F0 m 2692 ls [])) (H : Heap) (locs : List Loc) (hP : PA D ca ad w H) (hS : va_S (AB base) s.heap H locs) (ls : Array Slot) (hl : lv_has ls 10 [(0, .ref b), (1, .ref (ad 0)), (2, .ref (ad 33)), (3, .ref (ad 59)), (4, .ref (ad 60)), (5, .int i0)]) : W p l e room_1 s m #[Value.ref b] below meth c H locs cells slots Q (F0 m 2614 ls []) := by
  obtain ⟨hx, hb, hml, hown, hts, hK0, hXP, hAd, hbs, hX, hbl, hbA, hl9⟩ := C0
  refine lv_aload_n hx hb dL_law_2614 rfl (lv_at hl 1 rfl) ?_
  refine lv_aload hx hb dL_law_2615 (lv_at hl 4 rfl) ?_
  refine va_calli (vx_runSW (As := [.ref (ad 0), .ref (ad 60)]) (rest := []) ⟨hx, hb, hml, hown, hts⟩ (mL_meanKnown l D ca ad base hAd w _ hw hl9) (vx_cwSW 2 hts gL_law_L_meanKnown rfl rfl rfl (by decide +kernel) ⟨Nat.le_of_ble_eq_true rfl, Nat.le_of_ble_eq_true rfl⟩) (psx [.ref (ad 0), .ref (ad 60)] hK0 hXP hP hbs hS) rfl rfl hl.1 rfl (lv_room (Nat.le_of_ble_eq_true rfl)) dL_law_2617 ⟨by simp only [room_1]; omega, by simp only [room_1]; omega⟩) hS (fun q _ h => h) (fun q h => h) (fun r_2 w_1 t H locs ht hvm hw hP hz1 hk1 hS => ?_)
  have hP : PA D ca ad w_1 H := by rw [← ht]; exact hP
  refine lv_istore (lv' := [(6, .int r_2), (0, .ref b), (1, .ref (ad 0)), (2, .ref (ad 33)), (3, .ref (ad 59)), (4, .ref (ad 60)), (5, .int i0)]) hx hb dL_law_2620 hl (by decide) rfl (fun ls hl => ?_)
  refine lv_aload_n hx hb dL_law_2622 rfl (lv_at hl 3 rfl) ?_
  refine va_calld (va_runV (As := []) (rest := []) ⟨hx, hb, hml, hown, hts⟩ (mX5_meanKnown l D ca ad base hAd w_1 _ hw) (cwV 0 hts gL_law_X5_meanKnown rfl rfl rfl (by decide +kernel) ⟨Nat.le_of_ble_eq_true rfl, Nat.le_of_ble_eq_true rfl⟩) (pv [] hK0 hP hbs hS rfl (wg33 ca ad w_1)) rfl rfl hl.1 rfl (lv_room (Nat.le_of_ble_eq_true rfl)) dL_law_2623 ⟨by simp only [room_1]; omega, by simp only [room_1]; omega⟩) hS (fun q _ h => h) (fun q h => h) (fun r_4 w_3 t H locs ht hvm hw hP hz1 hk1 hS => ?_)
  have hP : PA D ca ad w_3 H := by rw [← ht]; exact hP
  refine lv_dstore (lv' := [(7, .double r_4), (6, .int r_2), (0, .ref b), (1, .ref (ad 0)), (2, .ref (ad 33)), (3, .ref (ad 59)), (4, .ref (ad 60)), (5, .int i0)]) hx hb dL_law_2626 hl (by decide) rfl (fun ls hl => ?_)
  refine lv_aload_n hx hb dL_law_2628 rfl (lv_at hl 4 rfl) ?_
  refine va_calli (va_runV (As := []) (rest := []) ⟨hx, hb, hml, hown, hts⟩ (mX5_thrown l D ca ad base hAd w_3 _ hw) (cwV 0 hts gL_law_X5_thrown rfl rfl rfl (by decide +kernel) ⟨Nat.le_of_ble_eq_true rfl, Nat.le_of_ble_eq_true rfl⟩) (pv [] hK0 hP hbs hS rfl (wg33 ca ad w_3)) rfl rfl hl.1 rfl (lv_room (Nat.le_of_ble_eq_true rfl)) dL_law_2629 ⟨by simp only [room_1]; omega, by simp only [room_1]; omega⟩) hS (fun q _ h => h) (fun q h => h) (fun r_6 w_5 t H locs ht hvm hw hP hz1 hk1 hS => ?_)
  have hP : PA D ca ad w_5 H := by rw [← ht]; exact hP
  refine lv_iload hx hb dL_law_2632 (lv_at hl 1 rfl) ?_
  refine lv_icmp_eq (tgt := 2639) hx hb dL_law_2634 (by decide) (fun c_7 => ?_) (fun c_7 => ?_)
  · have hw := hw.1 c_7
    refine lv_iload hx hb dL_law_2639 (lv_at hl 1 rfl) ?_
    refine lv_if_ne (tgt := 2676) hx hb dL_law_2641 (by decide) (fun c_8 => ?_) (fun c_8 => ?_)
    · have hw := hw.2 c_8
      refine lv_goto (tgt := 2692) hx hb dL_law_2676 (by decide) ?_
      refine W.widen (k := cells + 4) (n := slots + 24) (by omega) (by omega) ?_
      exact hK w_5 hw _ _ hP hS ls (lv_sub hl [2, 3, 4, 5, 6, 7] rfl)
    · have hw := hw.1 c_8
      refine lv_aload hx hb dL_law_2644 (lv_at hl 6 rfl) ?_
      refine lv_iconst (v := 0) hx hb dL_law_2646 (by decide) ?_
      obtain ⟨h_9, hw⟩ := hw
      refine va_dald hx hb hK0 hP 60 4 (wg60 ca ad w_5) rfl h_9 dL_law_2647 ?_
      refine lv_dload hx hb dL_law_2648 (lv_at hl 0 rfl) ?_
      refine lv_dcmp hx hb dL_law_2650 ?_
      refine lv_if_eq (tgt := 2676) hx hb dL_law_2651 (by decide) (fun c_10 => ?_) (fun c_10 => ?_)
      · have hw := hw.1 c_10
        refine lv_goto (tgt := 2692) hx hb dL_law_2676 (by decide) ?_
        refine W.widen (k := cells + 4) (n := slots + 24) (by omega) (by omega) ?_
        exact hK w_5 hw _ _ hP hS ls (lv_sub hl [2, 3, 4, 5, 6, 7] rfl)
      · have hw := hw.2 c_10
        refine lv_aload hx hb dL_law_2654 (lv_at hl 6 rfl) ?_
        refine lv_iconst (v := 0) hx hb dL_law_2656 (by decide) ?_
        obtain ⟨h_11, hw⟩ := hw
        refine va_dald hx hb hK0 hP 60 4 (wg60 ca ad w_5) rfl h_11 dL_law_2657 ?_
        refine lv_aload hx hb dL_law_2658 (lv_at hl 6 rfl) ?_
        refine lv_iconst (v := 0) hx hb dL_law_2660 (by decide) ?_
        obtain ⟨h_12, hw⟩ := hw
        refine va_dald hx hb hK0 hP 60 4 (wg60 ca ad w_5) rfl h_12 dL_law_2661 ?_
        refine lv_dcmp hx hb dL_law_2662 ?_
        refine lv_if_eq (tgt := 2674) hx hb dL_law_2663 (by decide) (fun c_13 => ?_) (fun c_13 => ?_)
        · have hw := hw.1 c_13
          refine lv_iconst (v := 0) hx hb dL_law_2674 (by decide) ?_
          exact hw.elim
        · have hw := hw.2 c_13
          refine lv_dload hx hb dL_law_2666 (lv_at hl 0 rfl) ?_
          refine lv_dload hx hb dL_law_2668 (lv_at hl 0 rfl) ?_
          refine lv_dcmp hx hb dL_law_2670 ?_
          refine lv_if_ne (tgt := 2676) hx hb dL_law_2671 (by decide) (fun c_14 => ?_) (fun c_14 => ?_)
          · have hw := hw.2 c_14
            refine lv_goto (tgt := 2692) hx hb dL_law_2676 (by decide) ?_
            refine W.widen (k := cells + 4) (n := slots + 24) (by omega) (by omega) ?_
            exact hK w_5 hw _ _ hP hS ls (lv_sub hl [2, 3, 4, 5, 6, 7] rfl)
          · have hw := hw.1 c_14
            refine lv_iconst (v := 0) hx hb dL_law_2674 (by decide) ?_
            exact hw.elim
  · have hw := hw.2 c_7
    refine lv_iconst (v := 0) hx hb dL_law_2637 (by decide) ?_
    exact hw.elim
set_option maxHeartbeats 4000000 in
set_option maxRecDepth 100000 in
def wpL_C40 (xs : Nat → Int32) (L : Nat) (i0 : Int32) (w : St) (post : St → Prop) : Prop := wpX4_isOneOrder w (fun r_2 w_1 => wpX5_isOneOrder w_1 (fun r_4 w_3 => (r_2 = r_4 → (post w_3)) ∧ (¬ (r_2 = r_4) → False)))
set_option maxHeartbeats 4000000 in
set_option maxRecDepth 100000 in
theorem mL_C40 {p : Program} {l : Launch} {e : Env} {s : State} {m : MethodId} {below : List Frame} {meth : Method} {c : Code} {D : va_G} {ca : Nat → ClassId} {ad : Nat → Nat} {base b L : Nat} {xs : Nat → Int32} (C0 : LX p l s m c D ca ad base b L xs) {Q : State → Prop} {cells slots : Nat} (hcel : cells + 4 ≤ 603072) (hslo : slots + 24 ≤ 7215210) (i0 : Int32) (w : St) (post : St → Prop) (hw : wpL_C40 xs L i0 w post) (hK : ∀ (w : St), post w → ∀ (H : Heap) (locs : List Loc), PA D ca ad w H → va_S (AB base) s.heap H locs → ∀ ls : Array Slot, lv_has ls 10 [(0, .ref b), (1, .ref (ad 0)), (2, .ref (ad 33)), (3, .ref (ad 59)), (4, .ref (ad 60)), (5, .int i0)] → W p l e room_1 s m #[Value.ref b] below meth c H locs (cells + 4) (slots + 24) Q (F0 m 2692 ls [])) (H : Heap) (locs : List Loc) (hP : PA D ca ad w H) (hS : va_S (AB base) s.heap H locs) (ls : Array Slot) (hl : lv_has ls 10 [(0, .ref b), (1, .ref (ad 0)), (2, .ref (ad 33)), (3, .ref (ad 59)), (4, .ref (ad 60)), (5, .int i0)]) : W p l e room_1 s m #[Value.ref b] below meth c H locs cells slots Q (F0 m 2679 ls []) := by
  obtain ⟨hx, hb, hml, hown, hts, hK0, hXP, hAd, hbs, hX, hbl, hbA, hl9⟩ := C0
  refine lv_aload_n hx hb dL_law_2679 rfl (lv_at hl 1 rfl) ?_
  refine va_calli (va_runV (As := []) (rest := []) ⟨hx, hb, hml, hown, hts⟩ (mX4_isOneOrder l D ca ad base hAd w _ hw) (cwV 0 hts gL_law_X4_isOneOrder rfl rfl rfl (by decide +kernel) ⟨Nat.le_of_ble_eq_true rfl, Nat.le_of_ble_eq_true rfl⟩) (pv [] hK0 hP hbs hS rfl (wg0 ca ad w)) rfl rfl hl.1 rfl (lv_room (Nat.le_of_ble_eq_true rfl)) dL_law_2680 ⟨by simp only [room_1]; omega, by simp only [room_1]; omega⟩) hS (fun q _ h => h) (fun q h => h) (fun r_2 w_1 t H locs ht hvm hw hP hz1 hk1 hS => ?_)
  have hP : PA D ca ad w_1 H := by rw [← ht]; exact hP
  refine lv_aload_n hx hb dL_law_2683 rfl (lv_at hl 2 rfl) ?_
  refine va_calli (va_runV (As := []) (rest := [.int r_2]) ⟨hx, hb, hml, hown, hts⟩ (mX5_isOneOrder l D ca ad base hAd w_1 _ hw) (cwV 0 hts gL_law_X5_isOneOrder rfl rfl rfl (by decide +kernel) ⟨Nat.le_of_ble_eq_true rfl, Nat.le_of_ble_eq_true rfl⟩) (pv [] hK0 hP hbs hS rfl (wg33 ca ad w_1)) rfl rfl hl.1 rfl (lv_room (Nat.le_of_ble_eq_true rfl)) dL_law_2684 ⟨by simp only [room_1]; omega, by simp only [room_1]; omega⟩) hS (fun q _ h => h) (fun q h => h) (fun r_4 w_3 t H locs ht hvm hw hP hz1 hk1 hS => ?_)
  have hP : PA D ca ad w_3 H := by rw [← ht]; exact hP
  refine lv_icmp_eq (tgt := 2692) hx hb dL_law_2687 (by decide) (fun c_5 => ?_) (fun c_5 => ?_)
  · have hw := hw.1 c_5
    refine W.widen (k := cells + 4) (n := slots + 24) (by omega) (by omega) ?_
    exact hK w_3 hw _ _ hP hS ls (lv_sub hl [0, 1, 2, 3, 4, 5] rfl)
  · have hw := hw.2 c_5
    refine lv_iconst (v := 0) hx hb dL_law_2690 (by decide) ?_
    exact hw.elim
