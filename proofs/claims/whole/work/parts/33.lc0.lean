/-- what holds along the law's body: the machine, the tables, the world's place, the script behind it -/
def LX (p : Program) (l : Launch) (s : State) (m : MethodId) (c : Code) (D : va_G) (ca : Nat → ClassId) (ad : Nat → Nat) (base b L : Nat) (xs : Nat → Int32) : Prop :=
  p.tables.exec = Jvm.exec ∧ c.code = code ∧ c.maxLocals = 10 ∧ s.vm.findClass RL = some m.cls ∧ (∀ w ∈ wsL_law, w.before #[Value.ref b] s = true) ∧ KA D ca s ∧ XP base s ∧ okA base ad ∧ base ≤ s.heap.size ∧ va_X b L xs s s.heap ∧ b < s.heap.size ∧ ¬ AB base b ∧ l.stackTraces = false
set_option maxHeartbeats 4000000 in
set_option maxRecDepth 100000 in
def wpL_C0 (xs : Nat → Int32) (L : Nat) (i0 : Int32) (w : St) (post : St → Prop) : Prop := (vp_in (i0 + 1) L) ∧ (wpL_pass (xs ((i0 + 1)).toNatClampNeg) w (fun r_3 w_2 => (vp_in (i0 + 1) L) ∧ (wpX5_pass (xs ((i0 + 1)).toNatClampNeg) w_2 (fun r_6 w_5 => wpX5_thrown w_5 (fun r_8 w_7 => (r_8 = r_3 → ((r_3 = 0 → ((vp_in 0 1) ∧ (((lg_cmp (w_7.2.2.1 (0 : Int32).toNatClampNeg) ((r_6).toInt64)) = 0 → (post w_7)) ∧ (¬ ((lg_cmp (w_7.2.2.1 (0 : Int32).toNatClampNeg) ((r_6).toInt64)) = 0) → False)))) ∧ (¬ (r_3 = 0) → (post w_7)))) ∧ (¬ (r_8 = r_3) → False))))))
set_option maxHeartbeats 4000000 in
set_option maxRecDepth 100000 in
theorem mL_C0 {p : Program} {l : Launch} {e : Env} {s : State} {m : MethodId} {below : List Frame} {meth : Method} {c : Code} {D : va_G} {ca : Nat → ClassId} {ad : Nat → Nat} {base b L : Nat} {xs : Nat → Int32} (C0 : LX p l s m c D ca ad base b L xs) {Q : State → Prop} {cells slots : Nat} (hcel : cells + 4 ≤ 603072) (hslo : slots + 24 ≤ 7215210) (i0 : Int32) (w : St) (post : St → Prop) (hw : wpL_C0 xs L i0 w post) (hK : ∀ (w : St), post w → ∀ (H : Heap) (locs : List Loc), PA D ca ad w H → va_S (AB base) s.heap H locs → ∀ ls : Array Slot, lv_has ls 10 [(0, .ref b), (1, .ref (ad 0)), (2, .ref (ad 33)), (3, .ref (ad 59)), (4, .ref (ad 60)), (5, .int i0)] → W p l e room_1 s m #[Value.ref b] below meth c H locs (cells + 4) (slots + 24) Q (F0 m 2692 ls [])) (H : Heap) (locs : List Loc) (hP : PA D ca ad w H) (hS : va_S (AB base) s.heap H locs) (ls : Array Slot) (hl : lv_has ls 10 [(0, .ref b), (1, .ref (ad 0)), (2, .ref (ad 33)), (3, .ref (ad 59)), (4, .ref (ad 60)), (5, .int i0)]) : W p l e room_1 s m #[Value.ref b] below meth c H locs cells slots Q (F0 m 224 ls []) := by
  obtain ⟨hx, hb, hml, hown, hts, hK0, hXP, hAd, hbs, hX, hbl, hbA, hl9⟩ := C0
  refine lv_aload_n hx hb dL_law_224 rfl (lv_at hl 1 rfl) ?_
  refine lv_aload_n hx hb dL_law_225 rfl (lv_at hl 0 rfl) ?_
  refine lv_iload hx hb dL_law_226 (lv_at hl 5 rfl) ?_
  refine lv_iconst (v := 1) hx hb dL_law_228 (by decide) ?_
  refine lv_iadd hx hb dL_law_229 ?_
  obtain ⟨h_1, hw⟩ := hw
  refine va_sld hx hb hX hbl hbA hS h_1 dL_law_230 ?_
  refine lv_aload_n hx hb dL_law_231 rfl (lv_at hl 3 rfl) ?_
  refine va_calli (vx_runSW (As := [.ref (ad 0), .int (xs ((i0 + 1)).toNatClampNeg), .ref (ad 59)]) (rest := []) ⟨hx, hb, hml, hown, hts⟩ (mL_pass l D ca ad base hAd w (xs ((i0 + 1)).toNatClampNeg) _ hw hl9) (vx_cwSW 3 hts gL_law_L_pass rfl rfl rfl (by decide +kernel) ⟨Nat.le_of_ble_eq_true rfl, Nat.le_of_ble_eq_true rfl⟩) (psx [.ref (ad 0), .int (xs ((i0 + 1)).toNatClampNeg), .ref (ad 59)] hK0 hXP hP hbs hS) rfl rfl hl.1 rfl (lv_room (Nat.le_of_ble_eq_true rfl)) dL_law_232 ⟨by simp only [room_1]; omega, by simp only [room_1]; omega⟩) hS (fun q _ h => h) (fun q h => h) (fun r_3 w_2 t H locs ht hvm hw hP hz1 hk1 hS => ?_)
  have hP : PA D ca ad w_2 H := by rw [← ht]; exact hP
  refine lv_istore (lv' := [(6, .int r_3), (0, .ref b), (1, .ref (ad 0)), (2, .ref (ad 33)), (3, .ref (ad 59)), (4, .ref (ad 60)), (5, .int i0)]) hx hb dL_law_235 hl (by decide) rfl (fun ls hl => ?_)
  refine lv_aload_n hx hb dL_law_237 rfl (lv_at hl 3 rfl) ?_
  refine lv_aload_n hx hb dL_law_238 rfl (lv_at hl 1 rfl) ?_
  refine lv_iload hx hb dL_law_239 (lv_at hl 6 rfl) ?_
  refine lv_iconst (v := 1) hx hb dL_law_241 (by decide) ?_
  refine lv_iadd hx hb dL_law_242 ?_
  obtain ⟨h_4, hw⟩ := hw
  refine va_sld hx hb hX hbl hbA hS h_4 dL_law_243 ?_
  refine va_calli (va_runV (As := [.int (xs ((i0 + 1)).toNatClampNeg)]) (rest := []) ⟨hx, hb, hml, hown, hts⟩ (mX5_pass l D ca ad base hAd w_2 (xs ((i0 + 1)).toNatClampNeg) _ hw) (cwV 1 hts gL_law_X5_pass rfl rfl rfl (by decide +kernel) ⟨Nat.le_of_ble_eq_true rfl, Nat.le_of_ble_eq_true rfl⟩) (pv [.int (xs ((i0 + 1)).toNatClampNeg)] hK0 hP hbs hS rfl (wg33 ca ad w_2)) rfl rfl hl.1 rfl (lv_room (Nat.le_of_ble_eq_true rfl)) dL_law_244 ⟨by simp only [room_1]; omega, by simp only [room_1]; omega⟩) hS (fun q _ h => h) (fun q h => h) (fun r_6 w_5 t H locs ht hvm hw hP hz1 hk1 hS => ?_)
  have hP : PA D ca ad w_5 H := by rw [← ht]; exact hP
  refine lv_istore (lv' := [(7, .int r_6), (6, .int r_3), (0, .ref b), (1, .ref (ad 0)), (2, .ref (ad 33)), (3, .ref (ad 59)), (4, .ref (ad 60)), (5, .int i0)]) hx hb dL_law_247 hl (by decide) rfl (fun ls hl => ?_)
  refine lv_aload_n hx hb dL_law_249 rfl (lv_at hl 4 rfl) ?_
  refine va_calli (va_runV (As := []) (rest := []) ⟨hx, hb, hml, hown, hts⟩ (mX5_thrown l D ca ad base hAd w_5 _ hw) (cwV 0 hts gL_law_X5_thrown rfl rfl rfl (by decide +kernel) ⟨Nat.le_of_ble_eq_true rfl, Nat.le_of_ble_eq_true rfl⟩) (pv [] hK0 hP hbs hS rfl (wg33 ca ad w_5)) rfl rfl hl.1 rfl (lv_room (Nat.le_of_ble_eq_true rfl)) dL_law_250 ⟨by simp only [room_1]; omega, by simp only [room_1]; omega⟩) hS (fun q _ h => h) (fun q h => h) (fun r_8 w_7 t H locs ht hvm hw hP hz1 hk1 hS => ?_)
  have hP : PA D ca ad w_7 H := by rw [← ht]; exact hP
  refine lv_iload hx hb dL_law_253 (lv_at hl 1 rfl) ?_
  refine lv_icmp_eq (tgt := 260) hx hb dL_law_255 (by decide) (fun c_9 => ?_) (fun c_9 => ?_)
  · have hw := hw.1 c_9
    refine lv_iload hx hb dL_law_260 (lv_at hl 1 rfl) ?_
    refine lv_if_ne (tgt := 277) hx hb dL_law_262 (by decide) (fun c_10 => ?_) (fun c_10 => ?_)
    · have hw := hw.2 c_10
      refine lv_goto (tgt := 2692) hx hb dL_law_277 (by decide) ?_
      refine W.widen (k := cells + 4) (n := slots + 24) (by omega) (by omega) ?_
      exact hK w_7 hw _ _ hP hS ls (lv_sub hl [2, 3, 4, 5, 6, 7] rfl)
    · have hw := hw.1 c_10
      refine lv_aload_n hx hb dL_law_265 rfl (lv_at hl 5 rfl) ?_
      refine lv_iconst (v := 0) hx hb dL_law_266 (by decide) ?_
      obtain ⟨h_11, hw⟩ := hw
      refine va_lald hx hb hK0 hP 59 3 (wg59 ca ad w_7) rfl h_11 dL_law_267 ?_
      refine lv_iload hx hb dL_law_268 (lv_at hl 0 rfl) ?_
      refine lv_i2l (v := (r_6).toInt64) hx hb dL_law_270 rfl ?_
      refine W.lcmp hx hb dL_law_271 ?_
      refine lv_if_eq (tgt := 277) hx hb dL_law_272 (by decide) (fun c_12 => ?_) (fun c_12 => ?_)
      · have hw := hw.1 c_12
        refine lv_goto (tgt := 2692) hx hb dL_law_277 (by decide) ?_
        refine W.widen (k := cells + 4) (n := slots + 24) (by omega) (by omega) ?_
        exact hK w_7 hw _ _ hP hS ls (lv_sub hl [2, 3, 4, 5, 6, 7] rfl)
      · have hw := hw.2 c_12
        refine lv_iconst (v := 0) hx hb dL_law_275 (by decide) ?_
        exact hw.elim
  · have hw := hw.2 c_9
    refine lv_iconst (v := 0) hx hb dL_law_258 (by decide) ?_
    exact hw.elim
set_option maxHeartbeats 4000000 in
set_option maxRecDepth 100000 in
def wpL_C1 (xs : Nat → Int32) (L : Nat) (i0 : Int32) (w : St) (post : St → Prop) : Prop := wpX4_time w (fun r_2 w_1 => wpX5_time w_1 (fun r_4 w_3 => (r_2 = r_4 → (post w_3)) ∧ (¬ (r_2 = r_4) → False)))
set_option maxHeartbeats 4000000 in
set_option maxRecDepth 100000 in
theorem mL_C1 {p : Program} {l : Launch} {e : Env} {s : State} {m : MethodId} {below : List Frame} {meth : Method} {c : Code} {D : va_G} {ca : Nat → ClassId} {ad : Nat → Nat} {base b L : Nat} {xs : Nat → Int32} (C0 : LX p l s m c D ca ad base b L xs) {Q : State → Prop} {cells slots : Nat} (hcel : cells + 4 ≤ 603072) (hslo : slots + 24 ≤ 7215210) (i0 : Int32) (w : St) (post : St → Prop) (hw : wpL_C1 xs L i0 w post) (hK : ∀ (w : St), post w → ∀ (H : Heap) (locs : List Loc), PA D ca ad w H → va_S (AB base) s.heap H locs → ∀ ls : Array Slot, lv_has ls 10 [(0, .ref b), (1, .ref (ad 0)), (2, .ref (ad 33)), (3, .ref (ad 59)), (4, .ref (ad 60)), (5, .int i0)] → W p l e room_1 s m #[Value.ref b] below meth c H locs (cells + 4) (slots + 24) Q (F0 m 2692 ls [])) (H : Heap) (locs : List Loc) (hP : PA D ca ad w H) (hS : va_S (AB base) s.heap H locs) (ls : Array Slot) (hl : lv_has ls 10 [(0, .ref b), (1, .ref (ad 0)), (2, .ref (ad 33)), (3, .ref (ad 59)), (4, .ref (ad 60)), (5, .int i0)]) : W p l e room_1 s m #[Value.ref b] below meth c H locs cells slots Q (F0 m 280 ls []) := by
  obtain ⟨hx, hb, hml, hown, hts, hK0, hXP, hAd, hbs, hX, hbl, hbA, hl9⟩ := C0
  refine lv_aload_n hx hb dL_law_280 rfl (lv_at hl 1 rfl) ?_
  refine va_calli (va_runV (As := []) (rest := []) ⟨hx, hb, hml, hown, hts⟩ (mX4_time l D ca ad base hAd w _ hw) (cwV 0 hts gL_law_X4_time rfl rfl rfl (by decide +kernel) ⟨Nat.le_of_ble_eq_true rfl, Nat.le_of_ble_eq_true rfl⟩) (pv [] hK0 hP hbs hS rfl (wg0 ca ad w)) rfl rfl hl.1 rfl (lv_room (Nat.le_of_ble_eq_true rfl)) dL_law_281 ⟨by simp only [room_1]; omega, by simp only [room_1]; omega⟩) hS (fun q _ h => h) (fun q h => h) (fun r_2 w_1 t H locs ht hvm hw hP hz1 hk1 hS => ?_)
  have hP : PA D ca ad w_1 H := by rw [← ht]; exact hP
  refine lv_aload_n hx hb dL_law_284 rfl (lv_at hl 2 rfl) ?_
  refine va_calli (va_runV (As := []) (rest := [.int r_2]) ⟨hx, hb, hml, hown, hts⟩ (mX5_time l D ca ad base hAd w_1 _ hw) (cwV 0 hts gL_law_X5_time rfl rfl rfl (by decide +kernel) ⟨Nat.le_of_ble_eq_true rfl, Nat.le_of_ble_eq_true rfl⟩) (pv [] hK0 hP hbs hS rfl (wg33 ca ad w_1)) rfl rfl hl.1 rfl (lv_room (Nat.le_of_ble_eq_true rfl)) dL_law_285 ⟨by simp only [room_1]; omega, by simp only [room_1]; omega⟩) hS (fun q _ h => h) (fun q h => h) (fun r_4 w_3 t H locs ht hvm hw hP hz1 hk1 hS => ?_)
  have hP : PA D ca ad w_3 H := by rw [← ht]; exact hP
  refine lv_icmp_eq (tgt := 2692) hx hb dL_law_288 (by decide) (fun c_5 => ?_) (fun c_5 => ?_)
  · have hw := hw.1 c_5
    refine W.widen (k := cells + 4) (n := slots + 24) (by omega) (by omega) ?_
    exact hK w_3 hw _ _ hP hS ls (lv_sub hl [0, 1, 2, 3, 4, 5] rfl)
  · have hw := hw.2 c_5
    refine lv_iconst (v := 0) hx hb dL_law_291 (by decide) ?_
    exact hw.elim
set_option maxHeartbeats 4000000 in
set_option maxRecDepth 100000 in
def wpL_C2_B375 (xs : Nat → Int32) (L : Nat) (i0 : Int32) (post : St → Prop) (s0 : Int64) (s1 : Int64) (w : St) : Prop := ((lg_cmp s1 s0) = 0 → (post w)) ∧ (¬ ((lg_cmp s1 s0) = 0) → False)
set_option maxHeartbeats 4000000 in
set_option maxRecDepth 100000 in
def wpL_C2_B341 (xs : Nat → Int32) (L : Nat) (i0 : Int32) (post : St → Prop) (v6 : Int32) (s0 : Int32) (s1 : Int32) (w : St) : Prop := wpX5_setDown s1 s0 w (fun r_3 w_2 => wpX5_thrown w_2 (fun r_5 w_4 => (r_5 = v6 → ((v6 = 0 → ((vp_in 0 1) ∧ ((r_3 = 0 → (wpL_C2_B375 xs L i0 post 0 (w_4.2.2.1 (0 : Int32).toNatClampNeg) w_4)) ∧ (¬ (r_3 = 0) → (wpL_C2_B375 xs L i0 post 1 (w_4.2.2.1 (0 : Int32).toNatClampNeg) w_4))))) ∧ (¬ (v6 = 0) → (post w_4)))) ∧ (¬ (r_5 = v6) → False)))
set_option maxHeartbeats 4000000 in
set_option maxRecDepth 100000 in
def wpL_C2_B314 (xs : Nat → Int32) (L : Nat) (i0 : Int32) (post : St → Prop) (s0 : Int32) (s1 : Int32) (w : St) : Prop := wpL_setDown s1 s0 w (fun r_11 w_10 => (vp_in (i0 + 1) L) ∧ ((vp_in (i0 + 2) L) ∧ (((xs ((i0 + 2)).toNatClampNeg) = 0 → (wpL_C2_B341 xs L i0 post r_11 0 (xs ((i0 + 1)).toNatClampNeg) w_10)) ∧ (¬ ((xs ((i0 + 2)).toNatClampNeg) = 0) → (wpL_C2_B341 xs L i0 post r_11 1 (xs ((i0 + 1)).toNatClampNeg) w_10)))))
set_option maxHeartbeats 4000000 in
set_option maxRecDepth 100000 in
def wpL_C2 (xs : Nat → Int32) (L : Nat) (i0 : Int32) (w : St) (post : St → Prop) : Prop := (vp_in (i0 + 1) L) ∧ ((vp_in (i0 + 2) L) ∧ (((xs ((i0 + 2)).toNatClampNeg) = 0 → (wpL_C2_B314 xs L i0 post 0 (xs ((i0 + 1)).toNatClampNeg) w)) ∧ (¬ ((xs ((i0 + 2)).toNatClampNeg) = 0) → (wpL_C2_B314 xs L i0 post 1 (xs ((i0 + 1)).toNatClampNeg) w))))
set_option maxHeartbeats 4000000 in
set_option maxRecDepth 100000 in
theorem mL_C2 {p : Program} {l : Launch} {e : Env} {s : State} {m : MethodId} {below : List Frame} {meth : Method} {c : Code} {D : va_G} {ca : Nat → ClassId} {ad : Nat → Nat} {base b L : Nat} {xs : Nat → Int32} (C0 : LX p l s m c D ca ad base b L xs) {Q : State → Prop} {cells slots : Nat} (hcel : cells + 4 ≤ 603072) (hslo : slots + 24 ≤ 7215210) (i0 : Int32) (w : St) (post : St → Prop) (hw : wpL_C2 xs L i0 w post) (hK : ∀ (w : St), post w → ∀ (H : Heap) (locs : List Loc), PA D ca ad w H → va_S (AB base) s.heap H locs → ∀ ls : Array Slot, lv_has ls 10 [(0, .ref b), (1, .ref (ad 0)), (2, .ref (ad 33)), (3, .ref (ad 59)), (4, .ref (ad 60)), (5, .int i0)] → W p l e room_1 s m #[Value.ref b] below meth c H locs (cells + 4) (slots + 24) Q (F0 m 2692 ls [])) (H : Heap) (locs : List Loc) (hP : PA D ca ad w H) (hS : va_S (AB base) s.heap H locs) (ls : Array Slot) (hl : lv_has ls 10 [(0, .ref b), (1, .ref (ad 0)), (2, .ref (ad 33)), (3, .ref (ad 59)), (4, .ref (ad 60)), (5, .int i0)]) : W p l e room_1 s m #[Value.ref b] below meth c H locs cells slots Q (F0 m 293 ls []) := by
  obtain ⟨hx, hb, hml, hown, hts, hK0, hXP, hAd, hbs, hX, hbl, hbA, hl9⟩ := C0
  have hB375 : ∀ (s0 : Int64) (s1 : Int64) (w : St), wpL_C2_B375 xs L i0 post s0 s1 w → ∀ (H : Heap) (locs : List Loc), PA D ca ad w H → va_S (AB base) s.heap H locs → ∀ ls : Array Slot, lv_has ls 10 [(0, .ref b), (1, .ref (ad 0)), (2, .ref (ad 33)), (3, .ref (ad 59)), (4, .ref (ad 60)), (5, .int i0)] → W p l e room_1 s m #[Value.ref b] below meth c H locs (cells + 4) (slots + 24) Q (F0 m 375 ls [.long s0, .long s1]) := by
    intro s0 s1 w hw H locs hP hS ls hl
    refine W.lcmp hx hb dL_law_375 ?_
    refine lv_if_eq (tgt := 381) hx hb dL_law_376 (by decide) (fun c_1 => ?_) (fun c_1 => ?_)
    · have hw := hw.1 c_1
      refine lv_goto (tgt := 2692) hx hb dL_law_381 (by decide) ?_
      refine W.widen (k := cells + 4) (n := slots + 24) (by omega) (by omega) ?_
      exact hK w hw _ _ hP hS ls (lv_sub hl [0, 1, 2, 3, 4, 5] rfl)
    · have hw := hw.2 c_1
      refine lv_iconst (v := 0) hx hb dL_law_379 (by decide) ?_
      exact hw.elim
  have hB341 : ∀ (v6 : Int32) (s0 : Int32) (s1 : Int32) (w : St), wpL_C2_B341 xs L i0 post v6 s0 s1 w → ∀ (H : Heap) (locs : List Loc), PA D ca ad w H → va_S (AB base) s.heap H locs → ∀ ls : Array Slot, lv_has ls 10 [(0, .ref b), (1, .ref (ad 0)), (2, .ref (ad 33)), (3, .ref (ad 59)), (4, .ref (ad 60)), (5, .int i0), (6, .int v6)] → W p l e room_1 s m #[Value.ref b] below meth c H locs (cells + 4) (slots + 24) Q (F0 m 341 ls [.int s0, .int s1, .ref (ad 33)]) := by
    intro v6 s0 s1 w hw H locs hP hS ls hl
    refine va_calli (va_runV (As := [.int s1, .int s0]) (rest := []) ⟨hx, hb, hml, hown, hts⟩ (mX5_setDown l D ca ad base hAd w s1 s0 _ hw) (cwV 2 hts gL_law_X5_setDown rfl rfl rfl (by decide +kernel) ⟨Nat.le_of_ble_eq_true rfl, Nat.le_of_ble_eq_true rfl⟩) (pv [.int s1, .int s0] hK0 hP hbs hS rfl (wg33 ca ad w)) rfl rfl hl.1 rfl (lv_room (Nat.le_of_ble_eq_true rfl)) dL_law_341 ⟨by simp only [room_1]; omega, by simp only [room_1]; omega⟩) hS (fun q _ h => h) (fun q h => h) (fun r_3 w_2 t H locs ht hvm hw hP hz1 hk1 hS => ?_)
    have hP : PA D ca ad w_2 H := by rw [← ht]; exact hP
    refine lv_istore (lv' := [(7, .int r_3), (0, .ref b), (1, .ref (ad 0)), (2, .ref (ad 33)), (3, .ref (ad 59)), (4, .ref (ad 60)), (5, .int i0), (6, .int v6)]) hx hb dL_law_344 hl (by decide) rfl (fun ls hl => ?_)
    refine lv_aload_n hx hb dL_law_346 rfl (lv_at hl 3 rfl) ?_
    refine va_calli (va_runV (As := []) (rest := []) ⟨hx, hb, hml, hown, hts⟩ (mX5_thrown l D ca ad base hAd w_2 _ hw) (cwV 0 hts gL_law_X5_thrown rfl rfl rfl (by decide +kernel) ⟨Nat.le_of_ble_eq_true rfl, Nat.le_of_ble_eq_true rfl⟩) (pv [] hK0 hP hbs hS rfl (wg33 ca ad w_2)) rfl rfl hl.1 rfl (lv_room (Nat.le_of_ble_eq_true rfl)) dL_law_347 ⟨by simp only [room_1]; omega, by simp only [room_1]; omega⟩) hS (fun q _ h => h) (fun q h => h) (fun r_5 w_4 t H locs ht hvm hw hP hz1 hk1 hS => ?_)
    have hP : PA D ca ad w_4 H := by rw [← ht]; exact hP
    refine lv_iload hx hb dL_law_350 (lv_at hl 7 rfl) ?_
    refine lv_icmp_eq (tgt := 357) hx hb dL_law_352 (by decide) (fun c_6 => ?_) (fun c_6 => ?_)
    · have hw := hw.1 c_6
      refine lv_iload hx hb dL_law_357 (lv_at hl 7 rfl) ?_
      refine lv_if_ne (tgt := 381) hx hb dL_law_359 (by decide) (fun c_7 => ?_) (fun c_7 => ?_)
      · have hw := hw.2 c_7
        refine lv_goto (tgt := 2692) hx hb dL_law_381 (by decide) ?_
        refine W.widen (k := cells + 4) (n := slots + 24) (by omega) (by omega) ?_
        exact hK w_4 hw _ _ hP hS ls (lv_sub hl [1, 2, 3, 4, 5, 6] rfl)
      · have hw := hw.1 c_7
        refine lv_aload_n hx hb dL_law_362 rfl (lv_at hl 4 rfl) ?_
        refine lv_iconst (v := 0) hx hb dL_law_363 (by decide) ?_
        obtain ⟨h_8, hw⟩ := hw
        refine va_lald hx hb hK0 hP 59 3 (wg59 ca ad w_4) rfl h_8 dL_law_364 ?_
        refine lv_iload hx hb dL_law_365 (lv_at hl 0 rfl) ?_
        refine lv_if_eq (tgt := 374) hx hb dL_law_367 (by decide) (fun c_9 => ?_) (fun c_9 => ?_)
        · have hw := hw.1 c_9
          refine lv_lconst (v := 0) hx hb dL_law_374 (by decide) ?_
          refine W.widen (k := cells + 4) (n := slots + 24) (by omega) (by omega) ?_
          exact hB375 0 (w_4.2.2.1 (0 : Int32).toNatClampNeg) w_4 hw _ _ hP hS ls (lv_sub hl [1, 2, 3, 4, 5, 6] rfl)
        · have hw := hw.2 c_9
          refine lv_lconst (v := 1) hx hb dL_law_370 (by decide) ?_
          refine lv_goto (tgt := 375) hx hb dL_law_371 (by decide) ?_
          refine W.widen (k := cells + 4) (n := slots + 24) (by omega) (by omega) ?_
          exact hB375 1 (w_4.2.2.1 (0 : Int32).toNatClampNeg) w_4 hw _ _ hP hS ls (lv_sub hl [1, 2, 3, 4, 5, 6] rfl)
    · have hw := hw.2 c_6
      refine lv_iconst (v := 0) hx hb dL_law_355 (by decide) ?_
      exact hw.elim
  have hB314 : ∀ (s0 : Int32) (s1 : Int32) (w : St), wpL_C2_B314 xs L i0 post s0 s1 w → ∀ (H : Heap) (locs : List Loc), PA D ca ad w H → va_S (AB base) s.heap H locs → ∀ ls : Array Slot, lv_has ls 10 [(0, .ref b), (1, .ref (ad 0)), (2, .ref (ad 33)), (3, .ref (ad 59)), (4, .ref (ad 60)), (5, .int i0)] → W p l e room_1 s m #[Value.ref b] below meth c H locs cells slots Q (F0 m 314 ls [.int s0, .int s1, .ref (ad 0)]) := by
    intro s0 s1 w hw H locs hP hS ls hl
    refine lv_aload_n hx hb dL_law_314 rfl (lv_at hl 3 rfl) ?_
    refine va_calli (vx_runSW (As := [.ref (ad 0), .int s1, .int s0, .ref (ad 59)]) (rest := []) ⟨hx, hb, hml, hown, hts⟩ (mL_setDown l D ca ad base hAd w s1 s0 _ hw hl9) (vx_cwSW 4 hts gL_law_L_setDown rfl rfl rfl (by decide +kernel) ⟨Nat.le_of_ble_eq_true rfl, Nat.le_of_ble_eq_true rfl⟩) (psx [.ref (ad 0), .int s1, .int s0, .ref (ad 59)] hK0 hXP hP hbs hS) rfl rfl hl.1 rfl (lv_room (Nat.le_of_ble_eq_true rfl)) dL_law_315 ⟨by simp only [room_1]; omega, by simp only [room_1]; omega⟩) hS (fun q _ h => h) (fun q h => h) (fun r_11 w_10 t H locs ht hvm hw hP hz1 hk1 hS => ?_)
    have hP : PA D ca ad w_10 H := by rw [← ht]; exact hP
    refine lv_istore (lv' := [(6, .int r_11), (0, .ref b), (1, .ref (ad 0)), (2, .ref (ad 33)), (3, .ref (ad 59)), (4, .ref (ad 60)), (5, .int i0)]) hx hb dL_law_318 hl (by decide) rfl (fun ls hl => ?_)
    refine lv_aload_n hx hb dL_law_320 rfl (lv_at hl 3 rfl) ?_
    refine lv_aload_n hx hb dL_law_321 rfl (lv_at hl 1 rfl) ?_
    refine lv_iload hx hb dL_law_322 (lv_at hl 6 rfl) ?_
    refine lv_iconst (v := 1) hx hb dL_law_324 (by decide) ?_
    refine lv_iadd hx hb dL_law_325 ?_
    obtain ⟨h_12, hw⟩ := hw
    refine va_sld hx hb hX hbl hbA hS h_12 dL_law_326 ?_
    refine lv_aload_n hx hb dL_law_327 rfl (lv_at hl 1 rfl) ?_
    refine lv_iload hx hb dL_law_328 (lv_at hl 6 rfl) ?_
    refine lv_iconst (v := 2) hx hb dL_law_330 (by decide) ?_
    refine lv_iadd hx hb dL_law_331 ?_
    obtain ⟨h_13, hw⟩ := hw
    refine va_sld hx hb hX hbl hbA hS h_13 dL_law_332 ?_
    refine lv_if_eq (tgt := 340) hx hb dL_law_333 (by decide) (fun c_14 => ?_) (fun c_14 => ?_)
    · have hw := hw.1 c_14
      refine lv_iconst (v := 0) hx hb dL_law_340 (by decide) ?_
      refine W.widen (k := cells + 4) (n := slots + 24) (by omega) (by omega) ?_
      exact hB341 r_11 0 (xs ((i0 + 1)).toNatClampNeg) w_10 hw _ _ hP hS ls (lv_sub hl [1, 2, 3, 4, 5, 6, 0] rfl)
    · have hw := hw.2 c_14
      refine lv_iconst (v := 1) hx hb dL_law_336 (by decide) ?_
      refine lv_goto (tgt := 341) hx hb dL_law_337 (by decide) ?_
      refine W.widen (k := cells + 4) (n := slots + 24) (by omega) (by omega) ?_
      exact hB341 r_11 1 (xs ((i0 + 1)).toNatClampNeg) w_10 hw _ _ hP hS ls (lv_sub hl [1, 2, 3, 4, 5, 6, 0] rfl)
  refine lv_aload_n hx hb dL_law_293 rfl (lv_at hl 1 rfl) ?_
  refine lv_aload_n hx hb dL_law_294 rfl (lv_at hl 0 rfl) ?_
  refine lv_iload hx hb dL_law_295 (lv_at hl 5 rfl) ?_
  refine lv_iconst (v := 1) hx hb dL_law_297 (by decide) ?_
  refine lv_iadd hx hb dL_law_298 ?_
  obtain ⟨h_15, hw⟩ := hw
  refine va_sld hx hb hX hbl hbA hS h_15 dL_law_299 ?_
  refine lv_aload_n hx hb dL_law_300 rfl (lv_at hl 0 rfl) ?_
  refine lv_iload hx hb dL_law_301 (lv_at hl 5 rfl) ?_
  refine lv_iconst (v := 2) hx hb dL_law_303 (by decide) ?_
  refine lv_iadd hx hb dL_law_304 ?_
  obtain ⟨h_16, hw⟩ := hw
  refine va_sld hx hb hX hbl hbA hS h_16 dL_law_305 ?_
  refine lv_if_eq (tgt := 313) hx hb dL_law_306 (by decide) (fun c_17 => ?_) (fun c_17 => ?_)
  · have hw := hw.1 c_17
    refine lv_iconst (v := 0) hx hb dL_law_313 (by decide) ?_
    exact hB314 0 (xs ((i0 + 1)).toNatClampNeg) w hw _ _ hP hS ls (lv_sub hl [0, 1, 2, 3, 4, 5] rfl)
  · have hw := hw.2 c_17
    refine lv_iconst (v := 1) hx hb dL_law_309 (by decide) ?_
    refine lv_goto (tgt := 314) hx hb dL_law_310 (by decide) ?_
    exact hB314 1 (xs ((i0 + 1)).toNatClampNeg) w hw _ _ hP hS ls (lv_sub hl [0, 1, 2, 3, 4, 5] rfl)
set_option maxHeartbeats 4000000 in
set_option maxRecDepth 100000 in
def wpL_C3_B478 (xs : Nat → Int32) (L : Nat) (i0 : Int32) (post : St → Prop) (s0 : Int64) (s1 : Int64) (w : St) : Prop := ((lg_cmp s1 s0) = 0 → (post w)) ∧ (¬ ((lg_cmp s1 s0) = 0) → False)
set_option maxHeartbeats 4000000 in
set_option maxRecDepth 100000 in
def wpL_C3_B444 (xs : Nat → Int32) (L : Nat) (i0 : Int32) (post : St → Prop) (v6 : Int32) (s0 : Int32) (s1 : Int32) (s2 : Int32) (w : St) : Prop := wpX5_setCut s2 s1 s0 w (fun r_3 w_2 => wpX5_thrown w_2 (fun r_5 w_4 => (r_5 = v6 → ((v6 = 0 → ((vp_in 0 1) ∧ ((r_3 = 0 → (wpL_C3_B478 xs L i0 post 0 (w_4.2.2.1 (0 : Int32).toNatClampNeg) w_4)) ∧ (¬ (r_3 = 0) → (wpL_C3_B478 xs L i0 post 1 (w_4.2.2.1 (0 : Int32).toNatClampNeg) w_4))))) ∧ (¬ (v6 = 0) → (post w_4)))) ∧ (¬ (r_5 = v6) → False)))
set_option maxHeartbeats 4000000 in
set_option maxRecDepth 100000 in
def wpL_C3_B411 (xs : Nat → Int32) (L : Nat) (i0 : Int32) (post : St → Prop) (s0 : Int32) (s1 : Int32) (s2 : Int32) (w : St) : Prop := wpL_setCut s2 s1 s0 w (fun r_11 w_10 => (vp_in (i0 + 1) L) ∧ ((vp_in (i0 + 2) L) ∧ ((vp_in (i0 + 3) L) ∧ (((xs ((i0 + 3)).toNatClampNeg) = 0 → (wpL_C3_B444 xs L i0 post r_11 0 (xs ((i0 + 2)).toNatClampNeg) (xs ((i0 + 1)).toNatClampNeg) w_10)) ∧ (¬ ((xs ((i0 + 3)).toNatClampNeg) = 0) → (wpL_C3_B444 xs L i0 post r_11 1 (xs ((i0 + 2)).toNatClampNeg) (xs ((i0 + 1)).toNatClampNeg) w_10))))))
set_option maxHeartbeats 4000000 in
set_option maxRecDepth 100000 in
def wpL_C3 (xs : Nat → Int32) (L : Nat) (i0 : Int32) (w : St) (post : St → Prop) : Prop := (vp_in (i0 + 1) L) ∧ ((vp_in (i0 + 2) L) ∧ ((vp_in (i0 + 3) L) ∧ (((xs ((i0 + 3)).toNatClampNeg) = 0 → (wpL_C3_B411 xs L i0 post 0 (xs ((i0 + 2)).toNatClampNeg) (xs ((i0 + 1)).toNatClampNeg) w)) ∧ (¬ ((xs ((i0 + 3)).toNatClampNeg) = 0) → (wpL_C3_B411 xs L i0 post 1 (xs ((i0 + 2)).toNatClampNeg) (xs ((i0 + 1)).toNatClampNeg) w)))))
set_option maxHeartbeats 4000000 in
set_option maxRecDepth 100000 in
theorem mL_C3 {p : Program} {l : Launch} {e : Env} {s : State} {m : MethodId} {below : List Frame} {meth : Method} {c : Code} {D : va_G} {ca : Nat → ClassId} {ad : Nat → Nat} {base b L : Nat} {xs : Nat → Int32} (C0 : LX p l s m c D ca ad base b L xs) {Q : State → Prop} {cells slots : Nat} (hcel : cells + 4 ≤ 603072) (hslo : slots + 24 ≤ 7215210) (i0 : Int32) (w : St) (post : St → Prop) (hw : wpL_C3 xs L i0 w post) (hK : ∀ (w : St), post w → ∀ (H : Heap) (locs : List Loc), PA D ca ad w H → va_S (AB base) s.heap H locs → ∀ ls : Array Slot, lv_has ls 10 [(0, .ref b), (1, .ref (ad 0)), (2, .ref (ad 33)), (3, .ref (ad 59)), (4, .ref (ad 60)), (5, .int i0)] → W p l e room_1 s m #[Value.ref b] below meth c H locs (cells + 4) (slots + 24) Q (F0 m 2692 ls [])) (H : Heap) (locs : List Loc) (hP : PA D ca ad w H) (hS : va_S (AB base) s.heap H locs) (ls : Array Slot) (hl : lv_has ls 10 [(0, .ref b), (1, .ref (ad 0)), (2, .ref (ad 33)), (3, .ref (ad 59)), (4, .ref (ad 60)), (5, .int i0)]) : W p l e room_1 s m #[Value.ref b] below meth c H locs cells slots Q (F0 m 384 ls []) := by
  obtain ⟨hx, hb, hml, hown, hts, hK0, hXP, hAd, hbs, hX, hbl, hbA, hl9⟩ := C0
  have hB478 : ∀ (s0 : Int64) (s1 : Int64) (w : St), wpL_C3_B478 xs L i0 post s0 s1 w → ∀ (H : Heap) (locs : List Loc), PA D ca ad w H → va_S (AB base) s.heap H locs → ∀ ls : Array Slot, lv_has ls 10 [(0, .ref b), (1, .ref (ad 0)), (2, .ref (ad 33)), (3, .ref (ad 59)), (4, .ref (ad 60)), (5, .int i0)] → W p l e room_1 s m #[Value.ref b] below meth c H locs (cells + 4) (slots + 24) Q (F0 m 478 ls [.long s0, .long s1]) := by
    intro s0 s1 w hw H locs hP hS ls hl
    refine W.lcmp hx hb dL_law_478 ?_
    refine lv_if_eq (tgt := 484) hx hb dL_law_479 (by decide) (fun c_1 => ?_) (fun c_1 => ?_)
    · have hw := hw.1 c_1
      refine lv_goto (tgt := 2692) hx hb dL_law_484 (by decide) ?_
      refine W.widen (k := cells + 4) (n := slots + 24) (by omega) (by omega) ?_
      exact hK w hw _ _ hP hS ls (lv_sub hl [0, 1, 2, 3, 4, 5] rfl)
    · have hw := hw.2 c_1
      refine lv_iconst (v := 0) hx hb dL_law_482 (by decide) ?_
      exact hw.elim
  have hB444 : ∀ (v6 : Int32) (s0 : Int32) (s1 : Int32) (s2 : Int32) (w : St), wpL_C3_B444 xs L i0 post v6 s0 s1 s2 w → ∀ (H : Heap) (locs : List Loc), PA D ca ad w H → va_S (AB base) s.heap H locs → ∀ ls : Array Slot, lv_has ls 10 [(0, .ref b), (1, .ref (ad 0)), (2, .ref (ad 33)), (3, .ref (ad 59)), (4, .ref (ad 60)), (5, .int i0), (6, .int v6)] → W p l e room_1 s m #[Value.ref b] below meth c H locs (cells + 4) (slots + 24) Q (F0 m 444 ls [.int s0, .int s1, .int s2, .ref (ad 33)]) := by
    intro v6 s0 s1 s2 w hw H locs hP hS ls hl
    refine va_calli (va_runV (As := [.int s2, .int s1, .int s0]) (rest := []) ⟨hx, hb, hml, hown, hts⟩ (mX5_setCut l D ca ad base hAd w s2 s1 s0 _ hw) (cwV 3 hts gL_law_X5_setCut rfl rfl rfl (by decide +kernel) ⟨Nat.le_of_ble_eq_true rfl, Nat.le_of_ble_eq_true rfl⟩) (pv [.int s2, .int s1, .int s0] hK0 hP hbs hS rfl (wg33 ca ad w)) rfl rfl hl.1 rfl (lv_room (Nat.le_of_ble_eq_true rfl)) dL_law_444 ⟨by simp only [room_1]; omega, by simp only [room_1]; omega⟩) hS (fun q _ h => h) (fun q h => h) (fun r_3 w_2 t H locs ht hvm hw hP hz1 hk1 hS => ?_)
    have hP : PA D ca ad w_2 H := by rw [← ht]; exact hP
    refine lv_istore (lv' := [(7, .int r_3), (0, .ref b), (1, .ref (ad 0)), (2, .ref (ad 33)), (3, .ref (ad 59)), (4, .ref (ad 60)), (5, .int i0), (6, .int v6)]) hx hb dL_law_447 hl (by decide) rfl (fun ls hl => ?_)
    refine lv_aload_n hx hb dL_law_449 rfl (lv_at hl 3 rfl) ?_
    refine va_calli (va_runV (As := []) (rest := []) ⟨hx, hb, hml, hown, hts⟩ (mX5_thrown l D ca ad base hAd w_2 _ hw) (cwV 0 hts gL_law_X5_thrown rfl rfl rfl (by decide +kernel) ⟨Nat.le_of_ble_eq_true rfl, Nat.le_of_ble_eq_true rfl⟩) (pv [] hK0 hP hbs hS rfl (wg33 ca ad w_2)) rfl rfl hl.1 rfl (lv_room (Nat.le_of_ble_eq_true rfl)) dL_law_450 ⟨by simp only [room_1]; omega, by simp only [room_1]; omega⟩) hS (fun q _ h => h) (fun q h => h) (fun r_5 w_4 t H locs ht hvm hw hP hz1 hk1 hS => ?_)
    have hP : PA D ca ad w_4 H := by rw [← ht]; exact hP
    refine lv_iload hx hb dL_law_453 (lv_at hl 7 rfl) ?_
    refine lv_icmp_eq (tgt := 460) hx hb dL_law_455 (by decide) (fun c_6 => ?_) (fun c_6 => ?_)
    · have hw := hw.1 c_6
      refine lv_iload hx hb dL_law_460 (lv_at hl 7 rfl) ?_
      refine lv_if_ne (tgt := 484) hx hb dL_law_462 (by decide) (fun c_7 => ?_) (fun c_7 => ?_)
      · have hw := hw.2 c_7
        refine lv_goto (tgt := 2692) hx hb dL_law_484 (by decide) ?_
        refine W.widen (k := cells + 4) (n := slots + 24) (by omega) (by omega) ?_
        exact hK w_4 hw _ _ hP hS ls (lv_sub hl [1, 2, 3, 4, 5, 6] rfl)
      · have hw := hw.1 c_7
        refine lv_aload_n hx hb dL_law_465 rfl (lv_at hl 4 rfl) ?_
        refine lv_iconst (v := 0) hx hb dL_law_466 (by decide) ?_
        obtain ⟨h_8, hw⟩ := hw
        refine va_lald hx hb hK0 hP 59 3 (wg59 ca ad w_4) rfl h_8 dL_law_467 ?_
        refine lv_iload hx hb dL_law_468 (lv_at hl 0 rfl) ?_
        refine lv_if_eq (tgt := 477) hx hb dL_law_470 (by decide) (fun c_9 => ?_) (fun c_9 => ?_)
        · have hw := hw.1 c_9
          refine lv_lconst (v := 0) hx hb dL_law_477 (by decide) ?_
          refine W.widen (k := cells + 4) (n := slots + 24) (by omega) (by omega) ?_
          exact hB478 0 (w_4.2.2.1 (0 : Int32).toNatClampNeg) w_4 hw _ _ hP hS ls (lv_sub hl [1, 2, 3, 4, 5, 6] rfl)
        · have hw := hw.2 c_9
          refine lv_lconst (v := 1) hx hb dL_law_473 (by decide) ?_
          refine lv_goto (tgt := 478) hx hb dL_law_474 (by decide) ?_
          refine W.widen (k := cells + 4) (n := slots + 24) (by omega) (by omega) ?_
          exact hB478 1 (w_4.2.2.1 (0 : Int32).toNatClampNeg) w_4 hw _ _ hP hS ls (lv_sub hl [1, 2, 3, 4, 5, 6] rfl)
    · have hw := hw.2 c_6
      refine lv_iconst (v := 0) hx hb dL_law_458 (by decide) ?_
      exact hw.elim
  have hB411 : ∀ (s0 : Int32) (s1 : Int32) (s2 : Int32) (w : St), wpL_C3_B411 xs L i0 post s0 s1 s2 w → ∀ (H : Heap) (locs : List Loc), PA D ca ad w H → va_S (AB base) s.heap H locs → ∀ ls : Array Slot, lv_has ls 10 [(0, .ref b), (1, .ref (ad 0)), (2, .ref (ad 33)), (3, .ref (ad 59)), (4, .ref (ad 60)), (5, .int i0)] → W p l e room_1 s m #[Value.ref b] below meth c H locs cells slots Q (F0 m 411 ls [.int s0, .int s1, .int s2, .ref (ad 0)]) := by
    intro s0 s1 s2 w hw H locs hP hS ls hl
    refine lv_aload_n hx hb dL_law_411 rfl (lv_at hl 3 rfl) ?_
    refine va_calli (vx_runSW (As := [.ref (ad 0), .int s2, .int s1, .int s0, .ref (ad 59)]) (rest := []) ⟨hx, hb, hml, hown, hts⟩ (mL_setCut l D ca ad base hAd w s2 s1 s0 _ hw hl9) (vx_cwSW 5 hts gL_law_L_setCut rfl rfl rfl (by decide +kernel) ⟨Nat.le_of_ble_eq_true rfl, Nat.le_of_ble_eq_true rfl⟩) (psx [.ref (ad 0), .int s2, .int s1, .int s0, .ref (ad 59)] hK0 hXP hP hbs hS) rfl rfl hl.1 rfl (lv_room (Nat.le_of_ble_eq_true rfl)) dL_law_412 ⟨by simp only [room_1]; omega, by simp only [room_1]; omega⟩) hS (fun q _ h => h) (fun q h => h) (fun r_11 w_10 t H locs ht hvm hw hP hz1 hk1 hS => ?_)
    have hP : PA D ca ad w_10 H := by rw [← ht]; exact hP
    refine lv_istore (lv' := [(6, .int r_11), (0, .ref b), (1, .ref (ad 0)), (2, .ref (ad 33)), (3, .ref (ad 59)), (4, .ref (ad 60)), (5, .int i0)]) hx hb dL_law_415 hl (by decide) rfl (fun ls hl => ?_)
    refine lv_aload_n hx hb dL_law_417 rfl (lv_at hl 3 rfl) ?_
    refine lv_aload_n hx hb dL_law_418 rfl (lv_at hl 1 rfl) ?_
    refine lv_iload hx hb dL_law_419 (lv_at hl 6 rfl) ?_
    refine lv_iconst (v := 1) hx hb dL_law_421 (by decide) ?_
    refine lv_iadd hx hb dL_law_422 ?_
    obtain ⟨h_12, hw⟩ := hw
    refine va_sld hx hb hX hbl hbA hS h_12 dL_law_423 ?_
    refine lv_aload_n hx hb dL_law_424 rfl (lv_at hl 1 rfl) ?_
    refine lv_iload hx hb dL_law_425 (lv_at hl 6 rfl) ?_
    refine lv_iconst (v := 2) hx hb dL_law_427 (by decide) ?_
    refine lv_iadd hx hb dL_law_428 ?_
    obtain ⟨h_13, hw⟩ := hw
    refine va_sld hx hb hX hbl hbA hS h_13 dL_law_429 ?_
    refine lv_aload_n hx hb dL_law_430 rfl (lv_at hl 1 rfl) ?_
    refine lv_iload hx hb dL_law_431 (lv_at hl 6 rfl) ?_
    refine lv_iconst (v := 3) hx hb dL_law_433 (by decide) ?_
    refine lv_iadd hx hb dL_law_434 ?_
    obtain ⟨h_14, hw⟩ := hw
    refine va_sld hx hb hX hbl hbA hS h_14 dL_law_435 ?_
    refine lv_if_eq (tgt := 443) hx hb dL_law_436 (by decide) (fun c_15 => ?_) (fun c_15 => ?_)
    · have hw := hw.1 c_15
      refine lv_iconst (v := 0) hx hb dL_law_443 (by decide) ?_
      refine W.widen (k := cells + 4) (n := slots + 24) (by omega) (by omega) ?_
      exact hB444 r_11 0 (xs ((i0 + 2)).toNatClampNeg) (xs ((i0 + 1)).toNatClampNeg) w_10 hw _ _ hP hS ls (lv_sub hl [1, 2, 3, 4, 5, 6, 0] rfl)
    · have hw := hw.2 c_15
      refine lv_iconst (v := 1) hx hb dL_law_439 (by decide) ?_
      refine lv_goto (tgt := 444) hx hb dL_law_440 (by decide) ?_
      refine W.widen (k := cells + 4) (n := slots + 24) (by omega) (by omega) ?_
      exact hB444 r_11 1 (xs ((i0 + 2)).toNatClampNeg) (xs ((i0 + 1)).toNatClampNeg) w_10 hw _ _ hP hS ls (lv_sub hl [1, 2, 3, 4, 5, 6, 0] rfl)
  refine lv_aload_n hx hb dL_law_384 rfl (lv_at hl 1 rfl) ?_
  refine lv_aload_n hx hb dL_law_385 rfl (lv_at hl 0 rfl) ?_
  refine lv_iload hx hb dL_law_386 (lv_at hl 5 rfl) ?_
  refine lv_iconst (v := 1) hx hb dL_law_388 (by decide) ?_
  refine lv_iadd hx hb dL_law_389 ?_
  obtain ⟨h_16, hw⟩ := hw
  refine va_sld hx hb hX hbl hbA hS h_16 dL_law_390 ?_
  refine lv_aload_n hx hb dL_law_391 rfl (lv_at hl 0 rfl) ?_
  refine lv_iload hx hb dL_law_392 (lv_at hl 5 rfl) ?_
  refine lv_iconst (v := 2) hx hb dL_law_394 (by decide) ?_
  refine lv_iadd hx hb dL_law_395 ?_
  obtain ⟨h_17, hw⟩ := hw
  refine va_sld hx hb hX hbl hbA hS h_17 dL_law_396 ?_
  refine lv_aload_n hx hb dL_law_397 rfl (lv_at hl 0 rfl) ?_
  refine lv_iload hx hb dL_law_398 (lv_at hl 5 rfl) ?_
  refine lv_iconst (v := 3) hx hb dL_law_400 (by decide) ?_
  refine lv_iadd hx hb dL_law_401 ?_
  obtain ⟨h_18, hw⟩ := hw
  refine va_sld hx hb hX hbl hbA hS h_18 dL_law_402 ?_
  refine lv_if_eq (tgt := 410) hx hb dL_law_403 (by decide) (fun c_19 => ?_) (fun c_19 => ?_)
  · have hw := hw.1 c_19
    refine lv_iconst (v := 0) hx hb dL_law_410 (by decide) ?_
    exact hB411 0 (xs ((i0 + 2)).toNatClampNeg) (xs ((i0 + 1)).toNatClampNeg) w hw _ _ hP hS ls (lv_sub hl [0, 1, 2, 3, 4, 5] rfl)
  · have hw := hw.2 c_19
    refine lv_iconst (v := 1) hx hb dL_law_406 (by decide) ?_
    refine lv_goto (tgt := 411) hx hb dL_law_407 (by decide) ?_
    exact hB411 1 (xs ((i0 + 2)).toNatClampNeg) (xs ((i0 + 1)).toNatClampNeg) w hw _ _ hP hS ls (lv_sub hl [0, 1, 2, 3, 4, 5] rfl)
set_option maxHeartbeats 4000000 in
set_option maxRecDepth 100000 in
def wpL_C4 (xs : Nat → Int32) (L : Nat) (i0 : Int32) (w : St) (post : St → Prop) : Prop := (vp_in (i0 + 1) L) ∧ (wpL_reached (xs ((i0 + 1)).toNatClampNeg) w (fun r_3 w_2 => (vp_in (i0 + 1) L) ∧ (wpX5_reached (xs ((i0 + 1)).toNatClampNeg) w_2 (fun r_6 w_5 => wpX5_thrown w_5 (fun r_8 w_7 => (r_8 = r_3 → ((r_3 = 0 → ((vp_in 0 1) ∧ (((lg_cmp (w_7.2.2.1 (0 : Int32).toNatClampNeg) ((r_6).toInt64)) = 0 → (post w_7)) ∧ (¬ ((lg_cmp (w_7.2.2.1 (0 : Int32).toNatClampNeg) ((r_6).toInt64)) = 0) → False)))) ∧ (¬ (r_3 = 0) → (post w_7)))) ∧ (¬ (r_8 = r_3) → False))))))
set_option maxHeartbeats 4000000 in
set_option maxRecDepth 100000 in
theorem mL_C4 {p : Program} {l : Launch} {e : Env} {s : State} {m : MethodId} {below : List Frame} {meth : Method} {c : Code} {D : va_G} {ca : Nat → ClassId} {ad : Nat → Nat} {base b L : Nat} {xs : Nat → Int32} (C0 : LX p l s m c D ca ad base b L xs) {Q : State → Prop} {cells slots : Nat} (hcel : cells + 4 ≤ 603072) (hslo : slots + 24 ≤ 7215210) (i0 : Int32) (w : St) (post : St → Prop) (hw : wpL_C4 xs L i0 w post) (hK : ∀ (w : St), post w → ∀ (H : Heap) (locs : List Loc), PA D ca ad w H → va_S (AB base) s.heap H locs → ∀ ls : Array Slot, lv_has ls 10 [(0, .ref b), (1, .ref (ad 0)), (2, .ref (ad 33)), (3, .ref (ad 59)), (4, .ref (ad 60)), (5, .int i0)] → W p l e room_1 s m #[Value.ref b] below meth c H locs (cells + 4) (slots + 24) Q (F0 m 2692 ls [])) (H : Heap) (locs : List Loc) (hP : PA D ca ad w H) (hS : va_S (AB base) s.heap H locs) (ls : Array Slot) (hl : lv_has ls 10 [(0, .ref b), (1, .ref (ad 0)), (2, .ref (ad 33)), (3, .ref (ad 59)), (4, .ref (ad 60)), (5, .int i0)]) : W p l e room_1 s m #[Value.ref b] below meth c H locs cells slots Q (F0 m 487 ls []) := by
  obtain ⟨hx, hb, hml, hown, hts, hK0, hXP, hAd, hbs, hX, hbl, hbA, hl9⟩ := C0
  refine lv_aload_n hx hb dL_law_487 rfl (lv_at hl 1 rfl) ?_
  refine lv_aload_n hx hb dL_law_488 rfl (lv_at hl 0 rfl) ?_
  refine lv_iload hx hb dL_law_489 (lv_at hl 5 rfl) ?_
  refine lv_iconst (v := 1) hx hb dL_law_491 (by decide) ?_
  refine lv_iadd hx hb dL_law_492 ?_
  obtain ⟨h_1, hw⟩ := hw
  refine va_sld hx hb hX hbl hbA hS h_1 dL_law_493 ?_
  refine lv_aload_n hx hb dL_law_494 rfl (lv_at hl 3 rfl) ?_
  refine va_calli (vx_runSW (As := [.ref (ad 0), .int (xs ((i0 + 1)).toNatClampNeg), .ref (ad 59)]) (rest := []) ⟨hx, hb, hml, hown, hts⟩ (mL_reached l D ca ad base hAd w (xs ((i0 + 1)).toNatClampNeg) _ hw hl9) (vx_cwSW 3 hts gL_law_L_reached rfl rfl rfl (by decide +kernel) ⟨Nat.le_of_ble_eq_true rfl, Nat.le_of_ble_eq_true rfl⟩) (psx [.ref (ad 0), .int (xs ((i0 + 1)).toNatClampNeg), .ref (ad 59)] hK0 hXP hP hbs hS) rfl rfl hl.1 rfl (lv_room (Nat.le_of_ble_eq_true rfl)) dL_law_495 ⟨by simp only [room_1]; omega, by simp only [room_1]; omega⟩) hS (fun q _ h => h) (fun q h => h) (fun r_3 w_2 t H locs ht hvm hw hP hz1 hk1 hS => ?_)
  have hP : PA D ca ad w_2 H := by rw [← ht]; exact hP
  refine lv_istore (lv' := [(6, .int r_3), (0, .ref b), (1, .ref (ad 0)), (2, .ref (ad 33)), (3, .ref (ad 59)), (4, .ref (ad 60)), (5, .int i0)]) hx hb dL_law_498 hl (by decide) rfl (fun ls hl => ?_)
  refine lv_aload_n hx hb dL_law_500 rfl (lv_at hl 3 rfl) ?_
  refine lv_aload_n hx hb dL_law_501 rfl (lv_at hl 1 rfl) ?_
  refine lv_iload hx hb dL_law_502 (lv_at hl 6 rfl) ?_
  refine lv_iconst (v := 1) hx hb dL_law_504 (by decide) ?_
  refine lv_iadd hx hb dL_law_505 ?_
  obtain ⟨h_4, hw⟩ := hw
  refine va_sld hx hb hX hbl hbA hS h_4 dL_law_506 ?_
  refine va_calli (va_runV (As := [.int (xs ((i0 + 1)).toNatClampNeg)]) (rest := []) ⟨hx, hb, hml, hown, hts⟩ (mX5_reached l D ca ad base hAd w_2 (xs ((i0 + 1)).toNatClampNeg) _ hw) (cwV 1 hts gL_law_X5_reached rfl rfl rfl (by decide +kernel) ⟨Nat.le_of_ble_eq_true rfl, Nat.le_of_ble_eq_true rfl⟩) (pv [.int (xs ((i0 + 1)).toNatClampNeg)] hK0 hP hbs hS rfl (wg33 ca ad w_2)) rfl rfl hl.1 rfl (lv_room (Nat.le_of_ble_eq_true rfl)) dL_law_507 ⟨by simp only [room_1]; omega, by simp only [room_1]; omega⟩) hS (fun q _ h => h) (fun q h => h) (fun r_6 w_5 t H locs ht hvm hw hP hz1 hk1 hS => ?_)
  have hP : PA D ca ad w_5 H := by rw [← ht]; exact hP
  refine lv_istore (lv' := [(7, .int r_6), (6, .int r_3), (0, .ref b), (1, .ref (ad 0)), (2, .ref (ad 33)), (3, .ref (ad 59)), (4, .ref (ad 60)), (5, .int i0)]) hx hb dL_law_510 hl (by decide) rfl (fun ls hl => ?_)
  refine lv_aload_n hx hb dL_law_512 rfl (lv_at hl 4 rfl) ?_
  refine va_calli (va_runV (As := []) (rest := []) ⟨hx, hb, hml, hown, hts⟩ (mX5_thrown l D ca ad base hAd w_5 _ hw) (cwV 0 hts gL_law_X5_thrown rfl rfl rfl (by decide +kernel) ⟨Nat.le_of_ble_eq_true rfl, Nat.le_of_ble_eq_true rfl⟩) (pv [] hK0 hP hbs hS rfl (wg33 ca ad w_5)) rfl rfl hl.1 rfl (lv_room (Nat.le_of_ble_eq_true rfl)) dL_law_513 ⟨by simp only [room_1]; omega, by simp only [room_1]; omega⟩) hS (fun q _ h => h) (fun q h => h) (fun r_8 w_7 t H locs ht hvm hw hP hz1 hk1 hS => ?_)
  have hP : PA D ca ad w_7 H := by rw [← ht]; exact hP
  refine lv_iload hx hb dL_law_516 (lv_at hl 1 rfl) ?_
  refine lv_icmp_eq (tgt := 523) hx hb dL_law_518 (by decide) (fun c_9 => ?_) (fun c_9 => ?_)
  · have hw := hw.1 c_9
    refine lv_iload hx hb dL_law_523 (lv_at hl 1 rfl) ?_
    refine lv_if_ne (tgt := 540) hx hb dL_law_525 (by decide) (fun c_10 => ?_) (fun c_10 => ?_)
    · have hw := hw.2 c_10
      refine lv_goto (tgt := 2692) hx hb dL_law_540 (by decide) ?_
      refine W.widen (k := cells + 4) (n := slots + 24) (by omega) (by omega) ?_
      exact hK w_7 hw _ _ hP hS ls (lv_sub hl [2, 3, 4, 5, 6, 7] rfl)
    · have hw := hw.1 c_10
      refine lv_aload_n hx hb dL_law_528 rfl (lv_at hl 5 rfl) ?_
      refine lv_iconst (v := 0) hx hb dL_law_529 (by decide) ?_
      obtain ⟨h_11, hw⟩ := hw
      refine va_lald hx hb hK0 hP 59 3 (wg59 ca ad w_7) rfl h_11 dL_law_530 ?_
      refine lv_iload hx hb dL_law_531 (lv_at hl 0 rfl) ?_
      refine lv_i2l (v := (r_6).toInt64) hx hb dL_law_533 rfl ?_
      refine W.lcmp hx hb dL_law_534 ?_
      refine lv_if_eq (tgt := 540) hx hb dL_law_535 (by decide) (fun c_12 => ?_) (fun c_12 => ?_)
      · have hw := hw.1 c_12
        refine lv_goto (tgt := 2692) hx hb dL_law_540 (by decide) ?_
        refine W.widen (k := cells + 4) (n := slots + 24) (by omega) (by omega) ?_
        exact hK w_7 hw _ _ hP hS ls (lv_sub hl [2, 3, 4, 5, 6, 7] rfl)
      · have hw := hw.2 c_12
        refine lv_iconst (v := 0) hx hb dL_law_538 (by decide) ?_
        exact hw.elim
  · have hw := hw.2 c_9
    refine lv_iconst (v := 0) hx hb dL_law_521 (by decide) ?_
    exact hw.elim
set_option maxHeartbeats 4000000 in
set_option maxRecDepth 100000 in
def wpL_C5 (xs : Nat → Int32) (L : Nat) (i0 : Int32) (w : St) (post : St → Prop) : Prop := (vp_in (i0 + 1) L) ∧ (wpL_stand (xs ((i0 + 1)).toNatClampNeg) w (fun r_3 w_2 => (vp_in (i0 + 1) L) ∧ (wpX5_stand (xs ((i0 + 1)).toNatClampNeg) w_2 (fun r_6 w_5 => wpX5_thrown w_5 (fun r_8 w_7 => (r_8 = r_3 → ((r_3 = 0 → ((vp_in 0 1) ∧ (((lg_cmp (w_7.2.2.1 (0 : Int32).toNatClampNeg) ((r_6).toInt64)) = 0 → (post w_7)) ∧ (¬ ((lg_cmp (w_7.2.2.1 (0 : Int32).toNatClampNeg) ((r_6).toInt64)) = 0) → False)))) ∧ (¬ (r_3 = 0) → (post w_7)))) ∧ (¬ (r_8 = r_3) → False))))))
set_option maxHeartbeats 4000000 in
set_option maxRecDepth 100000 in
theorem mL_C5 {p : Program} {l : Launch} {e : Env} {s : State} {m : MethodId} {below : List Frame} {meth : Method} {c : Code} {D : va_G} {ca : Nat → ClassId} {ad : Nat → Nat} {base b L : Nat} {xs : Nat → Int32} (C0 : LX p l s m c D ca ad base b L xs) {Q : State → Prop} {cells slots : Nat} (hcel : cells + 4 ≤ 603072) (hslo : slots + 24 ≤ 7215210) (i0 : Int32) (w : St) (post : St → Prop) (hw : wpL_C5 xs L i0 w post) (hK : ∀ (w : St), post w → ∀ (H : Heap) (locs : List Loc), PA D ca ad w H → va_S (AB base) s.heap H locs → ∀ ls : Array Slot, lv_has ls 10 [(0, .ref b), (1, .ref (ad 0)), (2, .ref (ad 33)), (3, .ref (ad 59)), (4, .ref (ad 60)), (5, .int i0)] → W p l e room_1 s m #[Value.ref b] below meth c H locs (cells + 4) (slots + 24) Q (F0 m 2692 ls [])) (H : Heap) (locs : List Loc) (hP : PA D ca ad w H) (hS : va_S (AB base) s.heap H locs) (ls : Array Slot) (hl : lv_has ls 10 [(0, .ref b), (1, .ref (ad 0)), (2, .ref (ad 33)), (3, .ref (ad 59)), (4, .ref (ad 60)), (5, .int i0)]) : W p l e room_1 s m #[Value.ref b] below meth c H locs cells slots Q (F0 m 543 ls []) := by
  obtain ⟨hx, hb, hml, hown, hts, hK0, hXP, hAd, hbs, hX, hbl, hbA, hl9⟩ := C0
  refine lv_aload_n hx hb dL_law_543 rfl (lv_at hl 1 rfl) ?_
  refine lv_aload_n hx hb dL_law_544 rfl (lv_at hl 0 rfl) ?_
  refine lv_iload hx hb dL_law_545 (lv_at hl 5 rfl) ?_
  refine lv_iconst (v := 1) hx hb dL_law_547 (by decide) ?_
  refine lv_iadd hx hb dL_law_548 ?_
  obtain ⟨h_1, hw⟩ := hw
  refine va_sld hx hb hX hbl hbA hS h_1 dL_law_549 ?_
  refine lv_aload_n hx hb dL_law_550 rfl (lv_at hl 3 rfl) ?_
  refine va_calli (vx_runSW (As := [.ref (ad 0), .int (xs ((i0 + 1)).toNatClampNeg), .ref (ad 59)]) (rest := []) ⟨hx, hb, hml, hown, hts⟩ (mL_stand l D ca ad base hAd w (xs ((i0 + 1)).toNatClampNeg) _ hw hl9) (vx_cwSW 3 hts gL_law_L_stand rfl rfl rfl (by decide +kernel) ⟨Nat.le_of_ble_eq_true rfl, Nat.le_of_ble_eq_true rfl⟩) (psx [.ref (ad 0), .int (xs ((i0 + 1)).toNatClampNeg), .ref (ad 59)] hK0 hXP hP hbs hS) rfl rfl hl.1 rfl (lv_room (Nat.le_of_ble_eq_true rfl)) dL_law_551 ⟨by simp only [room_1]; omega, by simp only [room_1]; omega⟩) hS (fun q _ h => h) (fun q h => h) (fun r_3 w_2 t H locs ht hvm hw hP hz1 hk1 hS => ?_)
  have hP : PA D ca ad w_2 H := by rw [← ht]; exact hP
  refine lv_istore (lv' := [(6, .int r_3), (0, .ref b), (1, .ref (ad 0)), (2, .ref (ad 33)), (3, .ref (ad 59)), (4, .ref (ad 60)), (5, .int i0)]) hx hb dL_law_554 hl (by decide) rfl (fun ls hl => ?_)
  refine lv_aload_n hx hb dL_law_556 rfl (lv_at hl 3 rfl) ?_
  refine lv_aload_n hx hb dL_law_557 rfl (lv_at hl 1 rfl) ?_
  refine lv_iload hx hb dL_law_558 (lv_at hl 6 rfl) ?_
  refine lv_iconst (v := 1) hx hb dL_law_560 (by decide) ?_
  refine lv_iadd hx hb dL_law_561 ?_
  obtain ⟨h_4, hw⟩ := hw
  refine va_sld hx hb hX hbl hbA hS h_4 dL_law_562 ?_
  refine va_calli (va_runV (As := [.int (xs ((i0 + 1)).toNatClampNeg)]) (rest := []) ⟨hx, hb, hml, hown, hts⟩ (mX5_stand l D ca ad base hAd w_2 (xs ((i0 + 1)).toNatClampNeg) _ hw) (cwV 1 hts gL_law_X5_stand rfl rfl rfl (by decide +kernel) ⟨Nat.le_of_ble_eq_true rfl, Nat.le_of_ble_eq_true rfl⟩) (pv [.int (xs ((i0 + 1)).toNatClampNeg)] hK0 hP hbs hS rfl (wg33 ca ad w_2)) rfl rfl hl.1 rfl (lv_room (Nat.le_of_ble_eq_true rfl)) dL_law_563 ⟨by simp only [room_1]; omega, by simp only [room_1]; omega⟩) hS (fun q _ h => h) (fun q h => h) (fun r_6 w_5 t H locs ht hvm hw hP hz1 hk1 hS => ?_)
  have hP : PA D ca ad w_5 H := by rw [← ht]; exact hP
  refine lv_istore (lv' := [(7, .int r_6), (6, .int r_3), (0, .ref b), (1, .ref (ad 0)), (2, .ref (ad 33)), (3, .ref (ad 59)), (4, .ref (ad 60)), (5, .int i0)]) hx hb dL_law_566 hl (by decide) rfl (fun ls hl => ?_)
  refine lv_aload_n hx hb dL_law_568 rfl (lv_at hl 4 rfl) ?_
  refine va_calli (va_runV (As := []) (rest := []) ⟨hx, hb, hml, hown, hts⟩ (mX5_thrown l D ca ad base hAd w_5 _ hw) (cwV 0 hts gL_law_X5_thrown rfl rfl rfl (by decide +kernel) ⟨Nat.le_of_ble_eq_true rfl, Nat.le_of_ble_eq_true rfl⟩) (pv [] hK0 hP hbs hS rfl (wg33 ca ad w_5)) rfl rfl hl.1 rfl (lv_room (Nat.le_of_ble_eq_true rfl)) dL_law_569 ⟨by simp only [room_1]; omega, by simp only [room_1]; omega⟩) hS (fun q _ h => h) (fun q h => h) (fun r_8 w_7 t H locs ht hvm hw hP hz1 hk1 hS => ?_)
  have hP : PA D ca ad w_7 H := by rw [← ht]; exact hP
  refine lv_iload hx hb dL_law_572 (lv_at hl 1 rfl) ?_
  refine lv_icmp_eq (tgt := 579) hx hb dL_law_574 (by decide) (fun c_9 => ?_) (fun c_9 => ?_)
  · have hw := hw.1 c_9
    refine lv_iload hx hb dL_law_579 (lv_at hl 1 rfl) ?_
    refine lv_if_ne (tgt := 596) hx hb dL_law_581 (by decide) (fun c_10 => ?_) (fun c_10 => ?_)
    · have hw := hw.2 c_10
      refine lv_goto (tgt := 2692) hx hb dL_law_596 (by decide) ?_
      refine W.widen (k := cells + 4) (n := slots + 24) (by omega) (by omega) ?_
      exact hK w_7 hw _ _ hP hS ls (lv_sub hl [2, 3, 4, 5, 6, 7] rfl)
    · have hw := hw.1 c_10
      refine lv_aload_n hx hb dL_law_584 rfl (lv_at hl 5 rfl) ?_
      refine lv_iconst (v := 0) hx hb dL_law_585 (by decide) ?_
      obtain ⟨h_11, hw⟩ := hw
      refine va_lald hx hb hK0 hP 59 3 (wg59 ca ad w_7) rfl h_11 dL_law_586 ?_
      refine lv_iload hx hb dL_law_587 (lv_at hl 0 rfl) ?_
      refine lv_i2l (v := (r_6).toInt64) hx hb dL_law_589 rfl ?_
      refine W.lcmp hx hb dL_law_590 ?_
      refine lv_if_eq (tgt := 596) hx hb dL_law_591 (by decide) (fun c_12 => ?_) (fun c_12 => ?_)
      · have hw := hw.1 c_12
        refine lv_goto (tgt := 2692) hx hb dL_law_596 (by decide) ?_
        refine W.widen (k := cells + 4) (n := slots + 24) (by omega) (by omega) ?_
        exact hK w_7 hw _ _ hP hS ls (lv_sub hl [2, 3, 4, 5, 6, 7] rfl)
      · have hw := hw.2 c_12
        refine lv_iconst (v := 0) hx hb dL_law_594 (by decide) ?_
        exact hw.elim
  · have hw := hw.2 c_9
    refine lv_iconst (v := 0) hx hb dL_law_577 (by decide) ?_
    exact hw.elim
set_option maxHeartbeats 4000000 in
set_option maxRecDepth 100000 in
def wpL_C6 (xs : Nat → Int32) (L : Nat) (i0 : Int32) (w : St) (post : St → Prop) : Prop := (vp_in (i0 + 1) L) ∧ (wpL_termOf (xs ((i0 + 1)).toNatClampNeg) w (fun r_3 w_2 => (vp_in (i0 + 1) L) ∧ (wpX5_termOf (xs ((i0 + 1)).toNatClampNeg) w_2 (fun r_6 w_5 => wpX5_thrown w_5 (fun r_8 w_7 => (r_8 = r_3 → ((r_3 = 0 → ((vp_in 0 1) ∧ (((lg_cmp (w_7.2.2.1 (0 : Int32).toNatClampNeg) ((r_6).toInt64)) = 0 → (post w_7)) ∧ (¬ ((lg_cmp (w_7.2.2.1 (0 : Int32).toNatClampNeg) ((r_6).toInt64)) = 0) → False)))) ∧ (¬ (r_3 = 0) → (post w_7)))) ∧ (¬ (r_8 = r_3) → False))))))
set_option maxHeartbeats 4000000 in
set_option maxRecDepth 100000 in
theorem mL_C6 {p : Program} {l : Launch} {e : Env} {s : State} {m : MethodId} {below : List Frame} {meth : Method} {c : Code} {D : va_G} {ca : Nat → ClassId} {ad : Nat → Nat} {base b L : Nat} {xs : Nat → Int32} (C0 : LX p l s m c D ca ad base b L xs) {Q : State → Prop} {cells slots : Nat} (hcel : cells + 4 ≤ 603072) (hslo : slots + 24 ≤ 7215210) (i0 : Int32) (w : St) (post : St → Prop) (hw : wpL_C6 xs L i0 w post) (hK : ∀ (w : St), post w → ∀ (H : Heap) (locs : List Loc), PA D ca ad w H → va_S (AB base) s.heap H locs → ∀ ls : Array Slot, lv_has ls 10 [(0, .ref b), (1, .ref (ad 0)), (2, .ref (ad 33)), (3, .ref (ad 59)), (4, .ref (ad 60)), (5, .int i0)] → W p l e room_1 s m #[Value.ref b] below meth c H locs (cells + 4) (slots + 24) Q (F0 m 2692 ls [])) (H : Heap) (locs : List Loc) (hP : PA D ca ad w H) (hS : va_S (AB base) s.heap H locs) (ls : Array Slot) (hl : lv_has ls 10 [(0, .ref b), (1, .ref (ad 0)), (2, .ref (ad 33)), (3, .ref (ad 59)), (4, .ref (ad 60)), (5, .int i0)]) : W p l e room_1 s m #[Value.ref b] below meth c H locs cells slots Q (F0 m 599 ls []) := by
  obtain ⟨hx, hb, hml, hown, hts, hK0, hXP, hAd, hbs, hX, hbl, hbA, hl9⟩ := C0
  refine lv_aload_n hx hb dL_law_599 rfl (lv_at hl 1 rfl) ?_
  refine lv_aload_n hx hb dL_law_600 rfl (lv_at hl 0 rfl) ?_
  refine lv_iload hx hb dL_law_601 (lv_at hl 5 rfl) ?_
  refine lv_iconst (v := 1) hx hb dL_law_603 (by decide) ?_
  refine lv_iadd hx hb dL_law_604 ?_
  obtain ⟨h_1, hw⟩ := hw
  refine va_sld hx hb hX hbl hbA hS h_1 dL_law_605 ?_
  refine lv_aload_n hx hb dL_law_606 rfl (lv_at hl 3 rfl) ?_
  refine va_calli (vx_runSW (As := [.ref (ad 0), .int (xs ((i0 + 1)).toNatClampNeg), .ref (ad 59)]) (rest := []) ⟨hx, hb, hml, hown, hts⟩ (mL_termOf l D ca ad base hAd w (xs ((i0 + 1)).toNatClampNeg) _ hw hl9) (vx_cwSW 3 hts gL_law_L_termOf rfl rfl rfl (by decide +kernel) ⟨Nat.le_of_ble_eq_true rfl, Nat.le_of_ble_eq_true rfl⟩) (psx [.ref (ad 0), .int (xs ((i0 + 1)).toNatClampNeg), .ref (ad 59)] hK0 hXP hP hbs hS) rfl rfl hl.1 rfl (lv_room (Nat.le_of_ble_eq_true rfl)) dL_law_607 ⟨by simp only [room_1]; omega, by simp only [room_1]; omega⟩) hS (fun q _ h => h) (fun q h => h) (fun r_3 w_2 t H locs ht hvm hw hP hz1 hk1 hS => ?_)
  have hP : PA D ca ad w_2 H := by rw [← ht]; exact hP
  refine lv_istore (lv' := [(6, .int r_3), (0, .ref b), (1, .ref (ad 0)), (2, .ref (ad 33)), (3, .ref (ad 59)), (4, .ref (ad 60)), (5, .int i0)]) hx hb dL_law_610 hl (by decide) rfl (fun ls hl => ?_)
  refine lv_aload_n hx hb dL_law_612 rfl (lv_at hl 3 rfl) ?_
  refine lv_aload_n hx hb dL_law_613 rfl (lv_at hl 1 rfl) ?_
  refine lv_iload hx hb dL_law_614 (lv_at hl 6 rfl) ?_
  refine lv_iconst (v := 1) hx hb dL_law_616 (by decide) ?_
  refine lv_iadd hx hb dL_law_617 ?_
  obtain ⟨h_4, hw⟩ := hw
  refine va_sld hx hb hX hbl hbA hS h_4 dL_law_618 ?_
  refine va_calli (va_runV (As := [.int (xs ((i0 + 1)).toNatClampNeg)]) (rest := []) ⟨hx, hb, hml, hown, hts⟩ (mX5_termOf l D ca ad base hAd w_2 (xs ((i0 + 1)).toNatClampNeg) _ hw) (cwV 1 hts gL_law_X5_termOf rfl rfl rfl (by decide +kernel) ⟨Nat.le_of_ble_eq_true rfl, Nat.le_of_ble_eq_true rfl⟩) (pv [.int (xs ((i0 + 1)).toNatClampNeg)] hK0 hP hbs hS rfl (wg33 ca ad w_2)) rfl rfl hl.1 rfl (lv_room (Nat.le_of_ble_eq_true rfl)) dL_law_619 ⟨by simp only [room_1]; omega, by simp only [room_1]; omega⟩) hS (fun q _ h => h) (fun q h => h) (fun r_6 w_5 t H locs ht hvm hw hP hz1 hk1 hS => ?_)
  have hP : PA D ca ad w_5 H := by rw [← ht]; exact hP
  refine lv_istore (lv' := [(7, .int r_6), (6, .int r_3), (0, .ref b), (1, .ref (ad 0)), (2, .ref (ad 33)), (3, .ref (ad 59)), (4, .ref (ad 60)), (5, .int i0)]) hx hb dL_law_622 hl (by decide) rfl (fun ls hl => ?_)
  refine lv_aload_n hx hb dL_law_624 rfl (lv_at hl 4 rfl) ?_
  refine va_calli (va_runV (As := []) (rest := []) ⟨hx, hb, hml, hown, hts⟩ (mX5_thrown l D ca ad base hAd w_5 _ hw) (cwV 0 hts gL_law_X5_thrown rfl rfl rfl (by decide +kernel) ⟨Nat.le_of_ble_eq_true rfl, Nat.le_of_ble_eq_true rfl⟩) (pv [] hK0 hP hbs hS rfl (wg33 ca ad w_5)) rfl rfl hl.1 rfl (lv_room (Nat.le_of_ble_eq_true rfl)) dL_law_625 ⟨by simp only [room_1]; omega, by simp only [room_1]; omega⟩) hS (fun q _ h => h) (fun q h => h) (fun r_8 w_7 t H locs ht hvm hw hP hz1 hk1 hS => ?_)
  have hP : PA D ca ad w_7 H := by rw [← ht]; exact hP
  refine lv_iload hx hb dL_law_628 (lv_at hl 1 rfl) ?_
  refine lv_icmp_eq (tgt := 635) hx hb dL_law_630 (by decide) (fun c_9 => ?_) (fun c_9 => ?_)
  · have hw := hw.1 c_9
    refine lv_iload hx hb dL_law_635 (lv_at hl 1 rfl) ?_
    refine lv_if_ne (tgt := 652) hx hb dL_law_637 (by decide) (fun c_10 => ?_) (fun c_10 => ?_)
    · have hw := hw.2 c_10
      refine lv_goto (tgt := 2692) hx hb dL_law_652 (by decide) ?_
      refine W.widen (k := cells + 4) (n := slots + 24) (by omega) (by omega) ?_
      exact hK w_7 hw _ _ hP hS ls (lv_sub hl [2, 3, 4, 5, 6, 7] rfl)
    · have hw := hw.1 c_10
      refine lv_aload_n hx hb dL_law_640 rfl (lv_at hl 5 rfl) ?_
      refine lv_iconst (v := 0) hx hb dL_law_641 (by decide) ?_
      obtain ⟨h_11, hw⟩ := hw
      refine va_lald hx hb hK0 hP 59 3 (wg59 ca ad w_7) rfl h_11 dL_law_642 ?_
      refine lv_iload hx hb dL_law_643 (lv_at hl 0 rfl) ?_
      refine lv_i2l (v := (r_6).toInt64) hx hb dL_law_645 rfl ?_
      refine W.lcmp hx hb dL_law_646 ?_
      refine lv_if_eq (tgt := 652) hx hb dL_law_647 (by decide) (fun c_12 => ?_) (fun c_12 => ?_)
      · have hw := hw.1 c_12
        refine lv_goto (tgt := 2692) hx hb dL_law_652 (by decide) ?_
        refine W.widen (k := cells + 4) (n := slots + 24) (by omega) (by omega) ?_
        exact hK w_7 hw _ _ hP hS ls (lv_sub hl [2, 3, 4, 5, 6, 7] rfl)
      · have hw := hw.2 c_12
        refine lv_iconst (v := 0) hx hb dL_law_650 (by decide) ?_
        exact hw.elim
  · have hw := hw.2 c_9
    refine lv_iconst (v := 0) hx hb dL_law_633 (by decide) ?_
    exact hw.elim
set_option maxHeartbeats 4000000 in
set_option maxRecDepth 100000 in
def wpL_C7_B709 (xs : Nat → Int32) (L : Nat) (i0 : Int32) (post : St → Prop) (s0 : Int64) (s1 : Int64) (w : St) : Prop := ((lg_cmp s1 s0) = 0 → (post w)) ∧ (¬ ((lg_cmp s1 s0) = 0) → False)
set_option maxHeartbeats 4000000 in
set_option maxRecDepth 100000 in
def wpL_C7 (xs : Nat → Int32) (L : Nat) (i0 : Int32) (w : St) (post : St → Prop) : Prop := (vp_in (i0 + 1) L) ∧ (wpL_isLeader (xs ((i0 + 1)).toNatClampNeg) w (fun r_4 w_3 => (vp_in (i0 + 1) L) ∧ (wpX5_isLeader (xs ((i0 + 1)).toNatClampNeg) w_3 (fun r_7 w_6 => wpX5_thrown w_6 (fun r_9 w_8 => (r_9 = r_4 → ((r_4 = 0 → ((vp_in 0 1) ∧ ((r_7 = 0 → (wpL_C7_B709 xs L i0 post 0 (w_8.2.2.1 (0 : Int32).toNatClampNeg) w_8)) ∧ (¬ (r_7 = 0) → (wpL_C7_B709 xs L i0 post 1 (w_8.2.2.1 (0 : Int32).toNatClampNeg) w_8))))) ∧ (¬ (r_4 = 0) → (post w_8)))) ∧ (¬ (r_9 = r_4) → False))))))
set_option maxHeartbeats 4000000 in
set_option maxRecDepth 100000 in
theorem mL_C7 {p : Program} {l : Launch} {e : Env} {s : State} {m : MethodId} {below : List Frame} {meth : Method} {c : Code} {D : va_G} {ca : Nat → ClassId} {ad : Nat → Nat} {base b L : Nat} {xs : Nat → Int32} (C0 : LX p l s m c D ca ad base b L xs) {Q : State → Prop} {cells slots : Nat} (hcel : cells + 4 ≤ 603072) (hslo : slots + 24 ≤ 7215210) (i0 : Int32) (w : St) (post : St → Prop) (hw : wpL_C7 xs L i0 w post) (hK : ∀ (w : St), post w → ∀ (H : Heap) (locs : List Loc), PA D ca ad w H → va_S (AB base) s.heap H locs → ∀ ls : Array Slot, lv_has ls 10 [(0, .ref b), (1, .ref (ad 0)), (2, .ref (ad 33)), (3, .ref (ad 59)), (4, .ref (ad 60)), (5, .int i0)] → W p l e room_1 s m #[Value.ref b] below meth c H locs (cells + 4) (slots + 24) Q (F0 m 2692 ls [])) (H : Heap) (locs : List Loc) (hP : PA D ca ad w H) (hS : va_S (AB base) s.heap H locs) (ls : Array Slot) (hl : lv_has ls 10 [(0, .ref b), (1, .ref (ad 0)), (2, .ref (ad 33)), (3, .ref (ad 59)), (4, .ref (ad 60)), (5, .int i0)]) : W p l e room_1 s m #[Value.ref b] below meth c H locs cells slots Q (F0 m 655 ls []) := by
  obtain ⟨hx, hb, hml, hown, hts, hK0, hXP, hAd, hbs, hX, hbl, hbA, hl9⟩ := C0
  have hB709 : ∀ (s0 : Int64) (s1 : Int64) (w : St), wpL_C7_B709 xs L i0 post s0 s1 w → ∀ (H : Heap) (locs : List Loc), PA D ca ad w H → va_S (AB base) s.heap H locs → ∀ ls : Array Slot, lv_has ls 10 [(0, .ref b), (1, .ref (ad 0)), (2, .ref (ad 33)), (3, .ref (ad 59)), (4, .ref (ad 60)), (5, .int i0)] → W p l e room_1 s m #[Value.ref b] below meth c H locs (cells + 4) (slots + 24) Q (F0 m 709 ls [.long s0, .long s1]) := by
    intro s0 s1 w hw H locs hP hS ls hl
    refine W.lcmp hx hb dL_law_709 ?_
    refine lv_if_eq (tgt := 715) hx hb dL_law_710 (by decide) (fun c_1 => ?_) (fun c_1 => ?_)
    · have hw := hw.1 c_1
      refine lv_goto (tgt := 2692) hx hb dL_law_715 (by decide) ?_
      refine W.widen (k := cells + 4) (n := slots + 24) (by omega) (by omega) ?_
      exact hK w hw _ _ hP hS ls (lv_sub hl [0, 1, 2, 3, 4, 5] rfl)
    · have hw := hw.2 c_1
      refine lv_iconst (v := 0) hx hb dL_law_713 (by decide) ?_
      exact hw.elim
  refine lv_aload_n hx hb dL_law_655 rfl (lv_at hl 1 rfl) ?_
  refine lv_aload_n hx hb dL_law_656 rfl (lv_at hl 0 rfl) ?_
  refine lv_iload hx hb dL_law_657 (lv_at hl 5 rfl) ?_
  refine lv_iconst (v := 1) hx hb dL_law_659 (by decide) ?_
  refine lv_iadd hx hb dL_law_660 ?_
  obtain ⟨h_2, hw⟩ := hw
  refine va_sld hx hb hX hbl hbA hS h_2 dL_law_661 ?_
  refine lv_aload_n hx hb dL_law_662 rfl (lv_at hl 3 rfl) ?_
  refine va_calli (vx_runSW (As := [.ref (ad 0), .int (xs ((i0 + 1)).toNatClampNeg), .ref (ad 59)]) (rest := []) ⟨hx, hb, hml, hown, hts⟩ (mL_isLeader l D ca ad base hAd w (xs ((i0 + 1)).toNatClampNeg) _ hw hl9) (vx_cwSW 3 hts gL_law_L_isLeader rfl rfl rfl (by decide +kernel) ⟨Nat.le_of_ble_eq_true rfl, Nat.le_of_ble_eq_true rfl⟩) (psx [.ref (ad 0), .int (xs ((i0 + 1)).toNatClampNeg), .ref (ad 59)] hK0 hXP hP hbs hS) rfl rfl hl.1 rfl (lv_room (Nat.le_of_ble_eq_true rfl)) dL_law_663 ⟨by simp only [room_1]; omega, by simp only [room_1]; omega⟩) hS (fun q _ h => h) (fun q h => h) (fun r_4 w_3 t H locs ht hvm hw hP hz1 hk1 hS => ?_)
  have hP : PA D ca ad w_3 H := by rw [← ht]; exact hP
  refine lv_istore (lv' := [(6, .int r_4), (0, .ref b), (1, .ref (ad 0)), (2, .ref (ad 33)), (3, .ref (ad 59)), (4, .ref (ad 60)), (5, .int i0)]) hx hb dL_law_666 hl (by decide) rfl (fun ls hl => ?_)
  refine lv_aload_n hx hb dL_law_668 rfl (lv_at hl 3 rfl) ?_
  refine lv_aload_n hx hb dL_law_669 rfl (lv_at hl 1 rfl) ?_
  refine lv_iload hx hb dL_law_670 (lv_at hl 6 rfl) ?_
  refine lv_iconst (v := 1) hx hb dL_law_672 (by decide) ?_
  refine lv_iadd hx hb dL_law_673 ?_
  obtain ⟨h_5, hw⟩ := hw
  refine va_sld hx hb hX hbl hbA hS h_5 dL_law_674 ?_
  refine va_calli (va_runV (As := [.int (xs ((i0 + 1)).toNatClampNeg)]) (rest := []) ⟨hx, hb, hml, hown, hts⟩ (mX5_isLeader l D ca ad base hAd w_3 (xs ((i0 + 1)).toNatClampNeg) _ hw) (cwV 1 hts gL_law_X5_isLeader rfl rfl rfl (by decide +kernel) ⟨Nat.le_of_ble_eq_true rfl, Nat.le_of_ble_eq_true rfl⟩) (pv [.int (xs ((i0 + 1)).toNatClampNeg)] hK0 hP hbs hS rfl (wg33 ca ad w_3)) rfl rfl hl.1 rfl (lv_room (Nat.le_of_ble_eq_true rfl)) dL_law_675 ⟨by simp only [room_1]; omega, by simp only [room_1]; omega⟩) hS (fun q _ h => h) (fun q h => h) (fun r_7 w_6 t H locs ht hvm hw hP hz1 hk1 hS => ?_)
  have hP : PA D ca ad w_6 H := by rw [← ht]; exact hP
  refine lv_istore (lv' := [(7, .int r_7), (6, .int r_4), (0, .ref b), (1, .ref (ad 0)), (2, .ref (ad 33)), (3, .ref (ad 59)), (4, .ref (ad 60)), (5, .int i0)]) hx hb dL_law_678 hl (by decide) rfl (fun ls hl => ?_)
  refine lv_aload_n hx hb dL_law_680 rfl (lv_at hl 4 rfl) ?_
  refine va_calli (va_runV (As := []) (rest := []) ⟨hx, hb, hml, hown, hts⟩ (mX5_thrown l D ca ad base hAd w_6 _ hw) (cwV 0 hts gL_law_X5_thrown rfl rfl rfl (by decide +kernel) ⟨Nat.le_of_ble_eq_true rfl, Nat.le_of_ble_eq_true rfl⟩) (pv [] hK0 hP hbs hS rfl (wg33 ca ad w_6)) rfl rfl hl.1 rfl (lv_room (Nat.le_of_ble_eq_true rfl)) dL_law_681 ⟨by simp only [room_1]; omega, by simp only [room_1]; omega⟩) hS (fun q _ h => h) (fun q h => h) (fun r_9 w_8 t H locs ht hvm hw hP hz1 hk1 hS => ?_)
  have hP : PA D ca ad w_8 H := by rw [← ht]; exact hP
  refine lv_iload hx hb dL_law_684 (lv_at hl 1 rfl) ?_
  refine lv_icmp_eq (tgt := 691) hx hb dL_law_686 (by decide) (fun c_10 => ?_) (fun c_10 => ?_)
  · have hw := hw.1 c_10
    refine lv_iload hx hb dL_law_691 (lv_at hl 1 rfl) ?_
    refine lv_if_ne (tgt := 715) hx hb dL_law_693 (by decide) (fun c_11 => ?_) (fun c_11 => ?_)
    · have hw := hw.2 c_11
      refine lv_goto (tgt := 2692) hx hb dL_law_715 (by decide) ?_
      refine W.widen (k := cells + 4) (n := slots + 24) (by omega) (by omega) ?_
      exact hK w_8 hw _ _ hP hS ls (lv_sub hl [2, 3, 4, 5, 6, 7] rfl)
    · have hw := hw.1 c_11
      refine lv_aload_n hx hb dL_law_696 rfl (lv_at hl 5 rfl) ?_
      refine lv_iconst (v := 0) hx hb dL_law_697 (by decide) ?_
      obtain ⟨h_12, hw⟩ := hw
      refine va_lald hx hb hK0 hP 59 3 (wg59 ca ad w_8) rfl h_12 dL_law_698 ?_
      refine lv_iload hx hb dL_law_699 (lv_at hl 0 rfl) ?_
      refine lv_if_eq (tgt := 708) hx hb dL_law_701 (by decide) (fun c_13 => ?_) (fun c_13 => ?_)
      · have hw := hw.1 c_13
        refine lv_lconst (v := 0) hx hb dL_law_708 (by decide) ?_
        refine W.widen (k := cells + 4) (n := slots + 24) (by omega) (by omega) ?_
        exact hB709 0 (w_8.2.2.1 (0 : Int32).toNatClampNeg) w_8 hw _ _ hP hS ls (lv_sub hl [2, 3, 4, 5, 6, 7] rfl)
      · have hw := hw.2 c_13
        refine lv_lconst (v := 1) hx hb dL_law_704 (by decide) ?_
        refine lv_goto (tgt := 709) hx hb dL_law_705 (by decide) ?_
        refine W.widen (k := cells + 4) (n := slots + 24) (by omega) (by omega) ?_
        exact hB709 1 (w_8.2.2.1 (0 : Int32).toNatClampNeg) w_8 hw _ _ hP hS ls (lv_sub hl [2, 3, 4, 5, 6, 7] rfl)
  · have hw := hw.2 c_10
    refine lv_iconst (v := 0) hx hb dL_law_689 (by decide) ?_
    exact hw.elim
set_option maxHeartbeats 4000000 in
set_option maxRecDepth 100000 in
def wpL_C8 (xs : Nat → Int32) (L : Nat) (i0 : Int32) (w : St) (post : St → Prop) : Prop := (vp_in (i0 + 1) L) ∧ (wpL_leaderOf (xs ((i0 + 1)).toNatClampNeg) w (fun r_3 w_2 => (vp_in (i0 + 1) L) ∧ (wpX5_leaderOf (xs ((i0 + 1)).toNatClampNeg) w_2 (fun r_6 w_5 => wpX5_thrown w_5 (fun r_8 w_7 => (r_8 = r_3 → ((r_3 = 0 → ((vp_in 0 1) ∧ (((lg_cmp (w_7.2.2.1 (0 : Int32).toNatClampNeg) ((r_6).toInt64)) = 0 → (post w_7)) ∧ (¬ ((lg_cmp (w_7.2.2.1 (0 : Int32).toNatClampNeg) ((r_6).toInt64)) = 0) → False)))) ∧ (¬ (r_3 = 0) → (post w_7)))) ∧ (¬ (r_8 = r_3) → False))))))
set_option maxHeartbeats 4000000 in
set_option maxRecDepth 100000 in
theorem mL_C8 {p : Program} {l : Launch} {e : Env} {s : State} {m : MethodId} {below : List Frame} {meth : Method} {c : Code} {D : va_G} {ca : Nat → ClassId} {ad : Nat → Nat} {base b L : Nat} {xs : Nat → Int32} (C0 : LX p l s m c D ca ad base b L xs) {Q : State → Prop} {cells slots : Nat} (hcel : cells + 4 ≤ 603072) (hslo : slots + 24 ≤ 7215210) (i0 : Int32) (w : St) (post : St → Prop) (hw : wpL_C8 xs L i0 w post) (hK : ∀ (w : St), post w → ∀ (H : Heap) (locs : List Loc), PA D ca ad w H → va_S (AB base) s.heap H locs → ∀ ls : Array Slot, lv_has ls 10 [(0, .ref b), (1, .ref (ad 0)), (2, .ref (ad 33)), (3, .ref (ad 59)), (4, .ref (ad 60)), (5, .int i0)] → W p l e room_1 s m #[Value.ref b] below meth c H locs (cells + 4) (slots + 24) Q (F0 m 2692 ls [])) (H : Heap) (locs : List Loc) (hP : PA D ca ad w H) (hS : va_S (AB base) s.heap H locs) (ls : Array Slot) (hl : lv_has ls 10 [(0, .ref b), (1, .ref (ad 0)), (2, .ref (ad 33)), (3, .ref (ad 59)), (4, .ref (ad 60)), (5, .int i0)]) : W p l e room_1 s m #[Value.ref b] below meth c H locs cells slots Q (F0 m 718 ls []) := by
  obtain ⟨hx, hb, hml, hown, hts, hK0, hXP, hAd, hbs, hX, hbl, hbA, hl9⟩ := C0
  refine lv_aload_n hx hb dL_law_718 rfl (lv_at hl 1 rfl) ?_
  refine lv_aload_n hx hb dL_law_719 rfl (lv_at hl 0 rfl) ?_
  refine lv_iload hx hb dL_law_720 (lv_at hl 5 rfl) ?_
  refine lv_iconst (v := 1) hx hb dL_law_722 (by decide) ?_
  refine lv_iadd hx hb dL_law_723 ?_
  obtain ⟨h_1, hw⟩ := hw
  refine va_sld hx hb hX hbl hbA hS h_1 dL_law_724 ?_
  refine lv_aload_n hx hb dL_law_725 rfl (lv_at hl 3 rfl) ?_
  refine va_calli (vx_runSW (As := [.ref (ad 0), .int (xs ((i0 + 1)).toNatClampNeg), .ref (ad 59)]) (rest := []) ⟨hx, hb, hml, hown, hts⟩ (mL_leaderOf l D ca ad base hAd w (xs ((i0 + 1)).toNatClampNeg) _ hw hl9) (vx_cwSW 3 hts gL_law_L_leaderOf rfl rfl rfl (by decide +kernel) ⟨Nat.le_of_ble_eq_true rfl, Nat.le_of_ble_eq_true rfl⟩) (psx [.ref (ad 0), .int (xs ((i0 + 1)).toNatClampNeg), .ref (ad 59)] hK0 hXP hP hbs hS) rfl rfl hl.1 rfl (lv_room (Nat.le_of_ble_eq_true rfl)) dL_law_726 ⟨by simp only [room_1]; omega, by simp only [room_1]; omega⟩) hS (fun q _ h => h) (fun q h => h) (fun r_3 w_2 t H locs ht hvm hw hP hz1 hk1 hS => ?_)
  have hP : PA D ca ad w_2 H := by rw [← ht]; exact hP
  refine lv_istore (lv' := [(6, .int r_3), (0, .ref b), (1, .ref (ad 0)), (2, .ref (ad 33)), (3, .ref (ad 59)), (4, .ref (ad 60)), (5, .int i0)]) hx hb dL_law_729 hl (by decide) rfl (fun ls hl => ?_)
  refine lv_aload_n hx hb dL_law_731 rfl (lv_at hl 3 rfl) ?_
  refine lv_aload_n hx hb dL_law_732 rfl (lv_at hl 1 rfl) ?_
  refine lv_iload hx hb dL_law_733 (lv_at hl 6 rfl) ?_
  refine lv_iconst (v := 1) hx hb dL_law_735 (by decide) ?_
  refine lv_iadd hx hb dL_law_736 ?_
  obtain ⟨h_4, hw⟩ := hw
  refine va_sld hx hb hX hbl hbA hS h_4 dL_law_737 ?_
  refine va_calli (va_runV (As := [.int (xs ((i0 + 1)).toNatClampNeg)]) (rest := []) ⟨hx, hb, hml, hown, hts⟩ (mX5_leaderOf l D ca ad base hAd w_2 (xs ((i0 + 1)).toNatClampNeg) _ hw) (cwV 1 hts gL_law_X5_leaderOf rfl rfl rfl (by decide +kernel) ⟨Nat.le_of_ble_eq_true rfl, Nat.le_of_ble_eq_true rfl⟩) (pv [.int (xs ((i0 + 1)).toNatClampNeg)] hK0 hP hbs hS rfl (wg33 ca ad w_2)) rfl rfl hl.1 rfl (lv_room (Nat.le_of_ble_eq_true rfl)) dL_law_738 ⟨by simp only [room_1]; omega, by simp only [room_1]; omega⟩) hS (fun q _ h => h) (fun q h => h) (fun r_6 w_5 t H locs ht hvm hw hP hz1 hk1 hS => ?_)
  have hP : PA D ca ad w_5 H := by rw [← ht]; exact hP
  refine lv_istore (lv' := [(7, .int r_6), (6, .int r_3), (0, .ref b), (1, .ref (ad 0)), (2, .ref (ad 33)), (3, .ref (ad 59)), (4, .ref (ad 60)), (5, .int i0)]) hx hb dL_law_741 hl (by decide) rfl (fun ls hl => ?_)
  refine lv_aload_n hx hb dL_law_743 rfl (lv_at hl 4 rfl) ?_
  refine va_calli (va_runV (As := []) (rest := []) ⟨hx, hb, hml, hown, hts⟩ (mX5_thrown l D ca ad base hAd w_5 _ hw) (cwV 0 hts gL_law_X5_thrown rfl rfl rfl (by decide +kernel) ⟨Nat.le_of_ble_eq_true rfl, Nat.le_of_ble_eq_true rfl⟩) (pv [] hK0 hP hbs hS rfl (wg33 ca ad w_5)) rfl rfl hl.1 rfl (lv_room (Nat.le_of_ble_eq_true rfl)) dL_law_744 ⟨by simp only [room_1]; omega, by simp only [room_1]; omega⟩) hS (fun q _ h => h) (fun q h => h) (fun r_8 w_7 t H locs ht hvm hw hP hz1 hk1 hS => ?_)
  have hP : PA D ca ad w_7 H := by rw [← ht]; exact hP
  refine lv_iload hx hb dL_law_747 (lv_at hl 1 rfl) ?_
  refine lv_icmp_eq (tgt := 754) hx hb dL_law_749 (by decide) (fun c_9 => ?_) (fun c_9 => ?_)
  · have hw := hw.1 c_9
    refine lv_iload hx hb dL_law_754 (lv_at hl 1 rfl) ?_
    refine lv_if_ne (tgt := 771) hx hb dL_law_756 (by decide) (fun c_10 => ?_) (fun c_10 => ?_)
    · have hw := hw.2 c_10
      refine lv_goto (tgt := 2692) hx hb dL_law_771 (by decide) ?_
      refine W.widen (k := cells + 4) (n := slots + 24) (by omega) (by omega) ?_
      exact hK w_7 hw _ _ hP hS ls (lv_sub hl [2, 3, 4, 5, 6, 7] rfl)
    · have hw := hw.1 c_10
      refine lv_aload_n hx hb dL_law_759 rfl (lv_at hl 5 rfl) ?_
      refine lv_iconst (v := 0) hx hb dL_law_760 (by decide) ?_
      obtain ⟨h_11, hw⟩ := hw
      refine va_lald hx hb hK0 hP 59 3 (wg59 ca ad w_7) rfl h_11 dL_law_761 ?_
      refine lv_iload hx hb dL_law_762 (lv_at hl 0 rfl) ?_
      refine lv_i2l (v := (r_6).toInt64) hx hb dL_law_764 rfl ?_
      refine W.lcmp hx hb dL_law_765 ?_
      refine lv_if_eq (tgt := 771) hx hb dL_law_766 (by decide) (fun c_12 => ?_) (fun c_12 => ?_)
      · have hw := hw.1 c_12
        refine lv_goto (tgt := 2692) hx hb dL_law_771 (by decide) ?_
        refine W.widen (k := cells + 4) (n := slots + 24) (by omega) (by omega) ?_
        exact hK w_7 hw _ _ hP hS ls (lv_sub hl [2, 3, 4, 5, 6, 7] rfl)
      · have hw := hw.2 c_12
        refine lv_iconst (v := 0) hx hb dL_law_769 (by decide) ?_
        exact hw.elim
  · have hw := hw.2 c_9
    refine lv_iconst (v := 0) hx hb dL_law_752 (by decide) ?_
    exact hw.elim
set_option maxHeartbeats 4000000 in
set_option maxRecDepth 100000 in
def wpL_C9 (xs : Nat → Int32) (L : Nat) (i0 : Int32) (w : St) (post : St → Prop) : Prop := (vp_in (i0 + 1) L) ∧ (wpL_known (xs ((i0 + 1)).toNatClampNeg) w (fun r_3 w_2 => (vp_in (i0 + 1) L) ∧ (wpX5_known (xs ((i0 + 1)).toNatClampNeg) w_2 (fun r_6 w_5 => wpX5_thrown w_5 (fun r_8 w_7 => (r_8 = r_3 → ((r_3 = 0 → ((vp_in 0 1) ∧ (((lg_cmp (w_7.2.2.1 (0 : Int32).toNatClampNeg) ((r_6).toInt64)) = 0 → (post w_7)) ∧ (¬ ((lg_cmp (w_7.2.2.1 (0 : Int32).toNatClampNeg) ((r_6).toInt64)) = 0) → False)))) ∧ (¬ (r_3 = 0) → (post w_7)))) ∧ (¬ (r_8 = r_3) → False))))))
set_option maxHeartbeats 4000000 in
set_option maxRecDepth 100000 in
theorem mL_C9 {p : Program} {l : Launch} {e : Env} {s : State} {m : MethodId} {below : List Frame} {meth : Method} {c : Code} {D : va_G} {ca : Nat → ClassId} {ad : Nat → Nat} {base b L : Nat} {xs : Nat → Int32} (C0 : LX p l s m c D ca ad base b L xs) {Q : State → Prop} {cells slots : Nat} (hcel : cells + 4 ≤ 603072) (hslo : slots + 24 ≤ 7215210) (i0 : Int32) (w : St) (post : St → Prop) (hw : wpL_C9 xs L i0 w post) (hK : ∀ (w : St), post w → ∀ (H : Heap) (locs : List Loc), PA D ca ad w H → va_S (AB base) s.heap H locs → ∀ ls : Array Slot, lv_has ls 10 [(0, .ref b), (1, .ref (ad 0)), (2, .ref (ad 33)), (3, .ref (ad 59)), (4, .ref (ad 60)), (5, .int i0)] → W p l e room_1 s m #[Value.ref b] below meth c H locs (cells + 4) (slots + 24) Q (F0 m 2692 ls [])) (H : Heap) (locs : List Loc) (hP : PA D ca ad w H) (hS : va_S (AB base) s.heap H locs) (ls : Array Slot) (hl : lv_has ls 10 [(0, .ref b), (1, .ref (ad 0)), (2, .ref (ad 33)), (3, .ref (ad 59)), (4, .ref (ad 60)), (5, .int i0)]) : W p l e room_1 s m #[Value.ref b] below meth c H locs cells slots Q (F0 m 774 ls []) := by
  obtain ⟨hx, hb, hml, hown, hts, hK0, hXP, hAd, hbs, hX, hbl, hbA, hl9⟩ := C0
  refine lv_aload_n hx hb dL_law_774 rfl (lv_at hl 1 rfl) ?_
  refine lv_aload_n hx hb dL_law_775 rfl (lv_at hl 0 rfl) ?_
  refine lv_iload hx hb dL_law_776 (lv_at hl 5 rfl) ?_
  refine lv_iconst (v := 1) hx hb dL_law_778 (by decide) ?_
  refine lv_iadd hx hb dL_law_779 ?_
  obtain ⟨h_1, hw⟩ := hw
  refine va_sld hx hb hX hbl hbA hS h_1 dL_law_780 ?_
  refine lv_aload_n hx hb dL_law_781 rfl (lv_at hl 3 rfl) ?_
  refine va_calli (vx_runSW (As := [.ref (ad 0), .int (xs ((i0 + 1)).toNatClampNeg), .ref (ad 59)]) (rest := []) ⟨hx, hb, hml, hown, hts⟩ (mL_known l D ca ad base hAd w (xs ((i0 + 1)).toNatClampNeg) _ hw hl9) (vx_cwSW 3 hts gL_law_L_known rfl rfl rfl (by decide +kernel) ⟨Nat.le_of_ble_eq_true rfl, Nat.le_of_ble_eq_true rfl⟩) (psx [.ref (ad 0), .int (xs ((i0 + 1)).toNatClampNeg), .ref (ad 59)] hK0 hXP hP hbs hS) rfl rfl hl.1 rfl (lv_room (Nat.le_of_ble_eq_true rfl)) dL_law_782 ⟨by simp only [room_1]; omega, by simp only [room_1]; omega⟩) hS (fun q _ h => h) (fun q h => h) (fun r_3 w_2 t H locs ht hvm hw hP hz1 hk1 hS => ?_)
  have hP : PA D ca ad w_2 H := by rw [← ht]; exact hP
  refine lv_istore (lv' := [(6, .int r_3), (0, .ref b), (1, .ref (ad 0)), (2, .ref (ad 33)), (3, .ref (ad 59)), (4, .ref (ad 60)), (5, .int i0)]) hx hb dL_law_785 hl (by decide) rfl (fun ls hl => ?_)
  refine lv_aload_n hx hb dL_law_787 rfl (lv_at hl 3 rfl) ?_
  refine lv_aload_n hx hb dL_law_788 rfl (lv_at hl 1 rfl) ?_
  refine lv_iload hx hb dL_law_789 (lv_at hl 6 rfl) ?_
  refine lv_iconst (v := 1) hx hb dL_law_791 (by decide) ?_
  refine lv_iadd hx hb dL_law_792 ?_
  obtain ⟨h_4, hw⟩ := hw
  refine va_sld hx hb hX hbl hbA hS h_4 dL_law_793 ?_
  refine va_calli (va_runV (As := [.int (xs ((i0 + 1)).toNatClampNeg)]) (rest := []) ⟨hx, hb, hml, hown, hts⟩ (mX5_known l D ca ad base hAd w_2 (xs ((i0 + 1)).toNatClampNeg) _ hw) (cwV 1 hts gL_law_X5_known rfl rfl rfl (by decide +kernel) ⟨Nat.le_of_ble_eq_true rfl, Nat.le_of_ble_eq_true rfl⟩) (pv [.int (xs ((i0 + 1)).toNatClampNeg)] hK0 hP hbs hS rfl (wg33 ca ad w_2)) rfl rfl hl.1 rfl (lv_room (Nat.le_of_ble_eq_true rfl)) dL_law_794 ⟨by simp only [room_1]; omega, by simp only [room_1]; omega⟩) hS (fun q _ h => h) (fun q h => h) (fun r_6 w_5 t H locs ht hvm hw hP hz1 hk1 hS => ?_)
  have hP : PA D ca ad w_5 H := by rw [← ht]; exact hP
  refine lv_istore (lv' := [(7, .int r_6), (6, .int r_3), (0, .ref b), (1, .ref (ad 0)), (2, .ref (ad 33)), (3, .ref (ad 59)), (4, .ref (ad 60)), (5, .int i0)]) hx hb dL_law_797 hl (by decide) rfl (fun ls hl => ?_)
  refine lv_aload_n hx hb dL_law_799 rfl (lv_at hl 4 rfl) ?_
  refine va_calli (va_runV (As := []) (rest := []) ⟨hx, hb, hml, hown, hts⟩ (mX5_thrown l D ca ad base hAd w_5 _ hw) (cwV 0 hts gL_law_X5_thrown rfl rfl rfl (by decide +kernel) ⟨Nat.le_of_ble_eq_true rfl, Nat.le_of_ble_eq_true rfl⟩) (pv [] hK0 hP hbs hS rfl (wg33 ca ad w_5)) rfl rfl hl.1 rfl (lv_room (Nat.le_of_ble_eq_true rfl)) dL_law_800 ⟨by simp only [room_1]; omega, by simp only [room_1]; omega⟩) hS (fun q _ h => h) (fun q h => h) (fun r_8 w_7 t H locs ht hvm hw hP hz1 hk1 hS => ?_)
  have hP : PA D ca ad w_7 H := by rw [← ht]; exact hP
  refine lv_iload hx hb dL_law_803 (lv_at hl 1 rfl) ?_
  refine lv_icmp_eq (tgt := 810) hx hb dL_law_805 (by decide) (fun c_9 => ?_) (fun c_9 => ?_)
  · have hw := hw.1 c_9
    refine lv_iload hx hb dL_law_810 (lv_at hl 1 rfl) ?_
    refine lv_if_ne (tgt := 827) hx hb dL_law_812 (by decide) (fun c_10 => ?_) (fun c_10 => ?_)
    · have hw := hw.2 c_10
      refine lv_goto (tgt := 2692) hx hb dL_law_827 (by decide) ?_
      refine W.widen (k := cells + 4) (n := slots + 24) (by omega) (by omega) ?_
      exact hK w_7 hw _ _ hP hS ls (lv_sub hl [2, 3, 4, 5, 6, 7] rfl)
    · have hw := hw.1 c_10
      refine lv_aload_n hx hb dL_law_815 rfl (lv_at hl 5 rfl) ?_
      refine lv_iconst (v := 0) hx hb dL_law_816 (by decide) ?_
      obtain ⟨h_11, hw⟩ := hw
      refine va_lald hx hb hK0 hP 59 3 (wg59 ca ad w_7) rfl h_11 dL_law_817 ?_
      refine lv_iload hx hb dL_law_818 (lv_at hl 0 rfl) ?_
      refine lv_i2l (v := (r_6).toInt64) hx hb dL_law_820 rfl ?_
      refine W.lcmp hx hb dL_law_821 ?_
      refine lv_if_eq (tgt := 827) hx hb dL_law_822 (by decide) (fun c_12 => ?_) (fun c_12 => ?_)
      · have hw := hw.1 c_12
        refine lv_goto (tgt := 2692) hx hb dL_law_827 (by decide) ?_
        refine W.widen (k := cells + 4) (n := slots + 24) (by omega) (by omega) ?_
        exact hK w_7 hw _ _ hP hS ls (lv_sub hl [2, 3, 4, 5, 6, 7] rfl)
      · have hw := hw.2 c_12
        refine lv_iconst (v := 0) hx hb dL_law_825 (by decide) ?_
        exact hw.elim
  · have hw := hw.2 c_9
    refine lv_iconst (v := 0) hx hb dL_law_808 (by decide) ?_
    exact hw.elim
set_option maxHeartbeats 4000000 in
set_option maxRecDepth 100000 in
def wpL_C10 (xs : Nat → Int32) (L : Nat) (i0 : Int32) (w : St) (post : St → Prop) : Prop := (vp_in (i0 + 1) L) ∧ ((vp_in (i0 + 2) L) ∧ (wpL_ownerKnown (xs ((i0 + 1)).toNatClampNeg) (xs ((i0 + 2)).toNatClampNeg) w (fun r_4 w_3 => (vp_in (i0 + 1) L) ∧ ((vp_in (i0 + 2) L) ∧ (wpX5_ownerKnown (xs ((i0 + 1)).toNatClampNeg) (xs ((i0 + 2)).toNatClampNeg) w_3 (fun r_8 w_7 => wpX5_thrown w_7 (fun r_10 w_9 => (r_10 = r_4 → ((r_4 = 0 → ((vp_in 0 1) ∧ (((lg_cmp (w_9.2.2.1 (0 : Int32).toNatClampNeg) ((r_8).toInt64)) = 0 → (post w_9)) ∧ (¬ ((lg_cmp (w_9.2.2.1 (0 : Int32).toNatClampNeg) ((r_8).toInt64)) = 0) → False)))) ∧ (¬ (r_4 = 0) → (post w_9)))) ∧ (¬ (r_10 = r_4) → False))))))))
set_option maxHeartbeats 4000000 in
set_option maxRecDepth 100000 in
theorem mL_C10 {p : Program} {l : Launch} {e : Env} {s : State} {m : MethodId} {below : List Frame} {meth : Method} {c : Code} {D : va_G} {ca : Nat → ClassId} {ad : Nat → Nat} {base b L : Nat} {xs : Nat → Int32} (C0 : LX p l s m c D ca ad base b L xs) {Q : State → Prop} {cells slots : Nat} (hcel : cells + 4 ≤ 603072) (hslo : slots + 24 ≤ 7215210) (i0 : Int32) (w : St) (post : St → Prop) (hw : wpL_C10 xs L i0 w post) (hK : ∀ (w : St), post w → ∀ (H : Heap) (locs : List Loc), PA D ca ad w H → va_S (AB base) s.heap H locs → ∀ ls : Array Slot, lv_has ls 10 [(0, .ref b), (1, .ref (ad 0)), (2, .ref (ad 33)), (3, .ref (ad 59)), (4, .ref (ad 60)), (5, .int i0)] → W p l e room_1 s m #[Value.ref b] below meth c H locs (cells + 4) (slots + 24) Q (F0 m 2692 ls [])) (H : Heap) (locs : List Loc) (hP : PA D ca ad w H) (hS : va_S (AB base) s.heap H locs) (ls : Array Slot) (hl : lv_has ls 10 [(0, .ref b), (1, .ref (ad 0)), (2, .ref (ad 33)), (3, .ref (ad 59)), (4, .ref (ad 60)), (5, .int i0)]) : W p l e room_1 s m #[Value.ref b] below meth c H locs cells slots Q (F0 m 830 ls []) := by
  obtain ⟨hx, hb, hml, hown, hts, hK0, hXP, hAd, hbs, hX, hbl, hbA, hl9⟩ := C0
  refine lv_aload_n hx hb dL_law_830 rfl (lv_at hl 1 rfl) ?_
  refine lv_aload_n hx hb dL_law_831 rfl (lv_at hl 0 rfl) ?_
  refine lv_iload hx hb dL_law_832 (lv_at hl 5 rfl) ?_
  refine lv_iconst (v := 1) hx hb dL_law_834 (by decide) ?_
  refine lv_iadd hx hb dL_law_835 ?_
  obtain ⟨h_1, hw⟩ := hw
  refine va_sld hx hb hX hbl hbA hS h_1 dL_law_836 ?_
  refine lv_aload_n hx hb dL_law_837 rfl (lv_at hl 0 rfl) ?_
  refine lv_iload hx hb dL_law_838 (lv_at hl 5 rfl) ?_
  refine lv_iconst (v := 2) hx hb dL_law_840 (by decide) ?_
  refine lv_iadd hx hb dL_law_841 ?_
  obtain ⟨h_2, hw⟩ := hw
  refine va_sld hx hb hX hbl hbA hS h_2 dL_law_842 ?_
  refine lv_aload_n hx hb dL_law_843 rfl (lv_at hl 3 rfl) ?_
  refine va_calli (vx_runSW (As := [.ref (ad 0), .int (xs ((i0 + 1)).toNatClampNeg), .int (xs ((i0 + 2)).toNatClampNeg), .ref (ad 59)]) (rest := []) ⟨hx, hb, hml, hown, hts⟩ (mL_ownerKnown l D ca ad base hAd w (xs ((i0 + 1)).toNatClampNeg) (xs ((i0 + 2)).toNatClampNeg) _ hw hl9) (vx_cwSW 4 hts gL_law_L_ownerKnown rfl rfl rfl (by decide +kernel) ⟨Nat.le_of_ble_eq_true rfl, Nat.le_of_ble_eq_true rfl⟩) (psx [.ref (ad 0), .int (xs ((i0 + 1)).toNatClampNeg), .int (xs ((i0 + 2)).toNatClampNeg), .ref (ad 59)] hK0 hXP hP hbs hS) rfl rfl hl.1 rfl (lv_room (Nat.le_of_ble_eq_true rfl)) dL_law_844 ⟨by simp only [room_1]; omega, by simp only [room_1]; omega⟩) hS (fun q _ h => h) (fun q h => h) (fun r_4 w_3 t H locs ht hvm hw hP hz1 hk1 hS => ?_)
  have hP : PA D ca ad w_3 H := by rw [← ht]; exact hP
  refine lv_istore (lv' := [(6, .int r_4), (0, .ref b), (1, .ref (ad 0)), (2, .ref (ad 33)), (3, .ref (ad 59)), (4, .ref (ad 60)), (5, .int i0)]) hx hb dL_law_847 hl (by decide) rfl (fun ls hl => ?_)
  refine lv_aload_n hx hb dL_law_849 rfl (lv_at hl 3 rfl) ?_
  refine lv_aload_n hx hb dL_law_850 rfl (lv_at hl 1 rfl) ?_
  refine lv_iload hx hb dL_law_851 (lv_at hl 6 rfl) ?_
  refine lv_iconst (v := 1) hx hb dL_law_853 (by decide) ?_
  refine lv_iadd hx hb dL_law_854 ?_
  obtain ⟨h_5, hw⟩ := hw
  refine va_sld hx hb hX hbl hbA hS h_5 dL_law_855 ?_
  refine lv_aload_n hx hb dL_law_856 rfl (lv_at hl 1 rfl) ?_
  refine lv_iload hx hb dL_law_857 (lv_at hl 6 rfl) ?_
  refine lv_iconst (v := 2) hx hb dL_law_859 (by decide) ?_
  refine lv_iadd hx hb dL_law_860 ?_
  obtain ⟨h_6, hw⟩ := hw
  refine va_sld hx hb hX hbl hbA hS h_6 dL_law_861 ?_
  refine va_calli (va_runV (As := [.int (xs ((i0 + 1)).toNatClampNeg), .int (xs ((i0 + 2)).toNatClampNeg)]) (rest := []) ⟨hx, hb, hml, hown, hts⟩ (mX5_ownerKnown l D ca ad base hAd w_3 (xs ((i0 + 1)).toNatClampNeg) (xs ((i0 + 2)).toNatClampNeg) _ hw) (cwV 2 hts gL_law_X5_ownerKnown rfl rfl rfl (by decide +kernel) ⟨Nat.le_of_ble_eq_true rfl, Nat.le_of_ble_eq_true rfl⟩) (pv [.int (xs ((i0 + 1)).toNatClampNeg), .int (xs ((i0 + 2)).toNatClampNeg)] hK0 hP hbs hS rfl (wg33 ca ad w_3)) rfl rfl hl.1 rfl (lv_room (Nat.le_of_ble_eq_true rfl)) dL_law_862 ⟨by simp only [room_1]; omega, by simp only [room_1]; omega⟩) hS (fun q _ h => h) (fun q h => h) (fun r_8 w_7 t H locs ht hvm hw hP hz1 hk1 hS => ?_)
  have hP : PA D ca ad w_7 H := by rw [← ht]; exact hP
  refine lv_istore (lv' := [(7, .int r_8), (6, .int r_4), (0, .ref b), (1, .ref (ad 0)), (2, .ref (ad 33)), (3, .ref (ad 59)), (4, .ref (ad 60)), (5, .int i0)]) hx hb dL_law_865 hl (by decide) rfl (fun ls hl => ?_)
  refine lv_aload_n hx hb dL_law_867 rfl (lv_at hl 4 rfl) ?_
  refine va_calli (va_runV (As := []) (rest := []) ⟨hx, hb, hml, hown, hts⟩ (mX5_thrown l D ca ad base hAd w_7 _ hw) (cwV 0 hts gL_law_X5_thrown rfl rfl rfl (by decide +kernel) ⟨Nat.le_of_ble_eq_true rfl, Nat.le_of_ble_eq_true rfl⟩) (pv [] hK0 hP hbs hS rfl (wg33 ca ad w_7)) rfl rfl hl.1 rfl (lv_room (Nat.le_of_ble_eq_true rfl)) dL_law_868 ⟨by simp only [room_1]; omega, by simp only [room_1]; omega⟩) hS (fun q _ h => h) (fun q h => h) (fun r_10 w_9 t H locs ht hvm hw hP hz1 hk1 hS => ?_)
  have hP : PA D ca ad w_9 H := by rw [← ht]; exact hP
  refine lv_iload hx hb dL_law_871 (lv_at hl 1 rfl) ?_
  refine lv_icmp_eq (tgt := 878) hx hb dL_law_873 (by decide) (fun c_11 => ?_) (fun c_11 => ?_)
  · have hw := hw.1 c_11
    refine lv_iload hx hb dL_law_878 (lv_at hl 1 rfl) ?_
    refine lv_if_ne (tgt := 895) hx hb dL_law_880 (by decide) (fun c_12 => ?_) (fun c_12 => ?_)
    · have hw := hw.2 c_12
      refine lv_goto (tgt := 2692) hx hb dL_law_895 (by decide) ?_
      refine W.widen (k := cells + 4) (n := slots + 24) (by omega) (by omega) ?_
      exact hK w_9 hw _ _ hP hS ls (lv_sub hl [2, 3, 4, 5, 6, 7] rfl)
    · have hw := hw.1 c_12
      refine lv_aload_n hx hb dL_law_883 rfl (lv_at hl 5 rfl) ?_
      refine lv_iconst (v := 0) hx hb dL_law_884 (by decide) ?_
      obtain ⟨h_13, hw⟩ := hw
      refine va_lald hx hb hK0 hP 59 3 (wg59 ca ad w_9) rfl h_13 dL_law_885 ?_
      refine lv_iload hx hb dL_law_886 (lv_at hl 0 rfl) ?_
      refine lv_i2l (v := (r_8).toInt64) hx hb dL_law_888 rfl ?_
      refine W.lcmp hx hb dL_law_889 ?_
      refine lv_if_eq (tgt := 895) hx hb dL_law_890 (by decide) (fun c_14 => ?_) (fun c_14 => ?_)
      · have hw := hw.1 c_14
        refine lv_goto (tgt := 2692) hx hb dL_law_895 (by decide) ?_
        refine W.widen (k := cells + 4) (n := slots + 24) (by omega) (by omega) ?_
        exact hK w_9 hw _ _ hP hS ls (lv_sub hl [2, 3, 4, 5, 6, 7] rfl)
      · have hw := hw.2 c_14
        refine lv_iconst (v := 0) hx hb dL_law_893 (by decide) ?_
        exact hw.elim
  · have hw := hw.2 c_11
    refine lv_iconst (v := 0) hx hb dL_law_876 (by decide) ?_
    exact hw.elim
