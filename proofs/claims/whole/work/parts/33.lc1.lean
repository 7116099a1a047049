set_option maxHeartbeats 4000000 in
set_option maxRecDepth 100000 in
def wpL_C11 (xs : Nat → Int32) (L : Nat) (i0 : Int32) (w : St) (post : St → Prop) : Prop := wpL_addClient w (fun r_2 w_1 => wpX5_addClient w_1 (fun r_4 w_3 => wpX5_thrown w_3 (fun r_6 w_5 => (r_6 = r_2 → ((r_2 = 0 → ((vp_in 0 1) ∧ (((lg_cmp (w_5.2.2.1 (0 : Int32).toNatClampNeg) ((r_4).toInt64)) = 0 → (post w_5)) ∧ (¬ ((lg_cmp (w_5.2.2.1 (0 : Int32).toNatClampNeg) ((r_4).toInt64)) = 0) → False)))) ∧ (¬ (r_2 = 0) → (post w_5)))) ∧ (¬ (r_6 = r_2) → False))))
set_option maxHeartbeats 4000000 in
set_option maxRecDepth 100000 in
theorem mL_C11 {p : Program} {l : Launch} {e : Env} {s : State} {m : MethodId} {below : List Frame} {meth : Method} {c : Code} {D : va_G} {ca : Nat → ClassId} {ad : Nat → Nat} {base b L : Nat} {xs : Nat → Int32} (C0 : LX p l s m c D ca ad base b L xs) {Q : State → Prop} {cells slots : Nat} (hcel : cells + 4 ≤ 603072) (hslo : slots + 24 ≤ 7215210) (i0 : Int32) (w : St) (post : St → Prop) (hw : wpL_C11 xs L i0 w post) (hK : ∀ (w : St), post w → ∀ (H : Heap) (locs : List Loc), PA D ca ad w H → va_S (AB base) s.heap H locs → ∀ ls : Array Slot, lv_has ls 10 [(0, .ref b), (1, .ref (ad 0)), (2, .ref (ad 33)), (3, .ref (ad 59)), (4, .ref (ad 60)), (5, .int i0)] → W p l e room_1 s m #[Value.ref b] below meth c H locs (cells + 4) (slots + 24) Q (F0 m 2692 ls [])) (H : Heap) (locs : List Loc) (hP : PA D ca ad w H) (hS : va_S (AB base) s.heap H locs) (ls : Array Slot) (hl : lv_has ls 10 [(0, .ref b), (1, .ref (ad 0)), (2, .ref (ad 33)), (3, .ref (ad 59)), (4, .ref (ad 60)), (5, .int i0)]) : W p l e room_1 s m #[Value.ref b] below meth c H locs cells slots Q (F0 m 898 ls []) := by
  obtain ⟨hx, hb, hml, hown, hts, hK0, hXP, hAd, hbs, hX, hbl, hbA, hl9⟩ := C0
  refine lv_aload_n hx hb dL_law_898 rfl (lv_at hl 1 rfl) ?_
  refine lv_aload_n hx hb dL_law_899 rfl (lv_at hl 3 rfl) ?_
  refine va_calli (vx_runSW (As := [.ref (ad 0), .ref (ad 59)]) (rest := []) ⟨hx, hb, hml, hown, hts⟩ (mL_addClient l D ca ad base hAd w _ hw hl9) (vx_cwSW 2 hts gL_law_L_addClient rfl rfl rfl (by decide +kernel) ⟨Nat.le_of_ble_eq_true rfl, Nat.le_of_ble_eq_true rfl⟩) (psx [.ref (ad 0), .ref (ad 59)] hK0 hXP hP hbs hS) rfl rfl hl.1 rfl (lv_room (Nat.le_of_ble_eq_true rfl)) dL_law_900 ⟨by simp only [room_1]; omega, by simp only [room_1]; omega⟩) hS (fun q _ h => h) (fun q h => h) (fun r_2 w_1 t H locs ht hvm hw hP hz1 hk1 hS => ?_)
  have hP : PA D ca ad w_1 H := by rw [← ht]; exact hP
  refine lv_istore (lv' := [(6, .int r_2), (0, .ref b), (1, .ref (ad 0)), (2, .ref (ad 33)), (3, .ref (ad 59)), (4, .ref (ad 60)), (5, .int i0)]) hx hb dL_law_903 hl (by decide) rfl (fun ls hl => ?_)
  refine lv_aload_n hx hb dL_law_905 rfl (lv_at hl 3 rfl) ?_
  refine va_calli (va_runV (As := []) (rest := []) ⟨hx, hb, hml, hown, hts⟩ (mX5_addClient l D ca ad base hAd w_1 _ hw) (cwV 0 hts gL_law_X5_addClient rfl rfl rfl (by decide +kernel) ⟨Nat.le_of_ble_eq_true rfl, Nat.le_of_ble_eq_true rfl⟩) (pv [] hK0 hP hbs hS rfl (wg33 ca ad w_1)) rfl rfl hl.1 rfl (lv_room (Nat.le_of_ble_eq_true rfl)) dL_law_906 ⟨by simp only [room_1]; omega, by simp only [room_1]; omega⟩) hS (fun q _ h => h) (fun q h => h) (fun r_4 w_3 t H locs ht hvm hw hP hz1 hk1 hS => ?_)
  have hP : PA D ca ad w_3 H := by rw [← ht]; exact hP
  refine lv_istore (lv' := [(7, .int r_4), (6, .int r_2), (0, .ref b), (1, .ref (ad 0)), (2, .ref (ad 33)), (3, .ref (ad 59)), (4, .ref (ad 60)), (5, .int i0)]) hx hb dL_law_909 hl (by decide) rfl (fun ls hl => ?_)
  refine lv_aload_n hx hb dL_law_911 rfl (lv_at hl 4 rfl) ?_
  refine va_calli (va_runV (As := []) (rest := []) ⟨hx, hb, hml, hown, hts⟩ (mX5_thrown l D ca ad base hAd w_3 _ hw) (cwV 0 hts gL_law_X5_thrown rfl rfl rfl (by decide +kernel) ⟨Nat.le_of_ble_eq_true rfl, Nat.le_of_ble_eq_true rfl⟩) (pv [] hK0 hP hbs hS rfl (wg33 ca ad w_3)) rfl rfl hl.1 rfl (lv_room (Nat.le_of_ble_eq_true rfl)) dL_law_912 ⟨by simp only [room_1]; omega, by simp only [room_1]; omega⟩) hS (fun q _ h => h) (fun q h => h) (fun r_6 w_5 t H locs ht hvm hw hP hz1 hk1 hS => ?_)
  have hP : PA D ca ad w_5 H := by rw [← ht]; exact hP
  refine lv_iload hx hb dL_law_915 (lv_at hl 1 rfl) ?_
  refine lv_icmp_eq (tgt := 922) hx hb dL_law_917 (by decide) (fun c_7 => ?_) (fun c_7 => ?_)
  · have hw := hw.1 c_7
    refine lv_iload hx hb dL_law_922 (lv_at hl 1 rfl) ?_
    refine lv_if_ne (tgt := 939) hx hb dL_law_924 (by decide) (fun c_8 => ?_) (fun c_8 => ?_)
    · have hw := hw.2 c_8
      refine lv_goto (tgt := 2692) hx hb dL_law_939 (by decide) ?_
      refine W.widen (k := cells + 4) (n := slots + 24) (by omega) (by omega) ?_
      exact hK w_5 hw _ _ hP hS ls (lv_sub hl [2, 3, 4, 5, 6, 7] rfl)
    · have hw := hw.1 c_8
      refine lv_aload_n hx hb dL_law_927 rfl (lv_at hl 5 rfl) ?_
      refine lv_iconst (v := 0) hx hb dL_law_928 (by decide) ?_
      obtain ⟨h_9, hw⟩ := hw
      refine va_lald hx hb hK0 hP 59 3 (wg59 ca ad w_5) rfl h_9 dL_law_929 ?_
      refine lv_iload hx hb dL_law_930 (lv_at hl 0 rfl) ?_
      refine lv_i2l (v := (r_4).toInt64) hx hb dL_law_932 rfl ?_
      refine W.lcmp hx hb dL_law_933 ?_
      refine lv_if_eq (tgt := 939) hx hb dL_law_934 (by decide) (fun c_10 => ?_) (fun c_10 => ?_)
      · have hw := hw.1 c_10
        refine lv_goto (tgt := 2692) hx hb dL_law_939 (by decide) ?_
        refine W.widen (k := cells + 4) (n := slots + 24) (by omega) (by omega) ?_
        exact hK w_5 hw _ _ hP hS ls (lv_sub hl [2, 3, 4, 5, 6, 7] rfl)
      · have hw := hw.2 c_10
        refine lv_iconst (v := 0) hx hb dL_law_937 (by decide) ?_
        exact hw.elim
  · have hw := hw.2 c_7
    refine lv_iconst (v := 0) hx hb dL_law_920 (by decide) ?_
    exact hw.elim
set_option maxHeartbeats 4000000 in
set_option maxRecDepth 100000 in
def wpL_C12 (xs : Nat → Int32) (L : Nat) (i0 : Int32) (w : St) (post : St → Prop) : Prop := (vp_in (i0 + 1) L) ∧ ((vp_in (i0 + 2) L) ∧ (wpL_setOffset (xs ((i0 + 1)).toNatClampNeg) (xs ((i0 + 2)).toNatClampNeg) w (fun r_4 w_3 => (vp_in (i0 + 1) L) ∧ ((vp_in (i0 + 2) L) ∧ (wpX5_setOffset (xs ((i0 + 1)).toNatClampNeg) (xs ((i0 + 2)).toNatClampNeg) w_3 (fun r_8 w_7 => wpX5_thrown w_7 (fun r_10 w_9 => (r_10 = r_4 → ((r_4 = 0 → ((vp_in 0 1) ∧ (((lg_cmp (w_9.2.2.1 (0 : Int32).toNatClampNeg) ((r_8).toInt64)) = 0 → (post w_9)) ∧ (¬ ((lg_cmp (w_9.2.2.1 (0 : Int32).toNatClampNeg) ((r_8).toInt64)) = 0) → False)))) ∧ (¬ (r_4 = 0) → (post w_9)))) ∧ (¬ (r_10 = r_4) → False))))))))
set_option maxHeartbeats 4000000 in
set_option maxRecDepth 100000 in
theorem mL_C12 {p : Program} {l : Launch} {e : Env} {s : State} {m : MethodId} {below : List Frame} {meth : Method} {c : Code} {D : va_G} {ca : Nat → ClassId} {ad : Nat → Nat} {base b L : Nat} {xs : Nat → Int32} (C0 : LX p l s m c D ca ad base b L xs) {Q : State → Prop} {cells slots : Nat} (hcel : cells + 4 ≤ 603072) (hslo : slots + 24 ≤ 7215210) (i0 : Int32) (w : St) (post : St → Prop) (hw : wpL_C12 xs L i0 w post) (hK : ∀ (w : St), post w → ∀ (H : Heap) (locs : List Loc), PA D ca ad w H → va_S (AB base) s.heap H locs → ∀ ls : Array Slot, lv_has ls 10 [(0, .ref b), (1, .ref (ad 0)), (2, .ref (ad 33)), (3, .ref (ad 59)), (4, .ref (ad 60)), (5, .int i0)] → W p l e room_1 s m #[Value.ref b] below meth c H locs (cells + 4) (slots + 24) Q (F0 m 2692 ls [])) (H : Heap) (locs : List Loc) (hP : PA D ca ad w H) (hS : va_S (AB base) s.heap H locs) (ls : Array Slot) (hl : lv_has ls 10 [(0, .ref b), (1, .ref (ad 0)), (2, .ref (ad 33)), (3, .ref (ad 59)), (4, .ref (ad 60)), (5, .int i0)]) : W p l e room_1 s m #[Value.ref b] below meth c H locs cells slots Q (F0 m 942 ls []) := by
  obtain ⟨hx, hb, hml, hown, hts, hK0, hXP, hAd, hbs, hX, hbl, hbA, hl9⟩ := C0
  refine lv_aload_n hx hb dL_law_942 rfl (lv_at hl 1 rfl) ?_
  refine lv_aload_n hx hb dL_law_943 rfl (lv_at hl 0 rfl) ?_
  refine lv_iload hx hb dL_law_944 (lv_at hl 5 rfl) ?_
  refine lv_iconst (v := 1) hx hb dL_law_946 (by decide) ?_
  refine lv_iadd hx hb dL_law_947 ?_
  obtain ⟨h_1, hw⟩ := hw
  refine va_sld hx hb hX hbl hbA hS h_1 dL_law_948 ?_
  refine lv_aload_n hx hb dL_law_949 rfl (lv_at hl 0 rfl) ?_
  refine lv_iload hx hb dL_law_950 (lv_at hl 5 rfl) ?_
  refine lv_iconst (v := 2) hx hb dL_law_952 (by decide) ?_
  refine lv_iadd hx hb dL_law_953 ?_
  obtain ⟨h_2, hw⟩ := hw
  refine va_sld hx hb hX hbl hbA hS h_2 dL_law_954 ?_
  refine lv_aload_n hx hb dL_law_955 rfl (lv_at hl 3 rfl) ?_
  refine va_calli (vx_runSW (As := [.ref (ad 0), .int (xs ((i0 + 1)).toNatClampNeg), .int (xs ((i0 + 2)).toNatClampNeg), .ref (ad 59)]) (rest := []) ⟨hx, hb, hml, hown, hts⟩ (mL_setOffset l D ca ad base hAd w (xs ((i0 + 1)).toNatClampNeg) (xs ((i0 + 2)).toNatClampNeg) _ hw hl9) (vx_cwSW 4 hts gL_law_L_setOffset rfl rfl rfl (by decide +kernel) ⟨Nat.le_of_ble_eq_true rfl, Nat.le_of_ble_eq_true rfl⟩) (psx [.ref (ad 0), .int (xs ((i0 + 1)).toNatClampNeg), .int (xs ((i0 + 2)).toNatClampNeg), .ref (ad 59)] hK0 hXP hP hbs hS) rfl rfl hl.1 rfl (lv_room (Nat.le_of_ble_eq_true rfl)) dL_law_956 ⟨by simp only [room_1]; omega, by simp only [room_1]; omega⟩) hS (fun q _ h => h) (fun q h => h) (fun r_4 w_3 t H locs ht hvm hw hP hz1 hk1 hS => ?_)
  have hP : PA D ca ad w_3 H := by rw [← ht]; exact hP
  refine lv_istore (lv' := [(6, .int r_4), (0, .ref b), (1, .ref (ad 0)), (2, .ref (ad 33)), (3, .ref (ad 59)), (4, .ref (ad 60)), (5, .int i0)]) hx hb dL_law_959 hl (by decide) rfl (fun ls hl => ?_)
  refine lv_aload_n hx hb dL_law_961 rfl (lv_at hl 3 rfl) ?_
  refine lv_aload_n hx hb dL_law_962 rfl (lv_at hl 1 rfl) ?_
  refine lv_iload hx hb dL_law_963 (lv_at hl 6 rfl) ?_
  refine lv_iconst (v := 1) hx hb dL_law_965 (by decide) ?_
  refine lv_iadd hx hb dL_law_966 ?_
  obtain ⟨h_5, hw⟩ := hw
  refine va_sld hx hb hX hbl hbA hS h_5 dL_law_967 ?_
  refine lv_aload_n hx hb dL_law_968 rfl (lv_at hl 1 rfl) ?_
  refine lv_iload hx hb dL_law_969 (lv_at hl 6 rfl) ?_
  refine lv_iconst (v := 2) hx hb dL_law_971 (by decide) ?_
  refine lv_iadd hx hb dL_law_972 ?_
  obtain ⟨h_6, hw⟩ := hw
  refine va_sld hx hb hX hbl hbA hS h_6 dL_law_973 ?_
  refine va_calli (va_runV (As := [.int (xs ((i0 + 1)).toNatClampNeg), .int (xs ((i0 + 2)).toNatClampNeg)]) (rest := []) ⟨hx, hb, hml, hown, hts⟩ (mX5_setOffset l D ca ad base hAd w_3 (xs ((i0 + 1)).toNatClampNeg) (xs ((i0 + 2)).toNatClampNeg) _ hw) (cwV 2 hts gL_law_X5_setOffset rfl rfl rfl (by decide +kernel) ⟨Nat.le_of_ble_eq_true rfl, Nat.le_of_ble_eq_true rfl⟩) (pv [.int (xs ((i0 + 1)).toNatClampNeg), .int (xs ((i0 + 2)).toNatClampNeg)] hK0 hP hbs hS rfl (wg33 ca ad w_3)) rfl rfl hl.1 rfl (lv_room (Nat.le_of_ble_eq_true rfl)) dL_law_974 ⟨by simp only [room_1]; omega, by simp only [room_1]; omega⟩) hS (fun q _ h => h) (fun q h => h) (fun r_8 w_7 t H locs ht hvm hw hP hz1 hk1 hS => ?_)
  have hP : PA D ca ad w_7 H := by rw [← ht]; exact hP
  refine lv_istore (lv' := [(7, .int r_8), (6, .int r_4), (0, .ref b), (1, .ref (ad 0)), (2, .ref (ad 33)), (3, .ref (ad 59)), (4, .ref (ad 60)), (5, .int i0)]) hx hb dL_law_977 hl (by decide) rfl (fun ls hl => ?_)
  refine lv_aload_n hx hb dL_law_979 rfl (lv_at hl 4 rfl) ?_
  refine va_calli (va_runV (As := []) (rest := []) ⟨hx, hb, hml, hown, hts⟩ (mX5_thrown l D ca ad base hAd w_7 _ hw) (cwV 0 hts gL_law_X5_thrown rfl rfl rfl (by decide +kernel) ⟨Nat.le_of_ble_eq_true rfl, Nat.le_of_ble_eq_true rfl⟩) (pv [] hK0 hP hbs hS rfl (wg33 ca ad w_7)) rfl rfl hl.1 rfl (lv_room (Nat.le_of_ble_eq_true rfl)) dL_law_980 ⟨by simp only [room_1]; omega, by simp only [room_1]; omega⟩) hS (fun q _ h => h) (fun q h => h) (fun r_10 w_9 t H locs ht hvm hw hP hz1 hk1 hS => ?_)
  have hP : PA D ca ad w_9 H := by rw [← ht]; exact hP
  refine lv_iload hx hb dL_law_983 (lv_at hl 1 rfl) ?_
  refine lv_icmp_eq (tgt := 990) hx hb dL_law_985 (by decide) (fun c_11 => ?_) (fun c_11 => ?_)
  · have hw := hw.1 c_11
    refine lv_iload hx hb dL_law_990 (lv_at hl 1 rfl) ?_
    refine lv_if_ne (tgt := 1007) hx hb dL_law_992 (by decide) (fun c_12 => ?_) (fun c_12 => ?_)
    · have hw := hw.2 c_12
      refine lv_goto (tgt := 2692) hx hb dL_law_1007 (by decide) ?_
      refine W.widen (k := cells + 4) (n := slots + 24) (by omega) (by omega) ?_
      exact hK w_9 hw _ _ hP hS ls (lv_sub hl [2, 3, 4, 5, 6, 7] rfl)
    · have hw := hw.1 c_12
      refine lv_aload_n hx hb dL_law_995 rfl (lv_at hl 5 rfl) ?_
      refine lv_iconst (v := 0) hx hb dL_law_996 (by decide) ?_
      obtain ⟨h_13, hw⟩ := hw
      refine va_lald hx hb hK0 hP 59 3 (wg59 ca ad w_9) rfl h_13 dL_law_997 ?_
      refine lv_iload hx hb dL_law_998 (lv_at hl 0 rfl) ?_
      refine lv_i2l (v := (r_8).toInt64) hx hb dL_law_1000 rfl ?_
      refine W.lcmp hx hb dL_law_1001 ?_
      refine lv_if_eq (tgt := 1007) hx hb dL_law_1002 (by decide) (fun c_14 => ?_) (fun c_14 => ?_)
      · have hw := hw.1 c_14
        refine lv_goto (tgt := 2692) hx hb dL_law_1007 (by decide) ?_
        refine W.widen (k := cells + 4) (n := slots + 24) (by omega) (by omega) ?_
        exact hK w_9 hw _ _ hP hS ls (lv_sub hl [2, 3, 4, 5, 6, 7] rfl)
      · have hw := hw.2 c_14
        refine lv_iconst (v := 0) hx hb dL_law_1005 (by decide) ?_
        exact hw.elim
  · have hw := hw.2 c_11
    refine lv_iconst (v := 0) hx hb dL_law_988 (by decide) ?_
    exact hw.elim
set_option maxHeartbeats 4000000 in
set_option maxRecDepth 100000 in
def wpL_C13_B1092 (xs : Nat → Int32) (L : Nat) (i0 : Int32) (post : St → Prop) (s0 : Int64) (s1 : Int64) (w : St) : Prop := ((lg_cmp s1 s0) = 0 → (post w)) ∧ (¬ ((lg_cmp s1 s0) = 0) → False)
set_option maxHeartbeats 4000000 in
set_option maxRecDepth 100000 in
def wpL_C13_B1058 (xs : Nat → Int32) (L : Nat) (i0 : Int32) (post : St → Prop) (v6 : Int32) (s0 : Int32) (s1 : Int32) (w : St) : Prop := wpX5_setPaused s1 s0 w (fun r_3 w_2 => wpX5_thrown w_2 (fun r_5 w_4 => (r_5 = v6 → ((v6 = 0 → ((vp_in 0 1) ∧ ((r_3 = 0 → (wpL_C13_B1092 xs L i0 post 0 (w_4.2.2.1 (0 : Int32).toNatClampNeg) w_4)) ∧ (¬ (r_3 = 0) → (wpL_C13_B1092 xs L i0 post 1 (w_4.2.2.1 (0 : Int32).toNatClampNeg) w_4))))) ∧ (¬ (v6 = 0) → (post w_4)))) ∧ (¬ (r_5 = v6) → False)))
set_option maxHeartbeats 4000000 in
set_option maxRecDepth 100000 in
def wpL_C13_B1031 (xs : Nat → Int32) (L : Nat) (i0 : Int32) (post : St → Prop) (s0 : Int32) (s1 : Int32) (w : St) : Prop := wpL_setPaused s1 s0 w (fun r_11 w_10 => (vp_in (i0 + 1) L) ∧ ((vp_in (i0 + 2) L) ∧ (((xs ((i0 + 2)).toNatClampNeg) = 0 → (wpL_C13_B1058 xs L i0 post r_11 0 (xs ((i0 + 1)).toNatClampNeg) w_10)) ∧ (¬ ((xs ((i0 + 2)).toNatClampNeg) = 0) → (wpL_C13_B1058 xs L i0 post r_11 1 (xs ((i0 + 1)).toNatClampNeg) w_10)))))
set_option maxHeartbeats 4000000 in
set_option maxRecDepth 100000 in
def wpL_C13 (xs : Nat → Int32) (L : Nat) (i0 : Int32) (w : St) (post : St → Prop) : Prop := (vp_in (i0 + 1) L) ∧ ((vp_in (i0 + 2) L) ∧ (((xs ((i0 + 2)).toNatClampNeg) = 0 → (wpL_C13_B1031 xs L i0 post 0 (xs ((i0 + 1)).toNatClampNeg) w)) ∧ (¬ ((xs ((i0 + 2)).toNatClampNeg) = 0) → (wpL_C13_B1031 xs L i0 post 1 (xs ((i0 + 1)).toNatClampNeg) w))))
set_option maxHeartbeats 4000000 in
set_option maxRecDepth 100000 in
theorem mL_C13 {p : Program} {l : Launch} {e : Env} {s : State} {m : MethodId} {below : List Frame} {meth : Method} {c : Code} {D : va_G} {ca : Nat → ClassId} {ad : Nat → Nat} {base b L : Nat} {xs : Nat → Int32} (C0 : LX p l s m c D ca ad base b L xs) {Q : State → Prop} {cells slots : Nat} (hcel : cells + 4 ≤ 603072) (hslo : slots + 24 ≤ 7215210) (i0 : Int32) (w : St) (post : St → Prop) (hw : wpL_C13 xs L i0 w post) (hK : ∀ (w : St), post w → ∀ (H : Heap) (locs : List Loc), PA D ca ad w H → va_S (AB base) s.heap H locs → ∀ ls : Array Slot, lv_has ls 10 [(0, .ref b), (1, .ref (ad 0)), (2, .ref (ad 33)), (3, .ref (ad 59)), (4, .ref (ad 60)), (5, .int i0)] → W p l e room_1 s m #[Value.ref b] below meth c H locs (cells + 4) (slots + 24) Q (F0 m 2692 ls [])) (H : Heap) (locs : List Loc) (hP : PA D ca ad w H) (hS : va_S (AB base) s.heap H locs) (ls : Array Slot) (hl : lv_has ls 10 [(0, .ref b), (1, .ref (ad 0)), (2, .ref (ad 33)), (3, .ref (ad 59)), (4, .ref (ad 60)), (5, .int i0)]) : W p l e room_1 s m #[Value.ref b] below meth c H locs cells slots Q (F0 m 1010 ls []) := by
  obtain ⟨hx, hb, hml, hown, hts, hK0, hXP, hAd, hbs, hX, hbl, hbA, hl9⟩ := C0
  have hB1092 : ∀ (s0 : Int64) (s1 : Int64) (w : St), wpL_C13_B1092 xs L i0 post s0 s1 w → ∀ (H : Heap) (locs : List Loc), PA D ca ad w H → va_S (AB base) s.heap H locs → ∀ ls : Array Slot, lv_has ls 10 [(0, .ref b), (1, .ref (ad 0)), (2, .ref (ad 33)), (3, .ref (ad 59)), (4, .ref (ad 60)), (5, .int i0)] → W p l e room_1 s m #[Value.ref b] below meth c H locs (cells + 4) (slots + 24) Q (F0 m 1092 ls [.long s0, .long s1]) := by
    intro s0 s1 w hw H locs hP hS ls hl
    refine W.lcmp hx hb dL_law_1092 ?_
    refine lv_if_eq (tgt := 1098) hx hb dL_law_1093 (by decide) (fun c_1 => ?_) (fun c_1 => ?_)
    · have hw := hw.1 c_1
      refine lv_goto (tgt := 2692) hx hb dL_law_1098 (by decide) ?_
      refine W.widen (k := cells + 4) (n := slots + 24) (by omega) (by omega) ?_
      exact hK w hw _ _ hP hS ls (lv_sub hl [0, 1, 2, 3, 4, 5] rfl)
    · have hw := hw.2 c_1
      refine lv_iconst (v := 0) hx hb dL_law_1096 (by decide) ?_
      exact hw.elim
  have hB1058 : ∀ (v6 : Int32) (s0 : Int32) (s1 : Int32) (w : St), wpL_C13_B1058 xs L i0 post v6 s0 s1 w → ∀ (H : Heap) (locs : List Loc), PA D ca ad w H → va_S (AB base) s.heap H locs → ∀ ls : Array Slot, lv_has ls 10 [(0, .ref b), (1, .ref (ad 0)), (2, .ref (ad 33)), (3, .ref (ad 59)), (4, .ref (ad 60)), (5, .int i0), (6, .int v6)] → W p l e room_1 s m #[Value.ref b] below meth c H locs (cells + 4) (slots + 24) Q (F0 m 1058 ls [.int s0, .int s1, .ref (ad 33)]) := by
    intro v6 s0 s1 w hw H locs hP hS ls hl
    refine va_calli (va_runV (As := [.int s1, .int s0]) (rest := []) ⟨hx, hb, hml, hown, hts⟩ (mX5_setPaused l D ca ad base hAd w s1 s0 _ hw) (cwV 2 hts gL_law_X5_setPaused rfl rfl rfl (by decide +kernel) ⟨Nat.le_of_ble_eq_true rfl, Nat.le_of_ble_eq_true rfl⟩) (pv [.int s1, .int s0] hK0 hP hbs hS rfl (wg33 ca ad w)) rfl rfl hl.1 rfl (lv_room (Nat.le_of_ble_eq_true rfl)) dL_law_1058 ⟨by simp only [room_1]; omega, by simp only [room_1]; omega⟩) hS (fun q _ h => h) (fun q h => h) (fun r_3 w_2 t H locs ht hvm hw hP hz1 hk1 hS => ?_)
    have hP : PA D ca ad w_2 H := by rw [← ht]; exact hP
    refine lv_istore (lv' := [(7, .int r_3), (0, .ref b), (1, .ref (ad 0)), (2, .ref (ad 33)), (3, .ref (ad 59)), (4, .ref (ad 60)), (5, .int i0), (6, .int v6)]) hx hb dL_law_1061 hl (by decide) rfl (fun ls hl => ?_)
    refine lv_aload_n hx hb dL_law_1063 rfl (lv_at hl 3 rfl) ?_
    refine va_calli (va_runV (As := []) (rest := []) ⟨hx, hb, hml, hown, hts⟩ (mX5_thrown l D ca ad base hAd w_2 _ hw) (cwV 0 hts gL_law_X5_thrown rfl rfl rfl (by decide +kernel) ⟨Nat.le_of_ble_eq_true rfl, Nat.le_of_ble_eq_true rfl⟩) (pv [] hK0 hP hbs hS rfl (wg33 ca ad w_2)) rfl rfl hl.1 rfl (lv_room (Nat.le_of_ble_eq_true rfl)) dL_law_1064 ⟨by simp only [room_1]; omega, by simp only [room_1]; omega⟩) hS (fun q _ h => h) (fun q h => h) (fun r_5 w_4 t H locs ht hvm hw hP hz1 hk1 hS => ?_)
    have hP : PA D ca ad w_4 H := by rw [← ht]; exact hP
    refine lv_iload hx hb dL_law_1067 (lv_at hl 7 rfl) ?_
    refine lv_icmp_eq (tgt := 1074) hx hb dL_law_1069 (by decide) (fun c_6 => ?_) (fun c_6 => ?_)
    · have hw := hw.1 c_6
      refine lv_iload hx hb dL_law_1074 (lv_at hl 7 rfl) ?_
      refine lv_if_ne (tgt := 1098) hx hb dL_law_1076 (by decide) (fun c_7 => ?_) (fun c_7 => ?_)
      · have hw := hw.2 c_7
        refine lv_goto (tgt := 2692) hx hb dL_law_1098 (by decide) ?_
        refine W.widen (k := cells + 4) (n := slots + 24) (by omega) (by omega) ?_
        exact hK w_4 hw _ _ hP hS ls (lv_sub hl [1, 2, 3, 4, 5, 6] rfl)
      · have hw := hw.1 c_7
        refine lv_aload_n hx hb dL_law_1079 rfl (lv_at hl 4 rfl) ?_
        refine lv_iconst (v := 0) hx hb dL_law_1080 (by decide) ?_
        obtain ⟨h_8, hw⟩ := hw
        refine va_lald hx hb hK0 hP 59 3 (wg59 ca ad w_4) rfl h_8 dL_law_1081 ?_
        refine lv_iload hx hb dL_law_1082 (lv_at hl 0 rfl) ?_
        refine lv_if_eq (tgt := 1091) hx hb dL_law_1084 (by decide) (fun c_9 => ?_) (fun c_9 => ?_)
        · have hw := hw.1 c_9
          refine lv_lconst (v := 0) hx hb dL_law_1091 (by decide) ?_
          refine W.widen (k := cells + 4) (n := slots + 24) (by omega) (by omega) ?_
          exact hB1092 0 (w_4.2.2.1 (0 : Int32).toNatClampNeg) w_4 hw _ _ hP hS ls (lv_sub hl [1, 2, 3, 4, 5, 6] rfl)
        · have hw := hw.2 c_9
          refine lv_lconst (v := 1) hx hb dL_law_1087 (by decide) ?_
          refine lv_goto (tgt := 1092) hx hb dL_law_1088 (by decide) ?_
          refine W.widen (k := cells + 4) (n := slots + 24) (by omega) (by omega) ?_
          exact hB1092 1 (w_4.2.2.1 (0 : Int32).toNatClampNeg) w_4 hw _ _ hP hS ls (lv_sub hl [1, 2, 3, 4, 5, 6] rfl)
    · have hw := hw.2 c_6
      refine lv_iconst (v := 0) hx hb dL_law_1072 (by decide) ?_
      exact hw.elim
  have hB1031 : ∀ (s0 : Int32) (s1 : Int32) (w : St), wpL_C13_B1031 xs L i0 post s0 s1 w → ∀ (H : Heap) (locs : List Loc), PA D ca ad w H → va_S (AB base) s.heap H locs → ∀ ls : Array Slot, lv_has ls 10 [(0, .ref b), (1, .ref (ad 0)), (2, .ref (ad 33)), (3, .ref (ad 59)), (4, .ref (ad 60)), (5, .int i0)] → W p l e room_1 s m #[Value.ref b] below meth c H locs cells slots Q (F0 m 1031 ls [.int s0, .int s1, .ref (ad 0)]) := by
    intro s0 s1 w hw H locs hP hS ls hl
    refine lv_aload_n hx hb dL_law_1031 rfl (lv_at hl 3 rfl) ?_
    refine va_calli (vx_runSW (As := [.ref (ad 0), .int s1, .int s0, .ref (ad 59)]) (rest := []) ⟨hx, hb, hml, hown, hts⟩ (mL_setPaused l D ca ad base hAd w s1 s0 _ hw hl9) (vx_cwSW 4 hts gL_law_L_setPaused rfl rfl rfl (by decide +kernel) ⟨Nat.le_of_ble_eq_true rfl, Nat.le_of_ble_eq_true rfl⟩) (psx [.ref (ad 0), .int s1, .int s0, .ref (ad 59)] hK0 hXP hP hbs hS) rfl rfl hl.1 rfl (lv_room (Nat.le_of_ble_eq_true rfl)) dL_law_1032 ⟨by simp only [room_1]; omega, by simp only [room_1]; omega⟩) hS (fun q _ h => h) (fun q h => h) (fun r_11 w_10 t H locs ht hvm hw hP hz1 hk1 hS => ?_)
    have hP : PA D ca ad w_10 H := by rw [← ht]; exact hP
    refine lv_istore (lv' := [(6, .int r_11), (0, .ref b), (1, .ref (ad 0)), (2, .ref (ad 33)), (3, .ref (ad 59)), (4, .ref (ad 60)), (5, .int i0)]) hx hb dL_law_1035 hl (by decide) rfl (fun ls hl => ?_)
    refine lv_aload_n hx hb dL_law_1037 rfl (lv_at hl 3 rfl) ?_
    refine lv_aload_n hx hb dL_law_1038 rfl (lv_at hl 1 rfl) ?_
    refine lv_iload hx hb dL_law_1039 (lv_at hl 6 rfl) ?_
    refine lv_iconst (v := 1) hx hb dL_law_1041 (by decide) ?_
    refine lv_iadd hx hb dL_law_1042 ?_
    obtain ⟨h_12, hw⟩ := hw
    refine va_sld hx hb hX hbl hbA hS h_12 dL_law_1043 ?_
    refine lv_aload_n hx hb dL_law_1044 rfl (lv_at hl 1 rfl) ?_
    refine lv_iload hx hb dL_law_1045 (lv_at hl 6 rfl) ?_
    refine lv_iconst (v := 2) hx hb dL_law_1047 (by decide) ?_
    refine lv_iadd hx hb dL_law_1048 ?_
    obtain ⟨h_13, hw⟩ := hw
    refine va_sld hx hb hX hbl hbA hS h_13 dL_law_1049 ?_
    refine lv_if_eq (tgt := 1057) hx hb dL_law_1050 (by decide) (fun c_14 => ?_) (fun c_14 => ?_)
    · have hw := hw.1 c_14
      refine lv_iconst (v := 0) hx hb dL_law_1057 (by decide) ?_
      refine W.widen (k := cells + 4) (n := slots + 24) (by omega) (by omega) ?_
      exact hB1058 r_11 0 (xs ((i0 + 1)).toNatClampNeg) w_10 hw _ _ hP hS ls (lv_sub hl [1, 2, 3, 4, 5, 6, 0] rfl)
    · have hw := hw.2 c_14
      refine lv_iconst (v := 1) hx hb dL_law_1053 (by decide) ?_
      refine lv_goto (tgt := 1058) hx hb dL_law_1054 (by decide) ?_
      refine W.widen (k := cells + 4) (n := slots + 24) (by omega) (by omega) ?_
      exact hB1058 r_11 1 (xs ((i0 + 1)).toNatClampNeg) w_10 hw _ _ hP hS ls (lv_sub hl [1, 2, 3, 4, 5, 6, 0] rfl)
  refine lv_aload_n hx hb dL_law_1010 rfl (lv_at hl 1 rfl) ?_
  refine lv_aload_n hx hb dL_law_1011 rfl (lv_at hl 0 rfl) ?_
  refine lv_iload hx hb dL_law_1012 (lv_at hl 5 rfl) ?_
  refine lv_iconst (v := 1) hx hb dL_law_1014 (by decide) ?_
  refine lv_iadd hx hb dL_law_1015 ?_
  obtain ⟨h_15, hw⟩ := hw
  refine va_sld hx hb hX hbl hbA hS h_15 dL_law_1016 ?_
  refine lv_aload_n hx hb dL_law_1017 rfl (lv_at hl 0 rfl) ?_
  refine lv_iload hx hb dL_law_1018 (lv_at hl 5 rfl) ?_
  refine lv_iconst (v := 2) hx hb dL_law_1020 (by decide) ?_
  refine lv_iadd hx hb dL_law_1021 ?_
  obtain ⟨h_16, hw⟩ := hw
  refine va_sld hx hb hX hbl hbA hS h_16 dL_law_1022 ?_
  refine lv_if_eq (tgt := 1030) hx hb dL_law_1023 (by decide) (fun c_17 => ?_) (fun c_17 => ?_)
  · have hw := hw.1 c_17
    refine lv_iconst (v := 0) hx hb dL_law_1030 (by decide) ?_
    exact hB1031 0 (xs ((i0 + 1)).toNatClampNeg) w hw _ _ hP hS ls (lv_sub hl [0, 1, 2, 3, 4, 5] rfl)
  · have hw := hw.2 c_17
    refine lv_iconst (v := 1) hx hb dL_law_1026 (by decide) ?_
    refine lv_goto (tgt := 1031) hx hb dL_law_1027 (by decide) ?_
    exact hB1031 1 (xs ((i0 + 1)).toNatClampNeg) w hw _ _ hP hS ls (lv_sub hl [0, 1, 2, 3, 4, 5] rfl)
set_option maxHeartbeats 4000000 in
set_option maxRecDepth 100000 in
def wpL_C14 (xs : Nat → Int32) (L : Nat) (i0 : Int32) (w : St) (post : St → Prop) : Prop := (vp_in (i0 + 1) L) ∧ (wpL_clockOf (xs ((i0 + 1)).toNatClampNeg) w (fun r_3 w_2 => (vp_in (i0 + 1) L) ∧ (wpX5_clockOf (xs ((i0 + 1)).toNatClampNeg) w_2 (fun r_6 w_5 => wpX5_thrown w_5 (fun r_8 w_7 => (r_8 = r_3 → ((r_3 = 0 → ((vp_in 0 1) ∧ (((lg_cmp (w_7.2.2.1 (0 : Int32).toNatClampNeg) ((r_6).toInt64)) = 0 → (post w_7)) ∧ (¬ ((lg_cmp (w_7.2.2.1 (0 : Int32).toNatClampNeg) ((r_6).toInt64)) = 0) → False)))) ∧ (¬ (r_3 = 0) → (post w_7)))) ∧ (¬ (r_8 = r_3) → False))))))
set_option maxHeartbeats 4000000 in
set_option maxRecDepth 100000 in
theorem mL_C14 {p : Program} {l : Launch} {e : Env} {s : State} {m : MethodId} {below : List Frame} {meth : Method} {c : Code} {D : va_G} {ca : Nat → ClassId} {ad : Nat → Nat} {base b L : Nat} {xs : Nat → Int32} (C0 : LX p l s m c D ca ad base b L xs) {Q : State → Prop} {cells slots : Nat} (hcel : cells + 4 ≤ 603072) (hslo : slots + 24 ≤ 7215210) (i0 : Int32) (w : St) (post : St → Prop) (hw : wpL_C14 xs L i0 w post) (hK : ∀ (w : St), post w → ∀ (H : Heap) (locs : List Loc), PA D ca ad w H → va_S (AB base) s.heap H locs → ∀ ls : Array Slot, lv_has ls 10 [(0, .ref b), (1, .ref (ad 0)), (2, .ref (ad 33)), (3, .ref (ad 59)), (4, .ref (ad 60)), (5, .int i0)] → W p l e room_1 s m #[Value.ref b] below meth c H locs (cells + 4) (slots + 24) Q (F0 m 2692 ls [])) (H : Heap) (locs : List Loc) (hP : PA D ca ad w H) (hS : va_S (AB base) s.heap H locs) (ls : Array Slot) (hl : lv_has ls 10 [(0, .ref b), (1, .ref (ad 0)), (2, .ref (ad 33)), (3, .ref (ad 59)), (4, .ref (ad 60)), (5, .int i0)]) : W p l e room_1 s m #[Value.ref b] below meth c H locs cells slots Q (F0 m 1101 ls []) := by
  obtain ⟨hx, hb, hml, hown, hts, hK0, hXP, hAd, hbs, hX, hbl, hbA, hl9⟩ := C0
  refine lv_aload_n hx hb dL_law_1101 rfl (lv_at hl 1 rfl) ?_
  refine lv_aload_n hx hb dL_law_1102 rfl (lv_at hl 0 rfl) ?_
  refine lv_iload hx hb dL_law_1103 (lv_at hl 5 rfl) ?_
  refine lv_iconst (v := 1) hx hb dL_law_1105 (by decide) ?_
  refine lv_iadd hx hb dL_law_1106 ?_
  obtain ⟨h_1, hw⟩ := hw
  refine va_sld hx hb hX hbl hbA hS h_1 dL_law_1107 ?_
  refine lv_aload_n hx hb dL_law_1108 rfl (lv_at hl 3 rfl) ?_
  refine va_calli (vx_runSW (As := [.ref (ad 0), .int (xs ((i0 + 1)).toNatClampNeg), .ref (ad 59)]) (rest := []) ⟨hx, hb, hml, hown, hts⟩ (mL_clockOf l D ca ad base hAd w (xs ((i0 + 1)).toNatClampNeg) _ hw hl9) (vx_cwSW 3 hts gL_law_L_clockOf rfl rfl rfl (by decide +kernel) ⟨Nat.le_of_ble_eq_true rfl, Nat.le_of_ble_eq_true rfl⟩) (psx [.ref (ad 0), .int (xs ((i0 + 1)).toNatClampNeg), .ref (ad 59)] hK0 hXP hP hbs hS) rfl rfl hl.1 rfl (lv_room (Nat.le_of_ble_eq_true rfl)) dL_law_1109 ⟨by simp only [room_1]; omega, by simp only [room_1]; omega⟩) hS (fun q _ h => h) (fun q h => h) (fun r_3 w_2 t H locs ht hvm hw hP hz1 hk1 hS => ?_)
  have hP : PA D ca ad w_2 H := by rw [← ht]; exact hP
  refine lv_istore (lv' := [(6, .int r_3), (0, .ref b), (1, .ref (ad 0)), (2, .ref (ad 33)), (3, .ref (ad 59)), (4, .ref (ad 60)), (5, .int i0)]) hx hb dL_law_1112 hl (by decide) rfl (fun ls hl => ?_)
  refine lv_aload_n hx hb dL_law_1114 rfl (lv_at hl 3 rfl) ?_
  refine lv_aload_n hx hb dL_law_1115 rfl (lv_at hl 1 rfl) ?_
  refine lv_iload hx hb dL_law_1116 (lv_at hl 6 rfl) ?_
  refine lv_iconst (v := 1) hx hb dL_law_1118 (by decide) ?_
  refine lv_iadd hx hb dL_law_1119 ?_
  obtain ⟨h_4, hw⟩ := hw
  refine va_sld hx hb hX hbl hbA hS h_4 dL_law_1120 ?_
  refine va_calli (va_runV (As := [.int (xs ((i0 + 1)).toNatClampNeg)]) (rest := []) ⟨hx, hb, hml, hown, hts⟩ (mX5_clockOf l D ca ad base hAd w_2 (xs ((i0 + 1)).toNatClampNeg) _ hw) (cwV 1 hts gL_law_X5_clockOf rfl rfl rfl (by decide +kernel) ⟨Nat.le_of_ble_eq_true rfl, Nat.le_of_ble_eq_true rfl⟩) (pv [.int (xs ((i0 + 1)).toNatClampNeg)] hK0 hP hbs hS rfl (wg33 ca ad w_2)) rfl rfl hl.1 rfl (lv_room (Nat.le_of_ble_eq_true rfl)) dL_law_1121 ⟨by simp only [room_1]; omega, by simp only [room_1]; omega⟩) hS (fun q _ h => h) (fun q h => h) (fun r_6 w_5 t H locs ht hvm hw hP hz1 hk1 hS => ?_)
  have hP : PA D ca ad w_5 H := by rw [← ht]; exact hP
  refine lv_istore (lv' := [(7, .int r_6), (6, .int r_3), (0, .ref b), (1, .ref (ad 0)), (2, .ref (ad 33)), (3, .ref (ad 59)), (4, .ref (ad 60)), (5, .int i0)]) hx hb dL_law_1124 hl (by decide) rfl (fun ls hl => ?_)
  refine lv_aload_n hx hb dL_law_1126 rfl (lv_at hl 4 rfl) ?_
  refine va_calli (va_runV (As := []) (rest := []) ⟨hx, hb, hml, hown, hts⟩ (mX5_thrown l D ca ad base hAd w_5 _ hw) (cwV 0 hts gL_law_X5_thrown rfl rfl rfl (by decide +kernel) ⟨Nat.le_of_ble_eq_true rfl, Nat.le_of_ble_eq_true rfl⟩) (pv [] hK0 hP hbs hS rfl (wg33 ca ad w_5)) rfl rfl hl.1 rfl (lv_room (Nat.le_of_ble_eq_true rfl)) dL_law_1127 ⟨by simp only [room_1]; omega, by simp only [room_1]; omega⟩) hS (fun q _ h => h) (fun q h => h) (fun r_8 w_7 t H locs ht hvm hw hP hz1 hk1 hS => ?_)
  have hP : PA D ca ad w_7 H := by rw [← ht]; exact hP
  refine lv_iload hx hb dL_law_1130 (lv_at hl 1 rfl) ?_
  refine lv_icmp_eq (tgt := 1137) hx hb dL_law_1132 (by decide) (fun c_9 => ?_) (fun c_9 => ?_)
  · have hw := hw.1 c_9
    refine lv_iload hx hb dL_law_1137 (lv_at hl 1 rfl) ?_
    refine lv_if_ne (tgt := 1154) hx hb dL_law_1139 (by decide) (fun c_10 => ?_) (fun c_10 => ?_)
    · have hw := hw.2 c_10
      refine lv_goto (tgt := 2692) hx hb dL_law_1154 (by decide) ?_
      refine W.widen (k := cells + 4) (n := slots + 24) (by omega) (by omega) ?_
      exact hK w_7 hw _ _ hP hS ls (lv_sub hl [2, 3, 4, 5, 6, 7] rfl)
    · have hw := hw.1 c_10
      refine lv_aload_n hx hb dL_law_1142 rfl (lv_at hl 5 rfl) ?_
      refine lv_iconst (v := 0) hx hb dL_law_1143 (by decide) ?_
      obtain ⟨h_11, hw⟩ := hw
      refine va_lald hx hb hK0 hP 59 3 (wg59 ca ad w_7) rfl h_11 dL_law_1144 ?_
      refine lv_iload hx hb dL_law_1145 (lv_at hl 0 rfl) ?_
      refine lv_i2l (v := (r_6).toInt64) hx hb dL_law_1147 rfl ?_
      refine W.lcmp hx hb dL_law_1148 ?_
      refine lv_if_eq (tgt := 1154) hx hb dL_law_1149 (by decide) (fun c_12 => ?_) (fun c_12 => ?_)
      · have hw := hw.1 c_12
        refine lv_goto (tgt := 2692) hx hb dL_law_1154 (by decide) ?_
        refine W.widen (k := cells + 4) (n := slots + 24) (by omega) (by omega) ?_
        exact hK w_7 hw _ _ hP hS ls (lv_sub hl [2, 3, 4, 5, 6, 7] rfl)
      · have hw := hw.2 c_12
        refine lv_iconst (v := 0) hx hb dL_law_1152 (by decide) ?_
        exact hw.elim
  · have hw := hw.2 c_9
    refine lv_iconst (v := 0) hx hb dL_law_1135 (by decide) ?_
    exact hw.elim
set_option maxHeartbeats 4000000 in
set_option maxRecDepth 100000 in
def wpL_C15 (xs : Nat → Int32) (L : Nat) (i0 : Int32) (w : St) (post : St → Prop) : Prop := (vp_in (i0 + 1) L) ∧ ((vp_in (i0 + 2) L) ∧ ((vp_in (i0 + 3) L) ∧ (wpL_request (xs ((i0 + 1)).toNatClampNeg) (xs ((i0 + 2)).toNatClampNeg) (xs ((i0 + 3)).toNatClampNeg) w (fun r_5 w_4 => (vp_in (i0 + 1) L) ∧ ((vp_in (i0 + 2) L) ∧ ((vp_in (i0 + 3) L) ∧ (wpX5_request (xs ((i0 + 1)).toNatClampNeg) (xs ((i0 + 2)).toNatClampNeg) (xs ((i0 + 3)).toNatClampNeg) w_4 (fun r_10 w_9 => wpX5_thrown w_9 (fun r_12 w_11 => (r_12 = r_5 → ((r_5 = 0 → ((vp_in 0 1) ∧ (((lg_cmp (w_11.2.2.1 (0 : Int32).toNatClampNeg) ((r_10).toInt64)) = 0 → (post w_11)) ∧ (¬ ((lg_cmp (w_11.2.2.1 (0 : Int32).toNatClampNeg) ((r_10).toInt64)) = 0) → False)))) ∧ (¬ (r_5 = 0) → (post w_11)))) ∧ (¬ (r_12 = r_5) → False))))))))))
set_option maxHeartbeats 4000000 in
set_option maxRecDepth 100000 in
theorem mL_C15 {p : Program} {l : Launch} {e : Env} {s : State} {m : MethodId} {below : List Frame} {meth : Method} {c : Code} {D : va_G} {ca : Nat → ClassId} {ad : Nat → Nat} {base b L : Nat} {xs : Nat → Int32} (C0 : LX p l s m c D ca ad base b L xs) {Q : State → Prop} {cells slots : Nat} (hcel : cells + 4 ≤ 603072) (hslo : slots + 24 ≤ 7215210) (i0 : Int32) (w : St) (post : St → Prop) (hw : wpL_C15 xs L i0 w post) (hK : ∀ (w : St), post w → ∀ (H : Heap) (locs : List Loc), PA D ca ad w H → va_S (AB base) s.heap H locs → ∀ ls : Array Slot, lv_has ls 10 [(0, .ref b), (1, .ref (ad 0)), (2, .ref (ad 33)), (3, .ref (ad 59)), (4, .ref (ad 60)), (5, .int i0)] → W p l e room_1 s m #[Value.ref b] below meth c H locs (cells + 4) (slots + 24) Q (F0 m 2692 ls [])) (H : Heap) (locs : List Loc) (hP : PA D ca ad w H) (hS : va_S (AB base) s.heap H locs) (ls : Array Slot) (hl : lv_has ls 10 [(0, .ref b), (1, .ref (ad 0)), (2, .ref (ad 33)), (3, .ref (ad 59)), (4, .ref (ad 60)), (5, .int i0)]) : W p l e room_1 s m #[Value.ref b] below meth c H locs cells slots Q (F0 m 1157 ls []) := by
  obtain ⟨hx, hb, hml, hown, hts, hK0, hXP, hAd, hbs, hX, hbl, hbA, hl9⟩ := C0
  refine lv_aload_n hx hb dL_law_1157 rfl (lv_at hl 1 rfl) ?_
  refine lv_aload_n hx hb dL_law_1158 rfl (lv_at hl 0 rfl) ?_
  refine lv_iload hx hb dL_law_1159 (lv_at hl 5 rfl) ?_
  refine lv_iconst (v := 1) hx hb dL_law_1161 (by decide) ?_
  refine lv_iadd hx hb dL_law_1162 ?_
  obtain ⟨h_1, hw⟩ := hw
  refine va_sld hx hb hX hbl hbA hS h_1 dL_law_1163 ?_
  refine lv_aload_n hx hb dL_law_1164 rfl (lv_at hl 0 rfl) ?_
  refine lv_iload hx hb dL_law_1165 (lv_at hl 5 rfl) ?_
  refine lv_iconst (v := 2) hx hb dL_law_1167 (by decide) ?_
  refine lv_iadd hx hb dL_law_1168 ?_
  obtain ⟨h_2, hw⟩ := hw
  refine va_sld hx hb hX hbl hbA hS h_2 dL_law_1169 ?_
  refine lv_aload_n hx hb dL_law_1170 rfl (lv_at hl 0 rfl) ?_
  refine lv_iload hx hb dL_law_1171 (lv_at hl 5 rfl) ?_
  refine lv_iconst (v := 3) hx hb dL_law_1173 (by decide) ?_
  refine lv_iadd hx hb dL_law_1174 ?_
  obtain ⟨h_3, hw⟩ := hw
  refine va_sld hx hb hX hbl hbA hS h_3 dL_law_1175 ?_
  refine lv_aload_n hx hb dL_law_1176 rfl (lv_at hl 3 rfl) ?_
  refine va_calli (vx_runSW (As := [.ref (ad 0), .int (xs ((i0 + 1)).toNatClampNeg), .int (xs ((i0 + 2)).toNatClampNeg), .int (xs ((i0 + 3)).toNatClampNeg), .ref (ad 59)]) (rest := []) ⟨hx, hb, hml, hown, hts⟩ (mL_request l D ca ad base hAd w (xs ((i0 + 1)).toNatClampNeg) (xs ((i0 + 2)).toNatClampNeg) (xs ((i0 + 3)).toNatClampNeg) _ hw hl9) (vx_cwSW 5 hts gL_law_L_request rfl rfl rfl (by decide +kernel) ⟨Nat.le_of_ble_eq_true rfl, Nat.le_of_ble_eq_true rfl⟩) (psx [.ref (ad 0), .int (xs ((i0 + 1)).toNatClampNeg), .int (xs ((i0 + 2)).toNatClampNeg), .int (xs ((i0 + 3)).toNatClampNeg), .ref (ad 59)] hK0 hXP hP hbs hS) rfl rfl hl.1 rfl (lv_room (Nat.le_of_ble_eq_true rfl)) dL_law_1177 ⟨by simp only [room_1]; omega, by simp only [room_1]; omega⟩) hS (fun q _ h => h) (fun q h => h) (fun r_5 w_4 t H locs ht hvm hw hP hz1 hk1 hS => ?_)
  have hP : PA D ca ad w_4 H := by rw [← ht]; exact hP
  refine lv_istore (lv' := [(6, .int r_5), (0, .ref b), (1, .ref (ad 0)), (2, .ref (ad 33)), (3, .ref (ad 59)), (4, .ref (ad 60)), (5, .int i0)]) hx hb dL_law_1180 hl (by decide) rfl (fun ls hl => ?_)
  refine lv_aload_n hx hb dL_law_1182 rfl (lv_at hl 3 rfl) ?_
  refine lv_aload_n hx hb dL_law_1183 rfl (lv_at hl 1 rfl) ?_
  refine lv_iload hx hb dL_law_1184 (lv_at hl 6 rfl) ?_
  refine lv_iconst (v := 1) hx hb dL_law_1186 (by decide) ?_
  refine lv_iadd hx hb dL_law_1187 ?_
  obtain ⟨h_6, hw⟩ := hw
  refine va_sld hx hb hX hbl hbA hS h_6 dL_law_1188 ?_
  refine lv_aload_n hx hb dL_law_1189 rfl (lv_at hl 1 rfl) ?_
  refine lv_iload hx hb dL_law_1190 (lv_at hl 6 rfl) ?_
  refine lv_iconst (v := 2) hx hb dL_law_1192 (by decide) ?_
  refine lv_iadd hx hb dL_law_1193 ?_
  obtain ⟨h_7, hw⟩ := hw
  refine va_sld hx hb hX hbl hbA hS h_7 dL_law_1194 ?_
  refine lv_aload_n hx hb dL_law_1195 rfl (lv_at hl 1 rfl) ?_
  refine lv_iload hx hb dL_law_1196 (lv_at hl 6 rfl) ?_
  refine lv_iconst (v := 3) hx hb dL_law_1198 (by decide) ?_
  refine lv_iadd hx hb dL_law_1199 ?_
  obtain ⟨h_8, hw⟩ := hw
  refine va_sld hx hb hX hbl hbA hS h_8 dL_law_1200 ?_
  refine va_calli (va_runV (As := [.int (xs ((i0 + 1)).toNatClampNeg), .int (xs ((i0 + 2)).toNatClampNeg), .int (xs ((i0 + 3)).toNatClampNeg)]) (rest := []) ⟨hx, hb, hml, hown, hts⟩ (mX5_request l D ca ad base hAd w_4 (xs ((i0 + 1)).toNatClampNeg) (xs ((i0 + 2)).toNatClampNeg) (xs ((i0 + 3)).toNatClampNeg) _ hw) (cwV 3 hts gL_law_X5_request rfl rfl rfl (by decide +kernel) ⟨Nat.le_of_ble_eq_true rfl, Nat.le_of_ble_eq_true rfl⟩) (pv [.int (xs ((i0 + 1)).toNatClampNeg), .int (xs ((i0 + 2)).toNatClampNeg), .int (xs ((i0 + 3)).toNatClampNeg)] hK0 hP hbs hS rfl (wg33 ca ad w_4)) rfl rfl hl.1 rfl (lv_room (Nat.le_of_ble_eq_true rfl)) dL_law_1201 ⟨by simp only [room_1]; omega, by simp only [room_1]; omega⟩) hS (fun q _ h => h) (fun q h => h) (fun r_10 w_9 t H locs ht hvm hw hP hz1 hk1 hS => ?_)
  have hP : PA D ca ad w_9 H := by rw [← ht]; exact hP
  refine lv_istore (lv' := [(7, .int r_10), (6, .int r_5), (0, .ref b), (1, .ref (ad 0)), (2, .ref (ad 33)), (3, .ref (ad 59)), (4, .ref (ad 60)), (5, .int i0)]) hx hb dL_law_1204 hl (by decide) rfl (fun ls hl => ?_)
  refine lv_aload_n hx hb dL_law_1206 rfl (lv_at hl 4 rfl) ?_
  refine va_calli (va_runV (As := []) (rest := []) ⟨hx, hb, hml, hown, hts⟩ (mX5_thrown l D ca ad base hAd w_9 _ hw) (cwV 0 hts gL_law_X5_thrown rfl rfl rfl (by decide +kernel) ⟨Nat.le_of_ble_eq_true rfl, Nat.le_of_ble_eq_true rfl⟩) (pv [] hK0 hP hbs hS rfl (wg33 ca ad w_9)) rfl rfl hl.1 rfl (lv_room (Nat.le_of_ble_eq_true rfl)) dL_law_1207 ⟨by simp only [room_1]; omega, by simp only [room_1]; omega⟩) hS (fun q _ h => h) (fun q h => h) (fun r_12 w_11 t H locs ht hvm hw hP hz1 hk1 hS => ?_)
  have hP : PA D ca ad w_11 H := by rw [← ht]; exact hP
  refine lv_iload hx hb dL_law_1210 (lv_at hl 1 rfl) ?_
  refine lv_icmp_eq (tgt := 1217) hx hb dL_law_1212 (by decide) (fun c_13 => ?_) (fun c_13 => ?_)
  · have hw := hw.1 c_13
    refine lv_iload hx hb dL_law_1217 (lv_at hl 1 rfl) ?_
    refine lv_if_ne (tgt := 1234) hx hb dL_law_1219 (by decide) (fun c_14 => ?_) (fun c_14 => ?_)
    · have hw := hw.2 c_14
      refine lv_goto (tgt := 2692) hx hb dL_law_1234 (by decide) ?_
      refine W.widen (k := cells + 4) (n := slots + 24) (by omega) (by omega) ?_
      exact hK w_11 hw _ _ hP hS ls (lv_sub hl [2, 3, 4, 5, 6, 7] rfl)
    · have hw := hw.1 c_14
      refine lv_aload_n hx hb dL_law_1222 rfl (lv_at hl 5 rfl) ?_
      refine lv_iconst (v := 0) hx hb dL_law_1223 (by decide) ?_
      obtain ⟨h_15, hw⟩ := hw
      refine va_lald hx hb hK0 hP 59 3 (wg59 ca ad w_11) rfl h_15 dL_law_1224 ?_
      refine lv_iload hx hb dL_law_1225 (lv_at hl 0 rfl) ?_
      refine lv_i2l (v := (r_10).toInt64) hx hb dL_law_1227 rfl ?_
      refine W.lcmp hx hb dL_law_1228 ?_
      refine lv_if_eq (tgt := 1234) hx hb dL_law_1229 (by decide) (fun c_16 => ?_) (fun c_16 => ?_)
      · have hw := hw.1 c_16
        refine lv_goto (tgt := 2692) hx hb dL_law_1234 (by decide) ?_
        refine W.widen (k := cells + 4) (n := slots + 24) (by omega) (by omega) ?_
        exact hK w_11 hw _ _ hP hS ls (lv_sub hl [2, 3, 4, 5, 6, 7] rfl)
      · have hw := hw.2 c_16
        refine lv_iconst (v := 0) hx hb dL_law_1232 (by decide) ?_
        exact hw.elim
  · have hw := hw.2 c_13
    refine lv_iconst (v := 0) hx hb dL_law_1215 (by decide) ?_
    exact hw.elim
set_option maxHeartbeats 4000000 in
set_option maxRecDepth 100000 in
def wpL_C16 (xs : Nat → Int32) (L : Nat) (i0 : Int32) (w : St) (post : St → Prop) : Prop := (vp_in (i0 + 1) L) ∧ ((vp_in (i0 + 2) L) ∧ ((vp_in (i0 + 3) L) ∧ (wpL_steal (xs ((i0 + 1)).toNatClampNeg) (xs ((i0 + 2)).toNatClampNeg) (xs ((i0 + 3)).toNatClampNeg) w (fun r_5 w_4 => (vp_in (i0 + 1) L) ∧ ((vp_in (i0 + 2) L) ∧ ((vp_in (i0 + 3) L) ∧ (wpX5_steal (xs ((i0 + 1)).toNatClampNeg) (xs ((i0 + 2)).toNatClampNeg) (xs ((i0 + 3)).toNatClampNeg) w_4 (fun r_10 w_9 => wpX5_thrown w_9 (fun r_12 w_11 => (r_12 = r_5 → ((r_5 = 0 → ((vp_in 0 1) ∧ (((lg_cmp (w_11.2.2.1 (0 : Int32).toNatClampNeg) ((r_10).toInt64)) = 0 → (post w_11)) ∧ (¬ ((lg_cmp (w_11.2.2.1 (0 : Int32).toNatClampNeg) ((r_10).toInt64)) = 0) → False)))) ∧ (¬ (r_5 = 0) → (post w_11)))) ∧ (¬ (r_12 = r_5) → False))))))))))
set_option maxHeartbeats 4000000 in
set_option maxRecDepth 100000 in
theorem mL_C16 {p : Program} {l : Launch} {e : Env} {s : State} {m : MethodId} {below : List Frame} {meth : Method} {c : Code} {D : va_G} {ca : Nat → ClassId} {ad : Nat → Nat} {base b L : Nat} {xs : Nat → Int32} (C0 : LX p l s m c D ca ad base b L xs) {Q : State → Prop} {cells slots : Nat} (hcel : cells + 4 ≤ 603072) (hslo : slots + 24 ≤ 7215210) (i0 : Int32) (w : St) (post : St → Prop) (hw : wpL_C16 xs L i0 w post) (hK : ∀ (w : St), post w → ∀ (H : Heap) (locs : List Loc), PA D ca ad w H → va_S (AB base) s.heap H locs → ∀ ls : Array Slot, lv_has ls 10 [(0, .ref b), (1, .ref (ad 0)), (2, .ref (ad 33)), (3, .ref (ad 59)), (4, .ref (ad 60)), (5, .int i0)] → W p l e room_1 s m #[Value.ref b] below meth c H locs (cells + 4) (slots + 24) Q (F0 m 2692 ls [])) (H : Heap) (locs : List Loc) (hP : PA D ca ad w H) (hS : va_S (AB base) s.heap H locs) (ls : Array Slot) (hl : lv_has ls 10 [(0, .ref b), (1, .ref (ad 0)), (2, .ref (ad 33)), (3, .ref (ad 59)), (4, .ref (ad 60)), (5, .int i0)]) : W p l e room_1 s m #[Value.ref b] below meth c H locs cells slots Q (F0 m 1237 ls []) := by
  obtain ⟨hx, hb, hml, hown, hts, hK0, hXP, hAd, hbs, hX, hbl, hbA, hl9⟩ := C0
  refine lv_aload_n hx hb dL_law_1237 rfl (lv_at hl 1 rfl) ?_
  refine lv_aload_n hx hb dL_law_1238 rfl (lv_at hl 0 rfl) ?_
  refine lv_iload hx hb dL_law_1239 (lv_at hl 5 rfl) ?_
  refine lv_iconst (v := 1) hx hb dL_law_1241 (by decide) ?_
  refine lv_iadd hx hb dL_law_1242 ?_
  obtain ⟨h_1, hw⟩ := hw
  refine va_sld hx hb hX hbl hbA hS h_1 dL_law_1243 ?_
  refine lv_aload_n hx hb dL_law_1244 rfl (lv_at hl 0 rfl) ?_
  refine lv_iload hx hb dL_law_1245 (lv_at hl 5 rfl) ?_
  refine lv_iconst (v := 2) hx hb dL_law_1247 (by decide) ?_
  refine lv_iadd hx hb dL_law_1248 ?_
  obtain ⟨h_2, hw⟩ := hw
  refine va_sld hx hb hX hbl hbA hS h_2 dL_law_1249 ?_
  refine lv_aload_n hx hb dL_law_1250 rfl (lv_at hl 0 rfl) ?_
  refine lv_iload hx hb dL_law_1251 (lv_at hl 5 rfl) ?_
  refine lv_iconst (v := 3) hx hb dL_law_1253 (by decide) ?_
  refine lv_iadd hx hb dL_law_1254 ?_
  obtain ⟨h_3, hw⟩ := hw
  refine va_sld hx hb hX hbl hbA hS h_3 dL_law_1255 ?_
  refine lv_aload_n hx hb dL_law_1256 rfl (lv_at hl 3 rfl) ?_
  refine va_calli (vx_runSW (As := [.ref (ad 0), .int (xs ((i0 + 1)).toNatClampNeg), .int (xs ((i0 + 2)).toNatClampNeg), .int (xs ((i0 + 3)).toNatClampNeg), .ref (ad 59)]) (rest := []) ⟨hx, hb, hml, hown, hts⟩ (mL_steal l D ca ad base hAd w (xs ((i0 + 1)).toNatClampNeg) (xs ((i0 + 2)).toNatClampNeg) (xs ((i0 + 3)).toNatClampNeg) _ hw hl9) (vx_cwSW 5 hts gL_law_L_steal rfl rfl rfl (by decide +kernel) ⟨Nat.le_of_ble_eq_true rfl, Nat.le_of_ble_eq_true rfl⟩) (psx [.ref (ad 0), .int (xs ((i0 + 1)).toNatClampNeg), .int (xs ((i0 + 2)).toNatClampNeg), .int (xs ((i0 + 3)).toNatClampNeg), .ref (ad 59)] hK0 hXP hP hbs hS) rfl rfl hl.1 rfl (lv_room (Nat.le_of_ble_eq_true rfl)) dL_law_1257 ⟨by simp only [room_1]; omega, by simp only [room_1]; omega⟩) hS (fun q _ h => h) (fun q h => h) (fun r_5 w_4 t H locs ht hvm hw hP hz1 hk1 hS => ?_)
  have hP : PA D ca ad w_4 H := by rw [← ht]; exact hP
  refine lv_istore (lv' := [(6, .int r_5), (0, .ref b), (1, .ref (ad 0)), (2, .ref (ad 33)), (3, .ref (ad 59)), (4, .ref (ad 60)), (5, .int i0)]) hx hb dL_law_1260 hl (by decide) rfl (fun ls hl => ?_)
  refine lv_aload_n hx hb dL_law_1262 rfl (lv_at hl 3 rfl) ?_
  refine lv_aload_n hx hb dL_law_1263 rfl (lv_at hl 1 rfl) ?_
  refine lv_iload hx hb dL_law_1264 (lv_at hl 6 rfl) ?_
  refine lv_iconst (v := 1) hx hb dL_law_1266 (by decide) ?_
  refine lv_iadd hx hb dL_law_1267 ?_
  obtain ⟨h_6, hw⟩ := hw
  refine va_sld hx hb hX hbl hbA hS h_6 dL_law_1268 ?_
  refine lv_aload_n hx hb dL_law_1269 rfl (lv_at hl 1 rfl) ?_
  refine lv_iload hx hb dL_law_1270 (lv_at hl 6 rfl) ?_
  refine lv_iconst (v := 2) hx hb dL_law_1272 (by decide) ?_
  refine lv_iadd hx hb dL_law_1273 ?_
  obtain ⟨h_7, hw⟩ := hw
  refine va_sld hx hb hX hbl hbA hS h_7 dL_law_1274 ?_
  refine lv_aload_n hx hb dL_law_1275 rfl (lv_at hl 1 rfl) ?_
  refine lv_iload hx hb dL_law_1276 (lv_at hl 6 rfl) ?_
  refine lv_iconst (v := 3) hx hb dL_law_1278 (by decide) ?_
  refine lv_iadd hx hb dL_law_1279 ?_
  obtain ⟨h_8, hw⟩ := hw
  refine va_sld hx hb hX hbl hbA hS h_8 dL_law_1280 ?_
  refine va_calli (va_runV (As := [.int (xs ((i0 + 1)).toNatClampNeg), .int (xs ((i0 + 2)).toNatClampNeg), .int (xs ((i0 + 3)).toNatClampNeg)]) (rest := []) ⟨hx, hb, hml, hown, hts⟩ (mX5_steal l D ca ad base hAd w_4 (xs ((i0 + 1)).toNatClampNeg) (xs ((i0 + 2)).toNatClampNeg) (xs ((i0 + 3)).toNatClampNeg) _ hw) (cwV 3 hts gL_law_X5_steal rfl rfl rfl (by decide +kernel) ⟨Nat.le_of_ble_eq_true rfl, Nat.le_of_ble_eq_true rfl⟩) (pv [.int (xs ((i0 + 1)).toNatClampNeg), .int (xs ((i0 + 2)).toNatClampNeg), .int (xs ((i0 + 3)).toNatClampNeg)] hK0 hP hbs hS rfl (wg33 ca ad w_4)) rfl rfl hl.1 rfl (lv_room (Nat.le_of_ble_eq_true rfl)) dL_law_1281 ⟨by simp only [room_1]; omega, by simp only [room_1]; omega⟩) hS (fun q _ h => h) (fun q h => h) (fun r_10 w_9 t H locs ht hvm hw hP hz1 hk1 hS => ?_)
  have hP : PA D ca ad w_9 H := by rw [← ht]; exact hP
  refine lv_istore (lv' := [(7, .int r_10), (6, .int r_5), (0, .ref b), (1, .ref (ad 0)), (2, .ref (ad 33)), (3, .ref (ad 59)), (4, .ref (ad 60)), (5, .int i0)]) hx hb dL_law_1284 hl (by decide) rfl (fun ls hl => ?_)
  refine lv_aload_n hx hb dL_law_1286 rfl (lv_at hl 4 rfl) ?_
  refine va_calli (va_runV (As := []) (rest := []) ⟨hx, hb, hml, hown, hts⟩ (mX5_thrown l D ca ad base hAd w_9 _ hw) (cwV 0 hts gL_law_X5_thrown rfl rfl rfl (by decide +kernel) ⟨Nat.le_of_ble_eq_true rfl, Nat.le_of_ble_eq_true rfl⟩) (pv [] hK0 hP hbs hS rfl (wg33 ca ad w_9)) rfl rfl hl.1 rfl (lv_room (Nat.le_of_ble_eq_true rfl)) dL_law_1287 ⟨by simp only [room_1]; omega, by simp only [room_1]; omega⟩) hS (fun q _ h => h) (fun q h => h) (fun r_12 w_11 t H locs ht hvm hw hP hz1 hk1 hS => ?_)
  have hP : PA D ca ad w_11 H := by rw [← ht]; exact hP
  refine lv_iload hx hb dL_law_1290 (lv_at hl 1 rfl) ?_
  refine lv_icmp_eq (tgt := 1297) hx hb dL_law_1292 (by decide) (fun c_13 => ?_) (fun c_13 => ?_)
  · have hw := hw.1 c_13
    refine lv_iload hx hb dL_law_1297 (lv_at hl 1 rfl) ?_
    refine lv_if_ne (tgt := 1314) hx hb dL_law_1299 (by decide) (fun c_14 => ?_) (fun c_14 => ?_)
    · have hw := hw.2 c_14
      refine lv_goto (tgt := 2692) hx hb dL_law_1314 (by decide) ?_
      refine W.widen (k := cells + 4) (n := slots + 24) (by omega) (by omega) ?_
      exact hK w_11 hw _ _ hP hS ls (lv_sub hl [2, 3, 4, 5, 6, 7] rfl)
    · have hw := hw.1 c_14
      refine lv_aload_n hx hb dL_law_1302 rfl (lv_at hl 5 rfl) ?_
      refine lv_iconst (v := 0) hx hb dL_law_1303 (by decide) ?_
      obtain ⟨h_15, hw⟩ := hw
      refine va_lald hx hb hK0 hP 59 3 (wg59 ca ad w_11) rfl h_15 dL_law_1304 ?_
      refine lv_iload hx hb dL_law_1305 (lv_at hl 0 rfl) ?_
      refine lv_i2l (v := (r_10).toInt64) hx hb dL_law_1307 rfl ?_
      refine W.lcmp hx hb dL_law_1308 ?_
      refine lv_if_eq (tgt := 1314) hx hb dL_law_1309 (by decide) (fun c_16 => ?_) (fun c_16 => ?_)
      · have hw := hw.1 c_16
        refine lv_goto (tgt := 2692) hx hb dL_law_1314 (by decide) ?_
        refine W.widen (k := cells + 4) (n := slots + 24) (by omega) (by omega) ?_
        exact hK w_11 hw _ _ hP hS ls (lv_sub hl [2, 3, 4, 5, 6, 7] rfl)
      · have hw := hw.2 c_16
        refine lv_iconst (v := 0) hx hb dL_law_1312 (by decide) ?_
        exact hw.elim
  · have hw := hw.2 c_13
    refine lv_iconst (v := 0) hx hb dL_law_1295 (by decide) ?_
    exact hw.elim
set_option maxHeartbeats 4000000 in
set_option maxRecDepth 100000 in
def wpL_C17 (xs : Nat → Int32) (L : Nat) (i0 : Int32) (w : St) (post : St → Prop) : Prop := (vp_in (i0 + 1) L) ∧ ((vp_in (i0 + 2) L) ∧ ((vp_in (i0 + 3) L) ∧ (wpL_renew (xs ((i0 + 1)).toNatClampNeg) (xs ((i0 + 2)).toNatClampNeg) (xs ((i0 + 3)).toNatClampNeg) w (fun r_5 w_4 => (vp_in (i0 + 1) L) ∧ ((vp_in (i0 + 2) L) ∧ ((vp_in (i0 + 3) L) ∧ (wpX5_renew (xs ((i0 + 1)).toNatClampNeg) (xs ((i0 + 2)).toNatClampNeg) (xs ((i0 + 3)).toNatClampNeg) w_4 (fun r_10 w_9 => wpX5_thrown w_9 (fun r_12 w_11 => (r_12 = r_5 → ((r_5 = 0 → ((vp_in 0 1) ∧ (((lg_cmp (w_11.2.2.1 (0 : Int32).toNatClampNeg) ((r_10).toInt64)) = 0 → (post w_11)) ∧ (¬ ((lg_cmp (w_11.2.2.1 (0 : Int32).toNatClampNeg) ((r_10).toInt64)) = 0) → False)))) ∧ (¬ (r_5 = 0) → (post w_11)))) ∧ (¬ (r_12 = r_5) → False))))))))))
set_option maxHeartbeats 4000000 in
set_option maxRecDepth 100000 in
theorem mL_C17 {p : Program} {l : Launch} {e : Env} {s : State} {m : MethodId} {below : List Frame} {meth : Method} {c : Code} {D : va_G} {ca : Nat → ClassId} {ad : Nat → Nat} {base b L : Nat} {xs : Nat → Int32} (C0 : LX p l s m c D ca ad base b L xs) {Q : State → Prop} {cells slots : Nat} (hcel : cells + 4 ≤ 603072) (hslo : slots + 24 ≤ 7215210) (i0 : Int32) (w : St) (post : St → Prop) (hw : wpL_C17 xs L i0 w post) (hK : ∀ (w : St), post w → ∀ (H : Heap) (locs : List Loc), PA D ca ad w H → va_S (AB base) s.heap H locs → ∀ ls : Array Slot, lv_has ls 10 [(0, .ref b), (1, .ref (ad 0)), (2, .ref (ad 33)), (3, .ref (ad 59)), (4, .ref (ad 60)), (5, .int i0)] → W p l e room_1 s m #[Value.ref b] below meth c H locs (cells + 4) (slots + 24) Q (F0 m 2692 ls [])) (H : Heap) (locs : List Loc) (hP : PA D ca ad w H) (hS : va_S (AB base) s.heap H locs) (ls : Array Slot) (hl : lv_has ls 10 [(0, .ref b), (1, .ref (ad 0)), (2, .ref (ad 33)), (3, .ref (ad 59)), (4, .ref (ad 60)), (5, .int i0)]) : W p l e room_1 s m #[Value.ref b] below meth c H locs cells slots Q (F0 m 1317 ls []) := by
  obtain ⟨hx, hb, hml, hown, hts, hK0, hXP, hAd, hbs, hX, hbl, hbA, hl9⟩ := C0
  refine lv_aload_n hx hb dL_law_1317 rfl (lv_at hl 1 rfl) ?_
  refine lv_aload_n hx hb dL_law_1318 rfl (lv_at hl 0 rfl) ?_
  refine lv_iload hx hb dL_law_1319 (lv_at hl 5 rfl) ?_
  refine lv_iconst (v := 1) hx hb dL_law_1321 (by decide) ?_
  refine lv_iadd hx hb dL_law_1322 ?_
  obtain ⟨h_1, hw⟩ := hw
  refine va_sld hx hb hX hbl hbA hS h_1 dL_law_1323 ?_
  refine lv_aload_n hx hb dL_law_1324 rfl (lv_at hl 0 rfl) ?_
  refine lv_iload hx hb dL_law_1325 (lv_at hl 5 rfl) ?_
  refine lv_iconst (v := 2) hx hb dL_law_1327 (by decide) ?_
  refine lv_iadd hx hb dL_law_1328 ?_
  obtain ⟨h_2, hw⟩ := hw
  refine va_sld hx hb hX hbl hbA hS h_2 dL_law_1329 ?_
  refine lv_aload_n hx hb dL_law_1330 rfl (lv_at hl 0 rfl) ?_
  refine lv_iload hx hb dL_law_1331 (lv_at hl 5 rfl) ?_
  refine lv_iconst (v := 3) hx hb dL_law_1333 (by decide) ?_
  refine lv_iadd hx hb dL_law_1334 ?_
  obtain ⟨h_3, hw⟩ := hw
  refine va_sld hx hb hX hbl hbA hS h_3 dL_law_1335 ?_
  refine lv_aload_n hx hb dL_law_1336 rfl (lv_at hl 3 rfl) ?_
  refine va_calli (vx_runSW (As := [.ref (ad 0), .int (xs ((i0 + 1)).toNatClampNeg), .int (xs ((i0 + 2)).toNatClampNeg), .int (xs ((i0 + 3)).toNatClampNeg), .ref (ad 59)]) (rest := []) ⟨hx, hb, hml, hown, hts⟩ (mL_renew l D ca ad base hAd w (xs ((i0 + 1)).toNatClampNeg) (xs ((i0 + 2)).toNatClampNeg) (xs ((i0 + 3)).toNatClampNeg) _ hw hl9) (vx_cwSW 5 hts gL_law_L_renew rfl rfl rfl (by decide +kernel) ⟨Nat.le_of_ble_eq_true rfl, Nat.le_of_ble_eq_true rfl⟩) (psx [.ref (ad 0), .int (xs ((i0 + 1)).toNatClampNeg), .int (xs ((i0 + 2)).toNatClampNeg), .int (xs ((i0 + 3)).toNatClampNeg), .ref (ad 59)] hK0 hXP hP hbs hS) rfl rfl hl.1 rfl (lv_room (Nat.le_of_ble_eq_true rfl)) dL_law_1337 ⟨by simp only [room_1]; omega, by simp only [room_1]; omega⟩) hS (fun q _ h => h) (fun q h => h) (fun r_5 w_4 t H locs ht hvm hw hP hz1 hk1 hS => ?_)
  have hP : PA D ca ad w_4 H := by rw [← ht]; exact hP
  refine lv_istore (lv' := [(6, .int r_5), (0, .ref b), (1, .ref (ad 0)), (2, .ref (ad 33)), (3, .ref (ad 59)), (4, .ref (ad 60)), (5, .int i0)]) hx hb dL_law_1340 hl (by decide) rfl (fun ls hl => ?_)
  refine lv_aload_n hx hb dL_law_1342 rfl (lv_at hl 3 rfl) ?_
  refine lv_aload_n hx hb dL_law_1343 rfl (lv_at hl 1 rfl) ?_
  refine lv_iload hx hb dL_law_1344 (lv_at hl 6 rfl) ?_
  refine lv_iconst (v := 1) hx hb dL_law_1346 (by decide) ?_
  refine lv_iadd hx hb dL_law_1347 ?_
  obtain ⟨h_6, hw⟩ := hw
  refine va_sld hx hb hX hbl hbA hS h_6 dL_law_1348 ?_
  refine lv_aload_n hx hb dL_law_1349 rfl (lv_at hl 1 rfl) ?_
  refine lv_iload hx hb dL_law_1350 (lv_at hl 6 rfl) ?_
  refine lv_iconst (v := 2) hx hb dL_law_1352 (by decide) ?_
  refine lv_iadd hx hb dL_law_1353 ?_
  obtain ⟨h_7, hw⟩ := hw
  refine va_sld hx hb hX hbl hbA hS h_7 dL_law_1354 ?_
  refine lv_aload_n hx hb dL_law_1355 rfl (lv_at hl 1 rfl) ?_
  refine lv_iload hx hb dL_law_1356 (lv_at hl 6 rfl) ?_
  refine lv_iconst (v := 3) hx hb dL_law_1358 (by decide) ?_
  refine lv_iadd hx hb dL_law_1359 ?_
  obtain ⟨h_8, hw⟩ := hw
  refine va_sld hx hb hX hbl hbA hS h_8 dL_law_1360 ?_
  refine va_calli (va_runV (As := [.int (xs ((i0 + 1)).toNatClampNeg), .int (xs ((i0 + 2)).toNatClampNeg), .int (xs ((i0 + 3)).toNatClampNeg)]) (rest := []) ⟨hx, hb, hml, hown, hts⟩ (mX5_renew l D ca ad base hAd w_4 (xs ((i0 + 1)).toNatClampNeg) (xs ((i0 + 2)).toNatClampNeg) (xs ((i0 + 3)).toNatClampNeg) _ hw) (cwV 3 hts gL_law_X5_renew rfl rfl rfl (by decide +kernel) ⟨Nat.le_of_ble_eq_true rfl, Nat.le_of_ble_eq_true rfl⟩) (pv [.int (xs ((i0 + 1)).toNatClampNeg), .int (xs ((i0 + 2)).toNatClampNeg), .int (xs ((i0 + 3)).toNatClampNeg)] hK0 hP hbs hS rfl (wg33 ca ad w_4)) rfl rfl hl.1 rfl (lv_room (Nat.le_of_ble_eq_true rfl)) dL_law_1361 ⟨by simp only [room_1]; omega, by simp only [room_1]; omega⟩) hS (fun q _ h => h) (fun q h => h) (fun r_10 w_9 t H locs ht hvm hw hP hz1 hk1 hS => ?_)
  have hP : PA D ca ad w_9 H := by rw [← ht]; exact hP
  refine lv_istore (lv' := [(7, .int r_10), (6, .int r_5), (0, .ref b), (1, .ref (ad 0)), (2, .ref (ad 33)), (3, .ref (ad 59)), (4, .ref (ad 60)), (5, .int i0)]) hx hb dL_law_1364 hl (by decide) rfl (fun ls hl => ?_)
  refine lv_aload_n hx hb dL_law_1366 rfl (lv_at hl 4 rfl) ?_
  refine va_calli (va_runV (As := []) (rest := []) ⟨hx, hb, hml, hown, hts⟩ (mX5_thrown l D ca ad base hAd w_9 _ hw) (cwV 0 hts gL_law_X5_thrown rfl rfl rfl (by decide +kernel) ⟨Nat.le_of_ble_eq_true rfl, Nat.le_of_ble_eq_true rfl⟩) (pv [] hK0 hP hbs hS rfl (wg33 ca ad w_9)) rfl rfl hl.1 rfl (lv_room (Nat.le_of_ble_eq_true rfl)) dL_law_1367 ⟨by simp only [room_1]; omega, by simp only [room_1]; omega⟩) hS (fun q _ h => h) (fun q h => h) (fun r_12 w_11 t H locs ht hvm hw hP hz1 hk1 hS => ?_)
  have hP : PA D ca ad w_11 H := by rw [← ht]; exact hP
  refine lv_iload hx hb dL_law_1370 (lv_at hl 1 rfl) ?_
  refine lv_icmp_eq (tgt := 1377) hx hb dL_law_1372 (by decide) (fun c_13 => ?_) (fun c_13 => ?_)
  · have hw := hw.1 c_13
    refine lv_iload hx hb dL_law_1377 (lv_at hl 1 rfl) ?_
    refine lv_if_ne (tgt := 1394) hx hb dL_law_1379 (by decide) (fun c_14 => ?_) (fun c_14 => ?_)
    · have hw := hw.2 c_14
      refine lv_goto (tgt := 2692) hx hb dL_law_1394 (by decide) ?_
      refine W.widen (k := cells + 4) (n := slots + 24) (by omega) (by omega) ?_
      exact hK w_11 hw _ _ hP hS ls (lv_sub hl [2, 3, 4, 5, 6, 7] rfl)
    · have hw := hw.1 c_14
      refine lv_aload_n hx hb dL_law_1382 rfl (lv_at hl 5 rfl) ?_
      refine lv_iconst (v := 0) hx hb dL_law_1383 (by decide) ?_
      obtain ⟨h_15, hw⟩ := hw
      refine va_lald hx hb hK0 hP 59 3 (wg59 ca ad w_11) rfl h_15 dL_law_1384 ?_
      refine lv_iload hx hb dL_law_1385 (lv_at hl 0 rfl) ?_
      refine lv_i2l (v := (r_10).toInt64) hx hb dL_law_1387 rfl ?_
      refine W.lcmp hx hb dL_law_1388 ?_
      refine lv_if_eq (tgt := 1394) hx hb dL_law_1389 (by decide) (fun c_16 => ?_) (fun c_16 => ?_)
      · have hw := hw.1 c_16
        refine lv_goto (tgt := 2692) hx hb dL_law_1394 (by decide) ?_
        refine W.widen (k := cells + 4) (n := slots + 24) (by omega) (by omega) ?_
        exact hK w_11 hw _ _ hP hS ls (lv_sub hl [2, 3, 4, 5, 6, 7] rfl)
      · have hw := hw.2 c_16
        refine lv_iconst (v := 0) hx hb dL_law_1392 (by decide) ?_
        exact hw.elim
  · have hw := hw.2 c_13
    refine lv_iconst (v := 0) hx hb dL_law_1375 (by decide) ?_
    exact hw.elim
set_option maxHeartbeats 4000000 in
set_option maxRecDepth 100000 in
def wpL_C18 (xs : Nat → Int32) (L : Nat) (i0 : Int32) (w : St) (post : St → Prop) : Prop := (vp_in (i0 + 1) L) ∧ ((vp_in (i0 + 2) L) ∧ ((vp_in (i0 + 3) L) ∧ (wpL_release (xs ((i0 + 1)).toNatClampNeg) (xs ((i0 + 2)).toNatClampNeg) (xs ((i0 + 3)).toNatClampNeg) w (fun r_5 w_4 => (vp_in (i0 + 1) L) ∧ ((vp_in (i0 + 2) L) ∧ ((vp_in (i0 + 3) L) ∧ (wpX5_release (xs ((i0 + 1)).toNatClampNeg) (xs ((i0 + 2)).toNatClampNeg) (xs ((i0 + 3)).toNatClampNeg) w_4 (fun r_10 w_9 => wpX5_thrown w_9 (fun r_12 w_11 => (r_12 = r_5 → ((r_5 = 0 → ((vp_in 0 1) ∧ (((lg_cmp (w_11.2.2.1 (0 : Int32).toNatClampNeg) ((r_10).toInt64)) = 0 → (post w_11)) ∧ (¬ ((lg_cmp (w_11.2.2.1 (0 : Int32).toNatClampNeg) ((r_10).toInt64)) = 0) → False)))) ∧ (¬ (r_5 = 0) → (post w_11)))) ∧ (¬ (r_12 = r_5) → False))))))))))
set_option maxHeartbeats 4000000 in
set_option maxRecDepth 100000 in
theorem mL_C18 {p : Program} {l : Launch} {e : Env} {s : State} {m : MethodId} {below : List Frame} {meth : Method} {c : Code} {D : va_G} {ca : Nat → ClassId} {ad : Nat → Nat} {base b L : Nat} {xs : Nat → Int32} (C0 : LX p l s m c D ca ad base b L xs) {Q : State → Prop} {cells slots : Nat} (hcel : cells + 4 ≤ 603072) (hslo : slots + 24 ≤ 7215210) (i0 : Int32) (w : St) (post : St → Prop) (hw : wpL_C18 xs L i0 w post) (hK : ∀ (w : St), post w → ∀ (H : Heap) (locs : List Loc), PA D ca ad w H → va_S (AB base) s.heap H locs → ∀ ls : Array Slot, lv_has ls 10 [(0, .ref b), (1, .ref (ad 0)), (2, .ref (ad 33)), (3, .ref (ad 59)), (4, .ref (ad 60)), (5, .int i0)] → W p l e room_1 s m #[Value.ref b] below meth c H locs (cells + 4) (slots + 24) Q (F0 m 2692 ls [])) (H : Heap) (locs : List Loc) (hP : PA D ca ad w H) (hS : va_S (AB base) s.heap H locs) (ls : Array Slot) (hl : lv_has ls 10 [(0, .ref b), (1, .ref (ad 0)), (2, .ref (ad 33)), (3, .ref (ad 59)), (4, .ref (ad 60)), (5, .int i0)]) : W p l e room_1 s m #[Value.ref b] below meth c H locs cells slots Q (F0 m 1397 ls []) := by
  obtain ⟨hx, hb, hml, hown, hts, hK0, hXP, hAd, hbs, hX, hbl, hbA, hl9⟩ := C0
  refine lv_aload_n hx hb dL_law_1397 rfl (lv_at hl 1 rfl) ?_
  refine lv_aload_n hx hb dL_law_1398 rfl (lv_at hl 0 rfl) ?_
  refine lv_iload hx hb dL_law_1399 (lv_at hl 5 rfl) ?_
  refine lv_iconst (v := 1) hx hb dL_law_1401 (by decide) ?_
  refine lv_iadd hx hb dL_law_1402 ?_
  obtain ⟨h_1, hw⟩ := hw
  refine va_sld hx hb hX hbl hbA hS h_1 dL_law_1403 ?_
  refine lv_aload_n hx hb dL_law_1404 rfl (lv_at hl 0 rfl) ?_
  refine lv_iload hx hb dL_law_1405 (lv_at hl 5 rfl) ?_
  refine lv_iconst (v := 2) hx hb dL_law_1407 (by decide) ?_
  refine lv_iadd hx hb dL_law_1408 ?_
  obtain ⟨h_2, hw⟩ := hw
  refine va_sld hx hb hX hbl hbA hS h_2 dL_law_1409 ?_
  refine lv_aload_n hx hb dL_law_1410 rfl (lv_at hl 0 rfl) ?_
  refine lv_iload hx hb dL_law_1411 (lv_at hl 5 rfl) ?_
  refine lv_iconst (v := 3) hx hb dL_law_1413 (by decide) ?_
  refine lv_iadd hx hb dL_law_1414 ?_
  obtain ⟨h_3, hw⟩ := hw
  refine va_sld hx hb hX hbl hbA hS h_3 dL_law_1415 ?_
  refine lv_aload_n hx hb dL_law_1416 rfl (lv_at hl 3 rfl) ?_
  refine va_calli (vx_runSW (As := [.ref (ad 0), .int (xs ((i0 + 1)).toNatClampNeg), .int (xs ((i0 + 2)).toNatClampNeg), .int (xs ((i0 + 3)).toNatClampNeg), .ref (ad 59)]) (rest := []) ⟨hx, hb, hml, hown, hts⟩ (mL_release l D ca ad base hAd w (xs ((i0 + 1)).toNatClampNeg) (xs ((i0 + 2)).toNatClampNeg) (xs ((i0 + 3)).toNatClampNeg) _ hw hl9) (vx_cwSW 5 hts gL_law_L_release rfl rfl rfl (by decide +kernel) ⟨Nat.le_of_ble_eq_true rfl, Nat.le_of_ble_eq_true rfl⟩) (psx [.ref (ad 0), .int (xs ((i0 + 1)).toNatClampNeg), .int (xs ((i0 + 2)).toNatClampNeg), .int (xs ((i0 + 3)).toNatClampNeg), .ref (ad 59)] hK0 hXP hP hbs hS) rfl rfl hl.1 rfl (lv_room (Nat.le_of_ble_eq_true rfl)) dL_law_1417 ⟨by simp only [room_1]; omega, by simp only [room_1]; omega⟩) hS (fun q _ h => h) (fun q h => h) (fun r_5 w_4 t H locs ht hvm hw hP hz1 hk1 hS => ?_)
  have hP : PA D ca ad w_4 H := by rw [← ht]; exact hP
  refine lv_istore (lv' := [(6, .int r_5), (0, .ref b), (1, .ref (ad 0)), (2, .ref (ad 33)), (3, .ref (ad 59)), (4, .ref (ad 60)), (5, .int i0)]) hx hb dL_law_1420 hl (by decide) rfl (fun ls hl => ?_)
  refine lv_aload_n hx hb dL_law_1422 rfl (lv_at hl 3 rfl) ?_
  refine lv_aload_n hx hb dL_law_1423 rfl (lv_at hl 1 rfl) ?_
  refine lv_iload hx hb dL_law_1424 (lv_at hl 6 rfl) ?_
  refine lv_iconst (v := 1) hx hb dL_law_1426 (by decide) ?_
  refine lv_iadd hx hb dL_law_1427 ?_
  obtain ⟨h_6, hw⟩ := hw
  refine va_sld hx hb hX hbl hbA hS h_6 dL_law_1428 ?_
  refine lv_aload_n hx hb dL_law_1429 rfl (lv_at hl 1 rfl) ?_
  refine lv_iload hx hb dL_law_1430 (lv_at hl 6 rfl) ?_
  refine lv_iconst (v := 2) hx hb dL_law_1432 (by decide) ?_
  refine lv_iadd hx hb dL_law_1433 ?_
  obtain ⟨h_7, hw⟩ := hw
  refine va_sld hx hb hX hbl hbA hS h_7 dL_law_1434 ?_
  refine lv_aload_n hx hb dL_law_1435 rfl (lv_at hl 1 rfl) ?_
  refine lv_iload hx hb dL_law_1436 (lv_at hl 6 rfl) ?_
  refine lv_iconst (v := 3) hx hb dL_law_1438 (by decide) ?_
  refine lv_iadd hx hb dL_law_1439 ?_
  obtain ⟨h_8, hw⟩ := hw
  refine va_sld hx hb hX hbl hbA hS h_8 dL_law_1440 ?_
  refine va_calli (va_runV (As := [.int (xs ((i0 + 1)).toNatClampNeg), .int (xs ((i0 + 2)).toNatClampNeg), .int (xs ((i0 + 3)).toNatClampNeg)]) (rest := []) ⟨hx, hb, hml, hown, hts⟩ (mX5_release l D ca ad base hAd w_4 (xs ((i0 + 1)).toNatClampNeg) (xs ((i0 + 2)).toNatClampNeg) (xs ((i0 + 3)).toNatClampNeg) _ hw) (cwV 3 hts gL_law_X5_release rfl rfl rfl (by decide +kernel) ⟨Nat.le_of_ble_eq_true rfl, Nat.le_of_ble_eq_true rfl⟩) (pv [.int (xs ((i0 + 1)).toNatClampNeg), .int (xs ((i0 + 2)).toNatClampNeg), .int (xs ((i0 + 3)).toNatClampNeg)] hK0 hP hbs hS rfl (wg33 ca ad w_4)) rfl rfl hl.1 rfl (lv_room (Nat.le_of_ble_eq_true rfl)) dL_law_1441 ⟨by simp only [room_1]; omega, by simp only [room_1]; omega⟩) hS (fun q _ h => h) (fun q h => h) (fun r_10 w_9 t H locs ht hvm hw hP hz1 hk1 hS => ?_)
  have hP : PA D ca ad w_9 H := by rw [← ht]; exact hP
  refine lv_istore (lv' := [(7, .int r_10), (6, .int r_5), (0, .ref b), (1, .ref (ad 0)), (2, .ref (ad 33)), (3, .ref (ad 59)), (4, .ref (ad 60)), (5, .int i0)]) hx hb dL_law_1444 hl (by decide) rfl (fun ls hl => ?_)
  refine lv_aload_n hx hb dL_law_1446 rfl (lv_at hl 4 rfl) ?_
  refine va_calli (va_runV (As := []) (rest := []) ⟨hx, hb, hml, hown, hts⟩ (mX5_thrown l D ca ad base hAd w_9 _ hw) (cwV 0 hts gL_law_X5_thrown rfl rfl rfl (by decide +kernel) ⟨Nat.le_of_ble_eq_true rfl, Nat.le_of_ble_eq_true rfl⟩) (pv [] hK0 hP hbs hS rfl (wg33 ca ad w_9)) rfl rfl hl.1 rfl (lv_room (Nat.le_of_ble_eq_true rfl)) dL_law_1447 ⟨by simp only [room_1]; omega, by simp only [room_1]; omega⟩) hS (fun q _ h => h) (fun q h => h) (fun r_12 w_11 t H locs ht hvm hw hP hz1 hk1 hS => ?_)
  have hP : PA D ca ad w_11 H := by rw [← ht]; exact hP
  refine lv_iload hx hb dL_law_1450 (lv_at hl 1 rfl) ?_
  refine lv_icmp_eq (tgt := 1457) hx hb dL_law_1452 (by decide) (fun c_13 => ?_) (fun c_13 => ?_)
  · have hw := hw.1 c_13
    refine lv_iload hx hb dL_law_1457 (lv_at hl 1 rfl) ?_
    refine lv_if_ne (tgt := 1474) hx hb dL_law_1459 (by decide) (fun c_14 => ?_) (fun c_14 => ?_)
    · have hw := hw.2 c_14
      refine lv_goto (tgt := 2692) hx hb dL_law_1474 (by decide) ?_
      refine W.widen (k := cells + 4) (n := slots + 24) (by omega) (by omega) ?_
      exact hK w_11 hw _ _ hP hS ls (lv_sub hl [2, 3, 4, 5, 6, 7] rfl)
    · have hw := hw.1 c_14
      refine lv_aload_n hx hb dL_law_1462 rfl (lv_at hl 5 rfl) ?_
      refine lv_iconst (v := 0) hx hb dL_law_1463 (by decide) ?_
      obtain ⟨h_15, hw⟩ := hw
      refine va_lald hx hb hK0 hP 59 3 (wg59 ca ad w_11) rfl h_15 dL_law_1464 ?_
      refine lv_iload hx hb dL_law_1465 (lv_at hl 0 rfl) ?_
      refine lv_i2l (v := (r_10).toInt64) hx hb dL_law_1467 rfl ?_
      refine W.lcmp hx hb dL_law_1468 ?_
      refine lv_if_eq (tgt := 1474) hx hb dL_law_1469 (by decide) (fun c_16 => ?_) (fun c_16 => ?_)
      · have hw := hw.1 c_16
        refine lv_goto (tgt := 2692) hx hb dL_law_1474 (by decide) ?_
        refine W.widen (k := cells + 4) (n := slots + 24) (by omega) (by omega) ?_
        exact hK w_11 hw _ _ hP hS ls (lv_sub hl [2, 3, 4, 5, 6, 7] rfl)
      · have hw := hw.2 c_16
        refine lv_iconst (v := 0) hx hb dL_law_1472 (by decide) ?_
        exact hw.elim
  · have hw := hw.2 c_13
    refine lv_iconst (v := 0) hx hb dL_law_1455 (by decide) ?_
    exact hw.elim
set_option maxHeartbeats 4000000 in
set_option maxRecDepth 100000 in
def wpL_C19 (xs : Nat → Int32) (L : Nat) (i0 : Int32) (w : St) (post : St → Prop) : Prop := (vp_in (i0 + 1) L) ∧ ((vp_in (i0 + 2) L) ∧ (wpL_quit (xs ((i0 + 1)).toNatClampNeg) (xs ((i0 + 2)).toNatClampNeg) w (fun r_4 w_3 => (vp_in (i0 + 1) L) ∧ ((vp_in (i0 + 2) L) ∧ (wpX5_quit (xs ((i0 + 1)).toNatClampNeg) (xs ((i0 + 2)).toNatClampNeg) w_3 (fun r_8 w_7 => wpX5_thrown w_7 (fun r_10 w_9 => (r_10 = r_4 → ((r_4 = 0 → ((vp_in 0 1) ∧ (((lg_cmp (w_9.2.2.1 (0 : Int32).toNatClampNeg) ((r_8).toInt64)) = 0 → (post w_9)) ∧ (¬ ((lg_cmp (w_9.2.2.1 (0 : Int32).toNatClampNeg) ((r_8).toInt64)) = 0) → False)))) ∧ (¬ (r_4 = 0) → (post w_9)))) ∧ (¬ (r_10 = r_4) → False))))))))
set_option maxHeartbeats 4000000 in
set_option maxRecDepth 100000 in
theorem mL_C19 {p : Program} {l : Launch} {e : Env} {s : State} {m : MethodId} {below : List Frame} {meth : Method} {c : Code} {D : va_G} {ca : Nat → ClassId} {ad : Nat → Nat} {base b L : Nat} {xs : Nat → Int32} (C0 : LX p l s m c D ca ad base b L xs) {Q : State → Prop} {cells slots : Nat} (hcel : cells + 4 ≤ 603072) (hslo : slots + 24 ≤ 7215210) (i0 : Int32) (w : St) (post : St → Prop) (hw : wpL_C19 xs L i0 w post) (hK : ∀ (w : St), post w → ∀ (H : Heap) (locs : List Loc), PA D ca ad w H → va_S (AB base) s.heap H locs → ∀ ls : Array Slot, lv_has ls 10 [(0, .ref b), (1, .ref (ad 0)), (2, .ref (ad 33)), (3, .ref (ad 59)), (4, .ref (ad 60)), (5, .int i0)] → W p l e room_1 s m #[Value.ref b] below meth c H locs (cells + 4) (slots + 24) Q (F0 m 2692 ls [])) (H : Heap) (locs : List Loc) (hP : PA D ca ad w H) (hS : va_S (AB base) s.heap H locs) (ls : Array Slot) (hl : lv_has ls 10 [(0, .ref b), (1, .ref (ad 0)), (2, .ref (ad 33)), (3, .ref (ad 59)), (4, .ref (ad 60)), (5, .int i0)]) : W p l e room_1 s m #[Value.ref b] below meth c H locs cells slots Q (F0 m 1477 ls []) := by
  obtain ⟨hx, hb, hml, hown, hts, hK0, hXP, hAd, hbs, hX, hbl, hbA, hl9⟩ := C0
  refine lv_aload_n hx hb dL_law_1477 rfl (lv_at hl 1 rfl) ?_
  refine lv_aload_n hx hb dL_law_1478 rfl (lv_at hl 0 rfl) ?_
  refine lv_iload hx hb dL_law_1479 (lv_at hl 5 rfl) ?_
  refine lv_iconst (v := 1) hx hb dL_law_1481 (by decide) ?_
  refine lv_iadd hx hb dL_law_1482 ?_
  obtain ⟨h_1, hw⟩ := hw
  refine va_sld hx hb hX hbl hbA hS h_1 dL_law_1483 ?_
  refine lv_aload_n hx hb dL_law_1484 rfl (lv_at hl 0 rfl) ?_
  refine lv_iload hx hb dL_law_1485 (lv_at hl 5 rfl) ?_
  refine lv_iconst (v := 2) hx hb dL_law_1487 (by decide) ?_
  refine lv_iadd hx hb dL_law_1488 ?_
  obtain ⟨h_2, hw⟩ := hw
  refine va_sld hx hb hX hbl hbA hS h_2 dL_law_1489 ?_
  refine lv_aload_n hx hb dL_law_1490 rfl (lv_at hl 3 rfl) ?_
  refine va_calli (vx_runSW (As := [.ref (ad 0), .int (xs ((i0 + 1)).toNatClampNeg), .int (xs ((i0 + 2)).toNatClampNeg), .ref (ad 59)]) (rest := []) ⟨hx, hb, hml, hown, hts⟩ (mL_quit l D ca ad base hAd w (xs ((i0 + 1)).toNatClampNeg) (xs ((i0 + 2)).toNatClampNeg) _ hw hl9) (vx_cwSW 4 hts gL_law_L_quit rfl rfl rfl (by decide +kernel) ⟨Nat.le_of_ble_eq_true rfl, Nat.le_of_ble_eq_true rfl⟩) (psx [.ref (ad 0), .int (xs ((i0 + 1)).toNatClampNeg), .int (xs ((i0 + 2)).toNatClampNeg), .ref (ad 59)] hK0 hXP hP hbs hS) rfl rfl hl.1 rfl (lv_room (Nat.le_of_ble_eq_true rfl)) dL_law_1491 ⟨by simp only [room_1]; omega, by simp only [room_1]; omega⟩) hS (fun q _ h => h) (fun q h => h) (fun r_4 w_3 t H locs ht hvm hw hP hz1 hk1 hS => ?_)
  have hP : PA D ca ad w_3 H := by rw [← ht]; exact hP
  refine lv_istore (lv' := [(6, .int r_4), (0, .ref b), (1, .ref (ad 0)), (2, .ref (ad 33)), (3, .ref (ad 59)), (4, .ref (ad 60)), (5, .int i0)]) hx hb dL_law_1494 hl (by decide) rfl (fun ls hl => ?_)
  refine lv_aload_n hx hb dL_law_1496 rfl (lv_at hl 3 rfl) ?_
  refine lv_aload_n hx hb dL_law_1497 rfl (lv_at hl 1 rfl) ?_
  refine lv_iload hx hb dL_law_1498 (lv_at hl 6 rfl) ?_
  refine lv_iconst (v := 1) hx hb dL_law_1500 (by decide) ?_
  refine lv_iadd hx hb dL_law_1501 ?_
  obtain ⟨h_5, hw⟩ := hw
  refine va_sld hx hb hX hbl hbA hS h_5 dL_law_1502 ?_
  refine lv_aload_n hx hb dL_law_1503 rfl (lv_at hl 1 rfl) ?_
  refine lv_iload hx hb dL_law_1504 (lv_at hl 6 rfl) ?_
  refine lv_iconst (v := 2) hx hb dL_law_1506 (by decide) ?_
  refine lv_iadd hx hb dL_law_1507 ?_
  obtain ⟨h_6, hw⟩ := hw
  refine va_sld hx hb hX hbl hbA hS h_6 dL_law_1508 ?_
  refine va_calli (va_runV (As := [.int (xs ((i0 + 1)).toNatClampNeg), .int (xs ((i0 + 2)).toNatClampNeg)]) (rest := []) ⟨hx, hb, hml, hown, hts⟩ (mX5_quit l D ca ad base hAd w_3 (xs ((i0 + 1)).toNatClampNeg) (xs ((i0 + 2)).toNatClampNeg) _ hw) (cwV 2 hts gL_law_X5_quit rfl rfl rfl (by decide +kernel) ⟨Nat.le_of_ble_eq_true rfl, Nat.le_of_ble_eq_true rfl⟩) (pv [.int (xs ((i0 + 1)).toNatClampNeg), .int (xs ((i0 + 2)).toNatClampNeg)] hK0 hP hbs hS rfl (wg33 ca ad w_3)) rfl rfl hl.1 rfl (lv_room (Nat.le_of_ble_eq_true rfl)) dL_law_1509 ⟨by simp only [room_1]; omega, by simp only [room_1]; omega⟩) hS (fun q _ h => h) (fun q h => h) (fun r_8 w_7 t H locs ht hvm hw hP hz1 hk1 hS => ?_)
  have hP : PA D ca ad w_7 H := by rw [← ht]; exact hP
  refine lv_istore (lv' := [(7, .int r_8), (6, .int r_4), (0, .ref b), (1, .ref (ad 0)), (2, .ref (ad 33)), (3, .ref (ad 59)), (4, .ref (ad 60)), (5, .int i0)]) hx hb dL_law_1512 hl (by decide) rfl (fun ls hl => ?_)
  refine lv_aload_n hx hb dL_law_1514 rfl (lv_at hl 4 rfl) ?_
  refine va_calli (va_runV (As := []) (rest := []) ⟨hx, hb, hml, hown, hts⟩ (mX5_thrown l D ca ad base hAd w_7 _ hw) (cwV 0 hts gL_law_X5_thrown rfl rfl rfl (by decide +kernel) ⟨Nat.le_of_ble_eq_true rfl, Nat.le_of_ble_eq_true rfl⟩) (pv [] hK0 hP hbs hS rfl (wg33 ca ad w_7)) rfl rfl hl.1 rfl (lv_room (Nat.le_of_ble_eq_true rfl)) dL_law_1515 ⟨by simp only [room_1]; omega, by simp only [room_1]; omega⟩) hS (fun q _ h => h) (fun q h => h) (fun r_10 w_9 t H locs ht hvm hw hP hz1 hk1 hS => ?_)
  have hP : PA D ca ad w_9 H := by rw [← ht]; exact hP
  refine lv_iload hx hb dL_law_1518 (lv_at hl 1 rfl) ?_
  refine lv_icmp_eq (tgt := 1525) hx hb dL_law_1520 (by decide) (fun c_11 => ?_) (fun c_11 => ?_)
  · have hw := hw.1 c_11
    refine lv_iload hx hb dL_law_1525 (lv_at hl 1 rfl) ?_
    refine lv_if_ne (tgt := 1542) hx hb dL_law_1527 (by decide) (fun c_12 => ?_) (fun c_12 => ?_)
    · have hw := hw.2 c_12
      refine lv_goto (tgt := 2692) hx hb dL_law_1542 (by decide) ?_
      refine W.widen (k := cells + 4) (n := slots + 24) (by omega) (by omega) ?_
      exact hK w_9 hw _ _ hP hS ls (lv_sub hl [2, 3, 4, 5, 6, 7] rfl)
    · have hw := hw.1 c_12
      refine lv_aload_n hx hb dL_law_1530 rfl (lv_at hl 5 rfl) ?_
      refine lv_iconst (v := 0) hx hb dL_law_1531 (by decide) ?_
      obtain ⟨h_13, hw⟩ := hw
      refine va_lald hx hb hK0 hP 59 3 (wg59 ca ad w_9) rfl h_13 dL_law_1532 ?_
      refine lv_iload hx hb dL_law_1533 (lv_at hl 0 rfl) ?_
      refine lv_i2l (v := (r_8).toInt64) hx hb dL_law_1535 rfl ?_
      refine W.lcmp hx hb dL_law_1536 ?_
      refine lv_if_eq (tgt := 1542) hx hb dL_law_1537 (by decide) (fun c_14 => ?_) (fun c_14 => ?_)
      · have hw := hw.1 c_14
        refine lv_goto (tgt := 2692) hx hb dL_law_1542 (by decide) ?_
        refine W.widen (k := cells + 4) (n := slots + 24) (by omega) (by omega) ?_
        exact hK w_9 hw _ _ hP hS ls (lv_sub hl [2, 3, 4, 5, 6, 7] rfl)
      · have hw := hw.2 c_14
        refine lv_iconst (v := 0) hx hb dL_law_1540 (by decide) ?_
        exact hw.elim
  · have hw := hw.2 c_11
    refine lv_iconst (v := 0) hx hb dL_law_1523 (by decide) ?_
    exact hw.elim
set_option maxHeartbeats 4000000 in
set_option maxRecDepth 100000 in
def wpL_C20 (xs : Nat → Int32) (L : Nat) (i0 : Int32) (w : St) (post : St → Prop) : Prop := (vp_in (i0 + 1) L) ∧ ((vp_in (i0 + 2) L) ∧ ((vp_in (i0 + 3) L) ∧ (wpL_read (xs ((i0 + 1)).toNatClampNeg) (xs ((i0 + 2)).toNatClampNeg) (xs ((i0 + 3)).toNatClampNeg) w (fun r_5 w_4 => (vp_in (i0 + 1) L) ∧ ((vp_in (i0 + 2) L) ∧ ((vp_in (i0 + 3) L) ∧ (wpX5_read (xs ((i0 + 1)).toNatClampNeg) (xs ((i0 + 2)).toNatClampNeg) (xs ((i0 + 3)).toNatClampNeg) w_4 (fun r_10 w_9 => wpX5_thrown w_9 (fun r_12 w_11 => (r_12 = r_5 → ((r_5 = 0 → ((vp_in 0 1) ∧ (((lg_cmp (w_11.2.2.1 (0 : Int32).toNatClampNeg) ((r_10).toInt64)) = 0 → (post w_11)) ∧ (¬ ((lg_cmp (w_11.2.2.1 (0 : Int32).toNatClampNeg) ((r_10).toInt64)) = 0) → False)))) ∧ (¬ (r_5 = 0) → (post w_11)))) ∧ (¬ (r_12 = r_5) → False))))))))))
set_option maxHeartbeats 4000000 in
set_option maxRecDepth 100000 in
theorem mL_C20 {p : Program} {l : Launch} {e : Env} {s : State} {m : MethodId} {below : List Frame} {meth : Method} {c : Code} {D : va_G} {ca : Nat → ClassId} {ad : Nat → Nat} {base b L : Nat} {xs : Nat → Int32} (C0 : LX p l s m c D ca ad base b L xs) {Q : State → Prop} {cells slots : Nat} (hcel : cells + 4 ≤ 603072) (hslo : slots + 24 ≤ 7215210) (i0 : Int32) (w : St) (post : St → Prop) (hw : wpL_C20 xs L i0 w post) (hK : ∀ (w : St), post w → ∀ (H : Heap) (locs : List Loc), PA D ca ad w H → va_S (AB base) s.heap H locs → ∀ ls : Array Slot, lv_has ls 10 [(0, .ref b), (1, .ref (ad 0)), (2, .ref (ad 33)), (3, .ref (ad 59)), (4, .ref (ad 60)), (5, .int i0)] → W p l e room_1 s m #[Value.ref b] below meth c H locs (cells + 4) (slots + 24) Q (F0 m 2692 ls [])) (H : Heap) (locs : List Loc) (hP : PA D ca ad w H) (hS : va_S (AB base) s.heap H locs) (ls : Array Slot) (hl : lv_has ls 10 [(0, .ref b), (1, .ref (ad 0)), (2, .ref (ad 33)), (3, .ref (ad 59)), (4, .ref (ad 60)), (5, .int i0)]) : W p l e room_1 s m #[Value.ref b] below meth c H locs cells slots Q (F0 m 1545 ls []) := by
  obtain ⟨hx, hb, hml, hown, hts, hK0, hXP, hAd, hbs, hX, hbl, hbA, hl9⟩ := C0
  refine lv_aload_n hx hb dL_law_1545 rfl (lv_at hl 1 rfl) ?_
  refine lv_aload_n hx hb dL_law_1546 rfl (lv_at hl 0 rfl) ?_
  refine lv_iload hx hb dL_law_1547 (lv_at hl 5 rfl) ?_
  refine lv_iconst (v := 1) hx hb dL_law_1549 (by decide) ?_
  refine lv_iadd hx hb dL_law_1550 ?_
  obtain ⟨h_1, hw⟩ := hw
  refine va_sld hx hb hX hbl hbA hS h_1 dL_law_1551 ?_
  refine lv_aload_n hx hb dL_law_1552 rfl (lv_at hl 0 rfl) ?_
  refine lv_iload hx hb dL_law_1553 (lv_at hl 5 rfl) ?_
  refine lv_iconst (v := 2) hx hb dL_law_1555 (by decide) ?_
  refine lv_iadd hx hb dL_law_1556 ?_
  obtain ⟨h_2, hw⟩ := hw
  refine va_sld hx hb hX hbl hbA hS h_2 dL_law_1557 ?_
  refine lv_aload_n hx hb dL_law_1558 rfl (lv_at hl 0 rfl) ?_
  refine lv_iload hx hb dL_law_1559 (lv_at hl 5 rfl) ?_
  refine lv_iconst (v := 3) hx hb dL_law_1561 (by decide) ?_
  refine lv_iadd hx hb dL_law_1562 ?_
  obtain ⟨h_3, hw⟩ := hw
  refine va_sld hx hb hX hbl hbA hS h_3 dL_law_1563 ?_
  refine lv_aload_n hx hb dL_law_1564 rfl (lv_at hl 3 rfl) ?_
  refine va_calli (vx_runSW (As := [.ref (ad 0), .int (xs ((i0 + 1)).toNatClampNeg), .int (xs ((i0 + 2)).toNatClampNeg), .int (xs ((i0 + 3)).toNatClampNeg), .ref (ad 59)]) (rest := []) ⟨hx, hb, hml, hown, hts⟩ (mL_read l D ca ad base hAd w (xs ((i0 + 1)).toNatClampNeg) (xs ((i0 + 2)).toNatClampNeg) (xs ((i0 + 3)).toNatClampNeg) _ hw hl9) (vx_cwSW 5 hts gL_law_L_read rfl rfl rfl (by decide +kernel) ⟨Nat.le_of_ble_eq_true rfl, Nat.le_of_ble_eq_true rfl⟩) (psx [.ref (ad 0), .int (xs ((i0 + 1)).toNatClampNeg), .int (xs ((i0 + 2)).toNatClampNeg), .int (xs ((i0 + 3)).toNatClampNeg), .ref (ad 59)] hK0 hXP hP hbs hS) rfl rfl hl.1 rfl (lv_room (Nat.le_of_ble_eq_true rfl)) dL_law_1565 ⟨by simp only [room_1]; omega, by simp only [room_1]; omega⟩) hS (fun q _ h => h) (fun q h => h) (fun r_5 w_4 t H locs ht hvm hw hP hz1 hk1 hS => ?_)
  have hP : PA D ca ad w_4 H := by rw [← ht]; exact hP
  refine lv_istore (lv' := [(6, .int r_5), (0, .ref b), (1, .ref (ad 0)), (2, .ref (ad 33)), (3, .ref (ad 59)), (4, .ref (ad 60)), (5, .int i0)]) hx hb dL_law_1568 hl (by decide) rfl (fun ls hl => ?_)
  refine lv_aload_n hx hb dL_law_1570 rfl (lv_at hl 3 rfl) ?_
  refine lv_aload_n hx hb dL_law_1571 rfl (lv_at hl 1 rfl) ?_
  refine lv_iload hx hb dL_law_1572 (lv_at hl 6 rfl) ?_
  refine lv_iconst (v := 1) hx hb dL_law_1574 (by decide) ?_
  refine lv_iadd hx hb dL_law_1575 ?_
  obtain ⟨h_6, hw⟩ := hw
  refine va_sld hx hb hX hbl hbA hS h_6 dL_law_1576 ?_
  refine lv_aload_n hx hb dL_law_1577 rfl (lv_at hl 1 rfl) ?_
  refine lv_iload hx hb dL_law_1578 (lv_at hl 6 rfl) ?_
  refine lv_iconst (v := 2) hx hb dL_law_1580 (by decide) ?_
  refine lv_iadd hx hb dL_law_1581 ?_
  obtain ⟨h_7, hw⟩ := hw
  refine va_sld hx hb hX hbl hbA hS h_7 dL_law_1582 ?_
  refine lv_aload_n hx hb dL_law_1583 rfl (lv_at hl 1 rfl) ?_
  refine lv_iload hx hb dL_law_1584 (lv_at hl 6 rfl) ?_
  refine lv_iconst (v := 3) hx hb dL_law_1586 (by decide) ?_
  refine lv_iadd hx hb dL_law_1587 ?_
  obtain ⟨h_8, hw⟩ := hw
  refine va_sld hx hb hX hbl hbA hS h_8 dL_law_1588 ?_
  refine va_calli (va_runV (As := [.int (xs ((i0 + 1)).toNatClampNeg), .int (xs ((i0 + 2)).toNatClampNeg), .int (xs ((i0 + 3)).toNatClampNeg)]) (rest := []) ⟨hx, hb, hml, hown, hts⟩ (mX5_read l D ca ad base hAd w_4 (xs ((i0 + 1)).toNatClampNeg) (xs ((i0 + 2)).toNatClampNeg) (xs ((i0 + 3)).toNatClampNeg) _ hw) (cwV 3 hts gL_law_X5_read rfl rfl rfl (by decide +kernel) ⟨Nat.le_of_ble_eq_true rfl, Nat.le_of_ble_eq_true rfl⟩) (pv [.int (xs ((i0 + 1)).toNatClampNeg), .int (xs ((i0 + 2)).toNatClampNeg), .int (xs ((i0 + 3)).toNatClampNeg)] hK0 hP hbs hS rfl (wg33 ca ad w_4)) rfl rfl hl.1 rfl (lv_room (Nat.le_of_ble_eq_true rfl)) dL_law_1589 ⟨by simp only [room_1]; omega, by simp only [room_1]; omega⟩) hS (fun q _ h => h) (fun q h => h) (fun r_10 w_9 t H locs ht hvm hw hP hz1 hk1 hS => ?_)
  have hP : PA D ca ad w_9 H := by rw [← ht]; exact hP
  refine lv_istore (lv' := [(7, .int r_10), (6, .int r_5), (0, .ref b), (1, .ref (ad 0)), (2, .ref (ad 33)), (3, .ref (ad 59)), (4, .ref (ad 60)), (5, .int i0)]) hx hb dL_law_1592 hl (by decide) rfl (fun ls hl => ?_)
  refine lv_aload_n hx hb dL_law_1594 rfl (lv_at hl 4 rfl) ?_
  refine va_calli (va_runV (As := []) (rest := []) ⟨hx, hb, hml, hown, hts⟩ (mX5_thrown l D ca ad base hAd w_9 _ hw) (cwV 0 hts gL_law_X5_thrown rfl rfl rfl (by decide +kernel) ⟨Nat.le_of_ble_eq_true rfl, Nat.le_of_ble_eq_true rfl⟩) (pv [] hK0 hP hbs hS rfl (wg33 ca ad w_9)) rfl rfl hl.1 rfl (lv_room (Nat.le_of_ble_eq_true rfl)) dL_law_1595 ⟨by simp only [room_1]; omega, by simp only [room_1]; omega⟩) hS (fun q _ h => h) (fun q h => h) (fun r_12 w_11 t H locs ht hvm hw hP hz1 hk1 hS => ?_)
  have hP : PA D ca ad w_11 H := by rw [← ht]; exact hP
  refine lv_iload hx hb dL_law_1598 (lv_at hl 1 rfl) ?_
  refine lv_icmp_eq (tgt := 1605) hx hb dL_law_1600 (by decide) (fun c_13 => ?_) (fun c_13 => ?_)
  · have hw := hw.1 c_13
    refine lv_iload hx hb dL_law_1605 (lv_at hl 1 rfl) ?_
    refine lv_if_ne (tgt := 1622) hx hb dL_law_1607 (by decide) (fun c_14 => ?_) (fun c_14 => ?_)
    · have hw := hw.2 c_14
      refine lv_goto (tgt := 2692) hx hb dL_law_1622 (by decide) ?_
      refine W.widen (k := cells + 4) (n := slots + 24) (by omega) (by omega) ?_
      exact hK w_11 hw _ _ hP hS ls (lv_sub hl [2, 3, 4, 5, 6, 7] rfl)
    · have hw := hw.1 c_14
      refine lv_aload_n hx hb dL_law_1610 rfl (lv_at hl 5 rfl) ?_
      refine lv_iconst (v := 0) hx hb dL_law_1611 (by decide) ?_
      obtain ⟨h_15, hw⟩ := hw
      refine va_lald hx hb hK0 hP 59 3 (wg59 ca ad w_11) rfl h_15 dL_law_1612 ?_
      refine lv_iload hx hb dL_law_1613 (lv_at hl 0 rfl) ?_
      refine lv_i2l (v := (r_10).toInt64) hx hb dL_law_1615 rfl ?_
      refine W.lcmp hx hb dL_law_1616 ?_
      refine lv_if_eq (tgt := 1622) hx hb dL_law_1617 (by decide) (fun c_16 => ?_) (fun c_16 => ?_)
      · have hw := hw.1 c_16
        refine lv_goto (tgt := 2692) hx hb dL_law_1622 (by decide) ?_
        refine W.widen (k := cells + 4) (n := slots + 24) (by omega) (by omega) ?_
        exact hK w_11 hw _ _ hP hS ls (lv_sub hl [2, 3, 4, 5, 6, 7] rfl)
      · have hw := hw.2 c_16
        refine lv_iconst (v := 0) hx hb dL_law_1620 (by decide) ?_
        exact hw.elim
  · have hw := hw.2 c_13
    refine lv_iconst (v := 0) hx hb dL_law_1603 (by decide) ?_
    exact hw.elim
set_option maxHeartbeats 4000000 in
set_option maxRecDepth 100000 in
def wpL_C21 (xs : Nat → Int32) (L : Nat) (i0 : Int32) (w : St) (post : St → Prop) : Prop := (vp_in (i0 + 1) L) ∧ ((vp_in (i0 + 2) L) ∧ ((vp_in (i0 + 3) L) ∧ ((vp_in (i0 + 4) L) ∧ (wpL_write (xs ((i0 + 1)).toNatClampNeg) (xs ((i0 + 2)).toNatClampNeg) (xs ((i0 + 3)).toNatClampNeg) (xs ((i0 + 4)).toNatClampNeg) w (fun r_6 w_5 => (vp_in (i0 + 1) L) ∧ ((vp_in (i0 + 2) L) ∧ ((vp_in (i0 + 3) L) ∧ ((vp_in (i0 + 4) L) ∧ (wpX5_write (xs ((i0 + 1)).toNatClampNeg) (xs ((i0 + 2)).toNatClampNeg) (xs ((i0 + 3)).toNatClampNeg) (xs ((i0 + 4)).toNatClampNeg) w_5 (fun r_12 w_11 => wpX5_thrown w_11 (fun r_14 w_13 => (r_14 = r_6 → ((r_6 = 0 → ((vp_in 0 1) ∧ (((lg_cmp (w_13.2.2.1 (0 : Int32).toNatClampNeg) ((r_12).toInt64)) = 0 → (post w_13)) ∧ (¬ ((lg_cmp (w_13.2.2.1 (0 : Int32).toNatClampNeg) ((r_12).toInt64)) = 0) → False)))) ∧ (¬ (r_6 = 0) → (post w_13)))) ∧ (¬ (r_14 = r_6) → False))))))))))))
set_option maxHeartbeats 4000000 in
set_option maxRecDepth 100000 in
theorem mL_C21 {p : Program} {l : Launch} {e : Env} {s : State} {m : MethodId} {below : List Frame} {meth : Method} {c : Code} {D : va_G} {ca : Nat → ClassId} {ad : Nat → Nat} {base b L : Nat} {xs : Nat → Int32} (C0 : LX p l s m c D ca ad base b L xs) {Q : State → Prop} {cells slots : Nat} (hcel : cells + 4 ≤ 603072) (hslo : slots + 24 ≤ 7215210) (i0 : Int32) (w : St) (post : St → Prop) (hw : wpL_C21 xs L i0 w post) (hK : ∀ (w : St), post w → ∀ (H : Heap) (locs : List Loc), PA D ca ad w H → va_S (AB base) s.heap H locs → ∀ ls : Array Slot, lv_has ls 10 [(0, .ref b), (1, .ref (ad 0)), (2, .ref (ad 33)), (3, .ref (ad 59)), (4, .ref (ad 60)), (5, .int i0)] → W p l e room_1 s m #[Value.ref b] below meth c H locs (cells + 4) (slots + 24) Q (F0 m 2692 ls [])) (H : Heap) (locs : List Loc) (hP : PA D ca ad w H) (hS : va_S (AB base) s.heap H locs) (ls : Array Slot) (hl : lv_has ls 10 [(0, .ref b), (1, .ref (ad 0)), (2, .ref (ad 33)), (3, .ref (ad 59)), (4, .ref (ad 60)), (5, .int i0)]) : W p l e room_1 s m #[Value.ref b] below meth c H locs cells slots Q (F0 m 1625 ls []) := by
  obtain ⟨hx, hb, hml, hown, hts, hK0, hXP, hAd, hbs, hX, hbl, hbA, hl9⟩ := C0
  refine lv_aload_n hx hb dL_law_1625 rfl (lv_at hl 1 rfl) ?_
  refine lv_aload_n hx hb dL_law_1626 rfl (lv_at hl 0 rfl) ?_
  refine lv_iload hx hb dL_law_1627 (lv_at hl 5 rfl) ?_
  refine lv_iconst (v := 1) hx hb dL_law_1629 (by decide) ?_
  refine lv_iadd hx hb dL_law_1630 ?_
  obtain ⟨h_1, hw⟩ := hw
  refine va_sld hx hb hX hbl hbA hS h_1 dL_law_1631 ?_
  refine lv_aload_n hx hb dL_law_1632 rfl (lv_at hl 0 rfl) ?_
  refine lv_iload hx hb dL_law_1633 (lv_at hl 5 rfl) ?_
  refine lv_iconst (v := 2) hx hb dL_law_1635 (by decide) ?_
  refine lv_iadd hx hb dL_law_1636 ?_
  obtain ⟨h_2, hw⟩ := hw
  refine va_sld hx hb hX hbl hbA hS h_2 dL_law_1637 ?_
  refine lv_aload_n hx hb dL_law_1638 rfl (lv_at hl 0 rfl) ?_
  refine lv_iload hx hb dL_law_1639 (lv_at hl 5 rfl) ?_
  refine lv_iconst (v := 3) hx hb dL_law_1641 (by decide) ?_
  refine lv_iadd hx hb dL_law_1642 ?_
  obtain ⟨h_3, hw⟩ := hw
  refine va_sld hx hb hX hbl hbA hS h_3 dL_law_1643 ?_
  refine lv_aload_n hx hb dL_law_1644 rfl (lv_at hl 0 rfl) ?_
  refine lv_iload hx hb dL_law_1645 (lv_at hl 5 rfl) ?_
  refine lv_iconst (v := 4) hx hb dL_law_1647 (by decide) ?_
  refine lv_iadd hx hb dL_law_1648 ?_
  obtain ⟨h_4, hw⟩ := hw
  refine va_sld hx hb hX hbl hbA hS h_4 dL_law_1649 ?_
  refine lv_aload_n hx hb dL_law_1650 rfl (lv_at hl 3 rfl) ?_
  refine va_calli (vx_runSW (As := [.ref (ad 0), .int (xs ((i0 + 1)).toNatClampNeg), .int (xs ((i0 + 2)).toNatClampNeg), .int (xs ((i0 + 3)).toNatClampNeg), .int (xs ((i0 + 4)).toNatClampNeg), .ref (ad 59)]) (rest := []) ⟨hx, hb, hml, hown, hts⟩ (mL_write l D ca ad base hAd w (xs ((i0 + 1)).toNatClampNeg) (xs ((i0 + 2)).toNatClampNeg) (xs ((i0 + 3)).toNatClampNeg) (xs ((i0 + 4)).toNatClampNeg) _ hw hl9) (vx_cwSW 6 hts gL_law_L_write rfl rfl rfl (by decide +kernel) ⟨Nat.le_of_ble_eq_true rfl, Nat.le_of_ble_eq_true rfl⟩) (psx [.ref (ad 0), .int (xs ((i0 + 1)).toNatClampNeg), .int (xs ((i0 + 2)).toNatClampNeg), .int (xs ((i0 + 3)).toNatClampNeg), .int (xs ((i0 + 4)).toNatClampNeg), .ref (ad 59)] hK0 hXP hP hbs hS) rfl rfl hl.1 rfl (lv_room (Nat.le_of_ble_eq_true rfl)) dL_law_1651 ⟨by simp only [room_1]; omega, by simp only [room_1]; omega⟩) hS (fun q _ h => h) (fun q h => h) (fun r_6 w_5 t H locs ht hvm hw hP hz1 hk1 hS => ?_)
  have hP : PA D ca ad w_5 H := by rw [← ht]; exact hP
  refine lv_istore (lv' := [(6, .int r_6), (0, .ref b), (1, .ref (ad 0)), (2, .ref (ad 33)), (3, .ref (ad 59)), (4, .ref (ad 60)), (5, .int i0)]) hx hb dL_law_1654 hl (by decide) rfl (fun ls hl => ?_)
  refine lv_aload_n hx hb dL_law_1656 rfl (lv_at hl 3 rfl) ?_
  refine lv_aload_n hx hb dL_law_1657 rfl (lv_at hl 1 rfl) ?_
  refine lv_iload hx hb dL_law_1658 (lv_at hl 6 rfl) ?_
  refine lv_iconst (v := 1) hx hb dL_law_1660 (by decide) ?_
  refine lv_iadd hx hb dL_law_1661 ?_
  obtain ⟨h_7, hw⟩ := hw
  refine va_sld hx hb hX hbl hbA hS h_7 dL_law_1662 ?_
  refine lv_aload_n hx hb dL_law_1663 rfl (lv_at hl 1 rfl) ?_
  refine lv_iload hx hb dL_law_1664 (lv_at hl 6 rfl) ?_
  refine lv_iconst (v := 2) hx hb dL_law_1666 (by decide) ?_
  refine lv_iadd hx hb dL_law_1667 ?_
  obtain ⟨h_8, hw⟩ := hw
  refine va_sld hx hb hX hbl hbA hS h_8 dL_law_1668 ?_
  refine lv_aload_n hx hb dL_law_1669 rfl (lv_at hl 1 rfl) ?_
  refine lv_iload hx hb dL_law_1670 (lv_at hl 6 rfl) ?_
  refine lv_iconst (v := 3) hx hb dL_law_1672 (by decide) ?_
  refine lv_iadd hx hb dL_law_1673 ?_
  obtain ⟨h_9, hw⟩ := hw
  refine va_sld hx hb hX hbl hbA hS h_9 dL_law_1674 ?_
  refine lv_aload_n hx hb dL_law_1675 rfl (lv_at hl 1 rfl) ?_
  refine lv_iload hx hb dL_law_1676 (lv_at hl 6 rfl) ?_
  refine lv_iconst (v := 4) hx hb dL_law_1678 (by decide) ?_
  refine lv_iadd hx hb dL_law_1679 ?_
  obtain ⟨h_10, hw⟩ := hw
  refine va_sld hx hb hX hbl hbA hS h_10 dL_law_1680 ?_
  refine va_calli (va_runV (As := [.int (xs ((i0 + 1)).toNatClampNeg), .int (xs ((i0 + 2)).toNatClampNeg), .int (xs ((i0 + 3)).toNatClampNeg), .int (xs ((i0 + 4)).toNatClampNeg)]) (rest := []) ⟨hx, hb, hml, hown, hts⟩ (mX5_write l D ca ad base hAd w_5 (xs ((i0 + 1)).toNatClampNeg) (xs ((i0 + 2)).toNatClampNeg) (xs ((i0 + 3)).toNatClampNeg) (xs ((i0 + 4)).toNatClampNeg) _ hw) (cwV 4 hts gL_law_X5_write rfl rfl rfl (by decide +kernel) ⟨Nat.le_of_ble_eq_true rfl, Nat.le_of_ble_eq_true rfl⟩) (pv [.int (xs ((i0 + 1)).toNatClampNeg), .int (xs ((i0 + 2)).toNatClampNeg), .int (xs ((i0 + 3)).toNatClampNeg), .int (xs ((i0 + 4)).toNatClampNeg)] hK0 hP hbs hS rfl (wg33 ca ad w_5)) rfl rfl hl.1 rfl (lv_room (Nat.le_of_ble_eq_true rfl)) dL_law_1681 ⟨by simp only [room_1]; omega, by simp only [room_1]; omega⟩) hS (fun q _ h => h) (fun q h => h) (fun r_12 w_11 t H locs ht hvm hw hP hz1 hk1 hS => ?_)
  have hP : PA D ca ad w_11 H := by rw [← ht]; exact hP
  refine lv_istore (lv' := [(7, .int r_12), (6, .int r_6), (0, .ref b), (1, .ref (ad 0)), (2, .ref (ad 33)), (3, .ref (ad 59)), (4, .ref (ad 60)), (5, .int i0)]) hx hb dL_law_1684 hl (by decide) rfl (fun ls hl => ?_)
  refine lv_aload_n hx hb dL_law_1686 rfl (lv_at hl 4 rfl) ?_
  refine va_calli (va_runV (As := []) (rest := []) ⟨hx, hb, hml, hown, hts⟩ (mX5_thrown l D ca ad base hAd w_11 _ hw) (cwV 0 hts gL_law_X5_thrown rfl rfl rfl (by decide +kernel) ⟨Nat.le_of_ble_eq_true rfl, Nat.le_of_ble_eq_true rfl⟩) (pv [] hK0 hP hbs hS rfl (wg33 ca ad w_11)) rfl rfl hl.1 rfl (lv_room (Nat.le_of_ble_eq_true rfl)) dL_law_1687 ⟨by simp only [room_1]; omega, by simp only [room_1]; omega⟩) hS (fun q _ h => h) (fun q h => h) (fun r_14 w_13 t H locs ht hvm hw hP hz1 hk1 hS => ?_)
  have hP : PA D ca ad w_13 H := by rw [← ht]; exact hP
  refine lv_iload hx hb dL_law_1690 (lv_at hl 1 rfl) ?_
  refine lv_icmp_eq (tgt := 1697) hx hb dL_law_1692 (by decide) (fun c_15 => ?_) (fun c_15 => ?_)
  · have hw := hw.1 c_15
    refine lv_iload hx hb dL_law_1697 (lv_at hl 1 rfl) ?_
    refine lv_if_ne (tgt := 1714) hx hb dL_law_1699 (by decide) (fun c_16 => ?_) (fun c_16 => ?_)
    · have hw := hw.2 c_16
      refine lv_goto (tgt := 2692) hx hb dL_law_1714 (by decide) ?_
      refine W.widen (k := cells + 4) (n := slots + 24) (by omega) (by omega) ?_
      exact hK w_13 hw _ _ hP hS ls (lv_sub hl [2, 3, 4, 5, 6, 7] rfl)
    · have hw := hw.1 c_16
      refine lv_aload_n hx hb dL_law_1702 rfl (lv_at hl 5 rfl) ?_
      refine lv_iconst (v := 0) hx hb dL_law_1703 (by decide) ?_
      obtain ⟨h_17, hw⟩ := hw
      refine va_lald hx hb hK0 hP 59 3 (wg59 ca ad w_13) rfl h_17 dL_law_1704 ?_
      refine lv_iload hx hb dL_law_1705 (lv_at hl 0 rfl) ?_
      refine lv_i2l (v := (r_12).toInt64) hx hb dL_law_1707 rfl ?_
      refine W.lcmp hx hb dL_law_1708 ?_
      refine lv_if_eq (tgt := 1714) hx hb dL_law_1709 (by decide) (fun c_18 => ?_) (fun c_18 => ?_)
      · have hw := hw.1 c_18
        refine lv_goto (tgt := 2692) hx hb dL_law_1714 (by decide) ?_
        refine W.widen (k := cells + 4) (n := slots + 24) (by omega) (by omega) ?_
        exact hK w_13 hw _ _ hP hS ls (lv_sub hl [2, 3, 4, 5, 6, 7] rfl)
      · have hw := hw.2 c_18
        refine lv_iconst (v := 0) hx hb dL_law_1712 (by decide) ?_
        exact hw.elim
  · have hw := hw.2 c_15
    refine lv_iconst (v := 0) hx hb dL_law_1695 (by decide) ?_
    exact hw.elim
