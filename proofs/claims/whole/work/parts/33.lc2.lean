set_option maxHeartbeats 4000000 in
set_option maxRecDepth 100000 in
def wpL_C22 (xs : Nat → Int32) (L : Nat) (i0 : Int32) (w : St) (post : St → Prop) : Prop := (vp_in (i0 + 1) L) ∧ (wpL_owner (xs ((i0 + 1)).toNatClampNeg) w (fun r_3 w_2 => (vp_in (i0 + 1) L) ∧ (wpX5_owner (xs ((i0 + 1)).toNatClampNeg) w_2 (fun r_6 w_5 => wpX5_thrown w_5 (fun r_8 w_7 => (r_8 = r_3 → ((r_3 = 0 → ((vp_in 0 1) ∧ (((lg_cmp (w_7.2.2.1 (0 : Int32).toNatClampNeg) ((r_6).toInt64)) = 0 → (post w_7)) ∧ (¬ ((lg_cmp (w_7.2.2.1 (0 : Int32).toNatClampNeg) ((r_6).toInt64)) = 0) → False)))) ∧ (¬ (r_3 = 0) → (post w_7)))) ∧ (¬ (r_8 = r_3) → False))))))
set_option maxHeartbeats 4000000 in
set_option maxRecDepth 100000 in
theorem mL_C22 {p : Program} {l : Launch} {e : Env} {s : State} {m : MethodId} {below : List Frame} {meth : Method} {c : Code} {D : va_G} {ca : Nat → ClassId} {ad : Nat → Nat} {base b L : Nat} {xs : Nat → Int32} (C0 : LX p l s m c D ca ad base b L xs) {Q : State → Prop} {cells slots : Nat} (hcel : cells + 4 ≤ 603072) (hslo : slots + 24 ≤ 7215210) (i0 : Int32) (w : St) (post : St → Prop) (hw : wpL_C22 xs L i0 w post) (hK : ∀ (w : St), post w → ∀ (H : Heap) (locs : List Loc), PA D ca ad w H → va_S (AB base) s.heap H locs → ∀ ls : Array Slot, lv_has ls 10 [(0, .ref b), (1, .ref (ad 0)), (2, .ref (ad 33)), (3, .ref (ad 59)), (4, .ref (ad 60)), (5, .int i0)] → W p l e room_1 s m #[Value.ref b] below meth c H locs (cells + 4) (slots + 24) Q (F0 m 2692 ls [])) (H : Heap) (locs : List Loc) (hP : PA D ca ad w H) (hS : va_S (AB base) s.heap H locs) (ls : Array Slot) (hl : lv_has ls 10 [(0, .ref b), (1, .ref (ad 0)), (2, .ref (ad 33)), (3, .ref (ad 59)), (4, .ref (ad 60)), (5, .int i0)]) : W p l e room_1 s m #[Value.ref b] below meth c H locs cells slots Q (F0 m 1717 ls []) := by
  obtain ⟨hx, hb, hml, hown, hts, hK0, hXP, hAd, hbs, hX, hbl, hbA, hl9⟩ := C0
  refine lv_aload_n hx hb dL_law_1717 rfl (lv_at hl 1 rfl) ?_
  refine lv_aload_n hx hb dL_law_1718 rfl (lv_at hl 0 rfl) ?_
  refine lv_iload hx hb dL_law_1719 (lv_at hl 5 rfl) ?_
  refine lv_iconst (v := 1) hx hb dL_law_1721 (by decide) ?_
  refine lv_iadd hx hb dL_law_1722 ?_
  obtain ⟨h_1, hw⟩ := hw
  refine va_sld hx hb hX hbl hbA hS h_1 dL_law_1723 ?_
  refine lv_aload_n hx hb dL_law_1724 rfl (lv_at hl 3 rfl) ?_
  refine va_calli (vx_runSW (As := [.ref (ad 0), .int (xs ((i0 + 1)).toNatClampNeg), .ref (ad 59)]) (rest := []) ⟨hx, hb, hml, hown, hts⟩ (mL_owner l D ca ad base hAd w (xs ((i0 + 1)).toNatClampNeg) _ hw hl9) (vx_cwSW 3 hts gL_law_L_owner rfl rfl rfl (by decide +kernel) ⟨Nat.le_of_ble_eq_true rfl, Nat.le_of_ble_eq_true rfl⟩) (psx [.ref (ad 0), .int (xs ((i0 + 1)).toNatClampNeg), .ref (ad 59)] hK0 hXP hP hbs hS) rfl rfl hl.1 rfl (lv_room (Nat.le_of_ble_eq_true rfl)) dL_law_1725 ⟨by simp only [room_1]; omega, by simp only [room_1]; omega⟩) hS (fun q _ h => h) (fun q h => h) (fun r_3 w_2 t H locs ht hvm hw hP hz1 hk1 hS => ?_)
  have hP : PA D ca ad w_2 H := by rw [← ht]; exact hP
  refine lv_istore (lv' := [(6, .int r_3), (0, .ref b), (1, .ref (ad 0)), (2, .ref (ad 33)), (3, .ref (ad 59)), (4, .ref (ad 60)), (5, .int i0)]) hx hb dL_law_1728 hl (by decide) rfl (fun ls hl => ?_)
  refine lv_aload_n hx hb dL_law_1730 rfl (lv_at hl 3 rfl) ?_
  refine lv_aload_n hx hb dL_law_1731 rfl (lv_at hl 1 rfl) ?_
  refine lv_iload hx hb dL_law_1732 (lv_at hl 6 rfl) ?_
  refine lv_iconst (v := 1) hx hb dL_law_1734 (by decide) ?_
  refine lv_iadd hx hb dL_law_1735 ?_
  obtain ⟨h_4, hw⟩ := hw
  refine va_sld hx hb hX hbl hbA hS h_4 dL_law_1736 ?_
  refine va_calli (va_runV (As := [.int (xs ((i0 + 1)).toNatClampNeg)]) (rest := []) ⟨hx, hb, hml, hown, hts⟩ (mX5_owner l D ca ad base hAd w_2 (xs ((i0 + 1)).toNatClampNeg) _ hw) (cwV 1 hts gL_law_X5_owner rfl rfl rfl (by decide +kernel) ⟨Nat.le_of_ble_eq_true rfl, Nat.le_of_ble_eq_true rfl⟩) (pv [.int (xs ((i0 + 1)).toNatClampNeg)] hK0 hP hbs hS rfl (wg33 ca ad w_2)) rfl rfl hl.1 rfl (lv_room (Nat.le_of_ble_eq_true rfl)) dL_law_1737 ⟨by simp only [room_1]; omega, by simp only [room_1]; omega⟩) hS (fun q _ h => h) (fun q h => h) (fun r_6 w_5 t H locs ht hvm hw hP hz1 hk1 hS => ?_)
  have hP : PA D ca ad w_5 H := by rw [← ht]; exact hP
  refine lv_istore (lv' := [(7, .int r_6), (6, .int r_3), (0, .ref b), (1, .ref (ad 0)), (2, .ref (ad 33)), (3, .ref (ad 59)), (4, .ref (ad 60)), (5, .int i0)]) hx hb dL_law_1740 hl (by decide) rfl (fun ls hl => ?_)
  refine lv_aload_n hx hb dL_law_1742 rfl (lv_at hl 4 rfl) ?_
  refine va_calli (va_runV (As := []) (rest := []) ⟨hx, hb, hml, hown, hts⟩ (mX5_thrown l D ca ad base hAd w_5 _ hw) (cwV 0 hts gL_law_X5_thrown rfl rfl rfl (by decide +kernel) ⟨Nat.le_of_ble_eq_true rfl, Nat.le_of_ble_eq_true rfl⟩) (pv [] hK0 hP hbs hS rfl (wg33 ca ad w_5)) rfl rfl hl.1 rfl (lv_room (Nat.le_of_ble_eq_true rfl)) dL_law_1743 ⟨by simp only [room_1]; omega, by simp only [room_1]; omega⟩) hS (fun q _ h => h) (fun q h => h) (fun r_8 w_7 t H locs ht hvm hw hP hz1 hk1 hS => ?_)
  have hP : PA D ca ad w_7 H := by rw [← ht]; exact hP
  refine lv_iload hx hb dL_law_1746 (lv_at hl 1 rfl) ?_
  refine lv_icmp_eq (tgt := 1753) hx hb dL_law_1748 (by decide) (fun c_9 => ?_) (fun c_9 => ?_)
  · have hw := hw.1 c_9
    refine lv_iload hx hb dL_law_1753 (lv_at hl 1 rfl) ?_
    refine lv_if_ne (tgt := 1770) hx hb dL_law_1755 (by decide) (fun c_10 => ?_) (fun c_10 => ?_)
    · have hw := hw.2 c_10
      refine lv_goto (tgt := 2692) hx hb dL_law_1770 (by decide) ?_
      refine W.widen (k := cells + 4) (n := slots + 24) (by omega) (by omega) ?_
      exact hK w_7 hw _ _ hP hS ls (lv_sub hl [2, 3, 4, 5, 6, 7] rfl)
    · have hw := hw.1 c_10
      refine lv_aload_n hx hb dL_law_1758 rfl (lv_at hl 5 rfl) ?_
      refine lv_iconst (v := 0) hx hb dL_law_1759 (by decide) ?_
      obtain ⟨h_11, hw⟩ := hw
      refine va_lald hx hb hK0 hP 59 3 (wg59 ca ad w_7) rfl h_11 dL_law_1760 ?_
      refine lv_iload hx hb dL_law_1761 (lv_at hl 0 rfl) ?_
      refine lv_i2l (v := (r_6).toInt64) hx hb dL_law_1763 rfl ?_
      refine W.lcmp hx hb dL_law_1764 ?_
      refine lv_if_eq (tgt := 1770) hx hb dL_law_1765 (by decide) (fun c_12 => ?_) (fun c_12 => ?_)
      · have hw := hw.1 c_12
        refine lv_goto (tgt := 2692) hx hb dL_law_1770 (by decide) ?_
        refine W.widen (k := cells + 4) (n := slots + 24) (by omega) (by omega) ?_
        exact hK w_7 hw _ _ hP hS ls (lv_sub hl [2, 3, 4, 5, 6, 7] rfl)
      · have hw := hw.2 c_12
        refine lv_iconst (v := 0) hx hb dL_law_1768 (by decide) ?_
        exact hw.elim
  · have hw := hw.2 c_9
    refine lv_iconst (v := 0) hx hb dL_law_1751 (by decide) ?_
    exact hw.elim
set_option maxHeartbeats 4000000 in
set_option maxRecDepth 100000 in
def wpL_C23 (xs : Nat → Int32) (L : Nat) (i0 : Int32) (w : St) (post : St → Prop) : Prop := (vp_in (i0 + 1) L) ∧ (wpL_ownerByLog (xs ((i0 + 1)).toNatClampNeg) w (fun r_3 w_2 => (vp_in (i0 + 1) L) ∧ (wpX5_ownerByLog (xs ((i0 + 1)).toNatClampNeg) w_2 (fun r_6 w_5 => wpX5_thrown w_5 (fun r_8 w_7 => (r_8 = r_3 → ((r_3 = 0 → ((vp_in 0 1) ∧ (((lg_cmp (w_7.2.2.1 (0 : Int32).toNatClampNeg) ((r_6).toInt64)) = 0 → (post w_7)) ∧ (¬ ((lg_cmp (w_7.2.2.1 (0 : Int32).toNatClampNeg) ((r_6).toInt64)) = 0) → False)))) ∧ (¬ (r_3 = 0) → (post w_7)))) ∧ (¬ (r_8 = r_3) → False))))))
set_option maxHeartbeats 4000000 in
set_option maxRecDepth 100000 in
theorem mL_C23 {p : Program} {l : Launch} {e : Env} {s : State} {m : MethodId} {below : List Frame} {meth : Method} {c : Code} {D : va_G} {ca : Nat → ClassId} {ad : Nat → Nat} {base b L : Nat} {xs : Nat → Int32} (C0 : LX p l s m c D ca ad base b L xs) {Q : State → Prop} {cells slots : Nat} (hcel : cells + 4 ≤ 603072) (hslo : slots + 24 ≤ 7215210) (i0 : Int32) (w : St) (post : St → Prop) (hw : wpL_C23 xs L i0 w post) (hK : ∀ (w : St), post w → ∀ (H : Heap) (locs : List Loc), PA D ca ad w H → va_S (AB base) s.heap H locs → ∀ ls : Array Slot, lv_has ls 10 [(0, .ref b), (1, .ref (ad 0)), (2, .ref (ad 33)), (3, .ref (ad 59)), (4, .ref (ad 60)), (5, .int i0)] → W p l e room_1 s m #[Value.ref b] below meth c H locs (cells + 4) (slots + 24) Q (F0 m 2692 ls [])) (H : Heap) (locs : List Loc) (hP : PA D ca ad w H) (hS : va_S (AB base) s.heap H locs) (ls : Array Slot) (hl : lv_has ls 10 [(0, .ref b), (1, .ref (ad 0)), (2, .ref (ad 33)), (3, .ref (ad 59)), (4, .ref (ad 60)), (5, .int i0)]) : W p l e room_1 s m #[Value.ref b] below meth c H locs cells slots Q (F0 m 1773 ls []) := by
  obtain ⟨hx, hb, hml, hown, hts, hK0, hXP, hAd, hbs, hX, hbl, hbA, hl9⟩ := C0
  refine lv_aload_n hx hb dL_law_1773 rfl (lv_at hl 1 rfl) ?_
  refine lv_aload_n hx hb dL_law_1774 rfl (lv_at hl 0 rfl) ?_
  refine lv_iload hx hb dL_law_1775 (lv_at hl 5 rfl) ?_
  refine lv_iconst (v := 1) hx hb dL_law_1777 (by decide) ?_
  refine lv_iadd hx hb dL_law_1778 ?_
  obtain ⟨h_1, hw⟩ := hw
  refine va_sld hx hb hX hbl hbA hS h_1 dL_law_1779 ?_
  refine lv_aload_n hx hb dL_law_1780 rfl (lv_at hl 3 rfl) ?_
  refine va_calli (vx_runSW (As := [.ref (ad 0), .int (xs ((i0 + 1)).toNatClampNeg), .ref (ad 59)]) (rest := []) ⟨hx, hb, hml, hown, hts⟩ (mL_ownerByLog l D ca ad base hAd w (xs ((i0 + 1)).toNatClampNeg) _ hw hl9) (vx_cwSW 3 hts gL_law_L_ownerByLog rfl rfl rfl (by decide +kernel) ⟨Nat.le_of_ble_eq_true rfl, Nat.le_of_ble_eq_true rfl⟩) (psx [.ref (ad 0), .int (xs ((i0 + 1)).toNatClampNeg), .ref (ad 59)] hK0 hXP hP hbs hS) rfl rfl hl.1 rfl (lv_room (Nat.le_of_ble_eq_true rfl)) dL_law_1781 ⟨by simp only [room_1]; omega, by simp only [room_1]; omega⟩) hS (fun q _ h => h) (fun q h => h) (fun r_3 w_2 t H locs ht hvm hw hP hz1 hk1 hS => ?_)
  have hP : PA D ca ad w_2 H := by rw [← ht]; exact hP
  refine lv_istore (lv' := [(6, .int r_3), (0, .ref b), (1, .ref (ad 0)), (2, .ref (ad 33)), (3, .ref (ad 59)), (4, .ref (ad 60)), (5, .int i0)]) hx hb dL_law_1784 hl (by decide) rfl (fun ls hl => ?_)
  refine lv_aload_n hx hb dL_law_1786 rfl (lv_at hl 3 rfl) ?_
  refine lv_aload_n hx hb dL_law_1787 rfl (lv_at hl 1 rfl) ?_
  refine lv_iload hx hb dL_law_1788 (lv_at hl 6 rfl) ?_
  refine lv_iconst (v := 1) hx hb dL_law_1790 (by decide) ?_
  refine lv_iadd hx hb dL_law_1791 ?_
  obtain ⟨h_4, hw⟩ := hw
  refine va_sld hx hb hX hbl hbA hS h_4 dL_law_1792 ?_
  refine va_calli (va_runV (As := [.int (xs ((i0 + 1)).toNatClampNeg)]) (rest := []) ⟨hx, hb, hml, hown, hts⟩ (mX5_ownerByLog l D ca ad base hAd w_2 (xs ((i0 + 1)).toNatClampNeg) _ hw) (cwV 1 hts gL_law_X5_ownerByLog rfl rfl rfl (by decide +kernel) ⟨Nat.le_of_ble_eq_true rfl, Nat.le_of_ble_eq_true rfl⟩) (pv [.int (xs ((i0 + 1)).toNatClampNeg)] hK0 hP hbs hS rfl (wg33 ca ad w_2)) rfl rfl hl.1 rfl (lv_room (Nat.le_of_ble_eq_true rfl)) dL_law_1793 ⟨by simp only [room_1]; omega, by simp only [room_1]; omega⟩) hS (fun q _ h => h) (fun q h => h) (fun r_6 w_5 t H locs ht hvm hw hP hz1 hk1 hS => ?_)
  have hP : PA D ca ad w_5 H := by rw [← ht]; exact hP
  refine lv_istore (lv' := [(7, .int r_6), (6, .int r_3), (0, .ref b), (1, .ref (ad 0)), (2, .ref (ad 33)), (3, .ref (ad 59)), (4, .ref (ad 60)), (5, .int i0)]) hx hb dL_law_1796 hl (by decide) rfl (fun ls hl => ?_)
  refine lv_aload_n hx hb dL_law_1798 rfl (lv_at hl 4 rfl) ?_
  refine va_calli (va_runV (As := []) (rest := []) ⟨hx, hb, hml, hown, hts⟩ (mX5_thrown l D ca ad base hAd w_5 _ hw) (cwV 0 hts gL_law_X5_thrown rfl rfl rfl (by decide +kernel) ⟨Nat.le_of_ble_eq_true rfl, Nat.le_of_ble_eq_true rfl⟩) (pv [] hK0 hP hbs hS rfl (wg33 ca ad w_5)) rfl rfl hl.1 rfl (lv_room (Nat.le_of_ble_eq_true rfl)) dL_law_1799 ⟨by simp only [room_1]; omega, by simp only [room_1]; omega⟩) hS (fun q _ h => h) (fun q h => h) (fun r_8 w_7 t H locs ht hvm hw hP hz1 hk1 hS => ?_)
  have hP : PA D ca ad w_7 H := by rw [← ht]; exact hP
  refine lv_iload hx hb dL_law_1802 (lv_at hl 1 rfl) ?_
  refine lv_icmp_eq (tgt := 1809) hx hb dL_law_1804 (by decide) (fun c_9 => ?_) (fun c_9 => ?_)
  · have hw := hw.1 c_9
    refine lv_iload hx hb dL_law_1809 (lv_at hl 1 rfl) ?_
    refine lv_if_ne (tgt := 1826) hx hb dL_law_1811 (by decide) (fun c_10 => ?_) (fun c_10 => ?_)
    · have hw := hw.2 c_10
      refine lv_goto (tgt := 2692) hx hb dL_law_1826 (by decide) ?_
      refine W.widen (k := cells + 4) (n := slots + 24) (by omega) (by omega) ?_
      exact hK w_7 hw _ _ hP hS ls (lv_sub hl [2, 3, 4, 5, 6, 7] rfl)
    · have hw := hw.1 c_10
      refine lv_aload_n hx hb dL_law_1814 rfl (lv_at hl 5 rfl) ?_
      refine lv_iconst (v := 0) hx hb dL_law_1815 (by decide) ?_
      obtain ⟨h_11, hw⟩ := hw
      refine va_lald hx hb hK0 hP 59 3 (wg59 ca ad w_7) rfl h_11 dL_law_1816 ?_
      refine lv_iload hx hb dL_law_1817 (lv_at hl 0 rfl) ?_
      refine lv_i2l (v := (r_6).toInt64) hx hb dL_law_1819 rfl ?_
      refine W.lcmp hx hb dL_law_1820 ?_
      refine lv_if_eq (tgt := 1826) hx hb dL_law_1821 (by decide) (fun c_12 => ?_) (fun c_12 => ?_)
      · have hw := hw.1 c_12
        refine lv_goto (tgt := 2692) hx hb dL_law_1826 (by decide) ?_
        refine W.widen (k := cells + 4) (n := slots + 24) (by omega) (by omega) ?_
        exact hK w_7 hw _ _ hP hS ls (lv_sub hl [2, 3, 4, 5, 6, 7] rfl)
      · have hw := hw.2 c_12
        refine lv_iconst (v := 0) hx hb dL_law_1824 (by decide) ?_
        exact hw.elim
  · have hw := hw.2 c_9
    refine lv_iconst (v := 0) hx hb dL_law_1807 (by decide) ?_
    exact hw.elim
set_option maxHeartbeats 4000000 in
set_option maxRecDepth 100000 in
def wpL_C24 (xs : Nat → Int32) (L : Nat) (i0 : Int32) (w : St) (post : St → Prop) : Prop := (vp_in (i0 + 1) L) ∧ (wpL_endOf (xs ((i0 + 1)).toNatClampNeg) w (fun r_3 w_2 => (vp_in (i0 + 1) L) ∧ (wpX5_endOf (xs ((i0 + 1)).toNatClampNeg) w_2 (fun r_6 w_5 => wpX5_thrown w_5 (fun r_8 w_7 => (r_8 = r_3 → ((r_3 = 0 → ((vp_in 0 1) ∧ (((lg_cmp (w_7.2.2.1 (0 : Int32).toNatClampNeg) ((r_6).toInt64)) = 0 → (post w_7)) ∧ (¬ ((lg_cmp (w_7.2.2.1 (0 : Int32).toNatClampNeg) ((r_6).toInt64)) = 0) → False)))) ∧ (¬ (r_3 = 0) → (post w_7)))) ∧ (¬ (r_8 = r_3) → False))))))
set_option maxHeartbeats 4000000 in
set_option maxRecDepth 100000 in
theorem mL_C24 {p : Program} {l : Launch} {e : Env} {s : State} {m : MethodId} {below : List Frame} {meth : Method} {c : Code} {D : va_G} {ca : Nat → ClassId} {ad : Nat → Nat} {base b L : Nat} {xs : Nat → Int32} (C0 : LX p l s m c D ca ad base b L xs) {Q : State → Prop} {cells slots : Nat} (hcel : cells + 4 ≤ 603072) (hslo : slots + 24 ≤ 7215210) (i0 : Int32) (w : St) (post : St → Prop) (hw : wpL_C24 xs L i0 w post) (hK : ∀ (w : St), post w → ∀ (H : Heap) (locs : List Loc), PA D ca ad w H → va_S (AB base) s.heap H locs → ∀ ls : Array Slot, lv_has ls 10 [(0, .ref b), (1, .ref (ad 0)), (2, .ref (ad 33)), (3, .ref (ad 59)), (4, .ref (ad 60)), (5, .int i0)] → W p l e room_1 s m #[Value.ref b] below meth c H locs (cells + 4) (slots + 24) Q (F0 m 2692 ls [])) (H : Heap) (locs : List Loc) (hP : PA D ca ad w H) (hS : va_S (AB base) s.heap H locs) (ls : Array Slot) (hl : lv_has ls 10 [(0, .ref b), (1, .ref (ad 0)), (2, .ref (ad 33)), (3, .ref (ad 59)), (4, .ref (ad 60)), (5, .int i0)]) : W p l e room_1 s m #[Value.ref b] below meth c H locs cells slots Q (F0 m 1829 ls []) := by
  obtain ⟨hx, hb, hml, hown, hts, hK0, hXP, hAd, hbs, hX, hbl, hbA, hl9⟩ := C0
  refine lv_aload_n hx hb dL_law_1829 rfl (lv_at hl 1 rfl) ?_
  refine lv_aload_n hx hb dL_law_1830 rfl (lv_at hl 0 rfl) ?_
  refine lv_iload hx hb dL_law_1831 (lv_at hl 5 rfl) ?_
  refine lv_iconst (v := 1) hx hb dL_law_1833 (by decide) ?_
  refine lv_iadd hx hb dL_law_1834 ?_
  obtain ⟨h_1, hw⟩ := hw
  refine va_sld hx hb hX hbl hbA hS h_1 dL_law_1835 ?_
  refine lv_aload_n hx hb dL_law_1836 rfl (lv_at hl 3 rfl) ?_
  refine va_calli (vx_runSW (As := [.ref (ad 0), .int (xs ((i0 + 1)).toNatClampNeg), .ref (ad 59)]) (rest := []) ⟨hx, hb, hml, hown, hts⟩ (mL_endOf l D ca ad base hAd w (xs ((i0 + 1)).toNatClampNeg) _ hw hl9) (vx_cwSW 3 hts gL_law_L_endOf rfl rfl rfl (by decide +kernel) ⟨Nat.le_of_ble_eq_true rfl, Nat.le_of_ble_eq_true rfl⟩) (psx [.ref (ad 0), .int (xs ((i0 + 1)).toNatClampNeg), .ref (ad 59)] hK0 hXP hP hbs hS) rfl rfl hl.1 rfl (lv_room (Nat.le_of_ble_eq_true rfl)) dL_law_1837 ⟨by simp only [room_1]; omega, by simp only [room_1]; omega⟩) hS (fun q _ h => h) (fun q h => h) (fun r_3 w_2 t H locs ht hvm hw hP hz1 hk1 hS => ?_)
  have hP : PA D ca ad w_2 H := by rw [← ht]; exact hP
  refine lv_istore (lv' := [(6, .int r_3), (0, .ref b), (1, .ref (ad 0)), (2, .ref (ad 33)), (3, .ref (ad 59)), (4, .ref (ad 60)), (5, .int i0)]) hx hb dL_law_1840 hl (by decide) rfl (fun ls hl => ?_)
  refine lv_aload_n hx hb dL_law_1842 rfl (lv_at hl 3 rfl) ?_
  refine lv_aload_n hx hb dL_law_1843 rfl (lv_at hl 1 rfl) ?_
  refine lv_iload hx hb dL_law_1844 (lv_at hl 6 rfl) ?_
  refine lv_iconst (v := 1) hx hb dL_law_1846 (by decide) ?_
  refine lv_iadd hx hb dL_law_1847 ?_
  obtain ⟨h_4, hw⟩ := hw
  refine va_sld hx hb hX hbl hbA hS h_4 dL_law_1848 ?_
  refine va_calli (va_runV (As := [.int (xs ((i0 + 1)).toNatClampNeg)]) (rest := []) ⟨hx, hb, hml, hown, hts⟩ (mX5_endOf l D ca ad base hAd w_2 (xs ((i0 + 1)).toNatClampNeg) _ hw) (cwV 1 hts gL_law_X5_endOf rfl rfl rfl (by decide +kernel) ⟨Nat.le_of_ble_eq_true rfl, Nat.le_of_ble_eq_true rfl⟩) (pv [.int (xs ((i0 + 1)).toNatClampNeg)] hK0 hP hbs hS rfl (wg33 ca ad w_2)) rfl rfl hl.1 rfl (lv_room (Nat.le_of_ble_eq_true rfl)) dL_law_1849 ⟨by simp only [room_1]; omega, by simp only [room_1]; omega⟩) hS (fun q _ h => h) (fun q h => h) (fun r_6 w_5 t H locs ht hvm hw hP hz1 hk1 hS => ?_)
  have hP : PA D ca ad w_5 H := by rw [← ht]; exact hP
  refine lv_istore (lv' := [(7, .int r_6), (6, .int r_3), (0, .ref b), (1, .ref (ad 0)), (2, .ref (ad 33)), (3, .ref (ad 59)), (4, .ref (ad 60)), (5, .int i0)]) hx hb dL_law_1852 hl (by decide) rfl (fun ls hl => ?_)
  refine lv_aload_n hx hb dL_law_1854 rfl (lv_at hl 4 rfl) ?_
  refine va_calli (va_runV (As := []) (rest := []) ⟨hx, hb, hml, hown, hts⟩ (mX5_thrown l D ca ad base hAd w_5 _ hw) (cwV 0 hts gL_law_X5_thrown rfl rfl rfl (by decide +kernel) ⟨Nat.le_of_ble_eq_true rfl, Nat.le_of_ble_eq_true rfl⟩) (pv [] hK0 hP hbs hS rfl (wg33 ca ad w_5)) rfl rfl hl.1 rfl (lv_room (Nat.le_of_ble_eq_true rfl)) dL_law_1855 ⟨by simp only [room_1]; omega, by simp only [room_1]; omega⟩) hS (fun q _ h => h) (fun q h => h) (fun r_8 w_7 t H locs ht hvm hw hP hz1 hk1 hS => ?_)
  have hP : PA D ca ad w_7 H := by rw [← ht]; exact hP
  refine lv_iload hx hb dL_law_1858 (lv_at hl 1 rfl) ?_
  refine lv_icmp_eq (tgt := 1865) hx hb dL_law_1860 (by decide) (fun c_9 => ?_) (fun c_9 => ?_)
  · have hw := hw.1 c_9
    refine lv_iload hx hb dL_law_1865 (lv_at hl 1 rfl) ?_
    refine lv_if_ne (tgt := 1882) hx hb dL_law_1867 (by decide) (fun c_10 => ?_) (fun c_10 => ?_)
    · have hw := hw.2 c_10
      refine lv_goto (tgt := 2692) hx hb dL_law_1882 (by decide) ?_
      refine W.widen (k := cells + 4) (n := slots + 24) (by omega) (by omega) ?_
      exact hK w_7 hw _ _ hP hS ls (lv_sub hl [2, 3, 4, 5, 6, 7] rfl)
    · have hw := hw.1 c_10
      refine lv_aload_n hx hb dL_law_1870 rfl (lv_at hl 5 rfl) ?_
      refine lv_iconst (v := 0) hx hb dL_law_1871 (by decide) ?_
      obtain ⟨h_11, hw⟩ := hw
      refine va_lald hx hb hK0 hP 59 3 (wg59 ca ad w_7) rfl h_11 dL_law_1872 ?_
      refine lv_iload hx hb dL_law_1873 (lv_at hl 0 rfl) ?_
      refine lv_i2l (v := (r_6).toInt64) hx hb dL_law_1875 rfl ?_
      refine W.lcmp hx hb dL_law_1876 ?_
      refine lv_if_eq (tgt := 1882) hx hb dL_law_1877 (by decide) (fun c_12 => ?_) (fun c_12 => ?_)
      · have hw := hw.1 c_12
        refine lv_goto (tgt := 2692) hx hb dL_law_1882 (by decide) ?_
        refine W.widen (k := cells + 4) (n := slots + 24) (by omega) (by omega) ?_
        exact hK w_7 hw _ _ hP hS ls (lv_sub hl [2, 3, 4, 5, 6, 7] rfl)
      · have hw := hw.2 c_12
        refine lv_iconst (v := 0) hx hb dL_law_1880 (by decide) ?_
        exact hw.elim
  · have hw := hw.2 c_9
    refine lv_iconst (v := 0) hx hb dL_law_1863 (by decide) ?_
    exact hw.elim
set_option maxHeartbeats 4000000 in
set_option maxRecDepth 100000 in
def wpL_C25 (xs : Nat → Int32) (L : Nat) (i0 : Int32) (w : St) (post : St → Prop) : Prop := (vp_in (i0 + 1) L) ∧ (wpL_thief (xs ((i0 + 1)).toNatClampNeg) w (fun r_3 w_2 => (vp_in (i0 + 1) L) ∧ (wpX5_thief (xs ((i0 + 1)).toNatClampNeg) w_2 (fun r_6 w_5 => wpX5_thrown w_5 (fun r_8 w_7 => (r_8 = r_3 → ((r_3 = 0 → ((vp_in 0 1) ∧ (((lg_cmp (w_7.2.2.1 (0 : Int32).toNatClampNeg) ((r_6).toInt64)) = 0 → (post w_7)) ∧ (¬ ((lg_cmp (w_7.2.2.1 (0 : Int32).toNatClampNeg) ((r_6).toInt64)) = 0) → False)))) ∧ (¬ (r_3 = 0) → (post w_7)))) ∧ (¬ (r_8 = r_3) → False))))))
set_option maxHeartbeats 4000000 in
set_option maxRecDepth 100000 in
theorem mL_C25 {p : Program} {l : Launch} {e : Env} {s : State} {m : MethodId} {below : List Frame} {meth : Method} {c : Code} {D : va_G} {ca : Nat → ClassId} {ad : Nat → Nat} {base b L : Nat} {xs : Nat → Int32} (C0 : LX p l s m c D ca ad base b L xs) {Q : State → Prop} {cells slots : Nat} (hcel : cells + 4 ≤ 603072) (hslo : slots + 24 ≤ 7215210) (i0 : Int32) (w : St) (post : St → Prop) (hw : wpL_C25 xs L i0 w post) (hK : ∀ (w : St), post w → ∀ (H : Heap) (locs : List Loc), PA D ca ad w H → va_S (AB base) s.heap H locs → ∀ ls : Array Slot, lv_has ls 10 [(0, .ref b), (1, .ref (ad 0)), (2, .ref (ad 33)), (3, .ref (ad 59)), (4, .ref (ad 60)), (5, .int i0)] → W p l e room_1 s m #[Value.ref b] below meth c H locs (cells + 4) (slots + 24) Q (F0 m 2692 ls [])) (H : Heap) (locs : List Loc) (hP : PA D ca ad w H) (hS : va_S (AB base) s.heap H locs) (ls : Array Slot) (hl : lv_has ls 10 [(0, .ref b), (1, .ref (ad 0)), (2, .ref (ad 33)), (3, .ref (ad 59)), (4, .ref (ad 60)), (5, .int i0)]) : W p l e room_1 s m #[Value.ref b] below meth c H locs cells slots Q (F0 m 1885 ls []) := by
  obtain ⟨hx, hb, hml, hown, hts, hK0, hXP, hAd, hbs, hX, hbl, hbA, hl9⟩ := C0
  refine lv_aload_n hx hb dL_law_1885 rfl (lv_at hl 1 rfl) ?_
  refine lv_aload_n hx hb dL_law_1886 rfl (lv_at hl 0 rfl) ?_
  refine lv_iload hx hb dL_law_1887 (lv_at hl 5 rfl) ?_
  refine lv_iconst (v := 1) hx hb dL_law_1889 (by decide) ?_
  refine lv_iadd hx hb dL_law_1890 ?_
  obtain ⟨h_1, hw⟩ := hw
  refine va_sld hx hb hX hbl hbA hS h_1 dL_law_1891 ?_
  refine lv_aload_n hx hb dL_law_1892 rfl (lv_at hl 3 rfl) ?_
  refine va_calli (vx_runSW (As := [.ref (ad 0), .int (xs ((i0 + 1)).toNatClampNeg), .ref (ad 59)]) (rest := []) ⟨hx, hb, hml, hown, hts⟩ (mL_thief l D ca ad base hAd w (xs ((i0 + 1)).toNatClampNeg) _ hw hl9) (vx_cwSW 3 hts gL_law_L_thief rfl rfl rfl (by decide +kernel) ⟨Nat.le_of_ble_eq_true rfl, Nat.le_of_ble_eq_true rfl⟩) (psx [.ref (ad 0), .int (xs ((i0 + 1)).toNatClampNeg), .ref (ad 59)] hK0 hXP hP hbs hS) rfl rfl hl.1 rfl (lv_room (Nat.le_of_ble_eq_true rfl)) dL_law_1893 ⟨by simp only [room_1]; omega, by simp only [room_1]; omega⟩) hS (fun q _ h => h) (fun q h => h) (fun r_3 w_2 t H locs ht hvm hw hP hz1 hk1 hS => ?_)
  have hP : PA D ca ad w_2 H := by rw [← ht]; exact hP
  refine lv_istore (lv' := [(6, .int r_3), (0, .ref b), (1, .ref (ad 0)), (2, .ref (ad 33)), (3, .ref (ad 59)), (4, .ref (ad 60)), (5, .int i0)]) hx hb dL_law_1896 hl (by decide) rfl (fun ls hl => ?_)
  refine lv_aload_n hx hb dL_law_1898 rfl (lv_at hl 3 rfl) ?_
  refine lv_aload_n hx hb dL_law_1899 rfl (lv_at hl 1 rfl) ?_
  refine lv_iload hx hb dL_law_1900 (lv_at hl 6 rfl) ?_
  refine lv_iconst (v := 1) hx hb dL_law_1902 (by decide) ?_
  refine lv_iadd hx hb dL_law_1903 ?_
  obtain ⟨h_4, hw⟩ := hw
  refine va_sld hx hb hX hbl hbA hS h_4 dL_law_1904 ?_
  refine va_calli (va_runV (As := [.int (xs ((i0 + 1)).toNatClampNeg)]) (rest := []) ⟨hx, hb, hml, hown, hts⟩ (mX5_thief l D ca ad base hAd w_2 (xs ((i0 + 1)).toNatClampNeg) _ hw) (cwV 1 hts gL_law_X5_thief rfl rfl rfl (by decide +kernel) ⟨Nat.le_of_ble_eq_true rfl, Nat.le_of_ble_eq_true rfl⟩) (pv [.int (xs ((i0 + 1)).toNatClampNeg)] hK0 hP hbs hS rfl (wg33 ca ad w_2)) rfl rfl hl.1 rfl (lv_room (Nat.le_of_ble_eq_true rfl)) dL_law_1905 ⟨by simp only [room_1]; omega, by simp only [room_1]; omega⟩) hS (fun q _ h => h) (fun q h => h) (fun r_6 w_5 t H locs ht hvm hw hP hz1 hk1 hS => ?_)
  have hP : PA D ca ad w_5 H := by rw [← ht]; exact hP
  refine lv_istore (lv' := [(7, .int r_6), (6, .int r_3), (0, .ref b), (1, .ref (ad 0)), (2, .ref (ad 33)), (3, .ref (ad 59)), (4, .ref (ad 60)), (5, .int i0)]) hx hb dL_law_1908 hl (by decide) rfl (fun ls hl => ?_)
  refine lv_aload_n hx hb dL_law_1910 rfl (lv_at hl 4 rfl) ?_
  refine va_calli (va_runV (As := []) (rest := []) ⟨hx, hb, hml, hown, hts⟩ (mX5_thrown l D ca ad base hAd w_5 _ hw) (cwV 0 hts gL_law_X5_thrown rfl rfl rfl (by decide +kernel) ⟨Nat.le_of_ble_eq_true rfl, Nat.le_of_ble_eq_true rfl⟩) (pv [] hK0 hP hbs hS rfl (wg33 ca ad w_5)) rfl rfl hl.1 rfl (lv_room (Nat.le_of_ble_eq_true rfl)) dL_law_1911 ⟨by simp only [room_1]; omega, by simp only [room_1]; omega⟩) hS (fun q _ h => h) (fun q h => h) (fun r_8 w_7 t H locs ht hvm hw hP hz1 hk1 hS => ?_)
  have hP : PA D ca ad w_7 H := by rw [← ht]; exact hP
  refine lv_iload hx hb dL_law_1914 (lv_at hl 1 rfl) ?_
  refine lv_icmp_eq (tgt := 1921) hx hb dL_law_1916 (by decide) (fun c_9 => ?_) (fun c_9 => ?_)
  · have hw := hw.1 c_9
    refine lv_iload hx hb dL_law_1921 (lv_at hl 1 rfl) ?_
    refine lv_if_ne (tgt := 1938) hx hb dL_law_1923 (by decide) (fun c_10 => ?_) (fun c_10 => ?_)
    · have hw := hw.2 c_10
      refine lv_goto (tgt := 2692) hx hb dL_law_1938 (by decide) ?_
      refine W.widen (k := cells + 4) (n := slots + 24) (by omega) (by omega) ?_
      exact hK w_7 hw _ _ hP hS ls (lv_sub hl [2, 3, 4, 5, 6, 7] rfl)
    · have hw := hw.1 c_10
      refine lv_aload_n hx hb dL_law_1926 rfl (lv_at hl 5 rfl) ?_
      refine lv_iconst (v := 0) hx hb dL_law_1927 (by decide) ?_
      obtain ⟨h_11, hw⟩ := hw
      refine va_lald hx hb hK0 hP 59 3 (wg59 ca ad w_7) rfl h_11 dL_law_1928 ?_
      refine lv_iload hx hb dL_law_1929 (lv_at hl 0 rfl) ?_
      refine lv_i2l (v := (r_6).toInt64) hx hb dL_law_1931 rfl ?_
      refine W.lcmp hx hb dL_law_1932 ?_
      refine lv_if_eq (tgt := 1938) hx hb dL_law_1933 (by decide) (fun c_12 => ?_) (fun c_12 => ?_)
      · have hw := hw.1 c_12
        refine lv_goto (tgt := 2692) hx hb dL_law_1938 (by decide) ?_
        refine W.widen (k := cells + 4) (n := slots + 24) (by omega) (by omega) ?_
        exact hK w_7 hw _ _ hP hS ls (lv_sub hl [2, 3, 4, 5, 6, 7] rfl)
      · have hw := hw.2 c_12
        refine lv_iconst (v := 0) hx hb dL_law_1936 (by decide) ?_
        exact hw.elim
  · have hw := hw.2 c_9
    refine lv_iconst (v := 0) hx hb dL_law_1919 (by decide) ?_
    exact hw.elim
set_option maxHeartbeats 4000000 in
set_option maxRecDepth 100000 in
def wpL_C26 (xs : Nat → Int32) (L : Nat) (i0 : Int32) (w : St) (post : St → Prop) : Prop := (vp_in (i0 + 1) L) ∧ (wpL_waiting (xs ((i0 + 1)).toNatClampNeg) w (fun r_3 w_2 => (vp_in (i0 + 1) L) ∧ (wpX5_waiting (xs ((i0 + 1)).toNatClampNeg) w_2 (fun r_6 w_5 => wpX5_thrown w_5 (fun r_8 w_7 => (r_8 = r_3 → ((r_3 = 0 → ((vp_in 0 1) ∧ (((lg_cmp (w_7.2.2.1 (0 : Int32).toNatClampNeg) ((r_6).toInt64)) = 0 → (post w_7)) ∧ (¬ ((lg_cmp (w_7.2.2.1 (0 : Int32).toNatClampNeg) ((r_6).toInt64)) = 0) → False)))) ∧ (¬ (r_3 = 0) → (post w_7)))) ∧ (¬ (r_8 = r_3) → False))))))
set_option maxHeartbeats 4000000 in
set_option maxRecDepth 100000 in
theorem mL_C26 {p : Program} {l : Launch} {e : Env} {s : State} {m : MethodId} {below : List Frame} {meth : Method} {c : Code} {D : va_G} {ca : Nat → ClassId} {ad : Nat → Nat} {base b L : Nat} {xs : Nat → Int32} (C0 : LX p l s m c D ca ad base b L xs) {Q : State → Prop} {cells slots : Nat} (hcel : cells + 4 ≤ 603072) (hslo : slots + 24 ≤ 7215210) (i0 : Int32) (w : St) (post : St → Prop) (hw : wpL_C26 xs L i0 w post) (hK : ∀ (w : St), post w → ∀ (H : Heap) (locs : List Loc), PA D ca ad w H → va_S (AB base) s.heap H locs → ∀ ls : Array Slot, lv_has ls 10 [(0, .ref b), (1, .ref (ad 0)), (2, .ref (ad 33)), (3, .ref (ad 59)), (4, .ref (ad 60)), (5, .int i0)] → W p l e room_1 s m #[Value.ref b] below meth c H locs (cells + 4) (slots + 24) Q (F0 m 2692 ls [])) (H : Heap) (locs : List Loc) (hP : PA D ca ad w H) (hS : va_S (AB base) s.heap H locs) (ls : Array Slot) (hl : lv_has ls 10 [(0, .ref b), (1, .ref (ad 0)), (2, .ref (ad 33)), (3, .ref (ad 59)), (4, .ref (ad 60)), (5, .int i0)]) : W p l e room_1 s m #[Value.ref b] below meth c H locs cells slots Q (F0 m 1941 ls []) := by
  obtain ⟨hx, hb, hml, hown, hts, hK0, hXP, hAd, hbs, hX, hbl, hbA, hl9⟩ := C0
  refine lv_aload_n hx hb dL_law_1941 rfl (lv_at hl 1 rfl) ?_
  refine lv_aload_n hx hb dL_law_1942 rfl (lv_at hl 0 rfl) ?_
  refine lv_iload hx hb dL_law_1943 (lv_at hl 5 rfl) ?_
  refine lv_iconst (v := 1) hx hb dL_law_1945 (by decide) ?_
  refine lv_iadd hx hb dL_law_1946 ?_
  obtain ⟨h_1, hw⟩ := hw
  refine va_sld hx hb hX hbl hbA hS h_1 dL_law_1947 ?_
  refine lv_aload_n hx hb dL_law_1948 rfl (lv_at hl 3 rfl) ?_
  refine va_calli (vx_runSW (As := [.ref (ad 0), .int (xs ((i0 + 1)).toNatClampNeg), .ref (ad 59)]) (rest := []) ⟨hx, hb, hml, hown, hts⟩ (mL_waiting l D ca ad base hAd w (xs ((i0 + 1)).toNatClampNeg) _ hw hl9) (vx_cwSW 3 hts gL_law_L_waiting rfl rfl rfl (by decide +kernel) ⟨Nat.le_of_ble_eq_true rfl, Nat.le_of_ble_eq_true rfl⟩) (psx [.ref (ad 0), .int (xs ((i0 + 1)).toNatClampNeg), .ref (ad 59)] hK0 hXP hP hbs hS) rfl rfl hl.1 rfl (lv_room (Nat.le_of_ble_eq_true rfl)) dL_law_1949 ⟨by simp only [room_1]; omega, by simp only [room_1]; omega⟩) hS (fun q _ h => h) (fun q h => h) (fun r_3 w_2 t H locs ht hvm hw hP hz1 hk1 hS => ?_)
  have hP : PA D ca ad w_2 H := by rw [← ht]; exact hP
  refine lv_istore (lv' := [(6, .int r_3), (0, .ref b), (1, .ref (ad 0)), (2, .ref (ad 33)), (3, .ref (ad 59)), (4, .ref (ad 60)), (5, .int i0)]) hx hb dL_law_1952 hl (by decide) rfl (fun ls hl => ?_)
  refine lv_aload_n hx hb dL_law_1954 rfl (lv_at hl 3 rfl) ?_
  refine lv_aload_n hx hb dL_law_1955 rfl (lv_at hl 1 rfl) ?_
  refine lv_iload hx hb dL_law_1956 (lv_at hl 6 rfl) ?_
  refine lv_iconst (v := 1) hx hb dL_law_1958 (by decide) ?_
  refine lv_iadd hx hb dL_law_1959 ?_
  obtain ⟨h_4, hw⟩ := hw
  refine va_sld hx hb hX hbl hbA hS h_4 dL_law_1960 ?_
  refine va_calli (va_runV (As := [.int (xs ((i0 + 1)).toNatClampNeg)]) (rest := []) ⟨hx, hb, hml, hown, hts⟩ (mX5_waiting l D ca ad base hAd w_2 (xs ((i0 + 1)).toNatClampNeg) _ hw) (cwV 1 hts gL_law_X5_waiting rfl rfl rfl (by decide +kernel) ⟨Nat.le_of_ble_eq_true rfl, Nat.le_of_ble_eq_true rfl⟩) (pv [.int (xs ((i0 + 1)).toNatClampNeg)] hK0 hP hbs hS rfl (wg33 ca ad w_2)) rfl rfl hl.1 rfl (lv_room (Nat.le_of_ble_eq_true rfl)) dL_law_1961 ⟨by simp only [room_1]; omega, by simp only [room_1]; omega⟩) hS (fun q _ h => h) (fun q h => h) (fun r_6 w_5 t H locs ht hvm hw hP hz1 hk1 hS => ?_)
  have hP : PA D ca ad w_5 H := by rw [← ht]; exact hP
  refine lv_istore (lv' := [(7, .int r_6), (6, .int r_3), (0, .ref b), (1, .ref (ad 0)), (2, .ref (ad 33)), (3, .ref (ad 59)), (4, .ref (ad 60)), (5, .int i0)]) hx hb dL_law_1964 hl (by decide) rfl (fun ls hl => ?_)
  refine lv_aload_n hx hb dL_law_1966 rfl (lv_at hl 4 rfl) ?_
  refine va_calli (va_runV (As := []) (rest := []) ⟨hx, hb, hml, hown, hts⟩ (mX5_thrown l D ca ad base hAd w_5 _ hw) (cwV 0 hts gL_law_X5_thrown rfl rfl rfl (by decide +kernel) ⟨Nat.le_of_ble_eq_true rfl, Nat.le_of_ble_eq_true rfl⟩) (pv [] hK0 hP hbs hS rfl (wg33 ca ad w_5)) rfl rfl hl.1 rfl (lv_room (Nat.le_of_ble_eq_true rfl)) dL_law_1967 ⟨by simp only [room_1]; omega, by simp only [room_1]; omega⟩) hS (fun q _ h => h) (fun q h => h) (fun r_8 w_7 t H locs ht hvm hw hP hz1 hk1 hS => ?_)
  have hP : PA D ca ad w_7 H := by rw [← ht]; exact hP
  refine lv_iload hx hb dL_law_1970 (lv_at hl 1 rfl) ?_
  refine lv_icmp_eq (tgt := 1977) hx hb dL_law_1972 (by decide) (fun c_9 => ?_) (fun c_9 => ?_)
  · have hw := hw.1 c_9
    refine lv_iload hx hb dL_law_1977 (lv_at hl 1 rfl) ?_
    refine lv_if_ne (tgt := 1994) hx hb dL_law_1979 (by decide) (fun c_10 => ?_) (fun c_10 => ?_)
    · have hw := hw.2 c_10
      refine lv_goto (tgt := 2692) hx hb dL_law_1994 (by decide) ?_
      refine W.widen (k := cells + 4) (n := slots + 24) (by omega) (by omega) ?_
      exact hK w_7 hw _ _ hP hS ls (lv_sub hl [2, 3, 4, 5, 6, 7] rfl)
    · have hw := hw.1 c_10
      refine lv_aload_n hx hb dL_law_1982 rfl (lv_at hl 5 rfl) ?_
      refine lv_iconst (v := 0) hx hb dL_law_1983 (by decide) ?_
      obtain ⟨h_11, hw⟩ := hw
      refine va_lald hx hb hK0 hP 59 3 (wg59 ca ad w_7) rfl h_11 dL_law_1984 ?_
      refine lv_iload hx hb dL_law_1985 (lv_at hl 0 rfl) ?_
      refine lv_i2l (v := (r_6).toInt64) hx hb dL_law_1987 rfl ?_
      refine W.lcmp hx hb dL_law_1988 ?_
      refine lv_if_eq (tgt := 1994) hx hb dL_law_1989 (by decide) (fun c_12 => ?_) (fun c_12 => ?_)
      · have hw := hw.1 c_12
        refine lv_goto (tgt := 2692) hx hb dL_law_1994 (by decide) ?_
        refine W.widen (k := cells + 4) (n := slots + 24) (by omega) (by omega) ?_
        exact hK w_7 hw _ _ hP hS ls (lv_sub hl [2, 3, 4, 5, 6, 7] rfl)
      · have hw := hw.2 c_12
        refine lv_iconst (v := 0) hx hb dL_law_1992 (by decide) ?_
        exact hw.elim
  · have hw := hw.2 c_9
    refine lv_iconst (v := 0) hx hb dL_law_1975 (by decide) ?_
    exact hw.elim
set_option maxHeartbeats 4000000 in
set_option maxRecDepth 100000 in
def wpL_C27 (xs : Nat → Int32) (L : Nat) (i0 : Int32) (w : St) (post : St → Prop) : Prop := (vp_in (i0 + 1) L) ∧ ((vp_in (i0 + 2) L) ∧ (wpL_waitingAt (xs ((i0 + 1)).toNatClampNeg) (xs ((i0 + 2)).toNatClampNeg) w (fun r_4 w_3 => (vp_in (i0 + 1) L) ∧ ((vp_in (i0 + 2) L) ∧ (wpX5_waitingAt (xs ((i0 + 1)).toNatClampNeg) (xs ((i0 + 2)).toNatClampNeg) w_3 (fun r_8 w_7 => wpX5_thrown w_7 (fun r_10 w_9 => (r_10 = r_4 → ((r_4 = 0 → ((vp_in 0 1) ∧ (((lg_cmp (w_9.2.2.1 (0 : Int32).toNatClampNeg) ((r_8).toInt64)) = 0 → (post w_9)) ∧ (¬ ((lg_cmp (w_9.2.2.1 (0 : Int32).toNatClampNeg) ((r_8).toInt64)) = 0) → False)))) ∧ (¬ (r_4 = 0) → (post w_9)))) ∧ (¬ (r_10 = r_4) → False))))))))
set_option maxHeartbeats 4000000 in
set_option maxRecDepth 100000 in
theorem mL_C27 {p : Program} {l : Launch} {e : Env} {s : State} {m : MethodId} {below : List Frame} {meth : Method} {c : Code} {D : va_G} {ca : Nat → ClassId} {ad : Nat → Nat} {base b L : Nat} {xs : Nat → Int32} (C0 : LX p l s m c D ca ad base b L xs) {Q : State → Prop} {cells slots : Nat} (hcel : cells + 4 ≤ 603072) (hslo : slots + 24 ≤ 7215210) (i0 : Int32) (w : St) (post : St → Prop) (hw : wpL_C27 xs L i0 w post) (hK : ∀ (w : St), post w → ∀ (H : Heap) (locs : List Loc), PA D ca ad w H → va_S (AB base) s.heap H locs → ∀ ls : Array Slot, lv_has ls 10 [(0, .ref b), (1, .ref (ad 0)), (2, .ref (ad 33)), (3, .ref (ad 59)), (4, .ref (ad 60)), (5, .int i0)] → W p l e room_1 s m #[Value.ref b] below meth c H locs (cells + 4) (slots + 24) Q (F0 m 2692 ls [])) (H : Heap) (locs : List Loc) (hP : PA D ca ad w H) (hS : va_S (AB base) s.heap H locs) (ls : Array Slot) (hl : lv_has ls 10 [(0, .ref b), (1, .ref (ad 0)), (2, .ref (ad 33)), (3, .ref (ad 59)), (4, .ref (ad 60)), (5, .int i0)]) : W p l e room_1 s m #[Value.ref b] below meth c H locs cells slots Q (F0 m 1997 ls []) := by
  obtain ⟨hx, hb, hml, hown, hts, hK0, hXP, hAd, hbs, hX, hbl, hbA, hl9⟩ := C0
  refine lv_aload_n hx hb dL_law_1997 rfl (lv_at hl 1 rfl) ?_
  refine lv_aload_n hx hb dL_law_1998 rfl (lv_at hl 0 rfl) ?_
  refine lv_iload hx hb dL_law_1999 (lv_at hl 5 rfl) ?_
  refine lv_iconst (v := 1) hx hb dL_law_2001 (by decide) ?_
  refine lv_iadd hx hb dL_law_2002 ?_
  obtain ⟨h_1, hw⟩ := hw
  refine va_sld hx hb hX hbl hbA hS h_1 dL_law_2003 ?_
  refine lv_aload_n hx hb dL_law_2004 rfl (lv_at hl 0 rfl) ?_
  refine lv_iload hx hb dL_law_2005 (lv_at hl 5 rfl) ?_
  refine lv_iconst (v := 2) hx hb dL_law_2007 (by decide) ?_
  refine lv_iadd hx hb dL_law_2008 ?_
  obtain ⟨h_2, hw⟩ := hw
  refine va_sld hx hb hX hbl hbA hS h_2 dL_law_2009 ?_
  refine lv_aload_n hx hb dL_law_2010 rfl (lv_at hl 3 rfl) ?_
  refine va_calli (vx_runSW (As := [.ref (ad 0), .int (xs ((i0 + 1)).toNatClampNeg), .int (xs ((i0 + 2)).toNatClampNeg), .ref (ad 59)]) (rest := []) ⟨hx, hb, hml, hown, hts⟩ (mL_waitingAt l D ca ad base hAd w (xs ((i0 + 1)).toNatClampNeg) (xs ((i0 + 2)).toNatClampNeg) _ hw hl9) (vx_cwSW 4 hts gL_law_L_waitingAt rfl rfl rfl (by decide +kernel) ⟨Nat.le_of_ble_eq_true rfl, Nat.le_of_ble_eq_true rfl⟩) (psx [.ref (ad 0), .int (xs ((i0 + 1)).toNatClampNeg), .int (xs ((i0 + 2)).toNatClampNeg), .ref (ad 59)] hK0 hXP hP hbs hS) rfl rfl hl.1 rfl (lv_room (Nat.le_of_ble_eq_true rfl)) dL_law_2011 ⟨by simp only [room_1]; omega, by simp only [room_1]; omega⟩) hS (fun q _ h => h) (fun q h => h) (fun r_4 w_3 t H locs ht hvm hw hP hz1 hk1 hS => ?_)
  have hP : PA D ca ad w_3 H := by rw [← ht]; exact hP
  refine lv_istore (lv' := [(6, .int r_4), (0, .ref b), (1, .ref (ad 0)), (2, .ref (ad 33)), (3, .ref (ad 59)), (4, .ref (ad 60)), (5, .int i0)]) hx hb dL_law_2014 hl (by decide) rfl (fun ls hl => ?_)
  refine lv_aload_n hx hb dL_law_2016 rfl (lv_at hl 3 rfl) ?_
  refine lv_aload_n hx hb dL_law_2017 rfl (lv_at hl 1 rfl) ?_
  refine lv_iload hx hb dL_law_2018 (lv_at hl 6 rfl) ?_
  refine lv_iconst (v := 1) hx hb dL_law_2020 (by decide) ?_
  refine lv_iadd hx hb dL_law_2021 ?_
  obtain ⟨h_5, hw⟩ := hw
  refine va_sld hx hb hX hbl hbA hS h_5 dL_law_2022 ?_
  refine lv_aload_n hx hb dL_law_2023 rfl (lv_at hl 1 rfl) ?_
  refine lv_iload hx hb dL_law_2024 (lv_at hl 6 rfl) ?_
  refine lv_iconst (v := 2) hx hb dL_law_2026 (by decide) ?_
  refine lv_iadd hx hb dL_law_2027 ?_
  obtain ⟨h_6, hw⟩ := hw
  refine va_sld hx hb hX hbl hbA hS h_6 dL_law_2028 ?_
  refine va_calli (va_runV (As := [.int (xs ((i0 + 1)).toNatClampNeg), .int (xs ((i0 + 2)).toNatClampNeg)]) (rest := []) ⟨hx, hb, hml, hown, hts⟩ (mX5_waitingAt l D ca ad base hAd w_3 (xs ((i0 + 1)).toNatClampNeg) (xs ((i0 + 2)).toNatClampNeg) _ hw) (cwV 2 hts gL_law_X5_waitingAt rfl rfl rfl (by decide +kernel) ⟨Nat.le_of_ble_eq_true rfl, Nat.le_of_ble_eq_true rfl⟩) (pv [.int (xs ((i0 + 1)).toNatClampNeg), .int (xs ((i0 + 2)).toNatClampNeg)] hK0 hP hbs hS rfl (wg33 ca ad w_3)) rfl rfl hl.1 rfl (lv_room (Nat.le_of_ble_eq_true rfl)) dL_law_2029 ⟨by simp only [room_1]; omega, by simp only [room_1]; omega⟩) hS (fun q _ h => h) (fun q h => h) (fun r_8 w_7 t H locs ht hvm hw hP hz1 hk1 hS => ?_)
  have hP : PA D ca ad w_7 H := by rw [← ht]; exact hP
  refine lv_istore (lv' := [(7, .int r_8), (6, .int r_4), (0, .ref b), (1, .ref (ad 0)), (2, .ref (ad 33)), (3, .ref (ad 59)), (4, .ref (ad 60)), (5, .int i0)]) hx hb dL_law_2032 hl (by decide) rfl (fun ls hl => ?_)
  refine lv_aload_n hx hb dL_law_2034 rfl (lv_at hl 4 rfl) ?_
  refine va_calli (va_runV (As := []) (rest := []) ⟨hx, hb, hml, hown, hts⟩ (mX5_thrown l D ca ad base hAd w_7 _ hw) (cwV 0 hts gL_law_X5_thrown rfl rfl rfl (by decide +kernel) ⟨Nat.le_of_ble_eq_true rfl, Nat.le_of_ble_eq_true rfl⟩) (pv [] hK0 hP hbs hS rfl (wg33 ca ad w_7)) rfl rfl hl.1 rfl (lv_room (Nat.le_of_ble_eq_true rfl)) dL_law_2035 ⟨by simp only [room_1]; omega, by simp only [room_1]; omega⟩) hS (fun q _ h => h) (fun q h => h) (fun r_10 w_9 t H locs ht hvm hw hP hz1 hk1 hS => ?_)
  have hP : PA D ca ad w_9 H := by rw [← ht]; exact hP
  refine lv_iload hx hb dL_law_2038 (lv_at hl 1 rfl) ?_
  refine lv_icmp_eq (tgt := 2045) hx hb dL_law_2040 (by decide) (fun c_11 => ?_) (fun c_11 => ?_)
  · have hw := hw.1 c_11
    refine lv_iload hx hb dL_law_2045 (lv_at hl 1 rfl) ?_
    refine lv_if_ne (tgt := 2062) hx hb dL_law_2047 (by decide) (fun c_12 => ?_) (fun c_12 => ?_)
    · have hw := hw.2 c_12
      refine lv_goto (tgt := 2692) hx hb dL_law_2062 (by decide) ?_
      refine W.widen (k := cells + 4) (n := slots + 24) (by omega) (by omega) ?_
      exact hK w_9 hw _ _ hP hS ls (lv_sub hl [2, 3, 4, 5, 6, 7] rfl)
    · have hw := hw.1 c_12
      refine lv_aload_n hx hb dL_law_2050 rfl (lv_at hl 5 rfl) ?_
      refine lv_iconst (v := 0) hx hb dL_law_2051 (by decide) ?_
      obtain ⟨h_13, hw⟩ := hw
      refine va_lald hx hb hK0 hP 59 3 (wg59 ca ad w_9) rfl h_13 dL_law_2052 ?_
      refine lv_iload hx hb dL_law_2053 (lv_at hl 0 rfl) ?_
      refine lv_i2l (v := (r_8).toInt64) hx hb dL_law_2055 rfl ?_
      refine W.lcmp hx hb dL_law_2056 ?_
      refine lv_if_eq (tgt := 2062) hx hb dL_law_2057 (by decide) (fun c_14 => ?_) (fun c_14 => ?_)
      · have hw := hw.1 c_14
        refine lv_goto (tgt := 2692) hx hb dL_law_2062 (by decide) ?_
        refine W.widen (k := cells + 4) (n := slots + 24) (by omega) (by omega) ?_
        exact hK w_9 hw _ _ hP hS ls (lv_sub hl [2, 3, 4, 5, 6, 7] rfl)
      · have hw := hw.2 c_14
        refine lv_iconst (v := 0) hx hb dL_law_2060 (by decide) ?_
        exact hw.elim
  · have hw := hw.2 c_11
    refine lv_iconst (v := 0) hx hb dL_law_2043 (by decide) ?_
    exact hw.elim
set_option maxHeartbeats 4000000 in
set_option maxRecDepth 100000 in
def wpL_C28_B2131 (xs : Nat → Int32) (L : Nat) (i0 : Int32) (post : St → Prop) (s0 : Int64) (s1 : Int64) (w : St) : Prop := ((lg_cmp s1 s0) = 0 → (post w)) ∧ (¬ ((lg_cmp s1 s0) = 0) → False)
set_option maxHeartbeats 4000000 in
set_option maxRecDepth 100000 in
def wpL_C28 (xs : Nat → Int32) (L : Nat) (i0 : Int32) (w : St) (post : St → Prop) : Prop := (vp_in (i0 + 1) L) ∧ ((vp_in (i0 + 2) L) ∧ (wpL_claims (xs ((i0 + 1)).toNatClampNeg) (xs ((i0 + 2)).toNatClampNeg) w (fun r_5 w_4 => (vp_in (i0 + 1) L) ∧ ((vp_in (i0 + 2) L) ∧ (wpX5_claims (xs ((i0 + 1)).toNatClampNeg) (xs ((i0 + 2)).toNatClampNeg) w_4 (fun r_9 w_8 => wpX5_thrown w_8 (fun r_11 w_10 => (r_11 = r_5 → ((r_5 = 0 → ((vp_in 0 1) ∧ ((r_9 = 0 → (wpL_C28_B2131 xs L i0 post 0 (w_10.2.2.1 (0 : Int32).toNatClampNeg) w_10)) ∧ (¬ (r_9 = 0) → (wpL_C28_B2131 xs L i0 post 1 (w_10.2.2.1 (0 : Int32).toNatClampNeg) w_10))))) ∧ (¬ (r_5 = 0) → (post w_10)))) ∧ (¬ (r_11 = r_5) → False))))))))
set_option maxHeartbeats 4000000 in
set_option maxRecDepth 100000 in
theorem mL_C28 {p : Program} {l : Launch} {e : Env} {s : State} {m : MethodId} {below : List Frame} {meth : Method} {c : Code} {D : va_G} {ca : Nat → ClassId} {ad : Nat → Nat} {base b L : Nat} {xs : Nat → Int32} (C0 : LX p l s m c D ca ad base b L xs) {Q : State → Prop} {cells slots : Nat} (hcel : cells + 4 ≤ 603072) (hslo : slots + 24 ≤ 7215210) (i0 : Int32) (w : St) (post : St → Prop) (hw : wpL_C28 xs L i0 w post) (hK : ∀ (w : St), post w → ∀ (H : Heap) (locs : List Loc), PA D ca ad w H → va_S (AB base) s.heap H locs → ∀ ls : Array Slot, lv_has ls 10 [(0, .ref b), (1, .ref (ad 0)), (2, .ref (ad 33)), (3, .ref (ad 59)), (4, .ref (ad 60)), (5, .int i0)] → W p l e room_1 s m #[Value.ref b] below meth c H locs (cells + 4) (slots + 24) Q (F0 m 2692 ls [])) (H : Heap) (locs : List Loc) (hP : PA D ca ad w H) (hS : va_S (AB base) s.heap H locs) (ls : Array Slot) (hl : lv_has ls 10 [(0, .ref b), (1, .ref (ad 0)), (2, .ref (ad 33)), (3, .ref (ad 59)), (4, .ref (ad 60)), (5, .int i0)]) : W p l e room_1 s m #[Value.ref b] below meth c H locs cells slots Q (F0 m 2065 ls []) := by
  obtain ⟨hx, hb, hml, hown, hts, hK0, hXP, hAd, hbs, hX, hbl, hbA, hl9⟩ := C0
  have hB2131 : ∀ (s0 : Int64) (s1 : Int64) (w : St), wpL_C28_B2131 xs L i0 post s0 s1 w → ∀ (H : Heap) (locs : List Loc), PA D ca ad w H → va_S (AB base) s.heap H locs → ∀ ls : Array Slot, lv_has ls 10 [(0, .ref b), (1, .ref (ad 0)), (2, .ref (ad 33)), (3, .ref (ad 59)), (4, .ref (ad 60)), (5, .int i0)] → W p l e room_1 s m #[Value.ref b] below meth c H locs (cells + 4) (slots + 24) Q (F0 m 2131 ls [.long s0, .long s1]) := by
    intro s0 s1 w hw H locs hP hS ls hl
    refine W.lcmp hx hb dL_law_2131 ?_
    refine lv_if_eq (tgt := 2137) hx hb dL_law_2132 (by decide) (fun c_1 => ?_) (fun c_1 => ?_)
    · have hw := hw.1 c_1
      refine lv_goto (tgt := 2692) hx hb dL_law_2137 (by decide) ?_
      refine W.widen (k := cells + 4) (n := slots + 24) (by omega) (by omega) ?_
      exact hK w hw _ _ hP hS ls (lv_sub hl [0, 1, 2, 3, 4, 5] rfl)
    · have hw := hw.2 c_1
      refine lv_iconst (v := 0) hx hb dL_law_2135 (by decide) ?_
      exact hw.elim
  refine lv_aload_n hx hb dL_law_2065 rfl (lv_at hl 1 rfl) ?_
  refine lv_aload_n hx hb dL_law_2066 rfl (lv_at hl 0 rfl) ?_
  refine lv_iload hx hb dL_law_2067 (lv_at hl 5 rfl) ?_
  refine lv_iconst (v := 1) hx hb dL_law_2069 (by decide) ?_
  refine lv_iadd hx hb dL_law_2070 ?_
  obtain ⟨h_2, hw⟩ := hw
  refine va_sld hx hb hX hbl hbA hS h_2 dL_law_2071 ?_
  refine lv_aload_n hx hb dL_law_2072 rfl (lv_at hl 0 rfl) ?_
  refine lv_iload hx hb dL_law_2073 (lv_at hl 5 rfl) ?_
  refine lv_iconst (v := 2) hx hb dL_law_2075 (by decide) ?_
  refine lv_iadd hx hb dL_law_2076 ?_
  obtain ⟨h_3, hw⟩ := hw
  refine va_sld hx hb hX hbl hbA hS h_3 dL_law_2077 ?_
  refine lv_aload_n hx hb dL_law_2078 rfl (lv_at hl 3 rfl) ?_
  refine va_calli (vx_runSW (As := [.ref (ad 0), .int (xs ((i0 + 1)).toNatClampNeg), .int (xs ((i0 + 2)).toNatClampNeg), .ref (ad 59)]) (rest := []) ⟨hx, hb, hml, hown, hts⟩ (mL_claims l D ca ad base hAd w (xs ((i0 + 1)).toNatClampNeg) (xs ((i0 + 2)).toNatClampNeg) _ hw hl9) (vx_cwSW 4 hts gL_law_L_claims rfl rfl rfl (by decide +kernel) ⟨Nat.le_of_ble_eq_true rfl, Nat.le_of_ble_eq_true rfl⟩) (psx [.ref (ad 0), .int (xs ((i0 + 1)).toNatClampNeg), .int (xs ((i0 + 2)).toNatClampNeg), .ref (ad 59)] hK0 hXP hP hbs hS) rfl rfl hl.1 rfl (lv_room (Nat.le_of_ble_eq_true rfl)) dL_law_2079 ⟨by simp only [room_1]; omega, by simp only [room_1]; omega⟩) hS (fun q _ h => h) (fun q h => h) (fun r_5 w_4 t H locs ht hvm hw hP hz1 hk1 hS => ?_)
  have hP : PA D ca ad w_4 H := by rw [← ht]; exact hP
  refine lv_istore (lv' := [(6, .int r_5), (0, .ref b), (1, .ref (ad 0)), (2, .ref (ad 33)), (3, .ref (ad 59)), (4, .ref (ad 60)), (5, .int i0)]) hx hb dL_law_2082 hl (by decide) rfl (fun ls hl => ?_)
  refine lv_aload_n hx hb dL_law_2084 rfl (lv_at hl 3 rfl) ?_
  refine lv_aload_n hx hb dL_law_2085 rfl (lv_at hl 1 rfl) ?_
  refine lv_iload hx hb dL_law_2086 (lv_at hl 6 rfl) ?_
  refine lv_iconst (v := 1) hx hb dL_law_2088 (by decide) ?_
  refine lv_iadd hx hb dL_law_2089 ?_
  obtain ⟨h_6, hw⟩ := hw
  refine va_sld hx hb hX hbl hbA hS h_6 dL_law_2090 ?_
  refine lv_aload_n hx hb dL_law_2091 rfl (lv_at hl 1 rfl) ?_
  refine lv_iload hx hb dL_law_2092 (lv_at hl 6 rfl) ?_
  refine lv_iconst (v := 2) hx hb dL_law_2094 (by decide) ?_
  refine lv_iadd hx hb dL_law_2095 ?_
  obtain ⟨h_7, hw⟩ := hw
  refine va_sld hx hb hX hbl hbA hS h_7 dL_law_2096 ?_
  refine va_calli (va_runV (As := [.int (xs ((i0 + 1)).toNatClampNeg), .int (xs ((i0 + 2)).toNatClampNeg)]) (rest := []) ⟨hx, hb, hml, hown, hts⟩ (mX5_claims l D ca ad base hAd w_4 (xs ((i0 + 1)).toNatClampNeg) (xs ((i0 + 2)).toNatClampNeg) _ hw) (cwV 2 hts gL_law_X5_claims rfl rfl rfl (by decide +kernel) ⟨Nat.le_of_ble_eq_true rfl, Nat.le_of_ble_eq_true rfl⟩) (pv [.int (xs ((i0 + 1)).toNatClampNeg), .int (xs ((i0 + 2)).toNatClampNeg)] hK0 hP hbs hS rfl (wg33 ca ad w_4)) rfl rfl hl.1 rfl (lv_room (Nat.le_of_ble_eq_true rfl)) dL_law_2097 ⟨by simp only [room_1]; omega, by simp only [room_1]; omega⟩) hS (fun q _ h => h) (fun q h => h) (fun r_9 w_8 t H locs ht hvm hw hP hz1 hk1 hS => ?_)
  have hP : PA D ca ad w_8 H := by rw [← ht]; exact hP
  refine lv_istore (lv' := [(7, .int r_9), (6, .int r_5), (0, .ref b), (1, .ref (ad 0)), (2, .ref (ad 33)), (3, .ref (ad 59)), (4, .ref (ad 60)), (5, .int i0)]) hx hb dL_law_2100 hl (by decide) rfl (fun ls hl => ?_)
  refine lv_aload_n hx hb dL_law_2102 rfl (lv_at hl 4 rfl) ?_
  refine va_calli (va_runV (As := []) (rest := []) ⟨hx, hb, hml, hown, hts⟩ (mX5_thrown l D ca ad base hAd w_8 _ hw) (cwV 0 hts gL_law_X5_thrown rfl rfl rfl (by decide +kernel) ⟨Nat.le_of_ble_eq_true rfl, Nat.le_of_ble_eq_true rfl⟩) (pv [] hK0 hP hbs hS rfl (wg33 ca ad w_8)) rfl rfl hl.1 rfl (lv_room (Nat.le_of_ble_eq_true rfl)) dL_law_2103 ⟨by simp only [room_1]; omega, by simp only [room_1]; omega⟩) hS (fun q _ h => h) (fun q h => h) (fun r_11 w_10 t H locs ht hvm hw hP hz1 hk1 hS => ?_)
  have hP : PA D ca ad w_10 H := by rw [← ht]; exact hP
  refine lv_iload hx hb dL_law_2106 (lv_at hl 1 rfl) ?_
  refine lv_icmp_eq (tgt := 2113) hx hb dL_law_2108 (by decide) (fun c_12 => ?_) (fun c_12 => ?_)
  · have hw := hw.1 c_12
    refine lv_iload hx hb dL_law_2113 (lv_at hl 1 rfl) ?_
    refine lv_if_ne (tgt := 2137) hx hb dL_law_2115 (by decide) (fun c_13 => ?_) (fun c_13 => ?_)
    · have hw := hw.2 c_13
      refine lv_goto (tgt := 2692) hx hb dL_law_2137 (by decide) ?_
      refine W.widen (k := cells + 4) (n := slots + 24) (by omega) (by omega) ?_
      exact hK w_10 hw _ _ hP hS ls (lv_sub hl [2, 3, 4, 5, 6, 7] rfl)
    · have hw := hw.1 c_13
      refine lv_aload_n hx hb dL_law_2118 rfl (lv_at hl 5 rfl) ?_
      refine lv_iconst (v := 0) hx hb dL_law_2119 (by decide) ?_
      obtain ⟨h_14, hw⟩ := hw
      refine va_lald hx hb hK0 hP 59 3 (wg59 ca ad w_10) rfl h_14 dL_law_2120 ?_
      refine lv_iload hx hb dL_law_2121 (lv_at hl 0 rfl) ?_
      refine lv_if_eq (tgt := 2130) hx hb dL_law_2123 (by decide) (fun c_15 => ?_) (fun c_15 => ?_)
      · have hw := hw.1 c_15
        refine lv_lconst (v := 0) hx hb dL_law_2130 (by decide) ?_
        refine W.widen (k := cells + 4) (n := slots + 24) (by omega) (by omega) ?_
        exact hB2131 0 (w_10.2.2.1 (0 : Int32).toNatClampNeg) w_10 hw _ _ hP hS ls (lv_sub hl [2, 3, 4, 5, 6, 7] rfl)
      · have hw := hw.2 c_15
        refine lv_lconst (v := 1) hx hb dL_law_2126 (by decide) ?_
        refine lv_goto (tgt := 2131) hx hb dL_law_2127 (by decide) ?_
        refine W.widen (k := cells + 4) (n := slots + 24) (by omega) (by omega) ?_
        exact hB2131 1 (w_10.2.2.1 (0 : Int32).toNatClampNeg) w_10 hw _ _ hP hS ls (lv_sub hl [2, 3, 4, 5, 6, 7] rfl)
  · have hw := hw.2 c_12
    refine lv_iconst (v := 0) hx hb dL_law_2111 (by decide) ?_
    exact hw.elim
set_option maxHeartbeats 4000000 in
set_option maxRecDepth 100000 in
def wpL_C29 (xs : Nat → Int32) (L : Nat) (i0 : Int32) (w : St) (post : St → Prop) : Prop := (vp_in (i0 + 1) L) ∧ (wpL_claimants (xs ((i0 + 1)).toNatClampNeg) w (fun r_3 w_2 => (vp_in (i0 + 1) L) ∧ (wpX5_claimants (xs ((i0 + 1)).toNatClampNeg) w_2 (fun r_6 w_5 => wpX5_thrown w_5 (fun r_8 w_7 => (r_8 = r_3 → ((r_3 = 0 → ((vp_in 0 1) ∧ (((lg_cmp (w_7.2.2.1 (0 : Int32).toNatClampNeg) ((r_6).toInt64)) = 0 → (post w_7)) ∧ (¬ ((lg_cmp (w_7.2.2.1 (0 : Int32).toNatClampNeg) ((r_6).toInt64)) = 0) → False)))) ∧ (¬ (r_3 = 0) → (post w_7)))) ∧ (¬ (r_8 = r_3) → False))))))
set_option maxHeartbeats 4000000 in
set_option maxRecDepth 100000 in
theorem mL_C29 {p : Program} {l : Launch} {e : Env} {s : State} {m : MethodId} {below : List Frame} {meth : Method} {c : Code} {D : va_G} {ca : Nat → ClassId} {ad : Nat → Nat} {base b L : Nat} {xs : Nat → Int32} (C0 : LX p l s m c D ca ad base b L xs) {Q : State → Prop} {cells slots : Nat} (hcel : cells + 4 ≤ 603072) (hslo : slots + 24 ≤ 7215210) (i0 : Int32) (w : St) (post : St → Prop) (hw : wpL_C29 xs L i0 w post) (hK : ∀ (w : St), post w → ∀ (H : Heap) (locs : List Loc), PA D ca ad w H → va_S (AB base) s.heap H locs → ∀ ls : Array Slot, lv_has ls 10 [(0, .ref b), (1, .ref (ad 0)), (2, .ref (ad 33)), (3, .ref (ad 59)), (4, .ref (ad 60)), (5, .int i0)] → W p l e room_1 s m #[Value.ref b] below meth c H locs (cells + 4) (slots + 24) Q (F0 m 2692 ls [])) (H : Heap) (locs : List Loc) (hP : PA D ca ad w H) (hS : va_S (AB base) s.heap H locs) (ls : Array Slot) (hl : lv_has ls 10 [(0, .ref b), (1, .ref (ad 0)), (2, .ref (ad 33)), (3, .ref (ad 59)), (4, .ref (ad 60)), (5, .int i0)]) : W p l e room_1 s m #[Value.ref b] below meth c H locs cells slots Q (F0 m 2140 ls []) := by
  obtain ⟨hx, hb, hml, hown, hts, hK0, hXP, hAd, hbs, hX, hbl, hbA, hl9⟩ := C0
  refine lv_aload_n hx hb dL_law_2140 rfl (lv_at hl 1 rfl) ?_
  refine lv_aload_n hx hb dL_law_2141 rfl (lv_at hl 0 rfl) ?_
  refine lv_iload hx hb dL_law_2142 (lv_at hl 5 rfl) ?_
  refine lv_iconst (v := 1) hx hb dL_law_2144 (by decide) ?_
  refine lv_iadd hx hb dL_law_2145 ?_
  obtain ⟨h_1, hw⟩ := hw
  refine va_sld hx hb hX hbl hbA hS h_1 dL_law_2146 ?_
  refine lv_aload_n hx hb dL_law_2147 rfl (lv_at hl 3 rfl) ?_
  refine va_calli (vx_runSW (As := [.ref (ad 0), .int (xs ((i0 + 1)).toNatClampNeg), .ref (ad 59)]) (rest := []) ⟨hx, hb, hml, hown, hts⟩ (mL_claimants l D ca ad base hAd w (xs ((i0 + 1)).toNatClampNeg) _ hw hl9) (vx_cwSW 3 hts gL_law_L_claimants rfl rfl rfl (by decide +kernel) ⟨Nat.le_of_ble_eq_true rfl, Nat.le_of_ble_eq_true rfl⟩) (psx [.ref (ad 0), .int (xs ((i0 + 1)).toNatClampNeg), .ref (ad 59)] hK0 hXP hP hbs hS) rfl rfl hl.1 rfl (lv_room (Nat.le_of_ble_eq_true rfl)) dL_law_2148 ⟨by simp only [room_1]; omega, by simp only [room_1]; omega⟩) hS (fun q _ h => h) (fun q h => h) (fun r_3 w_2 t H locs ht hvm hw hP hz1 hk1 hS => ?_)
  have hP : PA D ca ad w_2 H := by rw [← ht]; exact hP
  refine lv_istore (lv' := [(6, .int r_3), (0, .ref b), (1, .ref (ad 0)), (2, .ref (ad 33)), (3, .ref (ad 59)), (4, .ref (ad 60)), (5, .int i0)]) hx hb dL_law_2151 hl (by decide) rfl (fun ls hl => ?_)
  refine lv_aload_n hx hb dL_law_2153 rfl (lv_at hl 3 rfl) ?_
  refine lv_aload_n hx hb dL_law_2154 rfl (lv_at hl 1 rfl) ?_
  refine lv_iload hx hb dL_law_2155 (lv_at hl 6 rfl) ?_
  refine lv_iconst (v := 1) hx hb dL_law_2157 (by decide) ?_
  refine lv_iadd hx hb dL_law_2158 ?_
  obtain ⟨h_4, hw⟩ := hw
  refine va_sld hx hb hX hbl hbA hS h_4 dL_law_2159 ?_
  refine va_calli (va_runV (As := [.int (xs ((i0 + 1)).toNatClampNeg)]) (rest := []) ⟨hx, hb, hml, hown, hts⟩ (mX5_claimants l D ca ad base hAd w_2 (xs ((i0 + 1)).toNatClampNeg) _ hw) (cwV 1 hts gL_law_X5_claimants rfl rfl rfl (by decide +kernel) ⟨Nat.le_of_ble_eq_true rfl, Nat.le_of_ble_eq_true rfl⟩) (pv [.int (xs ((i0 + 1)).toNatClampNeg)] hK0 hP hbs hS rfl (wg33 ca ad w_2)) rfl rfl hl.1 rfl (lv_room (Nat.le_of_ble_eq_true rfl)) dL_law_2160 ⟨by simp only [room_1]; omega, by simp only [room_1]; omega⟩) hS (fun q _ h => h) (fun q h => h) (fun r_6 w_5 t H locs ht hvm hw hP hz1 hk1 hS => ?_)
  have hP : PA D ca ad w_5 H := by rw [← ht]; exact hP
  refine lv_istore (lv' := [(7, .int r_6), (6, .int r_3), (0, .ref b), (1, .ref (ad 0)), (2, .ref (ad 33)), (3, .ref (ad 59)), (4, .ref (ad 60)), (5, .int i0)]) hx hb dL_law_2163 hl (by decide) rfl (fun ls hl => ?_)
  refine lv_aload_n hx hb dL_law_2165 rfl (lv_at hl 4 rfl) ?_
  refine va_calli (va_runV (As := []) (rest := []) ⟨hx, hb, hml, hown, hts⟩ (mX5_thrown l D ca ad base hAd w_5 _ hw) (cwV 0 hts gL_law_X5_thrown rfl rfl rfl (by decide +kernel) ⟨Nat.le_of_ble_eq_true rfl, Nat.le_of_ble_eq_true rfl⟩) (pv [] hK0 hP hbs hS rfl (wg33 ca ad w_5)) rfl rfl hl.1 rfl (lv_room (Nat.le_of_ble_eq_true rfl)) dL_law_2166 ⟨by simp only [room_1]; omega, by simp only [room_1]; omega⟩) hS (fun q _ h => h) (fun q h => h) (fun r_8 w_7 t H locs ht hvm hw hP hz1 hk1 hS => ?_)
  have hP : PA D ca ad w_7 H := by rw [← ht]; exact hP
  refine lv_iload hx hb dL_law_2169 (lv_at hl 1 rfl) ?_
  refine lv_icmp_eq (tgt := 2176) hx hb dL_law_2171 (by decide) (fun c_9 => ?_) (fun c_9 => ?_)
  · have hw := hw.1 c_9
    refine lv_iload hx hb dL_law_2176 (lv_at hl 1 rfl) ?_
    refine lv_if_ne (tgt := 2193) hx hb dL_law_2178 (by decide) (fun c_10 => ?_) (fun c_10 => ?_)
    · have hw := hw.2 c_10
      refine lv_goto (tgt := 2692) hx hb dL_law_2193 (by decide) ?_
      refine W.widen (k := cells + 4) (n := slots + 24) (by omega) (by omega) ?_
      exact hK w_7 hw _ _ hP hS ls (lv_sub hl [2, 3, 4, 5, 6, 7] rfl)
    · have hw := hw.1 c_10
      refine lv_aload_n hx hb dL_law_2181 rfl (lv_at hl 5 rfl) ?_
      refine lv_iconst (v := 0) hx hb dL_law_2182 (by decide) ?_
      obtain ⟨h_11, hw⟩ := hw
      refine va_lald hx hb hK0 hP 59 3 (wg59 ca ad w_7) rfl h_11 dL_law_2183 ?_
      refine lv_iload hx hb dL_law_2184 (lv_at hl 0 rfl) ?_
      refine lv_i2l (v := (r_6).toInt64) hx hb dL_law_2186 rfl ?_
      refine W.lcmp hx hb dL_law_2187 ?_
      refine lv_if_eq (tgt := 2193) hx hb dL_law_2188 (by decide) (fun c_12 => ?_) (fun c_12 => ?_)
      · have hw := hw.1 c_12
        refine lv_goto (tgt := 2692) hx hb dL_law_2193 (by decide) ?_
        refine W.widen (k := cells + 4) (n := slots + 24) (by omega) (by omega) ?_
        exact hK w_7 hw _ _ hP hS ls (lv_sub hl [2, 3, 4, 5, 6, 7] rfl)
      · have hw := hw.2 c_12
        refine lv_iconst (v := 0) hx hb dL_law_2191 (by decide) ?_
        exact hw.elim
  · have hw := hw.2 c_9
    refine lv_iconst (v := 0) hx hb dL_law_2174 (by decide) ?_
    exact hw.elim
set_option maxHeartbeats 4000000 in
set_option maxRecDepth 100000 in
def wpL_C30 (xs : Nat → Int32) (L : Nat) (i0 : Int32) (w : St) (post : St → Prop) : Prop := (vp_in (i0 + 1) L) ∧ (wpL_value (xs ((i0 + 1)).toNatClampNeg) w (fun r_3 w_2 => (vp_in (i0 + 1) L) ∧ (wpX5_value (xs ((i0 + 1)).toNatClampNeg) w_2 (fun r_6 w_5 => wpX5_thrown w_5 (fun r_8 w_7 => (r_8 = r_3 → ((r_3 = 0 → ((vp_in 0 1) ∧ (((lg_cmp (w_7.2.2.1 (0 : Int32).toNatClampNeg) ((r_6).toInt64)) = 0 → (post w_7)) ∧ (¬ ((lg_cmp (w_7.2.2.1 (0 : Int32).toNatClampNeg) ((r_6).toInt64)) = 0) → False)))) ∧ (¬ (r_3 = 0) → (post w_7)))) ∧ (¬ (r_8 = r_3) → False))))))
set_option maxHeartbeats 4000000 in
set_option maxRecDepth 100000 in
theorem mL_C30 {p : Program} {l : Launch} {e : Env} {s : State} {m : MethodId} {below : List Frame} {meth : Method} {c : Code} {D : va_G} {ca : Nat → ClassId} {ad : Nat → Nat} {base b L : Nat} {xs : Nat → Int32} (C0 : LX p l s m c D ca ad base b L xs) {Q : State → Prop} {cells slots : Nat} (hcel : cells + 4 ≤ 603072) (hslo : slots + 24 ≤ 7215210) (i0 : Int32) (w : St) (post : St → Prop) (hw : wpL_C30 xs L i0 w post) (hK : ∀ (w : St), post w → ∀ (H : Heap) (locs : List Loc), PA D ca ad w H → va_S (AB base) s.heap H locs → ∀ ls : Array Slot, lv_has ls 10 [(0, .ref b), (1, .ref (ad 0)), (2, .ref (ad 33)), (3, .ref (ad 59)), (4, .ref (ad 60)), (5, .int i0)] → W p l e room_1 s m #[Value.ref b] below meth c H locs (cells + 4) (slots + 24) Q (F0 m 2692 ls [])) (H : Heap) (locs : List Loc) (hP : PA D ca ad w H) (hS : va_S (AB base) s.heap H locs) (ls : Array Slot) (hl : lv_has ls 10 [(0, .ref b), (1, .ref (ad 0)), (2, .ref (ad 33)), (3, .ref (ad 59)), (4, .ref (ad 60)), (5, .int i0)]) : W p l e room_1 s m #[Value.ref b] below meth c H locs cells slots Q (F0 m 2196 ls []) := by
  obtain ⟨hx, hb, hml, hown, hts, hK0, hXP, hAd, hbs, hX, hbl, hbA, hl9⟩ := C0
  refine lv_aload_n hx hb dL_law_2196 rfl (lv_at hl 1 rfl) ?_
  refine lv_aload_n hx hb dL_law_2197 rfl (lv_at hl 0 rfl) ?_
  refine lv_iload hx hb dL_law_2198 (lv_at hl 5 rfl) ?_
  refine lv_iconst (v := 1) hx hb dL_law_2200 (by decide) ?_
  refine lv_iadd hx hb dL_law_2201 ?_
  obtain ⟨h_1, hw⟩ := hw
  refine va_sld hx hb hX hbl hbA hS h_1 dL_law_2202 ?_
  refine lv_aload_n hx hb dL_law_2203 rfl (lv_at hl 3 rfl) ?_
  refine va_calli (vx_runSW (As := [.ref (ad 0), .int (xs ((i0 + 1)).toNatClampNeg), .ref (ad 59)]) (rest := []) ⟨hx, hb, hml, hown, hts⟩ (mL_value l D ca ad base hAd w (xs ((i0 + 1)).toNatClampNeg) _ hw hl9) (vx_cwSW 3 hts gL_law_L_value rfl rfl rfl (by decide +kernel) ⟨Nat.le_of_ble_eq_true rfl, Nat.le_of_ble_eq_true rfl⟩) (psx [.ref (ad 0), .int (xs ((i0 + 1)).toNatClampNeg), .ref (ad 59)] hK0 hXP hP hbs hS) rfl rfl hl.1 rfl (lv_room (Nat.le_of_ble_eq_true rfl)) dL_law_2204 ⟨by simp only [room_1]; omega, by simp only [room_1]; omega⟩) hS (fun q _ h => h) (fun q h => h) (fun r_3 w_2 t H locs ht hvm hw hP hz1 hk1 hS => ?_)
  have hP : PA D ca ad w_2 H := by rw [← ht]; exact hP
  refine lv_istore (lv' := [(6, .int r_3), (0, .ref b), (1, .ref (ad 0)), (2, .ref (ad 33)), (3, .ref (ad 59)), (4, .ref (ad 60)), (5, .int i0)]) hx hb dL_law_2207 hl (by decide) rfl (fun ls hl => ?_)
  refine lv_aload_n hx hb dL_law_2209 rfl (lv_at hl 3 rfl) ?_
  refine lv_aload_n hx hb dL_law_2210 rfl (lv_at hl 1 rfl) ?_
  refine lv_iload hx hb dL_law_2211 (lv_at hl 6 rfl) ?_
  refine lv_iconst (v := 1) hx hb dL_law_2213 (by decide) ?_
  refine lv_iadd hx hb dL_law_2214 ?_
  obtain ⟨h_4, hw⟩ := hw
  refine va_sld hx hb hX hbl hbA hS h_4 dL_law_2215 ?_
  refine va_calli (va_runV (As := [.int (xs ((i0 + 1)).toNatClampNeg)]) (rest := []) ⟨hx, hb, hml, hown, hts⟩ (mX5_value l D ca ad base hAd w_2 (xs ((i0 + 1)).toNatClampNeg) _ hw) (cwV 1 hts gL_law_X5_value rfl rfl rfl (by decide +kernel) ⟨Nat.le_of_ble_eq_true rfl, Nat.le_of_ble_eq_true rfl⟩) (pv [.int (xs ((i0 + 1)).toNatClampNeg)] hK0 hP hbs hS rfl (wg33 ca ad w_2)) rfl rfl hl.1 rfl (lv_room (Nat.le_of_ble_eq_true rfl)) dL_law_2216 ⟨by simp only [room_1]; omega, by simp only [room_1]; omega⟩) hS (fun q _ h => h) (fun q h => h) (fun r_6 w_5 t H locs ht hvm hw hP hz1 hk1 hS => ?_)
  have hP : PA D ca ad w_5 H := by rw [← ht]; exact hP
  refine lv_istore (lv' := [(7, .int r_6), (6, .int r_3), (0, .ref b), (1, .ref (ad 0)), (2, .ref (ad 33)), (3, .ref (ad 59)), (4, .ref (ad 60)), (5, .int i0)]) hx hb dL_law_2219 hl (by decide) rfl (fun ls hl => ?_)
  refine lv_aload_n hx hb dL_law_2221 rfl (lv_at hl 4 rfl) ?_
  refine va_calli (va_runV (As := []) (rest := []) ⟨hx, hb, hml, hown, hts⟩ (mX5_thrown l D ca ad base hAd w_5 _ hw) (cwV 0 hts gL_law_X5_thrown rfl rfl rfl (by decide +kernel) ⟨Nat.le_of_ble_eq_true rfl, Nat.le_of_ble_eq_true rfl⟩) (pv [] hK0 hP hbs hS rfl (wg33 ca ad w_5)) rfl rfl hl.1 rfl (lv_room (Nat.le_of_ble_eq_true rfl)) dL_law_2222 ⟨by simp only [room_1]; omega, by simp only [room_1]; omega⟩) hS (fun q _ h => h) (fun q h => h) (fun r_8 w_7 t H locs ht hvm hw hP hz1 hk1 hS => ?_)
  have hP : PA D ca ad w_7 H := by rw [← ht]; exact hP
  refine lv_iload hx hb dL_law_2225 (lv_at hl 1 rfl) ?_
  refine lv_icmp_eq (tgt := 2232) hx hb dL_law_2227 (by decide) (fun c_9 => ?_) (fun c_9 => ?_)
  · have hw := hw.1 c_9
    refine lv_iload hx hb dL_law_2232 (lv_at hl 1 rfl) ?_
    refine lv_if_ne (tgt := 2249) hx hb dL_law_2234 (by decide) (fun c_10 => ?_) (fun c_10 => ?_)
    · have hw := hw.2 c_10
      refine lv_goto (tgt := 2692) hx hb dL_law_2249 (by decide) ?_
      refine W.widen (k := cells + 4) (n := slots + 24) (by omega) (by omega) ?_
      exact hK w_7 hw _ _ hP hS ls (lv_sub hl [2, 3, 4, 5, 6, 7] rfl)
    · have hw := hw.1 c_10
      refine lv_aload_n hx hb dL_law_2237 rfl (lv_at hl 5 rfl) ?_
      refine lv_iconst (v := 0) hx hb dL_law_2238 (by decide) ?_
      obtain ⟨h_11, hw⟩ := hw
      refine va_lald hx hb hK0 hP 59 3 (wg59 ca ad w_7) rfl h_11 dL_law_2239 ?_
      refine lv_iload hx hb dL_law_2240 (lv_at hl 0 rfl) ?_
      refine lv_i2l (v := (r_6).toInt64) hx hb dL_law_2242 rfl ?_
      refine W.lcmp hx hb dL_law_2243 ?_
      refine lv_if_eq (tgt := 2249) hx hb dL_law_2244 (by decide) (fun c_12 => ?_) (fun c_12 => ?_)
      · have hw := hw.1 c_12
        refine lv_goto (tgt := 2692) hx hb dL_law_2249 (by decide) ?_
        refine W.widen (k := cells + 4) (n := slots + 24) (by omega) (by omega) ?_
        exact hK w_7 hw _ _ hP hS ls (lv_sub hl [2, 3, 4, 5, 6, 7] rfl)
      · have hw := hw.2 c_12
        refine lv_iconst (v := 0) hx hb dL_law_2247 (by decide) ?_
        exact hw.elim
  · have hw := hw.2 c_9
    refine lv_iconst (v := 0) hx hb dL_law_2230 (by decide) ?_
    exact hw.elim
set_option maxHeartbeats 4000000 in
set_option maxRecDepth 100000 in
def wpL_C31 (xs : Nat → Int32) (L : Nat) (i0 : Int32) (w : St) (post : St → Prop) : Prop := (vp_in (i0 + 1) L) ∧ (wpL_valueByLog (xs ((i0 + 1)).toNatClampNeg) w (fun r_3 w_2 => (vp_in (i0 + 1) L) ∧ (wpX5_valueByLog (xs ((i0 + 1)).toNatClampNeg) w_2 (fun r_6 w_5 => wpX5_thrown w_5 (fun r_8 w_7 => (r_8 = r_3 → ((r_3 = 0 → ((vp_in 0 1) ∧ (((lg_cmp (w_7.2.2.1 (0 : Int32).toNatClampNeg) ((r_6).toInt64)) = 0 → (post w_7)) ∧ (¬ ((lg_cmp (w_7.2.2.1 (0 : Int32).toNatClampNeg) ((r_6).toInt64)) = 0) → False)))) ∧ (¬ (r_3 = 0) → (post w_7)))) ∧ (¬ (r_8 = r_3) → False))))))
set_option maxHeartbeats 4000000 in
set_option maxRecDepth 100000 in
theorem mL_C31 {p : Program} {l : Launch} {e : Env} {s : State} {m : MethodId} {below : List Frame} {meth : Method} {c : Code} {D : va_G} {ca : Nat → ClassId} {ad : Nat → Nat} {base b L : Nat} {xs : Nat → Int32} (C0 : LX p l s m c D ca ad base b L xs) {Q : State → Prop} {cells slots : Nat} (hcel : cells + 4 ≤ 603072) (hslo : slots + 24 ≤ 7215210) (i0 : Int32) (w : St) (post : St → Prop) (hw : wpL_C31 xs L i0 w post) (hK : ∀ (w : St), post w → ∀ (H : Heap) (locs : List Loc), PA D ca ad w H → va_S (AB base) s.heap H locs → ∀ ls : Array Slot, lv_has ls 10 [(0, .ref b), (1, .ref (ad 0)), (2, .ref (ad 33)), (3, .ref (ad 59)), (4, .ref (ad 60)), (5, .int i0)] → W p l e room_1 s m #[Value.ref b] below meth c H locs (cells + 4) (slots + 24) Q (F0 m 2692 ls [])) (H : Heap) (locs : List Loc) (hP : PA D ca ad w H) (hS : va_S (AB base) s.heap H locs) (ls : Array Slot) (hl : lv_has ls 10 [(0, .ref b), (1, .ref (ad 0)), (2, .ref (ad 33)), (3, .ref (ad 59)), (4, .ref (ad 60)), (5, .int i0)]) : W p l e room_1 s m #[Value.ref b] below meth c H locs cells slots Q (F0 m 2252 ls []) := by
  obtain ⟨hx, hb, hml, hown, hts, hK0, hXP, hAd, hbs, hX, hbl, hbA, hl9⟩ := C0
  refine lv_aload_n hx hb dL_law_2252 rfl (lv_at hl 1 rfl) ?_
  refine lv_aload_n hx hb dL_law_2253 rfl (lv_at hl 0 rfl) ?_
  refine lv_iload hx hb dL_law_2254 (lv_at hl 5 rfl) ?_
  refine lv_iconst (v := 1) hx hb dL_law_2256 (by decide) ?_
  refine lv_iadd hx hb dL_law_2257 ?_
  obtain ⟨h_1, hw⟩ := hw
  refine va_sld hx hb hX hbl hbA hS h_1 dL_law_2258 ?_
  refine lv_aload_n hx hb dL_law_2259 rfl (lv_at hl 3 rfl) ?_
  refine va_calli (vx_runSW (As := [.ref (ad 0), .int (xs ((i0 + 1)).toNatClampNeg), .ref (ad 59)]) (rest := []) ⟨hx, hb, hml, hown, hts⟩ (mL_valueByLog l D ca ad base hAd w (xs ((i0 + 1)).toNatClampNeg) _ hw hl9) (vx_cwSW 3 hts gL_law_L_valueByLog rfl rfl rfl (by decide +kernel) ⟨Nat.le_of_ble_eq_true rfl, Nat.le_of_ble_eq_true rfl⟩) (psx [.ref (ad 0), .int (xs ((i0 + 1)).toNatClampNeg), .ref (ad 59)] hK0 hXP hP hbs hS) rfl rfl hl.1 rfl (lv_room (Nat.le_of_ble_eq_true rfl)) dL_law_2260 ⟨by simp only [room_1]; omega, by simp only [room_1]; omega⟩) hS (fun q _ h => h) (fun q h => h) (fun r_3 w_2 t H locs ht hvm hw hP hz1 hk1 hS => ?_)
  have hP : PA D ca ad w_2 H := by rw [← ht]; exact hP
  refine lv_istore (lv' := [(6, .int r_3), (0, .ref b), (1, .ref (ad 0)), (2, .ref (ad 33)), (3, .ref (ad 59)), (4, .ref (ad 60)), (5, .int i0)]) hx hb dL_law_2263 hl (by decide) rfl (fun ls hl => ?_)
  refine lv_aload_n hx hb dL_law_2265 rfl (lv_at hl 3 rfl) ?_
  refine lv_aload_n hx hb dL_law_2266 rfl (lv_at hl 1 rfl) ?_
  refine lv_iload hx hb dL_law_2267 (lv_at hl 6 rfl) ?_
  refine lv_iconst (v := 1) hx hb dL_law_2269 (by decide) ?_
  refine lv_iadd hx hb dL_law_2270 ?_
  obtain ⟨h_4, hw⟩ := hw
  refine va_sld hx hb hX hbl hbA hS h_4 dL_law_2271 ?_
  refine va_calli (va_runV (As := [.int (xs ((i0 + 1)).toNatClampNeg)]) (rest := []) ⟨hx, hb, hml, hown, hts⟩ (mX5_valueByLog l D ca ad base hAd w_2 (xs ((i0 + 1)).toNatClampNeg) _ hw) (cwV 1 hts gL_law_X5_valueByLog rfl rfl rfl (by decide +kernel) ⟨Nat.le_of_ble_eq_true rfl, Nat.le_of_ble_eq_true rfl⟩) (pv [.int (xs ((i0 + 1)).toNatClampNeg)] hK0 hP hbs hS rfl (wg33 ca ad w_2)) rfl rfl hl.1 rfl (lv_room (Nat.le_of_ble_eq_true rfl)) dL_law_2272 ⟨by simp only [room_1]; omega, by simp only [room_1]; omega⟩) hS (fun q _ h => h) (fun q h => h) (fun r_6 w_5 t H locs ht hvm hw hP hz1 hk1 hS => ?_)
  have hP : PA D ca ad w_5 H := by rw [← ht]; exact hP
  refine lv_istore (lv' := [(7, .int r_6), (6, .int r_3), (0, .ref b), (1, .ref (ad 0)), (2, .ref (ad 33)), (3, .ref (ad 59)), (4, .ref (ad 60)), (5, .int i0)]) hx hb dL_law_2275 hl (by decide) rfl (fun ls hl => ?_)
  refine lv_aload_n hx hb dL_law_2277 rfl (lv_at hl 4 rfl) ?_
  refine va_calli (va_runV (As := []) (rest := []) ⟨hx, hb, hml, hown, hts⟩ (mX5_thrown l D ca ad base hAd w_5 _ hw) (cwV 0 hts gL_law_X5_thrown rfl rfl rfl (by decide +kernel) ⟨Nat.le_of_ble_eq_true rfl, Nat.le_of_ble_eq_true rfl⟩) (pv [] hK0 hP hbs hS rfl (wg33 ca ad w_5)) rfl rfl hl.1 rfl (lv_room (Nat.le_of_ble_eq_true rfl)) dL_law_2278 ⟨by simp only [room_1]; omega, by simp only [room_1]; omega⟩) hS (fun q _ h => h) (fun q h => h) (fun r_8 w_7 t H locs ht hvm hw hP hz1 hk1 hS => ?_)
  have hP : PA D ca ad w_7 H := by rw [← ht]; exact hP
  refine lv_iload hx hb dL_law_2281 (lv_at hl 1 rfl) ?_
  refine lv_icmp_eq (tgt := 2288) hx hb dL_law_2283 (by decide) (fun c_9 => ?_) (fun c_9 => ?_)
  · have hw := hw.1 c_9
    refine lv_iload hx hb dL_law_2288 (lv_at hl 1 rfl) ?_
    refine lv_if_ne (tgt := 2305) hx hb dL_law_2290 (by decide) (fun c_10 => ?_) (fun c_10 => ?_)
    · have hw := hw.2 c_10
      refine lv_goto (tgt := 2692) hx hb dL_law_2305 (by decide) ?_
      refine W.widen (k := cells + 4) (n := slots + 24) (by omega) (by omega) ?_
      exact hK w_7 hw _ _ hP hS ls (lv_sub hl [2, 3, 4, 5, 6, 7] rfl)
    · have hw := hw.1 c_10
      refine lv_aload_n hx hb dL_law_2293 rfl (lv_at hl 5 rfl) ?_
      refine lv_iconst (v := 0) hx hb dL_law_2294 (by decide) ?_
      obtain ⟨h_11, hw⟩ := hw
      refine va_lald hx hb hK0 hP 59 3 (wg59 ca ad w_7) rfl h_11 dL_law_2295 ?_
      refine lv_iload hx hb dL_law_2296 (lv_at hl 0 rfl) ?_
      refine lv_i2l (v := (r_6).toInt64) hx hb dL_law_2298 rfl ?_
      refine W.lcmp hx hb dL_law_2299 ?_
      refine lv_if_eq (tgt := 2305) hx hb dL_law_2300 (by decide) (fun c_12 => ?_) (fun c_12 => ?_)
      · have hw := hw.1 c_12
        refine lv_goto (tgt := 2692) hx hb dL_law_2305 (by decide) ?_
        refine W.widen (k := cells + 4) (n := slots + 24) (by omega) (by omega) ?_
        exact hK w_7 hw _ _ hP hS ls (lv_sub hl [2, 3, 4, 5, 6, 7] rfl)
      · have hw := hw.2 c_12
        refine lv_iconst (v := 0) hx hb dL_law_2303 (by decide) ?_
        exact hw.elim
  · have hw := hw.2 c_9
    refine lv_iconst (v := 0) hx hb dL_law_2286 (by decide) ?_
    exact hw.elim
set_option maxHeartbeats 4000000 in
set_option maxRecDepth 100000 in
def wpL_C32 (xs : Nat → Int32) (L : Nat) (i0 : Int32) (w : St) (post : St → Prop) : Prop := (vp_in (i0 + 1) L) ∧ ((vp_in (i0 + 2) L) ∧ (wpL_kept (xs ((i0 + 1)).toNatClampNeg) (xs ((i0 + 2)).toNatClampNeg) w (fun r_4 w_3 => (vp_in (i0 + 1) L) ∧ ((vp_in (i0 + 2) L) ∧ (wpX5_kept (xs ((i0 + 1)).toNatClampNeg) (xs ((i0 + 2)).toNatClampNeg) w_3 (fun r_8 w_7 => wpX5_thrown w_7 (fun r_10 w_9 => (r_10 = r_4 → ((r_4 = 0 → ((vp_in 0 1) ∧ (((lg_cmp (w_9.2.2.1 (0 : Int32).toNatClampNeg) ((r_8).toInt64)) = 0 → (post w_9)) ∧ (¬ ((lg_cmp (w_9.2.2.1 (0 : Int32).toNatClampNeg) ((r_8).toInt64)) = 0) → False)))) ∧ (¬ (r_4 = 0) → (post w_9)))) ∧ (¬ (r_10 = r_4) → False))))))))
set_option maxHeartbeats 4000000 in
set_option maxRecDepth 100000 in
theorem mL_C32 {p : Program} {l : Launch} {e : Env} {s : State} {m : MethodId} {below : List Frame} {meth : Method} {c : Code} {D : va_G} {ca : Nat → ClassId} {ad : Nat → Nat} {base b L : Nat} {xs : Nat → Int32} (C0 : LX p l s m c D ca ad base b L xs) {Q : State → Prop} {cells slots : Nat} (hcel : cells + 4 ≤ 603072) (hslo : slots + 24 ≤ 7215210) (i0 : Int32) (w : St) (post : St → Prop) (hw : wpL_C32 xs L i0 w post) (hK : ∀ (w : St), post w → ∀ (H : Heap) (locs : List Loc), PA D ca ad w H → va_S (AB base) s.heap H locs → ∀ ls : Array Slot, lv_has ls 10 [(0, .ref b), (1, .ref (ad 0)), (2, .ref (ad 33)), (3, .ref (ad 59)), (4, .ref (ad 60)), (5, .int i0)] → W p l e room_1 s m #[Value.ref b] below meth c H locs (cells + 4) (slots + 24) Q (F0 m 2692 ls [])) (H : Heap) (locs : List Loc) (hP : PA D ca ad w H) (hS : va_S (AB base) s.heap H locs) (ls : Array Slot) (hl : lv_has ls 10 [(0, .ref b), (1, .ref (ad 0)), (2, .ref (ad 33)), (3, .ref (ad 59)), (4, .ref (ad 60)), (5, .int i0)]) : W p l e room_1 s m #[Value.ref b] below meth c H locs cells slots Q (F0 m 2308 ls []) := by
  obtain ⟨hx, hb, hml, hown, hts, hK0, hXP, hAd, hbs, hX, hbl, hbA, hl9⟩ := C0
  refine lv_aload_n hx hb dL_law_2308 rfl (lv_at hl 1 rfl) ?_
  refine lv_aload_n hx hb dL_law_2309 rfl (lv_at hl 0 rfl) ?_
  refine lv_iload hx hb dL_law_2310 (lv_at hl 5 rfl) ?_
  refine lv_iconst (v := 1) hx hb dL_law_2312 (by decide) ?_
  refine lv_iadd hx hb dL_law_2313 ?_
  obtain ⟨h_1, hw⟩ := hw
  refine va_sld hx hb hX hbl hbA hS h_1 dL_law_2314 ?_
  refine lv_aload_n hx hb dL_law_2315 rfl (lv_at hl 0 rfl) ?_
  refine lv_iload hx hb dL_law_2316 (lv_at hl 5 rfl) ?_
  refine lv_iconst (v := 2) hx hb dL_law_2318 (by decide) ?_
  refine lv_iadd hx hb dL_law_2319 ?_
  obtain ⟨h_2, hw⟩ := hw
  refine va_sld hx hb hX hbl hbA hS h_2 dL_law_2320 ?_
  refine lv_aload_n hx hb dL_law_2321 rfl (lv_at hl 3 rfl) ?_
  refine va_calli (vx_runSW (As := [.ref (ad 0), .int (xs ((i0 + 1)).toNatClampNeg), .int (xs ((i0 + 2)).toNatClampNeg), .ref (ad 59)]) (rest := []) ⟨hx, hb, hml, hown, hts⟩ (mL_kept l D ca ad base hAd w (xs ((i0 + 1)).toNatClampNeg) (xs ((i0 + 2)).toNatClampNeg) _ hw hl9) (vx_cwSW 4 hts gL_law_L_kept rfl rfl rfl (by decide +kernel) ⟨Nat.le_of_ble_eq_true rfl, Nat.le_of_ble_eq_true rfl⟩) (psx [.ref (ad 0), .int (xs ((i0 + 1)).toNatClampNeg), .int (xs ((i0 + 2)).toNatClampNeg), .ref (ad 59)] hK0 hXP hP hbs hS) rfl rfl hl.1 rfl (lv_room (Nat.le_of_ble_eq_true rfl)) dL_law_2322 ⟨by simp only [room_1]; omega, by simp only [room_1]; omega⟩) hS (fun q _ h => h) (fun q h => h) (fun r_4 w_3 t H locs ht hvm hw hP hz1 hk1 hS => ?_)
  have hP : PA D ca ad w_3 H := by rw [← ht]; exact hP
  refine lv_istore (lv' := [(6, .int r_4), (0, .ref b), (1, .ref (ad 0)), (2, .ref (ad 33)), (3, .ref (ad 59)), (4, .ref (ad 60)), (5, .int i0)]) hx hb dL_law_2325 hl (by decide) rfl (fun ls hl => ?_)
  refine lv_aload_n hx hb dL_law_2327 rfl (lv_at hl 3 rfl) ?_
  refine lv_aload_n hx hb dL_law_2328 rfl (lv_at hl 1 rfl) ?_
  refine lv_iload hx hb dL_law_2329 (lv_at hl 6 rfl) ?_
  refine lv_iconst (v := 1) hx hb dL_law_2331 (by decide) ?_
  refine lv_iadd hx hb dL_law_2332 ?_
  obtain ⟨h_5, hw⟩ := hw
  refine va_sld hx hb hX hbl hbA hS h_5 dL_law_2333 ?_
  refine lv_aload_n hx hb dL_law_2334 rfl (lv_at hl 1 rfl) ?_
  refine lv_iload hx hb dL_law_2335 (lv_at hl 6 rfl) ?_
  refine lv_iconst (v := 2) hx hb dL_law_2337 (by decide) ?_
  refine lv_iadd hx hb dL_law_2338 ?_
  obtain ⟨h_6, hw⟩ := hw
  refine va_sld hx hb hX hbl hbA hS h_6 dL_law_2339 ?_
  refine va_calli (va_runV (As := [.int (xs ((i0 + 1)).toNatClampNeg), .int (xs ((i0 + 2)).toNatClampNeg)]) (rest := []) ⟨hx, hb, hml, hown, hts⟩ (mX5_kept l D ca ad base hAd w_3 (xs ((i0 + 1)).toNatClampNeg) (xs ((i0 + 2)).toNatClampNeg) _ hw) (cwV 2 hts gL_law_X5_kept rfl rfl rfl (by decide +kernel) ⟨Nat.le_of_ble_eq_true rfl, Nat.le_of_ble_eq_true rfl⟩) (pv [.int (xs ((i0 + 1)).toNatClampNeg), .int (xs ((i0 + 2)).toNatClampNeg)] hK0 hP hbs hS rfl (wg33 ca ad w_3)) rfl rfl hl.1 rfl (lv_room (Nat.le_of_ble_eq_true rfl)) dL_law_2340 ⟨by simp only [room_1]; omega, by simp only [room_1]; omega⟩) hS (fun q _ h => h) (fun q h => h) (fun r_8 w_7 t H locs ht hvm hw hP hz1 hk1 hS => ?_)
  have hP : PA D ca ad w_7 H := by rw [← ht]; exact hP
  refine lv_istore (lv' := [(7, .int r_8), (6, .int r_4), (0, .ref b), (1, .ref (ad 0)), (2, .ref (ad 33)), (3, .ref (ad 59)), (4, .ref (ad 60)), (5, .int i0)]) hx hb dL_law_2343 hl (by decide) rfl (fun ls hl => ?_)
  refine lv_aload_n hx hb dL_law_2345 rfl (lv_at hl 4 rfl) ?_
  refine va_calli (va_runV (As := []) (rest := []) ⟨hx, hb, hml, hown, hts⟩ (mX5_thrown l D ca ad base hAd w_7 _ hw) (cwV 0 hts gL_law_X5_thrown rfl rfl rfl (by decide +kernel) ⟨Nat.le_of_ble_eq_true rfl, Nat.le_of_ble_eq_true rfl⟩) (pv [] hK0 hP hbs hS rfl (wg33 ca ad w_7)) rfl rfl hl.1 rfl (lv_room (Nat.le_of_ble_eq_true rfl)) dL_law_2346 ⟨by simp only [room_1]; omega, by simp only [room_1]; omega⟩) hS (fun q _ h => h) (fun q h => h) (fun r_10 w_9 t H locs ht hvm hw hP hz1 hk1 hS => ?_)
  have hP : PA D ca ad w_9 H := by rw [← ht]; exact hP
  refine lv_iload hx hb dL_law_2349 (lv_at hl 1 rfl) ?_
  refine lv_icmp_eq (tgt := 2356) hx hb dL_law_2351 (by decide) (fun c_11 => ?_) (fun c_11 => ?_)
  · have hw := hw.1 c_11
    refine lv_iload hx hb dL_law_2356 (lv_at hl 1 rfl) ?_
    refine lv_if_ne (tgt := 2373) hx hb dL_law_2358 (by decide) (fun c_12 => ?_) (fun c_12 => ?_)
    · have hw := hw.2 c_12
      refine lv_goto (tgt := 2692) hx hb dL_law_2373 (by decide) ?_
      refine W.widen (k := cells + 4) (n := slots + 24) (by omega) (by omega) ?_
      exact hK w_9 hw _ _ hP hS ls (lv_sub hl [2, 3, 4, 5, 6, 7] rfl)
    · have hw := hw.1 c_12
      refine lv_aload_n hx hb dL_law_2361 rfl (lv_at hl 5 rfl) ?_
      refine lv_iconst (v := 0) hx hb dL_law_2362 (by decide) ?_
      obtain ⟨h_13, hw⟩ := hw
      refine va_lald hx hb hK0 hP 59 3 (wg59 ca ad w_9) rfl h_13 dL_law_2363 ?_
      refine lv_iload hx hb dL_law_2364 (lv_at hl 0 rfl) ?_
      refine lv_i2l (v := (r_8).toInt64) hx hb dL_law_2366 rfl ?_
      refine W.lcmp hx hb dL_law_2367 ?_
      refine lv_if_eq (tgt := 2373) hx hb dL_law_2368 (by decide) (fun c_14 => ?_) (fun c_14 => ?_)
      · have hw := hw.1 c_14
        refine lv_goto (tgt := 2692) hx hb dL_law_2373 (by decide) ?_
        refine W.widen (k := cells + 4) (n := slots + 24) (by omega) (by omega) ?_
        exact hK w_9 hw _ _ hP hS ls (lv_sub hl [2, 3, 4, 5, 6, 7] rfl)
      · have hw := hw.2 c_14
        refine lv_iconst (v := 0) hx hb dL_law_2371 (by decide) ?_
        exact hw.elim
  · have hw := hw.2 c_11
    refine lv_iconst (v := 0) hx hb dL_law_2354 (by decide) ?_
    exact hw.elim
