set_option maxHeartbeats 4000000 in
set_option maxRecDepth 100000 in
def wpX1_isFree_B20 (a0 : Int32) (a1 : Int32) (post : Int32 → St → Prop) (w : St) : Prop := post 1 w
set_option maxHeartbeats 4000000 in
set_option maxRecDepth 100000 in
def wpX1_isFree (a0 : Int32) (a1 : Int32) (w : St) (post : Int32 → St → Prop) : Prop := (vp_in a0 4) ∧ (((w.1 14 (a0).toNatClampNeg) = (-1) → (wpX1_isFree_B20 a0 a1 post w)) ∧ (¬ ((w.1 14 (a0).toNatClampNeg) = (-1)) → ((vp_in a0 4) ∧ ((a1 < (w.1 15 (a0).toNatClampNeg) → (post 0 w)) ∧ (¬ (a1 < (w.1 15 (a0).toNatClampNeg)) → (wpX1_isFree_B20 a0 a1 post w))))))
set_option maxHeartbeats 4000000 in
set_option maxRecDepth 100000 in
theorem mX1_isFree (l : Launch) (D : va_G) (ca : Nat → ClassId) (ad : Nat → Nat) (base : Nat) (hAd : okA base ad) (w : St) (a0 : Int32) (a1 : Int32) (post : Int32 → St → Prop) (hw : wpX1_isFree a0 a1 w post) : Met l yX1_isFree wsX1_isFree ({ frames := 0, cells := 0, slots := 0, locals := 0 } : Room) (va_Pc [.ref (ad 13), .int a0, .int a1] (BU D ca ad base w)) (va_Qi post (Bp D ca ad) (AB base)) 0 0 (AB base) := by
  refine Met.ofW (cc := cX1_isFree) (maxL := 3) (ret := (some .boolean)) (by decide) rfl ?_
  intro p e s m args below meth c s₁ B hml hv
  obtain ⟨rfl, hbs, hP, hK⟩ := hv
  have hx := B.exec
  have hb := B.bytes
  have hr := B.returns
  have hts := atoms_spec (ws := wsX1_isFree) B.pre
  have hown : s.vm.findClass RX1 = some m.cls := findClass_of_methodNamed B.named
  have hlocks := B.notSynchronized
  have in_X1 : ∀ w ∈ wsX10, w ∈ wsX1_isFree := by decide +kernel
  have lk_11 := hts (.fieldLink RX1 11 "LockQuorum$Locks" "owner" "[I") (by decide +kernel)
  have lk_15 := hts (.fieldLink RX1 15 "LockQuorum$Locks" "end" "[I") (by decide +kernel)
  have hS : va_S (AB base) s.heap s.heap [] := va_S.rf
  have hB20 : ∀ (w : St), wpX1_isFree_B20 a0 a1 post w → ∀ (H : Heap) (locs : List Loc), PA D ca ad w H → va_S (AB base) s.heap H locs → ∀ ls : Array Slot, lv_has ls 3 [] → W p l e (headSpec wsX1_isFree ({ frames := 0, cells := 0, slots := 0, locals := 0 } : Room)).room s m ([Value.ref (ad 13), Value.int a0, Value.int a1].toArray) below meth c H locs 0 0 (MQ below (va_Qi post (Bp D ca ad) (AB base)) ([Value.ref (ad 13), Value.int a0, Value.int a1].toArray) s 0 0 (AB base)) (F0 m 20 ls []) := by
    intro w hw H locs hP hS ls hl
    refine lv_iconst (v := 1) hx hb dX1_isFree_20 (by decide) ?_
    refine lv_goto (tgt := 25) hx hb dX1_isFree_21 (by decide) ?_
    exact W.zret (v := 1) hx hb hr (by decide) (fun t ht hW => ⟨⟨1, w, rfl, hw, by show PA D ca ad w t.heap; rw [ht]; exact hP⟩, hS.F ht⟩) hS.2.2 dX1_isFree_25
  have hl := lv_entry ([.ref (ad 13), .int a0, .int a1]) (n := 3) (Nat.le_of_ble_eq_true rfl)
  rw [lg_entry_eq]
  generalize (lg_sl ([.ref (ad 13), .int a0, .int a1]) ++ List.replicate (3 - (lg_sl ([.ref (ad 13), .int a0, .int a1])).length) Slot.unset).toArray = ls at hl ⊢
  have hl : lv_has ls 3 [(0, .ref (ad 13)), (1, .int a0), (2, .int a1)] := hl
  refine lv_aload_n hx hb dX1_isFree_0 rfl (lv_at hl 0 rfl) ?_
  refine va_get (D := D) (ci := 3) (v := .ref (ad 14)) (C := RX1) (T := TX1) (N := 6) hx hb hts in_X1 hown hK hP 13 (wg13 ca ad w) rfl 0 (by decide) lk_11 (fun _ h9 => h9) rfl dX1_isFree_1 ?_
  refine lv_iload_n hx hb dX1_isFree_4 rfl (lv_at hl 1 rfl) ?_
  obtain ⟨h_1, hw⟩ := hw
  refine va_iald hx hb hK hP 14 0 (wg14 ca ad w) rfl h_1 dX1_isFree_5 ?_
  refine lv_iconst (v := (-1)) hx hb dX1_isFree_6 (by decide) ?_
  refine lv_icmp_eq (tgt := 20) hx hb dX1_isFree_7 (by decide) (fun c_2 => ?_) (fun c_2 => ?_)
  · have hw := hw.1 c_2
    exact hB20 w hw _ _ hP hS ls (lv_sub hl [] rfl)
  · have hw := hw.2 c_2
    refine lv_aload_n hx hb dX1_isFree_10 rfl (lv_at hl 0 rfl) ?_
    refine va_get (D := D) (ci := 3) (v := .ref (ad 15)) (C := RX1) (T := TX1) (N := 6) hx hb hts in_X1 hown hK hP 13 (wg13 ca ad w) rfl 1 (by decide) lk_15 (fun _ h9 => h9) rfl dX1_isFree_11 ?_
    refine lv_iload_n hx hb dX1_isFree_14 rfl (lv_at hl 1 rfl) ?_
    obtain ⟨h_3, hw⟩ := hw
    refine va_iald hx hb hK hP 15 0 (wg15 ca ad w) rfl h_3 dX1_isFree_15 ?_
    refine lv_iload_n hx hb dX1_isFree_16 rfl (lv_at hl 2 rfl) ?_
    refine lv_icmp_gt (tgt := 24) hx hb dX1_isFree_17 (by decide) (fun c_4 => ?_) (fun c_4 => ?_)
    · have hw := hw.1 c_4
      refine lv_iconst (v := 0) hx hb dX1_isFree_24 (by decide) ?_
      exact W.zret (v := 0) hx hb hr (by decide) (fun t ht hW => ⟨⟨0, w, rfl, hw, by show PA D ca ad w t.heap; rw [ht]; exact hP⟩, hS.F ht⟩) hS.2.2 dX1_isFree_25
    · have hw := hw.2 c_4
      exact hB20 w hw _ _ hP hS ls (lv_sub hl [] rfl)
set_option maxHeartbeats 4000000 in
set_option maxRecDepth 100000 in
def wpX1_isHeldBy (a0 : Int32) (a1 : Int32) (a2 : Int32) (w : St) (post : Int32 → St → Prop) : Prop := wpX1_isFree a0 a2 w (fun r_2 w_1 => (r_2 = 0 → ((vp_in a0 4) ∧ (((w_1.1 14 (a0).toNatClampNeg) = a1 → (post 1 w_1)) ∧ (¬ ((w_1.1 14 (a0).toNatClampNeg) = a1) → (post 0 w_1))))) ∧ (¬ (r_2 = 0) → (post 0 w_1)))
set_option maxHeartbeats 4000000 in
set_option maxRecDepth 100000 in
theorem mX1_isHeldBy (l : Launch) (D : va_G) (ca : Nat → ClassId) (ad : Nat → Nat) (base : Nat) (hAd : okA base ad) (w : St) (a0 : Int32) (a1 : Int32) (a2 : Int32) (post : Int32 → St → Prop) (hw : wpX1_isHeldBy a0 a1 a2 w post) : Met l yX1_isHeldBy wsX1_isHeldBy ({ frames := 1, cells := 0, slots := 0, locals := 22 } : Room) (va_Pc [.ref (ad 13), .int a0, .int a1, .int a2] (BU D ca ad base w)) (va_Qi post (Bp D ca ad) (AB base)) 0 0 (AB base) := by
  refine Met.ofW (cc := cX1_isHeldBy) (maxL := 4) (ret := (some .boolean)) (by decide) rfl ?_
  intro p e s m args below meth c s₁ B hml hv
  obtain ⟨rfl, hbs, hP, hK⟩ := hv
  have hx := B.exec
  have hb := B.bytes
  have hr := B.returns
  have hts := atoms_spec (ws := wsX1_isHeldBy) B.pre
  have hown : s.vm.findClass RX1 = some m.cls := findClass_of_methodNamed B.named
  have hlocks := B.notSynchronized
  have in_X1 : ∀ w ∈ wsX10, w ∈ wsX1_isHeldBy := by decide +kernel
  have lk_11 := hts (.fieldLink RX1 11 "LockQuorum$Locks" "owner" "[I") (by decide +kernel)
  have hS : va_S (AB base) s.heap s.heap [] := va_S.rf
  have hl := lv_entry ([.ref (ad 13), .int a0, .int a1, .int a2]) (n := 4) (Nat.le_of_ble_eq_true rfl)
  rw [lg_entry_eq]
  generalize (lg_sl ([.ref (ad 13), .int a0, .int a1, .int a2]) ++ List.replicate (4 - (lg_sl ([.ref (ad 13), .int a0, .int a1, .int a2])).length) Slot.unset).toArray = ls at hl ⊢
  have hl : lv_has ls 4 [(0, .ref (ad 13)), (1, .int a0), (2, .int a1), (3, .int a2)] := hl
  refine lv_aload_n hx hb dX1_isHeldBy_0 rfl (lv_at hl 0 rfl) ?_
  refine lv_iload_n hx hb dX1_isHeldBy_1 rfl (lv_at hl 1 rfl) ?_
  refine lv_iload_n hx hb dX1_isHeldBy_2 rfl (lv_at hl 3 rfl) ?_
  refine va_calli (va_runV (As := [.int a0, .int a2]) (rest := []) ⟨hx, hb, hml, hown, hts⟩ (mX1_isFree l D ca ad base hAd w a0 a2 _ hw) (cwV 2 hts gX1_isHeldBy_X1_isFree rfl rfl rfl (by decide +kernel) ⟨Nat.le_of_ble_eq_true rfl, Nat.le_of_ble_eq_true rfl⟩) (pv [.int a0, .int a2] hK hP hbs hS rfl (wg13 ca ad w)) rfl rfl hl.1 rfl (lv_room (Nat.le_of_ble_eq_true rfl)) dX1_isHeldBy_3 ⟨Nat.le_of_ble_eq_true rfl, Nat.le_of_ble_eq_true rfl⟩) hS (fun q _ h => h) (fun q h => h) (fun r_2 w_1 t H locs ht hvm hw hP hz1 hk1 hS => ?_)
  have hP : PA D ca ad w_1 H := by rw [← ht]; exact hP
  refine lv_if_ne (tgt := 23) hx hb dX1_isHeldBy_6 (by decide) (fun c_3 => ?_) (fun c_3 => ?_)
  · have hw := hw.2 c_3
    refine lv_iconst (v := 0) hx hb dX1_isHeldBy_23 (by decide) ?_
    exact W.zret (v := 0) hx hb hr (by decide) (fun t ht hW => ⟨⟨0, w_1, rfl, hw, by show PA D ca ad w_1 t.heap; rw [ht]; exact hP⟩, hS.F ht⟩) hS.2.2 dX1_isHeldBy_24
  · have hw := hw.1 c_3
    refine lv_aload_n hx hb dX1_isHeldBy_9 rfl (lv_at hl 0 rfl) ?_
    refine va_get (D := D) (ci := 3) (v := .ref (ad 14)) (C := RX1) (T := TX1) (N := 6) hx hb hts in_X1 hown hK hP 13 (wg13 ca ad w_1) rfl 0 (by decide) lk_11 (fun _ h9 => h9) rfl dX1_isHeldBy_10 ?_
    refine lv_iload_n hx hb dX1_isHeldBy_13 rfl (lv_at hl 1 rfl) ?_
    obtain ⟨h_4, hw⟩ := hw
    refine va_iald hx hb hK hP 14 0 (wg14 ca ad w_1) rfl h_4 dX1_isHeldBy_14 ?_
    refine lv_iload_n hx hb dX1_isHeldBy_15 rfl (lv_at hl 2 rfl) ?_
    refine lv_icmp_ne (tgt := 23) hx hb dX1_isHeldBy_16 (by decide) (fun c_5 => ?_) (fun c_5 => ?_)
    · have hw := hw.2 c_5
      refine lv_iconst (v := 0) hx hb dX1_isHeldBy_23 (by decide) ?_
      exact W.zret (v := 0) hx hb hr (by decide) (fun t ht hW => ⟨⟨0, w_1, rfl, hw, by show PA D ca ad w_1 t.heap; rw [ht]; exact hP⟩, hS.F ht⟩) hS.2.2 dX1_isHeldBy_24
    · have hw := hw.1 c_5
      refine lv_iconst (v := 1) hx hb dX1_isHeldBy_19 (by decide) ?_
      refine lv_goto (tgt := 24) hx hb dX1_isHeldBy_20 (by decide) ?_
      exact W.zret (v := 1) hx hb hr (by decide) (fun t ht hW => ⟨⟨1, w_1, rfl, hw, by show PA D ca ad w_1 t.heap; rw [ht]; exact hP⟩, hS.F ht⟩) hS.2.2 dX1_isHeldBy_24
set_option maxHeartbeats 4000000 in
set_option maxRecDepth 100000 in
def wpX1_isNext_B21 (a0 : Int32) (a1 : Int32) (post : Int32 → St → Prop) (w : St) : Prop := post 1 w
set_option maxHeartbeats 4000000 in
set_option maxRecDepth 100000 in
def wpX1_isNext (a0 : Int32) (a1 : Int32) (w : St) (post : Int32 → St → Prop) : Prop := (vp_in a0 4) ∧ (((w.1 18 (a0).toNatClampNeg) = 0 → (wpX1_isNext_B21 a0 a1 post w)) ∧ (¬ ((w.1 18 (a0).toNatClampNeg) = 0) → ((vp_in a0 4) ∧ (((a0).toNatClampNeg < 4) ∧ ((vp_in 0 6) ∧ (((w.1 (20 + (a0).toNatClampNeg) (0 : Int32).toNatClampNeg) = a1 → (wpX1_isNext_B21 a0 a1 post w)) ∧ (¬ ((w.1 (20 + (a0).toNatClampNeg) (0 : Int32).toNatClampNeg) = a1) → (post 0 w))))))))
set_option maxHeartbeats 4000000 in
set_option maxRecDepth 100000 in
theorem mX1_isNext (l : Launch) (D : va_G) (ca : Nat → ClassId) (ad : Nat → Nat) (base : Nat) (hAd : okA base ad) (w : St) (a0 : Int32) (a1 : Int32) (post : Int32 → St → Prop) (hw : wpX1_isNext a0 a1 w post) : Met l yX1_isNext wsX1_isNext ({ frames := 0, cells := 0, slots := 0, locals := 0 } : Room) (va_Pc [.ref (ad 13), .int a0, .int a1] (BU D ca ad base w)) (va_Qi post (Bp D ca ad) (AB base)) 0 0 (AB base) := by
  refine Met.ofW (cc := cX1_isNext) (maxL := 3) (ret := (some .boolean)) (by decide) rfl ?_
  intro p e s m args below meth c s₁ B hml hv
  obtain ⟨rfl, hbs, hP, hK⟩ := hv
  have hx := B.exec
  have hb := B.bytes
  have hr := B.returns
  have hts := atoms_spec (ws := wsX1_isNext) B.pre
  have hown : s.vm.findClass RX1 = some m.cls := findClass_of_methodNamed B.named
  have hlocks := B.notSynchronized
  have in_X1 : ∀ w ∈ wsX10, w ∈ wsX1_isNext := by decide +kernel
  have lk_24 := hts (.fieldLink RX1 24 "LockQuorum$Locks" "queued" "[I") (by decide +kernel)
  have lk_31 := hts (.fieldLink RX1 31 "LockQuorum$Locks" "queue" "[[I") (by decide +kernel)
  have hS : va_S (AB base) s.heap s.heap [] := va_S.rf
  have hB21 : ∀ (w : St), wpX1_isNext_B21 a0 a1 post w → ∀ (H : Heap) (locs : List Loc), PA D ca ad w H → va_S (AB base) s.heap H locs → ∀ ls : Array Slot, lv_has ls 3 [] → W p l e (headSpec wsX1_isNext ({ frames := 0, cells := 0, slots := 0, locals := 0 } : Room)).room s m ([Value.ref (ad 13), Value.int a0, Value.int a1].toArray) below meth c H locs 0 0 (MQ below (va_Qi post (Bp D ca ad) (AB base)) ([Value.ref (ad 13), Value.int a0, Value.int a1].toArray) s 0 0 (AB base)) (F0 m 21 ls []) := by
    intro w hw H locs hP hS ls hl
    refine lv_iconst (v := 1) hx hb dX1_isNext_21 (by decide) ?_
    refine lv_goto (tgt := 26) hx hb dX1_isNext_22 (by decide) ?_
    exact W.zret (v := 1) hx hb hr (by decide) (fun t ht hW => ⟨⟨1, w, rfl, hw, by show PA D ca ad w t.heap; rw [ht]; exact hP⟩, hS.F ht⟩) hS.2.2 dX1_isNext_26
  have hl := lv_entry ([.ref (ad 13), .int a0, .int a1]) (n := 3) (Nat.le_of_ble_eq_true rfl)
  rw [lg_entry_eq]
  generalize (lg_sl ([.ref (ad 13), .int a0, .int a1]) ++ List.replicate (3 - (lg_sl ([.ref (ad 13), .int a0, .int a1])).length) Slot.unset).toArray = ls at hl ⊢
  have hl : lv_has ls 3 [(0, .ref (ad 13)), (1, .int a0), (2, .int a1)] := hl
  refine lv_aload_n hx hb dX1_isNext_0 rfl (lv_at hl 0 rfl) ?_
  refine va_get (D := D) (ci := 3) (v := .ref (ad 18)) (C := RX1) (T := TX1) (N := 6) hx hb hts in_X1 hown hK hP 13 (wg13 ca ad w) rfl 4 (by decide) lk_24 (fun _ h9 => h9) rfl dX1_isNext_1 ?_
  refine lv_iload_n hx hb dX1_isNext_4 rfl (lv_at hl 1 rfl) ?_
  obtain ⟨h_1, hw⟩ := hw
  refine va_iald hx hb hK hP 18 0 (wg18 ca ad w) rfl h_1 dX1_isNext_5 ?_
  refine lv_if_eq (tgt := 21) hx hb dX1_isNext_6 (by decide) (fun c_2 => ?_) (fun c_2 => ?_)
  · have hw := hw.1 c_2
    exact hB21 w hw _ _ hP hS ls (lv_sub hl [] rfl)
  · have hw := hw.2 c_2
    refine lv_aload_n hx hb dX1_isNext_9 rfl (lv_at hl 0 rfl) ?_
    refine va_get (D := D) (ci := 3) (v := .ref (ad 19)) (C := RX1) (T := TX1) (N := 6) hx hb hts in_X1 hown hK hP 13 (wg13 ca ad w) rfl 5 (by decide) lk_31 (fun _ h9 => h9) rfl dX1_isNext_10 ?_
    refine lv_iload_n hx hb dX1_isNext_13 rfl (lv_at hl 1 rfl) ?_
    obtain ⟨h_3, hw⟩ := hw
    refine va_ldq4 hx hb hK hP h_3 dX1_isNext_14 ?_
    refine lv_iconst (v := 0) hx hb dX1_isNext_15 (by decide) ?_
    obtain ⟨q_5, h_4, hw⟩ := hw
    refine va_iald hx hb hK hP (20 + (a0).toNatClampNeg) 0 (wgq ca ad w q_5) rfl h_4 dX1_isNext_16 ?_
    refine lv_iload_n hx hb dX1_isNext_17 rfl (lv_at hl 2 rfl) ?_
    refine lv_icmp_ne (tgt := 25) hx hb dX1_isNext_18 (by decide) (fun c_6 => ?_) (fun c_6 => ?_)
    · have hw := hw.2 c_6
      refine lv_iconst (v := 0) hx hb dX1_isNext_25 (by decide) ?_
      exact W.zret (v := 0) hx hb hr (by decide) (fun t ht hW => ⟨⟨0, w, rfl, hw, by show PA D ca ad w t.heap; rw [ht]; exact hP⟩, hS.F ht⟩) hS.2.2 dX1_isNext_26
    · have hw := hw.1 c_6
      exact hB21 w hw _ _ hP hS ls (lv_sub hl [] rfl)
set_option maxHeartbeats 4000000 in
set_option maxRecDepth 100000 in
def wpX1_placeOf_L2 (a0 : Int32) (a1 : Int32) (post : Int32 → St → Prop) : Nat → Int32 → St → Prop
  | 0, _, _ => False
  | n + 1, v3, w => (vp_in a0 4) ∧ (((w.1 18 (a0).toNatClampNeg) ≤ v3 → (post (-1) w)) ∧ (¬ ((w.1 18 (a0).toNatClampNeg) ≤ v3) → ((vp_in a0 4) ∧ (((a0).toNatClampNeg < 4) ∧ ((vp_in v3 6) ∧ (((w.1 (20 + (a0).toNatClampNeg) (v3).toNatClampNeg) = a1 → (post v3 w)) ∧ (¬ ((w.1 (20 + (a0).toNatClampNeg) (v3).toNatClampNeg) = a1) → (wpX1_placeOf_L2 a0 a1 post n (v3 + 1) w))))))))
set_option maxHeartbeats 4000000 in
set_option maxRecDepth 100000 in
def wpX1_placeOf (a0 : Int32) (a1 : Int32) (w : St) (post : Int32 → St → Prop) : Prop := ∃ n : Nat, wpX1_placeOf_L2 a0 a1 post n 0 w
set_option maxHeartbeats 4000000 in
set_option maxRecDepth 100000 in
theorem mX1_placeOf (l : Launch) (D : va_G) (ca : Nat → ClassId) (ad : Nat → Nat) (base : Nat) (hAd : okA base ad) (w : St) (a0 : Int32) (a1 : Int32) (post : Int32 → St → Prop) (hw : wpX1_placeOf a0 a1 w post) : Met l yX1_placeOf wsX1_placeOf ({ frames := 0, cells := 0, slots := 0, locals := 0 } : Room) (va_Pc [.ref (ad 13), .int a0, .int a1] (BU D ca ad base w)) (va_Qi post (Bp D ca ad) (AB base)) 0 0 (AB base) := by
  refine Met.ofW (cc := cX1_placeOf) (maxL := 4) (ret := (some .int)) (by decide) rfl ?_
  intro p e s m args below meth c s₁ B hml hv
  obtain ⟨rfl, hbs, hP, hK⟩ := hv
  have hx := B.exec
  have hb := B.bytes
  have hr := B.returns
  have hts := atoms_spec (ws := wsX1_placeOf) B.pre
  have hown : s.vm.findClass RX1 = some m.cls := findClass_of_methodNamed B.named
  have hlocks := B.notSynchronized
  have in_X1 : ∀ w ∈ wsX10, w ∈ wsX1_placeOf := by decide +kernel
  have lk_24 := hts (.fieldLink RX1 24 "LockQuorum$Locks" "queued" "[I") (by decide +kernel)
  have lk_31 := hts (.fieldLink RX1 31 "LockQuorum$Locks" "queue" "[[I") (by decide +kernel)
  have hS : va_S (AB base) s.heap s.heap [] := va_S.rf
  have hB2 : ∀ (n : Nat) (v3 : Int32) (w : St), wpX1_placeOf_L2 a0 a1 post n v3 w → ∀ (H : Heap) (locs : List Loc), PA D ca ad w H → va_S (AB base) s.heap H locs → ∀ ls : Array Slot, lv_has ls 4 [(0, .ref (ad 13)), (1, .int a0), (2, .int a1), (3, .int v3)] → W p l e (headSpec wsX1_placeOf ({ frames := 0, cells := 0, slots := 0, locals := 0 } : Room)).room s m ([Value.ref (ad 13), Value.int a0, Value.int a1].toArray) below meth c H locs 0 0 (MQ below (va_Qi post (Bp D ca ad) (AB base)) ([Value.ref (ad 13), Value.int a0, Value.int a1].toArray) s 0 0 (AB base)) (F0 m 2 ls []) := by
    intro n
    induction n with
    | zero => intro v3 w hw; exact hw.elim
    | succ n ih2 =>
      intro v3 w hw H locs hP hS ls hl
      refine lv_iload_n hx hb dX1_placeOf_2 rfl (lv_at hl 3 rfl) ?_
      refine lv_aload_n hx hb dX1_placeOf_3 rfl (lv_at hl 0 rfl) ?_
      refine va_get (D := D) (ci := 3) (v := .ref (ad 18)) (C := RX1) (T := TX1) (N := 6) hx hb hts in_X1 hown hK hP 13 (wg13 ca ad w) rfl 4 (by decide) lk_24 (fun _ h9 => h9) rfl dX1_placeOf_4 ?_
      refine lv_iload_n hx hb dX1_placeOf_7 rfl (lv_at hl 1 rfl) ?_
      obtain ⟨h_1, hw⟩ := hw
      refine va_iald hx hb hK hP 18 0 (wg18 ca ad w) rfl h_1 dX1_placeOf_8 ?_
      refine lv_icmp_ge (tgt := 32) hx hb dX1_placeOf_9 (by decide) (fun c_2 => ?_) (fun c_2 => ?_)
      · have hw := hw.1 c_2
        refine lv_iconst (v := (-1)) hx hb dX1_placeOf_32 (by decide) ?_
        exact W.iret (v := (-1)) hx hb hr (fun t ht hW => ⟨⟨(-1), w, rfl, hw, by show PA D ca ad w t.heap; rw [ht]; exact hP⟩, hS.F ht⟩) hS.2.2 dX1_placeOf_33
      · have hw := hw.2 c_2
        refine lv_aload_n hx hb dX1_placeOf_12 rfl (lv_at hl 0 rfl) ?_
        refine va_get (D := D) (ci := 3) (v := .ref (ad 19)) (C := RX1) (T := TX1) (N := 6) hx hb hts in_X1 hown hK hP 13 (wg13 ca ad w) rfl 5 (by decide) lk_31 (fun _ h9 => h9) rfl dX1_placeOf_13 ?_
        refine lv_iload_n hx hb dX1_placeOf_16 rfl (lv_at hl 1 rfl) ?_
        obtain ⟨h_3, hw⟩ := hw
        refine va_ldq4 hx hb hK hP h_3 dX1_placeOf_17 ?_
        refine lv_iload_n hx hb dX1_placeOf_18 rfl (lv_at hl 3 rfl) ?_
        obtain ⟨q_5, h_4, hw⟩ := hw
        refine va_iald hx hb hK hP (20 + (a0).toNatClampNeg) 0 (wgq ca ad w q_5) rfl h_4 dX1_placeOf_19 ?_
        refine lv_iload_n hx hb dX1_placeOf_20 rfl (lv_at hl 2 rfl) ?_
        refine lv_icmp_ne (tgt := 26) hx hb dX1_placeOf_21 (by decide) (fun c_6 => ?_) (fun c_6 => ?_)
        · have hw := hw.2 c_6
          refine lv_iinc (v := (v3 + 1)) (lv' := [(3, .int (v3 + 1)), (0, .ref (ad 13)), (1, .int a0), (2, .int a1)]) hx hb dX1_placeOf_26 hl (k := 3) rfl rfl (by decide) rfl (fun ls hl => ?_)
          refine lv_goto (tgt := 2) hx hb dX1_placeOf_29 (by decide) ?_
          exact ih2 (v3 + 1) w hw _ _ hP hS ls (lv_sub hl [1, 2, 3, 0] rfl)
        · have hw := hw.1 c_6
          refine lv_iload_n hx hb dX1_placeOf_24 rfl (lv_at hl 3 rfl) ?_
          exact W.iret (v := v3) hx hb hr (fun t ht hW => ⟨⟨v3, w, rfl, hw, by show PA D ca ad w t.heap; rw [ht]; exact hP⟩, hS.F ht⟩) hS.2.2 dX1_placeOf_25
  have hl := lv_entry ([.ref (ad 13), .int a0, .int a1]) (n := 4) (Nat.le_of_ble_eq_true rfl)
  rw [lg_entry_eq]
  generalize (lg_sl ([.ref (ad 13), .int a0, .int a1]) ++ List.replicate (4 - (lg_sl ([.ref (ad 13), .int a0, .int a1])).length) Slot.unset).toArray = ls at hl ⊢
  have hl : lv_has ls 4 [(0, .ref (ad 13)), (1, .int a0), (2, .int a1)] := hl
  refine lv_iconst (v := 0) hx hb dX1_placeOf_0 (by decide) ?_
  refine lv_istore_n (lv' := [(3, .int 0), (0, .ref (ad 13)), (1, .int a0), (2, .int a1)]) hx hb dX1_placeOf_1 rfl hl (by decide) rfl (fun ls hl => ?_)
  obtain ⟨n_2, hw⟩ := hw
  exact hB2 n_2 0 w hw _ _ hP hS ls (lv_sub hl [1, 2, 3, 0] rfl)
set_option maxHeartbeats 4000000 in
set_option maxRecDepth 100000 in
def wpX1_takeOut_L34 (a0 : Int32) (a1 : Int32) (post : St → Prop) : Nat → Int32 → St → Prop
  | 0, _, _ => False
  | n + 1, v5, w => (vp_in a0 4) ∧ (((w.1 18 (a0).toNatClampNeg) ≤ v5 → (post w)) ∧ (¬ ((w.1 18 (a0).toNatClampNeg) ≤ v5) → (((a0).toNatClampNeg < 4) ∧ ((6 ≤ (v5 + 1) → (post w)) ∧ (¬ (6 ≤ (v5 + 1)) → (((a0).toNatClampNeg < 4) ∧ ((vp_in (v5 + 1) 6) ∧ (((a0).toNatClampNeg < 4) ∧ ((vp_in v5 6) ∧ (∀ w_8 : St, w_8 = (uA w (20 + (a0).toNatClampNeg) (upd (w.1 (20 + (a0).toNatClampNeg)) (v5).toNatClampNeg (w.1 (20 + (a0).toNatClampNeg) ((v5 + 1)).toNatClampNeg))) → wpX1_takeOut_L34 a0 a1 post n (v5 + 1) w_8))))))))))
set_option maxHeartbeats 4000000 in
set_option maxRecDepth 100000 in
def wpX1_takeOut (a0 : Int32) (a1 : Int32) (w : St) (post : St → Prop) : Prop := wpX1_placeOf a0 a1 w (fun r_12 w_11 => (r_12 = (-1) → (post w_11)) ∧ (¬ (r_12 = (-1)) → ((vp_in a0 4) ∧ ((vp_in a0 4) ∧ ((vp_in a0 4) ∧ (∀ w_17 : St, w_17 = (uA w_11 18 (upd (w_11.1 18) (a0).toNatClampNeg ((w_11.1 18 (a0).toNatClampNeg) - 1))) → ∃ n : Nat, wpX1_takeOut_L34 a0 a1 post n r_12 w_17))))))
set_option maxHeartbeats 4000000 in
set_option maxRecDepth 100000 in
theorem mX1_takeOut (l : Launch) (D : va_G) (ca : Nat → ClassId) (ad : Nat → Nat) (base : Nat) (hAd : okA base ad) (w : St) (a0 : Int32) (a1 : Int32) (post : St → Prop) (hw : wpX1_takeOut a0 a1 w post) : Met l yX1_takeOut wsX1_takeOut ({ frames := 1, cells := 0, slots := 0, locals := 23 } : Room) (va_Pc [.ref (ad 13), .int a0, .int a1] (BU D ca ad base w)) (va_Qv post (Bp D ca ad) (AB base)) 0 0 (AB base) := by
  refine Met.ofW (cc := cX1_takeOut) (maxL := 6) (ret := none) (by decide) rfl ?_
  intro p e s m args below meth c s₁ B hml hv
  obtain ⟨rfl, hbs, hP, hK⟩ := hv
  have hx := B.exec
  have hb := B.bytes
  have hr := B.returns
  have hts := atoms_spec (ws := wsX1_takeOut) B.pre
  have hown : s.vm.findClass RX1 = some m.cls := findClass_of_methodNamed B.named
  have hlocks := B.notSynchronized
  have in_X1 : ∀ w ∈ wsX10, w ∈ wsX1_takeOut := by decide +kernel
  have lk_24 := hts (.fieldLink RX1 24 "LockQuorum$Locks" "queued" "[I") (by decide +kernel)
  have lk_31 := hts (.fieldLink RX1 31 "LockQuorum$Locks" "queue" "[[I") (by decide +kernel)
  have hS : va_S (AB base) s.heap s.heap [] := va_S.rf
  have hB34 : ∀ (n : Nat) (v5 : Int32) (w : St), wpX1_takeOut_L34 a0 a1 post n v5 w → ∀ (H : Heap) (locs : List Loc), PA D ca ad w H → va_S (AB base) s.heap H locs → ∀ ls : Array Slot, lv_has ls 6 [(0, .ref (ad 13)), (1, .int a0), (4, .ref (ad (20 + (a0).toNatClampNeg))), (5, .int v5)] → W p l e (headSpec wsX1_takeOut ({ frames := 1, cells := 0, slots := 0, locals := 23 } : Room)).room s m ([Value.ref (ad 13), Value.int a0, Value.int a1].toArray) below meth c H locs 0 0 (MQ below (va_Qv post (Bp D ca ad) (AB base)) ([Value.ref (ad 13), Value.int a0, Value.int a1].toArray) s 0 0 (AB base)) (F0 m 34 ls []) := by
    intro n
    induction n with
    | zero => intro v5 w hw; exact hw.elim
    | succ n ih34 =>
      intro v5 w hw H locs hP hS ls hl
      refine lv_iload hx hb dX1_takeOut_34 (lv_at hl 3 rfl) ?_
      refine lv_aload_n hx hb dX1_takeOut_36 rfl (lv_at hl 0 rfl) ?_
      refine va_get (D := D) (ci := 3) (v := .ref (ad 18)) (C := RX1) (T := TX1) (N := 6) hx hb hts in_X1 hown hK hP 13 (wg13 ca ad w) rfl 4 (by decide) lk_24 (fun _ h9 => h9) rfl dX1_takeOut_37 ?_
      refine lv_iload_n hx hb dX1_takeOut_40 rfl (lv_at hl 1 rfl) ?_
      obtain ⟨h_1, hw⟩ := hw
      refine va_iald hx hb hK hP 18 0 (wg18 ca ad w) rfl h_1 dX1_takeOut_41 ?_
      refine lv_icmp_ge (tgt := 73) hx hb dX1_takeOut_42 (by decide) (fun c_2 => ?_) (fun c_2 => ?_)
      · have hw := hw.1 c_2
        exact W.vret hx hb hr (fun t ht hW => ⟨⟨w, rfl, hw, by show PA D ca ad w t.heap; rw [ht]; exact hP⟩, hS.F ht⟩) hS.2.2 dX1_takeOut_73
      · have hw := hw.2 c_2
        refine lv_iload hx hb dX1_takeOut_45 (lv_at hl 3 rfl) ?_
        refine lv_iconst (v := 1) hx hb dX1_takeOut_47 (by decide) ?_
        refine lv_iadd hx hb dX1_takeOut_48 ?_
        refine lv_aload hx hb dX1_takeOut_49 (lv_at hl 2 rfl) ?_
        obtain ⟨q_3, hw⟩ := hw
        refine va_alen hx hb hK hP (20 + (a0).toNatClampNeg) 0 (wgq ca ad w q_3) (ty := .int) rfl (v := 6) rfl dX1_takeOut_51 ?_
        refine lv_icmp_ge (tgt := 73) hx hb dX1_takeOut_52 (by decide) (fun c_4 => ?_) (fun c_4 => ?_)
        · have hw := hw.1 c_4
          exact W.vret hx hb hr (fun t ht hW => ⟨⟨w, rfl, hw, by show PA D ca ad w t.heap; rw [ht]; exact hP⟩, hS.F ht⟩) hS.2.2 dX1_takeOut_73
        · have hw := hw.2 c_4
          refine lv_aload hx hb dX1_takeOut_55 (lv_at hl 2 rfl) ?_
          refine lv_iload hx hb dX1_takeOut_57 (lv_at hl 3 rfl) ?_
          refine lv_aload hx hb dX1_takeOut_59 (lv_at hl 2 rfl) ?_
          refine lv_iload hx hb dX1_takeOut_61 (lv_at hl 3 rfl) ?_
          refine lv_iconst (v := 1) hx hb dX1_takeOut_63 (by decide) ?_
          refine lv_iadd hx hb dX1_takeOut_64 ?_
          obtain ⟨q_6, h_5, hw⟩ := hw
          refine va_iald hx hb hK hP (20 + (a0).toNatClampNeg) 0 (wgq ca ad w q_6) rfl h_5 dX1_takeOut_65 ?_
          obtain ⟨q_10, h_7, hw⟩ := hw
          refine va_iast hx hb hK hP (DA hAd) hS (20 + (a0).toNatClampNeg) 0 (wgq ca ad w q_10) rfl h_7 dX1_takeOut_66 (fun H locs hP hD hS => ?_)
          obtain ⟨w_8, e_9⟩ : ∃ z : St, z = (uA w (20 + (a0).toNatClampNeg) (upd (w.1 (20 + (a0).toNatClampNeg)) (v5).toNatClampNeg (w.1 (20 + (a0).toNatClampNeg) ((v5 + 1)).toNatClampNeg))) := ⟨_, rfl⟩
          have hP : PA D ca ad w_8 H := by rw [e_9]; exact wuq q_10 hP
          have hw := hw w_8 e_9
          refine lv_iinc (v := (v5 + 1)) (lv' := [(5, .int (v5 + 1)), (0, .ref (ad 13)), (1, .int a0), (4, .ref (ad (20 + (a0).toNatClampNeg)))]) hx hb dX1_takeOut_67 hl (k := 3) rfl rfl (by decide) rfl (fun ls hl => ?_)
          refine lv_goto (tgt := 34) hx hb dX1_takeOut_70 (by decide) ?_
          exact ih34 (v5 + 1) w_8 hw _ _ hP hS ls (lv_sub hl [1, 2, 3, 0] rfl)
  have hl := lv_entry ([.ref (ad 13), .int a0, .int a1]) (n := 6) (Nat.le_of_ble_eq_true rfl)
  rw [lg_entry_eq]
  generalize (lg_sl ([.ref (ad 13), .int a0, .int a1]) ++ List.replicate (6 - (lg_sl ([.ref (ad 13), .int a0, .int a1])).length) Slot.unset).toArray = ls at hl ⊢
  have hl : lv_has ls 6 [(0, .ref (ad 13)), (1, .int a0), (2, .int a1)] := hl
  refine lv_aload_n hx hb dX1_takeOut_0 rfl (lv_at hl 0 rfl) ?_
  refine lv_iload_n hx hb dX1_takeOut_1 rfl (lv_at hl 1 rfl) ?_
  refine lv_iload_n hx hb dX1_takeOut_2 rfl (lv_at hl 2 rfl) ?_
  refine va_calli (va_runV (As := [.int a0, .int a1]) (rest := []) ⟨hx, hb, hml, hown, hts⟩ (mX1_placeOf l D ca ad base hAd w a0 a1 _ hw) (cwV 2 hts gX1_takeOut_X1_placeOf rfl rfl rfl (by decide +kernel) ⟨Nat.le_of_ble_eq_true rfl, Nat.le_of_ble_eq_true rfl⟩) (pv [.int a0, .int a1] hK hP hbs hS rfl (wg13 ca ad w)) rfl rfl hl.1 rfl (lv_room (Nat.le_of_ble_eq_true rfl)) dX1_takeOut_3 ⟨Nat.le_of_ble_eq_true rfl, Nat.le_of_ble_eq_true rfl⟩) hS (fun q _ h => h) (fun q h => h) (fun r_12 w_11 t H locs ht hvm hw hP hz1 hk1 hS => ?_)
  have hP : PA D ca ad w_11 H := by rw [← ht]; exact hP
  refine lv_istore_n (lv' := [(3, .int r_12), (0, .ref (ad 13)), (1, .int a0), (2, .int a1)]) hx hb dX1_takeOut_6 rfl hl (by decide) rfl (fun ls hl => ?_)
  refine lv_iload_n hx hb dX1_takeOut_7 rfl (lv_at hl 0 rfl) ?_
  refine lv_iconst (v := (-1)) hx hb dX1_takeOut_8 (by decide) ?_
  refine lv_icmp_ne (tgt := 13) hx hb dX1_takeOut_9 (by decide) (fun c_13 => ?_) (fun c_13 => ?_)
  · have hw := hw.2 c_13
    refine lv_aload_n hx hb dX1_takeOut_13 rfl (lv_at hl 1 rfl) ?_
    refine va_get (D := D) (ci := 3) (v := .ref (ad 19)) (C := RX1) (T := TX1) (N := 6) hx hb hts in_X1 hown hK hP 13 (wg13 ca ad w_11) rfl 5 (by decide) lk_31 (fun _ h9 => h9) rfl dX1_takeOut_14 ?_
    refine lv_iload_n hx hb dX1_takeOut_17 rfl (lv_at hl 2 rfl) ?_
    obtain ⟨h_14, hw⟩ := hw
    refine va_ldq4 hx hb hK hP h_14 dX1_takeOut_18 ?_
    refine lv_astore (lv' := [(4, .ref (ad (20 + (a0).toNatClampNeg))), (3, .int r_12), (0, .ref (ad 13)), (1, .int a0), (2, .int a1)]) hx hb dX1_takeOut_19 hl (by decide) rfl (fun ls hl => ?_)
    refine lv_aload_n hx hb dX1_takeOut_21 rfl (lv_at hl 2 rfl) ?_
    refine va_get (D := D) (ci := 3) (v := .ref (ad 18)) (C := RX1) (T := TX1) (N := 6) hx hb hts in_X1 hown hK hP 13 (wg13 ca ad w_11) rfl 4 (by decide) lk_24 (fun _ h9 => h9) rfl dX1_takeOut_22 ?_
    refine lv_iload_n hx hb dX1_takeOut_25 rfl (lv_at hl 3 rfl) ?_
    refine lv_dup2_11 hx hb dX1_takeOut_26 rfl rfl ?_
    obtain ⟨h_15, hw⟩ := hw
    refine va_iald hx hb hK hP 18 0 (wg18 ca ad w_11) rfl h_15 dX1_takeOut_27 ?_
    refine lv_iconst (v := 1) hx hb dX1_takeOut_28 (by decide) ?_
    refine lv_isub hx hb dX1_takeOut_29 ?_
    obtain ⟨h_16, hw⟩ := hw
    refine va_iast hx hb hK hP (DA hAd) hS 18 0 (wg18 ca ad w_11) rfl h_16 dX1_takeOut_30 (fun H locs hP hD hS => ?_)
    obtain ⟨w_17, e_18⟩ : ∃ z : St, z = (uA w_11 18 (upd (w_11.1 18) (a0).toNatClampNeg ((w_11.1 18 (a0).toNatClampNeg) - 1))) := ⟨_, rfl⟩
    have hP : PA D ca ad w_17 H := by rw [e_18]; exact wu18 hP
    have hw := hw w_17 e_18
    refine lv_iload_n hx hb dX1_takeOut_31 rfl (lv_at hl 1 rfl) ?_
    refine lv_istore (lv' := [(5, .int r_12), (4, .ref (ad (20 + (a0).toNatClampNeg))), (3, .int r_12), (0, .ref (ad 13)), (1, .int a0), (2, .int a1)]) hx hb dX1_takeOut_32 hl (by decide) rfl (fun ls hl => ?_)
    obtain ⟨n_34, hw⟩ := hw
    exact hB34 n_34 r_12 w_17 hw _ _ hP hS ls (lv_sub hl [3, 4, 1, 0] rfl)
  · have hw := hw.1 c_13
    exact W.vret hx hb hr (fun t ht hW => ⟨⟨w_11, rfl, hw, by show PA D ca ad w_11 t.heap; rw [ht]; exact hP⟩, hS.F ht⟩) hS.2.2 dX1_takeOut_12
set_option maxHeartbeats 4000000 in
set_option maxRecDepth 100000 in
def wpX1_putLast (a0 : Int32) (a1 : Int32) (w : St) (post : St → Prop) : Prop := wpX1_placeOf a0 a1 w (fun r_2 w_1 => (r_2 = (-1) → ((vp_in a0 4) ∧ ((6 ≤ (w_1.1 18 (a0).toNatClampNeg) → (post w_1)) ∧ (¬ (6 ≤ (w_1.1 18 (a0).toNatClampNeg)) → ((vp_in a0 4) ∧ ((vp_in a0 4) ∧ (((a0).toNatClampNeg < 4) ∧ ((vp_in (w_1.1 18 (a0).toNatClampNeg) 6) ∧ (∀ w_9 : St, w_9 = (uA w_1 (20 + (a0).toNatClampNeg) (upd (w_1.1 (20 + (a0).toNatClampNeg)) ((w_1.1 18 (a0).toNatClampNeg)).toNatClampNeg a1)) → (vp_in a0 4) ∧ ((vp_in a0 4) ∧ (∀ w_14 : St, w_14 = (uA w_9 18 (upd (w_9.1 18) (a0).toNatClampNeg ((w_9.1 18 (a0).toNatClampNeg) + 1))) → post w_14))))))))))) ∧ (¬ (r_2 = (-1)) → (post w_1)))
set_option maxHeartbeats 4000000 in
set_option maxRecDepth 100000 in
theorem mX1_putLast (l : Launch) (D : va_G) (ca : Nat → ClassId) (ad : Nat → Nat) (base : Nat) (hAd : okA base ad) (w : St) (a0 : Int32) (a1 : Int32) (post : St → Prop) (hw : wpX1_putLast a0 a1 w post) : Met l yX1_putLast wsX1_putLast ({ frames := 1, cells := 0, slots := 0, locals := 23 } : Room) (va_Pc [.ref (ad 13), .int a0, .int a1] (BU D ca ad base w)) (va_Qv post (Bp D ca ad) (AB base)) 0 0 (AB base) := by
  refine Met.ofW (cc := cX1_putLast) (maxL := 3) (ret := none) (by decide) rfl ?_
  intro p e s m args below meth c s₁ B hml hv
  obtain ⟨rfl, hbs, hP, hK⟩ := hv
  have hx := B.exec
  have hb := B.bytes
  have hr := B.returns
  have hts := atoms_spec (ws := wsX1_putLast) B.pre
  have hown : s.vm.findClass RX1 = some m.cls := findClass_of_methodNamed B.named
  have hlocks := B.notSynchronized
  have in_X1 : ∀ w ∈ wsX10, w ∈ wsX1_putLast := by decide +kernel
  have lk_24 := hts (.fieldLink RX1 24 "LockQuorum$Locks" "queued" "[I") (by decide +kernel)
  have lk_31 := hts (.fieldLink RX1 31 "LockQuorum$Locks" "queue" "[[I") (by decide +kernel)
  have hS : va_S (AB base) s.heap s.heap [] := va_S.rf
  have hl := lv_entry ([.ref (ad 13), .int a0, .int a1]) (n := 3) (Nat.le_of_ble_eq_true rfl)
  rw [lg_entry_eq]
  generalize (lg_sl ([.ref (ad 13), .int a0, .int a1]) ++ List.replicate (3 - (lg_sl ([.ref (ad 13), .int a0, .int a1])).length) Slot.unset).toArray = ls at hl ⊢
  have hl : lv_has ls 3 [(0, .ref (ad 13)), (1, .int a0), (2, .int a1)] := hl
  refine lv_aload_n hx hb dX1_putLast_0 rfl (lv_at hl 0 rfl) ?_
  refine lv_iload_n hx hb dX1_putLast_1 rfl (lv_at hl 1 rfl) ?_
  refine lv_iload_n hx hb dX1_putLast_2 rfl (lv_at hl 2 rfl) ?_
  refine va_calli (va_runV (As := [.int a0, .int a1]) (rest := []) ⟨hx, hb, hml, hown, hts⟩ (mX1_placeOf l D ca ad base hAd w a0 a1 _ hw) (cwV 2 hts gX1_putLast_X1_placeOf rfl rfl rfl (by decide +kernel) ⟨Nat.le_of_ble_eq_true rfl, Nat.le_of_ble_eq_true rfl⟩) (pv [.int a0, .int a1] hK hP hbs hS rfl (wg13 ca ad w)) rfl rfl hl.1 rfl (lv_room (Nat.le_of_ble_eq_true rfl)) dX1_putLast_3 ⟨Nat.le_of_ble_eq_true rfl, Nat.le_of_ble_eq_true rfl⟩) hS (fun q _ h => h) (fun q h => h) (fun r_2 w_1 t H locs ht hvm hw hP hz1 hk1 hS => ?_)
  have hP : PA D ca ad w_1 H := by rw [← ht]; exact hP
  refine lv_iconst (v := (-1)) hx hb dX1_putLast_6 (by decide) ?_
  refine lv_icmp_ne (tgt := 45) hx hb dX1_putLast_7 (by decide) (fun c_3 => ?_) (fun c_3 => ?_)
  · have hw := hw.2 c_3
    exact W.vret hx hb hr (fun t ht hW => ⟨⟨w_1, rfl, hw, by show PA D ca ad w_1 t.heap; rw [ht]; exact hP⟩, hS.F ht⟩) hS.2.2 dX1_putLast_45
  · have hw := hw.1 c_3
    refine lv_aload_n hx hb dX1_putLast_10 rfl (lv_at hl 0 rfl) ?_
    refine va_get (D := D) (ci := 3) (v := .ref (ad 18)) (C := RX1) (T := TX1) (N := 6) hx hb hts in_X1 hown hK hP 13 (wg13 ca ad w_1) rfl 4 (by decide) lk_24 (fun _ h9 => h9) rfl dX1_putLast_11 ?_
    refine lv_iload_n hx hb dX1_putLast_14 rfl (lv_at hl 1 rfl) ?_
    obtain ⟨h_4, hw⟩ := hw
    refine va_iald hx hb hK hP 18 0 (wg18 ca ad w_1) rfl h_4 dX1_putLast_15 ?_
    refine lv_bipush (v := 6) hx hb dX1_putLast_16 (by decide) ?_
    refine lv_icmp_ge (tgt := 45) hx hb dX1_putLast_18 (by decide) (fun c_5 => ?_) (fun c_5 => ?_)
    · have hw := hw.1 c_5
      exact W.vret hx hb hr (fun t ht hW => ⟨⟨w_1, rfl, hw, by show PA D ca ad w_1 t.heap; rw [ht]; exact hP⟩, hS.F ht⟩) hS.2.2 dX1_putLast_45
    · have hw := hw.2 c_5
      refine lv_aload_n hx hb dX1_putLast_21 rfl (lv_at hl 0 rfl) ?_
      refine va_get (D := D) (ci := 3) (v := .ref (ad 19)) (C := RX1) (T := TX1) (N := 6) hx hb hts in_X1 hown hK hP 13 (wg13 ca ad w_1) rfl 5 (by decide) lk_31 (fun _ h9 => h9) rfl dX1_putLast_22 ?_
      refine lv_iload_n hx hb dX1_putLast_25 rfl (lv_at hl 1 rfl) ?_
      obtain ⟨h_6, hw⟩ := hw
      refine va_ldq4 hx hb hK hP h_6 dX1_putLast_26 ?_
      refine lv_aload_n hx hb dX1_putLast_27 rfl (lv_at hl 0 rfl) ?_
      refine va_get (D := D) (ci := 3) (v := .ref (ad 18)) (C := RX1) (T := TX1) (N := 6) hx hb hts in_X1 hown hK hP 13 (wg13 ca ad w_1) rfl 4 (by decide) lk_24 (fun _ h9 => h9) rfl dX1_putLast_28 ?_
      refine lv_iload_n hx hb dX1_putLast_31 rfl (lv_at hl 1 rfl) ?_
      obtain ⟨h_7, hw⟩ := hw
      refine va_iald hx hb hK hP 18 0 (wg18 ca ad w_1) rfl h_7 dX1_putLast_32 ?_
      refine lv_iload_n hx hb dX1_putLast_33 rfl (lv_at hl 2 rfl) ?_
      obtain ⟨q_11, h_8, hw⟩ := hw
      refine va_iast hx hb hK hP (DA hAd) hS (20 + (a0).toNatClampNeg) 0 (wgq ca ad w_1 q_11) rfl h_8 dX1_putLast_34 (fun H locs hP hD hS => ?_)
      obtain ⟨w_9, e_10⟩ : ∃ z : St, z = (uA w_1 (20 + (a0).toNatClampNeg) (upd (w_1.1 (20 + (a0).toNatClampNeg)) ((w_1.1 18 (a0).toNatClampNeg)).toNatClampNeg a1)) := ⟨_, rfl⟩
      have hP : PA D ca ad w_9 H := by rw [e_10]; exact wuq q_11 hP
      have hw := hw w_9 e_10
      refine lv_aload_n hx hb dX1_putLast_35 rfl (lv_at hl 0 rfl) ?_
      refine va_get (D := D) (ci := 3) (v := .ref (ad 18)) (C := RX1) (T := TX1) (N := 6) hx hb hts in_X1 hown hK hP 13 (wg13 ca ad w_9) rfl 4 (by decide) lk_24 (fun _ h9 => h9) rfl dX1_putLast_36 ?_
      refine lv_iload_n hx hb dX1_putLast_39 rfl (lv_at hl 1 rfl) ?_
      refine lv_dup2_11 hx hb dX1_putLast_40 rfl rfl ?_
      obtain ⟨h_12, hw⟩ := hw
      refine va_iald hx hb hK hP 18 0 (wg18 ca ad w_9) rfl h_12 dX1_putLast_41 ?_
      refine lv_iconst (v := 1) hx hb dX1_putLast_42 (by decide) ?_
      refine lv_iadd hx hb dX1_putLast_43 ?_
      obtain ⟨h_13, hw⟩ := hw
      refine va_iast hx hb hK hP (DA hAd) hS 18 0 (wg18 ca ad w_9) rfl h_13 dX1_putLast_44 (fun H locs hP hD hS => ?_)
      obtain ⟨w_14, e_15⟩ : ∃ z : St, z = (uA w_9 18 (upd (w_9.1 18) (a0).toNatClampNeg ((w_9.1 18 (a0).toNatClampNeg) + 1))) := ⟨_, rfl⟩
      have hP : PA D ca ad w_14 H := by rw [e_15]; exact wu18 hP
      have hw := hw w_14 e_15
      exact W.vret hx hb hr (fun t ht hW => ⟨⟨w_14, rfl, hw, by show PA D ca ad w_14 t.heap; rw [ht]; exact hP⟩, hS.F ht⟩) hS.2.2 dX1_putLast_45
set_option maxHeartbeats 4000000 in
set_option maxRecDepth 100000 in
def wpX1_putFirst_L33 (a0 : Int32) (a1 : Int32) (post : St → Prop) : Nat → Int32 → St → Prop
  | 0, _, _ => False
  | n + 1, v4, w => (v4 ≤ 0 → (((a0).toNatClampNeg < 4) ∧ ((vp_in 0 6) ∧ (∀ w_3 : St, w_3 = (uA w (20 + (a0).toNatClampNeg) (upd (w.1 (20 + (a0).toNatClampNeg)) (0 : Int32).toNatClampNeg a1)) → (vp_in a0 4) ∧ ((vp_in a0 4) ∧ (∀ w_8 : St, w_8 = (uA w_3 18 (upd (w_3.1 18) (a0).toNatClampNeg ((w_3.1 18 (a0).toNatClampNeg) + 1))) → post w_8)))))) ∧ (¬ (v4 ≤ 0) → (((a0).toNatClampNeg < 4) ∧ ((vp_in (v4 - 1) 6) ∧ (((a0).toNatClampNeg < 4) ∧ ((vp_in v4 6) ∧ (∀ w_13 : St, w_13 = (uA w (20 + (a0).toNatClampNeg) (upd (w.1 (20 + (a0).toNatClampNeg)) (v4).toNatClampNeg (w.1 (20 + (a0).toNatClampNeg) ((v4 - 1)).toNatClampNeg))) → wpX1_putFirst_L33 a0 a1 post n (v4 + (-1)) w_13))))))
set_option maxHeartbeats 4000000 in
set_option maxRecDepth 100000 in
def wpX1_putFirst (a0 : Int32) (a1 : Int32) (w : St) (post : St → Prop) : Prop := wpX1_takeOut a0 a1 w (fun w_16 => (vp_in a0 4) ∧ ((vp_in a0 4) ∧ (((a0).toNatClampNeg < 4) ∧ (((w_16.1 18 (a0).toNatClampNeg) < 6 → ((vp_in a0 4) ∧ (∃ n : Nat, wpX1_putFirst_L33 a0 a1 post n (w_16.1 18 (a0).toNatClampNeg) w_16))) ∧ (¬ ((w_16.1 18 (a0).toNatClampNeg) < 6) → (post w_16))))))
set_option maxHeartbeats 4000000 in
set_option maxRecDepth 100000 in
theorem mX1_putFirst (l : Launch) (D : va_G) (ca : Nat → ClassId) (ad : Nat → Nat) (base : Nat) (hAd : okA base ad) (w : St) (a0 : Int32) (a1 : Int32) (post : St → Prop) (hw : wpX1_putFirst a0 a1 w post) : Met l yX1_putFirst wsX1_putFirst ({ frames := 2, cells := 0, slots := 0, locals := 48 } : Room) (va_Pc [.ref (ad 13), .int a0, .int a1] (BU D ca ad base w)) (va_Qv post (Bp D ca ad) (AB base)) 0 0 (AB base) := by
  refine Met.ofW (cc := cX1_putFirst) (maxL := 5) (ret := none) (by decide) rfl ?_
  intro p e s m args below meth c s₁ B hml hv
  obtain ⟨rfl, hbs, hP, hK⟩ := hv
  have hx := B.exec
  have hb := B.bytes
  have hr := B.returns
  have hts := atoms_spec (ws := wsX1_putFirst) B.pre
  have hown : s.vm.findClass RX1 = some m.cls := findClass_of_methodNamed B.named
  have hlocks := B.notSynchronized
  have in_X1 : ∀ w ∈ wsX10, w ∈ wsX1_putFirst := by decide +kernel
  have lk_24 := hts (.fieldLink RX1 24 "LockQuorum$Locks" "queued" "[I") (by decide +kernel)
  have lk_31 := hts (.fieldLink RX1 31 "LockQuorum$Locks" "queue" "[[I") (by decide +kernel)
  have hS : va_S (AB base) s.heap s.heap [] := va_S.rf
  have hB33 : ∀ (n : Nat) (v4 : Int32) (w : St), wpX1_putFirst_L33 a0 a1 post n v4 w → ∀ (H : Heap) (locs : List Loc), PA D ca ad w H → va_S (AB base) s.heap H locs → ∀ ls : Array Slot, lv_has ls 5 [(0, .ref (ad 13)), (1, .int a0), (2, .int a1), (3, .ref (ad (20 + (a0).toNatClampNeg))), (4, .int v4)] → W p l e (headSpec wsX1_putFirst ({ frames := 2, cells := 0, slots := 0, locals := 48 } : Room)).room s m ([Value.ref (ad 13), Value.int a0, Value.int a1].toArray) below meth c H locs 0 0 (MQ below (va_Qv post (Bp D ca ad) (AB base)) ([Value.ref (ad 13), Value.int a0, Value.int a1].toArray) s 0 0 (AB base)) (F0 m 33 ls []) := by
    intro n
    induction n with
    | zero => intro v4 w hw; exact hw.elim
    | succ n ih33 =>
      intro v4 w hw H locs hP hS ls hl
      refine lv_iload hx hb dX1_putFirst_33 (lv_at hl 4 rfl) ?_
      refine lv_if_le (tgt := 54) hx hb dX1_putFirst_35 (by decide) (fun c_1 => ?_) (fun c_1 => ?_)
      · have hw := hw.1 c_1
        refine lv_aload_n hx hb dX1_putFirst_54 rfl (lv_at hl 3 rfl) ?_
        refine lv_iconst (v := 0) hx hb dX1_putFirst_55 (by decide) ?_
        refine lv_iload_n hx hb dX1_putFirst_56 rfl (lv_at hl 2 rfl) ?_
        obtain ⟨q_5, h_2, hw⟩ := hw
        refine va_iast hx hb hK hP (DA hAd) hS (20 + (a0).toNatClampNeg) 0 (wgq ca ad w q_5) rfl h_2 dX1_putFirst_57 (fun H locs hP hD hS => ?_)
        obtain ⟨w_3, e_4⟩ : ∃ z : St, z = (uA w (20 + (a0).toNatClampNeg) (upd (w.1 (20 + (a0).toNatClampNeg)) (0 : Int32).toNatClampNeg a1)) := ⟨_, rfl⟩
        have hP : PA D ca ad w_3 H := by rw [e_4]; exact wuq q_5 hP
        have hw := hw w_3 e_4
        refine lv_aload_n hx hb dX1_putFirst_58 rfl (lv_at hl 0 rfl) ?_
        refine va_get (D := D) (ci := 3) (v := .ref (ad 18)) (C := RX1) (T := TX1) (N := 6) hx hb hts in_X1 hown hK hP 13 (wg13 ca ad w_3) rfl 4 (by decide) lk_24 (fun _ h9 => h9) rfl dX1_putFirst_59 ?_
        refine lv_iload_n hx hb dX1_putFirst_62 rfl (lv_at hl 1 rfl) ?_
        refine lv_dup2_11 hx hb dX1_putFirst_63 rfl rfl ?_
        obtain ⟨h_6, hw⟩ := hw
        refine va_iald hx hb hK hP 18 0 (wg18 ca ad w_3) rfl h_6 dX1_putFirst_64 ?_
        refine lv_iconst (v := 1) hx hb dX1_putFirst_65 (by decide) ?_
        refine lv_iadd hx hb dX1_putFirst_66 ?_
        obtain ⟨h_7, hw⟩ := hw
        refine va_iast hx hb hK hP (DA hAd) hS 18 0 (wg18 ca ad w_3) rfl h_7 dX1_putFirst_67 (fun H locs hP hD hS => ?_)
        obtain ⟨w_8, e_9⟩ : ∃ z : St, z = (uA w_3 18 (upd (w_3.1 18) (a0).toNatClampNeg ((w_3.1 18 (a0).toNatClampNeg) + 1))) := ⟨_, rfl⟩
        have hP : PA D ca ad w_8 H := by rw [e_9]; exact wu18 hP
        have hw := hw w_8 e_9
        exact W.vret hx hb hr (fun t ht hW => ⟨⟨w_8, rfl, hw, by show PA D ca ad w_8 t.heap; rw [ht]; exact hP⟩, hS.F ht⟩) hS.2.2 dX1_putFirst_68
      · have hw := hw.2 c_1
        refine lv_aload_n hx hb dX1_putFirst_38 rfl (lv_at hl 3 rfl) ?_
        refine lv_iload hx hb dX1_putFirst_39 (lv_at hl 4 rfl) ?_
        refine lv_aload_n hx hb dX1_putFirst_41 rfl (lv_at hl 3 rfl) ?_
        refine lv_iload hx hb dX1_putFirst_42 (lv_at hl 4 rfl) ?_
        refine lv_iconst (v := 1) hx hb dX1_putFirst_44 (by decide) ?_
        refine lv_isub hx hb dX1_putFirst_45 ?_
        obtain ⟨q_11, h_10, hw⟩ := hw
        refine va_iald hx hb hK hP (20 + (a0).toNatClampNeg) 0 (wgq ca ad w q_11) rfl h_10 dX1_putFirst_46 ?_
        obtain ⟨q_15, h_12, hw⟩ := hw
        refine va_iast hx hb hK hP (DA hAd) hS (20 + (a0).toNatClampNeg) 0 (wgq ca ad w q_15) rfl h_12 dX1_putFirst_47 (fun H locs hP hD hS => ?_)
        obtain ⟨w_13, e_14⟩ : ∃ z : St, z = (uA w (20 + (a0).toNatClampNeg) (upd (w.1 (20 + (a0).toNatClampNeg)) (v4).toNatClampNeg (w.1 (20 + (a0).toNatClampNeg) ((v4 - 1)).toNatClampNeg))) := ⟨_, rfl⟩
        have hP : PA D ca ad w_13 H := by rw [e_14]; exact wuq q_15 hP
        have hw := hw w_13 e_14
        refine lv_iinc (v := (v4 + (-1))) (lv' := [(4, .int (v4 + (-1))), (0, .ref (ad 13)), (1, .int a0), (2, .int a1), (3, .ref (ad (20 + (a0).toNatClampNeg)))]) hx hb dX1_putFirst_48 hl (k := 4) rfl rfl (by decide) rfl (fun ls hl => ?_)
        refine lv_goto (tgt := 33) hx hb dX1_putFirst_51 (by decide) ?_
        exact ih33 (v4 + (-1)) w_13 hw _ _ hP hS ls (lv_sub hl [1, 2, 3, 4, 0] rfl)
  have hl := lv_entry ([.ref (ad 13), .int a0, .int a1]) (n := 5) (Nat.le_of_ble_eq_true rfl)
  rw [lg_entry_eq]
  generalize (lg_sl ([.ref (ad 13), .int a0, .int a1]) ++ List.replicate (5 - (lg_sl ([.ref (ad 13), .int a0, .int a1])).length) Slot.unset).toArray = ls at hl ⊢
  have hl : lv_has ls 5 [(0, .ref (ad 13)), (1, .int a0), (2, .int a1)] := hl
  refine lv_aload_n hx hb dX1_putFirst_0 rfl (lv_at hl 0 rfl) ?_
  refine lv_iload_n hx hb dX1_putFirst_1 rfl (lv_at hl 1 rfl) ?_
  refine lv_iload_n hx hb dX1_putFirst_2 rfl (lv_at hl 2 rfl) ?_
  refine va_callv (va_runV (As := [.int a0, .int a1]) (rest := []) ⟨hx, hb, hml, hown, hts⟩ (mX1_takeOut l D ca ad base hAd w a0 a1 _ hw) (cwV 2 hts gX1_putFirst_X1_takeOut rfl rfl rfl (by decide +kernel) ⟨Nat.le_of_ble_eq_true rfl, Nat.le_of_ble_eq_true rfl⟩) (pv [.int a0, .int a1] hK hP hbs hS rfl (wg13 ca ad w)) rfl rfl hl.1 rfl (lv_room (Nat.le_of_ble_eq_true rfl)) dX1_putFirst_3 ⟨Nat.le_of_ble_eq_true rfl, Nat.le_of_ble_eq_true rfl⟩) hS (fun q _ h => h) (fun q h => h) (fun w_16 t H locs ht hvm hw hP hz1 hk1 hS => ?_)
  have hP : PA D ca ad w_16 H := by rw [← ht]; exact hP
  refine lv_aload_n hx hb dX1_putFirst_6 rfl (lv_at hl 0 rfl) ?_
  refine va_get (D := D) (ci := 3) (v := .ref (ad 19)) (C := RX1) (T := TX1) (N := 6) hx hb hts in_X1 hown hK hP 13 (wg13 ca ad w_16) rfl 5 (by decide) lk_31 (fun _ h9 => h9) rfl dX1_putFirst_7 ?_
  refine lv_iload_n hx hb dX1_putFirst_10 rfl (lv_at hl 1 rfl) ?_
  obtain ⟨h_17, hw⟩ := hw
  refine va_ldq4 hx hb hK hP h_17 dX1_putFirst_11 ?_
  refine lv_astore_n (lv' := [(3, .ref (ad (20 + (a0).toNatClampNeg))), (0, .ref (ad 13)), (1, .int a0), (2, .int a1)]) hx hb dX1_putFirst_12 rfl hl (by decide) rfl (fun ls hl => ?_)
  refine lv_aload_n hx hb dX1_putFirst_13 rfl (lv_at hl 1 rfl) ?_
  refine va_get (D := D) (ci := 3) (v := .ref (ad 18)) (C := RX1) (T := TX1) (N := 6) hx hb hts in_X1 hown hK hP 13 (wg13 ca ad w_16) rfl 4 (by decide) lk_24 (fun _ h9 => h9) rfl dX1_putFirst_14 ?_
  refine lv_iload_n hx hb dX1_putFirst_17 rfl (lv_at hl 2 rfl) ?_
  obtain ⟨h_18, hw⟩ := hw
  refine va_iald hx hb hK hP 18 0 (wg18 ca ad w_16) rfl h_18 dX1_putFirst_18 ?_
  refine lv_aload_n hx hb dX1_putFirst_19 rfl (lv_at hl 0 rfl) ?_
  obtain ⟨q_19, hw⟩ := hw
  refine va_alen hx hb hK hP (20 + (a0).toNatClampNeg) 0 (wgq ca ad w_16 q_19) (ty := .int) rfl (v := 6) rfl dX1_putFirst_20 ?_
  refine lv_icmp_lt (tgt := 25) hx hb dX1_putFirst_21 (by decide) (fun c_20 => ?_) (fun c_20 => ?_)
  · have hw := hw.1 c_20
    refine lv_aload_n hx hb dX1_putFirst_25 rfl (lv_at hl 1 rfl) ?_
    refine va_get (D := D) (ci := 3) (v := .ref (ad 18)) (C := RX1) (T := TX1) (N := 6) hx hb hts in_X1 hown hK hP 13 (wg13 ca ad w_16) rfl 4 (by decide) lk_24 (fun _ h9 => h9) rfl dX1_putFirst_26 ?_
    refine lv_iload_n hx hb dX1_putFirst_29 rfl (lv_at hl 2 rfl) ?_
    obtain ⟨h_21, hw⟩ := hw
    refine va_iald hx hb hK hP 18 0 (wg18 ca ad w_16) rfl h_21 dX1_putFirst_30 ?_
    refine lv_istore (lv' := [(4, .int (w_16.1 18 (a0).toNatClampNeg)), (3, .ref (ad (20 + (a0).toNatClampNeg))), (0, .ref (ad 13)), (1, .int a0), (2, .int a1)]) hx hb dX1_putFirst_31 hl (by decide) rfl (fun ls hl => ?_)
    obtain ⟨n_33, hw⟩ := hw
    exact hB33 n_33 (w_16.1 18 (a0).toNatClampNeg) w_16 hw _ _ hP hS ls (lv_sub hl [2, 3, 4, 1, 0] rfl)
  · have hw := hw.2 c_20
    exact W.vret hx hb hr (fun t ht hW => ⟨⟨w_16, rfl, hw, by show PA D ca ad w_16 t.heap; rw [ht]; exact hP⟩, hS.F ht⟩) hS.2.2 dX1_putFirst_24
