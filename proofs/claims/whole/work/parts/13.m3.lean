set_option maxHeartbeats 4000000 in
set_option maxRecDepth 100000 in
def wpX3_cutLink (a0 : Int32) (a1 : Int32) (a2 : Int32) (w : St) (post : Int32 → St → Prop) : Prop := (vp_in ((a0 * 5) + a1) 25) ∧ ((vp_in ((a0 * 5) + a1) 25) ∧ (∀ w_3 : St, w_3 = (uA w 5 (upd (w.1 5) (((a0 * 5) + a1)).toNatClampNeg (vp_nar .boolean a2))) → (vp_in ((a1 * 5) + a0) 25) ∧ (∀ w_6 : St, w_6 = (uA w_3 5 (upd (w_3.1 5) (((a1 * 5) + a0)).toNatClampNeg (vp_nar .boolean a2))) → (narrow .boolean (.int (w.1 5 (((a0 * 5) + a1)).toNatClampNeg)) = .int (w.1 5 (((a0 * 5) + a1)).toNatClampNeg)) ∧ post (w.1 5 (((a0 * 5) + a1)).toNatClampNeg) w_6)))
set_option maxHeartbeats 4000000 in
set_option maxRecDepth 100000 in
theorem mX3_cutLink (l : Launch) (D : va_G) (ca : Nat → ClassId) (ad : Nat → Nat) (base : Nat) (hAd : okA base ad) (w : St) (a0 : Int32) (a1 : Int32) (a2 : Int32) (post : Int32 → St → Prop) (hw : wpX3_cutLink a0 a1 a2 w post) : Met l yX3_cutLink wsX3_cutLink ({ frames := 0, cells := 0, slots := 0, locals := 0 } : Room) (va_Pc [.ref (ad 1), .int a0, .int a1, .int a2] (BU D ca ad base w)) (va_Qi post (Bp D ca ad) (AB base)) 0 0 (AB base) := by
  refine Met.ofW (cc := cX3_cutLink) (maxL := 5) (ret := (some .boolean)) (by decide) rfl ?_
  intro p e s m args below meth c s₁ B hml hv
  obtain ⟨rfl, hbs, hP, hK⟩ := hv
  have hx := B.exec
  have hb := B.bytes
  have hr := B.returns
  have hts := atoms_spec (ws := wsX3_cutLink) B.pre
  have hown : s.vm.findClass RX3 = some m.cls := findClass_of_methodNamed B.named
  have hlocks := B.notSynchronized
  have in_X3 : ∀ w ∈ wsX30, w ∈ wsX3_cutLink := by decide +kernel
  have lk_22 := hts (.fieldLink RX3 22 "LockQuorum$Members" "cut" "[Z") (by decide +kernel)
  have hS : va_S (AB base) s.heap s.heap [] := va_S.rf
  have hl := lv_entry ([.ref (ad 1), .int a0, .int a1, .int a2]) (n := 5) (Nat.le_of_ble_eq_true rfl)
  rw [lg_entry_eq]
  generalize (lg_sl ([.ref (ad 1), .int a0, .int a1, .int a2]) ++ List.replicate (5 - (lg_sl ([.ref (ad 1), .int a0, .int a1, .int a2])).length) Slot.unset).toArray = ls at hl ⊢
  have hl : lv_has ls 5 [(0, .ref (ad 1)), (1, .int a0), (2, .int a1), (3, .int a2)] := hl
  refine lv_aload_n hx hb dX3_cutLink_0 rfl (lv_at hl 0 rfl) ?_
  refine va_get (D := D) (ci := 5) (v := .ref (ad 5)) (C := RX3) (T := TX3) (N := 5) hx hb hts in_X3 hown hK hP 1 (wg1 ca ad w) rfl 3 (by decide) lk_22 (fun _ h9 => h9) rfl dX3_cutLink_1 ?_
  refine lv_iload_n hx hb dX3_cutLink_4 rfl (lv_at hl 1 rfl) ?_
  refine lv_iconst (v := 5) hx hb dX3_cutLink_5 (by decide) ?_
  refine lv_imul hx hb dX3_cutLink_6 ?_
  refine lv_iload_n hx hb dX3_cutLink_7 rfl (lv_at hl 2 rfl) ?_
  refine lv_iadd hx hb dX3_cutLink_8 ?_
  obtain ⟨h_1, hw⟩ := hw
  refine va_zald hx hb hK hP 5 1 (wg5 ca ad w) rfl h_1 dX3_cutLink_9 ?_
  refine lv_istore (lv' := [(4, .int (w.1 5 (((a0 * 5) + a1)).toNatClampNeg)), (0, .ref (ad 1)), (1, .int a0), (2, .int a1), (3, .int a2)]) hx hb dX3_cutLink_10 hl (by decide) rfl (fun ls hl => ?_)
  refine lv_aload_n hx hb dX3_cutLink_12 rfl (lv_at hl 1 rfl) ?_
  refine va_get (D := D) (ci := 5) (v := .ref (ad 5)) (C := RX3) (T := TX3) (N := 5) hx hb hts in_X3 hown hK hP 1 (wg1 ca ad w) rfl 3 (by decide) lk_22 (fun _ h9 => h9) rfl dX3_cutLink_13 ?_
  refine lv_iload_n hx hb dX3_cutLink_16 rfl (lv_at hl 2 rfl) ?_
  refine lv_iconst (v := 5) hx hb dX3_cutLink_17 (by decide) ?_
  refine lv_imul hx hb dX3_cutLink_18 ?_
  refine lv_iload_n hx hb dX3_cutLink_19 rfl (lv_at hl 3 rfl) ?_
  refine lv_iadd hx hb dX3_cutLink_20 ?_
  refine lv_iload_n hx hb dX3_cutLink_21 rfl (lv_at hl 4 rfl) ?_
  obtain ⟨h_2, hw⟩ := hw
  refine va_zast hx hb hK hP (DA hAd) hS 5 1 (wg5 ca ad w) rfl h_2 dX3_cutLink_22 (fun H locs hP hD hS => ?_)
  obtain ⟨w_3, e_4⟩ : ∃ z : St, z = (uA w 5 (upd (w.1 5) (((a0 * 5) + a1)).toNatClampNeg (vp_nar .boolean a2))) := ⟨_, rfl⟩
  have hP : PA D ca ad w_3 H := by rw [e_4]; exact wu5 hP
  have hw := hw w_3 e_4
  refine lv_aload_n hx hb dX3_cutLink_23 rfl (lv_at hl 1 rfl) ?_
  refine va_get (D := D) (ci := 5) (v := .ref (ad 5)) (C := RX3) (T := TX3) (N := 5) hx hb hts in_X3 hown hK hP 1 (wg1 ca ad w_3) rfl 3 (by decide) lk_22 (fun _ h9 => h9) rfl dX3_cutLink_24 ?_
  refine lv_iload_n hx hb dX3_cutLink_27 rfl (lv_at hl 3 rfl) ?_
  refine lv_iconst (v := 5) hx hb dX3_cutLink_28 (by decide) ?_
  refine lv_imul hx hb dX3_cutLink_29 ?_
  refine lv_iload_n hx hb dX3_cutLink_30 rfl (lv_at hl 2 rfl) ?_
  refine lv_iadd hx hb dX3_cutLink_31 ?_
  refine lv_iload_n hx hb dX3_cutLink_32 rfl (lv_at hl 4 rfl) ?_
  obtain ⟨h_5, hw⟩ := hw
  refine va_zast hx hb hK hP (DA hAd) hS 5 1 (wg5 ca ad w_3) rfl h_5 dX3_cutLink_33 (fun H locs hP hD hS => ?_)
  obtain ⟨w_6, e_7⟩ : ∃ z : St, z = (uA w_3 5 (upd (w_3.1 5) (((a1 * 5) + a0)).toNatClampNeg (vp_nar .boolean a2))) := ⟨_, rfl⟩
  have hP : PA D ca ad w_6 H := by rw [e_7]; exact wu5 hP
  have hw := hw w_6 e_7
  refine lv_iload hx hb dX3_cutLink_34 (lv_at hl 0 rfl) ?_
  obtain ⟨hn9, hw⟩ := hw
  exact W.zret (v := (w.1 5 (((a0 * 5) + a1)).toNatClampNeg)) hx hb hr hn9 (fun t ht hW => ⟨⟨(w.1 5 (((a0 * 5) + a1)).toNatClampNeg), w_6, rfl, hw, by show PA D ca ad w_6 t.heap; rw [ht]; exact hP⟩, hS.F ht⟩) hS.2.2 dX3_cutLink_36
set_option maxHeartbeats 4000000 in
set_option maxRecDepth 100000 in
def wpX3_reaches (a0 : Int32) (a1 : Int32) (w : St) (post : Int32 → St → Prop) : Prop := (vp_in a0 5) ∧ (((w.1 2 (a0).toNatClampNeg) = 0 → ((vp_in a1 5) ∧ (((w.1 2 (a1).toNatClampNeg) = 0 → ((vp_in ((a0 * 5) + a1) 25) ∧ (((w.1 5 (((a0 * 5) + a1)).toNatClampNeg) = 0 → (post 1 w)) ∧ (¬ ((w.1 5 (((a0 * 5) + a1)).toNatClampNeg) = 0) → (post 0 w))))) ∧ (¬ ((w.1 2 (a1).toNatClampNeg) = 0) → (post 0 w))))) ∧ (¬ ((w.1 2 (a0).toNatClampNeg) = 0) → (post 0 w)))
set_option maxHeartbeats 4000000 in
set_option maxRecDepth 100000 in
theorem mX3_reaches (l : Launch) (D : va_G) (ca : Nat → ClassId) (ad : Nat → Nat) (base : Nat) (hAd : okA base ad) (w : St) (a0 : Int32) (a1 : Int32) (post : Int32 → St → Prop) (hw : wpX3_reaches a0 a1 w post) : Met l yX3_reaches wsX3_reaches ({ frames := 0, cells := 0, slots := 0, locals := 0 } : Room) (va_Pc [.ref (ad 1), .int a0, .int a1] (BU D ca ad base w)) (va_Qi post (Bp D ca ad) (AB base)) 0 0 (AB base) := by
  refine Met.ofW (cc := cX3_reaches) (maxL := 3) (ret := (some .boolean)) (by decide) rfl ?_
  intro p e s m args below meth c s₁ B hml hv
  obtain ⟨rfl, hbs, hP, hK⟩ := hv
  have hx := B.exec
  have hb := B.bytes
  have hr := B.returns
  have hts := atoms_spec (ws := wsX3_reaches) B.pre
  have hown : s.vm.findClass RX3 = some m.cls := findClass_of_methodNamed B.named
  have hlocks := B.notSynchronized
  have in_X3 : ∀ w ∈ wsX30, w ∈ wsX3_reaches := by decide +kernel
  have lk_11 := hts (.fieldLink RX3 11 "LockQuorum$Members" "down" "[Z") (by decide +kernel)
  have lk_22 := hts (.fieldLink RX3 22 "LockQuorum$Members" "cut" "[Z") (by decide +kernel)
  have hS : va_S (AB base) s.heap s.heap [] := va_S.rf
  have hl := lv_entry ([.ref (ad 1), .int a0, .int a1]) (n := 3) (Nat.le_of_ble_eq_true rfl)
  rw [lg_entry_eq]
  generalize (lg_sl ([.ref (ad 1), .int a0, .int a1]) ++ List.replicate (3 - (lg_sl ([.ref (ad 1), .int a0, .int a1])).length) Slot.unset).toArray = ls at hl ⊢
  have hl : lv_has ls 3 [(0, .ref (ad 1)), (1, .int a0), (2, .int a1)] := hl
  refine lv_aload_n hx hb dX3_reaches_0 rfl (lv_at hl 0 rfl) ?_
  refine va_get (D := D) (ci := 5) (v := .ref (ad 2)) (C := RX3) (T := TX3) (N := 5) hx hb hts in_X3 hown hK hP 1 (wg1 ca ad w) rfl 0 (by decide) lk_11 (fun _ h9 => h9) rfl dX3_reaches_1 ?_
  refine lv_iload_n hx hb dX3_reaches_4 rfl (lv_at hl 1 rfl) ?_
  obtain ⟨h_1, hw⟩ := hw
  refine va_zald hx hb hK hP 2 1 (wg2 ca ad w) rfl h_1 dX3_reaches_5 ?_
  refine lv_if_ne (tgt := 35) hx hb dX3_reaches_6 (by decide) (fun c_2 => ?_) (fun c_2 => ?_)
  · have hw := hw.2 c_2
    refine lv_iconst (v := 0) hx hb dX3_reaches_35 (by decide) ?_
    exact W.zret (v := 0) hx hb hr (by decide) (fun t ht hW => ⟨⟨0, w, rfl, hw, by show PA D ca ad w t.heap; rw [ht]; exact hP⟩, hS.F ht⟩) hS.2.2 dX3_reaches_36
  · have hw := hw.1 c_2
    refine lv_aload_n hx hb dX3_reaches_9 rfl (lv_at hl 0 rfl) ?_
    refine va_get (D := D) (ci := 5) (v := .ref (ad 2)) (C := RX3) (T := TX3) (N := 5) hx hb hts in_X3 hown hK hP 1 (wg1 ca ad w) rfl 0 (by decide) lk_11 (fun _ h9 => h9) rfl dX3_reaches_10 ?_
    refine lv_iload_n hx hb dX3_reaches_13 rfl (lv_at hl 2 rfl) ?_
    obtain ⟨h_3, hw⟩ := hw
    refine va_zald hx hb hK hP 2 1 (wg2 ca ad w) rfl h_3 dX3_reaches_14 ?_
    refine lv_if_ne (tgt := 35) hx hb dX3_reaches_15 (by decide) (fun c_4 => ?_) (fun c_4 => ?_)
    · have hw := hw.2 c_4
      refine lv_iconst (v := 0) hx hb dX3_reaches_35 (by decide) ?_
      exact W.zret (v := 0) hx hb hr (by decide) (fun t ht hW => ⟨⟨0, w, rfl, hw, by show PA D ca ad w t.heap; rw [ht]; exact hP⟩, hS.F ht⟩) hS.2.2 dX3_reaches_36
    · have hw := hw.1 c_4
      refine lv_aload_n hx hb dX3_reaches_18 rfl (lv_at hl 0 rfl) ?_
      refine va_get (D := D) (ci := 5) (v := .ref (ad 5)) (C := RX3) (T := TX3) (N := 5) hx hb hts in_X3 hown hK hP 1 (wg1 ca ad w) rfl 3 (by decide) lk_22 (fun _ h9 => h9) rfl dX3_reaches_19 ?_
      refine lv_iload_n hx hb dX3_reaches_22 rfl (lv_at hl 1 rfl) ?_
      refine lv_iconst (v := 5) hx hb dX3_reaches_23 (by decide) ?_
      refine lv_imul hx hb dX3_reaches_24 ?_
      refine lv_iload_n hx hb dX3_reaches_25 rfl (lv_at hl 2 rfl) ?_
      refine lv_iadd hx hb dX3_reaches_26 ?_
      obtain ⟨h_5, hw⟩ := hw
      refine va_zald hx hb hK hP 5 1 (wg5 ca ad w) rfl h_5 dX3_reaches_27 ?_
      refine lv_if_ne (tgt := 35) hx hb dX3_reaches_28 (by decide) (fun c_6 => ?_) (fun c_6 => ?_)
      · have hw := hw.2 c_6
        refine lv_iconst (v := 0) hx hb dX3_reaches_35 (by decide) ?_
        exact W.zret (v := 0) hx hb hr (by decide) (fun t ht hW => ⟨⟨0, w, rfl, hw, by show PA D ca ad w t.heap; rw [ht]; exact hP⟩, hS.F ht⟩) hS.2.2 dX3_reaches_36
      · have hw := hw.1 c_6
        refine lv_iconst (v := 1) hx hb dX3_reaches_31 (by decide) ?_
        refine lv_goto (tgt := 36) hx hb dX3_reaches_32 (by decide) ?_
        exact W.zret (v := 1) hx hb hr (by decide) (fun t ht hW => ⟨⟨1, w, rfl, hw, by show PA D ca ad w t.heap; rw [ht]; exact hP⟩, hS.F ht⟩) hS.2.2 dX3_reaches_36
set_option maxHeartbeats 4000000 in
set_option maxRecDepth 100000 in
def wpX3_countReached_B21 (a0 : Int32) (post : Int32 → St → Prop) (K4 : Int32 → Int32 → St → Prop) (v2 : Int32) (v3 : Int32) (w : St) : Prop := K4 v2 (v3 + 1) w
set_option maxHeartbeats 4000000 in
set_option maxRecDepth 100000 in
def wpX3_countReached_L4 (a0 : Int32) (post : Int32 → St → Prop) : Nat → Int32 → Int32 → St → Prop
  | 0, _, _, _ => False
  | n + 1, v2, v3, w => (5 ≤ v3 → (post v2 w)) ∧ (¬ (5 ≤ v3) → (wpX3_reaches a0 v3 w (fun r_3 w_2 => (r_3 = 0 → (wpX3_countReached_B21 a0 post (fun v2 v3 w => wpX3_countReached_L4 a0 post n v2 v3 w) v2 v3 w_2)) ∧ (¬ (r_3 = 0) → (wpX3_countReached_B21 a0 post (fun v2 v3 w => wpX3_countReached_L4 a0 post n v2 v3 w) (v2 + 1) v3 w_2)))))
set_option maxHeartbeats 4000000 in
set_option maxRecDepth 100000 in
def wpX3_countReached (a0 : Int32) (w : St) (post : Int32 → St → Prop) : Prop := ∃ n : Nat, wpX3_countReached_L4 a0 post n 0 0 w
set_option maxHeartbeats 4000000 in
set_option maxRecDepth 100000 in
theorem mX3_countReached (l : Launch) (D : va_G) (ca : Nat → ClassId) (ad : Nat → Nat) (base : Nat) (hAd : okA base ad) (w : St) (a0 : Int32) (post : Int32 → St → Prop) (hw : wpX3_countReached a0 w post) : Met l yX3_countReached wsX3_countReached ({ frames := 1, cells := 0, slots := 0, locals := 22 } : Room) (va_Pc [.ref (ad 1), .int a0] (BU D ca ad base w)) (va_Qi post (Bp D ca ad) (AB base)) 0 0 (AB base) := by
  refine Met.ofW (cc := cX3_countReached) (maxL := 4) (ret := (some .int)) (by decide) rfl ?_
  intro p e s m args below meth c s₁ B hml hv
  obtain ⟨rfl, hbs, hP, hK⟩ := hv
  have hx := B.exec
  have hb := B.bytes
  have hr := B.returns
  have hts := atoms_spec (ws := wsX3_countReached) B.pre
  have hown : s.vm.findClass RX3 = some m.cls := findClass_of_methodNamed B.named
  have hlocks := B.notSynchronized
  have hS : va_S (AB base) s.heap s.heap [] := va_S.rf
  have hB4 : ∀ (n : Nat) (v2 : Int32) (v3 : Int32) (w : St), wpX3_countReached_L4 a0 post n v2 v3 w → ∀ (H : Heap) (locs : List Loc), PA D ca ad w H → va_S (AB base) s.heap H locs → ∀ ls : Array Slot, lv_has ls 4 [(0, .ref (ad 1)), (1, .int a0), (2, .int v2), (3, .int v3)] → W p l e (headSpec wsX3_countReached ({ frames := 1, cells := 0, slots := 0, locals := 22 } : Room)).room s m ([Value.ref (ad 1), Value.int a0].toArray) below meth c H locs 0 0 (MQ below (va_Qi post (Bp D ca ad) (AB base)) ([Value.ref (ad 1), Value.int a0].toArray) s 0 0 (AB base)) (F0 m 4 ls []) := by
    intro n
    induction n with
    | zero => intro v2 v3 w hw; exact hw.elim
    | succ n ih4 =>
      have hB21 : ∀ (v2 : Int32) (v3 : Int32) (w : St), wpX3_countReached_B21 a0 post (fun v2 v3 w => wpX3_countReached_L4 a0 post n v2 v3 w) v2 v3 w → ∀ (H : Heap) (locs : List Loc), PA D ca ad w H → va_S (AB base) s.heap H locs → ∀ ls : Array Slot, lv_has ls 4 [(0, .ref (ad 1)), (1, .int a0), (2, .int v2), (3, .int v3)] → W p l e (headSpec wsX3_countReached ({ frames := 1, cells := 0, slots := 0, locals := 22 } : Room)).room s m ([Value.ref (ad 1), Value.int a0].toArray) below meth c H locs 0 0 (MQ below (va_Qi post (Bp D ca ad) (AB base)) ([Value.ref (ad 1), Value.int a0].toArray) s 0 0 (AB base)) (F0 m 21 ls []) := by
        intro v2 v3 w hw H locs hP hS ls hl
        refine lv_iinc (v := (v3 + 1)) (lv' := [(3, .int (v3 + 1)), (0, .ref (ad 1)), (1, .int a0), (2, .int v2)]) hx hb dX3_countReached_21 hl (k := 3) rfl rfl (by decide) rfl (fun ls hl => ?_)
        refine lv_goto (tgt := 4) hx hb dX3_countReached_24 (by decide) ?_
        exact ih4 v2 (v3 + 1) w hw _ _ hP hS ls (lv_sub hl [1, 2, 3, 0] rfl)
      intro v2 v3 w hw H locs hP hS ls hl
      refine lv_iload_n hx hb dX3_countReached_4 rfl (lv_at hl 3 rfl) ?_
      refine lv_iconst (v := 5) hx hb dX3_countReached_5 (by decide) ?_
      refine lv_icmp_ge (tgt := 27) hx hb dX3_countReached_6 (by decide) (fun c_1 => ?_) (fun c_1 => ?_)
      · have hw := hw.1 c_1
        refine lv_iload_n hx hb dX3_countReached_27 rfl (lv_at hl 2 rfl) ?_
        exact W.iret (v := v2) hx hb hr (fun t ht hW => ⟨⟨v2, w, rfl, hw, by show PA D ca ad w t.heap; rw [ht]; exact hP⟩, hS.F ht⟩) hS.2.2 dX3_countReached_28
      · have hw := hw.2 c_1
        refine lv_aload_n hx hb dX3_countReached_9 rfl (lv_at hl 0 rfl) ?_
        refine lv_iload_n hx hb dX3_countReached_10 rfl (lv_at hl 1 rfl) ?_
        refine lv_iload_n hx hb dX3_countReached_11 rfl (lv_at hl 3 rfl) ?_
        refine va_calli (va_runV (As := [.int a0, .int v3]) (rest := []) ⟨hx, hb, hml, hown, hts⟩ (mX3_reaches l D ca ad base hAd w a0 v3 _ hw) (cwV 2 hts gX3_countReached_X3_reaches rfl rfl rfl (by decide +kernel) ⟨Nat.le_of_ble_eq_true rfl, Nat.le_of_ble_eq_true rfl⟩) (pv [.int a0, .int v3] hK hP hbs hS rfl (wg1 ca ad w)) rfl rfl hl.1 rfl (lv_room (Nat.le_of_ble_eq_true rfl)) dX3_countReached_12 ⟨Nat.le_of_ble_eq_true rfl, Nat.le_of_ble_eq_true rfl⟩) hS (fun q _ h => h) (fun q h => h) (fun r_3 w_2 t H locs ht hvm hw hP hz1 hk1 hS => ?_)
        have hP : PA D ca ad w_2 H := by rw [← ht]; exact hP
        refine lv_if_eq (tgt := 21) hx hb dX3_countReached_15 (by decide) (fun c_4 => ?_) (fun c_4 => ?_)
        · have hw := hw.1 c_4
          exact hB21 v2 v3 w_2 hw _ _ hP hS ls (lv_sub hl [0, 1, 2, 3] rfl)
        · have hw := hw.2 c_4
          refine lv_iinc (v := (v2 + 1)) (lv' := [(2, .int (v2 + 1)), (0, .ref (ad 1)), (1, .int a0), (3, .int v3)]) hx hb dX3_countReached_18 hl (k := 2) rfl rfl (by decide) rfl (fun ls hl => ?_)
          exact hB21 (v2 + 1) v3 w_2 hw _ _ hP hS ls (lv_sub hl [1, 2, 0, 3] rfl)
  have hl := lv_entry ([.ref (ad 1), .int a0]) (n := 4) (Nat.le_of_ble_eq_true rfl)
  rw [lg_entry_eq]
  generalize (lg_sl ([.ref (ad 1), .int a0]) ++ List.replicate (4 - (lg_sl ([.ref (ad 1), .int a0])).length) Slot.unset).toArray = ls at hl ⊢
  have hl : lv_has ls 4 [(0, .ref (ad 1)), (1, .int a0)] := hl
  refine lv_iconst (v := 0) hx hb dX3_countReached_0 (by decide) ?_
  refine lv_istore_n (lv' := [(2, .int 0), (0, .ref (ad 1)), (1, .int a0)]) hx hb dX3_countReached_1 rfl hl (by decide) rfl (fun ls hl => ?_)
  refine lv_iconst (v := 0) hx hb dX3_countReached_2 (by decide) ?_
  refine lv_istore_n (lv' := [(3, .int 0), (2, .int 0), (0, .ref (ad 1)), (1, .int a0)]) hx hb dX3_countReached_3 rfl hl (by decide) rfl (fun ls hl => ?_)
  obtain ⟨n_4, hw⟩ := hw
  exact hB4 n_4 0 0 w hw _ _ hP hS ls (lv_sub hl [2, 3, 1, 0] rfl)
set_option maxHeartbeats 4000000 in
set_option maxRecDepth 100000 in
def wpX3_holdVote_B75 (a0 : Int32) (post : Int32 → St → Prop) (K21 : Int32 → Int32 → Int32 → St → Prop) (v2 : Int32) (v3 : Int32) (v4 : Int32) (w : St) : Prop := K21 v2 v3 (v4 + 1) w
set_option maxHeartbeats 4000000 in
set_option maxRecDepth 100000 in
def wpX3_holdVote_L21 (a0 : Int32) (post : Int32 → St → Prop) : Nat → Int32 → Int32 → Int32 → St → Prop
  | 0, _, _, _, _ => False
  | n + 1, v2, v3, v4, w => (5 ≤ v4 → ((v3 < 3 → (post v3 w)) ∧ (¬ (v3 < 3) → ((v2 < 0 → (post v3 w)) ∧ (¬ (v2 < 0) → ((513 ≤ v2 → (post v3 w)) ∧ (¬ (513 ≤ v2) → ((vp_in v2 513) ∧ (∀ w_6 : St, w_6 = (uA w 6 (upd (w.1 6) (v2).toNatClampNeg a0)) → post v3 w_6))))))))) ∧ (¬ (5 ≤ v4) → (wpX3_reaches a0 v4 w (fun r_9 w_8 => (r_9 = 0 → (wpX3_holdVote_B75 a0 post (fun v2 v3 v4 w => wpX3_holdVote_L21 a0 post n v2 v3 v4 w) v2 v3 v4 w_8)) ∧ (¬ (r_9 = 0) → ((vp_in v4 5) ∧ ((v2 ≤ (w_8.1 3 (v4).toNatClampNeg) → (wpX3_holdVote_B75 a0 post (fun v2 v3 v4 w => wpX3_holdVote_L21 a0 post n v2 v3 v4 w) v2 v3 v4 w_8)) ∧ (¬ (v2 ≤ (w_8.1 3 (v4).toNatClampNeg)) → ((vp_in v4 5) ∧ (∀ w_14 : St, w_14 = (uA w_8 3 (upd (w_8.1 3) (v4).toNatClampNeg v2)) → (vp_in v4 5) ∧ ((vp_in a0 5) ∧ (((w_14.1 4 (a0).toNatClampNeg) < (w_14.1 4 (v4).toNatClampNeg) → (wpX3_holdVote_B75 a0 post (fun v2 v3 v4 w => wpX3_holdVote_L21 a0 post n v2 v3 v4 w) v2 v3 v4 w_14)) ∧ (¬ ((w_14.1 4 (a0).toNatClampNeg) < (w_14.1 4 (v4).toNatClampNeg)) → (wpX3_holdVote_B75 a0 post (fun v2 v3 v4 w => wpX3_holdVote_L21 a0 post n v2 v3 v4 w) v2 (v3 + 1) v4 w_14)))))))))))))
set_option maxHeartbeats 4000000 in
set_option maxRecDepth 100000 in
def wpX3_holdVote (a0 : Int32) (w : St) (post : Int32 → St → Prop) : Prop := (vp_in a0 5) ∧ ((vp_in a0 5) ∧ (∀ w_21 : St, w_21 = (uA w 3 (upd (w.1 3) (a0).toNatClampNeg ((w.1 3 (a0).toNatClampNeg) + 1))) → ∃ n : Nat, wpX3_holdVote_L21 a0 post n ((w.1 3 (a0).toNatClampNeg) + 1) 1 0 w_21))
set_option maxHeartbeats 4000000 in
set_option maxRecDepth 100000 in
theorem mX3_holdVote (l : Launch) (D : va_G) (ca : Nat → ClassId) (ad : Nat → Nat) (base : Nat) (hAd : okA base ad) (w : St) (a0 : Int32) (post : Int32 → St → Prop) (hw : wpX3_holdVote a0 w post) : Met l yX3_holdVote wsX3_holdVote ({ frames := 1, cells := 0, slots := 0, locals := 22 } : Room) (va_Pc [.ref (ad 1), .int a0] (BU D ca ad base w)) (va_Qi post (Bp D ca ad) (AB base)) 0 0 (AB base) := by
  refine Met.ofW (cc := cX3_holdVote) (maxL := 5) (ret := (some .int)) (by decide) rfl ?_
  intro p e s m args below meth c s₁ B hml hv
  obtain ⟨rfl, hbs, hP, hK⟩ := hv
  have hx := B.exec
  have hb := B.bytes
  have hr := B.returns
  have hts := atoms_spec (ws := wsX3_holdVote) B.pre
  have hown : s.vm.findClass RX3 = some m.cls := findClass_of_methodNamed B.named
  have hlocks := B.notSynchronized
  have in_X3 : ∀ w ∈ wsX30, w ∈ wsX3_holdVote := by decide +kernel
  have lk_15 := hts (.fieldLink RX3 15 "LockQuorum$Members" "term" "[I") (by decide +kernel)
  have lk_19 := hts (.fieldLink RX3 19 "LockQuorum$Members" "known" "[I") (by decide +kernel)
  have lk_25 := hts (.fieldLink RX3 25 "LockQuorum$Members" "winner" "[I") (by decide +kernel)
  have hS : va_S (AB base) s.heap s.heap [] := va_S.rf
  have hB21 : ∀ (n : Nat) (v2 : Int32) (v3 : Int32) (v4 : Int32) (w : St), wpX3_holdVote_L21 a0 post n v2 v3 v4 w → ∀ (H : Heap) (locs : List Loc), PA D ca ad w H → va_S (AB base) s.heap H locs → ∀ ls : Array Slot, lv_has ls 5 [(0, .ref (ad 1)), (1, .int a0), (2, .int v2), (3, .int v3), (4, .int v4)] → W p l e (headSpec wsX3_holdVote ({ frames := 1, cells := 0, slots := 0, locals := 22 } : Room)).room s m ([Value.ref (ad 1), Value.int a0].toArray) below meth c H locs 0 0 (MQ below (va_Qi post (Bp D ca ad) (AB base)) ([Value.ref (ad 1), Value.int a0].toArray) s 0 0 (AB base)) (F0 m 21 ls []) := by
    intro n
    induction n with
    | zero => intro v2 v3 v4 w hw; exact hw.elim
    | succ n ih21 =>
      have hB75 : ∀ (v2 : Int32) (v3 : Int32) (v4 : Int32) (w : St), wpX3_holdVote_B75 a0 post (fun v2 v3 v4 w => wpX3_holdVote_L21 a0 post n v2 v3 v4 w) v2 v3 v4 w → ∀ (H : Heap) (locs : List Loc), PA D ca ad w H → va_S (AB base) s.heap H locs → ∀ ls : Array Slot, lv_has ls 5 [(0, .ref (ad 1)), (1, .int a0), (2, .int v2), (3, .int v3), (4, .int v4)] → W p l e (headSpec wsX3_holdVote ({ frames := 1, cells := 0, slots := 0, locals := 22 } : Room)).room s m ([Value.ref (ad 1), Value.int a0].toArray) below meth c H locs 0 0 (MQ below (va_Qi post (Bp D ca ad) (AB base)) ([Value.ref (ad 1), Value.int a0].toArray) s 0 0 (AB base)) (F0 m 75 ls []) := by
        intro v2 v3 v4 w hw H locs hP hS ls hl
        refine lv_iinc (v := (v4 + 1)) (lv' := [(4, .int (v4 + 1)), (0, .ref (ad 1)), (1, .int a0), (2, .int v2), (3, .int v3)]) hx hb dX3_holdVote_75 hl (k := 4) rfl rfl (by decide) rfl (fun ls hl => ?_)
        refine lv_goto (tgt := 21) hx hb dX3_holdVote_78 (by decide) ?_
        exact ih21 v2 v3 (v4 + 1) w hw _ _ hP hS ls (lv_sub hl [1, 2, 3, 4, 0] rfl)
      intro v2 v3 v4 w hw H locs hP hS ls hl
      refine lv_iload hx hb dX3_holdVote_21 (lv_at hl 4 rfl) ?_
      refine lv_iconst (v := 5) hx hb dX3_holdVote_23 (by decide) ?_
      refine lv_icmp_ge (tgt := 81) hx hb dX3_holdVote_24 (by decide) (fun c_1 => ?_) (fun c_1 => ?_)
      · have hw := hw.1 c_1
        refine lv_iload_n hx hb dX3_holdVote_81 rfl (lv_at hl 3 rfl) ?_
        refine lv_iconst (v := 3) hx hb dX3_holdVote_82 (by decide) ?_
        refine lv_icmp_lt (tgt := 106) hx hb dX3_holdVote_83 (by decide) (fun c_2 => ?_) (fun c_2 => ?_)
        · have hw := hw.1 c_2
          refine lv_iload_n hx hb dX3_holdVote_106 rfl (lv_at hl 3 rfl) ?_
          exact W.iret (v := v3) hx hb hr (fun t ht hW => ⟨⟨v3, w, rfl, hw, by show PA D ca ad w t.heap; rw [ht]; exact hP⟩, hS.F ht⟩) hS.2.2 dX3_holdVote_107
        · have hw := hw.2 c_2
          refine lv_iload_n hx hb dX3_holdVote_86 rfl (lv_at hl 2 rfl) ?_
          refine lv_if_lt (tgt := 106) hx hb dX3_holdVote_87 (by decide) (fun c_3 => ?_) (fun c_3 => ?_)
          · have hw := hw.1 c_3
            refine lv_iload_n hx hb dX3_holdVote_106 rfl (lv_at hl 3 rfl) ?_
            exact W.iret (v := v3) hx hb hr (fun t ht hW => ⟨⟨v3, w, rfl, hw, by show PA D ca ad w t.heap; rw [ht]; exact hP⟩, hS.F ht⟩) hS.2.2 dX3_holdVote_107
          · have hw := hw.2 c_3
            refine lv_iload_n hx hb dX3_holdVote_90 rfl (lv_at hl 2 rfl) ?_
            refine lv_aload_n hx hb dX3_holdVote_91 rfl (lv_at hl 0 rfl) ?_
            refine va_get (D := D) (ci := 5) (v := .ref (ad 6)) (C := RX3) (T := TX3) (N := 5) hx hb hts in_X3 hown hK hP 1 (wg1 ca ad w) rfl 4 (by decide) lk_25 (fun _ h9 => h9) rfl dX3_holdVote_92 ?_
            refine va_alen hx hb hK hP 6 0 (wg6 ca ad w) (ty := .int) rfl (v := 513) rfl dX3_holdVote_95 ?_
            refine lv_icmp_ge (tgt := 106) hx hb dX3_holdVote_96 (by decide) (fun c_4 => ?_) (fun c_4 => ?_)
            · have hw := hw.1 c_4
              refine lv_iload_n hx hb dX3_holdVote_106 rfl (lv_at hl 3 rfl) ?_
              exact W.iret (v := v3) hx hb hr (fun t ht hW => ⟨⟨v3, w, rfl, hw, by show PA D ca ad w t.heap; rw [ht]; exact hP⟩, hS.F ht⟩) hS.2.2 dX3_holdVote_107
            · have hw := hw.2 c_4
              refine lv_aload_n hx hb dX3_holdVote_99 rfl (lv_at hl 0 rfl) ?_
              refine va_get (D := D) (ci := 5) (v := .ref (ad 6)) (C := RX3) (T := TX3) (N := 5) hx hb hts in_X3 hown hK hP 1 (wg1 ca ad w) rfl 4 (by decide) lk_25 (fun _ h9 => h9) rfl dX3_holdVote_100 ?_
              refine lv_iload_n hx hb dX3_holdVote_103 rfl (lv_at hl 2 rfl) ?_
              refine lv_iload_n hx hb dX3_holdVote_104 rfl (lv_at hl 1 rfl) ?_
              obtain ⟨h_5, hw⟩ := hw
              refine va_iast hx hb hK hP (DA hAd) hS 6 0 (wg6 ca ad w) rfl h_5 dX3_holdVote_105 (fun H locs hP hD hS => ?_)
              obtain ⟨w_6, e_7⟩ : ∃ z : St, z = (uA w 6 (upd (w.1 6) (v2).toNatClampNeg a0)) := ⟨_, rfl⟩
              have hP : PA D ca ad w_6 H := by rw [e_7]; exact wu6 hP
              have hw := hw w_6 e_7
              refine lv_iload_n hx hb dX3_holdVote_106 rfl (lv_at hl 3 rfl) ?_
              exact W.iret (v := v3) hx hb hr (fun t ht hW => ⟨⟨v3, w_6, rfl, hw, by show PA D ca ad w_6 t.heap; rw [ht]; exact hP⟩, hS.F ht⟩) hS.2.2 dX3_holdVote_107
      · have hw := hw.2 c_1
        refine lv_aload_n hx hb dX3_holdVote_27 rfl (lv_at hl 0 rfl) ?_
        refine lv_iload_n hx hb dX3_holdVote_28 rfl (lv_at hl 1 rfl) ?_
        refine lv_iload hx hb dX3_holdVote_29 (lv_at hl 4 rfl) ?_
        refine va_calli (va_runV (As := [.int a0, .int v4]) (rest := []) ⟨hx, hb, hml, hown, hts⟩ (mX3_reaches l D ca ad base hAd w a0 v4 _ hw) (cwV 2 hts gX3_holdVote_X3_reaches rfl rfl rfl (by decide +kernel) ⟨Nat.le_of_ble_eq_true rfl, Nat.le_of_ble_eq_true rfl⟩) (pv [.int a0, .int v4] hK hP hbs hS rfl (wg1 ca ad w)) rfl rfl hl.1 rfl (lv_room (Nat.le_of_ble_eq_true rfl)) dX3_holdVote_31 ⟨Nat.le_of_ble_eq_true rfl, Nat.le_of_ble_eq_true rfl⟩) hS (fun q _ h => h) (fun q h => h) (fun r_9 w_8 t H locs ht hvm hw hP hz1 hk1 hS => ?_)
        have hP : PA D ca ad w_8 H := by rw [← ht]; exact hP
        refine lv_if_eq (tgt := 75) hx hb dX3_holdVote_34 (by decide) (fun c_10 => ?_) (fun c_10 => ?_)
        · have hw := hw.1 c_10
          exact hB75 v2 v3 v4 w_8 hw _ _ hP hS ls (lv_sub hl [0, 1, 2, 3, 4] rfl)
        · have hw := hw.2 c_10
          refine lv_aload_n hx hb dX3_holdVote_37 rfl (lv_at hl 0 rfl) ?_
          refine va_get (D := D) (ci := 5) (v := .ref (ad 3)) (C := RX3) (T := TX3) (N := 5) hx hb hts in_X3 hown hK hP 1 (wg1 ca ad w_8) rfl 1 (by decide) lk_15 (fun _ h9 => h9) rfl dX3_holdVote_38 ?_
          refine lv_iload hx hb dX3_holdVote_41 (lv_at hl 4 rfl) ?_
          obtain ⟨h_11, hw⟩ := hw
          refine va_iald hx hb hK hP 3 0 (wg3 ca ad w_8) rfl h_11 dX3_holdVote_43 ?_
          refine lv_iload_n hx hb dX3_holdVote_44 rfl (lv_at hl 2 rfl) ?_
          refine lv_icmp_ge (tgt := 75) hx hb dX3_holdVote_45 (by decide) (fun c_12 => ?_) (fun c_12 => ?_)
          · have hw := hw.1 c_12
            exact hB75 v2 v3 v4 w_8 hw _ _ hP hS ls (lv_sub hl [0, 1, 2, 3, 4] rfl)
          · have hw := hw.2 c_12
            refine lv_aload_n hx hb dX3_holdVote_48 rfl (lv_at hl 0 rfl) ?_
            refine va_get (D := D) (ci := 5) (v := .ref (ad 3)) (C := RX3) (T := TX3) (N := 5) hx hb hts in_X3 hown hK hP 1 (wg1 ca ad w_8) rfl 1 (by decide) lk_15 (fun _ h9 => h9) rfl dX3_holdVote_49 ?_
            refine lv_iload hx hb dX3_holdVote_52 (lv_at hl 4 rfl) ?_
            refine lv_iload_n hx hb dX3_holdVote_54 rfl (lv_at hl 2 rfl) ?_
            obtain ⟨h_13, hw⟩ := hw
            refine va_iast hx hb hK hP (DA hAd) hS 3 0 (wg3 ca ad w_8) rfl h_13 dX3_holdVote_55 (fun H locs hP hD hS => ?_)
            obtain ⟨w_14, e_15⟩ : ∃ z : St, z = (uA w_8 3 (upd (w_8.1 3) (v4).toNatClampNeg v2)) := ⟨_, rfl⟩
            have hP : PA D ca ad w_14 H := by rw [e_15]; exact wu3 hP
            have hw := hw w_14 e_15
            refine lv_aload_n hx hb dX3_holdVote_56 rfl (lv_at hl 0 rfl) ?_
            refine va_get (D := D) (ci := 5) (v := .ref (ad 4)) (C := RX3) (T := TX3) (N := 5) hx hb hts in_X3 hown hK hP 1 (wg1 ca ad w_14) rfl 2 (by decide) lk_19 (fun _ h9 => h9) rfl dX3_holdVote_57 ?_
            refine lv_iload hx hb dX3_holdVote_60 (lv_at hl 4 rfl) ?_
            obtain ⟨h_16, hw⟩ := hw
            refine va_iald hx hb hK hP 4 0 (wg4 ca ad w_14) rfl h_16 dX3_holdVote_62 ?_
            refine lv_aload_n hx hb dX3_holdVote_63 rfl (lv_at hl 0 rfl) ?_
            refine va_get (D := D) (ci := 5) (v := .ref (ad 4)) (C := RX3) (T := TX3) (N := 5) hx hb hts in_X3 hown hK hP 1 (wg1 ca ad w_14) rfl 2 (by decide) lk_19 (fun _ h9 => h9) rfl dX3_holdVote_64 ?_
            refine lv_iload_n hx hb dX3_holdVote_67 rfl (lv_at hl 1 rfl) ?_
            obtain ⟨h_17, hw⟩ := hw
            refine va_iald hx hb hK hP 4 0 (wg4 ca ad w_14) rfl h_17 dX3_holdVote_68 ?_
            refine lv_icmp_gt (tgt := 75) hx hb dX3_holdVote_69 (by decide) (fun c_18 => ?_) (fun c_18 => ?_)
            · have hw := hw.1 c_18
              exact hB75 v2 v3 v4 w_14 hw _ _ hP hS ls (lv_sub hl [0, 1, 2, 3, 4] rfl)
            · have hw := hw.2 c_18
              refine lv_iinc (v := (v3 + 1)) (lv' := [(3, .int (v3 + 1)), (0, .ref (ad 1)), (1, .int a0), (2, .int v2), (4, .int v4)]) hx hb dX3_holdVote_72 hl (k := 3) rfl rfl (by decide) rfl (fun ls hl => ?_)
              exact hB75 v2 (v3 + 1) v4 w_14 hw _ _ hP hS ls (lv_sub hl [1, 2, 3, 0, 4] rfl)
  have hl := lv_entry ([.ref (ad 1), .int a0]) (n := 5) (Nat.le_of_ble_eq_true rfl)
  rw [lg_entry_eq]
  generalize (lg_sl ([.ref (ad 1), .int a0]) ++ List.replicate (5 - (lg_sl ([.ref (ad 1), .int a0])).length) Slot.unset).toArray = ls at hl ⊢
  have hl : lv_has ls 5 [(0, .ref (ad 1)), (1, .int a0)] := hl
  refine lv_aload_n hx hb dX3_holdVote_0 rfl (lv_at hl 0 rfl) ?_
  refine va_get (D := D) (ci := 5) (v := .ref (ad 3)) (C := RX3) (T := TX3) (N := 5) hx hb hts in_X3 hown hK hP 1 (wg1 ca ad w) rfl 1 (by decide) lk_15 (fun _ h9 => h9) rfl dX3_holdVote_1 ?_
  refine lv_iload_n hx hb dX3_holdVote_4 rfl (lv_at hl 1 rfl) ?_
  obtain ⟨h_19, hw⟩ := hw
  refine va_iald hx hb hK hP 3 0 (wg3 ca ad w) rfl h_19 dX3_holdVote_5 ?_
  refine lv_iconst (v := 1) hx hb dX3_holdVote_6 (by decide) ?_
  refine lv_iadd hx hb dX3_holdVote_7 ?_
  refine lv_istore_n (lv' := [(2, .int ((w.1 3 (a0).toNatClampNeg) + 1)), (0, .ref (ad 1)), (1, .int a0)]) hx hb dX3_holdVote_8 rfl hl (by decide) rfl (fun ls hl => ?_)
  refine lv_aload_n hx hb dX3_holdVote_9 rfl (lv_at hl 1 rfl) ?_
  refine va_get (D := D) (ci := 5) (v := .ref (ad 3)) (C := RX3) (T := TX3) (N := 5) hx hb hts in_X3 hown hK hP 1 (wg1 ca ad w) rfl 1 (by decide) lk_15 (fun _ h9 => h9) rfl dX3_holdVote_10 ?_
  refine lv_iload_n hx hb dX3_holdVote_13 rfl (lv_at hl 2 rfl) ?_
  refine lv_iload_n hx hb dX3_holdVote_14 rfl (lv_at hl 0 rfl) ?_
  obtain ⟨h_20, hw⟩ := hw
  refine va_iast hx hb hK hP (DA hAd) hS 3 0 (wg3 ca ad w) rfl h_20 dX3_holdVote_15 (fun H locs hP hD hS => ?_)
  obtain ⟨w_21, e_22⟩ : ∃ z : St, z = (uA w 3 (upd (w.1 3) (a0).toNatClampNeg ((w.1 3 (a0).toNatClampNeg) + 1))) := ⟨_, rfl⟩
  have hP : PA D ca ad w_21 H := by rw [e_22]; exact wu3 hP
  have hw := hw w_21 e_22
  refine lv_iconst (v := 1) hx hb dX3_holdVote_16 (by decide) ?_
  refine lv_istore_n (lv' := [(3, .int 1), (2, .int ((w.1 3 (a0).toNatClampNeg) + 1)), (0, .ref (ad 1)), (1, .int a0)]) hx hb dX3_holdVote_17 rfl hl (by decide) rfl (fun ls hl => ?_)
  refine lv_iconst (v := 0) hx hb dX3_holdVote_18 (by decide) ?_
  refine lv_istore (lv' := [(4, .int 0), (3, .int 1), (2, .int ((w.1 3 (a0).toNatClampNeg) + 1)), (0, .ref (ad 1)), (1, .int a0)]) hx hb dX3_holdVote_19 hl (by decide) rfl (fun ls hl => ?_)
  obtain ⟨n_21, hw⟩ := hw
  exact hB21 n_21 ((w.1 3 (a0).toNatClampNeg) + 1) 1 0 w_21 hw _ _ hP hS ls (lv_sub hl [3, 4, 2, 1, 0] rfl)
set_option maxHeartbeats 4000000 in
set_option maxRecDepth 100000 in
def wpX3_winnerOf (a0 : Int32) (w : St) (post : Int32 → St → Prop) : Prop := (a0 < 0 → (post (-1) w)) ∧ (¬ (a0 < 0) → ((513 ≤ a0 → (post (-1) w)) ∧ (¬ (513 ≤ a0) → ((vp_in a0 513) ∧ (post (w.1 6 (a0).toNatClampNeg) w)))))
set_option maxHeartbeats 4000000 in
set_option maxRecDepth 100000 in
theorem mX3_winnerOf (l : Launch) (D : va_G) (ca : Nat → ClassId) (ad : Nat → Nat) (base : Nat) (hAd : okA base ad) (w : St) (a0 : Int32) (post : Int32 → St → Prop) (hw : wpX3_winnerOf a0 w post) : Met l yX3_winnerOf wsX3_winnerOf ({ frames := 0, cells := 0, slots := 0, locals := 0 } : Room) (va_Pc [.ref (ad 1), .int a0] (BU D ca ad base w)) (va_Qi post (Bp D ca ad) (AB base)) 0 0 (AB base) := by
  refine Met.ofW (cc := cX3_winnerOf) (maxL := 2) (ret := (some .int)) (by decide) rfl ?_
  intro p e s m args below meth c s₁ B hml hv
  obtain ⟨rfl, hbs, hP, hK⟩ := hv
  have hx := B.exec
  have hb := B.bytes
  have hr := B.returns
  have hts := atoms_spec (ws := wsX3_winnerOf) B.pre
  have hown : s.vm.findClass RX3 = some m.cls := findClass_of_methodNamed B.named
  have hlocks := B.notSynchronized
  have in_X3 : ∀ w ∈ wsX30, w ∈ wsX3_winnerOf := by decide +kernel
  have lk_25 := hts (.fieldLink RX3 25 "LockQuorum$Members" "winner" "[I") (by decide +kernel)
  have hS : va_S (AB base) s.heap s.heap [] := va_S.rf
  have hl := lv_entry ([.ref (ad 1), .int a0]) (n := 2) (Nat.le_of_ble_eq_true rfl)
  rw [lg_entry_eq]
  generalize (lg_sl ([.ref (ad 1), .int a0]) ++ List.replicate (2 - (lg_sl ([.ref (ad 1), .int a0])).length) Slot.unset).toArray = ls at hl ⊢
  have hl : lv_has ls 2 [(0, .ref (ad 1)), (1, .int a0)] := hl
  refine lv_iload_n hx hb dX3_winnerOf_0 rfl (lv_at hl 1 rfl) ?_
  refine lv_if_lt (tgt := 22) hx hb dX3_winnerOf_1 (by decide) (fun c_1 => ?_) (fun c_1 => ?_)
  · have hw := hw.1 c_1
    refine lv_iconst (v := (-1)) hx hb dX3_winnerOf_22 (by decide) ?_
    exact W.iret (v := (-1)) hx hb hr (fun t ht hW => ⟨⟨(-1), w, rfl, hw, by show PA D ca ad w t.heap; rw [ht]; exact hP⟩, hS.F ht⟩) hS.2.2 dX3_winnerOf_23
  · have hw := hw.2 c_1
    refine lv_iload_n hx hb dX3_winnerOf_4 rfl (lv_at hl 1 rfl) ?_
    refine lv_aload_n hx hb dX3_winnerOf_5 rfl (lv_at hl 0 rfl) ?_
    refine va_get (D := D) (ci := 5) (v := .ref (ad 6)) (C := RX3) (T := TX3) (N := 5) hx hb hts in_X3 hown hK hP 1 (wg1 ca ad w) rfl 4 (by decide) lk_25 (fun _ h9 => h9) rfl dX3_winnerOf_6 ?_
    refine va_alen hx hb hK hP 6 0 (wg6 ca ad w) (ty := .int) rfl (v := 513) rfl dX3_winnerOf_9 ?_
    refine lv_icmp_ge (tgt := 22) hx hb dX3_winnerOf_10 (by decide) (fun c_2 => ?_) (fun c_2 => ?_)
    · have hw := hw.1 c_2
      refine lv_iconst (v := (-1)) hx hb dX3_winnerOf_22 (by decide) ?_
      exact W.iret (v := (-1)) hx hb hr (fun t ht hW => ⟨⟨(-1), w, rfl, hw, by show PA D ca ad w t.heap; rw [ht]; exact hP⟩, hS.F ht⟩) hS.2.2 dX3_winnerOf_23
    · have hw := hw.2 c_2
      refine lv_aload_n hx hb dX3_winnerOf_13 rfl (lv_at hl 0 rfl) ?_
      refine va_get (D := D) (ci := 5) (v := .ref (ad 6)) (C := RX3) (T := TX3) (N := 5) hx hb hts in_X3 hown hK hP 1 (wg1 ca ad w) rfl 4 (by decide) lk_25 (fun _ h9 => h9) rfl dX3_winnerOf_14 ?_
      refine lv_iload_n hx hb dX3_winnerOf_17 rfl (lv_at hl 1 rfl) ?_
      obtain ⟨h_3, hw⟩ := hw
      refine va_iald hx hb hK hP 6 0 (wg6 ca ad w) rfl h_3 dX3_winnerOf_18 ?_
      refine lv_goto (tgt := 23) hx hb dX3_winnerOf_19 (by decide) ?_
      exact W.iret (v := (w.1 6 (a0).toNatClampNeg)) hx hb hr (fun t ht hW => ⟨⟨(w.1 6 (a0).toNatClampNeg), w, rfl, hw, by show PA D ca ad w t.heap; rw [ht]; exact hP⟩, hS.F ht⟩) hS.2.2 dX3_winnerOf_23
set_option maxHeartbeats 4000000 in
set_option maxRecDepth 100000 in
def wpX3_leads (a0 : Int32) (w : St) (post : Int32 → St → Prop) : Prop := (vp_in a0 5) ∧ (wpX3_winnerOf (w.1 3 (a0).toNatClampNeg) w (fun r_3 w_2 => (r_3 = a0 → (post 1 w_2)) ∧ (¬ (r_3 = a0) → (post 0 w_2))))
set_option maxHeartbeats 4000000 in
set_option maxRecDepth 100000 in
theorem mX3_leads (l : Launch) (D : va_G) (ca : Nat → ClassId) (ad : Nat → Nat) (base : Nat) (hAd : okA base ad) (w : St) (a0 : Int32) (post : Int32 → St → Prop) (hw : wpX3_leads a0 w post) : Met l yX3_leads wsX3_leads ({ frames := 1, cells := 0, slots := 0, locals := 21 } : Room) (va_Pc [.ref (ad 1), .int a0] (BU D ca ad base w)) (va_Qi post (Bp D ca ad) (AB base)) 0 0 (AB base) := by
  refine Met.ofW (cc := cX3_leads) (maxL := 2) (ret := (some .boolean)) (by decide) rfl ?_
  intro p e s m args below meth c s₁ B hml hv
  obtain ⟨rfl, hbs, hP, hK⟩ := hv
  have hx := B.exec
  have hb := B.bytes
  have hr := B.returns
  have hts := atoms_spec (ws := wsX3_leads) B.pre
  have hown : s.vm.findClass RX3 = some m.cls := findClass_of_methodNamed B.named
  have hlocks := B.notSynchronized
  have in_X3 : ∀ w ∈ wsX30, w ∈ wsX3_leads := by decide +kernel
  have lk_15 := hts (.fieldLink RX3 15 "LockQuorum$Members" "term" "[I") (by decide +kernel)
  have hS : va_S (AB base) s.heap s.heap [] := va_S.rf
  have hl := lv_entry ([.ref (ad 1), .int a0]) (n := 2) (Nat.le_of_ble_eq_true rfl)
  rw [lg_entry_eq]
  generalize (lg_sl ([.ref (ad 1), .int a0]) ++ List.replicate (2 - (lg_sl ([.ref (ad 1), .int a0])).length) Slot.unset).toArray = ls at hl ⊢
  have hl : lv_has ls 2 [(0, .ref (ad 1)), (1, .int a0)] := hl
  refine lv_aload_n hx hb dX3_leads_0 rfl (lv_at hl 0 rfl) ?_
  refine lv_aload_n hx hb dX3_leads_1 rfl (lv_at hl 0 rfl) ?_
  refine va_get (D := D) (ci := 5) (v := .ref (ad 3)) (C := RX3) (T := TX3) (N := 5) hx hb hts in_X3 hown hK hP 1 (wg1 ca ad w) rfl 1 (by decide) lk_15 (fun _ h9 => h9) rfl dX3_leads_2 ?_
  refine lv_iload_n hx hb dX3_leads_5 rfl (lv_at hl 1 rfl) ?_
  obtain ⟨h_1, hw⟩ := hw
  refine va_iald hx hb hK hP 3 0 (wg3 ca ad w) rfl h_1 dX3_leads_6 ?_
  refine va_calli (va_runV (As := [.int (w.1 3 (a0).toNatClampNeg)]) (rest := []) ⟨hx, hb, hml, hown, hts⟩ (mX3_winnerOf l D ca ad base hAd w (w.1 3 (a0).toNatClampNeg) _ hw) (cwV 1 hts gX3_leads_X3_winnerOf rfl rfl rfl (by decide +kernel) ⟨Nat.le_of_ble_eq_true rfl, Nat.le_of_ble_eq_true rfl⟩) (pv [.int (w.1 3 (a0).toNatClampNeg)] hK hP hbs hS rfl (wg1 ca ad w)) rfl rfl hl.1 rfl (lv_room (Nat.le_of_ble_eq_true rfl)) dX3_leads_7 ⟨Nat.le_of_ble_eq_true rfl, Nat.le_of_ble_eq_true rfl⟩) hS (fun q _ h => h) (fun q h => h) (fun r_3 w_2 t H locs ht hvm hw hP hz1 hk1 hS => ?_)
  have hP : PA D ca ad w_2 H := by rw [← ht]; exact hP
  refine lv_iload_n hx hb dX3_leads_10 rfl (lv_at hl 1 rfl) ?_
  refine lv_icmp_ne (tgt := 18) hx hb dX3_leads_11 (by decide) (fun c_4 => ?_) (fun c_4 => ?_)
  · have hw := hw.2 c_4
    refine lv_iconst (v := 0) hx hb dX3_leads_18 (by decide) ?_
    exact W.zret (v := 0) hx hb hr (by decide) (fun t ht hW => ⟨⟨0, w_2, rfl, hw, by show PA D ca ad w_2 t.heap; rw [ht]; exact hP⟩, hS.F ht⟩) hS.2.2 dX3_leads_19
  · have hw := hw.1 c_4
    refine lv_iconst (v := 1) hx hb dX3_leads_14 (by decide) ?_
    refine lv_goto (tgt := 19) hx hb dX3_leads_15 (by decide) ?_
    exact W.zret (v := 1) hx hb hr (by decide) (fun t ht hW => ⟨⟨1, w_2, rfl, hw, by show PA D ca ad w_2 t.heap; rw [ht]; exact hP⟩, hS.F ht⟩) hS.2.2 dX3_leads_19
set_option maxHeartbeats 4000000 in
set_option maxRecDepth 100000 in
def wpX3_greatestTermReached_B40 (a0 : Int32) (post : Int32 → St → Prop) (K9 : Int32 → Int32 → St → Prop) (v2 : Int32) (v3 : Int32) (w : St) : Prop := K9 v2 (v3 + 1) w
set_option maxHeartbeats 4000000 in
set_option maxRecDepth 100000 in
def wpX3_greatestTermReached_L9 (a0 : Int32) (post : Int32 → St → Prop) : Nat → Int32 → Int32 → St → Prop
  | 0, _, _, _ => False
  | n + 1, v2, v3, w => (5 ≤ v3 → (post v2 w)) ∧ (¬ (5 ≤ v3) → (wpX3_reaches a0 v3 w (fun r_3 w_2 => (r_3 = 0 → (wpX3_greatestTermReached_B40 a0 post (fun v2 v3 w => wpX3_greatestTermReached_L9 a0 post n v2 v3 w) v2 v3 w_2)) ∧ (¬ (r_3 = 0) → ((vp_in v3 5) ∧ (((w_2.1 3 (v3).toNatClampNeg) ≤ v2 → (wpX3_greatestTermReached_B40 a0 post (fun v2 v3 w => wpX3_greatestTermReached_L9 a0 post n v2 v3 w) v2 v3 w_2)) ∧ (¬ ((w_2.1 3 (v3).toNatClampNeg) ≤ v2) → ((vp_in v3 5) ∧ (wpX3_greatestTermReached_B40 a0 post (fun v2 v3 w => wpX3_greatestTermReached_L9 a0 post n v2 v3 w) (w_2.1 3 (v3).toNatClampNeg) v3 w_2)))))))))
set_option maxHeartbeats 4000000 in
set_option maxRecDepth 100000 in
def wpX3_greatestTermReached (a0 : Int32) (w : St) (post : Int32 → St → Prop) : Prop := (vp_in a0 5) ∧ (∃ n : Nat, wpX3_greatestTermReached_L9 a0 post n (w.1 3 (a0).toNatClampNeg) 0 w)
set_option maxHeartbeats 4000000 in
set_option maxRecDepth 100000 in
theorem mX3_greatestTermReached (l : Launch) (D : va_G) (ca : Nat → ClassId) (ad : Nat → Nat) (base : Nat) (hAd : okA base ad) (w : St) (a0 : Int32) (post : Int32 → St → Prop) (hw : wpX3_greatestTermReached a0 w post) : Met l yX3_greatestTermReached wsX3_greatestTermReached ({ frames := 1, cells := 0, slots := 0, locals := 22 } : Room) (va_Pc [.ref (ad 1), .int a0] (BU D ca ad base w)) (va_Qi post (Bp D ca ad) (AB base)) 0 0 (AB base) := by
  refine Met.ofW (cc := cX3_greatestTermReached) (maxL := 4) (ret := (some .int)) (by decide) rfl ?_
  intro p e s m args below meth c s₁ B hml hv
  obtain ⟨rfl, hbs, hP, hK⟩ := hv
  have hx := B.exec
  have hb := B.bytes
  have hr := B.returns
  have hts := atoms_spec (ws := wsX3_greatestTermReached) B.pre
  have hown : s.vm.findClass RX3 = some m.cls := findClass_of_methodNamed B.named
  have hlocks := B.notSynchronized
  have in_X3 : ∀ w ∈ wsX30, w ∈ wsX3_greatestTermReached := by decide +kernel
  have lk_15 := hts (.fieldLink RX3 15 "LockQuorum$Members" "term" "[I") (by decide +kernel)
  have hS : va_S (AB base) s.heap s.heap [] := va_S.rf
  have hB9 : ∀ (n : Nat) (v2 : Int32) (v3 : Int32) (w : St), wpX3_greatestTermReached_L9 a0 post n v2 v3 w → ∀ (H : Heap) (locs : List Loc), PA D ca ad w H → va_S (AB base) s.heap H locs → ∀ ls : Array Slot, lv_has ls 4 [(0, .ref (ad 1)), (1, .int a0), (2, .int v2), (3, .int v3)] → W p l e (headSpec wsX3_greatestTermReached ({ frames := 1, cells := 0, slots := 0, locals := 22 } : Room)).room s m ([Value.ref (ad 1), Value.int a0].toArray) below meth c H locs 0 0 (MQ below (va_Qi post (Bp D ca ad) (AB base)) ([Value.ref (ad 1), Value.int a0].toArray) s 0 0 (AB base)) (F0 m 9 ls []) := by
    intro n
    induction n with
    | zero => intro v2 v3 w hw; exact hw.elim
    | succ n ih9 =>
      have hB40 : ∀ (v2 : Int32) (v3 : Int32) (w : St), wpX3_greatestTermReached_B40 a0 post (fun v2 v3 w => wpX3_greatestTermReached_L9 a0 post n v2 v3 w) v2 v3 w → ∀ (H : Heap) (locs : List Loc), PA D ca ad w H → va_S (AB base) s.heap H locs → ∀ ls : Array Slot, lv_has ls 4 [(0, .ref (ad 1)), (1, .int a0), (2, .int v2), (3, .int v3)] → W p l e (headSpec wsX3_greatestTermReached ({ frames := 1, cells := 0, slots := 0, locals := 22 } : Room)).room s m ([Value.ref (ad 1), Value.int a0].toArray) below meth c H locs 0 0 (MQ below (va_Qi post (Bp D ca ad) (AB base)) ([Value.ref (ad 1), Value.int a0].toArray) s 0 0 (AB base)) (F0 m 40 ls []) := by
        intro v2 v3 w hw H locs hP hS ls hl
        refine lv_iinc (v := (v3 + 1)) (lv' := [(3, .int (v3 + 1)), (0, .ref (ad 1)), (1, .int a0), (2, .int v2)]) hx hb dX3_greatestTermReached_40 hl (k := 3) rfl rfl (by decide) rfl (fun ls hl => ?_)
        refine lv_goto (tgt := 9) hx hb dX3_greatestTermReached_43 (by decide) ?_
        exact ih9 v2 (v3 + 1) w hw _ _ hP hS ls (lv_sub hl [1, 2, 3, 0] rfl)
      intro v2 v3 w hw H locs hP hS ls hl
      refine lv_iload_n hx hb dX3_greatestTermReached_9 rfl (lv_at hl 3 rfl) ?_
      refine lv_iconst (v := 5) hx hb dX3_greatestTermReached_10 (by decide) ?_
      refine lv_icmp_ge (tgt := 46) hx hb dX3_greatestTermReached_11 (by decide) (fun c_1 => ?_) (fun c_1 => ?_)
      · have hw := hw.1 c_1
        refine lv_iload_n hx hb dX3_greatestTermReached_46 rfl (lv_at hl 2 rfl) ?_
        exact W.iret (v := v2) hx hb hr (fun t ht hW => ⟨⟨v2, w, rfl, hw, by show PA D ca ad w t.heap; rw [ht]; exact hP⟩, hS.F ht⟩) hS.2.2 dX3_greatestTermReached_47
      · have hw := hw.2 c_1
        refine lv_aload_n hx hb dX3_greatestTermReached_14 rfl (lv_at hl 0 rfl) ?_
        refine lv_iload_n hx hb dX3_greatestTermReached_15 rfl (lv_at hl 1 rfl) ?_
        refine lv_iload_n hx hb dX3_greatestTermReached_16 rfl (lv_at hl 3 rfl) ?_
        refine va_calli (va_runV (As := [.int a0, .int v3]) (rest := []) ⟨hx, hb, hml, hown, hts⟩ (mX3_reaches l D ca ad base hAd w a0 v3 _ hw) (cwV 2 hts gX3_greatestTermReached_X3_reaches rfl rfl rfl (by decide +kernel) ⟨Nat.le_of_ble_eq_true rfl, Nat.le_of_ble_eq_true rfl⟩) (pv [.int a0, .int v3] hK hP hbs hS rfl (wg1 ca ad w)) rfl rfl hl.1 rfl (lv_room (Nat.le_of_ble_eq_true rfl)) dX3_greatestTermReached_17 ⟨Nat.le_of_ble_eq_true rfl, Nat.le_of_ble_eq_true rfl⟩) hS (fun q _ h => h) (fun q h => h) (fun r_3 w_2 t H locs ht hvm hw hP hz1 hk1 hS => ?_)
        have hP : PA D ca ad w_2 H := by rw [← ht]; exact hP
        refine lv_if_eq (tgt := 40) hx hb dX3_greatestTermReached_20 (by decide) (fun c_4 => ?_) (fun c_4 => ?_)
        · have hw := hw.1 c_4
          exact hB40 v2 v3 w_2 hw _ _ hP hS ls (lv_sub hl [0, 1, 2, 3] rfl)
        · have hw := hw.2 c_4
          refine lv_aload_n hx hb dX3_greatestTermReached_23 rfl (lv_at hl 0 rfl) ?_
          refine va_get (D := D) (ci := 5) (v := .ref (ad 3)) (C := RX3) (T := TX3) (N := 5) hx hb hts in_X3 hown hK hP 1 (wg1 ca ad w_2) rfl 1 (by decide) lk_15 (fun _ h9 => h9) rfl dX3_greatestTermReached_24 ?_
          refine lv_iload_n hx hb dX3_greatestTermReached_27 rfl (lv_at hl 3 rfl) ?_
          obtain ⟨h_5, hw⟩ := hw
          refine va_iald hx hb hK hP 3 0 (wg3 ca ad w_2) rfl h_5 dX3_greatestTermReached_28 ?_
          refine lv_iload_n hx hb dX3_greatestTermReached_29 rfl (lv_at hl 2 rfl) ?_
          refine lv_icmp_le (tgt := 40) hx hb dX3_greatestTermReached_30 (by decide) (fun c_6 => ?_) (fun c_6 => ?_)
          · have hw := hw.1 c_6
            exact hB40 v2 v3 w_2 hw _ _ hP hS ls (lv_sub hl [0, 1, 2, 3] rfl)
          · have hw := hw.2 c_6
            refine lv_aload_n hx hb dX3_greatestTermReached_33 rfl (lv_at hl 0 rfl) ?_
            refine va_get (D := D) (ci := 5) (v := .ref (ad 3)) (C := RX3) (T := TX3) (N := 5) hx hb hts in_X3 hown hK hP 1 (wg1 ca ad w_2) rfl 1 (by decide) lk_15 (fun _ h9 => h9) rfl dX3_greatestTermReached_34 ?_
            refine lv_iload_n hx hb dX3_greatestTermReached_37 rfl (lv_at hl 3 rfl) ?_
            obtain ⟨h_7, hw⟩ := hw
            refine va_iald hx hb hK hP 3 0 (wg3 ca ad w_2) rfl h_7 dX3_greatestTermReached_38 ?_
            refine lv_istore_n (lv' := [(2, .int (w_2.1 3 (v3).toNatClampNeg)), (0, .ref (ad 1)), (1, .int a0), (3, .int v3)]) hx hb dX3_greatestTermReached_39 rfl hl (by decide) rfl (fun ls hl => ?_)
            exact hB40 (w_2.1 3 (v3).toNatClampNeg) v3 w_2 hw _ _ hP hS ls (lv_sub hl [1, 2, 0, 3] rfl)
  have hl := lv_entry ([.ref (ad 1), .int a0]) (n := 4) (Nat.le_of_ble_eq_true rfl)
  rw [lg_entry_eq]
  generalize (lg_sl ([.ref (ad 1), .int a0]) ++ List.replicate (4 - (lg_sl ([.ref (ad 1), .int a0])).length) Slot.unset).toArray = ls at hl ⊢
  have hl : lv_has ls 4 [(0, .ref (ad 1)), (1, .int a0)] := hl
  refine lv_aload_n hx hb dX3_greatestTermReached_0 rfl (lv_at hl 0 rfl) ?_
  refine va_get (D := D) (ci := 5) (v := .ref (ad 3)) (C := RX3) (T := TX3) (N := 5) hx hb hts in_X3 hown hK hP 1 (wg1 ca ad w) rfl 1 (by decide) lk_15 (fun _ h9 => h9) rfl dX3_greatestTermReached_1 ?_
  refine lv_iload_n hx hb dX3_greatestTermReached_4 rfl (lv_at hl 1 rfl) ?_
  obtain ⟨h_8, hw⟩ := hw
  refine va_iald hx hb hK hP 3 0 (wg3 ca ad w) rfl h_8 dX3_greatestTermReached_5 ?_
  refine lv_istore_n (lv' := [(2, .int (w.1 3 (a0).toNatClampNeg)), (0, .ref (ad 1)), (1, .int a0)]) hx hb dX3_greatestTermReached_6 rfl hl (by decide) rfl (fun ls hl => ?_)
  refine lv_iconst (v := 0) hx hb dX3_greatestTermReached_7 (by decide) ?_
  refine lv_istore_n (lv' := [(3, .int 0), (2, .int (w.1 3 (a0).toNatClampNeg)), (0, .ref (ad 1)), (1, .int a0)]) hx hb dX3_greatestTermReached_8 rfl hl (by decide) rfl (fun ls hl => ?_)
  obtain ⟨n_9, hw⟩ := hw
  exact hB9 n_9 (w.1 3 (a0).toNatClampNeg) 0 w hw _ _ hP hS ls (lv_sub hl [2, 3, 1, 0] rfl)
set_option maxHeartbeats 4000000 in
set_option maxRecDepth 100000 in
def wpX3_consult_B66 (a0 : Int32) (post : Int32 → St → Prop) (K40 : Int32 → St → Prop) (v3 : Int32) (w : St) : Prop := K40 (v3 + 1) w
set_option maxHeartbeats 4000000 in
set_option maxRecDepth 100000 in
def wpX3_consult_L40 (a0 : Int32) (post : Int32 → St → Prop) : Nat → Int32 → St → Prop
  | 0, _, _ => False
  | n + 1, v3, w => (5 ≤ v3 → (post 103 w)) ∧ (¬ (5 ≤ v3) → (wpX3_reaches a0 v3 w (fun r_3 w_2 => (r_3 = 0 → (wpX3_consult_B66 a0 post (fun v3 w => wpX3_consult_L40 a0 post n v3 w) v3 w_2)) ∧ (¬ (r_3 = 0) → ((vp_in a0 5) ∧ ((vp_in v3 5) ∧ (∀ w_7 : St, w_7 = (uA w_2 3 (upd (w_2.1 3) (v3).toNatClampNeg (w_2.1 3 (a0).toNatClampNeg))) → wpX3_consult_B66 a0 post (fun v3 w => wpX3_consult_L40 a0 post n v3 w) v3 w_7)))))))
set_option maxHeartbeats 4000000 in
set_option maxRecDepth 100000 in
def wpX3_consult (a0 : Int32) (w : St) (post : Int32 → St → Prop) : Prop := wpX3_greatestTermReached a0 w (fun r_10 w_9 => (vp_in a0 5) ∧ ((r_10 ≤ (w_9.1 3 (a0).toNatClampNeg) → (wpX3_countReached a0 w_9 (fun r_14 w_13 => (3 ≤ r_14 → (∃ n : Nat, wpX3_consult_L40 a0 post n 0 w_13)) ∧ (¬ (3 ≤ r_14) → (post 110 w_13))))) ∧ (¬ (r_10 ≤ (w_9.1 3 (a0).toNatClampNeg)) → ((vp_in a0 5) ∧ (∀ w_17 : St, w_17 = (uA w_9 3 (upd (w_9.1 3) (a0).toNatClampNeg r_10)) → post 116 w_17)))))
set_option maxHeartbeats 4000000 in
set_option maxRecDepth 100000 in
theorem mX3_consult (l : Launch) (D : va_G) (ca : Nat → ClassId) (ad : Nat → Nat) (base : Nat) (hAd : okA base ad) (w : St) (a0 : Int32) (post : Int32 → St → Prop) (hw : wpX3_consult a0 w post) : Met l yX3_consult wsX3_consult ({ frames := 2, cells := 0, slots := 0, locals := 45 } : Room) (va_Pc [.ref (ad 1), .int a0] (BU D ca ad base w)) (va_Qi post (Bp D ca ad) (AB base)) 0 0 (AB base) := by
  refine Met.ofW (cc := cX3_consult) (maxL := 4) (ret := (some .char)) (by decide) rfl ?_
  intro p e s m args below meth c s₁ B hml hv
  obtain ⟨rfl, hbs, hP, hK⟩ := hv
  have hx := B.exec
  have hb := B.bytes
  have hr := B.returns
  have hts := atoms_spec (ws := wsX3_consult) B.pre
  have hown : s.vm.findClass RX3 = some m.cls := findClass_of_methodNamed B.named
  have hlocks := B.notSynchronized
  have in_X3 : ∀ w ∈ wsX30, w ∈ wsX3_consult := by decide +kernel
  have lk_15 := hts (.fieldLink RX3 15 "LockQuorum$Members" "term" "[I") (by decide +kernel)
  have hS : va_S (AB base) s.heap s.heap [] := va_S.rf
  have hB40 : ∀ (n : Nat) (v3 : Int32) (w : St), wpX3_consult_L40 a0 post n v3 w → ∀ (H : Heap) (locs : List Loc), PA D ca ad w H → va_S (AB base) s.heap H locs → ∀ ls : Array Slot, lv_has ls 4 [(0, .ref (ad 1)), (1, .int a0), (3, .int v3)] → W p l e (headSpec wsX3_consult ({ frames := 2, cells := 0, slots := 0, locals := 45 } : Room)).room s m ([Value.ref (ad 1), Value.int a0].toArray) below meth c H locs 0 0 (MQ below (va_Qi post (Bp D ca ad) (AB base)) ([Value.ref (ad 1), Value.int a0].toArray) s 0 0 (AB base)) (F0 m 40 ls []) := by
    intro n
    induction n with
    | zero => intro v3 w hw; exact hw.elim
    | succ n ih40 =>
      have hB66 : ∀ (v3 : Int32) (w : St), wpX3_consult_B66 a0 post (fun v3 w => wpX3_consult_L40 a0 post n v3 w) v3 w → ∀ (H : Heap) (locs : List Loc), PA D ca ad w H → va_S (AB base) s.heap H locs → ∀ ls : Array Slot, lv_has ls 4 [(0, .ref (ad 1)), (1, .int a0), (3, .int v3)] → W p l e (headSpec wsX3_consult ({ frames := 2, cells := 0, slots := 0, locals := 45 } : Room)).room s m ([Value.ref (ad 1), Value.int a0].toArray) below meth c H locs 0 0 (MQ below (va_Qi post (Bp D ca ad) (AB base)) ([Value.ref (ad 1), Value.int a0].toArray) s 0 0 (AB base)) (F0 m 66 ls []) := by
        intro v3 w hw H locs hP hS ls hl
        refine lv_iinc (v := (v3 + 1)) (lv' := [(3, .int (v3 + 1)), (0, .ref (ad 1)), (1, .int a0)]) hx hb dX3_consult_66 hl (k := 2) rfl rfl (by decide) rfl (fun ls hl => ?_)
        refine lv_goto (tgt := 40) hx hb dX3_consult_69 (by decide) ?_
        exact ih40 (v3 + 1) w hw _ _ hP hS ls (lv_sub hl [1, 2, 0] rfl)
      intro v3 w hw H locs hP hS ls hl
      refine lv_iload_n hx hb dX3_consult_40 rfl (lv_at hl 2 rfl) ?_
      refine lv_iconst (v := 5) hx hb dX3_consult_41 (by decide) ?_
      refine lv_icmp_ge (tgt := 72) hx hb dX3_consult_42 (by decide) (fun c_1 => ?_) (fun c_1 => ?_)
      · have hw := hw.1 c_1
        refine lv_bipush (v := 103) hx hb dX3_consult_72 (by decide) ?_
        exact W.zret (v := 103) hx hb hr (by decide) (fun t ht hW => ⟨⟨103, w, rfl, hw, by show PA D ca ad w t.heap; rw [ht]; exact hP⟩, hS.F ht⟩) hS.2.2 dX3_consult_74
      · have hw := hw.2 c_1
        refine lv_aload_n hx hb dX3_consult_45 rfl (lv_at hl 0 rfl) ?_
        refine lv_iload_n hx hb dX3_consult_46 rfl (lv_at hl 1 rfl) ?_
        refine lv_iload_n hx hb dX3_consult_47 rfl (lv_at hl 2 rfl) ?_
        refine va_calli (va_runV (As := [.int a0, .int v3]) (rest := []) ⟨hx, hb, hml, hown, hts⟩ (mX3_reaches l D ca ad base hAd w a0 v3 _ hw) (cwV 2 hts gX3_consult_X3_reaches rfl rfl rfl (by decide +kernel) ⟨Nat.le_of_ble_eq_true rfl, Nat.le_of_ble_eq_true rfl⟩) (pv [.int a0, .int v3] hK hP hbs hS rfl (wg1 ca ad w)) rfl rfl hl.1 rfl (lv_room (Nat.le_of_ble_eq_true rfl)) dX3_consult_48 ⟨Nat.le_of_ble_eq_true rfl, Nat.le_of_ble_eq_true rfl⟩) hS (fun q _ h => h) (fun q h => h) (fun r_3 w_2 t H locs ht hvm hw hP hz1 hk1 hS => ?_)
        have hP : PA D ca ad w_2 H := by rw [← ht]; exact hP
        refine lv_if_eq (tgt := 66) hx hb dX3_consult_51 (by decide) (fun c_4 => ?_) (fun c_4 => ?_)
        · have hw := hw.1 c_4
          exact hB66 v3 w_2 hw _ _ hP hS ls (lv_sub hl [0, 1, 2] rfl)
        · have hw := hw.2 c_4
          refine lv_aload_n hx hb dX3_consult_54 rfl (lv_at hl 0 rfl) ?_
          refine va_get (D := D) (ci := 5) (v := .ref (ad 3)) (C := RX3) (T := TX3) (N := 5) hx hb hts in_X3 hown hK hP 1 (wg1 ca ad w_2) rfl 1 (by decide) lk_15 (fun _ h9 => h9) rfl dX3_consult_55 ?_
          refine lv_iload_n hx hb dX3_consult_58 rfl (lv_at hl 2 rfl) ?_
          refine lv_aload_n hx hb dX3_consult_59 rfl (lv_at hl 0 rfl) ?_
          refine va_get (D := D) (ci := 5) (v := .ref (ad 3)) (C := RX3) (T := TX3) (N := 5) hx hb hts in_X3 hown hK hP 1 (wg1 ca ad w_2) rfl 1 (by decide) lk_15 (fun _ h9 => h9) rfl dX3_consult_60 ?_
          refine lv_iload_n hx hb dX3_consult_63 rfl (lv_at hl 1 rfl) ?_
          obtain ⟨h_5, hw⟩ := hw
          refine va_iald hx hb hK hP 3 0 (wg3 ca ad w_2) rfl h_5 dX3_consult_64 ?_
          obtain ⟨h_6, hw⟩ := hw
          refine va_iast hx hb hK hP (DA hAd) hS 3 0 (wg3 ca ad w_2) rfl h_6 dX3_consult_65 (fun H locs hP hD hS => ?_)
          obtain ⟨w_7, e_8⟩ : ∃ z : St, z = (uA w_2 3 (upd (w_2.1 3) (v3).toNatClampNeg (w_2.1 3 (a0).toNatClampNeg))) := ⟨_, rfl⟩
          have hP : PA D ca ad w_7 H := by rw [e_8]; exact wu3 hP
          have hw := hw w_7 e_8
          exact hB66 v3 w_7 hw _ _ hP hS ls (lv_sub hl [0, 1, 2] rfl)
  have hl := lv_entry ([.ref (ad 1), .int a0]) (n := 4) (Nat.le_of_ble_eq_true rfl)
  rw [lg_entry_eq]
  generalize (lg_sl ([.ref (ad 1), .int a0]) ++ List.replicate (4 - (lg_sl ([.ref (ad 1), .int a0])).length) Slot.unset).toArray = ls at hl ⊢
  have hl : lv_has ls 4 [(0, .ref (ad 1)), (1, .int a0)] := hl
  refine lv_aload_n hx hb dX3_consult_0 rfl (lv_at hl 0 rfl) ?_
  refine lv_iload_n hx hb dX3_consult_1 rfl (lv_at hl 1 rfl) ?_
  refine va_calli (va_runV (As := [.int a0]) (rest := []) ⟨hx, hb, hml, hown, hts⟩ (mX3_greatestTermReached l D ca ad base hAd w a0 _ hw) (cwV 1 hts gX3_consult_X3_greatestTermReached rfl rfl rfl (by decide +kernel) ⟨Nat.le_of_ble_eq_true rfl, Nat.le_of_ble_eq_true rfl⟩) (pv [.int a0] hK hP hbs hS rfl (wg1 ca ad w)) rfl rfl hl.1 rfl (lv_room (Nat.le_of_ble_eq_true rfl)) dX3_consult_2 ⟨Nat.le_of_ble_eq_true rfl, Nat.le_of_ble_eq_true rfl⟩) hS (fun q _ h => h) (fun q h => h) (fun r_10 w_9 t H locs ht hvm hw hP hz1 hk1 hS => ?_)
  have hP : PA D ca ad w_9 H := by rw [← ht]; exact hP
  refine lv_istore_n (lv' := [(2, .int r_10), (0, .ref (ad 1)), (1, .int a0)]) hx hb dX3_consult_5 rfl hl (by decide) rfl (fun ls hl => ?_)
  refine lv_iload_n hx hb dX3_consult_6 rfl (lv_at hl 0 rfl) ?_
  refine lv_aload_n hx hb dX3_consult_7 rfl (lv_at hl 1 rfl) ?_
  refine va_get (D := D) (ci := 5) (v := .ref (ad 3)) (C := RX3) (T := TX3) (N := 5) hx hb hts in_X3 hown hK hP 1 (wg1 ca ad w_9) rfl 1 (by decide) lk_15 (fun _ h9 => h9) rfl dX3_consult_8 ?_
  refine lv_iload_n hx hb dX3_consult_11 rfl (lv_at hl 2 rfl) ?_
  obtain ⟨h_11, hw⟩ := hw
  refine va_iald hx hb hK hP 3 0 (wg3 ca ad w_9) rfl h_11 dX3_consult_12 ?_
  refine lv_icmp_le (tgt := 26) hx hb dX3_consult_13 (by decide) (fun c_12 => ?_) (fun c_12 => ?_)
  · have hw := hw.1 c_12
    refine lv_aload_n hx hb dX3_consult_26 rfl (lv_at hl 1 rfl) ?_
    refine lv_iload_n hx hb dX3_consult_27 rfl (lv_at hl 2 rfl) ?_
    refine va_calli (va_runV (As := [.int a0]) (rest := []) ⟨hx, hb, hml, hown, hts⟩ (mX3_countReached l D ca ad base hAd w_9 a0 _ hw) (cwV 1 hts gX3_consult_X3_countReached rfl rfl rfl (by decide +kernel) ⟨Nat.le_of_ble_eq_true rfl, Nat.le_of_ble_eq_true rfl⟩) (pv [.int a0] hK hP hbs hS rfl (wg1 ca ad w_9)) rfl rfl hl.1 rfl (lv_room (Nat.le_of_ble_eq_true rfl)) dX3_consult_28 ⟨Nat.le_of_ble_eq_true rfl, Nat.le_of_ble_eq_true rfl⟩) hS (fun q _ h => h) (fun q h => h) (fun r_14 w_13 t H locs ht hvm hw hP hz1 hk1 hS => ?_)
    have hP : PA D ca ad w_13 H := by rw [← ht]; exact hP
    refine lv_iconst (v := 3) hx hb dX3_consult_31 (by decide) ?_
    refine lv_icmp_ge (tgt := 38) hx hb dX3_consult_32 (by decide) (fun c_15 => ?_) (fun c_15 => ?_)
    · have hw := hw.1 c_15
      refine lv_iconst (v := 0) hx hb dX3_consult_38 (by decide) ?_
      refine lv_istore_n (lv' := [(3, .int 0), (2, .int r_10), (0, .ref (ad 1)), (1, .int a0)]) hx hb dX3_consult_39 rfl hl (by decide) rfl (fun ls hl => ?_)
      obtain ⟨n_40, hw⟩ := hw
      exact hB40 n_40 0 w_13 hw _ _ hP hS ls (lv_sub hl [2, 3, 0] rfl)
    · have hw := hw.2 c_15
      refine lv_bipush (v := 110) hx hb dX3_consult_35 (by decide) ?_
      exact W.zret (v := 110) hx hb hr (by decide) (fun t ht hW => ⟨⟨110, w_13, rfl, hw, by show PA D ca ad w_13 t.heap; rw [ht]; exact hP⟩, hS.F ht⟩) hS.2.2 dX3_consult_37
  · have hw := hw.2 c_12
    refine lv_aload_n hx hb dX3_consult_16 rfl (lv_at hl 1 rfl) ?_
    refine va_get (D := D) (ci := 5) (v := .ref (ad 3)) (C := RX3) (T := TX3) (N := 5) hx hb hts in_X3 hown hK hP 1 (wg1 ca ad w_9) rfl 1 (by decide) lk_15 (fun _ h9 => h9) rfl dX3_consult_17 ?_
    refine lv_iload_n hx hb dX3_consult_20 rfl (lv_at hl 2 rfl) ?_
    refine lv_iload_n hx hb dX3_consult_21 rfl (lv_at hl 0 rfl) ?_
    obtain ⟨h_16, hw⟩ := hw
    refine va_iast hx hb hK hP (DA hAd) hS 3 0 (wg3 ca ad w_9) rfl h_16 dX3_consult_22 (fun H locs hP hD hS => ?_)
    obtain ⟨w_17, e_18⟩ : ∃ z : St, z = (uA w_9 3 (upd (w_9.1 3) (a0).toNatClampNeg r_10)) := ⟨_, rfl⟩
    have hP : PA D ca ad w_17 H := by rw [e_18]; exact wu3 hP
    have hw := hw w_17 e_18
    refine lv_bipush (v := 116) hx hb dX3_consult_23 (by decide) ?_
    exact W.zret (v := 116) hx hb hr (by decide) (fun t ht hW => ⟨⟨116, w_17, rfl, hw, by show PA D ca ad w_17 t.heap; rw [ht]; exact hP⟩, hS.F ht⟩) hS.2.2 dX3_consult_25
set_option maxHeartbeats 4000000 in
set_option maxRecDepth 100000 in
def wpX3_teach_B23 (a0 : Int32) (a1 : Int32) (post : St → Prop) (K2 : Int32 → St → Prop) (v3 : Int32) (w : St) : Prop := K2 (v3 + 1) w
set_option maxHeartbeats 4000000 in
set_option maxRecDepth 100000 in
def wpX3_teach_L2 (a0 : Int32) (a1 : Int32) (post : St → Prop) : Nat → Int32 → St → Prop
  | 0, _, _ => False
  | n + 1, v3, w => (5 ≤ v3 → (post w)) ∧ (¬ (5 ≤ v3) → (wpX3_reaches a0 v3 w (fun r_3 w_2 => (r_3 = 0 → (wpX3_teach_B23 a0 a1 post (fun v3 w => wpX3_teach_L2 a0 a1 post n v3 w) v3 w_2)) ∧ (¬ (r_3 = 0) → ((vp_in v3 5) ∧ (∀ w_6 : St, w_6 = (uA w_2 4 (upd (w_2.1 4) (v3).toNatClampNeg a1)) → wpX3_teach_B23 a0 a1 post (fun v3 w => wpX3_teach_L2 a0 a1 post n v3 w) v3 w_6))))))
set_option maxHeartbeats 4000000 in
set_option maxRecDepth 100000 in
def wpX3_teach (a0 : Int32) (a1 : Int32) (w : St) (post : St → Prop) : Prop := ∃ n : Nat, wpX3_teach_L2 a0 a1 post n 0 w
set_option maxHeartbeats 4000000 in
set_option maxRecDepth 100000 in
theorem mX3_teach (l : Launch) (D : va_G) (ca : Nat → ClassId) (ad : Nat → Nat) (base : Nat) (hAd : okA base ad) (w : St) (a0 : Int32) (a1 : Int32) (post : St → Prop) (hw : wpX3_teach a0 a1 w post) : Met l yX3_teach wsX3_teach ({ frames := 1, cells := 0, slots := 0, locals := 22 } : Room) (va_Pc [.ref (ad 1), .int a0, .int a1] (BU D ca ad base w)) (va_Qv post (Bp D ca ad) (AB base)) 0 0 (AB base) := by
  refine Met.ofW (cc := cX3_teach) (maxL := 4) (ret := none) (by decide) rfl ?_
  intro p e s m args below meth c s₁ B hml hv
  obtain ⟨rfl, hbs, hP, hK⟩ := hv
  have hx := B.exec
  have hb := B.bytes
  have hr := B.returns
  have hts := atoms_spec (ws := wsX3_teach) B.pre
  have hown : s.vm.findClass RX3 = some m.cls := findClass_of_methodNamed B.named
  have hlocks := B.notSynchronized
  have in_X3 : ∀ w ∈ wsX30, w ∈ wsX3_teach := by decide +kernel
  have lk_19 := hts (.fieldLink RX3 19 "LockQuorum$Members" "known" "[I") (by decide +kernel)
  have hS : va_S (AB base) s.heap s.heap [] := va_S.rf
  have hB2 : ∀ (n : Nat) (v3 : Int32) (w : St), wpX3_teach_L2 a0 a1 post n v3 w → ∀ (H : Heap) (locs : List Loc), PA D ca ad w H → va_S (AB base) s.heap H locs → ∀ ls : Array Slot, lv_has ls 4 [(0, .ref (ad 1)), (1, .int a0), (2, .int a1), (3, .int v3)] → W p l e (headSpec wsX3_teach ({ frames := 1, cells := 0, slots := 0, locals := 22 } : Room)).room s m ([Value.ref (ad 1), Value.int a0, Value.int a1].toArray) below meth c H locs 0 0 (MQ below (va_Qv post (Bp D ca ad) (AB base)) ([Value.ref (ad 1), Value.int a0, Value.int a1].toArray) s 0 0 (AB base)) (F0 m 2 ls []) := by
    intro n
    induction n with
    | zero => intro v3 w hw; exact hw.elim
    | succ n ih2 =>
      have hB23 : ∀ (v3 : Int32) (w : St), wpX3_teach_B23 a0 a1 post (fun v3 w => wpX3_teach_L2 a0 a1 post n v3 w) v3 w → ∀ (H : Heap) (locs : List Loc), PA D ca ad w H → va_S (AB base) s.heap H locs → ∀ ls : Array Slot, lv_has ls 4 [(0, .ref (ad 1)), (1, .int a0), (2, .int a1), (3, .int v3)] → W p l e (headSpec wsX3_teach ({ frames := 1, cells := 0, slots := 0, locals := 22 } : Room)).room s m ([Value.ref (ad 1), Value.int a0, Value.int a1].toArray) below meth c H locs 0 0 (MQ below (va_Qv post (Bp D ca ad) (AB base)) ([Value.ref (ad 1), Value.int a0, Value.int a1].toArray) s 0 0 (AB base)) (F0 m 23 ls []) := by
        intro v3 w hw H locs hP hS ls hl
        refine lv_iinc (v := (v3 + 1)) (lv' := [(3, .int (v3 + 1)), (0, .ref (ad 1)), (1, .int a0), (2, .int a1)]) hx hb dX3_teach_23 hl (k := 3) rfl rfl (by decide) rfl (fun ls hl => ?_)
        refine lv_goto (tgt := 2) hx hb dX3_teach_26 (by decide) ?_
        exact ih2 (v3 + 1) w hw _ _ hP hS ls (lv_sub hl [1, 2, 3, 0] rfl)
      intro v3 w hw H locs hP hS ls hl
      refine lv_iload_n hx hb dX3_teach_2 rfl (lv_at hl 3 rfl) ?_
      refine lv_iconst (v := 5) hx hb dX3_teach_3 (by decide) ?_
      refine lv_icmp_ge (tgt := 29) hx hb dX3_teach_4 (by decide) (fun c_1 => ?_) (fun c_1 => ?_)
      · have hw := hw.1 c_1
        exact W.vret hx hb hr (fun t ht hW => ⟨⟨w, rfl, hw, by show PA D ca ad w t.heap; rw [ht]; exact hP⟩, hS.F ht⟩) hS.2.2 dX3_teach_29
      · have hw := hw.2 c_1
        refine lv_aload_n hx hb dX3_teach_7 rfl (lv_at hl 0 rfl) ?_
        refine lv_iload_n hx hb dX3_teach_8 rfl (lv_at hl 1 rfl) ?_
        refine lv_iload_n hx hb dX3_teach_9 rfl (lv_at hl 3 rfl) ?_
        refine va_calli (va_runV (As := [.int a0, .int v3]) (rest := []) ⟨hx, hb, hml, hown, hts⟩ (mX3_reaches l D ca ad base hAd w a0 v3 _ hw) (cwV 2 hts gX3_teach_X3_reaches rfl rfl rfl (by decide +kernel) ⟨Nat.le_of_ble_eq_true rfl, Nat.le_of_ble_eq_true rfl⟩) (pv [.int a0, .int v3] hK hP hbs hS rfl (wg1 ca ad w)) rfl rfl hl.1 rfl (lv_room (Nat.le_of_ble_eq_true rfl)) dX3_teach_10 ⟨Nat.le_of_ble_eq_true rfl, Nat.le_of_ble_eq_true rfl⟩) hS (fun q _ h => h) (fun q h => h) (fun r_3 w_2 t H locs ht hvm hw hP hz1 hk1 hS => ?_)
        have hP : PA D ca ad w_2 H := by rw [← ht]; exact hP
        refine lv_if_eq (tgt := 23) hx hb dX3_teach_13 (by decide) (fun c_4 => ?_) (fun c_4 => ?_)
        · have hw := hw.1 c_4
          exact hB23 v3 w_2 hw _ _ hP hS ls (lv_sub hl [0, 1, 2, 3] rfl)
        · have hw := hw.2 c_4
          refine lv_aload_n hx hb dX3_teach_16 rfl (lv_at hl 0 rfl) ?_
          refine va_get (D := D) (ci := 5) (v := .ref (ad 4)) (C := RX3) (T := TX3) (N := 5) hx hb hts in_X3 hown hK hP 1 (wg1 ca ad w_2) rfl 2 (by decide) lk_19 (fun _ h9 => h9) rfl dX3_teach_17 ?_
          refine lv_iload_n hx hb dX3_teach_20 rfl (lv_at hl 3 rfl) ?_
          refine lv_iload_n hx hb dX3_teach_21 rfl (lv_at hl 2 rfl) ?_
          obtain ⟨h_5, hw⟩ := hw
          refine va_iast hx hb hK hP (DA hAd) hS 4 0 (wg4 ca ad w_2) rfl h_5 dX3_teach_22 (fun H locs hP hD hS => ?_)
          obtain ⟨w_6, e_7⟩ : ∃ z : St, z = (uA w_2 4 (upd (w_2.1 4) (v3).toNatClampNeg a1)) := ⟨_, rfl⟩
          have hP : PA D ca ad w_6 H := by rw [e_7]; exact wu4 hP
          have hw := hw w_6 e_7
          exact hB23 v3 w_6 hw _ _ hP hS ls (lv_sub hl [0, 1, 2, 3] rfl)
  have hl := lv_entry ([.ref (ad 1), .int a0, .int a1]) (n := 4) (Nat.le_of_ble_eq_true rfl)
  rw [lg_entry_eq]
  generalize (lg_sl ([.ref (ad 1), .int a0, .int a1]) ++ List.replicate (4 - (lg_sl ([.ref (ad 1), .int a0, .int a1])).length) Slot.unset).toArray = ls at hl ⊢
  have hl : lv_has ls 4 [(0, .ref (ad 1)), (1, .int a0), (2, .int a1)] := hl
  refine lv_iconst (v := 0) hx hb dX3_teach_0 (by decide) ?_
  refine lv_istore_n (lv' := [(3, .int 0), (0, .ref (ad 1)), (1, .int a0), (2, .int a1)]) hx hb dX3_teach_1 rfl hl (by decide) rfl (fun ls hl => ?_)
  obtain ⟨n_2, hw⟩ := hw
  exact hB2 n_2 0 w hw _ _ hP hS ls (lv_sub hl [1, 2, 3, 0] rfl)
set_option maxHeartbeats 4000000 in
set_option maxRecDepth 100000 in
def wpX3_countKnowing_B22 (a0 : Int32) (post : Int32 → St → Prop) (K4 : Int32 → Int32 → St → Prop) (v2 : Int32) (v3 : Int32) (w : St) : Prop := K4 v2 (v3 + 1) w
set_option maxHeartbeats 4000000 in
set_option maxRecDepth 100000 in
def wpX3_countKnowing_L4 (a0 : Int32) (post : Int32 → St → Prop) : Nat → Int32 → Int32 → St → Prop
  | 0, _, _, _ => False
  | n + 1, v2, v3, w => (5 ≤ v3 → (post v2 w)) ∧ (¬ (5 ≤ v3) → ((vp_in v3 5) ∧ (((w.1 4 (v3).toNatClampNeg) ≤ a0 → (wpX3_countKnowing_B22 a0 post (fun v2 v3 w => wpX3_countKnowing_L4 a0 post n v2 v3 w) v2 v3 w)) ∧ (¬ ((w.1 4 (v3).toNatClampNeg) ≤ a0) → (wpX3_countKnowing_B22 a0 post (fun v2 v3 w => wpX3_countKnowing_L4 a0 post n v2 v3 w) (v2 + 1) v3 w)))))
set_option maxHeartbeats 4000000 in
set_option maxRecDepth 100000 in
def wpX3_countKnowing (a0 : Int32) (w : St) (post : Int32 → St → Prop) : Prop := ∃ n : Nat, wpX3_countKnowing_L4 a0 post n 0 0 w
set_option maxHeartbeats 4000000 in
set_option maxRecDepth 100000 in
theorem mX3_countKnowing (l : Launch) (D : va_G) (ca : Nat → ClassId) (ad : Nat → Nat) (base : Nat) (hAd : okA base ad) (w : St) (a0 : Int32) (post : Int32 → St → Prop) (hw : wpX3_countKnowing a0 w post) : Met l yX3_countKnowing wsX3_countKnowing ({ frames := 0, cells := 0, slots := 0, locals := 0 } : Room) (va_Pc [.ref (ad 1), .int a0] (BU D ca ad base w)) (va_Qi post (Bp D ca ad) (AB base)) 0 0 (AB base) := by
  refine Met.ofW (cc := cX3_countKnowing) (maxL := 4) (ret := (some .int)) (by decide) rfl ?_
  intro p e s m args below meth c s₁ B hml hv
  obtain ⟨rfl, hbs, hP, hK⟩ := hv
  have hx := B.exec
  have hb := B.bytes
  have hr := B.returns
  have hts := atoms_spec (ws := wsX3_countKnowing) B.pre
  have hown : s.vm.findClass RX3 = some m.cls := findClass_of_methodNamed B.named
  have hlocks := B.notSynchronized
  have in_X3 : ∀ w ∈ wsX30, w ∈ wsX3_countKnowing := by decide +kernel
  have lk_19 := hts (.fieldLink RX3 19 "LockQuorum$Members" "known" "[I") (by decide +kernel)
  have hS : va_S (AB base) s.heap s.heap [] := va_S.rf
  have hB4 : ∀ (n : Nat) (v2 : Int32) (v3 : Int32) (w : St), wpX3_countKnowing_L4 a0 post n v2 v3 w → ∀ (H : Heap) (locs : List Loc), PA D ca ad w H → va_S (AB base) s.heap H locs → ∀ ls : Array Slot, lv_has ls 4 [(0, .ref (ad 1)), (1, .int a0), (2, .int v2), (3, .int v3)] → W p l e (headSpec wsX3_countKnowing ({ frames := 0, cells := 0, slots := 0, locals := 0 } : Room)).room s m ([Value.ref (ad 1), Value.int a0].toArray) below meth c H locs 0 0 (MQ below (va_Qi post (Bp D ca ad) (AB base)) ([Value.ref (ad 1), Value.int a0].toArray) s 0 0 (AB base)) (F0 m 4 ls []) := by
    intro n
    induction n with
    | zero => intro v2 v3 w hw; exact hw.elim
    | succ n ih4 =>
      have hB22 : ∀ (v2 : Int32) (v3 : Int32) (w : St), wpX3_countKnowing_B22 a0 post (fun v2 v3 w => wpX3_countKnowing_L4 a0 post n v2 v3 w) v2 v3 w → ∀ (H : Heap) (locs : List Loc), PA D ca ad w H → va_S (AB base) s.heap H locs → ∀ ls : Array Slot, lv_has ls 4 [(0, .ref (ad 1)), (1, .int a0), (2, .int v2), (3, .int v3)] → W p l e (headSpec wsX3_countKnowing ({ frames := 0, cells := 0, slots := 0, locals := 0 } : Room)).room s m ([Value.ref (ad 1), Value.int a0].toArray) below meth c H locs 0 0 (MQ below (va_Qi post (Bp D ca ad) (AB base)) ([Value.ref (ad 1), Value.int a0].toArray) s 0 0 (AB base)) (F0 m 22 ls []) := by
        intro v2 v3 w hw H locs hP hS ls hl
        refine lv_iinc (v := (v3 + 1)) (lv' := [(3, .int (v3 + 1)), (0, .ref (ad 1)), (1, .int a0), (2, .int v2)]) hx hb dX3_countKnowing_22 hl (k := 3) rfl rfl (by decide) rfl (fun ls hl => ?_)
        refine lv_goto (tgt := 4) hx hb dX3_countKnowing_25 (by decide) ?_
        exact ih4 v2 (v3 + 1) w hw _ _ hP hS ls (lv_sub hl [1, 2, 3, 0] rfl)
      intro v2 v3 w hw H locs hP hS ls hl
      refine lv_iload_n hx hb dX3_countKnowing_4 rfl (lv_at hl 3 rfl) ?_
      refine lv_iconst (v := 5) hx hb dX3_countKnowing_5 (by decide) ?_
      refine lv_icmp_ge (tgt := 28) hx hb dX3_countKnowing_6 (by decide) (fun c_1 => ?_) (fun c_1 => ?_)
      · have hw := hw.1 c_1
        refine lv_iload_n hx hb dX3_countKnowing_28 rfl (lv_at hl 2 rfl) ?_
        exact W.iret (v := v2) hx hb hr (fun t ht hW => ⟨⟨v2, w, rfl, hw, by show PA D ca ad w t.heap; rw [ht]; exact hP⟩, hS.F ht⟩) hS.2.2 dX3_countKnowing_29
      · have hw := hw.2 c_1
        refine lv_aload_n hx hb dX3_countKnowing_9 rfl (lv_at hl 0 rfl) ?_
        refine va_get (D := D) (ci := 5) (v := .ref (ad 4)) (C := RX3) (T := TX3) (N := 5) hx hb hts in_X3 hown hK hP 1 (wg1 ca ad w) rfl 2 (by decide) lk_19 (fun _ h9 => h9) rfl dX3_countKnowing_10 ?_
        refine lv_iload_n hx hb dX3_countKnowing_13 rfl (lv_at hl 3 rfl) ?_
        obtain ⟨h_2, hw⟩ := hw
        refine va_iald hx hb hK hP 4 0 (wg4 ca ad w) rfl h_2 dX3_countKnowing_14 ?_
        refine lv_iload_n hx hb dX3_countKnowing_15 rfl (lv_at hl 1 rfl) ?_
        refine lv_icmp_le (tgt := 22) hx hb dX3_countKnowing_16 (by decide) (fun c_3 => ?_) (fun c_3 => ?_)
        · have hw := hw.1 c_3
          exact hB22 v2 v3 w hw _ _ hP hS ls (lv_sub hl [0, 1, 2, 3] rfl)
        · have hw := hw.2 c_3
          refine lv_iinc (v := (v2 + 1)) (lv' := [(2, .int (v2 + 1)), (0, .ref (ad 1)), (1, .int a0), (3, .int v3)]) hx hb dX3_countKnowing_19 hl (k := 2) rfl rfl (by decide) rfl (fun ls hl => ?_)
          exact hB22 (v2 + 1) v3 w hw _ _ hP hS ls (lv_sub hl [1, 2, 0, 3] rfl)
  have hl := lv_entry ([.ref (ad 1), .int a0]) (n := 4) (Nat.le_of_ble_eq_true rfl)
  rw [lg_entry_eq]
  generalize (lg_sl ([.ref (ad 1), .int a0]) ++ List.replicate (4 - (lg_sl ([.ref (ad 1), .int a0])).length) Slot.unset).toArray = ls at hl ⊢
  have hl : lv_has ls 4 [(0, .ref (ad 1)), (1, .int a0)] := hl
  refine lv_iconst (v := 0) hx hb dX3_countKnowing_0 (by decide) ?_
  refine lv_istore_n (lv' := [(2, .int 0), (0, .ref (ad 1)), (1, .int a0)]) hx hb dX3_countKnowing_1 rfl hl (by decide) rfl (fun ls hl => ?_)
  refine lv_iconst (v := 0) hx hb dX3_countKnowing_2 (by decide) ?_
  refine lv_istore_n (lv' := [(3, .int 0), (2, .int 0), (0, .ref (ad 1)), (1, .int a0)]) hx hb dX3_countKnowing_3 rfl hl (by decide) rfl (fun ls hl => ?_)
  obtain ⟨n_4, hw⟩ := hw
  exact hB4 n_4 0 0 w hw _ _ hP hS ls (lv_sub hl [2, 3, 1, 0] rfl)
set_option maxHeartbeats 4000000 in
set_option maxRecDepth 100000 in
def wpX3_sumKnown_L4 (post : Int32 → St → Prop) : Nat → Int32 → Int32 → St → Prop
  | 0, _, _, _ => False
  | n + 1, v1, v2, w => (5 ≤ v2 → (post v1 w)) ∧ (¬ (5 ≤ v2) → ((vp_in v2 5) ∧ (wpX3_sumKnown_L4 post n (v1 + (w.1 4 (v2).toNatClampNeg)) (v2 + 1) w)))
set_option maxHeartbeats 4000000 in
set_option maxRecDepth 100000 in
def wpX3_sumKnown (w : St) (post : Int32 → St → Prop) : Prop := ∃ n : Nat, wpX3_sumKnown_L4 post n 0 0 w
set_option maxHeartbeats 4000000 in
set_option maxRecDepth 100000 in
theorem mX3_sumKnown (l : Launch) (D : va_G) (ca : Nat → ClassId) (ad : Nat → Nat) (base : Nat) (hAd : okA base ad) (w : St) (post : Int32 → St → Prop) (hw : wpX3_sumKnown w post) : Met l yX3_sumKnown wsX3_sumKnown ({ frames := 0, cells := 0, slots := 0, locals := 0 } : Room) (va_Pc [.ref (ad 1)] (BU D ca ad base w)) (va_Qi post (Bp D ca ad) (AB base)) 0 0 (AB base) := by
  refine Met.ofW (cc := cX3_sumKnown) (maxL := 3) (ret := (some .int)) (by decide) rfl ?_
  intro p e s m args below meth c s₁ B hml hv
  obtain ⟨rfl, hbs, hP, hK⟩ := hv
  have hx := B.exec
  have hb := B.bytes
  have hr := B.returns
  have hts := atoms_spec (ws := wsX3_sumKnown) B.pre
  have hown : s.vm.findClass RX3 = some m.cls := findClass_of_methodNamed B.named
  have hlocks := B.notSynchronized
  have in_X3 : ∀ w ∈ wsX30, w ∈ wsX3_sumKnown := by decide +kernel
  have lk_19 := hts (.fieldLink RX3 19 "LockQuorum$Members" "known" "[I") (by decide +kernel)
  have hS : va_S (AB base) s.heap s.heap [] := va_S.rf
  have hB4 : ∀ (n : Nat) (v1 : Int32) (v2 : Int32) (w : St), wpX3_sumKnown_L4 post n v1 v2 w → ∀ (H : Heap) (locs : List Loc), PA D ca ad w H → va_S (AB base) s.heap H locs → ∀ ls : Array Slot, lv_has ls 3 [(0, .ref (ad 1)), (1, .int v1), (2, .int v2)] → W p l e (headSpec wsX3_sumKnown ({ frames := 0, cells := 0, slots := 0, locals := 0 } : Room)).room s m ([Value.ref (ad 1)].toArray) below meth c H locs 0 0 (MQ below (va_Qi post (Bp D ca ad) (AB base)) ([Value.ref (ad 1)].toArray) s 0 0 (AB base)) (F0 m 4 ls []) := by
    intro n
    induction n with
    | zero => intro v1 v2 w hw; exact hw.elim
    | succ n ih4 =>
      intro v1 v2 w hw H locs hP hS ls hl
      refine lv_iload_n hx hb dX3_sumKnown_4 rfl (lv_at hl 2 rfl) ?_
      refine lv_iconst (v := 5) hx hb dX3_sumKnown_5 (by decide) ?_
      refine lv_icmp_ge (tgt := 24) hx hb dX3_sumKnown_6 (by decide) (fun c_1 => ?_) (fun c_1 => ?_)
      · have hw := hw.1 c_1
        refine lv_iload_n hx hb dX3_sumKnown_24 rfl (lv_at hl 1 rfl) ?_
        exact W.iret (v := v1) hx hb hr (fun t ht hW => ⟨⟨v1, w, rfl, hw, by show PA D ca ad w t.heap; rw [ht]; exact hP⟩, hS.F ht⟩) hS.2.2 dX3_sumKnown_25
      · have hw := hw.2 c_1
        refine lv_iload_n hx hb dX3_sumKnown_9 rfl (lv_at hl 1 rfl) ?_
        refine lv_aload_n hx hb dX3_sumKnown_10 rfl (lv_at hl 0 rfl) ?_
        refine va_get (D := D) (ci := 5) (v := .ref (ad 4)) (C := RX3) (T := TX3) (N := 5) hx hb hts in_X3 hown hK hP 1 (wg1 ca ad w) rfl 2 (by decide) lk_19 (fun _ h9 => h9) rfl dX3_sumKnown_11 ?_
        refine lv_iload_n hx hb dX3_sumKnown_14 rfl (lv_at hl 2 rfl) ?_
        obtain ⟨h_2, hw⟩ := hw
        refine va_iald hx hb hK hP 4 0 (wg4 ca ad w) rfl h_2 dX3_sumKnown_15 ?_
        refine lv_iadd hx hb dX3_sumKnown_16 ?_
        refine lv_istore_n (lv' := [(1, .int (v1 + (w.1 4 (v2).toNatClampNeg))), (0, .ref (ad 1)), (2, .int v2)]) hx hb dX3_sumKnown_17 rfl hl (by decide) rfl (fun ls hl => ?_)
        refine lv_iinc (v := (v2 + 1)) (lv' := [(2, .int (v2 + 1)), (1, .int (v1 + (w.1 4 (v2).toNatClampNeg))), (0, .ref (ad 1))]) hx hb dX3_sumKnown_18 hl (k := 2) rfl rfl (by decide) rfl (fun ls hl => ?_)
        refine lv_goto (tgt := 4) hx hb dX3_sumKnown_21 (by decide) ?_
        exact ih4 (v1 + (w.1 4 (v2).toNatClampNeg)) (v2 + 1) w hw _ _ hP hS ls (lv_sub hl [2, 1, 0] rfl)
  have hl := lv_entry ([.ref (ad 1)]) (n := 3) (Nat.le_of_ble_eq_true rfl)
  rw [lg_entry_eq]
  generalize (lg_sl ([.ref (ad 1)]) ++ List.replicate (3 - (lg_sl ([.ref (ad 1)])).length) Slot.unset).toArray = ls at hl ⊢
  have hl : lv_has ls 3 [(0, .ref (ad 1))] := hl
  refine lv_iconst (v := 0) hx hb dX3_sumKnown_0 (by decide) ?_
  refine lv_istore_n (lv' := [(1, .int 0), (0, .ref (ad 1))]) hx hb dX3_sumKnown_1 rfl hl (by decide) rfl (fun ls hl => ?_)
  refine lv_iconst (v := 0) hx hb dX3_sumKnown_2 (by decide) ?_
  refine lv_istore_n (lv' := [(2, .int 0), (1, .int 0), (0, .ref (ad 1))]) hx hb dX3_sumKnown_3 rfl hl (by decide) rfl (fun ls hl => ?_)
  obtain ⟨n_4, hw⟩ := hw
  exact hB4 n_4 0 0 w hw _ _ hP hS ls (lv_sub hl [2, 1, 0] rfl)
set_option maxHeartbeats 4000000 in
set_option maxRecDepth 100000 in
def wpX3_countUp_B21 (post : Int32 → St → Prop) (K4 : Int32 → Int32 → St → Prop) (v1 : Int32) (v2 : Int32) (w : St) : Prop := K4 v1 (v2 + 1) w
set_option maxHeartbeats 4000000 in
set_option maxRecDepth 100000 in
def wpX3_countUp_L4 (post : Int32 → St → Prop) : Nat → Int32 → Int32 → St → Prop
  | 0, _, _, _ => False
  | n + 1, v1, v2, w => (5 ≤ v2 → (post v1 w)) ∧ (¬ (5 ≤ v2) → ((vp_in v2 5) ∧ (((w.1 2 (v2).toNatClampNeg) = 0 → (wpX3_countUp_B21 post (fun v1 v2 w => wpX3_countUp_L4 post n v1 v2 w) (v1 + 1) v2 w)) ∧ (¬ ((w.1 2 (v2).toNatClampNeg) = 0) → (wpX3_countUp_B21 post (fun v1 v2 w => wpX3_countUp_L4 post n v1 v2 w) v1 v2 w)))))
set_option maxHeartbeats 4000000 in
set_option maxRecDepth 100000 in
def wpX3_countUp (w : St) (post : Int32 → St → Prop) : Prop := ∃ n : Nat, wpX3_countUp_L4 post n 0 0 w
set_option maxHeartbeats 4000000 in
set_option maxRecDepth 100000 in
theorem mX3_countUp (l : Launch) (D : va_G) (ca : Nat → ClassId) (ad : Nat → Nat) (base : Nat) (hAd : okA base ad) (w : St) (post : Int32 → St → Prop) (hw : wpX3_countUp w post) : Met l yX3_countUp wsX3_countUp ({ frames := 0, cells := 0, slots := 0, locals := 0 } : Room) (va_Pc [.ref (ad 1)] (BU D ca ad base w)) (va_Qi post (Bp D ca ad) (AB base)) 0 0 (AB base) := by
  refine Met.ofW (cc := cX3_countUp) (maxL := 3) (ret := (some .int)) (by decide) rfl ?_
  intro p e s m args below meth c s₁ B hml hv
  obtain ⟨rfl, hbs, hP, hK⟩ := hv
  have hx := B.exec
  have hb := B.bytes
  have hr := B.returns
  have hts := atoms_spec (ws := wsX3_countUp) B.pre
  have hown : s.vm.findClass RX3 = some m.cls := findClass_of_methodNamed B.named
  have hlocks := B.notSynchronized
  have in_X3 : ∀ w ∈ wsX30, w ∈ wsX3_countUp := by decide +kernel
  have lk_11 := hts (.fieldLink RX3 11 "LockQuorum$Members" "down" "[Z") (by decide +kernel)
  have hS : va_S (AB base) s.heap s.heap [] := va_S.rf
  have hB4 : ∀ (n : Nat) (v1 : Int32) (v2 : Int32) (w : St), wpX3_countUp_L4 post n v1 v2 w → ∀ (H : Heap) (locs : List Loc), PA D ca ad w H → va_S (AB base) s.heap H locs → ∀ ls : Array Slot, lv_has ls 3 [(0, .ref (ad 1)), (1, .int v1), (2, .int v2)] → W p l e (headSpec wsX3_countUp ({ frames := 0, cells := 0, slots := 0, locals := 0 } : Room)).room s m ([Value.ref (ad 1)].toArray) below meth c H locs 0 0 (MQ below (va_Qi post (Bp D ca ad) (AB base)) ([Value.ref (ad 1)].toArray) s 0 0 (AB base)) (F0 m 4 ls []) := by
    intro n
    induction n with
    | zero => intro v1 v2 w hw; exact hw.elim
    | succ n ih4 =>
      have hB21 : ∀ (v1 : Int32) (v2 : Int32) (w : St), wpX3_countUp_B21 post (fun v1 v2 w => wpX3_countUp_L4 post n v1 v2 w) v1 v2 w → ∀ (H : Heap) (locs : List Loc), PA D ca ad w H → va_S (AB base) s.heap H locs → ∀ ls : Array Slot, lv_has ls 3 [(0, .ref (ad 1)), (1, .int v1), (2, .int v2)] → W p l e (headSpec wsX3_countUp ({ frames := 0, cells := 0, slots := 0, locals := 0 } : Room)).room s m ([Value.ref (ad 1)].toArray) below meth c H locs 0 0 (MQ below (va_Qi post (Bp D ca ad) (AB base)) ([Value.ref (ad 1)].toArray) s 0 0 (AB base)) (F0 m 21 ls []) := by
        intro v1 v2 w hw H locs hP hS ls hl
        refine lv_iinc (v := (v2 + 1)) (lv' := [(2, .int (v2 + 1)), (0, .ref (ad 1)), (1, .int v1)]) hx hb dX3_countUp_21 hl (k := 2) rfl rfl (by decide) rfl (fun ls hl => ?_)
        refine lv_goto (tgt := 4) hx hb dX3_countUp_24 (by decide) ?_
        exact ih4 v1 (v2 + 1) w hw _ _ hP hS ls (lv_sub hl [1, 2, 0] rfl)
      intro v1 v2 w hw H locs hP hS ls hl
      refine lv_iload_n hx hb dX3_countUp_4 rfl (lv_at hl 2 rfl) ?_
      refine lv_iconst (v := 5) hx hb dX3_countUp_5 (by decide) ?_
      refine lv_icmp_ge (tgt := 27) hx hb dX3_countUp_6 (by decide) (fun c_1 => ?_) (fun c_1 => ?_)
      · have hw := hw.1 c_1
        refine lv_iload_n hx hb dX3_countUp_27 rfl (lv_at hl 1 rfl) ?_
        exact W.iret (v := v1) hx hb hr (fun t ht hW => ⟨⟨v1, w, rfl, hw, by show PA D ca ad w t.heap; rw [ht]; exact hP⟩, hS.F ht⟩) hS.2.2 dX3_countUp_28
      · have hw := hw.2 c_1
        refine lv_aload_n hx hb dX3_countUp_9 rfl (lv_at hl 0 rfl) ?_
        refine va_get (D := D) (ci := 5) (v := .ref (ad 2)) (C := RX3) (T := TX3) (N := 5) hx hb hts in_X3 hown hK hP 1 (wg1 ca ad w) rfl 0 (by decide) lk_11 (fun _ h9 => h9) rfl dX3_countUp_10 ?_
        refine lv_iload_n hx hb dX3_countUp_13 rfl (lv_at hl 2 rfl) ?_
        obtain ⟨h_2, hw⟩ := hw
        refine va_zald hx hb hK hP 2 1 (wg2 ca ad w) rfl h_2 dX3_countUp_14 ?_
        refine lv_if_ne (tgt := 21) hx hb dX3_countUp_15 (by decide) (fun c_3 => ?_) (fun c_3 => ?_)
        · have hw := hw.2 c_3
          exact hB21 v1 v2 w hw _ _ hP hS ls (lv_sub hl [0, 1, 2] rfl)
        · have hw := hw.1 c_3
          refine lv_iinc (v := (v1 + 1)) (lv' := [(1, .int (v1 + 1)), (0, .ref (ad 1)), (2, .int v2)]) hx hb dX3_countUp_18 hl (k := 1) rfl rfl (by decide) rfl (fun ls hl => ?_)
          exact hB21 (v1 + 1) v2 w hw _ _ hP hS ls (lv_sub hl [1, 0, 2] rfl)
  have hl := lv_entry ([.ref (ad 1)]) (n := 3) (Nat.le_of_ble_eq_true rfl)
  rw [lg_entry_eq]
  generalize (lg_sl ([.ref (ad 1)]) ++ List.replicate (3 - (lg_sl ([.ref (ad 1)])).length) Slot.unset).toArray = ls at hl ⊢
  have hl : lv_has ls 3 [(0, .ref (ad 1))] := hl
  refine lv_iconst (v := 0) hx hb dX3_countUp_0 (by decide) ?_
  refine lv_istore_n (lv' := [(1, .int 0), (0, .ref (ad 1))]) hx hb dX3_countUp_1 rfl hl (by decide) rfl (fun ls hl => ?_)
  refine lv_iconst (v := 0) hx hb dX3_countUp_2 (by decide) ?_
  refine lv_istore_n (lv' := [(2, .int 0), (1, .int 0), (0, .ref (ad 1))]) hx hb dX3_countUp_3 rfl hl (by decide) rfl (fun ls hl => ?_)
  obtain ⟨n_4, hw⟩ := hw
  exact hB4 n_4 0 0 w hw _ _ hP hS ls (lv_sub hl [2, 1, 0] rfl)
