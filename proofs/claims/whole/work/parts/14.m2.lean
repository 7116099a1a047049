set_option maxHeartbeats 4000000 in
set_option maxRecDepth 100000 in
def wpX2_add (a0 : Int32) (a1 : Int32) (a2 : Int32) (a3 : Int32) (a4 : Int32) (w : St) (post : St → Prop) : Prop := ((w.1 65 0) < 250 → ((vp_in (w.1 65 0) 250) ∧ (∀ w_3 : St, w_3 = (uA w 8 (upd (w.1 8) ((w.1 65 0)).toNatClampNeg (vp_nar .char a0))) → (vp_in (w_3.1 65 0) 250) ∧ (∀ w_6 : St, w_6 = (uA w_3 9 (upd (w_3.1 9) ((w_3.1 65 0)).toNatClampNeg a1)) → (vp_in (w_6.1 65 0) 250) ∧ (∀ w_9 : St, w_9 = (uA w_6 10 (upd (w_6.1 10) ((w_6.1 65 0)).toNatClampNeg a2)) → (vp_in (w_9.1 65 0) 250) ∧ (∀ w_12 : St, w_12 = (uA w_9 11 (upd (w_9.1 11) ((w_9.1 65 0)).toNatClampNeg a3)) → (vp_in (w_12.1 65 0) 250) ∧ (∀ w_15 : St, w_15 = (uA w_12 12 (upd (w_12.1 12) ((w_12.1 65 0)).toNatClampNeg a4)) → ∀ w_17 : St, w_17 = (uI w_15 65 ((w_15.1 65 0) + 1)) → post w_17))))))) ∧ (¬ ((w.1 65 0) < 250) → (post w))
set_option maxHeartbeats 4000000 in
set_option maxRecDepth 100000 in
theorem mX2_add (l : Launch) (D : va_G) (ca : Nat → ClassId) (ad : Nat → Nat) (base : Nat) (hAd : okA base ad) (w : St) (a0 : Int32) (a1 : Int32) (a2 : Int32) (a3 : Int32) (a4 : Int32) (post : St → Prop) (hw : wpX2_add a0 a1 a2 a3 a4 w post) : Met l yX2_add wsX2_add ({ frames := 0, cells := 0, slots := 0, locals := 0 } : Room) (va_Pc [.ref (ad 7), .int a0, .int a1, .int a2, .int a3, .int a4] (BU D ca ad base w)) (va_Qv post (Bp D ca ad) (AB base)) 0 0 (AB base) := by
  refine Met.ofW (cc := cX2_add) (maxL := 6) (ret := none) (by decide) rfl ?_
  intro p e s m args below meth c s₁ B hml hv
  obtain ⟨rfl, hbs, hP, hK⟩ := hv
  have hx := B.exec
  have hb := B.bytes
  have hr := B.returns
  have hts := atoms_spec (ws := wsX2_add) B.pre
  have hown : s.vm.findClass RX2 = some m.cls := findClass_of_methodNamed B.named
  have hlocks := B.notSynchronized
  have in_X2 : ∀ w ∈ wsX20, w ∈ wsX2_add := by decide +kernel
  have lk_11 := hts (.fieldLink RX2 11 "LockQuorum$Log" "kind" "[C") (by decide +kernel)
  have lk_15 := hts (.fieldLink RX2 15 "LockQuorum$Log" "term" "[I") (by decide +kernel)
  have lk_19 := hts (.fieldLink RX2 19 "LockQuorum$Log" "client" "[I") (by decide +kernel)
  have lk_22 := hts (.fieldLink RX2 22 "LockQuorum$Log" "lock" "[I") (by decide +kernel)
  have lk_25 := hts (.fieldLink RX2 25 "LockQuorum$Log" "detail" "[I") (by decide +kernel)
  have lk_28 := hts (.fieldLink RX2 28 "LockQuorum$Log" "count" "I") (by decide +kernel)
  have hS : va_S (AB base) s.heap s.heap [] := va_S.rf
  have hl := lv_entry ([.ref (ad 7), .int a0, .int a1, .int a2, .int a3, .int a4]) (n := 6) (Nat.le_of_ble_eq_true rfl)
  rw [lg_entry_eq]
  generalize (lg_sl ([.ref (ad 7), .int a0, .int a1, .int a2, .int a3, .int a4]) ++ List.replicate (6 - (lg_sl ([.ref (ad 7), .int a0, .int a1, .int a2, .int a3, .int a4])).length) Slot.unset).toArray = ls at hl ⊢
  have hl : lv_has ls 6 [(0, .ref (ad 7)), (1, .int a0), (2, .int a1), (3, .int a2), (4, .int a3), (5, .int a4)] := hl
  refine lv_aload_n hx hb dX2_add_0 rfl (lv_at hl 0 rfl) ?_
  refine va_get (D := D) (ci := 4) (v := .int (w.1 65 0)) (C := RX2) (T := TX2) (N := 6) hx hb hts in_X2 hown hK hP 7 (wg7 ca ad w) rfl 0 (by decide) lk_28 (fun _ h9 => h9) rfl dX2_add_1 ?_
  refine lv_sipush (v := 250) hx hb dX2_add_4 (by decide) ?_
  refine lv_icmp_lt (tgt := 11) hx hb dX2_add_7 (by decide) (fun c_1 => ?_) (fun c_1 => ?_)
  · have hw := hw.1 c_1
    refine lv_aload_n hx hb dX2_add_11 rfl (lv_at hl 0 rfl) ?_
    refine va_get (D := D) (ci := 4) (v := .ref (ad 8)) (C := RX2) (T := TX2) (N := 6) hx hb hts in_X2 hown hK hP 7 (wg7 ca ad w) rfl 1 (by decide) lk_11 (fun _ h9 => h9) rfl dX2_add_12 ?_
    refine lv_aload_n hx hb dX2_add_15 rfl (lv_at hl 0 rfl) ?_
    refine va_get (D := D) (ci := 4) (v := .int (w.1 65 0)) (C := RX2) (T := TX2) (N := 6) hx hb hts in_X2 hown hK hP 7 (wg7 ca ad w) rfl 0 (by decide) lk_28 (fun _ h9 => h9) rfl dX2_add_16 ?_
    refine lv_iload_n hx hb dX2_add_19 rfl (lv_at hl 1 rfl) ?_
    obtain ⟨h_2, hw⟩ := hw
    refine va_cast hx hb hK hP (DA hAd) hS 8 2 (wg8 ca ad w) rfl h_2 dX2_add_20 (fun H locs hP hD hS => ?_)
    obtain ⟨w_3, e_4⟩ : ∃ z : St, z = (uA w 8 (upd (w.1 8) ((w.1 65 0)).toNatClampNeg (vp_nar .char a0))) := ⟨_, rfl⟩
    have hP : PA D ca ad w_3 H := by rw [e_4]; exact wu8 hP
    have hw := hw w_3 e_4
    refine lv_aload_n hx hb dX2_add_21 rfl (lv_at hl 0 rfl) ?_
    refine va_get (D := D) (ci := 4) (v := .ref (ad 9)) (C := RX2) (T := TX2) (N := 6) hx hb hts in_X2 hown hK hP 7 (wg7 ca ad w_3) rfl 2 (by decide) lk_15 (fun _ h9 => h9) rfl dX2_add_22 ?_
    refine lv_aload_n hx hb dX2_add_25 rfl (lv_at hl 0 rfl) ?_
    refine va_get (D := D) (ci := 4) (v := .int (w_3.1 65 0)) (C := RX2) (T := TX2) (N := 6) hx hb hts in_X2 hown hK hP 7 (wg7 ca ad w_3) rfl 0 (by decide) lk_28 (fun _ h9 => h9) rfl dX2_add_26 ?_
    refine lv_iload_n hx hb dX2_add_29 rfl (lv_at hl 2 rfl) ?_
    obtain ⟨h_5, hw⟩ := hw
    refine va_iast hx hb hK hP (DA hAd) hS 9 0 (wg9 ca ad w_3) rfl h_5 dX2_add_30 (fun H locs hP hD hS => ?_)
    obtain ⟨w_6, e_7⟩ : ∃ z : St, z = (uA w_3 9 (upd (w_3.1 9) ((w_3.1 65 0)).toNatClampNeg a1)) := ⟨_, rfl⟩
    have hP : PA D ca ad w_6 H := by rw [e_7]; exact wu9 hP
    have hw := hw w_6 e_7
    refine lv_aload_n hx hb dX2_add_31 rfl (lv_at hl 0 rfl) ?_
    refine va_get (D := D) (ci := 4) (v := .ref (ad 10)) (C := RX2) (T := TX2) (N := 6) hx hb hts in_X2 hown hK hP 7 (wg7 ca ad w_6) rfl 3 (by decide) lk_19 (fun _ h9 => h9) rfl dX2_add_32 ?_
    refine lv_aload_n hx hb dX2_add_35 rfl (lv_at hl 0 rfl) ?_
    refine va_get (D := D) (ci := 4) (v := .int (w_6.1 65 0)) (C := RX2) (T := TX2) (N := 6) hx hb hts in_X2 hown hK hP 7 (wg7 ca ad w_6) rfl 0 (by decide) lk_28 (fun _ h9 => h9) rfl dX2_add_36 ?_
    refine lv_iload_n hx hb dX2_add_39 rfl (lv_at hl 3 rfl) ?_
    obtain ⟨h_8, hw⟩ := hw
    refine va_iast hx hb hK hP (DA hAd) hS 10 0 (wg10 ca ad w_6) rfl h_8 dX2_add_40 (fun H locs hP hD hS => ?_)
    obtain ⟨w_9, e_10⟩ : ∃ z : St, z = (uA w_6 10 (upd (w_6.1 10) ((w_6.1 65 0)).toNatClampNeg a2)) := ⟨_, rfl⟩
    have hP : PA D ca ad w_9 H := by rw [e_10]; exact wu10 hP
    have hw := hw w_9 e_10
    refine lv_aload_n hx hb dX2_add_41 rfl (lv_at hl 0 rfl) ?_
    refine va_get (D := D) (ci := 4) (v := .ref (ad 11)) (C := RX2) (T := TX2) (N := 6) hx hb hts in_X2 hown hK hP 7 (wg7 ca ad w_9) rfl 4 (by decide) lk_22 (fun _ h9 => h9) rfl dX2_add_42 ?_
    refine lv_aload_n hx hb dX2_add_45 rfl (lv_at hl 0 rfl) ?_
    refine va_get (D := D) (ci := 4) (v := .int (w_9.1 65 0)) (C := RX2) (T := TX2) (N := 6) hx hb hts in_X2 hown hK hP 7 (wg7 ca ad w_9) rfl 0 (by decide) lk_28 (fun _ h9 => h9) rfl dX2_add_46 ?_
    refine lv_iload hx hb dX2_add_49 (lv_at hl 4 rfl) ?_
    obtain ⟨h_11, hw⟩ := hw
    refine va_iast hx hb hK hP (DA hAd) hS 11 0 (wg11 ca ad w_9) rfl h_11 dX2_add_51 (fun H locs hP hD hS => ?_)
    obtain ⟨w_12, e_13⟩ : ∃ z : St, z = (uA w_9 11 (upd (w_9.1 11) ((w_9.1 65 0)).toNatClampNeg a3)) := ⟨_, rfl⟩
    have hP : PA D ca ad w_12 H := by rw [e_13]; exact wu11 hP
    have hw := hw w_12 e_13
    refine lv_aload_n hx hb dX2_add_52 rfl (lv_at hl 0 rfl) ?_
    refine va_get (D := D) (ci := 4) (v := .ref (ad 12)) (C := RX2) (T := TX2) (N := 6) hx hb hts in_X2 hown hK hP 7 (wg7 ca ad w_12) rfl 5 (by decide) lk_25 (fun _ h9 => h9) rfl dX2_add_53 ?_
    refine lv_aload_n hx hb dX2_add_56 rfl (lv_at hl 0 rfl) ?_
    refine va_get (D := D) (ci := 4) (v := .int (w_12.1 65 0)) (C := RX2) (T := TX2) (N := 6) hx hb hts in_X2 hown hK hP 7 (wg7 ca ad w_12) rfl 0 (by decide) lk_28 (fun _ h9 => h9) rfl dX2_add_57 ?_
    refine lv_iload hx hb dX2_add_60 (lv_at hl 5 rfl) ?_
    obtain ⟨h_14, hw⟩ := hw
    refine va_iast hx hb hK hP (DA hAd) hS 12 0 (wg12 ca ad w_12) rfl h_14 dX2_add_62 (fun H locs hP hD hS => ?_)
    obtain ⟨w_15, e_16⟩ : ∃ z : St, z = (uA w_12 12 (upd (w_12.1 12) ((w_12.1 65 0)).toNatClampNeg a4)) := ⟨_, rfl⟩
    have hP : PA D ca ad w_15 H := by rw [e_16]; exact wu12 hP
    have hw := hw w_15 e_16
    refine lv_aload_n hx hb dX2_add_63 rfl (lv_at hl 0 rfl) ?_
    refine lv_dup hx hb dX2_add_64 rfl ?_
    refine va_get (D := D) (ci := 4) (v := .int (w_15.1 65 0)) (C := RX2) (T := TX2) (N := 6) hx hb hts in_X2 hown hK hP 7 (wg7 ca ad w_15) rfl 0 (by decide) lk_28 (fun _ h9 => h9) rfl dX2_add_65 ?_
    refine lv_iconst (v := 1) hx hb dX2_add_68 (by decide) ?_
    refine lv_iadd hx hb dX2_add_69 ?_
    refine va_put (D := D) (ci := 4) (v := .int ((w_15.1 65 0) + 1)) (ty := .int) (C := RX2) (T := TX2) (N := 6) hx hb hts in_X2 tyX2 tyX2_ok nmX2 hown hK hP (DA hAd) hS 7 (wg7 ca ad w_15) rfl 0 (by decide) lk_28 (fun _ h9 => h9) rfl (by decide +kernel) rfl rfl (Nat.le_of_ble_eq_true rfl) dX2_add_70 (fun H locs hP hD hS => ?_)
    obtain ⟨w_17, e_18⟩ : ∃ z : St, z = (uI w_15 65 ((w_15.1 65 0) + 1)) := ⟨_, rfl⟩
    have hP : PA D ca ad w_17 H := by rw [e_18]; exact wf65 hP
    have hw := hw w_17 e_18
    exact W.vret hx hb hr (fun t ht hW => ⟨⟨w_17, rfl, hw, by show PA D ca ad w_17 t.heap; rw [ht]; exact hP⟩, hS.F ht⟩) hS.2.2 dX2_add_73
  · have hw := hw.2 c_1
    exact W.vret hx hb hr (fun t ht hW => ⟨⟨w, rfl, hw, by show PA D ca ad w t.heap; rw [ht]; exact hP⟩, hS.F ht⟩) hS.2.2 dX2_add_10
set_option maxHeartbeats 4000000 in
set_option maxRecDepth 100000 in
def wpX2_ownerBy_B68 (a0 : Int32) (a1 : Int32) (post : Int32 → St → Prop) (K5 : Int32 → Int32 → St → Prop) (v3 : Int32) (v4 : Int32) (w : St) : Prop := K5 v3 (v4 + 1) w
set_option maxHeartbeats 4000000 in
set_option maxRecDepth 100000 in
def wpX2_ownerBy_L5 (a0 : Int32) (a1 : Int32) (post : Int32 → St → Prop) : Nat → Int32 → Int32 → St → Prop
  | 0, _, _, _ => False
  | n + 1, v3, v4, w => (a0 ≤ v4 → (post v3 w)) ∧ (¬ (a0 ≤ v4) → (((w.1 65 0) ≤ v4 → (post v3 w)) ∧ (¬ ((w.1 65 0) ≤ v4) → ((vp_in v4 250) ∧ (((w.1 11 (v4).toNatClampNeg) = a1 → ((vp_in v4 250) ∧ (((w.1 8 (v4).toNatClampNeg) = 108 → ((vp_in v4 250) ∧ (wpX2_ownerBy_B68 a0 a1 post (fun v3 v4 w => wpX2_ownerBy_L5 a0 a1 post n v3 v4 w) (w.1 10 (v4).toNatClampNeg) v4 w))) ∧ (¬ ((w.1 8 (v4).toNatClampNeg) = 108) → ((vp_in v4 250) ∧ (((w.1 8 (v4).toNatClampNeg) = 117 → (wpX2_ownerBy_B68 a0 a1 post (fun v3 v4 w => wpX2_ownerBy_L5 a0 a1 post n v3 v4 w) (-1) v4 w)) ∧ (¬ ((w.1 8 (v4).toNatClampNeg) = 117) → (wpX2_ownerBy_B68 a0 a1 post (fun v3 v4 w => wpX2_ownerBy_L5 a0 a1 post n v3 v4 w) v3 v4 w)))))))) ∧ (¬ ((w.1 11 (v4).toNatClampNeg) = a1) → (wpX2_ownerBy_B68 a0 a1 post (fun v3 v4 w => wpX2_ownerBy_L5 a0 a1 post n v3 v4 w) v3 v4 w)))))))
set_option maxHeartbeats 4000000 in
set_option maxRecDepth 100000 in
def wpX2_ownerBy (a0 : Int32) (a1 : Int32) (w : St) (post : Int32 → St → Prop) : Prop := ∃ n : Nat, wpX2_ownerBy_L5 a0 a1 post n (-1) 0 w
set_option maxHeartbeats 4000000 in
set_option maxRecDepth 100000 in
theorem mX2_ownerBy (l : Launch) (D : va_G) (ca : Nat → ClassId) (ad : Nat → Nat) (base : Nat) (hAd : okA base ad) (w : St) (a0 : Int32) (a1 : Int32) (post : Int32 → St → Prop) (hw : wpX2_ownerBy a0 a1 w post) : Met l yX2_ownerBy wsX2_ownerBy ({ frames := 0, cells := 0, slots := 0, locals := 0 } : Room) (va_Pc [.ref (ad 7), .int a0, .int a1] (BU D ca ad base w)) (va_Qi post (Bp D ca ad) (AB base)) 0 0 (AB base) := by
  refine Met.ofW (cc := cX2_ownerBy) (maxL := 5) (ret := (some .int)) (by decide) rfl ?_
  intro p e s m args below meth c s₁ B hml hv
  obtain ⟨rfl, hbs, hP, hK⟩ := hv
  have hx := B.exec
  have hb := B.bytes
  have hr := B.returns
  have hts := atoms_spec (ws := wsX2_ownerBy) B.pre
  have hown : s.vm.findClass RX2 = some m.cls := findClass_of_methodNamed B.named
  have hlocks := B.notSynchronized
  have in_X2 : ∀ w ∈ wsX20, w ∈ wsX2_ownerBy := by decide +kernel
  have lk_11 := hts (.fieldLink RX2 11 "LockQuorum$Log" "kind" "[C") (by decide +kernel)
  have lk_19 := hts (.fieldLink RX2 19 "LockQuorum$Log" "client" "[I") (by decide +kernel)
  have lk_22 := hts (.fieldLink RX2 22 "LockQuorum$Log" "lock" "[I") (by decide +kernel)
  have lk_28 := hts (.fieldLink RX2 28 "LockQuorum$Log" "count" "I") (by decide +kernel)
  have hS : va_S (AB base) s.heap s.heap [] := va_S.rf
  have hB5 : ∀ (n : Nat) (v3 : Int32) (v4 : Int32) (w : St), wpX2_ownerBy_L5 a0 a1 post n v3 v4 w → ∀ (H : Heap) (locs : List Loc), PA D ca ad w H → va_S (AB base) s.heap H locs → ∀ ls : Array Slot, lv_has ls 5 [(0, .ref (ad 7)), (1, .int a0), (2, .int a1), (3, .int v3), (4, .int v4)] → W p l e (headSpec wsX2_ownerBy ({ frames := 0, cells := 0, slots := 0, locals := 0 } : Room)).room s m ([Value.ref (ad 7), Value.int a0, Value.int a1].toArray) below meth c H locs 0 0 (MQ below (va_Qi post (Bp D ca ad) (AB base)) ([Value.ref (ad 7), Value.int a0, Value.int a1].toArray) s 0 0 (AB base)) (F0 m 5 ls []) := by
    intro n
    induction n with
    | zero => intro v3 v4 w hw; exact hw.elim
    | succ n ih5 =>
      have hB68 : ∀ (v3 : Int32) (v4 : Int32) (w : St), wpX2_ownerBy_B68 a0 a1 post (fun v3 v4 w => wpX2_ownerBy_L5 a0 a1 post n v3 v4 w) v3 v4 w → ∀ (H : Heap) (locs : List Loc), PA D ca ad w H → va_S (AB base) s.heap H locs → ∀ ls : Array Slot, lv_has ls 5 [(0, .ref (ad 7)), (1, .int a0), (2, .int a1), (3, .int v3), (4, .int v4)] → W p l e (headSpec wsX2_ownerBy ({ frames := 0, cells := 0, slots := 0, locals := 0 } : Room)).room s m ([Value.ref (ad 7), Value.int a0, Value.int a1].toArray) below meth c H locs 0 0 (MQ below (va_Qi post (Bp D ca ad) (AB base)) ([Value.ref (ad 7), Value.int a0, Value.int a1].toArray) s 0 0 (AB base)) (F0 m 68 ls []) := by
        intro v3 v4 w hw H locs hP hS ls hl
        refine lv_iinc (v := (v4 + 1)) (lv' := [(4, .int (v4 + 1)), (0, .ref (ad 7)), (1, .int a0), (2, .int a1), (3, .int v3)]) hx hb dX2_ownerBy_68 hl (k := 4) rfl rfl (by decide) rfl (fun ls hl => ?_)
        refine lv_goto (tgt := 5) hx hb dX2_ownerBy_71 (by decide) ?_
        exact ih5 v3 (v4 + 1) w hw _ _ hP hS ls (lv_sub hl [1, 2, 3, 4, 0] rfl)
      intro v3 v4 w hw H locs hP hS ls hl
      refine lv_iload hx hb dX2_ownerBy_5 (lv_at hl 4 rfl) ?_
      refine lv_iload_n hx hb dX2_ownerBy_7 rfl (lv_at hl 1 rfl) ?_
      refine lv_icmp_ge (tgt := 74) hx hb dX2_ownerBy_8 (by decide) (fun c_1 => ?_) (fun c_1 => ?_)
      · have hw := hw.1 c_1
        refine lv_iload_n hx hb dX2_ownerBy_74 rfl (lv_at hl 3 rfl) ?_
        exact W.iret (v := v3) hx hb hr (fun t ht hW => ⟨⟨v3, w, rfl, hw, by show PA D ca ad w t.heap; rw [ht]; exact hP⟩, hS.F ht⟩) hS.2.2 dX2_ownerBy_75
      · have hw := hw.2 c_1
        refine lv_iload hx hb dX2_ownerBy_11 (lv_at hl 4 rfl) ?_
        refine lv_aload_n hx hb dX2_ownerBy_13 rfl (lv_at hl 0 rfl) ?_
        refine va_get (D := D) (ci := 4) (v := .int (w.1 65 0)) (C := RX2) (T := TX2) (N := 6) hx hb hts in_X2 hown hK hP 7 (wg7 ca ad w) rfl 0 (by decide) lk_28 (fun _ h9 => h9) rfl dX2_ownerBy_14 ?_
        refine lv_icmp_ge (tgt := 74) hx hb dX2_ownerBy_17 (by decide) (fun c_2 => ?_) (fun c_2 => ?_)
        · have hw := hw.1 c_2
          refine lv_iload_n hx hb dX2_ownerBy_74 rfl (lv_at hl 3 rfl) ?_
          exact W.iret (v := v3) hx hb hr (fun t ht hW => ⟨⟨v3, w, rfl, hw, by show PA D ca ad w t.heap; rw [ht]; exact hP⟩, hS.F ht⟩) hS.2.2 dX2_ownerBy_75
        · have hw := hw.2 c_2
          refine lv_aload_n hx hb dX2_ownerBy_20 rfl (lv_at hl 0 rfl) ?_
          refine va_get (D := D) (ci := 4) (v := .ref (ad 11)) (C := RX2) (T := TX2) (N := 6) hx hb hts in_X2 hown hK hP 7 (wg7 ca ad w) rfl 4 (by decide) lk_22 (fun _ h9 => h9) rfl dX2_ownerBy_21 ?_
          refine lv_iload hx hb dX2_ownerBy_24 (lv_at hl 4 rfl) ?_
          obtain ⟨h_3, hw⟩ := hw
          refine va_iald hx hb hK hP 11 0 (wg11 ca ad w) rfl h_3 dX2_ownerBy_26 ?_
          refine lv_iload_n hx hb dX2_ownerBy_27 rfl (lv_at hl 2 rfl) ?_
          refine lv_icmp_ne (tgt := 68) hx hb dX2_ownerBy_28 (by decide) (fun c_4 => ?_) (fun c_4 => ?_)
          · have hw := hw.2 c_4
            exact hB68 v3 v4 w hw _ _ hP hS ls (lv_sub hl [0, 1, 2, 3, 4] rfl)
          · have hw := hw.1 c_4
            refine lv_aload_n hx hb dX2_ownerBy_31 rfl (lv_at hl 0 rfl) ?_
            refine va_get (D := D) (ci := 4) (v := .ref (ad 8)) (C := RX2) (T := TX2) (N := 6) hx hb hts in_X2 hown hK hP 7 (wg7 ca ad w) rfl 1 (by decide) lk_11 (fun _ h9 => h9) rfl dX2_ownerBy_32 ?_
            refine lv_iload hx hb dX2_ownerBy_35 (lv_at hl 4 rfl) ?_
            obtain ⟨h_5, hw⟩ := hw
            refine va_cald hx hb hK hP 8 2 (wg8 ca ad w) rfl h_5 dX2_ownerBy_37 ?_
            refine lv_bipush (v := 108) hx hb dX2_ownerBy_38 (by decide) ?_
            refine lv_icmp_ne (tgt := 54) hx hb dX2_ownerBy_40 (by decide) (fun c_6 => ?_) (fun c_6 => ?_)
            · have hw := hw.2 c_6
              refine lv_aload_n hx hb dX2_ownerBy_54 rfl (lv_at hl 0 rfl) ?_
              refine va_get (D := D) (ci := 4) (v := .ref (ad 8)) (C := RX2) (T := TX2) (N := 6) hx hb hts in_X2 hown hK hP 7 (wg7 ca ad w) rfl 1 (by decide) lk_11 (fun _ h9 => h9) rfl dX2_ownerBy_55 ?_
              refine lv_iload hx hb dX2_ownerBy_58 (lv_at hl 4 rfl) ?_
              obtain ⟨h_7, hw⟩ := hw
              refine va_cald hx hb hK hP 8 2 (wg8 ca ad w) rfl h_7 dX2_ownerBy_60 ?_
              refine lv_bipush (v := 117) hx hb dX2_ownerBy_61 (by decide) ?_
              refine lv_icmp_ne (tgt := 68) hx hb dX2_ownerBy_63 (by decide) (fun c_8 => ?_) (fun c_8 => ?_)
              · have hw := hw.2 c_8
                exact hB68 v3 v4 w hw _ _ hP hS ls (lv_sub hl [0, 1, 2, 3, 4] rfl)
              · have hw := hw.1 c_8
                refine lv_iconst (v := (-1)) hx hb dX2_ownerBy_66 (by decide) ?_
                refine lv_istore_n (lv' := [(3, .int (-1)), (0, .ref (ad 7)), (1, .int a0), (2, .int a1), (4, .int v4)]) hx hb dX2_ownerBy_67 rfl hl (by decide) rfl (fun ls hl => ?_)
                exact hB68 (-1) v4 w hw _ _ hP hS ls (lv_sub hl [1, 2, 3, 0, 4] rfl)
            · have hw := hw.1 c_6
              refine lv_aload_n hx hb dX2_ownerBy_43 rfl (lv_at hl 0 rfl) ?_
              refine va_get (D := D) (ci := 4) (v := .ref (ad 10)) (C := RX2) (T := TX2) (N := 6) hx hb hts in_X2 hown hK hP 7 (wg7 ca ad w) rfl 3 (by decide) lk_19 (fun _ h9 => h9) rfl dX2_ownerBy_44 ?_
              refine lv_iload hx hb dX2_ownerBy_47 (lv_at hl 4 rfl) ?_
              obtain ⟨h_9, hw⟩ := hw
              refine va_iald hx hb hK hP 10 0 (wg10 ca ad w) rfl h_9 dX2_ownerBy_49 ?_
              refine lv_istore_n (lv' := [(3, .int (w.1 10 (v4).toNatClampNeg)), (0, .ref (ad 7)), (1, .int a0), (2, .int a1), (4, .int v4)]) hx hb dX2_ownerBy_50 rfl hl (by decide) rfl (fun ls hl => ?_)
              refine lv_goto (tgt := 68) hx hb dX2_ownerBy_51 (by decide) ?_
              exact hB68 (w.1 10 (v4).toNatClampNeg) v4 w hw _ _ hP hS ls (lv_sub hl [1, 2, 3, 0, 4] rfl)
  have hl := lv_entry ([.ref (ad 7), .int a0, .int a1]) (n := 5) (Nat.le_of_ble_eq_true rfl)
  rw [lg_entry_eq]
  generalize (lg_sl ([.ref (ad 7), .int a0, .int a1]) ++ List.replicate (5 - (lg_sl ([.ref (ad 7), .int a0, .int a1])).length) Slot.unset).toArray = ls at hl ⊢
  have hl : lv_has ls 5 [(0, .ref (ad 7)), (1, .int a0), (2, .int a1)] := hl
  refine lv_iconst (v := (-1)) hx hb dX2_ownerBy_0 (by decide) ?_
  refine lv_istore_n (lv' := [(3, .int (-1)), (0, .ref (ad 7)), (1, .int a0), (2, .int a1)]) hx hb dX2_ownerBy_1 rfl hl (by decide) rfl (fun ls hl => ?_)
  refine lv_iconst (v := 0) hx hb dX2_ownerBy_2 (by decide) ?_
  refine lv_istore (lv' := [(4, .int 0), (3, .int (-1)), (0, .ref (ad 7)), (1, .int a0), (2, .int a1)]) hx hb dX2_ownerBy_3 hl (by decide) rfl (fun ls hl => ?_)
  obtain ⟨n_5, hw⟩ := hw
  exact hB5 n_5 (-1) 0 w hw _ _ hP hS ls (lv_sub hl [2, 3, 4, 1, 0] rfl)
set_option maxHeartbeats 4000000 in
set_option maxRecDepth 100000 in
def wpX2_lastEnd_B51 (a0 : Int32) (post : Int32 → St → Prop) (K4 : Int32 → Int32 → St → Prop) (v2 : Int32) (v3 : Int32) (w : St) : Prop := K4 v2 (v3 + 1) w
set_option maxHeartbeats 4000000 in
set_option maxRecDepth 100000 in
def wpX2_lastEnd_B44 (a0 : Int32) (post : Int32 → St → Prop) (K4 : Int32 → Int32 → St → Prop) (v3 : Int32) (w : St) : Prop := (vp_in v3 250) ∧ (wpX2_lastEnd_B51 a0 post K4 (w.1 12 (v3).toNatClampNeg) v3 w)
set_option maxHeartbeats 4000000 in
set_option maxRecDepth 100000 in
def wpX2_lastEnd_L4 (a0 : Int32) (post : Int32 → St → Prop) : Nat → Int32 → Int32 → St → Prop
  | 0, _, _, _ => False
  | n + 1, v2, v3, w => ((w.1 65 0) ≤ v3 → (post v2 w)) ∧ (¬ ((w.1 65 0) ≤ v3) → ((vp_in v3 250) ∧ (((w.1 11 (v3).toNatClampNeg) = a0 → ((vp_in v3 250) ∧ (((w.1 8 (v3).toNatClampNeg) = 108 → (wpX2_lastEnd_B44 a0 post (fun v2 v3 w => wpX2_lastEnd_L4 a0 post n v2 v3 w) v3 w)) ∧ (¬ ((w.1 8 (v3).toNatClampNeg) = 108) → ((vp_in v3 250) ∧ (((w.1 8 (v3).toNatClampNeg) = 114 → (wpX2_lastEnd_B44 a0 post (fun v2 v3 w => wpX2_lastEnd_L4 a0 post n v2 v3 w) v3 w)) ∧ (¬ ((w.1 8 (v3).toNatClampNeg) = 114) → (wpX2_lastEnd_B51 a0 post (fun v2 v3 w => wpX2_lastEnd_L4 a0 post n v2 v3 w) v2 v3 w)))))))) ∧ (¬ ((w.1 11 (v3).toNatClampNeg) = a0) → (wpX2_lastEnd_B51 a0 post (fun v2 v3 w => wpX2_lastEnd_L4 a0 post n v2 v3 w) v2 v3 w)))))
set_option maxHeartbeats 4000000 in
set_option maxRecDepth 100000 in
def wpX2_lastEnd (a0 : Int32) (w : St) (post : Int32 → St → Prop) : Prop := ∃ n : Nat, wpX2_lastEnd_L4 a0 post n 0 0 w
set_option maxHeartbeats 4000000 in
set_option maxRecDepth 100000 in
theorem mX2_lastEnd (l : Launch) (D : va_G) (ca : Nat → ClassId) (ad : Nat → Nat) (base : Nat) (hAd : okA base ad) (w : St) (a0 : Int32) (post : Int32 → St → Prop) (hw : wpX2_lastEnd a0 w post) : Met l yX2_lastEnd wsX2_lastEnd ({ frames := 0, cells := 0, slots := 0, locals := 0 } : Room) (va_Pc [.ref (ad 7), .int a0] (BU D ca ad base w)) (va_Qi post (Bp D ca ad) (AB base)) 0 0 (AB base) := by
  refine Met.ofW (cc := cX2_lastEnd) (maxL := 4) (ret := (some .int)) (by decide) rfl ?_
  intro p e s m args below meth c s₁ B hml hv
  obtain ⟨rfl, hbs, hP, hK⟩ := hv
  have hx := B.exec
  have hb := B.bytes
  have hr := B.returns
  have hts := atoms_spec (ws := wsX2_lastEnd) B.pre
  have hown : s.vm.findClass RX2 = some m.cls := findClass_of_methodNamed B.named
  have hlocks := B.notSynchronized
  have in_X2 : ∀ w ∈ wsX20, w ∈ wsX2_lastEnd := by decide +kernel
  have lk_11 := hts (.fieldLink RX2 11 "LockQuorum$Log" "kind" "[C") (by decide +kernel)
  have lk_22 := hts (.fieldLink RX2 22 "LockQuorum$Log" "lock" "[I") (by decide +kernel)
  have lk_25 := hts (.fieldLink RX2 25 "LockQuorum$Log" "detail" "[I") (by decide +kernel)
  have lk_28 := hts (.fieldLink RX2 28 "LockQuorum$Log" "count" "I") (by decide +kernel)
  have hS : va_S (AB base) s.heap s.heap [] := va_S.rf
  have hB4 : ∀ (n : Nat) (v2 : Int32) (v3 : Int32) (w : St), wpX2_lastEnd_L4 a0 post n v2 v3 w → ∀ (H : Heap) (locs : List Loc), PA D ca ad w H → va_S (AB base) s.heap H locs → ∀ ls : Array Slot, lv_has ls 4 [(0, .ref (ad 7)), (1, .int a0), (2, .int v2), (3, .int v3)] → W p l e (headSpec wsX2_lastEnd ({ frames := 0, cells := 0, slots := 0, locals := 0 } : Room)).room s m ([Value.ref (ad 7), Value.int a0].toArray) below meth c H locs 0 0 (MQ below (va_Qi post (Bp D ca ad) (AB base)) ([Value.ref (ad 7), Value.int a0].toArray) s 0 0 (AB base)) (F0 m 4 ls []) := by
    intro n
    induction n with
    | zero => intro v2 v3 w hw; exact hw.elim
    | succ n ih4 =>
      have hB51 : ∀ (v2 : Int32) (v3 : Int32) (w : St), wpX2_lastEnd_B51 a0 post (fun v2 v3 w => wpX2_lastEnd_L4 a0 post n v2 v3 w) v2 v3 w → ∀ (H : Heap) (locs : List Loc), PA D ca ad w H → va_S (AB base) s.heap H locs → ∀ ls : Array Slot, lv_has ls 4 [(0, .ref (ad 7)), (1, .int a0), (2, .int v2), (3, .int v3)] → W p l e (headSpec wsX2_lastEnd ({ frames := 0, cells := 0, slots := 0, locals := 0 } : Room)).room s m ([Value.ref (ad 7), Value.int a0].toArray) below meth c H locs 0 0 (MQ below (va_Qi post (Bp D ca ad) (AB base)) ([Value.ref (ad 7), Value.int a0].toArray) s 0 0 (AB base)) (F0 m 51 ls []) := by
        intro v2 v3 w hw H locs hP hS ls hl
        refine lv_iinc (v := (v3 + 1)) (lv' := [(3, .int (v3 + 1)), (0, .ref (ad 7)), (1, .int a0), (2, .int v2)]) hx hb dX2_lastEnd_51 hl (k := 3) rfl rfl (by decide) rfl (fun ls hl => ?_)
        refine lv_goto (tgt := 4) hx hb dX2_lastEnd_54 (by decide) ?_
        exact ih4 v2 (v3 + 1) w hw _ _ hP hS ls (lv_sub hl [1, 2, 3, 0] rfl)
      have hB44 : ∀ (v3 : Int32) (w : St), wpX2_lastEnd_B44 a0 post (fun v2 v3 w => wpX2_lastEnd_L4 a0 post n v2 v3 w) v3 w → ∀ (H : Heap) (locs : List Loc), PA D ca ad w H → va_S (AB base) s.heap H locs → ∀ ls : Array Slot, lv_has ls 4 [(0, .ref (ad 7)), (1, .int a0), (3, .int v3)] → W p l e (headSpec wsX2_lastEnd ({ frames := 0, cells := 0, slots := 0, locals := 0 } : Room)).room s m ([Value.ref (ad 7), Value.int a0].toArray) below meth c H locs 0 0 (MQ below (va_Qi post (Bp D ca ad) (AB base)) ([Value.ref (ad 7), Value.int a0].toArray) s 0 0 (AB base)) (F0 m 44 ls []) := by
        intro v3 w hw H locs hP hS ls hl
        refine lv_aload_n hx hb dX2_lastEnd_44 rfl (lv_at hl 0 rfl) ?_
        refine va_get (D := D) (ci := 4) (v := .ref (ad 12)) (C := RX2) (T := TX2) (N := 6) hx hb hts in_X2 hown hK hP 7 (wg7 ca ad w) rfl 5 (by decide) lk_25 (fun _ h9 => h9) rfl dX2_lastEnd_45 ?_
        refine lv_iload_n hx hb dX2_lastEnd_48 rfl (lv_at hl 2 rfl) ?_
        obtain ⟨h_1, hw⟩ := hw
        refine va_iald hx hb hK hP 12 0 (wg12 ca ad w) rfl h_1 dX2_lastEnd_49 ?_
        refine lv_istore_n (lv' := [(2, .int (w.1 12 (v3).toNatClampNeg)), (0, .ref (ad 7)), (1, .int a0), (3, .int v3)]) hx hb dX2_lastEnd_50 rfl hl (by decide) rfl (fun ls hl => ?_)
        exact hB51 (w.1 12 (v3).toNatClampNeg) v3 w hw _ _ hP hS ls (lv_sub hl [1, 2, 0, 3] rfl)
      intro v2 v3 w hw H locs hP hS ls hl
      refine lv_iload_n hx hb dX2_lastEnd_4 rfl (lv_at hl 3 rfl) ?_
      refine lv_aload_n hx hb dX2_lastEnd_5 rfl (lv_at hl 0 rfl) ?_
      refine va_get (D := D) (ci := 4) (v := .int (w.1 65 0)) (C := RX2) (T := TX2) (N := 6) hx hb hts in_X2 hown hK hP 7 (wg7 ca ad w) rfl 0 (by decide) lk_28 (fun _ h9 => h9) rfl dX2_lastEnd_6 ?_
      refine lv_icmp_ge (tgt := 57) hx hb dX2_lastEnd_9 (by decide) (fun c_2 => ?_) (fun c_2 => ?_)
      · have hw := hw.1 c_2
        refine lv_iload_n hx hb dX2_lastEnd_57 rfl (lv_at hl 2 rfl) ?_
        exact W.iret (v := v2) hx hb hr (fun t ht hW => ⟨⟨v2, w, rfl, hw, by show PA D ca ad w t.heap; rw [ht]; exact hP⟩, hS.F ht⟩) hS.2.2 dX2_lastEnd_58
      · have hw := hw.2 c_2
        refine lv_aload_n hx hb dX2_lastEnd_12 rfl (lv_at hl 0 rfl) ?_
        refine va_get (D := D) (ci := 4) (v := .ref (ad 11)) (C := RX2) (T := TX2) (N := 6) hx hb hts in_X2 hown hK hP 7 (wg7 ca ad w) rfl 4 (by decide) lk_22 (fun _ h9 => h9) rfl dX2_lastEnd_13 ?_
        refine lv_iload_n hx hb dX2_lastEnd_16 rfl (lv_at hl 3 rfl) ?_
        obtain ⟨h_3, hw⟩ := hw
        refine va_iald hx hb hK hP 11 0 (wg11 ca ad w) rfl h_3 dX2_lastEnd_17 ?_
        refine lv_iload_n hx hb dX2_lastEnd_18 rfl (lv_at hl 1 rfl) ?_
        refine lv_icmp_ne (tgt := 51) hx hb dX2_lastEnd_19 (by decide) (fun c_4 => ?_) (fun c_4 => ?_)
        · have hw := hw.2 c_4
          exact hB51 v2 v3 w hw _ _ hP hS ls (lv_sub hl [0, 1, 2, 3] rfl)
        · have hw := hw.1 c_4
          refine lv_aload_n hx hb dX2_lastEnd_22 rfl (lv_at hl 0 rfl) ?_
          refine va_get (D := D) (ci := 4) (v := .ref (ad 8)) (C := RX2) (T := TX2) (N := 6) hx hb hts in_X2 hown hK hP 7 (wg7 ca ad w) rfl 1 (by decide) lk_11 (fun _ h9 => h9) rfl dX2_lastEnd_23 ?_
          refine lv_iload_n hx hb dX2_lastEnd_26 rfl (lv_at hl 3 rfl) ?_
          obtain ⟨h_5, hw⟩ := hw
          refine va_cald hx hb hK hP 8 2 (wg8 ca ad w) rfl h_5 dX2_lastEnd_27 ?_
          refine lv_bipush (v := 108) hx hb dX2_lastEnd_28 (by decide) ?_
          refine lv_icmp_eq (tgt := 44) hx hb dX2_lastEnd_30 (by decide) (fun c_6 => ?_) (fun c_6 => ?_)
          · have hw := hw.1 c_6
            exact hB44 v3 w hw _ _ hP hS ls (lv_sub hl [0, 1, 3] rfl)
          · have hw := hw.2 c_6
            refine lv_aload_n hx hb dX2_lastEnd_33 rfl (lv_at hl 0 rfl) ?_
            refine va_get (D := D) (ci := 4) (v := .ref (ad 8)) (C := RX2) (T := TX2) (N := 6) hx hb hts in_X2 hown hK hP 7 (wg7 ca ad w) rfl 1 (by decide) lk_11 (fun _ h9 => h9) rfl dX2_lastEnd_34 ?_
            refine lv_iload_n hx hb dX2_lastEnd_37 rfl (lv_at hl 3 rfl) ?_
            obtain ⟨h_7, hw⟩ := hw
            refine va_cald hx hb hK hP 8 2 (wg8 ca ad w) rfl h_7 dX2_lastEnd_38 ?_
            refine lv_bipush (v := 114) hx hb dX2_lastEnd_39 (by decide) ?_
            refine lv_icmp_ne (tgt := 51) hx hb dX2_lastEnd_41 (by decide) (fun c_8 => ?_) (fun c_8 => ?_)
            · have hw := hw.2 c_8
              exact hB51 v2 v3 w hw _ _ hP hS ls (lv_sub hl [0, 1, 2, 3] rfl)
            · have hw := hw.1 c_8
              exact hB44 v3 w hw _ _ hP hS ls (lv_sub hl [0, 1, 3] rfl)
  have hl := lv_entry ([.ref (ad 7), .int a0]) (n := 4) (Nat.le_of_ble_eq_true rfl)
  rw [lg_entry_eq]
  generalize (lg_sl ([.ref (ad 7), .int a0]) ++ List.replicate (4 - (lg_sl ([.ref (ad 7), .int a0])).length) Slot.unset).toArray = ls at hl ⊢
  have hl : lv_has ls 4 [(0, .ref (ad 7)), (1, .int a0)] := hl
  refine lv_iconst (v := 0) hx hb dX2_lastEnd_0 (by decide) ?_
  refine lv_istore_n (lv' := [(2, .int 0), (0, .ref (ad 7)), (1, .int a0)]) hx hb dX2_lastEnd_1 rfl hl (by decide) rfl (fun ls hl => ?_)
  refine lv_iconst (v := 0) hx hb dX2_lastEnd_2 (by decide) ?_
  refine lv_istore_n (lv' := [(3, .int 0), (2, .int 0), (0, .ref (ad 7)), (1, .int a0)]) hx hb dX2_lastEnd_3 rfl hl (by decide) rfl (fun ls hl => ?_)
  obtain ⟨n_4, hw⟩ := hw
  exact hB4 n_4 0 0 w hw _ _ hP hS ls (lv_sub hl [2, 3, 1, 0] rfl)
set_option maxHeartbeats 4000000 in
set_option maxRecDepth 100000 in
def wpX2_holderAt (a0 : Int32) (a1 : Int32) (w : St) (post : Int32 → St → Prop) : Prop := wpX2_lastEnd a0 w (fun r_2 w_1 => (r_2 ≤ a1 → (post (-1) w_1)) ∧ (¬ (r_2 ≤ a1) → (wpX2_ownerBy (w_1.1 65 0) a0 w_1 (fun r_5 w_4 => post r_5 w_4))))
set_option maxHeartbeats 4000000 in
set_option maxRecDepth 100000 in
theorem mX2_holderAt (l : Launch) (D : va_G) (ca : Nat → ClassId) (ad : Nat → Nat) (base : Nat) (hAd : okA base ad) (w : St) (a0 : Int32) (a1 : Int32) (post : Int32 → St → Prop) (hw : wpX2_holderAt a0 a1 w post) : Met l yX2_holderAt wsX2_holderAt ({ frames := 1, cells := 0, slots := 0, locals := 24 } : Room) (va_Pc [.ref (ad 7), .int a0, .int a1] (BU D ca ad base w)) (va_Qi post (Bp D ca ad) (AB base)) 0 0 (AB base) := by
  refine Met.ofW (cc := cX2_holderAt) (maxL := 3) (ret := (some .int)) (by decide) rfl ?_
  intro p e s m args below meth c s₁ B hml hv
  obtain ⟨rfl, hbs, hP, hK⟩ := hv
  have hx := B.exec
  have hb := B.bytes
  have hr := B.returns
  have hts := atoms_spec (ws := wsX2_holderAt) B.pre
  have hown : s.vm.findClass RX2 = some m.cls := findClass_of_methodNamed B.named
  have hlocks := B.notSynchronized
  have in_X2 : ∀ w ∈ wsX20, w ∈ wsX2_holderAt := by decide +kernel
  have lk_28 := hts (.fieldLink RX2 28 "LockQuorum$Log" "count" "I") (by decide +kernel)
  have hS : va_S (AB base) s.heap s.heap [] := va_S.rf
  have hl := lv_entry ([.ref (ad 7), .int a0, .int a1]) (n := 3) (Nat.le_of_ble_eq_true rfl)
  rw [lg_entry_eq]
  generalize (lg_sl ([.ref (ad 7), .int a0, .int a1]) ++ List.replicate (3 - (lg_sl ([.ref (ad 7), .int a0, .int a1])).length) Slot.unset).toArray = ls at hl ⊢
  have hl : lv_has ls 3 [(0, .ref (ad 7)), (1, .int a0), (2, .int a1)] := hl
  refine lv_aload_n hx hb dX2_holderAt_0 rfl (lv_at hl 0 rfl) ?_
  refine lv_iload_n hx hb dX2_holderAt_1 rfl (lv_at hl 1 rfl) ?_
  refine va_calli (va_runV (As := [.int a0]) (rest := []) ⟨hx, hb, hml, hown, hts⟩ (mX2_lastEnd l D ca ad base hAd w a0 _ hw) (cwV 1 hts gX2_holderAt_X2_lastEnd rfl rfl rfl (by decide +kernel) ⟨Nat.le_of_ble_eq_true rfl, Nat.le_of_ble_eq_true rfl⟩) (pv [.int a0] hK hP hbs hS rfl (wg7 ca ad w)) rfl rfl hl.1 rfl (lv_room (Nat.le_of_ble_eq_true rfl)) dX2_holderAt_2 ⟨Nat.le_of_ble_eq_true rfl, Nat.le_of_ble_eq_true rfl⟩) hS (fun q _ h => h) (fun q h => h) (fun r_2 w_1 t H locs ht hvm hw hP hz1 hk1 hS => ?_)
  have hP : PA D ca ad w_1 H := by rw [← ht]; exact hP
  refine lv_iload_n hx hb dX2_holderAt_5 rfl (lv_at hl 2 rfl) ?_
  refine lv_icmp_le (tgt := 21) hx hb dX2_holderAt_6 (by decide) (fun c_3 => ?_) (fun c_3 => ?_)
  · have hw := hw.1 c_3
    refine lv_iconst (v := (-1)) hx hb dX2_holderAt_21 (by decide) ?_
    exact W.iret (v := (-1)) hx hb hr (fun t ht hW => ⟨⟨(-1), w_1, rfl, hw, by show PA D ca ad w_1 t.heap; rw [ht]; exact hP⟩, hS.F ht⟩) hS.2.2 dX2_holderAt_22
  · have hw := hw.2 c_3
    refine lv_aload_n hx hb dX2_holderAt_9 rfl (lv_at hl 0 rfl) ?_
    refine lv_aload_n hx hb dX2_holderAt_10 rfl (lv_at hl 0 rfl) ?_
    refine va_get (D := D) (ci := 4) (v := .int (w_1.1 65 0)) (C := RX2) (T := TX2) (N := 6) hx hb hts in_X2 hown hK hP 7 (wg7 ca ad w_1) rfl 0 (by decide) lk_28 (fun _ h9 => h9) rfl dX2_holderAt_11 ?_
    refine lv_iload_n hx hb dX2_holderAt_14 rfl (lv_at hl 1 rfl) ?_
    refine va_calli (va_runV (As := [.int (w_1.1 65 0), .int a0]) (rest := []) ⟨hx, hb, hml, hown, hts⟩ (mX2_ownerBy l D ca ad base hAd w_1 (w_1.1 65 0) a0 _ hw) (cwV 2 hts gX2_holderAt_X2_ownerBy rfl rfl rfl (by decide +kernel) ⟨Nat.le_of_ble_eq_true rfl, Nat.le_of_ble_eq_true rfl⟩) (pv [.int (w_1.1 65 0), .int a0] hK hP hbs hS rfl (wg7 ca ad w_1)) rfl rfl hl.1 rfl (lv_room (Nat.le_of_ble_eq_true rfl)) dX2_holderAt_15 ⟨Nat.le_of_ble_eq_true rfl, Nat.le_of_ble_eq_true rfl⟩) hS (fun q _ h => h) (fun q h => h) (fun r_5 w_4 t H locs ht hvm hw hP hz1 hk1 hS => ?_)
    have hP : PA D ca ad w_4 H := by rw [← ht]; exact hP
    refine lv_goto (tgt := 22) hx hb dX2_holderAt_18 (by decide) ?_
    exact W.iret (v := r_5) hx hb hr (fun t ht hW => ⟨⟨r_5, w_4, rfl, hw, by show PA D ca ad w_4 t.heap; rw [ht]; exact hP⟩, hS.F ht⟩) hS.2.2 dX2_holderAt_22
set_option maxHeartbeats 4000000 in
set_option maxRecDepth 100000 in
def wpX2_lastValue_B40 (a0 : Int32) (post : Int32 → St → Prop) (K4 : Int32 → Int32 → St → Prop) (v2 : Int32) (v3 : Int32) (w : St) : Prop := K4 v2 (v3 + 1) w
set_option maxHeartbeats 4000000 in
set_option maxRecDepth 100000 in
def wpX2_lastValue_L4 (a0 : Int32) (post : Int32 → St → Prop) : Nat → Int32 → Int32 → St → Prop
  | 0, _, _, _ => False
  | n + 1, v2, v3, w => ((w.1 65 0) ≤ v3 → (post v2 w)) ∧ (¬ ((w.1 65 0) ≤ v3) → ((vp_in v3 250) ∧ (((w.1 11 (v3).toNatClampNeg) = a0 → ((vp_in v3 250) ∧ (((w.1 8 (v3).toNatClampNeg) = 118 → ((vp_in v3 250) ∧ (wpX2_lastValue_B40 a0 post (fun v2 v3 w => wpX2_lastValue_L4 a0 post n v2 v3 w) (w.1 12 (v3).toNatClampNeg) v3 w))) ∧ (¬ ((w.1 8 (v3).toNatClampNeg) = 118) → (wpX2_lastValue_B40 a0 post (fun v2 v3 w => wpX2_lastValue_L4 a0 post n v2 v3 w) v2 v3 w))))) ∧ (¬ ((w.1 11 (v3).toNatClampNeg) = a0) → (wpX2_lastValue_B40 a0 post (fun v2 v3 w => wpX2_lastValue_L4 a0 post n v2 v3 w) v2 v3 w)))))
set_option maxHeartbeats 4000000 in
set_option maxRecDepth 100000 in
def wpX2_lastValue (a0 : Int32) (w : St) (post : Int32 → St → Prop) : Prop := ∃ n : Nat, wpX2_lastValue_L4 a0 post n 0 0 w
set_option maxHeartbeats 4000000 in
set_option maxRecDepth 100000 in
theorem mX2_lastValue (l : Launch) (D : va_G) (ca : Nat → ClassId) (ad : Nat → Nat) (base : Nat) (hAd : okA base ad) (w : St) (a0 : Int32) (post : Int32 → St → Prop) (hw : wpX2_lastValue a0 w post) : Met l yX2_lastValue wsX2_lastValue ({ frames := 0, cells := 0, slots := 0, locals := 0 } : Room) (va_Pc [.ref (ad 7), .int a0] (BU D ca ad base w)) (va_Qi post (Bp D ca ad) (AB base)) 0 0 (AB base) := by
  refine Met.ofW (cc := cX2_lastValue) (maxL := 4) (ret := (some .int)) (by decide) rfl ?_
  intro p e s m args below meth c s₁ B hml hv
  obtain ⟨rfl, hbs, hP, hK⟩ := hv
  have hx := B.exec
  have hb := B.bytes
  have hr := B.returns
  have hts := atoms_spec (ws := wsX2_lastValue) B.pre
  have hown : s.vm.findClass RX2 = some m.cls := findClass_of_methodNamed B.named
  have hlocks := B.notSynchronized
  have in_X2 : ∀ w ∈ wsX20, w ∈ wsX2_lastValue := by decide +kernel
  have lk_11 := hts (.fieldLink RX2 11 "LockQuorum$Log" "kind" "[C") (by decide +kernel)
  have lk_22 := hts (.fieldLink RX2 22 "LockQuorum$Log" "lock" "[I") (by decide +kernel)
  have lk_25 := hts (.fieldLink RX2 25 "LockQuorum$Log" "detail" "[I") (by decide +kernel)
  have lk_28 := hts (.fieldLink RX2 28 "LockQuorum$Log" "count" "I") (by decide +kernel)
  have hS : va_S (AB base) s.heap s.heap [] := va_S.rf
  have hB4 : ∀ (n : Nat) (v2 : Int32) (v3 : Int32) (w : St), wpX2_lastValue_L4 a0 post n v2 v3 w → ∀ (H : Heap) (locs : List Loc), PA D ca ad w H → va_S (AB base) s.heap H locs → ∀ ls : Array Slot, lv_has ls 4 [(0, .ref (ad 7)), (1, .int a0), (2, .int v2), (3, .int v3)] → W p l e (headSpec wsX2_lastValue ({ frames := 0, cells := 0, slots := 0, locals := 0 } : Room)).room s m ([Value.ref (ad 7), Value.int a0].toArray) below meth c H locs 0 0 (MQ below (va_Qi post (Bp D ca ad) (AB base)) ([Value.ref (ad 7), Value.int a0].toArray) s 0 0 (AB base)) (F0 m 4 ls []) := by
    intro n
    induction n with
    | zero => intro v2 v3 w hw; exact hw.elim
    | succ n ih4 =>
      have hB40 : ∀ (v2 : Int32) (v3 : Int32) (w : St), wpX2_lastValue_B40 a0 post (fun v2 v3 w => wpX2_lastValue_L4 a0 post n v2 v3 w) v2 v3 w → ∀ (H : Heap) (locs : List Loc), PA D ca ad w H → va_S (AB base) s.heap H locs → ∀ ls : Array Slot, lv_has ls 4 [(0, .ref (ad 7)), (1, .int a0), (2, .int v2), (3, .int v3)] → W p l e (headSpec wsX2_lastValue ({ frames := 0, cells := 0, slots := 0, locals := 0 } : Room)).room s m ([Value.ref (ad 7), Value.int a0].toArray) below meth c H locs 0 0 (MQ below (va_Qi post (Bp D ca ad) (AB base)) ([Value.ref (ad 7), Value.int a0].toArray) s 0 0 (AB base)) (F0 m 40 ls []) := by
        intro v2 v3 w hw H locs hP hS ls hl
        refine lv_iinc (v := (v3 + 1)) (lv' := [(3, .int (v3 + 1)), (0, .ref (ad 7)), (1, .int a0), (2, .int v2)]) hx hb dX2_lastValue_40 hl (k := 3) rfl rfl (by decide) rfl (fun ls hl => ?_)
        refine lv_goto (tgt := 4) hx hb dX2_lastValue_43 (by decide) ?_
        exact ih4 v2 (v3 + 1) w hw _ _ hP hS ls (lv_sub hl [1, 2, 3, 0] rfl)
      intro v2 v3 w hw H locs hP hS ls hl
      refine lv_iload_n hx hb dX2_lastValue_4 rfl (lv_at hl 3 rfl) ?_
      refine lv_aload_n hx hb dX2_lastValue_5 rfl (lv_at hl 0 rfl) ?_
      refine va_get (D := D) (ci := 4) (v := .int (w.1 65 0)) (C := RX2) (T := TX2) (N := 6) hx hb hts in_X2 hown hK hP 7 (wg7 ca ad w) rfl 0 (by decide) lk_28 (fun _ h9 => h9) rfl dX2_lastValue_6 ?_
      refine lv_icmp_ge (tgt := 46) hx hb dX2_lastValue_9 (by decide) (fun c_1 => ?_) (fun c_1 => ?_)
      · have hw := hw.1 c_1
        refine lv_iload_n hx hb dX2_lastValue_46 rfl (lv_at hl 2 rfl) ?_
        exact W.iret (v := v2) hx hb hr (fun t ht hW => ⟨⟨v2, w, rfl, hw, by show PA D ca ad w t.heap; rw [ht]; exact hP⟩, hS.F ht⟩) hS.2.2 dX2_lastValue_47
      · have hw := hw.2 c_1
        refine lv_aload_n hx hb dX2_lastValue_12 rfl (lv_at hl 0 rfl) ?_
        refine va_get (D := D) (ci := 4) (v := .ref (ad 11)) (C := RX2) (T := TX2) (N := 6) hx hb hts in_X2 hown hK hP 7 (wg7 ca ad w) rfl 4 (by decide) lk_22 (fun _ h9 => h9) rfl dX2_lastValue_13 ?_
        refine lv_iload_n hx hb dX2_lastValue_16 rfl (lv_at hl 3 rfl) ?_
        obtain ⟨h_2, hw⟩ := hw
        refine va_iald hx hb hK hP 11 0 (wg11 ca ad w) rfl h_2 dX2_lastValue_17 ?_
        refine lv_iload_n hx hb dX2_lastValue_18 rfl (lv_at hl 1 rfl) ?_
        refine lv_icmp_ne (tgt := 40) hx hb dX2_lastValue_19 (by decide) (fun c_3 => ?_) (fun c_3 => ?_)
        · have hw := hw.2 c_3
          exact hB40 v2 v3 w hw _ _ hP hS ls (lv_sub hl [0, 1, 2, 3] rfl)
        · have hw := hw.1 c_3
          refine lv_aload_n hx hb dX2_lastValue_22 rfl (lv_at hl 0 rfl) ?_
          refine va_get (D := D) (ci := 4) (v := .ref (ad 8)) (C := RX2) (T := TX2) (N := 6) hx hb hts in_X2 hown hK hP 7 (wg7 ca ad w) rfl 1 (by decide) lk_11 (fun _ h9 => h9) rfl dX2_lastValue_23 ?_
          refine lv_iload_n hx hb dX2_lastValue_26 rfl (lv_at hl 3 rfl) ?_
          obtain ⟨h_4, hw⟩ := hw
          refine va_cald hx hb hK hP 8 2 (wg8 ca ad w) rfl h_4 dX2_lastValue_27 ?_
          refine lv_bipush (v := 118) hx hb dX2_lastValue_28 (by decide) ?_
          refine lv_icmp_ne (tgt := 40) hx hb dX2_lastValue_30 (by decide) (fun c_5 => ?_) (fun c_5 => ?_)
          · have hw := hw.2 c_5
            exact hB40 v2 v3 w hw _ _ hP hS ls (lv_sub hl [0, 1, 2, 3] rfl)
          · have hw := hw.1 c_5
            refine lv_aload_n hx hb dX2_lastValue_33 rfl (lv_at hl 0 rfl) ?_
            refine va_get (D := D) (ci := 4) (v := .ref (ad 12)) (C := RX2) (T := TX2) (N := 6) hx hb hts in_X2 hown hK hP 7 (wg7 ca ad w) rfl 5 (by decide) lk_25 (fun _ h9 => h9) rfl dX2_lastValue_34 ?_
            refine lv_iload_n hx hb dX2_lastValue_37 rfl (lv_at hl 3 rfl) ?_
            obtain ⟨h_6, hw⟩ := hw
            refine va_iald hx hb hK hP 12 0 (wg12 ca ad w) rfl h_6 dX2_lastValue_38 ?_
            refine lv_istore_n (lv' := [(2, .int (w.1 12 (v3).toNatClampNeg)), (0, .ref (ad 7)), (1, .int a0), (3, .int v3)]) hx hb dX2_lastValue_39 rfl hl (by decide) rfl (fun ls hl => ?_)
            exact hB40 (w.1 12 (v3).toNatClampNeg) v3 w hw _ _ hP hS ls (lv_sub hl [1, 2, 0, 3] rfl)
  have hl := lv_entry ([.ref (ad 7), .int a0]) (n := 4) (Nat.le_of_ble_eq_true rfl)
  rw [lg_entry_eq]
  generalize (lg_sl ([.ref (ad 7), .int a0]) ++ List.replicate (4 - (lg_sl ([.ref (ad 7), .int a0])).length) Slot.unset).toArray = ls at hl ⊢
  have hl : lv_has ls 4 [(0, .ref (ad 7)), (1, .int a0)] := hl
  refine lv_iconst (v := 0) hx hb dX2_lastValue_0 (by decide) ?_
  refine lv_istore_n (lv' := [(2, .int 0), (0, .ref (ad 7)), (1, .int a0)]) hx hb dX2_lastValue_1 rfl hl (by decide) rfl (fun ls hl => ?_)
  refine lv_iconst (v := 0) hx hb dX2_lastValue_2 (by decide) ?_
  refine lv_istore_n (lv' := [(3, .int 0), (2, .int 0), (0, .ref (ad 7)), (1, .int a0)]) hx hb dX2_lastValue_3 rfl hl (by decide) rfl (fun ls hl => ?_)
  obtain ⟨n_4, hw⟩ := hw
  exact hB4 n_4 0 0 w hw _ _ hP hS ls (lv_sub hl [2, 3, 1, 0] rfl)
set_option maxHeartbeats 4000000 in
set_option maxRecDepth 100000 in
def wpX2_isInTermOrder_L2 (post : Int32 → St → Prop) : Nat → Int32 → St → Prop
  | 0, _, _ => False
  | n + 1, v1, w => ((w.1 65 0) ≤ v1 → (post 1 w)) ∧ (¬ ((w.1 65 0) ≤ v1) → ((vp_in v1 250) ∧ ((vp_in (v1 - 1) 250) ∧ (((w.1 9 ((v1 - 1)).toNatClampNeg) ≤ (w.1 9 (v1).toNatClampNeg) → (wpX2_isInTermOrder_L2 post n (v1 + 1) w)) ∧ (¬ ((w.1 9 ((v1 - 1)).toNatClampNeg) ≤ (w.1 9 (v1).toNatClampNeg)) → (post 0 w))))))
set_option maxHeartbeats 4000000 in
set_option maxRecDepth 100000 in
def wpX2_isInTermOrder (w : St) (post : Int32 → St → Prop) : Prop := ∃ n : Nat, wpX2_isInTermOrder_L2 post n 1 w
set_option maxHeartbeats 4000000 in
set_option maxRecDepth 100000 in
theorem mX2_isInTermOrder (l : Launch) (D : va_G) (ca : Nat → ClassId) (ad : Nat → Nat) (base : Nat) (hAd : okA base ad) (w : St) (post : Int32 → St → Prop) (hw : wpX2_isInTermOrder w post) : Met l yX2_isInTermOrder wsX2_isInTermOrder ({ frames := 0, cells := 0, slots := 0, locals := 0 } : Room) (va_Pc [.ref (ad 7)] (BU D ca ad base w)) (va_Qi post (Bp D ca ad) (AB base)) 0 0 (AB base) := by
  refine Met.ofW (cc := cX2_isInTermOrder) (maxL := 2) (ret := (some .boolean)) (by decide) rfl ?_
  intro p e s m args below meth c s₁ B hml hv
  obtain ⟨rfl, hbs, hP, hK⟩ := hv
  have hx := B.exec
  have hb := B.bytes
  have hr := B.returns
  have hts := atoms_spec (ws := wsX2_isInTermOrder) B.pre
  have hown : s.vm.findClass RX2 = some m.cls := findClass_of_methodNamed B.named
  have hlocks := B.notSynchronized
  have in_X2 : ∀ w ∈ wsX20, w ∈ wsX2_isInTermOrder := by decide +kernel
  have lk_15 := hts (.fieldLink RX2 15 "LockQuorum$Log" "term" "[I") (by decide +kernel)
  have lk_28 := hts (.fieldLink RX2 28 "LockQuorum$Log" "count" "I") (by decide +kernel)
  have hS : va_S (AB base) s.heap s.heap [] := va_S.rf
  have hB2 : ∀ (n : Nat) (v1 : Int32) (w : St), wpX2_isInTermOrder_L2 post n v1 w → ∀ (H : Heap) (locs : List Loc), PA D ca ad w H → va_S (AB base) s.heap H locs → ∀ ls : Array Slot, lv_has ls 2 [(0, .ref (ad 7)), (1, .int v1)] → W p l e (headSpec wsX2_isInTermOrder ({ frames := 0, cells := 0, slots := 0, locals := 0 } : Room)).room s m ([Value.ref (ad 7)].toArray) below meth c H locs 0 0 (MQ below (va_Qi post (Bp D ca ad) (AB base)) ([Value.ref (ad 7)].toArray) s 0 0 (AB base)) (F0 m 2 ls []) := by
    intro n
    induction n with
    | zero => intro v1 w hw; exact hw.elim
    | succ n ih2 =>
      intro v1 w hw H locs hP hS ls hl
      refine lv_iload_n hx hb dX2_isInTermOrder_2 rfl (lv_at hl 1 rfl) ?_
      refine lv_aload_n hx hb dX2_isInTermOrder_3 rfl (lv_at hl 0 rfl) ?_
      refine va_get (D := D) (ci := 4) (v := .int (w.1 65 0)) (C := RX2) (T := TX2) (N := 6) hx hb hts in_X2 hown hK hP 7 (wg7 ca ad w) rfl 0 (by decide) lk_28 (fun _ h9 => h9) rfl dX2_isInTermOrder_4 ?_
      refine lv_icmp_ge (tgt := 35) hx hb dX2_isInTermOrder_7 (by decide) (fun c_1 => ?_) (fun c_1 => ?_)
      · have hw := hw.1 c_1
        refine lv_iconst (v := 1) hx hb dX2_isInTermOrder_35 (by decide) ?_
        exact W.zret (v := 1) hx hb hr (by decide) (fun t ht hW => ⟨⟨1, w, rfl, hw, by show PA D ca ad w t.heap; rw [ht]; exact hP⟩, hS.F ht⟩) hS.2.2 dX2_isInTermOrder_36
      · have hw := hw.2 c_1
        refine lv_aload_n hx hb dX2_isInTermOrder_10 rfl (lv_at hl 0 rfl) ?_
        refine va_get (D := D) (ci := 4) (v := .ref (ad 9)) (C := RX2) (T := TX2) (N := 6) hx hb hts in_X2 hown hK hP 7 (wg7 ca ad w) rfl 2 (by decide) lk_15 (fun _ h9 => h9) rfl dX2_isInTermOrder_11 ?_
        refine lv_iload_n hx hb dX2_isInTermOrder_14 rfl (lv_at hl 1 rfl) ?_
        obtain ⟨h_2, hw⟩ := hw
        refine va_iald hx hb hK hP 9 0 (wg9 ca ad w) rfl h_2 dX2_isInTermOrder_15 ?_
        refine lv_aload_n hx hb dX2_isInTermOrder_16 rfl (lv_at hl 0 rfl) ?_
        refine va_get (D := D) (ci := 4) (v := .ref (ad 9)) (C := RX2) (T := TX2) (N := 6) hx hb hts in_X2 hown hK hP 7 (wg7 ca ad w) rfl 2 (by decide) lk_15 (fun _ h9 => h9) rfl dX2_isInTermOrder_17 ?_
        refine lv_iload_n hx hb dX2_isInTermOrder_20 rfl (lv_at hl 1 rfl) ?_
        refine lv_iconst (v := 1) hx hb dX2_isInTermOrder_21 (by decide) ?_
        refine lv_isub hx hb dX2_isInTermOrder_22 ?_
        obtain ⟨h_3, hw⟩ := hw
        refine va_iald hx hb hK hP 9 0 (wg9 ca ad w) rfl h_3 dX2_isInTermOrder_23 ?_
        refine lv_icmp_ge (tgt := 29) hx hb dX2_isInTermOrder_24 (by decide) (fun c_4 => ?_) (fun c_4 => ?_)
        · have hw := hw.1 c_4
          refine lv_iinc (v := (v1 + 1)) (lv' := [(1, .int (v1 + 1)), (0, .ref (ad 7))]) hx hb dX2_isInTermOrder_29 hl (k := 1) rfl rfl (by decide) rfl (fun ls hl => ?_)
          refine lv_goto (tgt := 2) hx hb dX2_isInTermOrder_32 (by decide) ?_
          exact ih2 (v1 + 1) w hw _ _ hP hS ls (lv_sub hl [1, 0] rfl)
        · have hw := hw.2 c_4
          refine lv_iconst (v := 0) hx hb dX2_isInTermOrder_27 (by decide) ?_
          exact W.zret (v := 0) hx hb hr (by decide) (fun t ht hW => ⟨⟨0, w, rfl, hw, by show PA D ca ad w t.heap; rw [ht]; exact hP⟩, hS.F ht⟩) hS.2.2 dX2_isInTermOrder_28
  have hl := lv_entry ([.ref (ad 7)]) (n := 2) (Nat.le_of_ble_eq_true rfl)
  rw [lg_entry_eq]
  generalize (lg_sl ([.ref (ad 7)]) ++ List.replicate (2 - (lg_sl ([.ref (ad 7)])).length) Slot.unset).toArray = ls at hl ⊢
  have hl : lv_has ls 2 [(0, .ref (ad 7))] := hl
  refine lv_iconst (v := 1) hx hb dX2_isInTermOrder_0 (by decide) ?_
  refine lv_istore_n (lv' := [(1, .int 1), (0, .ref (ad 7))]) hx hb dX2_isInTermOrder_1 rfl hl (by decide) rfl (fun ls hl => ?_)
  obtain ⟨n_2, hw⟩ := hw
  exact hB2 n_2 1 w hw _ _ hP hS ls (lv_sub hl [1, 0] rfl)
