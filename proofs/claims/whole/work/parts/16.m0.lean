set_option maxHeartbeats 4000000 in
set_option maxRecDepth 100000 in
def wpX0_slot (a0 : Int32) (a1 : Int32) (w : St) (post : Int32 → St → Prop) : Prop := post ((a0 * 4) + a1) w
set_option maxHeartbeats 4000000 in
set_option maxRecDepth 100000 in
theorem mX0_slot (l : Launch) (D : va_G) (ca : Nat → ClassId) (ad : Nat → Nat) (base : Nat) (hAd : okA base ad) (w : St) (a0 : Int32) (a1 : Int32) (post : Int32 → St → Prop) (hw : wpX0_slot a0 a1 w post) : Met l yX0_slot wsX0_slot ({ frames := 0, cells := 0, slots := 0, locals := 0 } : Room) (va_Pc [.int a0, .int a1] (BU D ca ad base w)) (va_Qi post (Bp D ca ad) (AB base)) 0 0 (AB base) := by
  refine Met.ofW (cc := cX0_slot) (maxL := 2) (ret := (some .int)) (by decide) rfl ?_
  intro p e s m args below meth c s₁ B hml hv
  obtain ⟨rfl, hbs, hP, hK⟩ := hv
  have hx := B.exec
  have hb := B.bytes
  have hr := B.returns
  have hts := atoms_spec (ws := wsX0_slot) B.pre
  have hown : s.vm.findClass RX0 = some m.cls := findClass_of_methodNamed B.named
  have hlocks := B.notSynchronized
  have hS : va_S (AB base) s.heap s.heap [] := va_S.rf
  have hl := lv_entry ([.int a0, .int a1]) (n := 2) (Nat.le_of_ble_eq_true rfl)
  rw [lg_entry_eq]
  generalize (lg_sl ([.int a0, .int a1]) ++ List.replicate (2 - (lg_sl ([.int a0, .int a1])).length) Slot.unset).toArray = ls at hl ⊢
  have hl : lv_has ls 2 [(0, .int a0), (1, .int a1)] := hl
  refine lv_iload_n hx hb dX0_slot_0 rfl (lv_at hl 0 rfl) ?_
  refine lv_iconst (v := 4) hx hb dX0_slot_1 (by decide) ?_
  refine lv_imul hx hb dX0_slot_2 ?_
  refine lv_iload_n hx hb dX0_slot_3 rfl (lv_at hl 1 rfl) ?_
  refine lv_iadd hx hb dX0_slot_4 ?_
  exact W.iret (v := ((a0 * 4) + a1)) hx hb hr (fun t ht hW => ⟨⟨((a0 * 4) + a1), w, rfl, hw, by show PA D ca ad w t.heap; rw [ht]; exact hP⟩, hS.F ht⟩) hS.2.2 dX0_slot_5
set_option maxHeartbeats 4000000 in
set_option maxRecDepth 100000 in
def wpX0_clockAt (a0 : Int32) (a1 : Int32) (w : St) (post : Int32 → St → Prop) : Prop := (vp_in a0 6) ∧ (post (a1 + (w.1 26 (a0).toNatClampNeg)) w)
set_option maxHeartbeats 4000000 in
set_option maxRecDepth 100000 in
theorem mX0_clockAt (l : Launch) (D : va_G) (ca : Nat → ClassId) (ad : Nat → Nat) (base : Nat) (hAd : okA base ad) (w : St) (a0 : Int32) (a1 : Int32) (post : Int32 → St → Prop) (hw : wpX0_clockAt a0 a1 w post) : Met l yX0_clockAt wsX0_clockAt ({ frames := 0, cells := 0, slots := 0, locals := 0 } : Room) (va_Pc [.ref (ad 24), .int a0, .int a1] (BU D ca ad base w)) (va_Qi post (Bp D ca ad) (AB base)) 0 0 (AB base) := by
  refine Met.ofW (cc := cX0_clockAt) (maxL := 3) (ret := (some .int)) (by decide) rfl ?_
  intro p e s m args below meth c s₁ B hml hv
  obtain ⟨rfl, hbs, hP, hK⟩ := hv
  have hx := B.exec
  have hb := B.bytes
  have hr := B.returns
  have hts := atoms_spec (ws := wsX0_clockAt) B.pre
  have hown : s.vm.findClass RX0 = some m.cls := findClass_of_methodNamed B.named
  have hlocks := B.notSynchronized
  have in_X0 : ∀ w ∈ wsX00, w ∈ wsX0_clockAt := by decide +kernel
  have lk_13 := hts (.fieldLink RX0 13 "LockQuorum$Clients" "offset" "[I") (by decide +kernel)
  have hS : va_S (AB base) s.heap s.heap [] := va_S.rf
  have hl := lv_entry ([.ref (ad 24), .int a0, .int a1]) (n := 3) (Nat.le_of_ble_eq_true rfl)
  rw [lg_entry_eq]
  generalize (lg_sl ([.ref (ad 24), .int a0, .int a1]) ++ List.replicate (3 - (lg_sl ([.ref (ad 24), .int a0, .int a1])).length) Slot.unset).toArray = ls at hl ⊢
  have hl : lv_has ls 3 [(0, .ref (ad 24)), (1, .int a0), (2, .int a1)] := hl
  refine lv_iload_n hx hb dX0_clockAt_0 rfl (lv_at hl 2 rfl) ?_
  refine lv_aload_n hx hb dX0_clockAt_1 rfl (lv_at hl 0 rfl) ?_
  refine va_get (D := D) (ci := 2) (v := .ref (ad 26)) (C := RX0) (T := TX0) (N := 9) hx hb hts in_X0 hown hK hP 24 (wg24 ca ad w) rfl 2 (by decide) lk_13 (fun _ h9 => h9) rfl dX0_clockAt_2 ?_
  refine lv_iload_n hx hb dX0_clockAt_5 rfl (lv_at hl 1 rfl) ?_
  obtain ⟨h_1, hw⟩ := hw
  refine va_iald hx hb hK hP 26 0 (wg26 ca ad w) rfl h_1 dX0_clockAt_6 ?_
  refine lv_iadd hx hb dX0_clockAt_7 ?_
  exact W.iret (v := (a1 + (w.1 26 (a0).toNatClampNeg))) hx hb hr (fun t ht hW => ⟨⟨(a1 + (w.1 26 (a0).toNatClampNeg)), w, rfl, hw, by show PA D ca ad w t.heap; rw [ht]; exact hP⟩, hS.F ht⟩) hS.2.2 dX0_clockAt_8
set_option maxHeartbeats 4000000 in
set_option maxRecDepth 100000 in
def wpX0_noteLease (a0 : Int32) (a1 : Int32) (a2 : Int32) (w : St) (post : St → Prop) : Prop := wpX0_slot a0 a1 w (fun r_2 w_1 => (vp_in r_2 24) ∧ (∀ w_4 : St, w_4 = (uA w_1 28 (upd (w_1.1 28) (r_2).toNatClampNeg (vp_nar .boolean 1))) → wpX0_slot a0 a1 w_4 (fun r_7 w_6 => wpX0_clockAt a0 a2 w_6 (fun r_9 w_8 => (vp_in r_7 24) ∧ (∀ w_11 : St, w_11 = (uA w_8 29 (upd (w_8.1 29) (r_7).toNatClampNeg r_9)) → post w_11)))))
set_option maxHeartbeats 4000000 in
set_option maxRecDepth 100000 in
theorem mX0_noteLease (l : Launch) (D : va_G) (ca : Nat → ClassId) (ad : Nat → Nat) (base : Nat) (hAd : okA base ad) (w : St) (a0 : Int32) (a1 : Int32) (a2 : Int32) (post : St → Prop) (hw : wpX0_noteLease a0 a1 a2 w post) : Met l yX0_noteLease wsX0_noteLease ({ frames := 1, cells := 0, slots := 0, locals := 22 } : Room) (va_Pc [.ref (ad 24), .int a0, .int a1, .int a2] (BU D ca ad base w)) (va_Qv post (Bp D ca ad) (AB base)) 0 0 (AB base) := by
  refine Met.ofW (cc := cX0_noteLease) (maxL := 4) (ret := none) (by decide) rfl ?_
  intro p e s m args below meth c s₁ B hml hv
  obtain ⟨rfl, hbs, hP, hK⟩ := hv
  have hx := B.exec
  have hb := B.bytes
  have hr := B.returns
  have hts := atoms_spec (ws := wsX0_noteLease) B.pre
  have hown : s.vm.findClass RX0 = some m.cls := findClass_of_methodNamed B.named
  have hlocks := B.notSynchronized
  have in_X0 : ∀ w ∈ wsX00, w ∈ wsX0_noteLease := by decide +kernel
  have lk_22 := hts (.fieldLink RX0 22 "LockQuorum$Clients" "leases" "[Z") (by decide +kernel)
  have lk_25 := hts (.fieldLink RX0 25 "LockQuorum$Clients" "leaseClock" "[I") (by decide +kernel)
  have hS : va_S (AB base) s.heap s.heap [] := va_S.rf
  have hl := lv_entry ([.ref (ad 24), .int a0, .int a1, .int a2]) (n := 4) (Nat.le_of_ble_eq_true rfl)
  rw [lg_entry_eq]
  generalize (lg_sl ([.ref (ad 24), .int a0, .int a1, .int a2]) ++ List.replicate (4 - (lg_sl ([.ref (ad 24), .int a0, .int a1, .int a2])).length) Slot.unset).toArray = ls at hl ⊢
  have hl : lv_has ls 4 [(0, .ref (ad 24)), (1, .int a0), (2, .int a1), (3, .int a2)] := hl
  refine lv_aload_n hx hb dX0_noteLease_0 rfl (lv_at hl 0 rfl) ?_
  refine va_get (D := D) (ci := 2) (v := .ref (ad 28)) (C := RX0) (T := TX0) (N := 9) hx hb hts in_X0 hown hK hP 24 (wg24 ca ad w) rfl 4 (by decide) lk_22 (fun _ h9 => h9) rfl dX0_noteLease_1 ?_
  refine lv_iload_n hx hb dX0_noteLease_4 rfl (lv_at hl 1 rfl) ?_
  refine lv_iload_n hx hb dX0_noteLease_5 rfl (lv_at hl 2 rfl) ?_
  refine va_calli (va_runS (As := [.int a0, .int a1]) (rest := [.ref (ad 28)]) ⟨hx, hb, hml, hown, hts⟩ (mX0_slot l D ca ad base hAd w a0 a1 _ hw) (va_cwS 2 hts gX0_noteLease_X0_slot rfl rfl rfl (by decide +kernel) ⟨Nat.le_of_ble_eq_true rfl, Nat.le_of_ble_eq_true rfl⟩) (ps [.int a0, .int a1] hK hP hbs hS) rfl rfl hl.1 rfl (lv_room (Nat.le_of_ble_eq_true rfl)) dX0_noteLease_6 ⟨Nat.le_of_ble_eq_true rfl, Nat.le_of_ble_eq_true rfl⟩) hS (fun q _ h => h) (fun q h => h) (fun r_2 w_1 t H locs ht hvm hw hP hz1 hk1 hS => ?_)
  have hP : PA D ca ad w_1 H := by rw [← ht]; exact hP
  refine lv_iconst (v := 1) hx hb dX0_noteLease_9 (by decide) ?_
  obtain ⟨h_3, hw⟩ := hw
  refine va_zast hx hb hK hP (DA hAd) hS 28 1 (wg28 ca ad w_1) rfl h_3 dX0_noteLease_10 (fun H locs hP hD hS => ?_)
  obtain ⟨w_4, e_5⟩ : ∃ z : St, z = (uA w_1 28 (upd (w_1.1 28) (r_2).toNatClampNeg (vp_nar .boolean 1))) := ⟨_, rfl⟩
  have hP : PA D ca ad w_4 H := by rw [e_5]; exact wu28 hP
  have hw := hw w_4 e_5
  refine lv_aload_n hx hb dX0_noteLease_11 rfl (lv_at hl 0 rfl) ?_
  refine va_get (D := D) (ci := 2) (v := .ref (ad 29)) (C := RX0) (T := TX0) (N := 9) hx hb hts in_X0 hown hK hP 24 (wg24 ca ad w_4) rfl 5 (by decide) lk_25 (fun _ h9 => h9) rfl dX0_noteLease_12 ?_
  refine lv_iload_n hx hb dX0_noteLease_15 rfl (lv_at hl 1 rfl) ?_
  refine lv_iload_n hx hb dX0_noteLease_16 rfl (lv_at hl 2 rfl) ?_
  refine va_calli (va_runS (As := [.int a0, .int a1]) (rest := [.ref (ad 29)]) ⟨hx, hb, hml, hown, hts⟩ (mX0_slot l D ca ad base hAd w_4 a0 a1 _ hw) (va_cwS 2 hts gX0_noteLease_X0_slot rfl rfl rfl (by decide +kernel) ⟨Nat.le_of_ble_eq_true rfl, Nat.le_of_ble_eq_true rfl⟩) (ps [.int a0, .int a1] hK hP hbs hS) rfl rfl hl.1 rfl (lv_room (Nat.le_of_ble_eq_true rfl)) dX0_noteLease_17 ⟨Nat.le_of_ble_eq_true rfl, Nat.le_of_ble_eq_true rfl⟩) hS (fun q _ h => h) (fun q h => h) (fun r_7 w_6 t H locs ht hvm hw hP hz1 hk1 hS => ?_)
  have hP : PA D ca ad w_6 H := by rw [← ht]; exact hP
  refine lv_aload_n hx hb dX0_noteLease_20 rfl (lv_at hl 0 rfl) ?_
  refine lv_iload_n hx hb dX0_noteLease_21 rfl (lv_at hl 1 rfl) ?_
  refine lv_iload_n hx hb dX0_noteLease_22 rfl (lv_at hl 3 rfl) ?_
  refine va_calli (va_runV (As := [.int a0, .int a2]) (rest := [.int r_7, .ref (ad 29)]) ⟨hx, hb, hml, hown, hts⟩ (mX0_clockAt l D ca ad base hAd w_6 a0 a2 _ hw) (cwV 2 hts gX0_noteLease_X0_clockAt rfl rfl rfl (by decide +kernel) ⟨Nat.le_of_ble_eq_true rfl, Nat.le_of_ble_eq_true rfl⟩) (pv [.int a0, .int a2] hK hP hbs hS rfl (wg24 ca ad w_6)) rfl rfl hl.1 rfl (lv_room (Nat.le_of_ble_eq_true rfl)) dX0_noteLease_23 ⟨Nat.le_of_ble_eq_true rfl, Nat.le_of_ble_eq_true rfl⟩) hS (fun q _ h => h) (fun q h => h) (fun r_9 w_8 t H locs ht hvm hw hP hz1 hk1 hS => ?_)
  have hP : PA D ca ad w_8 H := by rw [← ht]; exact hP
  obtain ⟨h_10, hw⟩ := hw
  refine va_iast hx hb hK hP (DA hAd) hS 29 0 (wg29 ca ad w_8) rfl h_10 dX0_noteLease_26 (fun H locs hP hD hS => ?_)
  obtain ⟨w_11, e_12⟩ : ∃ z : St, z = (uA w_8 29 (upd (w_8.1 29) (r_7).toNatClampNeg r_9)) := ⟨_, rfl⟩
  have hP : PA D ca ad w_11 H := by rw [e_12]; exact wu29 hP
  have hw := hw w_11 e_12
  exact W.vret hx hb hr (fun t ht hW => ⟨⟨w_11, rfl, hw, by show PA D ca ad w_11 t.heap; rw [ht]; exact hP⟩, hS.F ht⟩) hS.2.2 dX0_noteLease_27
set_option maxHeartbeats 4000000 in
set_option maxRecDepth 100000 in
def wpX0_dropLease (a0 : Int32) (a1 : Int32) (w : St) (post : St → Prop) : Prop := wpX0_slot a0 a1 w (fun r_2 w_1 => (vp_in r_2 24) ∧ (∀ w_4 : St, w_4 = (uA w_1 28 (upd (w_1.1 28) (r_2).toNatClampNeg (vp_nar .boolean 0))) → post w_4))
set_option maxHeartbeats 4000000 in
set_option maxRecDepth 100000 in
theorem mX0_dropLease (l : Launch) (D : va_G) (ca : Nat → ClassId) (ad : Nat → Nat) (base : Nat) (hAd : okA base ad) (w : St) (a0 : Int32) (a1 : Int32) (post : St → Prop) (hw : wpX0_dropLease a0 a1 w post) : Met l yX0_dropLease wsX0_dropLease ({ frames := 1, cells := 0, slots := 0, locals := 21 } : Room) (va_Pc [.ref (ad 24), .int a0, .int a1] (BU D ca ad base w)) (va_Qv post (Bp D ca ad) (AB base)) 0 0 (AB base) := by
  refine Met.ofW (cc := cX0_dropLease) (maxL := 3) (ret := none) (by decide) rfl ?_
  intro p e s m args below meth c s₁ B hml hv
  obtain ⟨rfl, hbs, hP, hK⟩ := hv
  have hx := B.exec
  have hb := B.bytes
  have hr := B.returns
  have hts := atoms_spec (ws := wsX0_dropLease) B.pre
  have hown : s.vm.findClass RX0 = some m.cls := findClass_of_methodNamed B.named
  have hlocks := B.notSynchronized
  have in_X0 : ∀ w ∈ wsX00, w ∈ wsX0_dropLease := by decide +kernel
  have lk_22 := hts (.fieldLink RX0 22 "LockQuorum$Clients" "leases" "[Z") (by decide +kernel)
  have hS : va_S (AB base) s.heap s.heap [] := va_S.rf
  have hl := lv_entry ([.ref (ad 24), .int a0, .int a1]) (n := 3) (Nat.le_of_ble_eq_true rfl)
  rw [lg_entry_eq]
  generalize (lg_sl ([.ref (ad 24), .int a0, .int a1]) ++ List.replicate (3 - (lg_sl ([.ref (ad 24), .int a0, .int a1])).length) Slot.unset).toArray = ls at hl ⊢
  have hl : lv_has ls 3 [(0, .ref (ad 24)), (1, .int a0), (2, .int a1)] := hl
  refine lv_aload_n hx hb dX0_dropLease_0 rfl (lv_at hl 0 rfl) ?_
  refine va_get (D := D) (ci := 2) (v := .ref (ad 28)) (C := RX0) (T := TX0) (N := 9) hx hb hts in_X0 hown hK hP 24 (wg24 ca ad w) rfl 4 (by decide) lk_22 (fun _ h9 => h9) rfl dX0_dropLease_1 ?_
  refine lv_iload_n hx hb dX0_dropLease_4 rfl (lv_at hl 1 rfl) ?_
  refine lv_iload_n hx hb dX0_dropLease_5 rfl (lv_at hl 2 rfl) ?_
  refine va_calli (va_runS (As := [.int a0, .int a1]) (rest := [.ref (ad 28)]) ⟨hx, hb, hml, hown, hts⟩ (mX0_slot l D ca ad base hAd w a0 a1 _ hw) (va_cwS 2 hts gX0_dropLease_X0_slot rfl rfl rfl (by decide +kernel) ⟨Nat.le_of_ble_eq_true rfl, Nat.le_of_ble_eq_true rfl⟩) (ps [.int a0, .int a1] hK hP hbs hS) rfl rfl hl.1 rfl (lv_room (Nat.le_of_ble_eq_true rfl)) dX0_dropLease_6 ⟨Nat.le_of_ble_eq_true rfl, Nat.le_of_ble_eq_true rfl⟩) hS (fun q _ h => h) (fun q h => h) (fun r_2 w_1 t H locs ht hvm hw hP hz1 hk1 hS => ?_)
  have hP : PA D ca ad w_1 H := by rw [← ht]; exact hP
  refine lv_iconst (v := 0) hx hb dX0_dropLease_9 (by decide) ?_
  obtain ⟨h_3, hw⟩ := hw
  refine va_zast hx hb hK hP (DA hAd) hS 28 1 (wg28 ca ad w_1) rfl h_3 dX0_dropLease_10 (fun H locs hP hD hS => ?_)
  obtain ⟨w_4, e_5⟩ : ∃ z : St, z = (uA w_1 28 (upd (w_1.1 28) (r_2).toNatClampNeg (vp_nar .boolean 0))) := ⟨_, rfl⟩
  have hP : PA D ca ad w_4 H := by rw [e_5]; exact wu28 hP
  have hw := hw w_4 e_5
  exact W.vret hx hb hr (fun t ht hW => ⟨⟨w_4, rfl, hw, by show PA D ca ad w_4 t.heap; rw [ht]; exact hP⟩, hS.F ht⟩) hS.2.2 dX0_dropLease_11
set_option maxHeartbeats 4000000 in
set_option maxRecDepth 100000 in
def wpX0_hasClaim (a0 : Int32) (a1 : Int32) (a2 : Int32) (w : St) (post : Int32 → St → Prop) : Prop := wpX0_slot a0 a1 w (fun r_2 w_1 => (vp_in a0 6) ∧ (((w_1.1 25 (a0).toNatClampNeg) = 0 → ((vp_in r_2 24) ∧ (((w_1.1 28 (r_2).toNatClampNeg) = 0 → (post 0 w_1)) ∧ (¬ ((w_1.1 28 (r_2).toNatClampNeg) = 0) → (wpX0_clockAt a0 a2 w_1 (fun r_8 w_7 => (vp_in r_2 24) ∧ ((8 ≤ (r_8 - (w_7.1 29 (r_2).toNatClampNeg)) → (post 0 w_7)) ∧ (¬ (8 ≤ (r_8 - (w_7.1 29 (r_2).toNatClampNeg))) → (post 1 w_7))))))))) ∧ (¬ ((w_1.1 25 (a0).toNatClampNeg) = 0) → (post 0 w_1))))
set_option maxHeartbeats 4000000 in
set_option maxRecDepth 100000 in
theorem mX0_hasClaim (l : Launch) (D : va_G) (ca : Nat → ClassId) (ad : Nat → Nat) (base : Nat) (hAd : okA base ad) (w : St) (a0 : Int32) (a1 : Int32) (a2 : Int32) (post : Int32 → St → Prop) (hw : wpX0_hasClaim a0 a1 a2 w post) : Met l yX0_hasClaim wsX0_hasClaim ({ frames := 1, cells := 0, slots := 0, locals := 22 } : Room) (va_Pc [.ref (ad 24), .int a0, .int a1, .int a2] (BU D ca ad base w)) (va_Qi post (Bp D ca ad) (AB base)) 0 0 (AB base) := by
  refine Met.ofW (cc := cX0_hasClaim) (maxL := 5) (ret := (some .boolean)) (by decide) rfl ?_
  intro p e s m args below meth c s₁ B hml hv
  obtain ⟨rfl, hbs, hP, hK⟩ := hv
  have hx := B.exec
  have hb := B.bytes
  have hr := B.returns
  have hts := atoms_spec (ws := wsX0_hasClaim) B.pre
  have hown : s.vm.findClass RX0 = some m.cls := findClass_of_methodNamed B.named
  have hlocks := B.notSynchronized
  have in_X0 : ∀ w ∈ wsX00, w ∈ wsX0_hasClaim := by decide +kernel
  have lk_9 := hts (.fieldLink RX0 9 "LockQuorum$Clients" "paused" "[Z") (by decide +kernel)
  have lk_22 := hts (.fieldLink RX0 22 "LockQuorum$Clients" "leases" "[Z") (by decide +kernel)
  have lk_25 := hts (.fieldLink RX0 25 "LockQuorum$Clients" "leaseClock" "[I") (by decide +kernel)
  have hS : va_S (AB base) s.heap s.heap [] := va_S.rf
  have hl := lv_entry ([.ref (ad 24), .int a0, .int a1, .int a2]) (n := 5) (Nat.le_of_ble_eq_true rfl)
  rw [lg_entry_eq]
  generalize (lg_sl ([.ref (ad 24), .int a0, .int a1, .int a2]) ++ List.replicate (5 - (lg_sl ([.ref (ad 24), .int a0, .int a1, .int a2])).length) Slot.unset).toArray = ls at hl ⊢
  have hl : lv_has ls 5 [(0, .ref (ad 24)), (1, .int a0), (2, .int a1), (3, .int a2)] := hl
  refine lv_iload_n hx hb dX0_hasClaim_0 rfl (lv_at hl 1 rfl) ?_
  refine lv_iload_n hx hb dX0_hasClaim_1 rfl (lv_at hl 2 rfl) ?_
  refine va_calli (va_runS (As := [.int a0, .int a1]) (rest := []) ⟨hx, hb, hml, hown, hts⟩ (mX0_slot l D ca ad base hAd w a0 a1 _ hw) (va_cwS 2 hts gX0_hasClaim_X0_slot rfl rfl rfl (by decide +kernel) ⟨Nat.le_of_ble_eq_true rfl, Nat.le_of_ble_eq_true rfl⟩) (ps [.int a0, .int a1] hK hP hbs hS) rfl rfl hl.1 rfl (lv_room (Nat.le_of_ble_eq_true rfl)) dX0_hasClaim_2 ⟨Nat.le_of_ble_eq_true rfl, Nat.le_of_ble_eq_true rfl⟩) hS (fun q _ h => h) (fun q h => h) (fun r_2 w_1 t H locs ht hvm hw hP hz1 hk1 hS => ?_)
  have hP : PA D ca ad w_1 H := by rw [← ht]; exact hP
  refine lv_istore (lv' := [(4, .int r_2), (0, .ref (ad 24)), (1, .int a0), (2, .int a1), (3, .int a2)]) hx hb dX0_hasClaim_5 hl (by decide) rfl (fun ls hl => ?_)
  refine lv_aload_n hx hb dX0_hasClaim_7 rfl (lv_at hl 1 rfl) ?_
  refine va_get (D := D) (ci := 2) (v := .ref (ad 25)) (C := RX0) (T := TX0) (N := 9) hx hb hts in_X0 hown hK hP 24 (wg24 ca ad w_1) rfl 1 (by decide) lk_9 (fun _ h9 => h9) rfl dX0_hasClaim_8 ?_
  refine lv_iload_n hx hb dX0_hasClaim_11 rfl (lv_at hl 2 rfl) ?_
  obtain ⟨h_3, hw⟩ := hw
  refine va_zald hx hb hK hP 25 1 (wg25 ca ad w_1) rfl h_3 dX0_hasClaim_12 ?_
  refine lv_if_ne (tgt := 49) hx hb dX0_hasClaim_13 (by decide) (fun c_4 => ?_) (fun c_4 => ?_)
  · have hw := hw.2 c_4
    refine lv_iconst (v := 0) hx hb dX0_hasClaim_49 (by decide) ?_
    exact W.zret (v := 0) hx hb hr (by decide) (fun t ht hW => ⟨⟨0, w_1, rfl, hw, by show PA D ca ad w_1 t.heap; rw [ht]; exact hP⟩, hS.F ht⟩) hS.2.2 dX0_hasClaim_50
  · have hw := hw.1 c_4
    refine lv_aload_n hx hb dX0_hasClaim_16 rfl (lv_at hl 1 rfl) ?_
    refine va_get (D := D) (ci := 2) (v := .ref (ad 28)) (C := RX0) (T := TX0) (N := 9) hx hb hts in_X0 hown hK hP 24 (wg24 ca ad w_1) rfl 4 (by decide) lk_22 (fun _ h9 => h9) rfl dX0_hasClaim_17 ?_
    refine lv_iload hx hb dX0_hasClaim_20 (lv_at hl 0 rfl) ?_
    obtain ⟨h_5, hw⟩ := hw
    refine va_zald hx hb hK hP 28 1 (wg28 ca ad w_1) rfl h_5 dX0_hasClaim_22 ?_
    refine lv_if_eq (tgt := 49) hx hb dX0_hasClaim_23 (by decide) (fun c_6 => ?_) (fun c_6 => ?_)
    · have hw := hw.1 c_6
      refine lv_iconst (v := 0) hx hb dX0_hasClaim_49 (by decide) ?_
      exact W.zret (v := 0) hx hb hr (by decide) (fun t ht hW => ⟨⟨0, w_1, rfl, hw, by show PA D ca ad w_1 t.heap; rw [ht]; exact hP⟩, hS.F ht⟩) hS.2.2 dX0_hasClaim_50
    · have hw := hw.2 c_6
      refine lv_aload_n hx hb dX0_hasClaim_26 rfl (lv_at hl 1 rfl) ?_
      refine lv_iload_n hx hb dX0_hasClaim_27 rfl (lv_at hl 2 rfl) ?_
      refine lv_iload_n hx hb dX0_hasClaim_28 rfl (lv_at hl 4 rfl) ?_
      refine va_calli (va_runV (As := [.int a0, .int a2]) (rest := []) ⟨hx, hb, hml, hown, hts⟩ (mX0_clockAt l D ca ad base hAd w_1 a0 a2 _ hw) (cwV 2 hts gX0_hasClaim_X0_clockAt rfl rfl rfl (by decide +kernel) ⟨Nat.le_of_ble_eq_true rfl, Nat.le_of_ble_eq_true rfl⟩) (pv [.int a0, .int a2] hK hP hbs hS rfl (wg24 ca ad w_1)) rfl rfl hl.1 rfl (lv_room (Nat.le_of_ble_eq_true rfl)) dX0_hasClaim_29 ⟨Nat.le_of_ble_eq_true rfl, Nat.le_of_ble_eq_true rfl⟩) hS (fun q _ h => h) (fun q h => h) (fun r_8 w_7 t H locs ht hvm hw hP hz1 hk1 hS => ?_)
      have hP : PA D ca ad w_7 H := by rw [← ht]; exact hP
      refine lv_aload_n hx hb dX0_hasClaim_32 rfl (lv_at hl 1 rfl) ?_
      refine va_get (D := D) (ci := 2) (v := .ref (ad 29)) (C := RX0) (T := TX0) (N := 9) hx hb hts in_X0 hown hK hP 24 (wg24 ca ad w_7) rfl 5 (by decide) lk_25 (fun _ h9 => h9) rfl dX0_hasClaim_33 ?_
      refine lv_iload hx hb dX0_hasClaim_36 (lv_at hl 0 rfl) ?_
      obtain ⟨h_9, hw⟩ := hw
      refine va_iald hx hb hK hP 29 0 (wg29 ca ad w_7) rfl h_9 dX0_hasClaim_38 ?_
      refine lv_isub hx hb dX0_hasClaim_39 ?_
      refine lv_bipush (v := 8) hx hb dX0_hasClaim_40 (by decide) ?_
      refine lv_icmp_ge (tgt := 49) hx hb dX0_hasClaim_42 (by decide) (fun c_10 => ?_) (fun c_10 => ?_)
      · have hw := hw.1 c_10
        refine lv_iconst (v := 0) hx hb dX0_hasClaim_49 (by decide) ?_
        exact W.zret (v := 0) hx hb hr (by decide) (fun t ht hW => ⟨⟨0, w_7, rfl, hw, by show PA D ca ad w_7 t.heap; rw [ht]; exact hP⟩, hS.F ht⟩) hS.2.2 dX0_hasClaim_50
      · have hw := hw.2 c_10
        refine lv_iconst (v := 1) hx hb dX0_hasClaim_45 (by decide) ?_
        refine lv_goto (tgt := 50) hx hb dX0_hasClaim_46 (by decide) ?_
        exact W.zret (v := 1) hx hb hr (by decide) (fun t ht hW => ⟨⟨1, w_7, rfl, hw, by show PA D ca ad w_7 t.heap; rw [ht]; exact hP⟩, hS.F ht⟩) hS.2.2 dX0_hasClaim_50
set_option maxHeartbeats 4000000 in
set_option maxRecDepth 100000 in
def wpX0_countClaims_B28 (a0 : Int32) (a1 : Int32) (post : Int32 → St → Prop) (K5 : Int32 → Int32 → St → Prop) (v3 : Int32) (v4 : Int32) (w : St) : Prop := K5 v3 (v4 + 1) w
set_option maxHeartbeats 4000000 in
set_option maxRecDepth 100000 in
def wpX0_countClaims_L5 (a0 : Int32) (a1 : Int32) (post : Int32 → St → Prop) : Nat → Int32 → Int32 → St → Prop
  | 0, _, _, _ => False
  | n + 1, v3, v4, w => ((w.1 66 0) ≤ v4 → (post v3 w)) ∧ (¬ ((w.1 66 0) ≤ v4) → (wpX0_hasClaim v4 a0 a1 w (fun r_3 w_2 => (r_3 = 0 → (wpX0_countClaims_B28 a0 a1 post (fun v3 v4 w => wpX0_countClaims_L5 a0 a1 post n v3 v4 w) v3 v4 w_2)) ∧ (¬ (r_3 = 0) → (wpX0_countClaims_B28 a0 a1 post (fun v3 v4 w => wpX0_countClaims_L5 a0 a1 post n v3 v4 w) (v3 + 1) v4 w_2)))))
set_option maxHeartbeats 4000000 in
set_option maxRecDepth 100000 in
def wpX0_countClaims (a0 : Int32) (a1 : Int32) (w : St) (post : Int32 → St → Prop) : Prop := ∃ n : Nat, wpX0_countClaims_L5 a0 a1 post n 0 0 w
set_option maxHeartbeats 4000000 in
set_option maxRecDepth 100000 in
theorem mX0_countClaims (l : Launch) (D : va_G) (ca : Nat → ClassId) (ad : Nat → Nat) (base : Nat) (hAd : okA base ad) (w : St) (a0 : Int32) (a1 : Int32) (post : Int32 → St → Prop) (hw : wpX0_countClaims a0 a1 w post) : Met l yX0_countClaims wsX0_countClaims ({ frames := 2, cells := 0, slots := 0, locals := 46 } : Room) (va_Pc [.ref (ad 24), .int a0, .int a1] (BU D ca ad base w)) (va_Qi post (Bp D ca ad) (AB base)) 0 0 (AB base) := by
  refine Met.ofW (cc := cX0_countClaims) (maxL := 5) (ret := (some .int)) (by decide) rfl ?_
  intro p e s m args below meth c s₁ B hml hv
  obtain ⟨rfl, hbs, hP, hK⟩ := hv
  have hx := B.exec
  have hb := B.bytes
  have hr := B.returns
  have hts := atoms_spec (ws := wsX0_countClaims) B.pre
  have hown : s.vm.findClass RX0 = some m.cls := findClass_of_methodNamed B.named
  have hlocks := B.notSynchronized
  have in_X0 : ∀ w ∈ wsX00, w ∈ wsX0_countClaims := by decide +kernel
  have lk_44 := hts (.fieldLink RX0 44 "LockQuorum$Clients" "count" "I") (by decide +kernel)
  have hS : va_S (AB base) s.heap s.heap [] := va_S.rf
  have hB5 : ∀ (n : Nat) (v3 : Int32) (v4 : Int32) (w : St), wpX0_countClaims_L5 a0 a1 post n v3 v4 w → ∀ (H : Heap) (locs : List Loc), PA D ca ad w H → va_S (AB base) s.heap H locs → ∀ ls : Array Slot, lv_has ls 5 [(0, .ref (ad 24)), (1, .int a0), (2, .int a1), (3, .int v3), (4, .int v4)] → W p l e (headSpec wsX0_countClaims ({ frames := 2, cells := 0, slots := 0, locals := 46 } : Room)).room s m ([Value.ref (ad 24), Value.int a0, Value.int a1].toArray) below meth c H locs 0 0 (MQ below (va_Qi post (Bp D ca ad) (AB base)) ([Value.ref (ad 24), Value.int a0, Value.int a1].toArray) s 0 0 (AB base)) (F0 m 5 ls []) := by
    intro n
    induction n with
    | zero => intro v3 v4 w hw; exact hw.elim
    | succ n ih5 =>
      have hB28 : ∀ (v3 : Int32) (v4 : Int32) (w : St), wpX0_countClaims_B28 a0 a1 post (fun v3 v4 w => wpX0_countClaims_L5 a0 a1 post n v3 v4 w) v3 v4 w → ∀ (H : Heap) (locs : List Loc), PA D ca ad w H → va_S (AB base) s.heap H locs → ∀ ls : Array Slot, lv_has ls 5 [(0, .ref (ad 24)), (1, .int a0), (2, .int a1), (3, .int v3), (4, .int v4)] → W p l e (headSpec wsX0_countClaims ({ frames := 2, cells := 0, slots := 0, locals := 46 } : Room)).room s m ([Value.ref (ad 24), Value.int a0, Value.int a1].toArray) below meth c H locs 0 0 (MQ below (va_Qi post (Bp D ca ad) (AB base)) ([Value.ref (ad 24), Value.int a0, Value.int a1].toArray) s 0 0 (AB base)) (F0 m 28 ls []) := by
        intro v3 v4 w hw H locs hP hS ls hl
        refine lv_iinc (v := (v4 + 1)) (lv' := [(4, .int (v4 + 1)), (0, .ref (ad 24)), (1, .int a0), (2, .int a1), (3, .int v3)]) hx hb dX0_countClaims_28 hl (k := 4) rfl rfl (by decide) rfl (fun ls hl => ?_)
        refine lv_goto (tgt := 5) hx hb dX0_countClaims_31 (by decide) ?_
        exact ih5 v3 (v4 + 1) w hw _ _ hP hS ls (lv_sub hl [1, 2, 3, 4, 0] rfl)
      intro v3 v4 w hw H locs hP hS ls hl
      refine lv_iload hx hb dX0_countClaims_5 (lv_at hl 4 rfl) ?_
      refine lv_aload_n hx hb dX0_countClaims_7 rfl (lv_at hl 0 rfl) ?_
      refine va_get (D := D) (ci := 2) (v := .int (w.1 66 0)) (C := RX0) (T := TX0) (N := 9) hx hb hts in_X0 hown hK hP 24 (wg24 ca ad w) rfl 0 (by decide) lk_44 (fun _ h9 => h9) rfl dX0_countClaims_8 ?_
      refine lv_icmp_ge (tgt := 34) hx hb dX0_countClaims_11 (by decide) (fun c_1 => ?_) (fun c_1 => ?_)
      · have hw := hw.1 c_1
        refine lv_iload_n hx hb dX0_countClaims_34 rfl (lv_at hl 3 rfl) ?_
        exact W.iret (v := v3) hx hb hr (fun t ht hW => ⟨⟨v3, w, rfl, hw, by show PA D ca ad w t.heap; rw [ht]; exact hP⟩, hS.F ht⟩) hS.2.2 dX0_countClaims_35
      · have hw := hw.2 c_1
        refine lv_aload_n hx hb dX0_countClaims_14 rfl (lv_at hl 0 rfl) ?_
        refine lv_iload hx hb dX0_countClaims_15 (lv_at hl 4 rfl) ?_
        refine lv_iload_n hx hb dX0_countClaims_17 rfl (lv_at hl 1 rfl) ?_
        refine lv_iload_n hx hb dX0_countClaims_18 rfl (lv_at hl 2 rfl) ?_
        refine va_calli (va_runV (As := [.int v4, .int a0, .int a1]) (rest := []) ⟨hx, hb, hml, hown, hts⟩ (mX0_hasClaim l D ca ad base hAd w v4 a0 a1 _ hw) (cwV 3 hts gX0_countClaims_X0_hasClaim rfl rfl rfl (by decide +kernel) ⟨Nat.le_of_ble_eq_true rfl, Nat.le_of_ble_eq_true rfl⟩) (pv [.int v4, .int a0, .int a1] hK hP hbs hS rfl (wg24 ca ad w)) rfl rfl hl.1 rfl (lv_room (Nat.le_of_ble_eq_true rfl)) dX0_countClaims_19 ⟨Nat.le_of_ble_eq_true rfl, Nat.le_of_ble_eq_true rfl⟩) hS (fun q _ h => h) (fun q h => h) (fun r_3 w_2 t H locs ht hvm hw hP hz1 hk1 hS => ?_)
        have hP : PA D ca ad w_2 H := by rw [← ht]; exact hP
        refine lv_if_eq (tgt := 28) hx hb dX0_countClaims_22 (by decide) (fun c_4 => ?_) (fun c_4 => ?_)
        · have hw := hw.1 c_4
          exact hB28 v3 v4 w_2 hw _ _ hP hS ls (lv_sub hl [0, 1, 2, 3, 4] rfl)
        · have hw := hw.2 c_4
          refine lv_iinc (v := (v3 + 1)) (lv' := [(3, .int (v3 + 1)), (0, .ref (ad 24)), (1, .int a0), (2, .int a1), (4, .int v4)]) hx hb dX0_countClaims_25 hl (k := 3) rfl rfl (by decide) rfl (fun ls hl => ?_)
          exact hB28 (v3 + 1) v4 w_2 hw _ _ hP hS ls (lv_sub hl [1, 2, 3, 0, 4] rfl)
  have hl := lv_entry ([.ref (ad 24), .int a0, .int a1]) (n := 5) (Nat.le_of_ble_eq_true rfl)
  rw [lg_entry_eq]
  generalize (lg_sl ([.ref (ad 24), .int a0, .int a1]) ++ List.replicate (5 - (lg_sl ([.ref (ad 24), .int a0, .int a1])).length) Slot.unset).toArray = ls at hl ⊢
  have hl : lv_has ls 5 [(0, .ref (ad 24)), (1, .int a0), (2, .int a1)] := hl
  refine lv_iconst (v := 0) hx hb dX0_countClaims_0 (by decide) ?_
  refine lv_istore_n (lv' := [(3, .int 0), (0, .ref (ad 24)), (1, .int a0), (2, .int a1)]) hx hb dX0_countClaims_1 rfl hl (by decide) rfl (fun ls hl => ?_)
  refine lv_iconst (v := 0) hx hb dX0_countClaims_2 (by decide) ?_
  refine lv_istore (lv' := [(4, .int 0), (3, .int 0), (0, .ref (ad 24)), (1, .int a0), (2, .int a1)]) hx hb dX0_countClaims_3 hl (by decide) rfl (fun ls hl => ?_)
  obtain ⟨n_5, hw⟩ := hw
  exact hB5 n_5 0 0 w hw _ _ hP hS ls (lv_sub hl [2, 3, 4, 1, 0] rfl)
set_option maxHeartbeats 4000000 in
set_option maxRecDepth 100000 in
def wpX0_keepValue (a0 : Int32) (a1 : Int32) (a2 : Int32) (a3 : Int32) (w : St) (post : St → Prop) : Prop := wpX0_slot a0 a1 w (fun r_2 w_1 => (vp_in r_2 24) ∧ (∀ w_4 : St, w_4 = (uA w_1 30 (upd (w_1.1 30) (r_2).toNatClampNeg (vp_nar .boolean 1))) → (vp_in r_2 24) ∧ (∀ w_7 : St, w_7 = (uA w_4 27 (upd (w_4.1 27) (r_2).toNatClampNeg a2)) → wpX0_clockAt a0 a3 w_7 (fun r_10 w_9 => (vp_in r_2 24) ∧ (∀ w_12 : St, w_12 = (uA w_9 31 (upd (w_9.1 31) (r_2).toNatClampNeg r_10)) → (vp_in r_2 24) ∧ (∀ w_15 : St, w_15 = (uA w_12 32 (upd (w_12.1 32) (r_2).toNatClampNeg (a3 + 10))) → post w_15))))))
set_option maxHeartbeats 4000000 in
set_option maxRecDepth 100000 in
theorem mX0_keepValue (l : Launch) (D : va_G) (ca : Nat → ClassId) (ad : Nat → Nat) (base : Nat) (hAd : okA base ad) (w : St) (a0 : Int32) (a1 : Int32) (a2 : Int32) (a3 : Int32) (post : St → Prop) (hw : wpX0_keepValue a0 a1 a2 a3 w post) : Met l yX0_keepValue wsX0_keepValue ({ frames := 1, cells := 0, slots := 0, locals := 22 } : Room) (va_Pc [.ref (ad 24), .int a0, .int a1, .int a2, .int a3] (BU D ca ad base w)) (va_Qv post (Bp D ca ad) (AB base)) 0 0 (AB base) := by
  refine Met.ofW (cc := cX0_keepValue) (maxL := 6) (ret := none) (by decide) rfl ?_
  intro p e s m args below meth c s₁ B hml hv
  obtain ⟨rfl, hbs, hP, hK⟩ := hv
  have hx := B.exec
  have hb := B.bytes
  have hr := B.returns
  have hts := atoms_spec (ws := wsX0_keepValue) B.pre
  have hown : s.vm.findClass RX0 = some m.cls := findClass_of_methodNamed B.named
  have hlocks := B.notSynchronized
  have in_X0 : ∀ w ∈ wsX00, w ∈ wsX0_keepValue := by decide +kernel
  have lk_19 := hts (.fieldLink RX0 19 "LockQuorum$Clients" "keptValue" "[I") (by decide +kernel)
  have lk_28 := hts (.fieldLink RX0 28 "LockQuorum$Clients" "keeps" "[Z") (by decide +kernel)
  have lk_31 := hts (.fieldLink RX0 31 "LockQuorum$Clients" "keptClock" "[I") (by decide +kernel)
  have lk_34 := hts (.fieldLink RX0 34 "LockQuorum$Clients" "keptUntil" "[I") (by decide +kernel)
  have hS : va_S (AB base) s.heap s.heap [] := va_S.rf
  have hl := lv_entry ([.ref (ad 24), .int a0, .int a1, .int a2, .int a3]) (n := 6) (Nat.le_of_ble_eq_true rfl)
  rw [lg_entry_eq]
  generalize (lg_sl ([.ref (ad 24), .int a0, .int a1, .int a2, .int a3]) ++ List.replicate (6 - (lg_sl ([.ref (ad 24), .int a0, .int a1, .int a2, .int a3])).length) Slot.unset).toArray = ls at hl ⊢
  have hl : lv_has ls 6 [(0, .ref (ad 24)), (1, .int a0), (2, .int a1), (3, .int a2), (4, .int a3)] := hl
  refine lv_iload_n hx hb dX0_keepValue_0 rfl (lv_at hl 1 rfl) ?_
  refine lv_iload_n hx hb dX0_keepValue_1 rfl (lv_at hl 2 rfl) ?_
  refine va_calli (va_runS (As := [.int a0, .int a1]) (rest := []) ⟨hx, hb, hml, hown, hts⟩ (mX0_slot l D ca ad base hAd w a0 a1 _ hw) (va_cwS 2 hts gX0_keepValue_X0_slot rfl rfl rfl (by decide +kernel) ⟨Nat.le_of_ble_eq_true rfl, Nat.le_of_ble_eq_true rfl⟩) (ps [.int a0, .int a1] hK hP hbs hS) rfl rfl hl.1 rfl (lv_room (Nat.le_of_ble_eq_true rfl)) dX0_keepValue_2 ⟨Nat.le_of_ble_eq_true rfl, Nat.le_of_ble_eq_true rfl⟩) hS (fun q _ h => h) (fun q h => h) (fun r_2 w_1 t H locs ht hvm hw hP hz1 hk1 hS => ?_)
  have hP : PA D ca ad w_1 H := by rw [← ht]; exact hP
  refine lv_istore (lv' := [(5, .int r_2), (0, .ref (ad 24)), (1, .int a0), (2, .int a1), (3, .int a2), (4, .int a3)]) hx hb dX0_keepValue_5 hl (by decide) rfl (fun ls hl => ?_)
  refine lv_aload_n hx hb dX0_keepValue_7 rfl (lv_at hl 1 rfl) ?_
  refine va_get (D := D) (ci := 2) (v := .ref (ad 30)) (C := RX0) (T := TX0) (N := 9) hx hb hts in_X0 hown hK hP 24 (wg24 ca ad w_1) rfl 6 (by decide) lk_28 (fun _ h9 => h9) rfl dX0_keepValue_8 ?_
  refine lv_iload hx hb dX0_keepValue_11 (lv_at hl 0 rfl) ?_
  refine lv_iconst (v := 1) hx hb dX0_keepValue_13 (by decide) ?_
  obtain ⟨h_3, hw⟩ := hw
  refine va_zast hx hb hK hP (DA hAd) hS 30 1 (wg30 ca ad w_1) rfl h_3 dX0_keepValue_14 (fun H locs hP hD hS => ?_)
  obtain ⟨w_4, e_5⟩ : ∃ z : St, z = (uA w_1 30 (upd (w_1.1 30) (r_2).toNatClampNeg (vp_nar .boolean 1))) := ⟨_, rfl⟩
  have hP : PA D ca ad w_4 H := by rw [e_5]; exact wu30 hP
  have hw := hw w_4 e_5
  refine lv_aload_n hx hb dX0_keepValue_15 rfl (lv_at hl 1 rfl) ?_
  refine va_get (D := D) (ci := 2) (v := .ref (ad 27)) (C := RX0) (T := TX0) (N := 9) hx hb hts in_X0 hown hK hP 24 (wg24 ca ad w_4) rfl 3 (by decide) lk_19 (fun _ h9 => h9) rfl dX0_keepValue_16 ?_
  refine lv_iload hx hb dX0_keepValue_19 (lv_at hl 0 rfl) ?_
  refine lv_iload_n hx hb dX0_keepValue_21 rfl (lv_at hl 4 rfl) ?_
  obtain ⟨h_6, hw⟩ := hw
  refine va_iast hx hb hK hP (DA hAd) hS 27 0 (wg27 ca ad w_4) rfl h_6 dX0_keepValue_22 (fun H locs hP hD hS => ?_)
  obtain ⟨w_7, e_8⟩ : ∃ z : St, z = (uA w_4 27 (upd (w_4.1 27) (r_2).toNatClampNeg a2)) := ⟨_, rfl⟩
  have hP : PA D ca ad w_7 H := by rw [e_8]; exact wu27 hP
  have hw := hw w_7 e_8
  refine lv_aload_n hx hb dX0_keepValue_23 rfl (lv_at hl 1 rfl) ?_
  refine va_get (D := D) (ci := 2) (v := .ref (ad 31)) (C := RX0) (T := TX0) (N := 9) hx hb hts in_X0 hown hK hP 24 (wg24 ca ad w_7) rfl 7 (by decide) lk_31 (fun _ h9 => h9) rfl dX0_keepValue_24 ?_
  refine lv_iload hx hb dX0_keepValue_27 (lv_at hl 0 rfl) ?_
  refine lv_aload_n hx hb dX0_keepValue_29 rfl (lv_at hl 1 rfl) ?_
  refine lv_iload_n hx hb dX0_keepValue_30 rfl (lv_at hl 2 rfl) ?_
  refine lv_iload hx hb dX0_keepValue_31 (lv_at hl 5 rfl) ?_
  refine va_calli (va_runV (As := [.int a0, .int a3]) (rest := [.int r_2, .ref (ad 31)]) ⟨hx, hb, hml, hown, hts⟩ (mX0_clockAt l D ca ad base hAd w_7 a0 a3 _ hw) (cwV 2 hts gX0_keepValue_X0_clockAt rfl rfl rfl (by decide +kernel) ⟨Nat.le_of_ble_eq_true rfl, Nat.le_of_ble_eq_true rfl⟩) (pv [.int a0, .int a3] hK hP hbs hS rfl (wg24 ca ad w_7)) rfl rfl hl.1 rfl (lv_room (Nat.le_of_ble_eq_true rfl)) dX0_keepValue_33 ⟨Nat.le_of_ble_eq_true rfl, Nat.le_of_ble_eq_true rfl⟩) hS (fun q _ h => h) (fun q h => h) (fun r_10 w_9 t H locs ht hvm hw hP hz1 hk1 hS => ?_)
  have hP : PA D ca ad w_9 H := by rw [← ht]; exact hP
  obtain ⟨h_11, hw⟩ := hw
  refine va_iast hx hb hK hP (DA hAd) hS 31 0 (wg31 ca ad w_9) rfl h_11 dX0_keepValue_36 (fun H locs hP hD hS => ?_)
  obtain ⟨w_12, e_13⟩ : ∃ z : St, z = (uA w_9 31 (upd (w_9.1 31) (r_2).toNatClampNeg r_10)) := ⟨_, rfl⟩
  have hP : PA D ca ad w_12 H := by rw [e_13]; exact wu31 hP
  have hw := hw w_12 e_13
  refine lv_aload_n hx hb dX0_keepValue_37 rfl (lv_at hl 1 rfl) ?_
  refine va_get (D := D) (ci := 2) (v := .ref (ad 32)) (C := RX0) (T := TX0) (N := 9) hx hb hts in_X0 hown hK hP 24 (wg24 ca ad w_12) rfl 8 (by decide) lk_34 (fun _ h9 => h9) rfl dX0_keepValue_38 ?_
  refine lv_iload hx hb dX0_keepValue_41 (lv_at hl 0 rfl) ?_
  refine lv_iload hx hb dX0_keepValue_43 (lv_at hl 5 rfl) ?_
  refine lv_bipush (v := 10) hx hb dX0_keepValue_45 (by decide) ?_
  refine lv_iadd hx hb dX0_keepValue_47 ?_
  obtain ⟨h_14, hw⟩ := hw
  refine va_iast hx hb hK hP (DA hAd) hS 32 0 (wg32 ca ad w_12) rfl h_14 dX0_keepValue_48 (fun H locs hP hD hS => ?_)
  obtain ⟨w_15, e_16⟩ : ∃ z : St, z = (uA w_12 32 (upd (w_12.1 32) (r_2).toNatClampNeg (a3 + 10))) := ⟨_, rfl⟩
  have hP : PA D ca ad w_15 H := by rw [e_16]; exact wu32 hP
  have hw := hw w_15 e_16
  exact W.vret hx hb hr (fun t ht hW => ⟨⟨w_15, rfl, hw, by show PA D ca ad w_15 t.heap; rw [ht]; exact hP⟩, hS.F ht⟩) hS.2.2 dX0_keepValue_49
set_option maxHeartbeats 4000000 in
set_option maxRecDepth 100000 in
def wpX0_hasValue (a0 : Int32) (a1 : Int32) (a2 : Int32) (w : St) (post : Int32 → St → Prop) : Prop := wpX0_slot a0 a1 w (fun r_2 w_1 => (vp_in a0 6) ∧ (((w_1.1 25 (a0).toNatClampNeg) = 0 → ((vp_in r_2 24) ∧ (((w_1.1 30 (r_2).toNatClampNeg) = 0 → (post 0 w_1)) ∧ (¬ ((w_1.1 30 (r_2).toNatClampNeg) = 0) → (wpX0_clockAt a0 a2 w_1 (fun r_8 w_7 => (vp_in r_2 24) ∧ ((6 ≤ (r_8 - (w_7.1 31 (r_2).toNatClampNeg)) → (post 0 w_7)) ∧ (¬ (6 ≤ (r_8 - (w_7.1 31 (r_2).toNatClampNeg))) → (post 1 w_7))))))))) ∧ (¬ ((w_1.1 25 (a0).toNatClampNeg) = 0) → (post 0 w_1))))
set_option maxHeartbeats 4000000 in
set_option maxRecDepth 100000 in
theorem mX0_hasValue (l : Launch) (D : va_G) (ca : Nat → ClassId) (ad : Nat → Nat) (base : Nat) (hAd : okA base ad) (w : St) (a0 : Int32) (a1 : Int32) (a2 : Int32) (post : Int32 → St → Prop) (hw : wpX0_hasValue a0 a1 a2 w post) : Met l yX0_hasValue wsX0_hasValue ({ frames := 1, cells := 0, slots := 0, locals := 22 } : Room) (va_Pc [.ref (ad 24), .int a0, .int a1, .int a2] (BU D ca ad base w)) (va_Qi post (Bp D ca ad) (AB base)) 0 0 (AB base) := by
  refine Met.ofW (cc := cX0_hasValue) (maxL := 5) (ret := (some .boolean)) (by decide) rfl ?_
  intro p e s m args below meth c s₁ B hml hv
  obtain ⟨rfl, hbs, hP, hK⟩ := hv
  have hx := B.exec
  have hb := B.bytes
  have hr := B.returns
  have hts := atoms_spec (ws := wsX0_hasValue) B.pre
  have hown : s.vm.findClass RX0 = some m.cls := findClass_of_methodNamed B.named
  have hlocks := B.notSynchronized
  have in_X0 : ∀ w ∈ wsX00, w ∈ wsX0_hasValue := by decide +kernel
  have lk_9 := hts (.fieldLink RX0 9 "LockQuorum$Clients" "paused" "[Z") (by decide +kernel)
  have lk_28 := hts (.fieldLink RX0 28 "LockQuorum$Clients" "keeps" "[Z") (by decide +kernel)
  have lk_31 := hts (.fieldLink RX0 31 "LockQuorum$Clients" "keptClock" "[I") (by decide +kernel)
  have hS : va_S (AB base) s.heap s.heap [] := va_S.rf
  have hl := lv_entry ([.ref (ad 24), .int a0, .int a1, .int a2]) (n := 5) (Nat.le_of_ble_eq_true rfl)
  rw [lg_entry_eq]
  generalize (lg_sl ([.ref (ad 24), .int a0, .int a1, .int a2]) ++ List.replicate (5 - (lg_sl ([.ref (ad 24), .int a0, .int a1, .int a2])).length) Slot.unset).toArray = ls at hl ⊢
  have hl : lv_has ls 5 [(0, .ref (ad 24)), (1, .int a0), (2, .int a1), (3, .int a2)] := hl
  refine lv_iload_n hx hb dX0_hasValue_0 rfl (lv_at hl 1 rfl) ?_
  refine lv_iload_n hx hb dX0_hasValue_1 rfl (lv_at hl 2 rfl) ?_
  refine va_calli (va_runS (As := [.int a0, .int a1]) (rest := []) ⟨hx, hb, hml, hown, hts⟩ (mX0_slot l D ca ad base hAd w a0 a1 _ hw) (va_cwS 2 hts gX0_hasValue_X0_slot rfl rfl rfl (by decide +kernel) ⟨Nat.le_of_ble_eq_true rfl, Nat.le_of_ble_eq_true rfl⟩) (ps [.int a0, .int a1] hK hP hbs hS) rfl rfl hl.1 rfl (lv_room (Nat.le_of_ble_eq_true rfl)) dX0_hasValue_2 ⟨Nat.le_of_ble_eq_true rfl, Nat.le_of_ble_eq_true rfl⟩) hS (fun q _ h => h) (fun q h => h) (fun r_2 w_1 t H locs ht hvm hw hP hz1 hk1 hS => ?_)
  have hP : PA D ca ad w_1 H := by rw [← ht]; exact hP
  refine lv_istore (lv' := [(4, .int r_2), (0, .ref (ad 24)), (1, .int a0), (2, .int a1), (3, .int a2)]) hx hb dX0_hasValue_5 hl (by decide) rfl (fun ls hl => ?_)
  refine lv_aload_n hx hb dX0_hasValue_7 rfl (lv_at hl 1 rfl) ?_
  refine va_get (D := D) (ci := 2) (v := .ref (ad 25)) (C := RX0) (T := TX0) (N := 9) hx hb hts in_X0 hown hK hP 24 (wg24 ca ad w_1) rfl 1 (by decide) lk_9 (fun _ h9 => h9) rfl dX0_hasValue_8 ?_
  refine lv_iload_n hx hb dX0_hasValue_11 rfl (lv_at hl 2 rfl) ?_
  obtain ⟨h_3, hw⟩ := hw
  refine va_zald hx hb hK hP 25 1 (wg25 ca ad w_1) rfl h_3 dX0_hasValue_12 ?_
  refine lv_if_ne (tgt := 49) hx hb dX0_hasValue_13 (by decide) (fun c_4 => ?_) (fun c_4 => ?_)
  · have hw := hw.2 c_4
    refine lv_iconst (v := 0) hx hb dX0_hasValue_49 (by decide) ?_
    exact W.zret (v := 0) hx hb hr (by decide) (fun t ht hW => ⟨⟨0, w_1, rfl, hw, by show PA D ca ad w_1 t.heap; rw [ht]; exact hP⟩, hS.F ht⟩) hS.2.2 dX0_hasValue_50
  · have hw := hw.1 c_4
    refine lv_aload_n hx hb dX0_hasValue_16 rfl (lv_at hl 1 rfl) ?_
    refine va_get (D := D) (ci := 2) (v := .ref (ad 30)) (C := RX0) (T := TX0) (N := 9) hx hb hts in_X0 hown hK hP 24 (wg24 ca ad w_1) rfl 6 (by decide) lk_28 (fun _ h9 => h9) rfl dX0_hasValue_17 ?_
    refine lv_iload hx hb dX0_hasValue_20 (lv_at hl 0 rfl) ?_
    obtain ⟨h_5, hw⟩ := hw
    refine va_zald hx hb hK hP 30 1 (wg30 ca ad w_1) rfl h_5 dX0_hasValue_22 ?_
    refine lv_if_eq (tgt := 49) hx hb dX0_hasValue_23 (by decide) (fun c_6 => ?_) (fun c_6 => ?_)
    · have hw := hw.1 c_6
      refine lv_iconst (v := 0) hx hb dX0_hasValue_49 (by decide) ?_
      exact W.zret (v := 0) hx hb hr (by decide) (fun t ht hW => ⟨⟨0, w_1, rfl, hw, by show PA D ca ad w_1 t.heap; rw [ht]; exact hP⟩, hS.F ht⟩) hS.2.2 dX0_hasValue_50
    · have hw := hw.2 c_6
      refine lv_aload_n hx hb dX0_hasValue_26 rfl (lv_at hl 1 rfl) ?_
      refine lv_iload_n hx hb dX0_hasValue_27 rfl (lv_at hl 2 rfl) ?_
      refine lv_iload_n hx hb dX0_hasValue_28 rfl (lv_at hl 4 rfl) ?_
      refine va_calli (va_runV (As := [.int a0, .int a2]) (rest := []) ⟨hx, hb, hml, hown, hts⟩ (mX0_clockAt l D ca ad base hAd w_1 a0 a2 _ hw) (cwV 2 hts gX0_hasValue_X0_clockAt rfl rfl rfl (by decide +kernel) ⟨Nat.le_of_ble_eq_true rfl, Nat.le_of_ble_eq_true rfl⟩) (pv [.int a0, .int a2] hK hP hbs hS rfl (wg24 ca ad w_1)) rfl rfl hl.1 rfl (lv_room (Nat.le_of_ble_eq_true rfl)) dX0_hasValue_29 ⟨Nat.le_of_ble_eq_true rfl, Nat.le_of_ble_eq_true rfl⟩) hS (fun q _ h => h) (fun q h => h) (fun r_8 w_7 t H locs ht hvm hw hP hz1 hk1 hS => ?_)
      have hP : PA D ca ad w_7 H := by rw [← ht]; exact hP
      refine lv_aload_n hx hb dX0_hasValue_32 rfl (lv_at hl 1 rfl) ?_
      refine va_get (D := D) (ci := 2) (v := .ref (ad 31)) (C := RX0) (T := TX0) (N := 9) hx hb hts in_X0 hown hK hP 24 (wg24 ca ad w_7) rfl 7 (by decide) lk_31 (fun _ h9 => h9) rfl dX0_hasValue_33 ?_
      refine lv_iload hx hb dX0_hasValue_36 (lv_at hl 0 rfl) ?_
      obtain ⟨h_9, hw⟩ := hw
      refine va_iald hx hb hK hP 31 0 (wg31 ca ad w_7) rfl h_9 dX0_hasValue_38 ?_
      refine lv_isub hx hb dX0_hasValue_39 ?_
      refine lv_bipush (v := 6) hx hb dX0_hasValue_40 (by decide) ?_
      refine lv_icmp_ge (tgt := 49) hx hb dX0_hasValue_42 (by decide) (fun c_10 => ?_) (fun c_10 => ?_)
      · have hw := hw.1 c_10
        refine lv_iconst (v := 0) hx hb dX0_hasValue_49 (by decide) ?_
        exact W.zret (v := 0) hx hb hr (by decide) (fun t ht hW => ⟨⟨0, w_7, rfl, hw, by show PA D ca ad w_7 t.heap; rw [ht]; exact hP⟩, hS.F ht⟩) hS.2.2 dX0_hasValue_50
      · have hw := hw.2 c_10
        refine lv_iconst (v := 1) hx hb dX0_hasValue_45 (by decide) ?_
        refine lv_goto (tgt := 50) hx hb dX0_hasValue_46 (by decide) ?_
        exact W.zret (v := 1) hx hb hr (by decide) (fun t ht hW => ⟨⟨1, w_7, rfl, hw, by show PA D ca ad w_7 t.heap; rw [ht]; exact hP⟩, hS.F ht⟩) hS.2.2 dX0_hasValue_50
set_option maxHeartbeats 4000000 in
set_option maxRecDepth 100000 in
def wpX0_isKeptByPaused_B35 (a0 : Int32) (a1 : Int32) (post : Int32 → St → Prop) (K2 : Int32 → St → Prop) (v3 : Int32) (w : St) : Prop := K2 (v3 + 1) w
set_option maxHeartbeats 4000000 in
set_option maxRecDepth 100000 in
def wpX0_isKeptByPaused_L2 (a0 : Int32) (a1 : Int32) (post : Int32 → St → Prop) : Nat → Int32 → St → Prop
  | 0, _, _ => False
  | n + 1, v3, w => ((w.1 66 0) ≤ v3 → (post 0 w)) ∧ (¬ ((w.1 66 0) ≤ v3) → ((vp_in v3 6) ∧ (((w.1 25 (v3).toNatClampNeg) = 0 → (wpX0_isKeptByPaused_B35 a0 a1 post (fun v3 w => wpX0_isKeptByPaused_L2 a0 a1 post n v3 w) v3 w)) ∧ (¬ ((w.1 25 (v3).toNatClampNeg) = 0) → (wpX0_slot v3 a0 w (fun r_5 w_4 => (vp_in r_5 24) ∧ (((w_4.1 32 (r_5).toNatClampNeg) ≤ a1 → (wpX0_isKeptByPaused_B35 a0 a1 post (fun v3 w => wpX0_isKeptByPaused_L2 a0 a1 post n v3 w) v3 w_4)) ∧ (¬ ((w_4.1 32 (r_5).toNatClampNeg) ≤ a1) → (post 1 w_4)))))))))
set_option maxHeartbeats 4000000 in
set_option maxRecDepth 100000 in
def wpX0_isKeptByPaused (a0 : Int32) (a1 : Int32) (w : St) (post : Int32 → St → Prop) : Prop := ∃ n : Nat, wpX0_isKeptByPaused_L2 a0 a1 post n 0 w
set_option maxHeartbeats 4000000 in
set_option maxRecDepth 100000 in
theorem mX0_isKeptByPaused (l : Launch) (D : va_G) (ca : Nat → ClassId) (ad : Nat → Nat) (base : Nat) (hAd : okA base ad) (w : St) (a0 : Int32) (a1 : Int32) (post : Int32 → St → Prop) (hw : wpX0_isKeptByPaused a0 a1 w post) : Met l yX0_isKeptByPaused wsX0_isKeptByPaused ({ frames := 1, cells := 0, slots := 0, locals := 21 } : Room) (va_Pc [.ref (ad 24), .int a0, .int a1] (BU D ca ad base w)) (va_Qi post (Bp D ca ad) (AB base)) 0 0 (AB base) := by
  refine Met.ofW (cc := cX0_isKeptByPaused) (maxL := 4) (ret := (some .boolean)) (by decide) rfl ?_
  intro p e s m args below meth c s₁ B hml hv
  obtain ⟨rfl, hbs, hP, hK⟩ := hv
  have hx := B.exec
  have hb := B.bytes
  have hr := B.returns
  have hts := atoms_spec (ws := wsX0_isKeptByPaused) B.pre
  have hown : s.vm.findClass RX0 = some m.cls := findClass_of_methodNamed B.named
  have hlocks := B.notSynchronized
  have in_X0 : ∀ w ∈ wsX00, w ∈ wsX0_isKeptByPaused := by decide +kernel
  have lk_9 := hts (.fieldLink RX0 9 "LockQuorum$Clients" "paused" "[Z") (by decide +kernel)
  have lk_34 := hts (.fieldLink RX0 34 "LockQuorum$Clients" "keptUntil" "[I") (by decide +kernel)
  have lk_44 := hts (.fieldLink RX0 44 "LockQuorum$Clients" "count" "I") (by decide +kernel)
  have hS : va_S (AB base) s.heap s.heap [] := va_S.rf
  have hB2 : ∀ (n : Nat) (v3 : Int32) (w : St), wpX0_isKeptByPaused_L2 a0 a1 post n v3 w → ∀ (H : Heap) (locs : List Loc), PA D ca ad w H → va_S (AB base) s.heap H locs → ∀ ls : Array Slot, lv_has ls 4 [(0, .ref (ad 24)), (1, .int a0), (2, .int a1), (3, .int v3)] → W p l e (headSpec wsX0_isKeptByPaused ({ frames := 1, cells := 0, slots := 0, locals := 21 } : Room)).room s m ([Value.ref (ad 24), Value.int a0, Value.int a1].toArray) below meth c H locs 0 0 (MQ below (va_Qi post (Bp D ca ad) (AB base)) ([Value.ref (ad 24), Value.int a0, Value.int a1].toArray) s 0 0 (AB base)) (F0 m 2 ls []) := by
    intro n
    induction n with
    | zero => intro v3 w hw; exact hw.elim
    | succ n ih2 =>
      have hB35 : ∀ (v3 : Int32) (w : St), wpX0_isKeptByPaused_B35 a0 a1 post (fun v3 w => wpX0_isKeptByPaused_L2 a0 a1 post n v3 w) v3 w → ∀ (H : Heap) (locs : List Loc), PA D ca ad w H → va_S (AB base) s.heap H locs → ∀ ls : Array Slot, lv_has ls 4 [(0, .ref (ad 24)), (1, .int a0), (2, .int a1), (3, .int v3)] → W p l e (headSpec wsX0_isKeptByPaused ({ frames := 1, cells := 0, slots := 0, locals := 21 } : Room)).room s m ([Value.ref (ad 24), Value.int a0, Value.int a1].toArray) below meth c H locs 0 0 (MQ below (va_Qi post (Bp D ca ad) (AB base)) ([Value.ref (ad 24), Value.int a0, Value.int a1].toArray) s 0 0 (AB base)) (F0 m 35 ls []) := by
        intro v3 w hw H locs hP hS ls hl
        refine lv_iinc (v := (v3 + 1)) (lv' := [(3, .int (v3 + 1)), (0, .ref (ad 24)), (1, .int a0), (2, .int a1)]) hx hb dX0_isKeptByPaused_35 hl (k := 3) rfl rfl (by decide) rfl (fun ls hl => ?_)
        refine lv_goto (tgt := 2) hx hb dX0_isKeptByPaused_38 (by decide) ?_
        exact ih2 (v3 + 1) w hw _ _ hP hS ls (lv_sub hl [1, 2, 3, 0] rfl)
      intro v3 w hw H locs hP hS ls hl
      refine lv_iload_n hx hb dX0_isKeptByPaused_2 rfl (lv_at hl 3 rfl) ?_
      refine lv_aload_n hx hb dX0_isKeptByPaused_3 rfl (lv_at hl 0 rfl) ?_
      refine va_get (D := D) (ci := 2) (v := .int (w.1 66 0)) (C := RX0) (T := TX0) (N := 9) hx hb hts in_X0 hown hK hP 24 (wg24 ca ad w) rfl 0 (by decide) lk_44 (fun _ h9 => h9) rfl dX0_isKeptByPaused_4 ?_
      refine lv_icmp_ge (tgt := 41) hx hb dX0_isKeptByPaused_7 (by decide) (fun c_1 => ?_) (fun c_1 => ?_)
      · have hw := hw.1 c_1
        refine lv_iconst (v := 0) hx hb dX0_isKeptByPaused_41 (by decide) ?_
        exact W.zret (v := 0) hx hb hr (by decide) (fun t ht hW => ⟨⟨0, w, rfl, hw, by show PA D ca ad w t.heap; rw [ht]; exact hP⟩, hS.F ht⟩) hS.2.2 dX0_isKeptByPaused_42
      · have hw := hw.2 c_1
        refine lv_aload_n hx hb dX0_isKeptByPaused_10 rfl (lv_at hl 0 rfl) ?_
        refine va_get (D := D) (ci := 2) (v := .ref (ad 25)) (C := RX0) (T := TX0) (N := 9) hx hb hts in_X0 hown hK hP 24 (wg24 ca ad w) rfl 1 (by decide) lk_9 (fun _ h9 => h9) rfl dX0_isKeptByPaused_11 ?_
        refine lv_iload_n hx hb dX0_isKeptByPaused_14 rfl (lv_at hl 3 rfl) ?_
        obtain ⟨h_2, hw⟩ := hw
        refine va_zald hx hb hK hP 25 1 (wg25 ca ad w) rfl h_2 dX0_isKeptByPaused_15 ?_
        refine lv_if_eq (tgt := 35) hx hb dX0_isKeptByPaused_16 (by decide) (fun c_3 => ?_) (fun c_3 => ?_)
        · have hw := hw.1 c_3
          exact hB35 v3 w hw _ _ hP hS ls (lv_sub hl [0, 1, 2, 3] rfl)
        · have hw := hw.2 c_3
          refine lv_aload_n hx hb dX0_isKeptByPaused_19 rfl (lv_at hl 0 rfl) ?_
          refine va_get (D := D) (ci := 2) (v := .ref (ad 32)) (C := RX0) (T := TX0) (N := 9) hx hb hts in_X0 hown hK hP 24 (wg24 ca ad w) rfl 8 (by decide) lk_34 (fun _ h9 => h9) rfl dX0_isKeptByPaused_20 ?_
          refine lv_iload_n hx hb dX0_isKeptByPaused_23 rfl (lv_at hl 3 rfl) ?_
          refine lv_iload_n hx hb dX0_isKeptByPaused_24 rfl (lv_at hl 1 rfl) ?_
          refine va_calli (va_runS (As := [.int v3, .int a0]) (rest := [.ref (ad 32)]) ⟨hx, hb, hml, hown, hts⟩ (mX0_slot l D ca ad base hAd w v3 a0 _ hw) (va_cwS 2 hts gX0_isKeptByPaused_X0_slot rfl rfl rfl (by decide +kernel) ⟨Nat.le_of_ble_eq_true rfl, Nat.le_of_ble_eq_true rfl⟩) (ps [.int v3, .int a0] hK hP hbs hS) rfl rfl hl.1 rfl (lv_room (Nat.le_of_ble_eq_true rfl)) dX0_isKeptByPaused_25 ⟨Nat.le_of_ble_eq_true rfl, Nat.le_of_ble_eq_true rfl⟩) hS (fun q _ h => h) (fun q h => h) (fun r_5 w_4 t H locs ht hvm hw hP hz1 hk1 hS => ?_)
          have hP : PA D ca ad w_4 H := by rw [← ht]; exact hP
          obtain ⟨h_6, hw⟩ := hw
          refine va_iald hx hb hK hP 32 0 (wg32 ca ad w_4) rfl h_6 dX0_isKeptByPaused_28 ?_
          refine lv_iload_n hx hb dX0_isKeptByPaused_29 rfl (lv_at hl 2 rfl) ?_
          refine lv_icmp_le (tgt := 35) hx hb dX0_isKeptByPaused_30 (by decide) (fun c_7 => ?_) (fun c_7 => ?_)
          · have hw := hw.1 c_7
            exact hB35 v3 w_4 hw _ _ hP hS ls (lv_sub hl [0, 1, 2, 3] rfl)
          · have hw := hw.2 c_7
            refine lv_iconst (v := 1) hx hb dX0_isKeptByPaused_33 (by decide) ?_
            exact W.zret (v := 1) hx hb hr (by decide) (fun t ht hW => ⟨⟨1, w_4, rfl, hw, by show PA D ca ad w_4 t.heap; rw [ht]; exact hP⟩, hS.F ht⟩) hS.2.2 dX0_isKeptByPaused_34
  have hl := lv_entry ([.ref (ad 24), .int a0, .int a1]) (n := 4) (Nat.le_of_ble_eq_true rfl)
  rw [lg_entry_eq]
  generalize (lg_sl ([.ref (ad 24), .int a0, .int a1]) ++ List.replicate (4 - (lg_sl ([.ref (ad 24), .int a0, .int a1])).length) Slot.unset).toArray = ls at hl ⊢
  have hl : lv_has ls 4 [(0, .ref (ad 24)), (1, .int a0), (2, .int a1)] := hl
  refine lv_iconst (v := 0) hx hb dX0_isKeptByPaused_0 (by decide) ?_
  refine lv_istore_n (lv' := [(3, .int 0), (0, .ref (ad 24)), (1, .int a0), (2, .int a1)]) hx hb dX0_isKeptByPaused_1 rfl hl (by decide) rfl (fun ls hl => ?_)
  obtain ⟨n_2, hw⟩ := hw
  exact hB2 n_2 0 w hw _ _ hP hS ls (lv_sub hl [1, 2, 3, 0] rfl)
set_option maxHeartbeats 4000000 in
set_option maxRecDepth 100000 in
def wpX0_dropValues_L2 (a0 : Int32) (post : St → Prop) : Nat → Int32 → St → Prop
  | 0, _, _ => False
  | n + 1, v2, w => ((w.1 66 0) ≤ v2 → (post w)) ∧ (¬ ((w.1 66 0) ≤ v2) → (wpX0_slot v2 a0 w (fun r_3 w_2 => (vp_in r_3 24) ∧ (∀ w_5 : St, w_5 = (uA w_2 30 (upd (w_2.1 30) (r_3).toNatClampNeg (vp_nar .boolean 0))) → wpX0_slot v2 a0 w_5 (fun r_8 w_7 => (vp_in r_8 24) ∧ (∀ w_10 : St, w_10 = (uA w_7 32 (upd (w_7.1 32) (r_8).toNatClampNeg 0)) → wpX0_dropValues_L2 a0 post n (v2 + 1) w_10))))))
set_option maxHeartbeats 4000000 in
set_option maxRecDepth 100000 in
def wpX0_dropValues (a0 : Int32) (w : St) (post : St → Prop) : Prop := ∃ n : Nat, wpX0_dropValues_L2 a0 post n 0 w
set_option maxHeartbeats 4000000 in
set_option maxRecDepth 100000 in
theorem mX0_dropValues (l : Launch) (D : va_G) (ca : Nat → ClassId) (ad : Nat → Nat) (base : Nat) (hAd : okA base ad) (w : St) (a0 : Int32) (post : St → Prop) (hw : wpX0_dropValues a0 w post) : Met l yX0_dropValues wsX0_dropValues ({ frames := 1, cells := 0, slots := 0, locals := 21 } : Room) (va_Pc [.ref (ad 24), .int a0] (BU D ca ad base w)) (va_Qv post (Bp D ca ad) (AB base)) 0 0 (AB base) := by
  refine Met.ofW (cc := cX0_dropValues) (maxL := 3) (ret := none) (by decide) rfl ?_
  intro p e s m args below meth c s₁ B hml hv
  obtain ⟨rfl, hbs, hP, hK⟩ := hv
  have hx := B.exec
  have hb := B.bytes
  have hr := B.returns
  have hts := atoms_spec (ws := wsX0_dropValues) B.pre
  have hown : s.vm.findClass RX0 = some m.cls := findClass_of_methodNamed B.named
  have hlocks := B.notSynchronized
  have in_X0 : ∀ w ∈ wsX00, w ∈ wsX0_dropValues := by decide +kernel
  have lk_28 := hts (.fieldLink RX0 28 "LockQuorum$Clients" "keeps" "[Z") (by decide +kernel)
  have lk_34 := hts (.fieldLink RX0 34 "LockQuorum$Clients" "keptUntil" "[I") (by decide +kernel)
  have lk_44 := hts (.fieldLink RX0 44 "LockQuorum$Clients" "count" "I") (by decide +kernel)
  have hS : va_S (AB base) s.heap s.heap [] := va_S.rf
  have hB2 : ∀ (n : Nat) (v2 : Int32) (w : St), wpX0_dropValues_L2 a0 post n v2 w → ∀ (H : Heap) (locs : List Loc), PA D ca ad w H → va_S (AB base) s.heap H locs → ∀ ls : Array Slot, lv_has ls 3 [(0, .ref (ad 24)), (1, .int a0), (2, .int v2)] → W p l e (headSpec wsX0_dropValues ({ frames := 1, cells := 0, slots := 0, locals := 21 } : Room)).room s m ([Value.ref (ad 24), Value.int a0].toArray) below meth c H locs 0 0 (MQ below (va_Qv post (Bp D ca ad) (AB base)) ([Value.ref (ad 24), Value.int a0].toArray) s 0 0 (AB base)) (F0 m 2 ls []) := by
    intro n
    induction n with
    | zero => intro v2 w hw; exact hw.elim
    | succ n ih2 =>
      intro v2 w hw H locs hP hS ls hl
      refine lv_iload_n hx hb dX0_dropValues_2 rfl (lv_at hl 2 rfl) ?_
      refine lv_aload_n hx hb dX0_dropValues_3 rfl (lv_at hl 0 rfl) ?_
      refine va_get (D := D) (ci := 2) (v := .int (w.1 66 0)) (C := RX0) (T := TX0) (N := 9) hx hb hts in_X0 hown hK hP 24 (wg24 ca ad w) rfl 0 (by decide) lk_44 (fun _ h9 => h9) rfl dX0_dropValues_4 ?_
      refine lv_icmp_ge (tgt := 38) hx hb dX0_dropValues_7 (by decide) (fun c_1 => ?_) (fun c_1 => ?_)
      · have hw := hw.1 c_1
        exact W.vret hx hb hr (fun t ht hW => ⟨⟨w, rfl, hw, by show PA D ca ad w t.heap; rw [ht]; exact hP⟩, hS.F ht⟩) hS.2.2 dX0_dropValues_38
      · have hw := hw.2 c_1
        refine lv_aload_n hx hb dX0_dropValues_10 rfl (lv_at hl 0 rfl) ?_
        refine va_get (D := D) (ci := 2) (v := .ref (ad 30)) (C := RX0) (T := TX0) (N := 9) hx hb hts in_X0 hown hK hP 24 (wg24 ca ad w) rfl 6 (by decide) lk_28 (fun _ h9 => h9) rfl dX0_dropValues_11 ?_
        refine lv_iload_n hx hb dX0_dropValues_14 rfl (lv_at hl 2 rfl) ?_
        refine lv_iload_n hx hb dX0_dropValues_15 rfl (lv_at hl 1 rfl) ?_
        refine va_calli (va_runS (As := [.int v2, .int a0]) (rest := [.ref (ad 30)]) ⟨hx, hb, hml, hown, hts⟩ (mX0_slot l D ca ad base hAd w v2 a0 _ hw) (va_cwS 2 hts gX0_dropValues_X0_slot rfl rfl rfl (by decide +kernel) ⟨Nat.le_of_ble_eq_true rfl, Nat.le_of_ble_eq_true rfl⟩) (ps [.int v2, .int a0] hK hP hbs hS) rfl rfl hl.1 rfl (lv_room (Nat.le_of_ble_eq_true rfl)) dX0_dropValues_16 ⟨Nat.le_of_ble_eq_true rfl, Nat.le_of_ble_eq_true rfl⟩) hS (fun q _ h => h) (fun q h => h) (fun r_3 w_2 t H locs ht hvm hw hP hz1 hk1 hS => ?_)
        have hP : PA D ca ad w_2 H := by rw [← ht]; exact hP
        refine lv_iconst (v := 0) hx hb dX0_dropValues_19 (by decide) ?_
        obtain ⟨h_4, hw⟩ := hw
        refine va_zast hx hb hK hP (DA hAd) hS 30 1 (wg30 ca ad w_2) rfl h_4 dX0_dropValues_20 (fun H locs hP hD hS => ?_)
        obtain ⟨w_5, e_6⟩ : ∃ z : St, z = (uA w_2 30 (upd (w_2.1 30) (r_3).toNatClampNeg (vp_nar .boolean 0))) := ⟨_, rfl⟩
        have hP : PA D ca ad w_5 H := by rw [e_6]; exact wu30 hP
        have hw := hw w_5 e_6
        refine lv_aload_n hx hb dX0_dropValues_21 rfl (lv_at hl 0 rfl) ?_
        refine va_get (D := D) (ci := 2) (v := .ref (ad 32)) (C := RX0) (T := TX0) (N := 9) hx hb hts in_X0 hown hK hP 24 (wg24 ca ad w_5) rfl 8 (by decide) lk_34 (fun _ h9 => h9) rfl dX0_dropValues_22 ?_
        refine lv_iload_n hx hb dX0_dropValues_25 rfl (lv_at hl 2 rfl) ?_
        refine lv_iload_n hx hb dX0_dropValues_26 rfl (lv_at hl 1 rfl) ?_
        refine va_calli (va_runS (As := [.int v2, .int a0]) (rest := [.ref (ad 32)]) ⟨hx, hb, hml, hown, hts⟩ (mX0_slot l D ca ad base hAd w_5 v2 a0 _ hw) (va_cwS 2 hts gX0_dropValues_X0_slot rfl rfl rfl (by decide +kernel) ⟨Nat.le_of_ble_eq_true rfl, Nat.le_of_ble_eq_true rfl⟩) (ps [.int v2, .int a0] hK hP hbs hS) rfl rfl hl.1 rfl (lv_room (Nat.le_of_ble_eq_true rfl)) dX0_dropValues_27 ⟨Nat.le_of_ble_eq_true rfl, Nat.le_of_ble_eq_true rfl⟩) hS (fun q _ h => h) (fun q h => h) (fun r_8 w_7 t H locs ht hvm hw hP hz1 hk1 hS => ?_)
        have hP : PA D ca ad w_7 H := by rw [← ht]; exact hP
        refine lv_iconst (v := 0) hx hb dX0_dropValues_30 (by decide) ?_
        obtain ⟨h_9, hw⟩ := hw
        refine va_iast hx hb hK hP (DA hAd) hS 32 0 (wg32 ca ad w_7) rfl h_9 dX0_dropValues_31 (fun H locs hP hD hS => ?_)
        obtain ⟨w_10, e_11⟩ : ∃ z : St, z = (uA w_7 32 (upd (w_7.1 32) (r_8).toNatClampNeg 0)) := ⟨_, rfl⟩
        have hP : PA D ca ad w_10 H := by rw [e_11]; exact wu32 hP
        have hw := hw w_10 e_11
        refine lv_iinc (v := (v2 + 1)) (lv' := [(2, .int (v2 + 1)), (0, .ref (ad 24)), (1, .int a0)]) hx hb dX0_dropValues_32 hl (k := 2) rfl rfl (by decide) rfl (fun ls hl => ?_)
        refine lv_goto (tgt := 2) hx hb dX0_dropValues_35 (by decide) ?_
        exact ih2 (v2 + 1) w_10 hw _ _ hP hS ls (lv_sub hl [1, 2, 0] rfl)
  have hl := lv_entry ([.ref (ad 24), .int a0]) (n := 3) (Nat.le_of_ble_eq_true rfl)
  rw [lg_entry_eq]
  generalize (lg_sl ([.ref (ad 24), .int a0]) ++ List.replicate (3 - (lg_sl ([.ref (ad 24), .int a0])).length) Slot.unset).toArray = ls at hl ⊢
  have hl : lv_has ls 3 [(0, .ref (ad 24)), (1, .int a0)] := hl
  refine lv_iconst (v := 0) hx hb dX0_dropValues_0 (by decide) ?_
  refine lv_istore_n (lv' := [(2, .int 0), (0, .ref (ad 24)), (1, .int a0)]) hx hb dX0_dropValues_1 rfl hl (by decide) rfl (fun ls hl => ?_)
  obtain ⟨n_2, hw⟩ := hw
  exact hB2 n_2 0 w hw _ _ hP hS ls (lv_sub hl [1, 2, 0] rfl)
