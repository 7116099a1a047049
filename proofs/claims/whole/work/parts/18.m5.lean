set_option maxHeartbeats 4000000 in
set_option maxRecDepth 100000 in
def wpX5_thrown (w : St) (post : Int32 → St → Prop) : Prop := post (w.1 67 0) w
set_option maxHeartbeats 4000000 in
set_option maxRecDepth 100000 in
theorem mX5_thrown (l : Launch) (D : va_G) (ca : Nat → ClassId) (ad : Nat → Nat) (base : Nat) (hAd : okA base ad) (w : St) (post : Int32 → St → Prop) (hw : wpX5_thrown w post) : Met l yX5_thrown wsX5_thrown ({ frames := 0, cells := 0, slots := 0, locals := 0 } : Room) (va_Pc [.ref (ad 33)] (BU D ca ad base w)) (va_Qi post (Bp D ca ad) (AB base)) 0 0 (AB base) := by
  refine Met.ofW (cc := cX5_thrown) (maxL := 1) (ret := (some .int)) (by decide) rfl ?_
  intro p e s m args below meth c s₁ B hml hv
  obtain ⟨rfl, hbs, hP, hK⟩ := hv
  have hx := B.exec
  have hb := B.bytes
  have hr := B.returns
  have hts := atoms_spec (ws := wsX5_thrown) B.pre
  have hown : s.vm.findClass RX5 = some m.cls := findClass_of_methodNamed B.named
  have hlocks := B.notSynchronized
  have in_X5 : ∀ w ∈ wsX50, w ∈ wsX5_thrown := by decide +kernel
  have lk_87 := hts (.fieldLink RX5 87 "LockQuorumModel" "thrown" "I") (by decide +kernel)
  have hS : va_S (AB base) s.heap s.heap [] := va_S.rf
  have hl := lv_entry ([.ref (ad 33)]) (n := 1) (Nat.le_of_ble_eq_true rfl)
  rw [lg_entry_eq]
  generalize (lg_sl ([.ref (ad 33)]) ++ List.replicate (1 - (lg_sl ([.ref (ad 33)])).length) Slot.unset).toArray = ls at hl ⊢
  have hl : lv_has ls 1 [(0, .ref (ad 33))] := hl
  refine lv_aload_n hx hb dX5_thrown_0 rfl (lv_at hl 0 rfl) ?_
  refine va_get (D := D) (ci := 7) (v := .int (w.1 67 0)) (C := RX5) (T := TX5) (N := 30) hx hb hts in_X5 hown hK hP 33 (wg33 ca ad w) rfl 25 (by decide) lk_87 (fun _ h9 => h9) rfl dX5_thrown_1 ?_
  exact W.iret (v := (w.1 67 0)) hx hb hr (fun t ht hW => ⟨⟨(w.1 67 0), w, rfl, hw, by show PA D ca ad w t.heap; rw [ht]; exact hP⟩, hS.F ht⟩) hS.2.2 dX5_thrown_4
set_option maxHeartbeats 4000000 in
set_option maxRecDepth 100000 in
def wpX5_in (a0 : Int32) (a1 : Int32) (a2 : Int32) (w : St) (post : Int32 → St → Prop) : Prop := (a0 < a1 → (post 0 w)) ∧ (¬ (a0 < a1) → ((a2 < a0 → (post 0 w)) ∧ (¬ (a2 < a0) → (post 1 w))))
set_option maxHeartbeats 4000000 in
set_option maxRecDepth 100000 in
theorem mX5_in (l : Launch) (D : va_G) (ca : Nat → ClassId) (ad : Nat → Nat) (base : Nat) (hAd : okA base ad) (w : St) (a0 : Int32) (a1 : Int32) (a2 : Int32) (post : Int32 → St → Prop) (hw : wpX5_in a0 a1 a2 w post) : Met l yX5_in wsX5_in ({ frames := 0, cells := 0, slots := 0, locals := 0 } : Room) (va_Pc [.int a0, .int a1, .int a2] (BU D ca ad base w)) (va_Qi post (Bp D ca ad) (AB base)) 0 0 (AB base) := by
  refine Met.ofW (cc := cX5_in) (maxL := 3) (ret := (some .boolean)) (by decide) rfl ?_
  intro p e s m args below meth c s₁ B hml hv
  obtain ⟨rfl, hbs, hP, hK⟩ := hv
  have hx := B.exec
  have hb := B.bytes
  have hr := B.returns
  have hts := atoms_spec (ws := wsX5_in) B.pre
  have hown : s.vm.findClass RX5 = some m.cls := findClass_of_methodNamed B.named
  have hlocks := B.notSynchronized
  have hS : va_S (AB base) s.heap s.heap [] := va_S.rf
  have hl := lv_entry ([.int a0, .int a1, .int a2]) (n := 3) (Nat.le_of_ble_eq_true rfl)
  rw [lg_entry_eq]
  generalize (lg_sl ([.int a0, .int a1, .int a2]) ++ List.replicate (3 - (lg_sl ([.int a0, .int a1, .int a2])).length) Slot.unset).toArray = ls at hl ⊢
  have hl : lv_has ls 3 [(0, .int a0), (1, .int a1), (2, .int a2)] := hl
  refine lv_iload_n hx hb dX5_in_0 rfl (lv_at hl 0 rfl) ?_
  refine lv_iload_n hx hb dX5_in_1 rfl (lv_at hl 1 rfl) ?_
  refine lv_icmp_lt (tgt := 14) hx hb dX5_in_2 (by decide) (fun c_1 => ?_) (fun c_1 => ?_)
  · have hw := hw.1 c_1
    refine lv_iconst (v := 0) hx hb dX5_in_14 (by decide) ?_
    exact W.zret (v := 0) hx hb hr (by decide) (fun t ht hW => ⟨⟨0, w, rfl, hw, by show PA D ca ad w t.heap; rw [ht]; exact hP⟩, hS.F ht⟩) hS.2.2 dX5_in_15
  · have hw := hw.2 c_1
    refine lv_iload_n hx hb dX5_in_5 rfl (lv_at hl 0 rfl) ?_
    refine lv_iload_n hx hb dX5_in_6 rfl (lv_at hl 2 rfl) ?_
    refine lv_icmp_gt (tgt := 14) hx hb dX5_in_7 (by decide) (fun c_2 => ?_) (fun c_2 => ?_)
    · have hw := hw.1 c_2
      refine lv_iconst (v := 0) hx hb dX5_in_14 (by decide) ?_
      exact W.zret (v := 0) hx hb hr (by decide) (fun t ht hW => ⟨⟨0, w, rfl, hw, by show PA D ca ad w t.heap; rw [ht]; exact hP⟩, hS.F ht⟩) hS.2.2 dX5_in_15
    · have hw := hw.2 c_2
      refine lv_iconst (v := 1) hx hb dX5_in_10 (by decide) ?_
      refine lv_goto (tgt := 15) hx hb dX5_in_11 (by decide) ?_
      exact W.zret (v := 1) hx hb hr (by decide) (fun t ht hW => ⟨⟨1, w, rfl, hw, by show PA D ca ad w t.heap; rw [ht]; exact hP⟩, hS.F ht⟩) hS.2.2 dX5_in_15
set_option maxHeartbeats 4000000 in
set_option maxRecDepth 100000 in
def wpX5_plain (a0 : Int32) (w : St) (post : Int32 → St → Prop) : Prop := ∀ w_1 : St, w_1 = (uI w 67 0) → post a0 w_1
set_option maxHeartbeats 4000000 in
set_option maxRecDepth 100000 in
theorem mX5_plain (l : Launch) (D : va_G) (ca : Nat → ClassId) (ad : Nat → Nat) (base : Nat) (hAd : okA base ad) (w : St) (a0 : Int32) (post : Int32 → St → Prop) (hw : wpX5_plain a0 w post) : Met l yX5_plain wsX5_plain ({ frames := 0, cells := 0, slots := 0, locals := 0 } : Room) (va_Pc [.ref (ad 33), .int a0] (BU D ca ad base w)) (va_Qi post (Bp D ca ad) (AB base)) 0 0 (AB base) := by
  refine Met.ofW (cc := cX5_plain) (maxL := 2) (ret := (some .int)) (by decide) rfl ?_
  intro p e s m args below meth c s₁ B hml hv
  obtain ⟨rfl, hbs, hP, hK⟩ := hv
  have hx := B.exec
  have hb := B.bytes
  have hr := B.returns
  have hts := atoms_spec (ws := wsX5_plain) B.pre
  have hown : s.vm.findClass RX5 = some m.cls := findClass_of_methodNamed B.named
  have hlocks := B.notSynchronized
  have in_X5 : ∀ w ∈ wsX50, w ∈ wsX5_plain := by decide +kernel
  have lk_87 := hts (.fieldLink RX5 87 "LockQuorumModel" "thrown" "I") (by decide +kernel)
  have hS : va_S (AB base) s.heap s.heap [] := va_S.rf
  have hl := lv_entry ([.ref (ad 33), .int a0]) (n := 2) (Nat.le_of_ble_eq_true rfl)
  rw [lg_entry_eq]
  generalize (lg_sl ([.ref (ad 33), .int a0]) ++ List.replicate (2 - (lg_sl ([.ref (ad 33), .int a0])).length) Slot.unset).toArray = ls at hl ⊢
  have hl : lv_has ls 2 [(0, .ref (ad 33)), (1, .int a0)] := hl
  refine lv_aload_n hx hb dX5_plain_0 rfl (lv_at hl 0 rfl) ?_
  refine lv_iconst (v := 0) hx hb dX5_plain_1 (by decide) ?_
  refine va_put (D := D) (ci := 7) (v := .int 0) (ty := .int) (C := RX5) (T := TX5) (N := 30) hx hb hts in_X5 tyX5 tyX5_ok nmX5 hown hK hP (DA hAd) hS 33 (wg33 ca ad w) rfl 25 (by decide) lk_87 (fun _ h9 => h9) rfl (by decide +kernel) rfl rfl (Nat.le_of_ble_eq_true rfl) dX5_plain_2 (fun H locs hP hD hS => ?_)
  obtain ⟨w_1, e_2⟩ : ∃ z : St, z = (uI w 67 0) := ⟨_, rfl⟩
  have hP : PA D ca ad w_1 H := by rw [e_2]; exact wf67 hP
  have hw := hw w_1 e_2
  refine lv_iload_n hx hb dX5_plain_5 rfl (lv_at hl 1 rfl) ?_
  exact W.iret (v := a0) hx hb hr (fun t ht hW => ⟨⟨a0, w_1, rfl, hw, by show PA D ca ad w_1 t.heap; rw [ht]; exact hP⟩, hS.F ht⟩) hS.2.2 dX5_plain_6
set_option maxHeartbeats 4000000 in
set_option maxRecDepth 100000 in
def wpX5_checked_B10 (a0 : Int32) (post : Int32 → St → Prop) (s0 : Int32) (w : St) : Prop := ∀ w_1 : St, w_1 = (uI w 67 s0) → post (w_1.1 67 0) w_1
set_option maxHeartbeats 4000000 in
set_option maxRecDepth 100000 in
def wpX5_checked (a0 : Int32) (w : St) (post : Int32 → St → Prop) : Prop := (a0 = 0 → (wpX5_checked_B10 a0 post 1 w)) ∧ (¬ (a0 = 0) → (wpX5_checked_B10 a0 post 0 w))
set_option maxHeartbeats 4000000 in
set_option maxRecDepth 100000 in
theorem mX5_checked (l : Launch) (D : va_G) (ca : Nat → ClassId) (ad : Nat → Nat) (base : Nat) (hAd : okA base ad) (w : St) (a0 : Int32) (post : Int32 → St → Prop) (hw : wpX5_checked a0 w post) : Met l yX5_checked wsX5_checked ({ frames := 0, cells := 0, slots := 0, locals := 0 } : Room) (va_Pc [.ref (ad 33), .int a0] (BU D ca ad base w)) (va_Qi post (Bp D ca ad) (AB base)) 0 0 (AB base) := by
  refine Met.ofW (cc := cX5_checked) (maxL := 2) (ret := (some .int)) (by decide) rfl ?_
  intro p e s m args below meth c s₁ B hml hv
  obtain ⟨rfl, hbs, hP, hK⟩ := hv
  have hx := B.exec
  have hb := B.bytes
  have hr := B.returns
  have hts := atoms_spec (ws := wsX5_checked) B.pre
  have hown : s.vm.findClass RX5 = some m.cls := findClass_of_methodNamed B.named
  have hlocks := B.notSynchronized
  have in_X5 : ∀ w ∈ wsX50, w ∈ wsX5_checked := by decide +kernel
  have lk_87 := hts (.fieldLink RX5 87 "LockQuorumModel" "thrown" "I") (by decide +kernel)
  have hS : va_S (AB base) s.heap s.heap [] := va_S.rf
  have hB10 : ∀ (s0 : Int32) (w : St), wpX5_checked_B10 a0 post s0 w → ∀ (H : Heap) (locs : List Loc), PA D ca ad w H → va_S (AB base) s.heap H locs → ∀ ls : Array Slot, lv_has ls 2 [(0, .ref (ad 33))] → W p l e (headSpec wsX5_checked ({ frames := 0, cells := 0, slots := 0, locals := 0 } : Room)).room s m ([Value.ref (ad 33), Value.int a0].toArray) below meth c H locs 0 0 (MQ below (va_Qi post (Bp D ca ad) (AB base)) ([Value.ref (ad 33), Value.int a0].toArray) s 0 0 (AB base)) (F0 m 10 ls [.int s0, .ref (ad 33)]) := by
    intro s0 w hw H locs hP hS ls hl
    refine va_put (D := D) (ci := 7) (v := .int s0) (ty := .int) (C := RX5) (T := TX5) (N := 30) hx hb hts in_X5 tyX5 tyX5_ok nmX5 hown hK hP (DA hAd) hS 33 (wg33 ca ad w) rfl 25 (by decide) lk_87 (fun _ h9 => h9) rfl (by decide +kernel) rfl rfl (Nat.le_of_ble_eq_true rfl) dX5_checked_10 (fun H locs hP hD hS => ?_)
    obtain ⟨w_1, e_2⟩ : ∃ z : St, z = (uI w 67 s0) := ⟨_, rfl⟩
    have hP : PA D ca ad w_1 H := by rw [e_2]; exact wf67 hP
    have hw := hw w_1 e_2
    refine lv_aload_n hx hb dX5_checked_13 rfl (lv_at hl 0 rfl) ?_
    refine va_get (D := D) (ci := 7) (v := .int (w_1.1 67 0)) (C := RX5) (T := TX5) (N := 30) hx hb hts in_X5 hown hK hP 33 (wg33 ca ad w_1) rfl 25 (by decide) lk_87 (fun _ h9 => h9) rfl dX5_checked_14 ?_
    exact W.iret (v := (w_1.1 67 0)) hx hb hr (fun t ht hW => ⟨⟨(w_1.1 67 0), w_1, rfl, hw, by show PA D ca ad w_1 t.heap; rw [ht]; exact hP⟩, hS.F ht⟩) hS.2.2 dX5_checked_17
  have hl := lv_entry ([.ref (ad 33), .int a0]) (n := 2) (Nat.le_of_ble_eq_true rfl)
  rw [lg_entry_eq]
  generalize (lg_sl ([.ref (ad 33), .int a0]) ++ List.replicate (2 - (lg_sl ([.ref (ad 33), .int a0])).length) Slot.unset).toArray = ls at hl ⊢
  have hl : lv_has ls 2 [(0, .ref (ad 33)), (1, .int a0)] := hl
  refine lv_aload_n hx hb dX5_checked_0 rfl (lv_at hl 0 rfl) ?_
  refine lv_iload_n hx hb dX5_checked_1 rfl (lv_at hl 1 rfl) ?_
  refine lv_if_eq (tgt := 9) hx hb dX5_checked_2 (by decide) (fun c_3 => ?_) (fun c_3 => ?_)
  · have hw := hw.1 c_3
    refine lv_iconst (v := 1) hx hb dX5_checked_9 (by decide) ?_
    exact hB10 1 w hw _ _ hP hS ls (lv_sub hl [0] rfl)
  · have hw := hw.2 c_3
    refine lv_iconst (v := 0) hx hb dX5_checked_5 (by decide) ?_
    refine lv_goto (tgt := 10) hx hb dX5_checked_6 (by decide) ?_
    exact hB10 0 w hw _ _ hP hS ls (lv_sub hl [0] rfl)
set_option maxHeartbeats 4000000 in
set_option maxRecDepth 100000 in
def wpX5_isMember (a0 : Int32) (w : St) (post : Int32 → St → Prop) : Prop := wpX5_in a0 0 4 w (fun r_2 w_1 => (narrow .boolean (.int r_2) = .int r_2) ∧ post r_2 w_1)
set_option maxHeartbeats 4000000 in
set_option maxRecDepth 100000 in
theorem mX5_isMember (l : Launch) (D : va_G) (ca : Nat → ClassId) (ad : Nat → Nat) (base : Nat) (hAd : okA base ad) (w : St) (a0 : Int32) (post : Int32 → St → Prop) (hw : wpX5_isMember a0 w post) : Met l yX5_isMember wsX5_isMember ({ frames := 1, cells := 0, slots := 0, locals := 22 } : Room) (va_Pc [.int a0] (BU D ca ad base w)) (va_Qi post (Bp D ca ad) (AB base)) 0 0 (AB base) := by
  refine Met.ofW (cc := cX5_isMember) (maxL := 1) (ret := (some .boolean)) (by decide) rfl ?_
  intro p e s m args below meth c s₁ B hml hv
  obtain ⟨rfl, hbs, hP, hK⟩ := hv
  have hx := B.exec
  have hb := B.bytes
  have hr := B.returns
  have hts := atoms_spec (ws := wsX5_isMember) B.pre
  have hown : s.vm.findClass RX5 = some m.cls := findClass_of_methodNamed B.named
  have hlocks := B.notSynchronized
  have hS : va_S (AB base) s.heap s.heap [] := va_S.rf
  have hl := lv_entry ([.int a0]) (n := 1) (Nat.le_of_ble_eq_true rfl)
  rw [lg_entry_eq]
  generalize (lg_sl ([.int a0]) ++ List.replicate (1 - (lg_sl ([.int a0])).length) Slot.unset).toArray = ls at hl ⊢
  have hl : lv_has ls 1 [(0, .int a0)] := hl
  refine lv_iload_n hx hb dX5_isMember_0 rfl (lv_at hl 0 rfl) ?_
  refine lv_iconst (v := 0) hx hb dX5_isMember_1 (by decide) ?_
  refine lv_iconst (v := 4) hx hb dX5_isMember_2 (by decide) ?_
  refine va_calli (va_runS (As := [.int a0, .int 0, .int 4]) (rest := []) ⟨hx, hb, hml, hown, hts⟩ (mX5_in l D ca ad base hAd w a0 0 4 _ hw) (va_cwS 3 hts gX5_isMember_X5_in rfl rfl rfl (by decide +kernel) ⟨Nat.le_of_ble_eq_true rfl, Nat.le_of_ble_eq_true rfl⟩) (ps [.int a0, .int 0, .int 4] hK hP hbs hS) rfl rfl hl.1 rfl (lv_room (Nat.le_of_ble_eq_true rfl)) dX5_isMember_3 ⟨Nat.le_of_ble_eq_true rfl, Nat.le_of_ble_eq_true rfl⟩) hS (fun q _ h => h) (fun q h => h) (fun r_2 w_1 t H locs ht hvm hw hP hz1 hk1 hS => ?_)
  have hP : PA D ca ad w_1 H := by rw [← ht]; exact hP
  obtain ⟨hn9, hw⟩ := hw
  exact W.zret (v := r_2) hx hb hr hn9 (fun t ht hW => ⟨⟨r_2, w_1, rfl, hw, by show PA D ca ad w_1 t.heap; rw [ht]; exact hP⟩, hS.F ht⟩) hS.2.2 dX5_isMember_6
set_option maxHeartbeats 4000000 in
set_option maxRecDepth 100000 in
def wpX5_isLock (a0 : Int32) (w : St) (post : Int32 → St → Prop) : Prop := wpX5_in a0 0 3 w (fun r_2 w_1 => (narrow .boolean (.int r_2) = .int r_2) ∧ post r_2 w_1)
set_option maxHeartbeats 4000000 in
set_option maxRecDepth 100000 in
theorem mX5_isLock (l : Launch) (D : va_G) (ca : Nat → ClassId) (ad : Nat → Nat) (base : Nat) (hAd : okA base ad) (w : St) (a0 : Int32) (post : Int32 → St → Prop) (hw : wpX5_isLock a0 w post) : Met l yX5_isLock wsX5_isLock ({ frames := 1, cells := 0, slots := 0, locals := 22 } : Room) (va_Pc [.int a0] (BU D ca ad base w)) (va_Qi post (Bp D ca ad) (AB base)) 0 0 (AB base) := by
  refine Met.ofW (cc := cX5_isLock) (maxL := 1) (ret := (some .boolean)) (by decide) rfl ?_
  intro p e s m args below meth c s₁ B hml hv
  obtain ⟨rfl, hbs, hP, hK⟩ := hv
  have hx := B.exec
  have hb := B.bytes
  have hr := B.returns
  have hts := atoms_spec (ws := wsX5_isLock) B.pre
  have hown : s.vm.findClass RX5 = some m.cls := findClass_of_methodNamed B.named
  have hlocks := B.notSynchronized
  have hS : va_S (AB base) s.heap s.heap [] := va_S.rf
  have hl := lv_entry ([.int a0]) (n := 1) (Nat.le_of_ble_eq_true rfl)
  rw [lg_entry_eq]
  generalize (lg_sl ([.int a0]) ++ List.replicate (1 - (lg_sl ([.int a0])).length) Slot.unset).toArray = ls at hl ⊢
  have hl : lv_has ls 1 [(0, .int a0)] := hl
  refine lv_iload_n hx hb dX5_isLock_0 rfl (lv_at hl 0 rfl) ?_
  refine lv_iconst (v := 0) hx hb dX5_isLock_1 (by decide) ?_
  refine lv_iconst (v := 3) hx hb dX5_isLock_2 (by decide) ?_
  refine va_calli (va_runS (As := [.int a0, .int 0, .int 3]) (rest := []) ⟨hx, hb, hml, hown, hts⟩ (mX5_in l D ca ad base hAd w a0 0 3 _ hw) (va_cwS 3 hts gX5_isLock_X5_in rfl rfl rfl (by decide +kernel) ⟨Nat.le_of_ble_eq_true rfl, Nat.le_of_ble_eq_true rfl⟩) (ps [.int a0, .int 0, .int 3] hK hP hbs hS) rfl rfl hl.1 rfl (lv_room (Nat.le_of_ble_eq_true rfl)) dX5_isLock_3 ⟨Nat.le_of_ble_eq_true rfl, Nat.le_of_ble_eq_true rfl⟩) hS (fun q _ h => h) (fun q h => h) (fun r_2 w_1 t H locs ht hvm hw hP hz1 hk1 hS => ?_)
  have hP : PA D ca ad w_1 H := by rw [← ht]; exact hP
  obtain ⟨hn9, hw⟩ := hw
  exact W.zret (v := r_2) hx hb hr hn9 (fun t ht hW => ⟨⟨r_2, w_1, rfl, hw, by show PA D ca ad w_1 t.heap; rw [ht]; exact hP⟩, hS.F ht⟩) hS.2.2 dX5_isLock_6
set_option maxHeartbeats 4000000 in
set_option maxRecDepth 100000 in
def wpX5_isClient (a0 : Int32) (w : St) (post : Int32 → St → Prop) : Prop := wpX5_in a0 0 ((w.1 69 0) - 1) w (fun r_2 w_1 => (narrow .boolean (.int r_2) = .int r_2) ∧ post r_2 w_1)
set_option maxHeartbeats 4000000 in
set_option maxRecDepth 100000 in
theorem mX5_isClient (l : Launch) (D : va_G) (ca : Nat → ClassId) (ad : Nat → Nat) (base : Nat) (hAd : okA base ad) (w : St) (a0 : Int32) (post : Int32 → St → Prop) (hw : wpX5_isClient a0 w post) : Met l yX5_isClient wsX5_isClient ({ frames := 1, cells := 0, slots := 0, locals := 22 } : Room) (va_Pc [.ref (ad 33), .int a0] (BU D ca ad base w)) (va_Qi post (Bp D ca ad) (AB base)) 0 0 (AB base) := by
  refine Met.ofW (cc := cX5_isClient) (maxL := 2) (ret := (some .boolean)) (by decide) rfl ?_
  intro p e s m args below meth c s₁ B hml hv
  obtain ⟨rfl, hbs, hP, hK⟩ := hv
  have hx := B.exec
  have hb := B.bytes
  have hr := B.returns
  have hts := atoms_spec (ws := wsX5_isClient) B.pre
  have hown : s.vm.findClass RX5 = some m.cls := findClass_of_methodNamed B.named
  have hlocks := B.notSynchronized
  have in_X5 : ∀ w ∈ wsX50, w ∈ wsX5_isClient := by decide +kernel
  have lk_94 := hts (.fieldLink RX5 94 "LockQuorumModel" "clients" "I") (by decide +kernel)
  have hS : va_S (AB base) s.heap s.heap [] := va_S.rf
  have hl := lv_entry ([.ref (ad 33), .int a0]) (n := 2) (Nat.le_of_ble_eq_true rfl)
  rw [lg_entry_eq]
  generalize (lg_sl ([.ref (ad 33), .int a0]) ++ List.replicate (2 - (lg_sl ([.ref (ad 33), .int a0])).length) Slot.unset).toArray = ls at hl ⊢
  have hl : lv_has ls 2 [(0, .ref (ad 33)), (1, .int a0)] := hl
  refine lv_iload_n hx hb dX5_isClient_0 rfl (lv_at hl 1 rfl) ?_
  refine lv_iconst (v := 0) hx hb dX5_isClient_1 (by decide) ?_
  refine lv_aload_n hx hb dX5_isClient_2 rfl (lv_at hl 0 rfl) ?_
  refine va_get (D := D) (ci := 7) (v := .int (w.1 69 0)) (C := RX5) (T := TX5) (N := 30) hx hb hts in_X5 hown hK hP 33 (wg33 ca ad w) rfl 27 (by decide) lk_94 (fun _ h9 => h9) rfl dX5_isClient_3 ?_
  refine lv_iconst (v := 1) hx hb dX5_isClient_6 (by decide) ?_
  refine lv_isub hx hb dX5_isClient_7 ?_
  refine va_calli (va_runS (As := [.int a0, .int 0, .int ((w.1 69 0) - 1)]) (rest := []) ⟨hx, hb, hml, hown, hts⟩ (mX5_in l D ca ad base hAd w a0 0 ((w.1 69 0) - 1) _ hw) (va_cwS 3 hts gX5_isClient_X5_in rfl rfl rfl (by decide +kernel) ⟨Nat.le_of_ble_eq_true rfl, Nat.le_of_ble_eq_true rfl⟩) (ps [.int a0, .int 0, .int ((w.1 69 0) - 1)] hK hP hbs hS) rfl rfl hl.1 rfl (lv_room (Nat.le_of_ble_eq_true rfl)) dX5_isClient_8 ⟨Nat.le_of_ble_eq_true rfl, Nat.le_of_ble_eq_true rfl⟩) hS (fun q _ h => h) (fun q h => h) (fun r_2 w_1 t H locs ht hvm hw hP hz1 hk1 hS => ?_)
  have hP : PA D ca ad w_1 H := by rw [← ht]; exact hP
  obtain ⟨hn9, hw⟩ := hw
  exact W.zret (v := r_2) hx hb hr hn9 (fun t ht hW => ⟨⟨r_2, w_1, rfl, hw, by show PA D ca ad w_1 t.heap; rw [ht]; exact hP⟩, hS.F ht⟩) hS.2.2 dX5_isClient_11
set_option maxHeartbeats 4000000 in
set_option maxRecDepth 100000 in
def wpX5_at (a0 : Int32) (a1 : Int32) (w : St) (post : Int32 → St → Prop) : Prop := post ((4 * a0) + a1) w
set_option maxHeartbeats 4000000 in
set_option maxRecDepth 100000 in
theorem mX5_at (l : Launch) (D : va_G) (ca : Nat → ClassId) (ad : Nat → Nat) (base : Nat) (hAd : okA base ad) (w : St) (a0 : Int32) (a1 : Int32) (post : Int32 → St → Prop) (hw : wpX5_at a0 a1 w post) : Met l yX5_at wsX5_at ({ frames := 0, cells := 0, slots := 0, locals := 0 } : Room) (va_Pc [.int a0, .int a1] (BU D ca ad base w)) (va_Qi post (Bp D ca ad) (AB base)) 0 0 (AB base) := by
  refine Met.ofW (cc := cX5_at) (maxL := 2) (ret := (some .int)) (by decide) rfl ?_
  intro p e s m args below meth c s₁ B hml hv
  obtain ⟨rfl, hbs, hP, hK⟩ := hv
  have hx := B.exec
  have hb := B.bytes
  have hr := B.returns
  have hts := atoms_spec (ws := wsX5_at) B.pre
  have hown : s.vm.findClass RX5 = some m.cls := findClass_of_methodNamed B.named
  have hlocks := B.notSynchronized
  have hS : va_S (AB base) s.heap s.heap [] := va_S.rf
  have hl := lv_entry ([.int a0, .int a1]) (n := 2) (Nat.le_of_ble_eq_true rfl)
  rw [lg_entry_eq]
  generalize (lg_sl ([.int a0, .int a1]) ++ List.replicate (2 - (lg_sl ([.int a0, .int a1])).length) Slot.unset).toArray = ls at hl ⊢
  have hl : lv_has ls 2 [(0, .int a0), (1, .int a1)] := hl
  refine lv_iconst (v := 4) hx hb dX5_at_0 (by decide) ?_
  refine lv_iload_n hx hb dX5_at_1 rfl (lv_at hl 0 rfl) ?_
  refine lv_imul hx hb dX5_at_2 ?_
  refine lv_iload_n hx hb dX5_at_3 rfl (lv_at hl 1 rfl) ?_
  refine lv_iadd hx hb dX5_at_4 ?_
  exact W.iret (v := ((4 * a0) + a1)) hx hb hr (fun t ht hW => ⟨⟨((4 * a0) + a1), w, rfl, hw, by show PA D ca ad w t.heap; rw [ht]; exact hP⟩, hS.F ht⟩) hS.2.2 dX5_at_5
set_option maxHeartbeats 4000000 in
set_option maxRecDepth 100000 in
def wpX5_pass (a0 : Int32) (w : St) (post : Int32 → St → Prop) : Prop := wpX5_in a0 1 60 w (fun r_2 w_1 => wpX5_checked r_2 w_1 (fun r_4 w_3 => (r_4 ≤ 0 → (∀ w_6 : St, w_6 = (uI w_3 68 ((w_3.1 68 0) + a0)) → post (w_6.1 68 0) w_6)) ∧ (¬ (r_4 ≤ 0) → (post 0 w_3))))
set_option maxHeartbeats 4000000 in
set_option maxRecDepth 100000 in
theorem mX5_pass (l : Launch) (D : va_G) (ca : Nat → ClassId) (ad : Nat → Nat) (base : Nat) (hAd : okA base ad) (w : St) (a0 : Int32) (post : Int32 → St → Prop) (hw : wpX5_pass a0 w post) : Met l yX5_pass wsX5_pass ({ frames := 1, cells := 0, slots := 0, locals := 22 } : Room) (va_Pc [.ref (ad 33), .int a0] (BU D ca ad base w)) (va_Qi post (Bp D ca ad) (AB base)) 0 0 (AB base) := by
  refine Met.ofW (cc := cX5_pass) (maxL := 2) (ret := (some .int)) (by decide) rfl ?_
  intro p e s m args below meth c s₁ B hml hv
  obtain ⟨rfl, hbs, hP, hK⟩ := hv
  have hx := B.exec
  have hb := B.bytes
  have hr := B.returns
  have hts := atoms_spec (ws := wsX5_pass) B.pre
  have hown : s.vm.findClass RX5 = some m.cls := findClass_of_methodNamed B.named
  have hlocks := B.notSynchronized
  have in_X5 : ∀ w ∈ wsX50, w ∈ wsX5_pass := by decide +kernel
  have lk_91 := hts (.fieldLink RX5 91 "LockQuorumModel" "time" "I") (by decide +kernel)
  have hS : va_S (AB base) s.heap s.heap [] := va_S.rf
  have hl := lv_entry ([.ref (ad 33), .int a0]) (n := 2) (Nat.le_of_ble_eq_true rfl)
  rw [lg_entry_eq]
  generalize (lg_sl ([.ref (ad 33), .int a0]) ++ List.replicate (2 - (lg_sl ([.ref (ad 33), .int a0])).length) Slot.unset).toArray = ls at hl ⊢
  have hl : lv_has ls 2 [(0, .ref (ad 33)), (1, .int a0)] := hl
  refine lv_aload_n hx hb dX5_pass_0 rfl (lv_at hl 0 rfl) ?_
  refine lv_iload_n hx hb dX5_pass_1 rfl (lv_at hl 1 rfl) ?_
  refine lv_iconst (v := 1) hx hb dX5_pass_2 (by decide) ?_
  refine lv_bipush (v := 60) hx hb dX5_pass_3 (by decide) ?_
  refine va_calli (va_runS (As := [.int a0, .int 1, .int 60]) (rest := [.ref (ad 33)]) ⟨hx, hb, hml, hown, hts⟩ (mX5_in l D ca ad base hAd w a0 1 60 _ hw) (va_cwS 3 hts gX5_pass_X5_in rfl rfl rfl (by decide +kernel) ⟨Nat.le_of_ble_eq_true rfl, Nat.le_of_ble_eq_true rfl⟩) (ps [.int a0, .int 1, .int 60] hK hP hbs hS) rfl rfl hl.1 rfl (lv_room (Nat.le_of_ble_eq_true rfl)) dX5_pass_5 ⟨Nat.le_of_ble_eq_true rfl, Nat.le_of_ble_eq_true rfl⟩) hS (fun q _ h => h) (fun q h => h) (fun r_2 w_1 t H locs ht hvm hw hP hz1 hk1 hS => ?_)
  have hP : PA D ca ad w_1 H := by rw [← ht]; exact hP
  refine va_calli (va_runV (As := [.int r_2]) (rest := []) ⟨hx, hb, hml, hown, hts⟩ (mX5_checked l D ca ad base hAd w_1 r_2 _ hw) (cwV 1 hts gX5_pass_X5_checked rfl rfl rfl (by decide +kernel) ⟨Nat.le_of_ble_eq_true rfl, Nat.le_of_ble_eq_true rfl⟩) (pv [.int r_2] hK hP hbs hS rfl (wg33 ca ad w_1)) rfl rfl hl.1 rfl (lv_room (Nat.le_of_ble_eq_true rfl)) dX5_pass_8 ⟨Nat.le_of_ble_eq_true rfl, Nat.le_of_ble_eq_true rfl⟩) hS (fun q _ h => h) (fun q h => h) (fun r_4 w_3 t H locs ht hvm hw hP hz1 hk1 hS => ?_)
  have hP : PA D ca ad w_3 H := by rw [← ht]; exact hP
  refine lv_if_le (tgt := 16) hx hb dX5_pass_11 (by decide) (fun c_5 => ?_) (fun c_5 => ?_)
  · have hw := hw.1 c_5
    refine lv_aload_n hx hb dX5_pass_16 rfl (lv_at hl 0 rfl) ?_
    refine lv_dup hx hb dX5_pass_17 rfl ?_
    refine va_get (D := D) (ci := 7) (v := .int (w_3.1 68 0)) (C := RX5) (T := TX5) (N := 30) hx hb hts in_X5 hown hK hP 33 (wg33 ca ad w_3) rfl 26 (by decide) lk_91 (fun _ h9 => h9) rfl dX5_pass_18 ?_
    refine lv_iload_n hx hb dX5_pass_21 rfl (lv_at hl 1 rfl) ?_
    refine lv_iadd hx hb dX5_pass_22 ?_
    refine va_put (D := D) (ci := 7) (v := .int ((w_3.1 68 0) + a0)) (ty := .int) (C := RX5) (T := TX5) (N := 30) hx hb hts in_X5 tyX5 tyX5_ok nmX5 hown hK hP (DA hAd) hS 33 (wg33 ca ad w_3) rfl 26 (by decide) lk_91 (fun _ h9 => h9) rfl (by decide +kernel) rfl rfl (Nat.le_of_ble_eq_true rfl) dX5_pass_23 (fun H locs hP hD hS => ?_)
    obtain ⟨w_6, e_7⟩ : ∃ z : St, z = (uI w_3 68 ((w_3.1 68 0) + a0)) := ⟨_, rfl⟩
    have hP : PA D ca ad w_6 H := by rw [e_7]; exact wf68 hP
    have hw := hw w_6 e_7
    refine lv_aload_n hx hb dX5_pass_26 rfl (lv_at hl 0 rfl) ?_
    refine va_get (D := D) (ci := 7) (v := .int (w_6.1 68 0)) (C := RX5) (T := TX5) (N := 30) hx hb hts in_X5 hown hK hP 33 (wg33 ca ad w_6) rfl 26 (by decide) lk_91 (fun _ h9 => h9) rfl dX5_pass_27 ?_
    exact W.iret (v := (w_6.1 68 0)) hx hb hr (fun t ht hW => ⟨⟨(w_6.1 68 0), w_6, rfl, hw, by show PA D ca ad w_6 t.heap; rw [ht]; exact hP⟩, hS.F ht⟩) hS.2.2 dX5_pass_30
  · have hw := hw.2 c_5
    refine lv_iconst (v := 0) hx hb dX5_pass_14 (by decide) ?_
    exact W.iret (v := 0) hx hb hr (fun t ht hW => ⟨⟨0, w_3, rfl, hw, by show PA D ca ad w_3 t.heap; rw [ht]; exact hP⟩, hS.F ht⟩) hS.2.2 dX5_pass_15
set_option maxHeartbeats 4000000 in
set_option maxRecDepth 100000 in
def wpX5_time (w : St) (post : Int32 → St → Prop) : Prop := wpX5_plain (w.1 68 0) w (fun r_2 w_1 => post r_2 w_1)
set_option maxHeartbeats 4000000 in
set_option maxRecDepth 100000 in
theorem mX5_time (l : Launch) (D : va_G) (ca : Nat → ClassId) (ad : Nat → Nat) (base : Nat) (hAd : okA base ad) (w : St) (post : Int32 → St → Prop) (hw : wpX5_time w post) : Met l yX5_time wsX5_time ({ frames := 1, cells := 0, slots := 0, locals := 21 } : Room) (va_Pc [.ref (ad 33)] (BU D ca ad base w)) (va_Qi post (Bp D ca ad) (AB base)) 0 0 (AB base) := by
  refine Met.ofW (cc := cX5_time) (maxL := 1) (ret := (some .int)) (by decide) rfl ?_
  intro p e s m args below meth c s₁ B hml hv
  obtain ⟨rfl, hbs, hP, hK⟩ := hv
  have hx := B.exec
  have hb := B.bytes
  have hr := B.returns
  have hts := atoms_spec (ws := wsX5_time) B.pre
  have hown : s.vm.findClass RX5 = some m.cls := findClass_of_methodNamed B.named
  have hlocks := B.notSynchronized
  have in_X5 : ∀ w ∈ wsX50, w ∈ wsX5_time := by decide +kernel
  have lk_91 := hts (.fieldLink RX5 91 "LockQuorumModel" "time" "I") (by decide +kernel)
  have hS : va_S (AB base) s.heap s.heap [] := va_S.rf
  have hl := lv_entry ([.ref (ad 33)]) (n := 1) (Nat.le_of_ble_eq_true rfl)
  rw [lg_entry_eq]
  generalize (lg_sl ([.ref (ad 33)]) ++ List.replicate (1 - (lg_sl ([.ref (ad 33)])).length) Slot.unset).toArray = ls at hl ⊢
  have hl : lv_has ls 1 [(0, .ref (ad 33))] := hl
  refine lv_aload_n hx hb dX5_time_0 rfl (lv_at hl 0 rfl) ?_
  refine lv_aload_n hx hb dX5_time_1 rfl (lv_at hl 0 rfl) ?_
  refine va_get (D := D) (ci := 7) (v := .int (w.1 68 0)) (C := RX5) (T := TX5) (N := 30) hx hb hts in_X5 hown hK hP 33 (wg33 ca ad w) rfl 26 (by decide) lk_91 (fun _ h9 => h9) rfl dX5_time_2 ?_
  refine va_calli (va_runV (As := [.int (w.1 68 0)]) (rest := []) ⟨hx, hb, hml, hown, hts⟩ (mX5_plain l D ca ad base hAd w (w.1 68 0) _ hw) (cwV 1 hts gX5_time_X5_plain rfl rfl rfl (by decide +kernel) ⟨Nat.le_of_ble_eq_true rfl, Nat.le_of_ble_eq_true rfl⟩) (pv [.int (w.1 68 0)] hK hP hbs hS rfl (wg33 ca ad w)) rfl rfl hl.1 rfl (lv_room (Nat.le_of_ble_eq_true rfl)) dX5_time_5 ⟨Nat.le_of_ble_eq_true rfl, Nat.le_of_ble_eq_true rfl⟩) hS (fun q _ h => h) (fun q h => h) (fun r_2 w_1 t H locs ht hvm hw hP hz1 hk1 hS => ?_)
  have hP : PA D ca ad w_1 H := by rw [← ht]; exact hP
  exact W.iret (v := r_2) hx hb hr (fun t ht hW => ⟨⟨r_2, w_1, rfl, hw, by show PA D ca ad w_1 t.heap; rw [ht]; exact hP⟩, hS.F ht⟩) hS.2.2 dX5_time_8
set_option maxHeartbeats 4000000 in
set_option maxRecDepth 100000 in
def wpX5_setDown (a0 : Int32) (a1 : Int32) (w : St) (post : Int32 → St → Prop) : Prop := wpX5_isMember a0 w (fun r_2 w_1 => wpX5_checked r_2 w_1 (fun r_4 w_3 => (r_4 ≤ 0 → ((vp_in a0 5) ∧ ((vp_in a0 5) ∧ (∀ w_8 : St, w_8 = (uA w_3 34 (upd (w_3.1 34) (a0).toNatClampNeg (vp_nar .boolean a1))) → (narrow .boolean (.int (w_3.1 34 (a0).toNatClampNeg)) = .int (w_3.1 34 (a0).toNatClampNeg)) ∧ post (w_3.1 34 (a0).toNatClampNeg) w_8)))) ∧ (¬ (r_4 ≤ 0) → (post 0 w_3))))
set_option maxHeartbeats 4000000 in
set_option maxRecDepth 100000 in
theorem mX5_setDown (l : Launch) (D : va_G) (ca : Nat → ClassId) (ad : Nat → Nat) (base : Nat) (hAd : okA base ad) (w : St) (a0 : Int32) (a1 : Int32) (post : Int32 → St → Prop) (hw : wpX5_setDown a0 a1 w post) : Met l yX5_setDown wsX5_setDown ({ frames := 2, cells := 0, slots := 0, locals := 42 } : Room) (va_Pc [.ref (ad 33), .int a0, .int a1] (BU D ca ad base w)) (va_Qi post (Bp D ca ad) (AB base)) 0 0 (AB base) := by
  refine Met.ofW (cc := cX5_setDown) (maxL := 4) (ret := (some .boolean)) (by decide) rfl ?_
  intro p e s m args below meth c s₁ B hml hv
  obtain ⟨rfl, hbs, hP, hK⟩ := hv
  have hx := B.exec
  have hb := B.bytes
  have hr := B.returns
  have hts := atoms_spec (ws := wsX5_setDown) B.pre
  have hown : s.vm.findClass RX5 = some m.cls := findClass_of_methodNamed B.named
  have hlocks := B.notSynchronized
  have in_X5 : ∀ w ∈ wsX50, w ∈ wsX5_setDown := by decide +kernel
  have lk_7 := hts (.fieldLink RX5 7 "LockQuorumModel" "areDown" "[Z") (by decide +kernel)
  have hS : va_S (AB base) s.heap s.heap [] := va_S.rf
  have hl := lv_entry ([.ref (ad 33), .int a0, .int a1]) (n := 4) (Nat.le_of_ble_eq_true rfl)
  rw [lg_entry_eq]
  generalize (lg_sl ([.ref (ad 33), .int a0, .int a1]) ++ List.replicate (4 - (lg_sl ([.ref (ad 33), .int a0, .int a1])).length) Slot.unset).toArray = ls at hl ⊢
  have hl : lv_has ls 4 [(0, .ref (ad 33)), (1, .int a0), (2, .int a1)] := hl
  refine lv_aload_n hx hb dX5_setDown_0 rfl (lv_at hl 0 rfl) ?_
  refine lv_iload_n hx hb dX5_setDown_1 rfl (lv_at hl 1 rfl) ?_
  refine va_calli (va_runS (As := [.int a0]) (rest := [.ref (ad 33)]) ⟨hx, hb, hml, hown, hts⟩ (mX5_isMember l D ca ad base hAd w a0 _ hw) (va_cwS 1 hts gX5_setDown_X5_isMember rfl rfl rfl (by decide +kernel) ⟨Nat.le_of_ble_eq_true rfl, Nat.le_of_ble_eq_true rfl⟩) (ps [.int a0] hK hP hbs hS) rfl rfl hl.1 rfl (lv_room (Nat.le_of_ble_eq_true rfl)) dX5_setDown_2 ⟨Nat.le_of_ble_eq_true rfl, Nat.le_of_ble_eq_true rfl⟩) hS (fun q _ h => h) (fun q h => h) (fun r_2 w_1 t H locs ht hvm hw hP hz1 hk1 hS => ?_)
  have hP : PA D ca ad w_1 H := by rw [← ht]; exact hP
  refine va_calli (va_runV (As := [.int r_2]) (rest := []) ⟨hx, hb, hml, hown, hts⟩ (mX5_checked l D ca ad base hAd w_1 r_2 _ hw) (cwV 1 hts gX5_setDown_X5_checked rfl rfl rfl (by decide +kernel) ⟨Nat.le_of_ble_eq_true rfl, Nat.le_of_ble_eq_true rfl⟩) (pv [.int r_2] hK hP hbs hS rfl (wg33 ca ad w_1)) rfl rfl hl.1 rfl (lv_room (Nat.le_of_ble_eq_true rfl)) dX5_setDown_5 ⟨Nat.le_of_ble_eq_true rfl, Nat.le_of_ble_eq_true rfl⟩) hS (fun q _ h => h) (fun q h => h) (fun r_4 w_3 t H locs ht hvm hw hP hz1 hk1 hS => ?_)
  have hP : PA D ca ad w_3 H := by rw [← ht]; exact hP
  refine lv_if_le (tgt := 13) hx hb dX5_setDown_8 (by decide) (fun c_5 => ?_) (fun c_5 => ?_)
  · have hw := hw.1 c_5
    refine lv_aload_n hx hb dX5_setDown_13 rfl (lv_at hl 0 rfl) ?_
    refine va_get (D := D) (ci := 7) (v := .ref (ad 34)) (C := RX5) (T := TX5) (N := 30) hx hb hts in_X5 hown hK hP 33 (wg33 ca ad w_3) rfl 0 (by decide) lk_7 (fun _ h9 => h9) rfl dX5_setDown_14 ?_
    refine lv_iload_n hx hb dX5_setDown_17 rfl (lv_at hl 1 rfl) ?_
    obtain ⟨h_6, hw⟩ := hw
    refine va_zald hx hb hK hP 34 1 (wg34 ca ad w_3) rfl h_6 dX5_setDown_18 ?_
    refine lv_istore_n (lv' := [(3, .int (w_3.1 34 (a0).toNatClampNeg)), (0, .ref (ad 33)), (1, .int a0), (2, .int a1)]) hx hb dX5_setDown_19 rfl hl (by decide) rfl (fun ls hl => ?_)
    refine lv_aload_n hx hb dX5_setDown_20 rfl (lv_at hl 1 rfl) ?_
    refine va_get (D := D) (ci := 7) (v := .ref (ad 34)) (C := RX5) (T := TX5) (N := 30) hx hb hts in_X5 hown hK hP 33 (wg33 ca ad w_3) rfl 0 (by decide) lk_7 (fun _ h9 => h9) rfl dX5_setDown_21 ?_
    refine lv_iload_n hx hb dX5_setDown_24 rfl (lv_at hl 2 rfl) ?_
    refine lv_iload_n hx hb dX5_setDown_25 rfl (lv_at hl 3 rfl) ?_
    obtain ⟨h_7, hw⟩ := hw
    refine va_zast hx hb hK hP (DA hAd) hS 34 1 (wg34 ca ad w_3) rfl h_7 dX5_setDown_26 (fun H locs hP hD hS => ?_)
    obtain ⟨w_8, e_9⟩ : ∃ z : St, z = (uA w_3 34 (upd (w_3.1 34) (a0).toNatClampNeg (vp_nar .boolean a1))) := ⟨_, rfl⟩
    have hP : PA D ca ad w_8 H := by rw [e_9]; exact wu34 hP
    have hw := hw w_8 e_9
    refine lv_iload_n hx hb dX5_setDown_27 rfl (lv_at hl 0 rfl) ?_
    obtain ⟨hn9, hw⟩ := hw
    exact W.zret (v := (w_3.1 34 (a0).toNatClampNeg)) hx hb hr hn9 (fun t ht hW => ⟨⟨(w_3.1 34 (a0).toNatClampNeg), w_8, rfl, hw, by show PA D ca ad w_8 t.heap; rw [ht]; exact hP⟩, hS.F ht⟩) hS.2.2 dX5_setDown_28
  · have hw := hw.2 c_5
    refine lv_iconst (v := 0) hx hb dX5_setDown_11 (by decide) ?_
    exact W.zret (v := 0) hx hb hr (by decide) (fun t ht hW => ⟨⟨0, w_3, rfl, hw, by show PA D ca ad w_3 t.heap; rw [ht]; exact hP⟩, hS.F ht⟩) hS.2.2 dX5_setDown_12
set_option maxHeartbeats 4000000 in
set_option maxRecDepth 100000 in
def wpX5_setCut_B29 (a0 : Int32) (a1 : Int32) (a2 : Int32) (post : Int32 → St → Prop) (s0 : Int32) (w : St) : Prop := ∀ w_1 : St, w_1 = (uI w 67 s0) → ((w_1.1 67 0) ≤ 0 → ((vp_in ((5 * a0) + a1) 25) ∧ ((vp_in ((5 * a0) + a1) 25) ∧ (∀ w_6 : St, w_6 = (uA w_1 35 (upd (w_1.1 35) (((5 * a0) + a1)).toNatClampNeg (vp_nar .boolean a2))) → (vp_in ((5 * a1) + a0) 25) ∧ (∀ w_9 : St, w_9 = (uA w_6 35 (upd (w_6.1 35) (((5 * a1) + a0)).toNatClampNeg (vp_nar .boolean a2))) → (narrow .boolean (.int (w_1.1 35 (((5 * a0) + a1)).toNatClampNeg)) = .int (w_1.1 35 (((5 * a0) + a1)).toNatClampNeg)) ∧ post (w_1.1 35 (((5 * a0) + a1)).toNatClampNeg) w_9))))) ∧ (¬ ((w_1.1 67 0) ≤ 0) → (post 0 w_1))
set_option maxHeartbeats 4000000 in
set_option maxRecDepth 100000 in
def wpX5_setCut_B15 (a0 : Int32) (a1 : Int32) (a2 : Int32) (post : Int32 → St → Prop) (w : St) : Prop := wpX5_setCut_B29 a0 a1 a2 post 1 w
set_option maxHeartbeats 4000000 in
set_option maxRecDepth 100000 in
def wpX5_setCut (a0 : Int32) (a1 : Int32) (a2 : Int32) (w : St) (post : Int32 → St → Prop) : Prop := wpX5_isMember a0 w (fun r_12 w_11 => (r_12 = 0 → (wpX5_setCut_B15 a0 a1 a2 post w_11)) ∧ (¬ (r_12 = 0) → (wpX5_isMember a1 w_11 (fun r_15 w_14 => (r_15 = 0 → (wpX5_setCut_B15 a0 a1 a2 post w_14)) ∧ (¬ (r_15 = 0) → ((a0 = a1 → (wpX5_setCut_B29 a0 a1 a2 post 2 w_14)) ∧ (¬ (a0 = a1) → (wpX5_setCut_B29 a0 a1 a2 post 0 w_14))))))))
set_option maxHeartbeats 4000000 in
set_option maxRecDepth 100000 in
theorem mX5_setCut (l : Launch) (D : va_G) (ca : Nat → ClassId) (ad : Nat → Nat) (base : Nat) (hAd : okA base ad) (w : St) (a0 : Int32) (a1 : Int32) (a2 : Int32) (post : Int32 → St → Prop) (hw : wpX5_setCut a0 a1 a2 w post) : Met l yX5_setCut wsX5_setCut ({ frames := 2, cells := 0, slots := 0, locals := 42 } : Room) (va_Pc [.ref (ad 33), .int a0, .int a1, .int a2] (BU D ca ad base w)) (va_Qi post (Bp D ca ad) (AB base)) 0 0 (AB base) := by
  refine Met.ofW (cc := cX5_setCut) (maxL := 5) (ret := (some .boolean)) (by decide) rfl ?_
  intro p e s m args below meth c s₁ B hml hv
  obtain ⟨rfl, hbs, hP, hK⟩ := hv
  have hx := B.exec
  have hb := B.bytes
  have hr := B.returns
  have hts := atoms_spec (ws := wsX5_setCut) B.pre
  have hown : s.vm.findClass RX5 = some m.cls := findClass_of_methodNamed B.named
  have hlocks := B.notSynchronized
  have in_X5 : ∀ w ∈ wsX50, w ∈ wsX5_setCut := by decide +kernel
  have lk_13 := hts (.fieldLink RX5 13 "LockQuorumModel" "areCut" "[Z") (by decide +kernel)
  have lk_87 := hts (.fieldLink RX5 87 "LockQuorumModel" "thrown" "I") (by decide +kernel)
  have hS : va_S (AB base) s.heap s.heap [] := va_S.rf
  have hB29 : ∀ (s0 : Int32) (w : St), wpX5_setCut_B29 a0 a1 a2 post s0 w → ∀ (H : Heap) (locs : List Loc), PA D ca ad w H → va_S (AB base) s.heap H locs → ∀ ls : Array Slot, lv_has ls 5 [(0, .ref (ad 33)), (1, .int a0), (2, .int a1), (3, .int a2)] → W p l e (headSpec wsX5_setCut ({ frames := 2, cells := 0, slots := 0, locals := 42 } : Room)).room s m ([Value.ref (ad 33), Value.int a0, Value.int a1, Value.int a2].toArray) below meth c H locs 0 0 (MQ below (va_Qi post (Bp D ca ad) (AB base)) ([Value.ref (ad 33), Value.int a0, Value.int a1, Value.int a2].toArray) s 0 0 (AB base)) (F0 m 29 ls [.int s0, .ref (ad 33)]) := by
    intro s0 w hw H locs hP hS ls hl
    refine va_put (D := D) (ci := 7) (v := .int s0) (ty := .int) (C := RX5) (T := TX5) (N := 30) hx hb hts in_X5 tyX5 tyX5_ok nmX5 hown hK hP (DA hAd) hS 33 (wg33 ca ad w) rfl 25 (by decide) lk_87 (fun _ h9 => h9) rfl (by decide +kernel) rfl rfl (Nat.le_of_ble_eq_true rfl) dX5_setCut_29 (fun H locs hP hD hS => ?_)
    obtain ⟨w_1, e_2⟩ : ∃ z : St, z = (uI w 67 s0) := ⟨_, rfl⟩
    have hP : PA D ca ad w_1 H := by rw [e_2]; exact wf67 hP
    have hw := hw w_1 e_2
    refine lv_aload_n hx hb dX5_setCut_32 rfl (lv_at hl 0 rfl) ?_
    refine va_get (D := D) (ci := 7) (v := .int (w_1.1 67 0)) (C := RX5) (T := TX5) (N := 30) hx hb hts in_X5 hown hK hP 33 (wg33 ca ad w_1) rfl 25 (by decide) lk_87 (fun _ h9 => h9) rfl dX5_setCut_33 ?_
    refine lv_if_le (tgt := 41) hx hb dX5_setCut_36 (by decide) (fun c_3 => ?_) (fun c_3 => ?_)
    · have hw := hw.1 c_3
      refine lv_aload_n hx hb dX5_setCut_41 rfl (lv_at hl 0 rfl) ?_
      refine va_get (D := D) (ci := 7) (v := .ref (ad 35)) (C := RX5) (T := TX5) (N := 30) hx hb hts in_X5 hown hK hP 33 (wg33 ca ad w_1) rfl 1 (by decide) lk_13 (fun _ h9 => h9) rfl dX5_setCut_42 ?_
      refine lv_iconst (v := 5) hx hb dX5_setCut_45 (by decide) ?_
      refine lv_iload_n hx hb dX5_setCut_46 rfl (lv_at hl 1 rfl) ?_
      refine lv_imul hx hb dX5_setCut_47 ?_
      refine lv_iload_n hx hb dX5_setCut_48 rfl (lv_at hl 2 rfl) ?_
      refine lv_iadd hx hb dX5_setCut_49 ?_
      obtain ⟨h_4, hw⟩ := hw
      refine va_zald hx hb hK hP 35 1 (wg35 ca ad w_1) rfl h_4 dX5_setCut_50 ?_
      refine lv_istore (lv' := [(4, .int (w_1.1 35 (((5 * a0) + a1)).toNatClampNeg)), (0, .ref (ad 33)), (1, .int a0), (2, .int a1), (3, .int a2)]) hx hb dX5_setCut_51 hl (by decide) rfl (fun ls hl => ?_)
      refine lv_aload_n hx hb dX5_setCut_53 rfl (lv_at hl 1 rfl) ?_
      refine va_get (D := D) (ci := 7) (v := .ref (ad 35)) (C := RX5) (T := TX5) (N := 30) hx hb hts in_X5 hown hK hP 33 (wg33 ca ad w_1) rfl 1 (by decide) lk_13 (fun _ h9 => h9) rfl dX5_setCut_54 ?_
      refine lv_iconst (v := 5) hx hb dX5_setCut_57 (by decide) ?_
      refine lv_iload_n hx hb dX5_setCut_58 rfl (lv_at hl 2 rfl) ?_
      refine lv_imul hx hb dX5_setCut_59 ?_
      refine lv_iload_n hx hb dX5_setCut_60 rfl (lv_at hl 3 rfl) ?_
      refine lv_iadd hx hb dX5_setCut_61 ?_
      refine lv_iload_n hx hb dX5_setCut_62 rfl (lv_at hl 4 rfl) ?_
      obtain ⟨h_5, hw⟩ := hw
      refine va_zast hx hb hK hP (DA hAd) hS 35 1 (wg35 ca ad w_1) rfl h_5 dX5_setCut_63 (fun H locs hP hD hS => ?_)
      obtain ⟨w_6, e_7⟩ : ∃ z : St, z = (uA w_1 35 (upd (w_1.1 35) (((5 * a0) + a1)).toNatClampNeg (vp_nar .boolean a2))) := ⟨_, rfl⟩
      have hP : PA D ca ad w_6 H := by rw [e_7]; exact wu35 hP
      have hw := hw w_6 e_7
      refine lv_aload_n hx hb dX5_setCut_64 rfl (lv_at hl 1 rfl) ?_
      refine va_get (D := D) (ci := 7) (v := .ref (ad 35)) (C := RX5) (T := TX5) (N := 30) hx hb hts in_X5 hown hK hP 33 (wg33 ca ad w_6) rfl 1 (by decide) lk_13 (fun _ h9 => h9) rfl dX5_setCut_65 ?_
      refine lv_iconst (v := 5) hx hb dX5_setCut_68 (by decide) ?_
      refine lv_iload_n hx hb dX5_setCut_69 rfl (lv_at hl 3 rfl) ?_
      refine lv_imul hx hb dX5_setCut_70 ?_
      refine lv_iload_n hx hb dX5_setCut_71 rfl (lv_at hl 2 rfl) ?_
      refine lv_iadd hx hb dX5_setCut_72 ?_
      refine lv_iload_n hx hb dX5_setCut_73 rfl (lv_at hl 4 rfl) ?_
      obtain ⟨h_8, hw⟩ := hw
      refine va_zast hx hb hK hP (DA hAd) hS 35 1 (wg35 ca ad w_6) rfl h_8 dX5_setCut_74 (fun H locs hP hD hS => ?_)
      obtain ⟨w_9, e_10⟩ : ∃ z : St, z = (uA w_6 35 (upd (w_6.1 35) (((5 * a1) + a0)).toNatClampNeg (vp_nar .boolean a2))) := ⟨_, rfl⟩
      have hP : PA D ca ad w_9 H := by rw [e_10]; exact wu35 hP
      have hw := hw w_9 e_10
      refine lv_iload hx hb dX5_setCut_75 (lv_at hl 0 rfl) ?_
      obtain ⟨hn9, hw⟩ := hw
      exact W.zret (v := (w_1.1 35 (((5 * a0) + a1)).toNatClampNeg)) hx hb hr hn9 (fun t ht hW => ⟨⟨(w_1.1 35 (((5 * a0) + a1)).toNatClampNeg), w_9, rfl, hw, by show PA D ca ad w_9 t.heap; rw [ht]; exact hP⟩, hS.F ht⟩) hS.2.2 dX5_setCut_77
    · have hw := hw.2 c_3
      refine lv_iconst (v := 0) hx hb dX5_setCut_39 (by decide) ?_
      exact W.zret (v := 0) hx hb hr (by decide) (fun t ht hW => ⟨⟨0, w_1, rfl, hw, by show PA D ca ad w_1 t.heap; rw [ht]; exact hP⟩, hS.F ht⟩) hS.2.2 dX5_setCut_40
  have hB15 : ∀ (w : St), wpX5_setCut_B15 a0 a1 a2 post w → ∀ (H : Heap) (locs : List Loc), PA D ca ad w H → va_S (AB base) s.heap H locs → ∀ ls : Array Slot, lv_has ls 5 [(0, .ref (ad 33)), (1, .int a0), (2, .int a1), (3, .int a2)] → W p l e (headSpec wsX5_setCut ({ frames := 2, cells := 0, slots := 0, locals := 42 } : Room)).room s m ([Value.ref (ad 33), Value.int a0, Value.int a1, Value.int a2].toArray) below meth c H locs 0 0 (MQ below (va_Qi post (Bp D ca ad) (AB base)) ([Value.ref (ad 33), Value.int a0, Value.int a1, Value.int a2].toArray) s 0 0 (AB base)) (F0 m 15 ls [.ref (ad 33)]) := by
    intro w hw H locs hP hS ls hl
    refine lv_iconst (v := 1) hx hb dX5_setCut_15 (by decide) ?_
    refine lv_goto (tgt := 29) hx hb dX5_setCut_16 (by decide) ?_
    exact hB29 1 w hw _ _ hP hS ls (lv_sub hl [0, 1, 2, 3] rfl)
  have hl := lv_entry ([.ref (ad 33), .int a0, .int a1, .int a2]) (n := 5) (Nat.le_of_ble_eq_true rfl)
  rw [lg_entry_eq]
  generalize (lg_sl ([.ref (ad 33), .int a0, .int a1, .int a2]) ++ List.replicate (5 - (lg_sl ([.ref (ad 33), .int a0, .int a1, .int a2])).length) Slot.unset).toArray = ls at hl ⊢
  have hl : lv_has ls 5 [(0, .ref (ad 33)), (1, .int a0), (2, .int a1), (3, .int a2)] := hl
  refine lv_aload_n hx hb dX5_setCut_0 rfl (lv_at hl 0 rfl) ?_
  refine lv_iload_n hx hb dX5_setCut_1 rfl (lv_at hl 1 rfl) ?_
  refine va_calli (va_runS (As := [.int a0]) (rest := [.ref (ad 33)]) ⟨hx, hb, hml, hown, hts⟩ (mX5_isMember l D ca ad base hAd w a0 _ hw) (va_cwS 1 hts gX5_setCut_X5_isMember rfl rfl rfl (by decide +kernel) ⟨Nat.le_of_ble_eq_true rfl, Nat.le_of_ble_eq_true rfl⟩) (ps [.int a0] hK hP hbs hS) rfl rfl hl.1 rfl (lv_room (Nat.le_of_ble_eq_true rfl)) dX5_setCut_2 ⟨Nat.le_of_ble_eq_true rfl, Nat.le_of_ble_eq_true rfl⟩) hS (fun q _ h => h) (fun q h => h) (fun r_12 w_11 t H locs ht hvm hw hP hz1 hk1 hS => ?_)
  have hP : PA D ca ad w_11 H := by rw [← ht]; exact hP
  refine lv_if_eq (tgt := 15) hx hb dX5_setCut_5 (by decide) (fun c_13 => ?_) (fun c_13 => ?_)
  · have hw := hw.1 c_13
    exact hB15 w_11 hw _ _ hP hS ls (lv_sub hl [0, 1, 2, 3] rfl)
  · have hw := hw.2 c_13
    refine lv_iload_n hx hb dX5_setCut_8 rfl (lv_at hl 2 rfl) ?_
    refine va_calli (va_runS (As := [.int a1]) (rest := [.ref (ad 33)]) ⟨hx, hb, hml, hown, hts⟩ (mX5_isMember l D ca ad base hAd w_11 a1 _ hw) (va_cwS 1 hts gX5_setCut_X5_isMember rfl rfl rfl (by decide +kernel) ⟨Nat.le_of_ble_eq_true rfl, Nat.le_of_ble_eq_true rfl⟩) (ps [.int a1] hK hP hbs hS) rfl rfl hl.1 rfl (lv_room (Nat.le_of_ble_eq_true rfl)) dX5_setCut_9 ⟨Nat.le_of_ble_eq_true rfl, Nat.le_of_ble_eq_true rfl⟩) hS (fun q _ h => h) (fun q h => h) (fun r_15 w_14 t H locs ht hvm hw hP hz1 hk1 hS => ?_)
    have hP : PA D ca ad w_14 H := by rw [← ht]; exact hP
    refine lv_if_ne (tgt := 19) hx hb dX5_setCut_12 (by decide) (fun c_16 => ?_) (fun c_16 => ?_)
    · have hw := hw.2 c_16
      refine lv_iload_n hx hb dX5_setCut_19 rfl (lv_at hl 1 rfl) ?_
      refine lv_iload_n hx hb dX5_setCut_20 rfl (lv_at hl 2 rfl) ?_
      refine lv_icmp_ne (tgt := 28) hx hb dX5_setCut_21 (by decide) (fun c_17 => ?_) (fun c_17 => ?_)
      · have hw := hw.2 c_17
        refine lv_iconst (v := 0) hx hb dX5_setCut_28 (by decide) ?_
        exact hB29 0 w_14 hw _ _ hP hS ls (lv_sub hl [0, 1, 2, 3] rfl)
      · have hw := hw.1 c_17
        refine lv_iconst (v := 2) hx hb dX5_setCut_24 (by decide) ?_
        refine lv_goto (tgt := 29) hx hb dX5_setCut_25 (by decide) ?_
        exact hB29 2 w_14 hw _ _ hP hS ls (lv_sub hl [0, 1, 2, 3] rfl)
    · have hw := hw.1 c_16
      exact hB15 w_14 hw _ _ hP hS ls (lv_sub hl [0, 1, 2, 3] rfl)
set_option maxHeartbeats 4000000 in
set_option maxRecDepth 100000 in
def wpX5_reaches (a0 : Int32) (a1 : Int32) (w : St) (post : Int32 → St → Prop) : Prop := (vp_in a0 5) ∧ (((w.1 34 (a0).toNatClampNeg) = 0 → ((vp_in a1 5) ∧ (((w.1 34 (a1).toNatClampNeg) = 0 → ((vp_in ((5 * a0) + a1) 25) ∧ (((w.1 35 (((5 * a0) + a1)).toNatClampNeg) = 0 → (post 1 w)) ∧ (¬ ((w.1 35 (((5 * a0) + a1)).toNatClampNeg) = 0) → (post 0 w))))) ∧ (¬ ((w.1 34 (a1).toNatClampNeg) = 0) → (post 0 w))))) ∧ (¬ ((w.1 34 (a0).toNatClampNeg) = 0) → (post 0 w)))
set_option maxHeartbeats 4000000 in
set_option maxRecDepth 100000 in
theorem mX5_reaches (l : Launch) (D : va_G) (ca : Nat → ClassId) (ad : Nat → Nat) (base : Nat) (hAd : okA base ad) (w : St) (a0 : Int32) (a1 : Int32) (post : Int32 → St → Prop) (hw : wpX5_reaches a0 a1 w post) : Met l yX5_reaches wsX5_reaches ({ frames := 0, cells := 0, slots := 0, locals := 0 } : Room) (va_Pc [.ref (ad 33), .int a0, .int a1] (BU D ca ad base w)) (va_Qi post (Bp D ca ad) (AB base)) 0 0 (AB base) := by
  refine Met.ofW (cc := cX5_reaches) (maxL := 3) (ret := (some .boolean)) (by decide) rfl ?_
  intro p e s m args below meth c s₁ B hml hv
  obtain ⟨rfl, hbs, hP, hK⟩ := hv
  have hx := B.exec
  have hb := B.bytes
  have hr := B.returns
  have hts := atoms_spec (ws := wsX5_reaches) B.pre
  have hown : s.vm.findClass RX5 = some m.cls := findClass_of_methodNamed B.named
  have hlocks := B.notSynchronized
  have in_X5 : ∀ w ∈ wsX50, w ∈ wsX5_reaches := by decide +kernel
  have lk_7 := hts (.fieldLink RX5 7 "LockQuorumModel" "areDown" "[Z") (by decide +kernel)
  have lk_13 := hts (.fieldLink RX5 13 "LockQuorumModel" "areCut" "[Z") (by decide +kernel)
  have hS : va_S (AB base) s.heap s.heap [] := va_S.rf
  have hl := lv_entry ([.ref (ad 33), .int a0, .int a1]) (n := 3) (Nat.le_of_ble_eq_true rfl)
  rw [lg_entry_eq]
  generalize (lg_sl ([.ref (ad 33), .int a0, .int a1]) ++ List.replicate (3 - (lg_sl ([.ref (ad 33), .int a0, .int a1])).length) Slot.unset).toArray = ls at hl ⊢
  have hl : lv_has ls 3 [(0, .ref (ad 33)), (1, .int a0), (2, .int a1)] := hl
  refine lv_aload_n hx hb dX5_reaches_0 rfl (lv_at hl 0 rfl) ?_
  refine va_get (D := D) (ci := 7) (v := .ref (ad 34)) (C := RX5) (T := TX5) (N := 30) hx hb hts in_X5 hown hK hP 33 (wg33 ca ad w) rfl 0 (by decide) lk_7 (fun _ h9 => h9) rfl dX5_reaches_1 ?_
  refine lv_iload_n hx hb dX5_reaches_4 rfl (lv_at hl 1 rfl) ?_
  obtain ⟨h_1, hw⟩ := hw
  refine va_zald hx hb hK hP 34 1 (wg34 ca ad w) rfl h_1 dX5_reaches_5 ?_
  refine lv_if_ne (tgt := 35) hx hb dX5_reaches_6 (by decide) (fun c_2 => ?_) (fun c_2 => ?_)
  · have hw := hw.2 c_2
    refine lv_iconst (v := 0) hx hb dX5_reaches_35 (by decide) ?_
    exact W.zret (v := 0) hx hb hr (by decide) (fun t ht hW => ⟨⟨0, w, rfl, hw, by show PA D ca ad w t.heap; rw [ht]; exact hP⟩, hS.F ht⟩) hS.2.2 dX5_reaches_36
  · have hw := hw.1 c_2
    refine lv_aload_n hx hb dX5_reaches_9 rfl (lv_at hl 0 rfl) ?_
    refine va_get (D := D) (ci := 7) (v := .ref (ad 34)) (C := RX5) (T := TX5) (N := 30) hx hb hts in_X5 hown hK hP 33 (wg33 ca ad w) rfl 0 (by decide) lk_7 (fun _ h9 => h9) rfl dX5_reaches_10 ?_
    refine lv_iload_n hx hb dX5_reaches_13 rfl (lv_at hl 2 rfl) ?_
    obtain ⟨h_3, hw⟩ := hw
    refine va_zald hx hb hK hP 34 1 (wg34 ca ad w) rfl h_3 dX5_reaches_14 ?_
    refine lv_if_ne (tgt := 35) hx hb dX5_reaches_15 (by decide) (fun c_4 => ?_) (fun c_4 => ?_)
    · have hw := hw.2 c_4
      refine lv_iconst (v := 0) hx hb dX5_reaches_35 (by decide) ?_
      exact W.zret (v := 0) hx hb hr (by decide) (fun t ht hW => ⟨⟨0, w, rfl, hw, by show PA D ca ad w t.heap; rw [ht]; exact hP⟩, hS.F ht⟩) hS.2.2 dX5_reaches_36
    · have hw := hw.1 c_4
      refine lv_aload_n hx hb dX5_reaches_18 rfl (lv_at hl 0 rfl) ?_
      refine va_get (D := D) (ci := 7) (v := .ref (ad 35)) (C := RX5) (T := TX5) (N := 30) hx hb hts in_X5 hown hK hP 33 (wg33 ca ad w) rfl 1 (by decide) lk_13 (fun _ h9 => h9) rfl dX5_reaches_19 ?_
      refine lv_iconst (v := 5) hx hb dX5_reaches_22 (by decide) ?_
      refine lv_iload_n hx hb dX5_reaches_23 rfl (lv_at hl 1 rfl) ?_
      refine lv_imul hx hb dX5_reaches_24 ?_
      refine lv_iload_n hx hb dX5_reaches_25 rfl (lv_at hl 2 rfl) ?_
      refine lv_iadd hx hb dX5_reaches_26 ?_
      obtain ⟨h_5, hw⟩ := hw
      refine va_zald hx hb hK hP 35 1 (wg35 ca ad w) rfl h_5 dX5_reaches_27 ?_
      refine lv_if_ne (tgt := 35) hx hb dX5_reaches_28 (by decide) (fun c_6 => ?_) (fun c_6 => ?_)
      · have hw := hw.2 c_6
        refine lv_iconst (v := 0) hx hb dX5_reaches_35 (by decide) ?_
        exact W.zret (v := 0) hx hb hr (by decide) (fun t ht hW => ⟨⟨0, w, rfl, hw, by show PA D ca ad w t.heap; rw [ht]; exact hP⟩, hS.F ht⟩) hS.2.2 dX5_reaches_36
      · have hw := hw.1 c_6
        refine lv_iconst (v := 1) hx hb dX5_reaches_31 (by decide) ?_
        refine lv_goto (tgt := 36) hx hb dX5_reaches_32 (by decide) ?_
        exact W.zret (v := 1) hx hb hr (by decide) (fun t ht hW => ⟨⟨1, w, rfl, hw, by show PA D ca ad w t.heap; rw [ht]; exact hP⟩, hS.F ht⟩) hS.2.2 dX5_reaches_36
set_option maxHeartbeats 4000000 in
set_option maxRecDepth 100000 in
def wpX5_reachedBy_B24 (a0 : Int32) (post : Int32 → St → Prop) (K4 : Int32 → Int32 → St → Prop) (v3 : Int32) (s0 : Int32) (s1 : Int32) (w : St) : Prop := K4 (s1 + s0) (v3 + 1) w
set_option maxHeartbeats 4000000 in
set_option maxRecDepth 100000 in
def wpX5_reachedBy_L4 (a0 : Int32) (post : Int32 → St → Prop) : Nat → Int32 → Int32 → St → Prop
  | 0, _, _, _ => False
  | n + 1, v2, v3, w => (5 ≤ v3 → (post v2 w)) ∧ (¬ (5 ≤ v3) → (wpX5_reaches a0 v3 w (fun r_3 w_2 => (r_3 = 0 → (wpX5_reachedBy_B24 a0 post (fun v2 v3 w => wpX5_reachedBy_L4 a0 post n v2 v3 w) v3 0 v2 w_2)) ∧ (¬ (r_3 = 0) → (wpX5_reachedBy_B24 a0 post (fun v2 v3 w => wpX5_reachedBy_L4 a0 post n v2 v3 w) v3 1 v2 w_2)))))
set_option maxHeartbeats 4000000 in
set_option maxRecDepth 100000 in
def wpX5_reachedBy (a0 : Int32) (w : St) (post : Int32 → St → Prop) : Prop := ∃ n : Nat, wpX5_reachedBy_L4 a0 post n 0 0 w
set_option maxHeartbeats 4000000 in
set_option maxRecDepth 100000 in
theorem mX5_reachedBy (l : Launch) (D : va_G) (ca : Nat → ClassId) (ad : Nat → Nat) (base : Nat) (hAd : okA base ad) (w : St) (a0 : Int32) (post : Int32 → St → Prop) (hw : wpX5_reachedBy a0 w post) : Met l yX5_reachedBy wsX5_reachedBy ({ frames := 1, cells := 0, slots := 0, locals := 22 } : Room) (va_Pc [.ref (ad 33), .int a0] (BU D ca ad base w)) (va_Qi post (Bp D ca ad) (AB base)) 0 0 (AB base) := by
  refine Met.ofW (cc := cX5_reachedBy) (maxL := 4) (ret := (some .int)) (by decide) rfl ?_
  intro p e s m args below meth c s₁ B hml hv
  obtain ⟨rfl, hbs, hP, hK⟩ := hv
  have hx := B.exec
  have hb := B.bytes
  have hr := B.returns
  have hts := atoms_spec (ws := wsX5_reachedBy) B.pre
  have hown : s.vm.findClass RX5 = some m.cls := findClass_of_methodNamed B.named
  have hlocks := B.notSynchronized
  have hS : va_S (AB base) s.heap s.heap [] := va_S.rf
  have hB4 : ∀ (n : Nat) (v2 : Int32) (v3 : Int32) (w : St), wpX5_reachedBy_L4 a0 post n v2 v3 w → ∀ (H : Heap) (locs : List Loc), PA D ca ad w H → va_S (AB base) s.heap H locs → ∀ ls : Array Slot, lv_has ls 4 [(0, .ref (ad 33)), (1, .int a0), (2, .int v2), (3, .int v3)] → W p l e (headSpec wsX5_reachedBy ({ frames := 1, cells := 0, slots := 0, locals := 22 } : Room)).room s m ([Value.ref (ad 33), Value.int a0].toArray) below meth c H locs 0 0 (MQ below (va_Qi post (Bp D ca ad) (AB base)) ([Value.ref (ad 33), Value.int a0].toArray) s 0 0 (AB base)) (F0 m 4 ls []) := by
    intro n
    induction n with
    | zero => intro v2 v3 w hw; exact hw.elim
    | succ n ih4 =>
      have hB24 : ∀ (v3 : Int32) (s0 : Int32) (s1 : Int32) (w : St), wpX5_reachedBy_B24 a0 post (fun v2 v3 w => wpX5_reachedBy_L4 a0 post n v2 v3 w) v3 s0 s1 w → ∀ (H : Heap) (locs : List Loc), PA D ca ad w H → va_S (AB base) s.heap H locs → ∀ ls : Array Slot, lv_has ls 4 [(0, .ref (ad 33)), (1, .int a0), (3, .int v3)] → W p l e (headSpec wsX5_reachedBy ({ frames := 1, cells := 0, slots := 0, locals := 22 } : Room)).room s m ([Value.ref (ad 33), Value.int a0].toArray) below meth c H locs 0 0 (MQ below (va_Qi post (Bp D ca ad) (AB base)) ([Value.ref (ad 33), Value.int a0].toArray) s 0 0 (AB base)) (F0 m 24 ls [.int s0, .int s1]) := by
        intro v3 s0 s1 w hw H locs hP hS ls hl
        refine lv_iadd hx hb dX5_reachedBy_24 ?_
        refine lv_istore_n (lv' := [(2, .int (s1 + s0)), (0, .ref (ad 33)), (1, .int a0), (3, .int v3)]) hx hb dX5_reachedBy_25 rfl hl (by decide) rfl (fun ls hl => ?_)
        refine lv_iinc (v := (v3 + 1)) (lv' := [(3, .int (v3 + 1)), (2, .int (s1 + s0)), (0, .ref (ad 33)), (1, .int a0)]) hx hb dX5_reachedBy_26 hl (k := 3) rfl rfl (by decide) rfl (fun ls hl => ?_)
        refine lv_goto (tgt := 4) hx hb dX5_reachedBy_29 (by decide) ?_
        exact ih4 (s1 + s0) (v3 + 1) w hw _ _ hP hS ls (lv_sub hl [2, 3, 1, 0] rfl)
      intro v2 v3 w hw H locs hP hS ls hl
      refine lv_iload_n hx hb dX5_reachedBy_4 rfl (lv_at hl 3 rfl) ?_
      refine lv_iconst (v := 5) hx hb dX5_reachedBy_5 (by decide) ?_
      refine lv_icmp_ge (tgt := 32) hx hb dX5_reachedBy_6 (by decide) (fun c_1 => ?_) (fun c_1 => ?_)
      · have hw := hw.1 c_1
        refine lv_iload_n hx hb dX5_reachedBy_32 rfl (lv_at hl 2 rfl) ?_
        exact W.iret (v := v2) hx hb hr (fun t ht hW => ⟨⟨v2, w, rfl, hw, by show PA D ca ad w t.heap; rw [ht]; exact hP⟩, hS.F ht⟩) hS.2.2 dX5_reachedBy_33
      · have hw := hw.2 c_1
        refine lv_iload_n hx hb dX5_reachedBy_9 rfl (lv_at hl 2 rfl) ?_
        refine lv_aload_n hx hb dX5_reachedBy_10 rfl (lv_at hl 0 rfl) ?_
        refine lv_iload_n hx hb dX5_reachedBy_11 rfl (lv_at hl 1 rfl) ?_
        refine lv_iload_n hx hb dX5_reachedBy_12 rfl (lv_at hl 3 rfl) ?_
        refine va_calli (va_runV (As := [.int a0, .int v3]) (rest := [.int v2]) ⟨hx, hb, hml, hown, hts⟩ (mX5_reaches l D ca ad base hAd w a0 v3 _ hw) (cwV 2 hts gX5_reachedBy_X5_reaches rfl rfl rfl (by decide +kernel) ⟨Nat.le_of_ble_eq_true rfl, Nat.le_of_ble_eq_true rfl⟩) (pv [.int a0, .int v3] hK hP hbs hS rfl (wg33 ca ad w)) rfl rfl hl.1 rfl (lv_room (Nat.le_of_ble_eq_true rfl)) dX5_reachedBy_13 ⟨Nat.le_of_ble_eq_true rfl, Nat.le_of_ble_eq_true rfl⟩) hS (fun q _ h => h) (fun q h => h) (fun r_3 w_2 t H locs ht hvm hw hP hz1 hk1 hS => ?_)
        have hP : PA D ca ad w_2 H := by rw [← ht]; exact hP
        refine lv_if_eq (tgt := 23) hx hb dX5_reachedBy_16 (by decide) (fun c_4 => ?_) (fun c_4 => ?_)
        · have hw := hw.1 c_4
          refine lv_iconst (v := 0) hx hb dX5_reachedBy_23 (by decide) ?_
          exact hB24 v3 0 v2 w_2 hw _ _ hP hS ls (lv_sub hl [0, 1, 3] rfl)
        · have hw := hw.2 c_4
          refine lv_iconst (v := 1) hx hb dX5_reachedBy_19 (by decide) ?_
          refine lv_goto (tgt := 24) hx hb dX5_reachedBy_20 (by decide) ?_
          exact hB24 v3 1 v2 w_2 hw _ _ hP hS ls (lv_sub hl [0, 1, 3] rfl)
  have hl := lv_entry ([.ref (ad 33), .int a0]) (n := 4) (Nat.le_of_ble_eq_true rfl)
  rw [lg_entry_eq]
  generalize (lg_sl ([.ref (ad 33), .int a0]) ++ List.replicate (4 - (lg_sl ([.ref (ad 33), .int a0])).length) Slot.unset).toArray = ls at hl ⊢
  have hl : lv_has ls 4 [(0, .ref (ad 33)), (1, .int a0)] := hl
  refine lv_iconst (v := 0) hx hb dX5_reachedBy_0 (by decide) ?_
  refine lv_istore_n (lv' := [(2, .int 0), (0, .ref (ad 33)), (1, .int a0)]) hx hb dX5_reachedBy_1 rfl hl (by decide) rfl (fun ls hl => ?_)
  refine lv_iconst (v := 0) hx hb dX5_reachedBy_2 (by decide) ?_
  refine lv_istore_n (lv' := [(3, .int 0), (2, .int 0), (0, .ref (ad 33)), (1, .int a0)]) hx hb dX5_reachedBy_3 rfl hl (by decide) rfl (fun ls hl => ?_)
  obtain ⟨n_4, hw⟩ := hw
  exact hB4 n_4 0 0 w hw _ _ hP hS ls (lv_sub hl [2, 3, 1, 0] rfl)
set_option maxHeartbeats 4000000 in
set_option maxRecDepth 100000 in
def wpX5_reached (a0 : Int32) (w : St) (post : Int32 → St → Prop) : Prop := wpX5_isMember a0 w (fun r_2 w_1 => wpX5_checked r_2 w_1 (fun r_4 w_3 => (r_4 ≤ 0 → (wpX5_reachedBy a0 w_3 (fun r_7 w_6 => post r_7 w_6))) ∧ (¬ (r_4 ≤ 0) → (post 0 w_3))))
set_option maxHeartbeats 4000000 in
set_option maxRecDepth 100000 in
theorem mX5_reached (l : Launch) (D : va_G) (ca : Nat → ClassId) (ad : Nat → Nat) (base : Nat) (hAd : okA base ad) (w : St) (a0 : Int32) (post : Int32 → St → Prop) (hw : wpX5_reached a0 w post) : Met l yX5_reached wsX5_reached ({ frames := 2, cells := 0, slots := 0, locals := 45 } : Room) (va_Pc [.ref (ad 33), .int a0] (BU D ca ad base w)) (va_Qi post (Bp D ca ad) (AB base)) 0 0 (AB base) := by
  refine Met.ofW (cc := cX5_reached) (maxL := 2) (ret := (some .int)) (by decide) rfl ?_
  intro p e s m args below meth c s₁ B hml hv
  obtain ⟨rfl, hbs, hP, hK⟩ := hv
  have hx := B.exec
  have hb := B.bytes
  have hr := B.returns
  have hts := atoms_spec (ws := wsX5_reached) B.pre
  have hown : s.vm.findClass RX5 = some m.cls := findClass_of_methodNamed B.named
  have hlocks := B.notSynchronized
  have hS : va_S (AB base) s.heap s.heap [] := va_S.rf
  have hl := lv_entry ([.ref (ad 33), .int a0]) (n := 2) (Nat.le_of_ble_eq_true rfl)
  rw [lg_entry_eq]
  generalize (lg_sl ([.ref (ad 33), .int a0]) ++ List.replicate (2 - (lg_sl ([.ref (ad 33), .int a0])).length) Slot.unset).toArray = ls at hl ⊢
  have hl : lv_has ls 2 [(0, .ref (ad 33)), (1, .int a0)] := hl
  refine lv_aload_n hx hb dX5_reached_0 rfl (lv_at hl 0 rfl) ?_
  refine lv_iload_n hx hb dX5_reached_1 rfl (lv_at hl 1 rfl) ?_
  refine va_calli (va_runS (As := [.int a0]) (rest := [.ref (ad 33)]) ⟨hx, hb, hml, hown, hts⟩ (mX5_isMember l D ca ad base hAd w a0 _ hw) (va_cwS 1 hts gX5_reached_X5_isMember rfl rfl rfl (by decide +kernel) ⟨Nat.le_of_ble_eq_true rfl, Nat.le_of_ble_eq_true rfl⟩) (ps [.int a0] hK hP hbs hS) rfl rfl hl.1 rfl (lv_room (Nat.le_of_ble_eq_true rfl)) dX5_reached_2 ⟨Nat.le_of_ble_eq_true rfl, Nat.le_of_ble_eq_true rfl⟩) hS (fun q _ h => h) (fun q h => h) (fun r_2 w_1 t H locs ht hvm hw hP hz1 hk1 hS => ?_)
  have hP : PA D ca ad w_1 H := by rw [← ht]; exact hP
  refine va_calli (va_runV (As := [.int r_2]) (rest := []) ⟨hx, hb, hml, hown, hts⟩ (mX5_checked l D ca ad base hAd w_1 r_2 _ hw) (cwV 1 hts gX5_reached_X5_checked rfl rfl rfl (by decide +kernel) ⟨Nat.le_of_ble_eq_true rfl, Nat.le_of_ble_eq_true rfl⟩) (pv [.int r_2] hK hP hbs hS rfl (wg33 ca ad w_1)) rfl rfl hl.1 rfl (lv_room (Nat.le_of_ble_eq_true rfl)) dX5_reached_5 ⟨Nat.le_of_ble_eq_true rfl, Nat.le_of_ble_eq_true rfl⟩) hS (fun q _ h => h) (fun q h => h) (fun r_4 w_3 t H locs ht hvm hw hP hz1 hk1 hS => ?_)
  have hP : PA D ca ad w_3 H := by rw [← ht]; exact hP
  refine lv_if_le (tgt := 15) hx hb dX5_reached_8 (by decide) (fun c_5 => ?_) (fun c_5 => ?_)
  · have hw := hw.1 c_5
    refine lv_aload_n hx hb dX5_reached_15 rfl (lv_at hl 0 rfl) ?_
    refine lv_iload_n hx hb dX5_reached_16 rfl (lv_at hl 1 rfl) ?_
    refine va_calli (va_runV (As := [.int a0]) (rest := []) ⟨hx, hb, hml, hown, hts⟩ (mX5_reachedBy l D ca ad base hAd w_3 a0 _ hw) (cwV 1 hts gX5_reached_X5_reachedBy rfl rfl rfl (by decide +kernel) ⟨Nat.le_of_ble_eq_true rfl, Nat.le_of_ble_eq_true rfl⟩) (pv [.int a0] hK hP hbs hS rfl (wg33 ca ad w_3)) rfl rfl hl.1 rfl (lv_room (Nat.le_of_ble_eq_true rfl)) dX5_reached_17 ⟨Nat.le_of_ble_eq_true rfl, Nat.le_of_ble_eq_true rfl⟩) hS (fun q _ h => h) (fun q h => h) (fun r_7 w_6 t H locs ht hvm hw hP hz1 hk1 hS => ?_)
    have hP : PA D ca ad w_6 H := by rw [← ht]; exact hP
    exact W.iret (v := r_7) hx hb hr (fun t ht hW => ⟨⟨r_7, w_6, rfl, hw, by show PA D ca ad w_6 t.heap; rw [ht]; exact hP⟩, hS.F ht⟩) hS.2.2 dX5_reached_20
  · have hw := hw.2 c_5
    refine lv_iconst (v := 0) hx hb dX5_reached_11 (by decide) ?_
    refine lv_goto (tgt := 20) hx hb dX5_reached_12 (by decide) ?_
    exact W.iret (v := 0) hx hb hr (fun t ht hW => ⟨⟨0, w_3, rfl, hw, by show PA D ca ad w_3 t.heap; rw [ht]; exact hP⟩, hS.F ht⟩) hS.2.2 dX5_reached_20
set_option maxHeartbeats 4000000 in
set_option maxRecDepth 100000 in
def wpX5_stand_B124 (a0 : Int32) (post : Int32 → St → Prop) (K52 : Int32 → Int32 → St → Prop) (v2 : Int32) (v3 : Int32) (w : St) : Prop := K52 v2 (v3 + 1) w
set_option maxHeartbeats 4000000 in
set_option maxRecDepth 100000 in
def wpX5_stand_B122 (a0 : Int32) (post : Int32 → St → Prop) (K52 : Int32 → Int32 → St → Prop) (v3 : Int32) (s0 : Int32) (s1 : Int32) (w : St) : Prop := wpX5_stand_B124 a0 post K52 (s1 + s0) v3 w
set_option maxHeartbeats 4000000 in
set_option maxRecDepth 100000 in
def wpX5_stand_L52 (a0 : Int32) (post : Int32 → St → Prop) : Nat → Int32 → Int32 → St → Prop
  | 0, _, _, _ => False
  | n + 1, v2, v3, w => (5 ≤ v3 → ((v2 < 3 → (post v2 w)) ∧ (¬ (v2 < 3) → ((vp_in a0 5) ∧ ((vp_in a0 5) ∧ (∀ w_5 : St, w_5 = (uA w 40 (upd (w.1 40) (a0).toNatClampNeg (w.1 39 (a0).toNatClampNeg))) → (vp_in a0 5) ∧ ((vp_in (w_5.1 39 (a0).toNatClampNeg) 600) ∧ (∀ w_9 : St, w_9 = (uA w_5 42 (upd (w_5.1 42) ((w_5.1 39 (a0).toNatClampNeg)).toNatClampNeg (a0 + 1))) → post v2 w_9)))))))) ∧ (¬ (5 ≤ v3) → ((v3 = a0 → (wpX5_stand_B124 a0 post (fun v2 v3 w => wpX5_stand_L52 a0 post n v2 v3 w) v2 v3 w)) ∧ (¬ (v3 = a0) → (wpX5_reaches a0 v3 w (fun r_13 w_12 => (r_13 = 0 → (wpX5_stand_B124 a0 post (fun v2 v3 w => wpX5_stand_L52 a0 post n v2 v3 w) v2 v3 w_12)) ∧ (¬ (r_13 = 0) → ((vp_in v3 5) ∧ ((vp_in a0 5) ∧ (((w_12.1 39 (v3).toNatClampNeg) < (w_12.1 39 (a0).toNatClampNeg) → ((vp_in a0 5) ∧ ((vp_in v3 5) ∧ (∀ w_20 : St, w_20 = (uA w_12 39 (upd (w_12.1 39) (v3).toNatClampNeg (w_12.1 39 (a0).toNatClampNeg))) → (vp_in v3 5) ∧ ((vp_in a0 5) ∧ (((w_20.1 41 (v3).toNatClampNeg) ≤ (w_20.1 41 (a0).toNatClampNeg) → (wpX5_stand_B122 a0 post (fun v2 v3 w => wpX5_stand_L52 a0 post n v2 v3 w) v3 1 v2 w_20)) ∧ (¬ ((w_20.1 41 (v3).toNatClampNeg) ≤ (w_20.1 41 (a0).toNatClampNeg)) → (wpX5_stand_B122 a0 post (fun v2 v3 w => wpX5_stand_L52 a0 post n v2 v3 w) v3 0 v2 w_20)))))))) ∧ (¬ ((w_12.1 39 (v3).toNatClampNeg) < (w_12.1 39 (a0).toNatClampNeg)) → (wpX5_stand_B124 a0 post (fun v2 v3 w => wpX5_stand_L52 a0 post n v2 v3 w) v2 v3 w_12)))))))))))
set_option maxHeartbeats 4000000 in
set_option maxRecDepth 100000 in
def wpX5_stand_B26 (a0 : Int32) (post : Int32 → St → Prop) (s0 : Int32) (w : St) : Prop := ∀ w_25 : St, w_25 = (uI w 67 s0) → ((w_25.1 67 0) ≤ 0 → ((vp_in a0 5) ∧ ((vp_in a0 5) ∧ (∀ w_30 : St, w_30 = (uA w_25 39 (upd (w_25.1 39) (a0).toNatClampNeg ((w_25.1 39 (a0).toNatClampNeg) + 1))) → ∃ n : Nat, wpX5_stand_L52 a0 post n 1 0 w_30)))) ∧ (¬ ((w_25.1 67 0) ≤ 0) → (post 0 w_25))
set_option maxHeartbeats 4000000 in
set_option maxRecDepth 100000 in
def wpX5_stand (a0 : Int32) (w : St) (post : Int32 → St → Prop) : Prop := wpX5_isMember a0 w (fun r_33 w_32 => (r_33 = 0 → (wpX5_stand_B26 a0 post 1 w_32)) ∧ (¬ (r_33 = 0) → ((vp_in a0 5) ∧ (((w_32.1 34 (a0).toNatClampNeg) = 0 → (wpX5_stand_B26 a0 post 0 w_32)) ∧ (¬ ((w_32.1 34 (a0).toNatClampNeg) = 0) → (wpX5_stand_B26 a0 post 2 w_32))))))
set_option maxHeartbeats 4000000 in
set_option maxRecDepth 100000 in
theorem mX5_stand (l : Launch) (D : va_G) (ca : Nat → ClassId) (ad : Nat → Nat) (base : Nat) (hAd : okA base ad) (w : St) (a0 : Int32) (post : Int32 → St → Prop) (hw : wpX5_stand a0 w post) : Met l yX5_stand wsX5_stand ({ frames := 2, cells := 0, slots := 0, locals := 42 } : Room) (va_Pc [.ref (ad 33), .int a0] (BU D ca ad base w)) (va_Qi post (Bp D ca ad) (AB base)) 0 0 (AB base) := by
  refine Met.ofW (cc := cX5_stand) (maxL := 4) (ret := (some .int)) (by decide) rfl ?_
  intro p e s m args below meth c s₁ B hml hv
  obtain ⟨rfl, hbs, hP, hK⟩ := hv
  have hx := B.exec
  have hb := B.bytes
  have hr := B.returns
  have hts := atoms_spec (ws := wsX5_stand) B.pre
  have hown : s.vm.findClass RX5 = some m.cls := findClass_of_methodNamed B.named
  have hlocks := B.notSynchronized
  have in_X5 : ∀ w ∈ wsX50, w ∈ wsX5_stand := by decide +kernel
  have lk_7 := hts (.fieldLink RX5 7 "LockQuorumModel" "areDown" "[Z") (by decide +kernel)
  have lk_25 := hts (.fieldLink RX5 25 "LockQuorumModel" "terms" "[I") (by decide +kernel)
  have lk_29 := hts (.fieldLink RX5 29 "LockQuorumModel" "led" "[I") (by decide +kernel)
  have lk_32 := hts (.fieldLink RX5 32 "LockQuorumModel" "known" "[I") (by decide +kernel)
  have lk_35 := hts (.fieldLink RX5 35 "LockQuorumModel" "leaders" "[I") (by decide +kernel)
  have lk_87 := hts (.fieldLink RX5 87 "LockQuorumModel" "thrown" "I") (by decide +kernel)
  have hS : va_S (AB base) s.heap s.heap [] := va_S.rf
  have hB52 : ∀ (n : Nat) (v2 : Int32) (v3 : Int32) (w : St), wpX5_stand_L52 a0 post n v2 v3 w → ∀ (H : Heap) (locs : List Loc), PA D ca ad w H → va_S (AB base) s.heap H locs → ∀ ls : Array Slot, lv_has ls 4 [(0, .ref (ad 33)), (1, .int a0), (2, .int v2), (3, .int v3)] → W p l e (headSpec wsX5_stand ({ frames := 2, cells := 0, slots := 0, locals := 42 } : Room)).room s m ([Value.ref (ad 33), Value.int a0].toArray) below meth c H locs 0 0 (MQ below (va_Qi post (Bp D ca ad) (AB base)) ([Value.ref (ad 33), Value.int a0].toArray) s 0 0 (AB base)) (F0 m 52 ls []) := by
    intro n
    induction n with
    | zero => intro v2 v3 w hw; exact hw.elim
    | succ n ih52 =>
      have hB124 : ∀ (v2 : Int32) (v3 : Int32) (w : St), wpX5_stand_B124 a0 post (fun v2 v3 w => wpX5_stand_L52 a0 post n v2 v3 w) v2 v3 w → ∀ (H : Heap) (locs : List Loc), PA D ca ad w H → va_S (AB base) s.heap H locs → ∀ ls : Array Slot, lv_has ls 4 [(0, .ref (ad 33)), (1, .int a0), (2, .int v2), (3, .int v3)] → W p l e (headSpec wsX5_stand ({ frames := 2, cells := 0, slots := 0, locals := 42 } : Room)).room s m ([Value.ref (ad 33), Value.int a0].toArray) below meth c H locs 0 0 (MQ below (va_Qi post (Bp D ca ad) (AB base)) ([Value.ref (ad 33), Value.int a0].toArray) s 0 0 (AB base)) (F0 m 124 ls []) := by
        intro v2 v3 w hw H locs hP hS ls hl
        refine lv_iinc (v := (v3 + 1)) (lv' := [(3, .int (v3 + 1)), (0, .ref (ad 33)), (1, .int a0), (2, .int v2)]) hx hb dX5_stand_124 hl (k := 3) rfl rfl (by decide) rfl (fun ls hl => ?_)
        refine lv_goto (tgt := 52) hx hb dX5_stand_127 (by decide) ?_
        exact ih52 v2 (v3 + 1) w hw _ _ hP hS ls (lv_sub hl [1, 2, 3, 0] rfl)
      have hB122 : ∀ (v3 : Int32) (s0 : Int32) (s1 : Int32) (w : St), wpX5_stand_B122 a0 post (fun v2 v3 w => wpX5_stand_L52 a0 post n v2 v3 w) v3 s0 s1 w → ∀ (H : Heap) (locs : List Loc), PA D ca ad w H → va_S (AB base) s.heap H locs → ∀ ls : Array Slot, lv_has ls 4 [(0, .ref (ad 33)), (1, .int a0), (3, .int v3)] → W p l e (headSpec wsX5_stand ({ frames := 2, cells := 0, slots := 0, locals := 42 } : Room)).room s m ([Value.ref (ad 33), Value.int a0].toArray) below meth c H locs 0 0 (MQ below (va_Qi post (Bp D ca ad) (AB base)) ([Value.ref (ad 33), Value.int a0].toArray) s 0 0 (AB base)) (F0 m 122 ls [.int s0, .int s1]) := by
        intro v3 s0 s1 w hw H locs hP hS ls hl
        refine lv_iadd hx hb dX5_stand_122 ?_
        refine lv_istore_n (lv' := [(2, .int (s1 + s0)), (0, .ref (ad 33)), (1, .int a0), (3, .int v3)]) hx hb dX5_stand_123 rfl hl (by decide) rfl (fun ls hl => ?_)
        exact hB124 (s1 + s0) v3 w hw _ _ hP hS ls (lv_sub hl [1, 2, 0, 3] rfl)
      intro v2 v3 w hw H locs hP hS ls hl
      refine lv_iload_n hx hb dX5_stand_52 rfl (lv_at hl 3 rfl) ?_
      refine lv_iconst (v := 5) hx hb dX5_stand_53 (by decide) ?_
      refine lv_icmp_ge (tgt := 130) hx hb dX5_stand_54 (by decide) (fun c_1 => ?_) (fun c_1 => ?_)
      · have hw := hw.1 c_1
        refine lv_iload_n hx hb dX5_stand_130 rfl (lv_at hl 2 rfl) ?_
        refine lv_iconst (v := 3) hx hb dX5_stand_131 (by decide) ?_
        refine lv_icmp_lt (tgt := 161) hx hb dX5_stand_132 (by decide) (fun c_2 => ?_) (fun c_2 => ?_)
        · have hw := hw.1 c_2
          refine lv_iload_n hx hb dX5_stand_161 rfl (lv_at hl 2 rfl) ?_
          exact W.iret (v := v2) hx hb hr (fun t ht hW => ⟨⟨v2, w, rfl, hw, by show PA D ca ad w t.heap; rw [ht]; exact hP⟩, hS.F ht⟩) hS.2.2 dX5_stand_162
        · have hw := hw.2 c_2
          refine lv_aload_n hx hb dX5_stand_135 rfl (lv_at hl 0 rfl) ?_
          refine va_get (D := D) (ci := 7) (v := .ref (ad 40)) (C := RX5) (T := TX5) (N := 30) hx hb hts in_X5 hown hK hP 33 (wg33 ca ad w) rfl 6 (by decide) lk_29 (fun _ h9 => h9) rfl dX5_stand_136 ?_
          refine lv_iload_n hx hb dX5_stand_139 rfl (lv_at hl 1 rfl) ?_
          refine lv_aload_n hx hb dX5_stand_140 rfl (lv_at hl 0 rfl) ?_
          refine va_get (D := D) (ci := 7) (v := .ref (ad 39)) (C := RX5) (T := TX5) (N := 30) hx hb hts in_X5 hown hK hP 33 (wg33 ca ad w) rfl 5 (by decide) lk_25 (fun _ h9 => h9) rfl dX5_stand_141 ?_
          refine lv_iload_n hx hb dX5_stand_144 rfl (lv_at hl 1 rfl) ?_
          obtain ⟨h_3, hw⟩ := hw
          refine va_iald hx hb hK hP 39 0 (wg39 ca ad w) rfl h_3 dX5_stand_145 ?_
          obtain ⟨h_4, hw⟩ := hw
          refine va_iast hx hb hK hP (DA hAd) hS 40 0 (wg40 ca ad w) rfl h_4 dX5_stand_146 (fun H locs hP hD hS => ?_)
          obtain ⟨w_5, e_6⟩ : ∃ z : St, z = (uA w 40 (upd (w.1 40) (a0).toNatClampNeg (w.1 39 (a0).toNatClampNeg))) := ⟨_, rfl⟩
          have hP : PA D ca ad w_5 H := by rw [e_6]; exact wu40 hP
          have hw := hw w_5 e_6
          refine lv_aload_n hx hb dX5_stand_147 rfl (lv_at hl 0 rfl) ?_
          refine va_get (D := D) (ci := 7) (v := .ref (ad 42)) (C := RX5) (T := TX5) (N := 30) hx hb hts in_X5 hown hK hP 33 (wg33 ca ad w_5) rfl 8 (by decide) lk_35 (fun _ h9 => h9) rfl dX5_stand_148 ?_
          refine lv_aload_n hx hb dX5_stand_151 rfl (lv_at hl 0 rfl) ?_
          refine va_get (D := D) (ci := 7) (v := .ref (ad 39)) (C := RX5) (T := TX5) (N := 30) hx hb hts in_X5 hown hK hP 33 (wg33 ca ad w_5) rfl 5 (by decide) lk_25 (fun _ h9 => h9) rfl dX5_stand_152 ?_
          refine lv_iload_n hx hb dX5_stand_155 rfl (lv_at hl 1 rfl) ?_
          obtain ⟨h_7, hw⟩ := hw
          refine va_iald hx hb hK hP 39 0 (wg39 ca ad w_5) rfl h_7 dX5_stand_156 ?_
          refine lv_iload_n hx hb dX5_stand_157 rfl (lv_at hl 1 rfl) ?_
          refine lv_iconst (v := 1) hx hb dX5_stand_158 (by decide) ?_
          refine lv_iadd hx hb dX5_stand_159 ?_
          obtain ⟨h_8, hw⟩ := hw
          refine va_iast hx hb hK hP (DA hAd) hS 42 0 (wg42 ca ad w_5) rfl h_8 dX5_stand_160 (fun H locs hP hD hS => ?_)
          obtain ⟨w_9, e_10⟩ : ∃ z : St, z = (uA w_5 42 (upd (w_5.1 42) ((w_5.1 39 (a0).toNatClampNeg)).toNatClampNeg (a0 + 1))) := ⟨_, rfl⟩
          have hP : PA D ca ad w_9 H := by rw [e_10]; exact wu42 hP
          have hw := hw w_9 e_10
          refine lv_iload_n hx hb dX5_stand_161 rfl (lv_at hl 2 rfl) ?_
          exact W.iret (v := v2) hx hb hr (fun t ht hW => ⟨⟨v2, w_9, rfl, hw, by show PA D ca ad w_9 t.heap; rw [ht]; exact hP⟩, hS.F ht⟩) hS.2.2 dX5_stand_162
      · have hw := hw.2 c_1
        refine lv_iload_n hx hb dX5_stand_57 rfl (lv_at hl 3 rfl) ?_
        refine lv_iload_n hx hb dX5_stand_58 rfl (lv_at hl 1 rfl) ?_
        refine lv_icmp_eq (tgt := 124) hx hb dX5_stand_59 (by decide) (fun c_11 => ?_) (fun c_11 => ?_)
        · have hw := hw.1 c_11
          exact hB124 v2 v3 w hw _ _ hP hS ls (lv_sub hl [0, 1, 2, 3] rfl)
        · have hw := hw.2 c_11
          refine lv_aload_n hx hb dX5_stand_62 rfl (lv_at hl 0 rfl) ?_
          refine lv_iload_n hx hb dX5_stand_63 rfl (lv_at hl 1 rfl) ?_
          refine lv_iload_n hx hb dX5_stand_64 rfl (lv_at hl 3 rfl) ?_
          refine va_calli (va_runV (As := [.int a0, .int v3]) (rest := []) ⟨hx, hb, hml, hown, hts⟩ (mX5_reaches l D ca ad base hAd w a0 v3 _ hw) (cwV 2 hts gX5_stand_X5_reaches rfl rfl rfl (by decide +kernel) ⟨Nat.le_of_ble_eq_true rfl, Nat.le_of_ble_eq_true rfl⟩) (pv [.int a0, .int v3] hK hP hbs hS rfl (wg33 ca ad w)) rfl rfl hl.1 rfl (lv_room (Nat.le_of_ble_eq_true rfl)) dX5_stand_65 ⟨Nat.le_of_ble_eq_true rfl, Nat.le_of_ble_eq_true rfl⟩) hS (fun q _ h => h) (fun q h => h) (fun r_13 w_12 t H locs ht hvm hw hP hz1 hk1 hS => ?_)
          have hP : PA D ca ad w_12 H := by rw [← ht]; exact hP
          refine lv_if_eq (tgt := 124) hx hb dX5_stand_68 (by decide) (fun c_14 => ?_) (fun c_14 => ?_)
          · have hw := hw.1 c_14
            exact hB124 v2 v3 w_12 hw _ _ hP hS ls (lv_sub hl [0, 1, 2, 3] rfl)
          · have hw := hw.2 c_14
            refine lv_aload_n hx hb dX5_stand_71 rfl (lv_at hl 0 rfl) ?_
            refine va_get (D := D) (ci := 7) (v := .ref (ad 39)) (C := RX5) (T := TX5) (N := 30) hx hb hts in_X5 hown hK hP 33 (wg33 ca ad w_12) rfl 5 (by decide) lk_25 (fun _ h9 => h9) rfl dX5_stand_72 ?_
            refine lv_iload_n hx hb dX5_stand_75 rfl (lv_at hl 3 rfl) ?_
            obtain ⟨h_15, hw⟩ := hw
            refine va_iald hx hb hK hP 39 0 (wg39 ca ad w_12) rfl h_15 dX5_stand_76 ?_
            refine lv_aload_n hx hb dX5_stand_77 rfl (lv_at hl 0 rfl) ?_
            refine va_get (D := D) (ci := 7) (v := .ref (ad 39)) (C := RX5) (T := TX5) (N := 30) hx hb hts in_X5 hown hK hP 33 (wg33 ca ad w_12) rfl 5 (by decide) lk_25 (fun _ h9 => h9) rfl dX5_stand_78 ?_
            refine lv_iload_n hx hb dX5_stand_81 rfl (lv_at hl 1 rfl) ?_
            obtain ⟨h_16, hw⟩ := hw
            refine va_iald hx hb hK hP 39 0 (wg39 ca ad w_12) rfl h_16 dX5_stand_82 ?_
            refine lv_icmp_lt (tgt := 89) hx hb dX5_stand_83 (by decide) (fun c_17 => ?_) (fun c_17 => ?_)
            · have hw := hw.1 c_17
              refine lv_aload_n hx hb dX5_stand_89 rfl (lv_at hl 0 rfl) ?_
              refine va_get (D := D) (ci := 7) (v := .ref (ad 39)) (C := RX5) (T := TX5) (N := 30) hx hb hts in_X5 hown hK hP 33 (wg33 ca ad w_12) rfl 5 (by decide) lk_25 (fun _ h9 => h9) rfl dX5_stand_90 ?_
              refine lv_iload_n hx hb dX5_stand_93 rfl (lv_at hl 3 rfl) ?_
              refine lv_aload_n hx hb dX5_stand_94 rfl (lv_at hl 0 rfl) ?_
              refine va_get (D := D) (ci := 7) (v := .ref (ad 39)) (C := RX5) (T := TX5) (N := 30) hx hb hts in_X5 hown hK hP 33 (wg33 ca ad w_12) rfl 5 (by decide) lk_25 (fun _ h9 => h9) rfl dX5_stand_95 ?_
              refine lv_iload_n hx hb dX5_stand_98 rfl (lv_at hl 1 rfl) ?_
              obtain ⟨h_18, hw⟩ := hw
              refine va_iald hx hb hK hP 39 0 (wg39 ca ad w_12) rfl h_18 dX5_stand_99 ?_
              obtain ⟨h_19, hw⟩ := hw
              refine va_iast hx hb hK hP (DA hAd) hS 39 0 (wg39 ca ad w_12) rfl h_19 dX5_stand_100 (fun H locs hP hD hS => ?_)
              obtain ⟨w_20, e_21⟩ : ∃ z : St, z = (uA w_12 39 (upd (w_12.1 39) (v3).toNatClampNeg (w_12.1 39 (a0).toNatClampNeg))) := ⟨_, rfl⟩
              have hP : PA D ca ad w_20 H := by rw [e_21]; exact wu39 hP
              have hw := hw w_20 e_21
              refine lv_iload_n hx hb dX5_stand_101 rfl (lv_at hl 2 rfl) ?_
              refine lv_aload_n hx hb dX5_stand_102 rfl (lv_at hl 0 rfl) ?_
              refine va_get (D := D) (ci := 7) (v := .ref (ad 41)) (C := RX5) (T := TX5) (N := 30) hx hb hts in_X5 hown hK hP 33 (wg33 ca ad w_20) rfl 7 (by decide) lk_32 (fun _ h9 => h9) rfl dX5_stand_103 ?_
              refine lv_iload_n hx hb dX5_stand_106 rfl (lv_at hl 3 rfl) ?_
              obtain ⟨h_22, hw⟩ := hw
              refine va_iald hx hb hK hP 41 0 (wg41 ca ad w_20) rfl h_22 dX5_stand_107 ?_
              refine lv_aload_n hx hb dX5_stand_108 rfl (lv_at hl 0 rfl) ?_
              refine va_get (D := D) (ci := 7) (v := .ref (ad 41)) (C := RX5) (T := TX5) (N := 30) hx hb hts in_X5 hown hK hP 33 (wg33 ca ad w_20) rfl 7 (by decide) lk_32 (fun _ h9 => h9) rfl dX5_stand_109 ?_
              refine lv_iload_n hx hb dX5_stand_112 rfl (lv_at hl 1 rfl) ?_
              obtain ⟨h_23, hw⟩ := hw
              refine va_iald hx hb hK hP 41 0 (wg41 ca ad w_20) rfl h_23 dX5_stand_113 ?_
              refine lv_icmp_le (tgt := 121) hx hb dX5_stand_114 (by decide) (fun c_24 => ?_) (fun c_24 => ?_)
              · have hw := hw.1 c_24
                refine lv_iconst (v := 1) hx hb dX5_stand_121 (by decide) ?_
                exact hB122 v3 1 v2 w_20 hw _ _ hP hS ls (lv_sub hl [0, 1, 3] rfl)
              · have hw := hw.2 c_24
                refine lv_iconst (v := 0) hx hb dX5_stand_117 (by decide) ?_
                refine lv_goto (tgt := 122) hx hb dX5_stand_118 (by decide) ?_
                exact hB122 v3 0 v2 w_20 hw _ _ hP hS ls (lv_sub hl [0, 1, 3] rfl)
            · have hw := hw.2 c_17
              refine lv_goto (tgt := 124) hx hb dX5_stand_86 (by decide) ?_
              exact hB124 v2 v3 w_12 hw _ _ hP hS ls (lv_sub hl [0, 1, 2, 3] rfl)
  have hB26 : ∀ (s0 : Int32) (w : St), wpX5_stand_B26 a0 post s0 w → ∀ (H : Heap) (locs : List Loc), PA D ca ad w H → va_S (AB base) s.heap H locs → ∀ ls : Array Slot, lv_has ls 4 [(0, .ref (ad 33)), (1, .int a0)] → W p l e (headSpec wsX5_stand ({ frames := 2, cells := 0, slots := 0, locals := 42 } : Room)).room s m ([Value.ref (ad 33), Value.int a0].toArray) below meth c H locs 0 0 (MQ below (va_Qi post (Bp D ca ad) (AB base)) ([Value.ref (ad 33), Value.int a0].toArray) s 0 0 (AB base)) (F0 m 26 ls [.int s0, .ref (ad 33)]) := by
    intro s0 w hw H locs hP hS ls hl
    refine va_put (D := D) (ci := 7) (v := .int s0) (ty := .int) (C := RX5) (T := TX5) (N := 30) hx hb hts in_X5 tyX5 tyX5_ok nmX5 hown hK hP (DA hAd) hS 33 (wg33 ca ad w) rfl 25 (by decide) lk_87 (fun _ h9 => h9) rfl (by decide +kernel) rfl rfl (Nat.le_of_ble_eq_true rfl) dX5_stand_26 (fun H locs hP hD hS => ?_)
    obtain ⟨w_25, e_26⟩ : ∃ z : St, z = (uI w 67 s0) := ⟨_, rfl⟩
    have hP : PA D ca ad w_25 H := by rw [e_26]; exact wf67 hP
    have hw := hw w_25 e_26
    refine lv_aload_n hx hb dX5_stand_29 rfl (lv_at hl 0 rfl) ?_
    refine va_get (D := D) (ci := 7) (v := .int (w_25.1 67 0)) (C := RX5) (T := TX5) (N := 30) hx hb hts in_X5 hown hK hP 33 (wg33 ca ad w_25) rfl 25 (by decide) lk_87 (fun _ h9 => h9) rfl dX5_stand_30 ?_
    refine lv_if_le (tgt := 38) hx hb dX5_stand_33 (by decide) (fun c_27 => ?_) (fun c_27 => ?_)
    · have hw := hw.1 c_27
      refine lv_aload_n hx hb dX5_stand_38 rfl (lv_at hl 0 rfl) ?_
      refine va_get (D := D) (ci := 7) (v := .ref (ad 39)) (C := RX5) (T := TX5) (N := 30) hx hb hts in_X5 hown hK hP 33 (wg33 ca ad w_25) rfl 5 (by decide) lk_25 (fun _ h9 => h9) rfl dX5_stand_39 ?_
      refine lv_iload_n hx hb dX5_stand_42 rfl (lv_at hl 1 rfl) ?_
      refine lv_dup2_11 hx hb dX5_stand_43 rfl rfl ?_
      obtain ⟨h_28, hw⟩ := hw
      refine va_iald hx hb hK hP 39 0 (wg39 ca ad w_25) rfl h_28 dX5_stand_44 ?_
      refine lv_iconst (v := 1) hx hb dX5_stand_45 (by decide) ?_
      refine lv_iadd hx hb dX5_stand_46 ?_
      obtain ⟨h_29, hw⟩ := hw
      refine va_iast hx hb hK hP (DA hAd) hS 39 0 (wg39 ca ad w_25) rfl h_29 dX5_stand_47 (fun H locs hP hD hS => ?_)
      obtain ⟨w_30, e_31⟩ : ∃ z : St, z = (uA w_25 39 (upd (w_25.1 39) (a0).toNatClampNeg ((w_25.1 39 (a0).toNatClampNeg) + 1))) := ⟨_, rfl⟩
      have hP : PA D ca ad w_30 H := by rw [e_31]; exact wu39 hP
      have hw := hw w_30 e_31
      refine lv_iconst (v := 1) hx hb dX5_stand_48 (by decide) ?_
      refine lv_istore_n (lv' := [(2, .int 1), (0, .ref (ad 33)), (1, .int a0)]) hx hb dX5_stand_49 rfl hl (by decide) rfl (fun ls hl => ?_)
      refine lv_iconst (v := 0) hx hb dX5_stand_50 (by decide) ?_
      refine lv_istore_n (lv' := [(3, .int 0), (2, .int 1), (0, .ref (ad 33)), (1, .int a0)]) hx hb dX5_stand_51 rfl hl (by decide) rfl (fun ls hl => ?_)
      obtain ⟨n_52, hw⟩ := hw
      exact hB52 n_52 1 0 w_30 hw _ _ hP hS ls (lv_sub hl [2, 3, 1, 0] rfl)
    · have hw := hw.2 c_27
      refine lv_iconst (v := 0) hx hb dX5_stand_36 (by decide) ?_
      exact W.iret (v := 0) hx hb hr (fun t ht hW => ⟨⟨0, w_25, rfl, hw, by show PA D ca ad w_25 t.heap; rw [ht]; exact hP⟩, hS.F ht⟩) hS.2.2 dX5_stand_37
  have hl := lv_entry ([.ref (ad 33), .int a0]) (n := 4) (Nat.le_of_ble_eq_true rfl)
  rw [lg_entry_eq]
  generalize (lg_sl ([.ref (ad 33), .int a0]) ++ List.replicate (4 - (lg_sl ([.ref (ad 33), .int a0])).length) Slot.unset).toArray = ls at hl ⊢
  have hl : lv_has ls 4 [(0, .ref (ad 33)), (1, .int a0)] := hl
  refine lv_aload_n hx hb dX5_stand_0 rfl (lv_at hl 0 rfl) ?_
  refine lv_iload_n hx hb dX5_stand_1 rfl (lv_at hl 1 rfl) ?_
  refine va_calli (va_runS (As := [.int a0]) (rest := [.ref (ad 33)]) ⟨hx, hb, hml, hown, hts⟩ (mX5_isMember l D ca ad base hAd w a0 _ hw) (va_cwS 1 hts gX5_stand_X5_isMember rfl rfl rfl (by decide +kernel) ⟨Nat.le_of_ble_eq_true rfl, Nat.le_of_ble_eq_true rfl⟩) (ps [.int a0] hK hP hbs hS) rfl rfl hl.1 rfl (lv_room (Nat.le_of_ble_eq_true rfl)) dX5_stand_2 ⟨Nat.le_of_ble_eq_true rfl, Nat.le_of_ble_eq_true rfl⟩) hS (fun q _ h => h) (fun q h => h) (fun r_33 w_32 t H locs ht hvm hw hP hz1 hk1 hS => ?_)
  have hP : PA D ca ad w_32 H := by rw [← ht]; exact hP
  refine lv_if_ne (tgt := 12) hx hb dX5_stand_5 (by decide) (fun c_34 => ?_) (fun c_34 => ?_)
  · have hw := hw.2 c_34
    refine lv_aload_n hx hb dX5_stand_12 rfl (lv_at hl 0 rfl) ?_
    refine va_get (D := D) (ci := 7) (v := .ref (ad 34)) (C := RX5) (T := TX5) (N := 30) hx hb hts in_X5 hown hK hP 33 (wg33 ca ad w_32) rfl 0 (by decide) lk_7 (fun _ h9 => h9) rfl dX5_stand_13 ?_
    refine lv_iload_n hx hb dX5_stand_16 rfl (lv_at hl 1 rfl) ?_
    obtain ⟨h_35, hw⟩ := hw
    refine va_zald hx hb hK hP 34 1 (wg34 ca ad w_32) rfl h_35 dX5_stand_17 ?_
    refine lv_if_eq (tgt := 25) hx hb dX5_stand_18 (by decide) (fun c_36 => ?_) (fun c_36 => ?_)
    · have hw := hw.1 c_36
      refine lv_iconst (v := 0) hx hb dX5_stand_25 (by decide) ?_
      exact hB26 0 w_32 hw _ _ hP hS ls (lv_sub hl [0, 1] rfl)
    · have hw := hw.2 c_36
      refine lv_iconst (v := 2) hx hb dX5_stand_21 (by decide) ?_
      refine lv_goto (tgt := 26) hx hb dX5_stand_22 (by decide) ?_
      exact hB26 2 w_32 hw _ _ hP hS ls (lv_sub hl [0, 1] rfl)
  · have hw := hw.1 c_34
    refine lv_iconst (v := 1) hx hb dX5_stand_8 (by decide) ?_
    refine lv_goto (tgt := 26) hx hb dX5_stand_9 (by decide) ?_
    exact hB26 1 w_32 hw _ _ hP hS ls (lv_sub hl [0, 1] rfl)
set_option maxHeartbeats 4000000 in
set_option maxRecDepth 100000 in
def wpX5_termOf (a0 : Int32) (w : St) (post : Int32 → St → Prop) : Prop := wpX5_isMember a0 w (fun r_2 w_1 => wpX5_checked r_2 w_1 (fun r_4 w_3 => (r_4 ≤ 0 → ((vp_in a0 5) ∧ (post (w_3.1 39 (a0).toNatClampNeg) w_3))) ∧ (¬ (r_4 ≤ 0) → (post 0 w_3))))
set_option maxHeartbeats 4000000 in
set_option maxRecDepth 100000 in
theorem mX5_termOf (l : Launch) (D : va_G) (ca : Nat → ClassId) (ad : Nat → Nat) (base : Nat) (hAd : okA base ad) (w : St) (a0 : Int32) (post : Int32 → St → Prop) (hw : wpX5_termOf a0 w post) : Met l yX5_termOf wsX5_termOf ({ frames := 2, cells := 0, slots := 0, locals := 42 } : Room) (va_Pc [.ref (ad 33), .int a0] (BU D ca ad base w)) (va_Qi post (Bp D ca ad) (AB base)) 0 0 (AB base) := by
  refine Met.ofW (cc := cX5_termOf) (maxL := 2) (ret := (some .int)) (by decide) rfl ?_
  intro p e s m args below meth c s₁ B hml hv
  obtain ⟨rfl, hbs, hP, hK⟩ := hv
  have hx := B.exec
  have hb := B.bytes
  have hr := B.returns
  have hts := atoms_spec (ws := wsX5_termOf) B.pre
  have hown : s.vm.findClass RX5 = some m.cls := findClass_of_methodNamed B.named
  have hlocks := B.notSynchronized
  have in_X5 : ∀ w ∈ wsX50, w ∈ wsX5_termOf := by decide +kernel
  have lk_25 := hts (.fieldLink RX5 25 "LockQuorumModel" "terms" "[I") (by decide +kernel)
  have hS : va_S (AB base) s.heap s.heap [] := va_S.rf
  have hl := lv_entry ([.ref (ad 33), .int a0]) (n := 2) (Nat.le_of_ble_eq_true rfl)
  rw [lg_entry_eq]
  generalize (lg_sl ([.ref (ad 33), .int a0]) ++ List.replicate (2 - (lg_sl ([.ref (ad 33), .int a0])).length) Slot.unset).toArray = ls at hl ⊢
  have hl : lv_has ls 2 [(0, .ref (ad 33)), (1, .int a0)] := hl
  refine lv_aload_n hx hb dX5_termOf_0 rfl (lv_at hl 0 rfl) ?_
  refine lv_iload_n hx hb dX5_termOf_1 rfl (lv_at hl 1 rfl) ?_
  refine va_calli (va_runS (As := [.int a0]) (rest := [.ref (ad 33)]) ⟨hx, hb, hml, hown, hts⟩ (mX5_isMember l D ca ad base hAd w a0 _ hw) (va_cwS 1 hts gX5_termOf_X5_isMember rfl rfl rfl (by decide +kernel) ⟨Nat.le_of_ble_eq_true rfl, Nat.le_of_ble_eq_true rfl⟩) (ps [.int a0] hK hP hbs hS) rfl rfl hl.1 rfl (lv_room (Nat.le_of_ble_eq_true rfl)) dX5_termOf_2 ⟨Nat.le_of_ble_eq_true rfl, Nat.le_of_ble_eq_true rfl⟩) hS (fun q _ h => h) (fun q h => h) (fun r_2 w_1 t H locs ht hvm hw hP hz1 hk1 hS => ?_)
  have hP : PA D ca ad w_1 H := by rw [← ht]; exact hP
  refine va_calli (va_runV (As := [.int r_2]) (rest := []) ⟨hx, hb, hml, hown, hts⟩ (mX5_checked l D ca ad base hAd w_1 r_2 _ hw) (cwV 1 hts gX5_termOf_X5_checked rfl rfl rfl (by decide +kernel) ⟨Nat.le_of_ble_eq_true rfl, Nat.le_of_ble_eq_true rfl⟩) (pv [.int r_2] hK hP hbs hS rfl (wg33 ca ad w_1)) rfl rfl hl.1 rfl (lv_room (Nat.le_of_ble_eq_true rfl)) dX5_termOf_5 ⟨Nat.le_of_ble_eq_true rfl, Nat.le_of_ble_eq_true rfl⟩) hS (fun q _ h => h) (fun q h => h) (fun r_4 w_3 t H locs ht hvm hw hP hz1 hk1 hS => ?_)
  have hP : PA D ca ad w_3 H := by rw [← ht]; exact hP
  refine lv_if_le (tgt := 15) hx hb dX5_termOf_8 (by decide) (fun c_5 => ?_) (fun c_5 => ?_)
  · have hw := hw.1 c_5
    refine lv_aload_n hx hb dX5_termOf_15 rfl (lv_at hl 0 rfl) ?_
    refine va_get (D := D) (ci := 7) (v := .ref (ad 39)) (C := RX5) (T := TX5) (N := 30) hx hb hts in_X5 hown hK hP 33 (wg33 ca ad w_3) rfl 5 (by decide) lk_25 (fun _ h9 => h9) rfl dX5_termOf_16 ?_
    refine lv_iload_n hx hb dX5_termOf_19 rfl (lv_at hl 1 rfl) ?_
    obtain ⟨h_6, hw⟩ := hw
    refine va_iald hx hb hK hP 39 0 (wg39 ca ad w_3) rfl h_6 dX5_termOf_20 ?_
    exact W.iret (v := (w_3.1 39 (a0).toNatClampNeg)) hx hb hr (fun t ht hW => ⟨⟨(w_3.1 39 (a0).toNatClampNeg), w_3, rfl, hw, by show PA D ca ad w_3 t.heap; rw [ht]; exact hP⟩, hS.F ht⟩) hS.2.2 dX5_termOf_21
  · have hw := hw.2 c_5
    refine lv_iconst (v := 0) hx hb dX5_termOf_11 (by decide) ?_
    refine lv_goto (tgt := 21) hx hb dX5_termOf_12 (by decide) ?_
    exact W.iret (v := 0) hx hb hr (fun t ht hW => ⟨⟨0, w_3, rfl, hw, by show PA D ca ad w_3 t.heap; rw [ht]; exact hP⟩, hS.F ht⟩) hS.2.2 dX5_termOf_21
set_option maxHeartbeats 4000000 in
set_option maxRecDepth 100000 in
def wpX5_leads (a0 : Int32) (w : St) (post : Int32 → St → Prop) : Prop := (vp_in a0 5) ∧ ((vp_in a0 5) ∧ (((w.1 40 (a0).toNatClampNeg) = (w.1 39 (a0).toNatClampNeg) → (post 1 w)) ∧ (¬ ((w.1 40 (a0).toNatClampNeg) = (w.1 39 (a0).toNatClampNeg)) → (post 0 w))))
set_option maxHeartbeats 4000000 in
set_option maxRecDepth 100000 in
theorem mX5_leads (l : Launch) (D : va_G) (ca : Nat → ClassId) (ad : Nat → Nat) (base : Nat) (hAd : okA base ad) (w : St) (a0 : Int32) (post : Int32 → St → Prop) (hw : wpX5_leads a0 w post) : Met l yX5_leads wsX5_leads ({ frames := 0, cells := 0, slots := 0, locals := 0 } : Room) (va_Pc [.ref (ad 33), .int a0] (BU D ca ad base w)) (va_Qi post (Bp D ca ad) (AB base)) 0 0 (AB base) := by
  refine Met.ofW (cc := cX5_leads) (maxL := 2) (ret := (some .boolean)) (by decide) rfl ?_
  intro p e s m args below meth c s₁ B hml hv
  obtain ⟨rfl, hbs, hP, hK⟩ := hv
  have hx := B.exec
  have hb := B.bytes
  have hr := B.returns
  have hts := atoms_spec (ws := wsX5_leads) B.pre
  have hown : s.vm.findClass RX5 = some m.cls := findClass_of_methodNamed B.named
  have hlocks := B.notSynchronized
  have in_X5 : ∀ w ∈ wsX50, w ∈ wsX5_leads := by decide +kernel
  have lk_25 := hts (.fieldLink RX5 25 "LockQuorumModel" "terms" "[I") (by decide +kernel)
  have lk_29 := hts (.fieldLink RX5 29 "LockQuorumModel" "led" "[I") (by decide +kernel)
  have hS : va_S (AB base) s.heap s.heap [] := va_S.rf
  have hl := lv_entry ([.ref (ad 33), .int a0]) (n := 2) (Nat.le_of_ble_eq_true rfl)
  rw [lg_entry_eq]
  generalize (lg_sl ([.ref (ad 33), .int a0]) ++ List.replicate (2 - (lg_sl ([.ref (ad 33), .int a0])).length) Slot.unset).toArray = ls at hl ⊢
  have hl : lv_has ls 2 [(0, .ref (ad 33)), (1, .int a0)] := hl
  refine lv_aload_n hx hb dX5_leads_0 rfl (lv_at hl 0 rfl) ?_
  refine va_get (D := D) (ci := 7) (v := .ref (ad 40)) (C := RX5) (T := TX5) (N := 30) hx hb hts in_X5 hown hK hP 33 (wg33 ca ad w) rfl 6 (by decide) lk_29 (fun _ h9 => h9) rfl dX5_leads_1 ?_
  refine lv_iload_n hx hb dX5_leads_4 rfl (lv_at hl 1 rfl) ?_
  obtain ⟨h_1, hw⟩ := hw
  refine va_iald hx hb hK hP 40 0 (wg40 ca ad w) rfl h_1 dX5_leads_5 ?_
  refine lv_aload_n hx hb dX5_leads_6 rfl (lv_at hl 0 rfl) ?_
  refine va_get (D := D) (ci := 7) (v := .ref (ad 39)) (C := RX5) (T := TX5) (N := 30) hx hb hts in_X5 hown hK hP 33 (wg33 ca ad w) rfl 5 (by decide) lk_25 (fun _ h9 => h9) rfl dX5_leads_7 ?_
  refine lv_iload_n hx hb dX5_leads_10 rfl (lv_at hl 1 rfl) ?_
  obtain ⟨h_2, hw⟩ := hw
  refine va_iald hx hb hK hP 39 0 (wg39 ca ad w) rfl h_2 dX5_leads_11 ?_
  refine lv_icmp_ne (tgt := 19) hx hb dX5_leads_12 (by decide) (fun c_3 => ?_) (fun c_3 => ?_)
  · have hw := hw.2 c_3
    refine lv_iconst (v := 0) hx hb dX5_leads_19 (by decide) ?_
    exact W.zret (v := 0) hx hb hr (by decide) (fun t ht hW => ⟨⟨0, w, rfl, hw, by show PA D ca ad w t.heap; rw [ht]; exact hP⟩, hS.F ht⟩) hS.2.2 dX5_leads_20
  · have hw := hw.1 c_3
    refine lv_iconst (v := 1) hx hb dX5_leads_15 (by decide) ?_
    refine lv_goto (tgt := 20) hx hb dX5_leads_16 (by decide) ?_
    exact W.zret (v := 1) hx hb hr (by decide) (fun t ht hW => ⟨⟨1, w, rfl, hw, by show PA D ca ad w t.heap; rw [ht]; exact hP⟩, hS.F ht⟩) hS.2.2 dX5_leads_20
set_option maxHeartbeats 4000000 in
set_option maxRecDepth 100000 in
def wpX5_isLeader (a0 : Int32) (w : St) (post : Int32 → St → Prop) : Prop := wpX5_isMember a0 w (fun r_2 w_1 => wpX5_checked r_2 w_1 (fun r_4 w_3 => (r_4 = 0 → (wpX5_leads a0 w_3 (fun r_7 w_6 => (r_7 = 0 → (post 0 w_6)) ∧ (¬ (r_7 = 0) → (post 1 w_6))))) ∧ (¬ (r_4 = 0) → (post 0 w_3))))
set_option maxHeartbeats 4000000 in
set_option maxRecDepth 100000 in
theorem mX5_isLeader (l : Launch) (D : va_G) (ca : Nat → ClassId) (ad : Nat → Nat) (base : Nat) (hAd : okA base ad) (w : St) (a0 : Int32) (post : Int32 → St → Prop) (hw : wpX5_isLeader a0 w post) : Met l yX5_isLeader wsX5_isLeader ({ frames := 2, cells := 0, slots := 0, locals := 42 } : Room) (va_Pc [.ref (ad 33), .int a0] (BU D ca ad base w)) (va_Qi post (Bp D ca ad) (AB base)) 0 0 (AB base) := by
  refine Met.ofW (cc := cX5_isLeader) (maxL := 2) (ret := (some .boolean)) (by decide) rfl ?_
  intro p e s m args below meth c s₁ B hml hv
  obtain ⟨rfl, hbs, hP, hK⟩ := hv
  have hx := B.exec
  have hb := B.bytes
  have hr := B.returns
  have hts := atoms_spec (ws := wsX5_isLeader) B.pre
  have hown : s.vm.findClass RX5 = some m.cls := findClass_of_methodNamed B.named
  have hlocks := B.notSynchronized
  have hS : va_S (AB base) s.heap s.heap [] := va_S.rf
  have hl := lv_entry ([.ref (ad 33), .int a0]) (n := 2) (Nat.le_of_ble_eq_true rfl)
  rw [lg_entry_eq]
  generalize (lg_sl ([.ref (ad 33), .int a0]) ++ List.replicate (2 - (lg_sl ([.ref (ad 33), .int a0])).length) Slot.unset).toArray = ls at hl ⊢
  have hl : lv_has ls 2 [(0, .ref (ad 33)), (1, .int a0)] := hl
  refine lv_aload_n hx hb dX5_isLeader_0 rfl (lv_at hl 0 rfl) ?_
  refine lv_iload_n hx hb dX5_isLeader_1 rfl (lv_at hl 1 rfl) ?_
  refine va_calli (va_runS (As := [.int a0]) (rest := [.ref (ad 33)]) ⟨hx, hb, hml, hown, hts⟩ (mX5_isMember l D ca ad base hAd w a0 _ hw) (va_cwS 1 hts gX5_isLeader_X5_isMember rfl rfl rfl (by decide +kernel) ⟨Nat.le_of_ble_eq_true rfl, Nat.le_of_ble_eq_true rfl⟩) (ps [.int a0] hK hP hbs hS) rfl rfl hl.1 rfl (lv_room (Nat.le_of_ble_eq_true rfl)) dX5_isLeader_2 ⟨Nat.le_of_ble_eq_true rfl, Nat.le_of_ble_eq_true rfl⟩) hS (fun q _ h => h) (fun q h => h) (fun r_2 w_1 t H locs ht hvm hw hP hz1 hk1 hS => ?_)
  have hP : PA D ca ad w_1 H := by rw [← ht]; exact hP
  refine va_calli (va_runV (As := [.int r_2]) (rest := []) ⟨hx, hb, hml, hown, hts⟩ (mX5_checked l D ca ad base hAd w_1 r_2 _ hw) (cwV 1 hts gX5_isLeader_X5_checked rfl rfl rfl (by decide +kernel) ⟨Nat.le_of_ble_eq_true rfl, Nat.le_of_ble_eq_true rfl⟩) (pv [.int r_2] hK hP hbs hS rfl (wg33 ca ad w_1)) rfl rfl hl.1 rfl (lv_room (Nat.le_of_ble_eq_true rfl)) dX5_isLeader_5 ⟨Nat.le_of_ble_eq_true rfl, Nat.le_of_ble_eq_true rfl⟩) hS (fun q _ h => h) (fun q h => h) (fun r_4 w_3 t H locs ht hvm hw hP hz1 hk1 hS => ?_)
  have hP : PA D ca ad w_3 H := by rw [← ht]; exact hP
  refine lv_if_ne (tgt := 23) hx hb dX5_isLeader_8 (by decide) (fun c_5 => ?_) (fun c_5 => ?_)
  · have hw := hw.2 c_5
    refine lv_iconst (v := 0) hx hb dX5_isLeader_23 (by decide) ?_
    exact W.zret (v := 0) hx hb hr (by decide) (fun t ht hW => ⟨⟨0, w_3, rfl, hw, by show PA D ca ad w_3 t.heap; rw [ht]; exact hP⟩, hS.F ht⟩) hS.2.2 dX5_isLeader_24
  · have hw := hw.1 c_5
    refine lv_aload_n hx hb dX5_isLeader_11 rfl (lv_at hl 0 rfl) ?_
    refine lv_iload_n hx hb dX5_isLeader_12 rfl (lv_at hl 1 rfl) ?_
    refine va_calli (va_runV (As := [.int a0]) (rest := []) ⟨hx, hb, hml, hown, hts⟩ (mX5_leads l D ca ad base hAd w_3 a0 _ hw) (cwV 1 hts gX5_isLeader_X5_leads rfl rfl rfl (by decide +kernel) ⟨Nat.le_of_ble_eq_true rfl, Nat.le_of_ble_eq_true rfl⟩) (pv [.int a0] hK hP hbs hS rfl (wg33 ca ad w_3)) rfl rfl hl.1 rfl (lv_room (Nat.le_of_ble_eq_true rfl)) dX5_isLeader_13 ⟨Nat.le_of_ble_eq_true rfl, Nat.le_of_ble_eq_true rfl⟩) hS (fun q _ h => h) (fun q h => h) (fun r_7 w_6 t H locs ht hvm hw hP hz1 hk1 hS => ?_)
    have hP : PA D ca ad w_6 H := by rw [← ht]; exact hP
    refine lv_if_eq (tgt := 23) hx hb dX5_isLeader_16 (by decide) (fun c_8 => ?_) (fun c_8 => ?_)
    · have hw := hw.1 c_8
      refine lv_iconst (v := 0) hx hb dX5_isLeader_23 (by decide) ?_
      exact W.zret (v := 0) hx hb hr (by decide) (fun t ht hW => ⟨⟨0, w_6, rfl, hw, by show PA D ca ad w_6 t.heap; rw [ht]; exact hP⟩, hS.F ht⟩) hS.2.2 dX5_isLeader_24
    · have hw := hw.2 c_8
      refine lv_iconst (v := 1) hx hb dX5_isLeader_19 (by decide) ?_
      refine lv_goto (tgt := 24) hx hb dX5_isLeader_20 (by decide) ?_
      exact W.zret (v := 1) hx hb hr (by decide) (fun t ht hW => ⟨⟨1, w_6, rfl, hw, by show PA D ca ad w_6 t.heap; rw [ht]; exact hP⟩, hS.F ht⟩) hS.2.2 dX5_isLeader_24
set_option maxHeartbeats 4000000 in
set_option maxRecDepth 100000 in
def wpX5_leaderOf_B26 (a0 : Int32) (post : Int32 → St → Prop) (s0 : Int32) (w : St) : Prop := wpX5_checked s0 w (fun r_2 w_1 => (r_2 ≤ 0 → ((vp_in a0 600) ∧ (post ((w_1.1 42 (a0).toNatClampNeg) - 1) w_1))) ∧ (¬ (r_2 ≤ 0) → (post 0 w_1)))
set_option maxHeartbeats 4000000 in
set_option maxRecDepth 100000 in
def wpX5_leaderOf_B25 (a0 : Int32) (post : Int32 → St → Prop) (w : St) : Prop := wpX5_leaderOf_B26 a0 post 0 w
set_option maxHeartbeats 4000000 in
set_option maxRecDepth 100000 in
def wpX5_leaderOf (a0 : Int32) (w : St) (post : Int32 → St → Prop) : Prop := wpX5_in a0 0 599 w (fun r_6 w_5 => (r_6 = 0 → (wpX5_leaderOf_B25 a0 post w_5)) ∧ (¬ (r_6 = 0) → ((vp_in a0 600) ∧ (((w_5.1 42 (a0).toNatClampNeg) ≤ 0 → (wpX5_leaderOf_B25 a0 post w_5)) ∧ (¬ ((w_5.1 42 (a0).toNatClampNeg) ≤ 0) → (wpX5_leaderOf_B26 a0 post 1 w_5))))))
set_option maxHeartbeats 4000000 in
set_option maxRecDepth 100000 in
theorem mX5_leaderOf (l : Launch) (D : va_G) (ca : Nat → ClassId) (ad : Nat → Nat) (base : Nat) (hAd : okA base ad) (w : St) (a0 : Int32) (post : Int32 → St → Prop) (hw : wpX5_leaderOf a0 w post) : Met l yX5_leaderOf wsX5_leaderOf ({ frames := 1, cells := 0, slots := 0, locals := 22 } : Room) (va_Pc [.ref (ad 33), .int a0] (BU D ca ad base w)) (va_Qi post (Bp D ca ad) (AB base)) 0 0 (AB base) := by
  refine Met.ofW (cc := cX5_leaderOf) (maxL := 2) (ret := (some .int)) (by decide) rfl ?_
  intro p e s m args below meth c s₁ B hml hv
  obtain ⟨rfl, hbs, hP, hK⟩ := hv
  have hx := B.exec
  have hb := B.bytes
  have hr := B.returns
  have hts := atoms_spec (ws := wsX5_leaderOf) B.pre
  have hown : s.vm.findClass RX5 = some m.cls := findClass_of_methodNamed B.named
  have hlocks := B.notSynchronized
  have in_X5 : ∀ w ∈ wsX50, w ∈ wsX5_leaderOf := by decide +kernel
  have lk_35 := hts (.fieldLink RX5 35 "LockQuorumModel" "leaders" "[I") (by decide +kernel)
  have hS : va_S (AB base) s.heap s.heap [] := va_S.rf
  have hB26 : ∀ (s0 : Int32) (w : St), wpX5_leaderOf_B26 a0 post s0 w → ∀ (H : Heap) (locs : List Loc), PA D ca ad w H → va_S (AB base) s.heap H locs → ∀ ls : Array Slot, lv_has ls 2 [(0, .ref (ad 33)), (1, .int a0)] → W p l e (headSpec wsX5_leaderOf ({ frames := 1, cells := 0, slots := 0, locals := 22 } : Room)).room s m ([Value.ref (ad 33), Value.int a0].toArray) below meth c H locs 0 0 (MQ below (va_Qi post (Bp D ca ad) (AB base)) ([Value.ref (ad 33), Value.int a0].toArray) s 0 0 (AB base)) (F0 m 26 ls [.int s0, .ref (ad 33)]) := by
    intro s0 w hw H locs hP hS ls hl
    refine va_calli (va_runV (As := [.int s0]) (rest := []) ⟨hx, hb, hml, hown, hts⟩ (mX5_checked l D ca ad base hAd w s0 _ hw) (cwV 1 hts gX5_leaderOf_X5_checked rfl rfl rfl (by decide +kernel) ⟨Nat.le_of_ble_eq_true rfl, Nat.le_of_ble_eq_true rfl⟩) (pv [.int s0] hK hP hbs hS rfl (wg33 ca ad w)) rfl rfl hl.1 rfl (lv_room (Nat.le_of_ble_eq_true rfl)) dX5_leaderOf_26 ⟨Nat.le_of_ble_eq_true rfl, Nat.le_of_ble_eq_true rfl⟩) hS (fun q _ h => h) (fun q h => h) (fun r_2 w_1 t H locs ht hvm hw hP hz1 hk1 hS => ?_)
    have hP : PA D ca ad w_1 H := by rw [← ht]; exact hP
    refine lv_if_le (tgt := 36) hx hb dX5_leaderOf_29 (by decide) (fun c_3 => ?_) (fun c_3 => ?_)
    · have hw := hw.1 c_3
      refine lv_aload_n hx hb dX5_leaderOf_36 rfl (lv_at hl 0 rfl) ?_
      refine va_get (D := D) (ci := 7) (v := .ref (ad 42)) (C := RX5) (T := TX5) (N := 30) hx hb hts in_X5 hown hK hP 33 (wg33 ca ad w_1) rfl 8 (by decide) lk_35 (fun _ h9 => h9) rfl dX5_leaderOf_37 ?_
      refine lv_iload_n hx hb dX5_leaderOf_40 rfl (lv_at hl 1 rfl) ?_
      obtain ⟨h_4, hw⟩ := hw
      refine va_iald hx hb hK hP 42 0 (wg42 ca ad w_1) rfl h_4 dX5_leaderOf_41 ?_
      refine lv_iconst (v := 1) hx hb dX5_leaderOf_42 (by decide) ?_
      refine lv_isub hx hb dX5_leaderOf_43 ?_
      exact W.iret (v := ((w_1.1 42 (a0).toNatClampNeg) - 1)) hx hb hr (fun t ht hW => ⟨⟨((w_1.1 42 (a0).toNatClampNeg) - 1), w_1, rfl, hw, by show PA D ca ad w_1 t.heap; rw [ht]; exact hP⟩, hS.F ht⟩) hS.2.2 dX5_leaderOf_44
    · have hw := hw.2 c_3
      refine lv_iconst (v := 0) hx hb dX5_leaderOf_32 (by decide) ?_
      refine lv_goto (tgt := 44) hx hb dX5_leaderOf_33 (by decide) ?_
      exact W.iret (v := 0) hx hb hr (fun t ht hW => ⟨⟨0, w_1, rfl, hw, by show PA D ca ad w_1 t.heap; rw [ht]; exact hP⟩, hS.F ht⟩) hS.2.2 dX5_leaderOf_44
  have hB25 : ∀ (w : St), wpX5_leaderOf_B25 a0 post w → ∀ (H : Heap) (locs : List Loc), PA D ca ad w H → va_S (AB base) s.heap H locs → ∀ ls : Array Slot, lv_has ls 2 [(0, .ref (ad 33)), (1, .int a0)] → W p l e (headSpec wsX5_leaderOf ({ frames := 1, cells := 0, slots := 0, locals := 22 } : Room)).room s m ([Value.ref (ad 33), Value.int a0].toArray) below meth c H locs 0 0 (MQ below (va_Qi post (Bp D ca ad) (AB base)) ([Value.ref (ad 33), Value.int a0].toArray) s 0 0 (AB base)) (F0 m 25 ls [.ref (ad 33)]) := by
    intro w hw H locs hP hS ls hl
    refine lv_iconst (v := 0) hx hb dX5_leaderOf_25 (by decide) ?_
    exact hB26 0 w hw _ _ hP hS ls (lv_sub hl [0, 1] rfl)
  have hl := lv_entry ([.ref (ad 33), .int a0]) (n := 2) (Nat.le_of_ble_eq_true rfl)
  rw [lg_entry_eq]
  generalize (lg_sl ([.ref (ad 33), .int a0]) ++ List.replicate (2 - (lg_sl ([.ref (ad 33), .int a0])).length) Slot.unset).toArray = ls at hl ⊢
  have hl : lv_has ls 2 [(0, .ref (ad 33)), (1, .int a0)] := hl
  refine lv_aload_n hx hb dX5_leaderOf_0 rfl (lv_at hl 0 rfl) ?_
  refine lv_iload_n hx hb dX5_leaderOf_1 rfl (lv_at hl 1 rfl) ?_
  refine lv_iconst (v := 0) hx hb dX5_leaderOf_2 (by decide) ?_
  refine lv_sipush (v := 599) hx hb dX5_leaderOf_3 (by decide) ?_
  refine va_calli (va_runS (As := [.int a0, .int 0, .int 599]) (rest := [.ref (ad 33)]) ⟨hx, hb, hml, hown, hts⟩ (mX5_in l D ca ad base hAd w a0 0 599 _ hw) (va_cwS 3 hts gX5_leaderOf_X5_in rfl rfl rfl (by decide +kernel) ⟨Nat.le_of_ble_eq_true rfl, Nat.le_of_ble_eq_true rfl⟩) (ps [.int a0, .int 0, .int 599] hK hP hbs hS) rfl rfl hl.1 rfl (lv_room (Nat.le_of_ble_eq_true rfl)) dX5_leaderOf_6 ⟨Nat.le_of_ble_eq_true rfl, Nat.le_of_ble_eq_true rfl⟩) hS (fun q _ h => h) (fun q h => h) (fun r_6 w_5 t H locs ht hvm hw hP hz1 hk1 hS => ?_)
  have hP : PA D ca ad w_5 H := by rw [← ht]; exact hP
  refine lv_if_eq (tgt := 25) hx hb dX5_leaderOf_9 (by decide) (fun c_7 => ?_) (fun c_7 => ?_)
  · have hw := hw.1 c_7
    exact hB25 w_5 hw _ _ hP hS ls (lv_sub hl [0, 1] rfl)
  · have hw := hw.2 c_7
    refine lv_aload_n hx hb dX5_leaderOf_12 rfl (lv_at hl 0 rfl) ?_
    refine va_get (D := D) (ci := 7) (v := .ref (ad 42)) (C := RX5) (T := TX5) (N := 30) hx hb hts in_X5 hown hK hP 33 (wg33 ca ad w_5) rfl 8 (by decide) lk_35 (fun _ h9 => h9) rfl dX5_leaderOf_13 ?_
    refine lv_iload_n hx hb dX5_leaderOf_16 rfl (lv_at hl 1 rfl) ?_
    obtain ⟨h_8, hw⟩ := hw
    refine va_iald hx hb hK hP 42 0 (wg42 ca ad w_5) rfl h_8 dX5_leaderOf_17 ?_
    refine lv_if_le (tgt := 25) hx hb dX5_leaderOf_18 (by decide) (fun c_9 => ?_) (fun c_9 => ?_)
    · have hw := hw.1 c_9
      exact hB25 w_5 hw _ _ hP hS ls (lv_sub hl [0, 1] rfl)
    · have hw := hw.2 c_9
      refine lv_iconst (v := 1) hx hb dX5_leaderOf_21 (by decide) ?_
      refine lv_goto (tgt := 26) hx hb dX5_leaderOf_22 (by decide) ?_
      exact hB26 1 w_5 hw _ _ hP hS ls (lv_sub hl [0, 1] rfl)
set_option maxHeartbeats 4000000 in
set_option maxRecDepth 100000 in
def wpX5_known (a0 : Int32) (w : St) (post : Int32 → St → Prop) : Prop := wpX5_isMember a0 w (fun r_2 w_1 => wpX5_checked r_2 w_1 (fun r_4 w_3 => (r_4 ≤ 0 → ((vp_in a0 5) ∧ (post (w_3.1 41 (a0).toNatClampNeg) w_3))) ∧ (¬ (r_4 ≤ 0) → (post 0 w_3))))
set_option maxHeartbeats 4000000 in
set_option maxRecDepth 100000 in
theorem mX5_known (l : Launch) (D : va_G) (ca : Nat → ClassId) (ad : Nat → Nat) (base : Nat) (hAd : okA base ad) (w : St) (a0 : Int32) (post : Int32 → St → Prop) (hw : wpX5_known a0 w post) : Met l yX5_known wsX5_known ({ frames := 2, cells := 0, slots := 0, locals := 42 } : Room) (va_Pc [.ref (ad 33), .int a0] (BU D ca ad base w)) (va_Qi post (Bp D ca ad) (AB base)) 0 0 (AB base) := by
  refine Met.ofW (cc := cX5_known) (maxL := 2) (ret := (some .int)) (by decide) rfl ?_
  intro p e s m args below meth c s₁ B hml hv
  obtain ⟨rfl, hbs, hP, hK⟩ := hv
  have hx := B.exec
  have hb := B.bytes
  have hr := B.returns
  have hts := atoms_spec (ws := wsX5_known) B.pre
  have hown : s.vm.findClass RX5 = some m.cls := findClass_of_methodNamed B.named
  have hlocks := B.notSynchronized
  have in_X5 : ∀ w ∈ wsX50, w ∈ wsX5_known := by decide +kernel
  have lk_32 := hts (.fieldLink RX5 32 "LockQuorumModel" "known" "[I") (by decide +kernel)
  have hS : va_S (AB base) s.heap s.heap [] := va_S.rf
  have hl := lv_entry ([.ref (ad 33), .int a0]) (n := 2) (Nat.le_of_ble_eq_true rfl)
  rw [lg_entry_eq]
  generalize (lg_sl ([.ref (ad 33), .int a0]) ++ List.replicate (2 - (lg_sl ([.ref (ad 33), .int a0])).length) Slot.unset).toArray = ls at hl ⊢
  have hl : lv_has ls 2 [(0, .ref (ad 33)), (1, .int a0)] := hl
  refine lv_aload_n hx hb dX5_known_0 rfl (lv_at hl 0 rfl) ?_
  refine lv_iload_n hx hb dX5_known_1 rfl (lv_at hl 1 rfl) ?_
  refine va_calli (va_runS (As := [.int a0]) (rest := [.ref (ad 33)]) ⟨hx, hb, hml, hown, hts⟩ (mX5_isMember l D ca ad base hAd w a0 _ hw) (va_cwS 1 hts gX5_known_X5_isMember rfl rfl rfl (by decide +kernel) ⟨Nat.le_of_ble_eq_true rfl, Nat.le_of_ble_eq_true rfl⟩) (ps [.int a0] hK hP hbs hS) rfl rfl hl.1 rfl (lv_room (Nat.le_of_ble_eq_true rfl)) dX5_known_2 ⟨Nat.le_of_ble_eq_true rfl, Nat.le_of_ble_eq_true rfl⟩) hS (fun q _ h => h) (fun q h => h) (fun r_2 w_1 t H locs ht hvm hw hP hz1 hk1 hS => ?_)
  have hP : PA D ca ad w_1 H := by rw [← ht]; exact hP
  refine va_calli (va_runV (As := [.int r_2]) (rest := []) ⟨hx, hb, hml, hown, hts⟩ (mX5_checked l D ca ad base hAd w_1 r_2 _ hw) (cwV 1 hts gX5_known_X5_checked rfl rfl rfl (by decide +kernel) ⟨Nat.le_of_ble_eq_true rfl, Nat.le_of_ble_eq_true rfl⟩) (pv [.int r_2] hK hP hbs hS rfl (wg33 ca ad w_1)) rfl rfl hl.1 rfl (lv_room (Nat.le_of_ble_eq_true rfl)) dX5_known_5 ⟨Nat.le_of_ble_eq_true rfl, Nat.le_of_ble_eq_true rfl⟩) hS (fun q _ h => h) (fun q h => h) (fun r_4 w_3 t H locs ht hvm hw hP hz1 hk1 hS => ?_)
  have hP : PA D ca ad w_3 H := by rw [← ht]; exact hP
  refine lv_if_le (tgt := 15) hx hb dX5_known_8 (by decide) (fun c_5 => ?_) (fun c_5 => ?_)
  · have hw := hw.1 c_5
    refine lv_aload_n hx hb dX5_known_15 rfl (lv_at hl 0 rfl) ?_
    refine va_get (D := D) (ci := 7) (v := .ref (ad 41)) (C := RX5) (T := TX5) (N := 30) hx hb hts in_X5 hown hK hP 33 (wg33 ca ad w_3) rfl 7 (by decide) lk_32 (fun _ h9 => h9) rfl dX5_known_16 ?_
    refine lv_iload_n hx hb dX5_known_19 rfl (lv_at hl 1 rfl) ?_
    obtain ⟨h_6, hw⟩ := hw
    refine va_iald hx hb hK hP 41 0 (wg41 ca ad w_3) rfl h_6 dX5_known_20 ?_
    exact W.iret (v := (w_3.1 41 (a0).toNatClampNeg)) hx hb hr (fun t ht hW => ⟨⟨(w_3.1 41 (a0).toNatClampNeg), w_3, rfl, hw, by show PA D ca ad w_3 t.heap; rw [ht]; exact hP⟩, hS.F ht⟩) hS.2.2 dX5_known_21
  · have hw := hw.2 c_5
    refine lv_iconst (v := 0) hx hb dX5_known_11 (by decide) ?_
    refine lv_goto (tgt := 21) hx hb dX5_known_12 (by decide) ?_
    exact W.iret (v := 0) hx hb hr (fun t ht hW => ⟨⟨0, w_3, rfl, hw, by show PA D ca ad w_3 t.heap; rw [ht]; exact hP⟩, hS.F ht⟩) hS.2.2 dX5_known_21
set_option maxHeartbeats 4000000 in
set_option maxRecDepth 100000 in
def wpX5_ownerBy_B61 (a0 : Int32) (a1 : Int32) (post : Int32 → St → Prop) (K5 : Int32 → Int32 → St → Prop) (v3 : Int32) (v4 : Int32) (w : St) : Prop := K5 v3 (v4 + 1) w
set_option maxHeartbeats 4000000 in
set_option maxRecDepth 100000 in
def wpX5_ownerBy_B60 (a0 : Int32) (a1 : Int32) (post : Int32 → St → Prop) (K5 : Int32 → Int32 → St → Prop) (v4 : Int32) (s0 : Int32) (w : St) : Prop := wpX5_ownerBy_B61 a0 a1 post K5 s0 v4 w
set_option maxHeartbeats 4000000 in
set_option maxRecDepth 100000 in
def wpX5_ownerBy_L5 (a0 : Int32) (a1 : Int32) (post : Int32 → St → Prop) : Nat → Int32 → Int32 → St → Prop
  | 0, _, _, _ => False
  | n + 1, v3, v4, w => (a1 ≤ v4 → (post v3 w)) ∧ (¬ (a1 ≤ v4) → ((vp_in v4 250) ∧ (((w.1 57 (v4).toNatClampNeg) = a0 → ((vp_in v4 250) ∧ (((w.1 55 (v4).toNatClampNeg) = 118 → (wpX5_ownerBy_B61 a0 a1 post (fun v3 v4 w => wpX5_ownerBy_L5 a0 a1 post n v3 v4 w) v3 v4 w)) ∧ (¬ ((w.1 55 (v4).toNatClampNeg) = 118) → ((vp_in v4 250) ∧ (((w.1 55 (v4).toNatClampNeg) = 117 → (wpX5_ownerBy_B60 a0 a1 post (fun v3 v4 w => wpX5_ownerBy_L5 a0 a1 post n v3 v4 w) v4 (-1) w)) ∧ (¬ ((w.1 55 (v4).toNatClampNeg) = 117) → ((vp_in v4 250) ∧ (wpX5_ownerBy_B60 a0 a1 post (fun v3 v4 w => wpX5_ownerBy_L5 a0 a1 post n v3 v4 w) v4 (w.1 58 (v4).toNatClampNeg) w))))))))) ∧ (¬ ((w.1 57 (v4).toNatClampNeg) = a0) → (wpX5_ownerBy_B61 a0 a1 post (fun v3 v4 w => wpX5_ownerBy_L5 a0 a1 post n v3 v4 w) v3 v4 w)))))
set_option maxHeartbeats 4000000 in
set_option maxRecDepth 100000 in
def wpX5_ownerBy (a0 : Int32) (a1 : Int32) (w : St) (post : Int32 → St → Prop) : Prop := ∃ n : Nat, wpX5_ownerBy_L5 a0 a1 post n (-1) 0 w
set_option maxHeartbeats 4000000 in
set_option maxRecDepth 100000 in
theorem mX5_ownerBy (l : Launch) (D : va_G) (ca : Nat → ClassId) (ad : Nat → Nat) (base : Nat) (hAd : okA base ad) (w : St) (a0 : Int32) (a1 : Int32) (post : Int32 → St → Prop) (hw : wpX5_ownerBy a0 a1 w post) : Met l yX5_ownerBy wsX5_ownerBy ({ frames := 0, cells := 0, slots := 0, locals := 0 } : Room) (va_Pc [.ref (ad 33), .int a0, .int a1] (BU D ca ad base w)) (va_Qi post (Bp D ca ad) (AB base)) 0 0 (AB base) := by
  refine Met.ofW (cc := cX5_ownerBy) (maxL := 5) (ret := (some .int)) (by decide) rfl ?_
  intro p e s m args below meth c s₁ B hml hv
  obtain ⟨rfl, hbs, hP, hK⟩ := hv
  have hx := B.exec
  have hb := B.bytes
  have hr := B.returns
  have hts := atoms_spec (ws := wsX5_ownerBy) B.pre
  have hown : s.vm.findClass RX5 = some m.cls := findClass_of_methodNamed B.named
  have hlocks := B.notSynchronized
  have in_X5 : ∀ w ∈ wsX50, w ∈ wsX5_ownerBy := by decide +kernel
  have lk_74 := hts (.fieldLink RX5 74 "LockQuorumModel" "kinds" "[C") (by decide +kernel)
  have lk_81 := hts (.fieldLink RX5 81 "LockQuorumModel" "entryLocks" "[I") (by decide +kernel)
  have lk_84 := hts (.fieldLink RX5 84 "LockQuorumModel" "entryClients" "[I") (by decide +kernel)
  have hS : va_S (AB base) s.heap s.heap [] := va_S.rf
  have hB5 : ∀ (n : Nat) (v3 : Int32) (v4 : Int32) (w : St), wpX5_ownerBy_L5 a0 a1 post n v3 v4 w → ∀ (H : Heap) (locs : List Loc), PA D ca ad w H → va_S (AB base) s.heap H locs → ∀ ls : Array Slot, lv_has ls 5 [(0, .ref (ad 33)), (1, .int a0), (2, .int a1), (3, .int v3), (4, .int v4)] → W p l e (headSpec wsX5_ownerBy ({ frames := 0, cells := 0, slots := 0, locals := 0 } : Room)).room s m ([Value.ref (ad 33), Value.int a0, Value.int a1].toArray) below meth c H locs 0 0 (MQ below (va_Qi post (Bp D ca ad) (AB base)) ([Value.ref (ad 33), Value.int a0, Value.int a1].toArray) s 0 0 (AB base)) (F0 m 5 ls []) := by
    intro n
    induction n with
    | zero => intro v3 v4 w hw; exact hw.elim
    | succ n ih5 =>
      have hB61 : ∀ (v3 : Int32) (v4 : Int32) (w : St), wpX5_ownerBy_B61 a0 a1 post (fun v3 v4 w => wpX5_ownerBy_L5 a0 a1 post n v3 v4 w) v3 v4 w → ∀ (H : Heap) (locs : List Loc), PA D ca ad w H → va_S (AB base) s.heap H locs → ∀ ls : Array Slot, lv_has ls 5 [(0, .ref (ad 33)), (1, .int a0), (2, .int a1), (3, .int v3), (4, .int v4)] → W p l e (headSpec wsX5_ownerBy ({ frames := 0, cells := 0, slots := 0, locals := 0 } : Room)).room s m ([Value.ref (ad 33), Value.int a0, Value.int a1].toArray) below meth c H locs 0 0 (MQ below (va_Qi post (Bp D ca ad) (AB base)) ([Value.ref (ad 33), Value.int a0, Value.int a1].toArray) s 0 0 (AB base)) (F0 m 61 ls []) := by
        intro v3 v4 w hw H locs hP hS ls hl
        refine lv_iinc (v := (v4 + 1)) (lv' := [(4, .int (v4 + 1)), (0, .ref (ad 33)), (1, .int a0), (2, .int a1), (3, .int v3)]) hx hb dX5_ownerBy_61 hl (k := 4) rfl rfl (by decide) rfl (fun ls hl => ?_)
        refine lv_goto (tgt := 5) hx hb dX5_ownerBy_64 (by decide) ?_
        exact ih5 v3 (v4 + 1) w hw _ _ hP hS ls (lv_sub hl [1, 2, 3, 4, 0] rfl)
      have hB60 : ∀ (v4 : Int32) (s0 : Int32) (w : St), wpX5_ownerBy_B60 a0 a1 post (fun v3 v4 w => wpX5_ownerBy_L5 a0 a1 post n v3 v4 w) v4 s0 w → ∀ (H : Heap) (locs : List Loc), PA D ca ad w H → va_S (AB base) s.heap H locs → ∀ ls : Array Slot, lv_has ls 5 [(0, .ref (ad 33)), (1, .int a0), (2, .int a1), (4, .int v4)] → W p l e (headSpec wsX5_ownerBy ({ frames := 0, cells := 0, slots := 0, locals := 0 } : Room)).room s m ([Value.ref (ad 33), Value.int a0, Value.int a1].toArray) below meth c H locs 0 0 (MQ below (va_Qi post (Bp D ca ad) (AB base)) ([Value.ref (ad 33), Value.int a0, Value.int a1].toArray) s 0 0 (AB base)) (F0 m 60 ls [.int s0]) := by
        intro v4 s0 w hw H locs hP hS ls hl
        refine lv_istore_n (lv' := [(3, .int s0), (0, .ref (ad 33)), (1, .int a0), (2, .int a1), (4, .int v4)]) hx hb dX5_ownerBy_60 rfl hl (by decide) rfl (fun ls hl => ?_)
        exact hB61 s0 v4 w hw _ _ hP hS ls (lv_sub hl [1, 2, 3, 0, 4] rfl)
      intro v3 v4 w hw H locs hP hS ls hl
      refine lv_iload hx hb dX5_ownerBy_5 (lv_at hl 4 rfl) ?_
      refine lv_iload_n hx hb dX5_ownerBy_7 rfl (lv_at hl 2 rfl) ?_
      refine lv_icmp_ge (tgt := 67) hx hb dX5_ownerBy_8 (by decide) (fun c_1 => ?_) (fun c_1 => ?_)
      · have hw := hw.1 c_1
        refine lv_iload_n hx hb dX5_ownerBy_67 rfl (lv_at hl 3 rfl) ?_
        exact W.iret (v := v3) hx hb hr (fun t ht hW => ⟨⟨v3, w, rfl, hw, by show PA D ca ad w t.heap; rw [ht]; exact hP⟩, hS.F ht⟩) hS.2.2 dX5_ownerBy_68
      · have hw := hw.2 c_1
        refine lv_aload_n hx hb dX5_ownerBy_11 rfl (lv_at hl 0 rfl) ?_
        refine va_get (D := D) (ci := 7) (v := .ref (ad 57)) (C := RX5) (T := TX5) (N := 30) hx hb hts in_X5 hown hK hP 33 (wg33 ca ad w) rfl 23 (by decide) lk_81 (fun _ h9 => h9) rfl dX5_ownerBy_12 ?_
        refine lv_iload hx hb dX5_ownerBy_15 (lv_at hl 4 rfl) ?_
        obtain ⟨h_2, hw⟩ := hw
        refine va_iald hx hb hK hP 57 0 (wg57 ca ad w) rfl h_2 dX5_ownerBy_17 ?_
        refine lv_iload_n hx hb dX5_ownerBy_18 rfl (lv_at hl 1 rfl) ?_
        refine lv_icmp_ne (tgt := 61) hx hb dX5_ownerBy_19 (by decide) (fun c_3 => ?_) (fun c_3 => ?_)
        · have hw := hw.2 c_3
          exact hB61 v3 v4 w hw _ _ hP hS ls (lv_sub hl [0, 1, 2, 3, 4] rfl)
        · have hw := hw.1 c_3
          refine lv_aload_n hx hb dX5_ownerBy_22 rfl (lv_at hl 0 rfl) ?_
          refine va_get (D := D) (ci := 7) (v := .ref (ad 55)) (C := RX5) (T := TX5) (N := 30) hx hb hts in_X5 hown hK hP 33 (wg33 ca ad w) rfl 21 (by decide) lk_74 (fun _ h9 => h9) rfl dX5_ownerBy_23 ?_
          refine lv_iload hx hb dX5_ownerBy_26 (lv_at hl 4 rfl) ?_
          obtain ⟨h_4, hw⟩ := hw
          refine va_cald hx hb hK hP 55 2 (wg55 ca ad w) rfl h_4 dX5_ownerBy_28 ?_
          refine lv_bipush (v := 118) hx hb dX5_ownerBy_29 (by decide) ?_
          refine lv_icmp_ne (tgt := 37) hx hb dX5_ownerBy_31 (by decide) (fun c_5 => ?_) (fun c_5 => ?_)
          · have hw := hw.2 c_5
            refine lv_aload_n hx hb dX5_ownerBy_37 rfl (lv_at hl 0 rfl) ?_
            refine va_get (D := D) (ci := 7) (v := .ref (ad 55)) (C := RX5) (T := TX5) (N := 30) hx hb hts in_X5 hown hK hP 33 (wg33 ca ad w) rfl 21 (by decide) lk_74 (fun _ h9 => h9) rfl dX5_ownerBy_38 ?_
            refine lv_iload hx hb dX5_ownerBy_41 (lv_at hl 4 rfl) ?_
            obtain ⟨h_6, hw⟩ := hw
            refine va_cald hx hb hK hP 55 2 (wg55 ca ad w) rfl h_6 dX5_ownerBy_43 ?_
            refine lv_bipush (v := 117) hx hb dX5_ownerBy_44 (by decide) ?_
            refine lv_icmp_ne (tgt := 53) hx hb dX5_ownerBy_46 (by decide) (fun c_7 => ?_) (fun c_7 => ?_)
            · have hw := hw.2 c_7
              refine lv_aload_n hx hb dX5_ownerBy_53 rfl (lv_at hl 0 rfl) ?_
              refine va_get (D := D) (ci := 7) (v := .ref (ad 58)) (C := RX5) (T := TX5) (N := 30) hx hb hts in_X5 hown hK hP 33 (wg33 ca ad w) rfl 24 (by decide) lk_84 (fun _ h9 => h9) rfl dX5_ownerBy_54 ?_
              refine lv_iload hx hb dX5_ownerBy_57 (lv_at hl 4 rfl) ?_
              obtain ⟨h_8, hw⟩ := hw
              refine va_iald hx hb hK hP 58 0 (wg58 ca ad w) rfl h_8 dX5_ownerBy_59 ?_
              exact hB60 v4 (w.1 58 (v4).toNatClampNeg) w hw _ _ hP hS ls (lv_sub hl [0, 1, 2, 4] rfl)
            · have hw := hw.1 c_7
              refine lv_iconst (v := (-1)) hx hb dX5_ownerBy_49 (by decide) ?_
              refine lv_goto (tgt := 60) hx hb dX5_ownerBy_50 (by decide) ?_
              exact hB60 v4 (-1) w hw _ _ hP hS ls (lv_sub hl [0, 1, 2, 4] rfl)
          · have hw := hw.1 c_5
            refine lv_goto (tgt := 61) hx hb dX5_ownerBy_34 (by decide) ?_
            exact hB61 v3 v4 w hw _ _ hP hS ls (lv_sub hl [0, 1, 2, 3, 4] rfl)
  have hl := lv_entry ([.ref (ad 33), .int a0, .int a1]) (n := 5) (Nat.le_of_ble_eq_true rfl)
  rw [lg_entry_eq]
  generalize (lg_sl ([.ref (ad 33), .int a0, .int a1]) ++ List.replicate (5 - (lg_sl ([.ref (ad 33), .int a0, .int a1])).length) Slot.unset).toArray = ls at hl ⊢
  have hl : lv_has ls 5 [(0, .ref (ad 33)), (1, .int a0), (2, .int a1)] := hl
  refine lv_iconst (v := (-1)) hx hb dX5_ownerBy_0 (by decide) ?_
  refine lv_istore_n (lv' := [(3, .int (-1)), (0, .ref (ad 33)), (1, .int a0), (2, .int a1)]) hx hb dX5_ownerBy_1 rfl hl (by decide) rfl (fun ls hl => ?_)
  refine lv_iconst (v := 0) hx hb dX5_ownerBy_2 (by decide) ?_
  refine lv_istore (lv' := [(4, .int 0), (3, .int (-1)), (0, .ref (ad 33)), (1, .int a0), (2, .int a1)]) hx hb dX5_ownerBy_3 hl (by decide) rfl (fun ls hl => ?_)
  obtain ⟨n_5, hw⟩ := hw
  exact hB5 n_5 (-1) 0 w hw _ _ hP hS ls (lv_sub hl [2, 3, 4, 1, 0] rfl)
set_option maxHeartbeats 4000000 in
set_option maxRecDepth 100000 in
def wpX5_ownerKnown_B38 (a0 : Int32) (a1 : Int32) (post : Int32 → St → Prop) (s0 : Int32) (w : St) : Prop := ∀ w_1 : St, w_1 = (uI w 67 s0) → ((w_1.1 67 0) ≤ 0 → ((vp_in a0 5) ∧ (wpX5_ownerBy a1 (w_1.1 41 (a0).toNatClampNeg) w_1 (fun r_6 w_5 => post r_6 w_5)))) ∧ (¬ ((w_1.1 67 0) ≤ 0) → (post 0 w_1))
set_option maxHeartbeats 4000000 in
set_option maxRecDepth 100000 in
def wpX5_ownerKnown_B15 (a0 : Int32) (a1 : Int32) (post : Int32 → St → Prop) (w : St) : Prop := wpX5_ownerKnown_B38 a0 a1 post 1 w
set_option maxHeartbeats 4000000 in
set_option maxRecDepth 100000 in
def wpX5_ownerKnown (a0 : Int32) (a1 : Int32) (w : St) (post : Int32 → St → Prop) : Prop := wpX5_isMember a0 w (fun r_8 w_7 => (r_8 = 0 → (wpX5_ownerKnown_B15 a0 a1 post w_7)) ∧ (¬ (r_8 = 0) → (wpX5_isLock a1 w_7 (fun r_11 w_10 => (r_11 = 0 → (wpX5_ownerKnown_B15 a0 a1 post w_10)) ∧ (¬ (r_11 = 0) → ((vp_in a0 5) ∧ (wpX5_ownerBy a1 (w_10.1 41 (a0).toNatClampNeg) w_10 (fun r_15 w_14 => (0 ≤ r_15 → (wpX5_ownerKnown_B38 a0 a1 post 0 w_14)) ∧ (¬ (0 ≤ r_15) → (wpX5_ownerKnown_B38 a0 a1 post 2 w_14))))))))))
set_option maxHeartbeats 4000000 in
set_option maxRecDepth 100000 in
theorem mX5_ownerKnown (l : Launch) (D : va_G) (ca : Nat → ClassId) (ad : Nat → Nat) (base : Nat) (hAd : okA base ad) (w : St) (a0 : Int32) (a1 : Int32) (post : Int32 → St → Prop) (hw : wpX5_ownerKnown a0 a1 w post) : Met l yX5_ownerKnown wsX5_ownerKnown ({ frames := 2, cells := 0, slots := 0, locals := 42 } : Room) (va_Pc [.ref (ad 33), .int a0, .int a1] (BU D ca ad base w)) (va_Qi post (Bp D ca ad) (AB base)) 0 0 (AB base) := by
  refine Met.ofW (cc := cX5_ownerKnown) (maxL := 3) (ret := (some .int)) (by decide) rfl ?_
  intro p e s m args below meth c s₁ B hml hv
  obtain ⟨rfl, hbs, hP, hK⟩ := hv
  have hx := B.exec
  have hb := B.bytes
  have hr := B.returns
  have hts := atoms_spec (ws := wsX5_ownerKnown) B.pre
  have hown : s.vm.findClass RX5 = some m.cls := findClass_of_methodNamed B.named
  have hlocks := B.notSynchronized
  have in_X5 : ∀ w ∈ wsX50, w ∈ wsX5_ownerKnown := by decide +kernel
  have lk_32 := hts (.fieldLink RX5 32 "LockQuorumModel" "known" "[I") (by decide +kernel)
  have lk_87 := hts (.fieldLink RX5 87 "LockQuorumModel" "thrown" "I") (by decide +kernel)
  have hS : va_S (AB base) s.heap s.heap [] := va_S.rf
  have hB38 : ∀ (s0 : Int32) (w : St), wpX5_ownerKnown_B38 a0 a1 post s0 w → ∀ (H : Heap) (locs : List Loc), PA D ca ad w H → va_S (AB base) s.heap H locs → ∀ ls : Array Slot, lv_has ls 3 [(0, .ref (ad 33)), (1, .int a0), (2, .int a1)] → W p l e (headSpec wsX5_ownerKnown ({ frames := 2, cells := 0, slots := 0, locals := 42 } : Room)).room s m ([Value.ref (ad 33), Value.int a0, Value.int a1].toArray) below meth c H locs 0 0 (MQ below (va_Qi post (Bp D ca ad) (AB base)) ([Value.ref (ad 33), Value.int a0, Value.int a1].toArray) s 0 0 (AB base)) (F0 m 38 ls [.int s0, .ref (ad 33)]) := by
    intro s0 w hw H locs hP hS ls hl
    refine va_put (D := D) (ci := 7) (v := .int s0) (ty := .int) (C := RX5) (T := TX5) (N := 30) hx hb hts in_X5 tyX5 tyX5_ok nmX5 hown hK hP (DA hAd) hS 33 (wg33 ca ad w) rfl 25 (by decide) lk_87 (fun _ h9 => h9) rfl (by decide +kernel) rfl rfl (Nat.le_of_ble_eq_true rfl) dX5_ownerKnown_38 (fun H locs hP hD hS => ?_)
    obtain ⟨w_1, e_2⟩ : ∃ z : St, z = (uI w 67 s0) := ⟨_, rfl⟩
    have hP : PA D ca ad w_1 H := by rw [e_2]; exact wf67 hP
    have hw := hw w_1 e_2
    refine lv_aload_n hx hb dX5_ownerKnown_41 rfl (lv_at hl 0 rfl) ?_
    refine va_get (D := D) (ci := 7) (v := .int (w_1.1 67 0)) (C := RX5) (T := TX5) (N := 30) hx hb hts in_X5 hown hK hP 33 (wg33 ca ad w_1) rfl 25 (by decide) lk_87 (fun _ h9 => h9) rfl dX5_ownerKnown_42 ?_
    refine lv_if_le (tgt := 52) hx hb dX5_ownerKnown_45 (by decide) (fun c_3 => ?_) (fun c_3 => ?_)
    · have hw := hw.1 c_3
      refine lv_aload_n hx hb dX5_ownerKnown_52 rfl (lv_at hl 0 rfl) ?_
      refine lv_iload_n hx hb dX5_ownerKnown_53 rfl (lv_at hl 2 rfl) ?_
      refine lv_aload_n hx hb dX5_ownerKnown_54 rfl (lv_at hl 0 rfl) ?_
      refine va_get (D := D) (ci := 7) (v := .ref (ad 41)) (C := RX5) (T := TX5) (N := 30) hx hb hts in_X5 hown hK hP 33 (wg33 ca ad w_1) rfl 7 (by decide) lk_32 (fun _ h9 => h9) rfl dX5_ownerKnown_55 ?_
      refine lv_iload_n hx hb dX5_ownerKnown_58 rfl (lv_at hl 1 rfl) ?_
      obtain ⟨h_4, hw⟩ := hw
      refine va_iald hx hb hK hP 41 0 (wg41 ca ad w_1) rfl h_4 dX5_ownerKnown_59 ?_
      refine va_calli (va_runV (As := [.int a1, .int (w_1.1 41 (a0).toNatClampNeg)]) (rest := []) ⟨hx, hb, hml, hown, hts⟩ (mX5_ownerBy l D ca ad base hAd w_1 a1 (w_1.1 41 (a0).toNatClampNeg) _ hw) (cwV 2 hts gX5_ownerKnown_X5_ownerBy rfl rfl rfl (by decide +kernel) ⟨Nat.le_of_ble_eq_true rfl, Nat.le_of_ble_eq_true rfl⟩) (pv [.int a1, .int (w_1.1 41 (a0).toNatClampNeg)] hK hP hbs hS rfl (wg33 ca ad w_1)) rfl rfl hl.1 rfl (lv_room (Nat.le_of_ble_eq_true rfl)) dX5_ownerKnown_60 ⟨Nat.le_of_ble_eq_true rfl, Nat.le_of_ble_eq_true rfl⟩) hS (fun q _ h => h) (fun q h => h) (fun r_6 w_5 t H locs ht hvm hw hP hz1 hk1 hS => ?_)
      have hP : PA D ca ad w_5 H := by rw [← ht]; exact hP
      exact W.iret (v := r_6) hx hb hr (fun t ht hW => ⟨⟨r_6, w_5, rfl, hw, by show PA D ca ad w_5 t.heap; rw [ht]; exact hP⟩, hS.F ht⟩) hS.2.2 dX5_ownerKnown_63
    · have hw := hw.2 c_3
      refine lv_iconst (v := 0) hx hb dX5_ownerKnown_48 (by decide) ?_
      refine lv_goto (tgt := 63) hx hb dX5_ownerKnown_49 (by decide) ?_
      exact W.iret (v := 0) hx hb hr (fun t ht hW => ⟨⟨0, w_1, rfl, hw, by show PA D ca ad w_1 t.heap; rw [ht]; exact hP⟩, hS.F ht⟩) hS.2.2 dX5_ownerKnown_63
  have hB15 : ∀ (w : St), wpX5_ownerKnown_B15 a0 a1 post w → ∀ (H : Heap) (locs : List Loc), PA D ca ad w H → va_S (AB base) s.heap H locs → ∀ ls : Array Slot, lv_has ls 3 [(0, .ref (ad 33)), (1, .int a0), (2, .int a1)] → W p l e (headSpec wsX5_ownerKnown ({ frames := 2, cells := 0, slots := 0, locals := 42 } : Room)).room s m ([Value.ref (ad 33), Value.int a0, Value.int a1].toArray) below meth c H locs 0 0 (MQ below (va_Qi post (Bp D ca ad) (AB base)) ([Value.ref (ad 33), Value.int a0, Value.int a1].toArray) s 0 0 (AB base)) (F0 m 15 ls [.ref (ad 33)]) := by
    intro w hw H locs hP hS ls hl
    refine lv_iconst (v := 1) hx hb dX5_ownerKnown_15 (by decide) ?_
    refine lv_goto (tgt := 38) hx hb dX5_ownerKnown_16 (by decide) ?_
    exact hB38 1 w hw _ _ hP hS ls (lv_sub hl [0, 1, 2] rfl)
  have hl := lv_entry ([.ref (ad 33), .int a0, .int a1]) (n := 3) (Nat.le_of_ble_eq_true rfl)
  rw [lg_entry_eq]
  generalize (lg_sl ([.ref (ad 33), .int a0, .int a1]) ++ List.replicate (3 - (lg_sl ([.ref (ad 33), .int a0, .int a1])).length) Slot.unset).toArray = ls at hl ⊢
  have hl : lv_has ls 3 [(0, .ref (ad 33)), (1, .int a0), (2, .int a1)] := hl
  refine lv_aload_n hx hb dX5_ownerKnown_0 rfl (lv_at hl 0 rfl) ?_
  refine lv_iload_n hx hb dX5_ownerKnown_1 rfl (lv_at hl 1 rfl) ?_
  refine va_calli (va_runS (As := [.int a0]) (rest := [.ref (ad 33)]) ⟨hx, hb, hml, hown, hts⟩ (mX5_isMember l D ca ad base hAd w a0 _ hw) (va_cwS 1 hts gX5_ownerKnown_X5_isMember rfl rfl rfl (by decide +kernel) ⟨Nat.le_of_ble_eq_true rfl, Nat.le_of_ble_eq_true rfl⟩) (ps [.int a0] hK hP hbs hS) rfl rfl hl.1 rfl (lv_room (Nat.le_of_ble_eq_true rfl)) dX5_ownerKnown_2 ⟨Nat.le_of_ble_eq_true rfl, Nat.le_of_ble_eq_true rfl⟩) hS (fun q _ h => h) (fun q h => h) (fun r_8 w_7 t H locs ht hvm hw hP hz1 hk1 hS => ?_)
  have hP : PA D ca ad w_7 H := by rw [← ht]; exact hP
  refine lv_if_eq (tgt := 15) hx hb dX5_ownerKnown_5 (by decide) (fun c_9 => ?_) (fun c_9 => ?_)
  · have hw := hw.1 c_9
    exact hB15 w_7 hw _ _ hP hS ls (lv_sub hl [0, 1, 2] rfl)
  · have hw := hw.2 c_9
    refine lv_iload_n hx hb dX5_ownerKnown_8 rfl (lv_at hl 2 rfl) ?_
    refine va_calli (va_runS (As := [.int a1]) (rest := [.ref (ad 33)]) ⟨hx, hb, hml, hown, hts⟩ (mX5_isLock l D ca ad base hAd w_7 a1 _ hw) (va_cwS 1 hts gX5_ownerKnown_X5_isLock rfl rfl rfl (by decide +kernel) ⟨Nat.le_of_ble_eq_true rfl, Nat.le_of_ble_eq_true rfl⟩) (ps [.int a1] hK hP hbs hS) rfl rfl hl.1 rfl (lv_room (Nat.le_of_ble_eq_true rfl)) dX5_ownerKnown_9 ⟨Nat.le_of_ble_eq_true rfl, Nat.le_of_ble_eq_true rfl⟩) hS (fun q _ h => h) (fun q h => h) (fun r_11 w_10 t H locs ht hvm hw hP hz1 hk1 hS => ?_)
    have hP : PA D ca ad w_10 H := by rw [← ht]; exact hP
    refine lv_if_ne (tgt := 19) hx hb dX5_ownerKnown_12 (by decide) (fun c_12 => ?_) (fun c_12 => ?_)
    · have hw := hw.2 c_12
      refine lv_aload_n hx hb dX5_ownerKnown_19 rfl (lv_at hl 0 rfl) ?_
      refine lv_iload_n hx hb dX5_ownerKnown_20 rfl (lv_at hl 2 rfl) ?_
      refine lv_aload_n hx hb dX5_ownerKnown_21 rfl (lv_at hl 0 rfl) ?_
      refine va_get (D := D) (ci := 7) (v := .ref (ad 41)) (C := RX5) (T := TX5) (N := 30) hx hb hts in_X5 hown hK hP 33 (wg33 ca ad w_10) rfl 7 (by decide) lk_32 (fun _ h9 => h9) rfl dX5_ownerKnown_22 ?_
      refine lv_iload_n hx hb dX5_ownerKnown_25 rfl (lv_at hl 1 rfl) ?_
      obtain ⟨h_13, hw⟩ := hw
      refine va_iald hx hb hK hP 41 0 (wg41 ca ad w_10) rfl h_13 dX5_ownerKnown_26 ?_
      refine va_calli (va_runV (As := [.int a1, .int (w_10.1 41 (a0).toNatClampNeg)]) (rest := [.ref (ad 33)]) ⟨hx, hb, hml, hown, hts⟩ (mX5_ownerBy l D ca ad base hAd w_10 a1 (w_10.1 41 (a0).toNatClampNeg) _ hw) (cwV 2 hts gX5_ownerKnown_X5_ownerBy rfl rfl rfl (by decide +kernel) ⟨Nat.le_of_ble_eq_true rfl, Nat.le_of_ble_eq_true rfl⟩) (pv [.int a1, .int (w_10.1 41 (a0).toNatClampNeg)] hK hP hbs hS rfl (wg33 ca ad w_10)) rfl rfl hl.1 rfl (lv_room (Nat.le_of_ble_eq_true rfl)) dX5_ownerKnown_27 ⟨Nat.le_of_ble_eq_true rfl, Nat.le_of_ble_eq_true rfl⟩) hS (fun q _ h => h) (fun q h => h) (fun r_15 w_14 t H locs ht hvm hw hP hz1 hk1 hS => ?_)
      have hP : PA D ca ad w_14 H := by rw [← ht]; exact hP
      refine lv_if_ge (tgt := 37) hx hb dX5_ownerKnown_30 (by decide) (fun c_16 => ?_) (fun c_16 => ?_)
      · have hw := hw.1 c_16
        refine lv_iconst (v := 0) hx hb dX5_ownerKnown_37 (by decide) ?_
        exact hB38 0 w_14 hw _ _ hP hS ls (lv_sub hl [0, 1, 2] rfl)
      · have hw := hw.2 c_16
        refine lv_iconst (v := 2) hx hb dX5_ownerKnown_33 (by decide) ?_
        refine lv_goto (tgt := 38) hx hb dX5_ownerKnown_34 (by decide) ?_
        exact hB38 2 w_14 hw _ _ hP hS ls (lv_sub hl [0, 1, 2] rfl)
    · have hw := hw.1 c_12
      exact hB15 w_10 hw _ _ hP hS ls (lv_sub hl [0, 1, 2] rfl)
set_option maxHeartbeats 4000000 in
set_option maxRecDepth 100000 in
def wpX5_addClient_B15 (post : Int32 → St → Prop) (s0 : Int32) (w : St) : Prop := wpX5_checked s0 w (fun r_2 w_1 => (r_2 ≤ 0 → (∀ w_4 : St, w_4 = (uI w_1 69 ((w_1.1 69 0) + 1)) → post ((w_4.1 69 0) - 1) w_4)) ∧ (¬ (r_2 ≤ 0) → (post 0 w_1)))
set_option maxHeartbeats 4000000 in
set_option maxRecDepth 100000 in
def wpX5_addClient (w : St) (post : Int32 → St → Prop) : Prop := (6 ≤ (w.1 69 0) → (wpX5_addClient_B15 post 0 w)) ∧ (¬ (6 ≤ (w.1 69 0)) → (wpX5_addClient_B15 post 1 w))
set_option maxHeartbeats 4000000 in
set_option maxRecDepth 100000 in
theorem mX5_addClient (l : Launch) (D : va_G) (ca : Nat → ClassId) (ad : Nat → Nat) (base : Nat) (hAd : okA base ad) (w : St) (post : Int32 → St → Prop) (hw : wpX5_addClient w post) : Met l yX5_addClient wsX5_addClient ({ frames := 1, cells := 0, slots := 0, locals := 21 } : Room) (va_Pc [.ref (ad 33)] (BU D ca ad base w)) (va_Qi post (Bp D ca ad) (AB base)) 0 0 (AB base) := by
  refine Met.ofW (cc := cX5_addClient) (maxL := 1) (ret := (some .int)) (by decide) rfl ?_
  intro p e s m args below meth c s₁ B hml hv
  obtain ⟨rfl, hbs, hP, hK⟩ := hv
  have hx := B.exec
  have hb := B.bytes
  have hr := B.returns
  have hts := atoms_spec (ws := wsX5_addClient) B.pre
  have hown : s.vm.findClass RX5 = some m.cls := findClass_of_methodNamed B.named
  have hlocks := B.notSynchronized
  have in_X5 : ∀ w ∈ wsX50, w ∈ wsX5_addClient := by decide +kernel
  have lk_94 := hts (.fieldLink RX5 94 "LockQuorumModel" "clients" "I") (by decide +kernel)
  have hS : va_S (AB base) s.heap s.heap [] := va_S.rf
  have hB15 : ∀ (s0 : Int32) (w : St), wpX5_addClient_B15 post s0 w → ∀ (H : Heap) (locs : List Loc), PA D ca ad w H → va_S (AB base) s.heap H locs → ∀ ls : Array Slot, lv_has ls 1 [(0, .ref (ad 33))] → W p l e (headSpec wsX5_addClient ({ frames := 1, cells := 0, slots := 0, locals := 21 } : Room)).room s m ([Value.ref (ad 33)].toArray) below meth c H locs 0 0 (MQ below (va_Qi post (Bp D ca ad) (AB base)) ([Value.ref (ad 33)].toArray) s 0 0 (AB base)) (F0 m 15 ls [.int s0, .ref (ad 33)]) := by
    intro s0 w hw H locs hP hS ls hl
    refine va_calli (va_runV (As := [.int s0]) (rest := []) ⟨hx, hb, hml, hown, hts⟩ (mX5_checked l D ca ad base hAd w s0 _ hw) (cwV 1 hts gX5_addClient_X5_checked rfl rfl rfl (by decide +kernel) ⟨Nat.le_of_ble_eq_true rfl, Nat.le_of_ble_eq_true rfl⟩) (pv [.int s0] hK hP hbs hS rfl (wg33 ca ad w)) rfl rfl hl.1 rfl (lv_room (Nat.le_of_ble_eq_true rfl)) dX5_addClient_15 ⟨Nat.le_of_ble_eq_true rfl, Nat.le_of_ble_eq_true rfl⟩) hS (fun q _ h => h) (fun q h => h) (fun r_2 w_1 t H locs ht hvm hw hP hz1 hk1 hS => ?_)
    have hP : PA D ca ad w_1 H := by rw [← ht]; exact hP
    refine lv_if_le (tgt := 23) hx hb dX5_addClient_18 (by decide) (fun c_3 => ?_) (fun c_3 => ?_)
    · have hw := hw.1 c_3
      refine lv_aload_n hx hb dX5_addClient_23 rfl (lv_at hl 0 rfl) ?_
      refine lv_dup hx hb dX5_addClient_24 rfl ?_
      refine va_get (D := D) (ci := 7) (v := .int (w_1.1 69 0)) (C := RX5) (T := TX5) (N := 30) hx hb hts in_X5 hown hK hP 33 (wg33 ca ad w_1) rfl 27 (by decide) lk_94 (fun _ h9 => h9) rfl dX5_addClient_25 ?_
      refine lv_iconst (v := 1) hx hb dX5_addClient_28 (by decide) ?_
      refine lv_iadd hx hb dX5_addClient_29 ?_
      refine va_put (D := D) (ci := 7) (v := .int ((w_1.1 69 0) + 1)) (ty := .int) (C := RX5) (T := TX5) (N := 30) hx hb hts in_X5 tyX5 tyX5_ok nmX5 hown hK hP (DA hAd) hS 33 (wg33 ca ad w_1) rfl 27 (by decide) lk_94 (fun _ h9 => h9) rfl (by decide +kernel) rfl rfl (Nat.le_of_ble_eq_true rfl) dX5_addClient_30 (fun H locs hP hD hS => ?_)
      obtain ⟨w_4, e_5⟩ : ∃ z : St, z = (uI w_1 69 ((w_1.1 69 0) + 1)) := ⟨_, rfl⟩
      have hP : PA D ca ad w_4 H := by rw [e_5]; exact wf69 hP
      have hw := hw w_4 e_5
      refine lv_aload_n hx hb dX5_addClient_33 rfl (lv_at hl 0 rfl) ?_
      refine va_get (D := D) (ci := 7) (v := .int (w_4.1 69 0)) (C := RX5) (T := TX5) (N := 30) hx hb hts in_X5 hown hK hP 33 (wg33 ca ad w_4) rfl 27 (by decide) lk_94 (fun _ h9 => h9) rfl dX5_addClient_34 ?_
      refine lv_iconst (v := 1) hx hb dX5_addClient_37 (by decide) ?_
      refine lv_isub hx hb dX5_addClient_38 ?_
      exact W.iret (v := ((w_4.1 69 0) - 1)) hx hb hr (fun t ht hW => ⟨⟨((w_4.1 69 0) - 1), w_4, rfl, hw, by show PA D ca ad w_4 t.heap; rw [ht]; exact hP⟩, hS.F ht⟩) hS.2.2 dX5_addClient_39
    · have hw := hw.2 c_3
      refine lv_iconst (v := 0) hx hb dX5_addClient_21 (by decide) ?_
      exact W.iret (v := 0) hx hb hr (fun t ht hW => ⟨⟨0, w_1, rfl, hw, by show PA D ca ad w_1 t.heap; rw [ht]; exact hP⟩, hS.F ht⟩) hS.2.2 dX5_addClient_22
  have hl := lv_entry ([.ref (ad 33)]) (n := 1) (Nat.le_of_ble_eq_true rfl)
  rw [lg_entry_eq]
  generalize (lg_sl ([.ref (ad 33)]) ++ List.replicate (1 - (lg_sl ([.ref (ad 33)])).length) Slot.unset).toArray = ls at hl ⊢
  have hl : lv_has ls 1 [(0, .ref (ad 33))] := hl
  refine lv_aload_n hx hb dX5_addClient_0 rfl (lv_at hl 0 rfl) ?_
  refine lv_aload_n hx hb dX5_addClient_1 rfl (lv_at hl 0 rfl) ?_
  refine va_get (D := D) (ci := 7) (v := .int (w.1 69 0)) (C := RX5) (T := TX5) (N := 30) hx hb hts in_X5 hown hK hP 33 (wg33 ca ad w) rfl 27 (by decide) lk_94 (fun _ h9 => h9) rfl dX5_addClient_2 ?_
  refine lv_bipush (v := 6) hx hb dX5_addClient_5 (by decide) ?_
  refine lv_icmp_ge (tgt := 14) hx hb dX5_addClient_7 (by decide) (fun c_6 => ?_) (fun c_6 => ?_)
  · have hw := hw.1 c_6
    refine lv_iconst (v := 0) hx hb dX5_addClient_14 (by decide) ?_
    exact hB15 0 w hw _ _ hP hS ls (lv_sub hl [0] rfl)
  · have hw := hw.2 c_6
    refine lv_iconst (v := 1) hx hb dX5_addClient_10 (by decide) ?_
    refine lv_goto (tgt := 15) hx hb dX5_addClient_11 (by decide) ?_
    exact hB15 1 w hw _ _ hP hS ls (lv_sub hl [0] rfl)
set_option maxHeartbeats 4000000 in
set_option maxRecDepth 100000 in
def wpX5_setOffset_B28 (a0 : Int32) (a1 : Int32) (post : Int32 → St → Prop) (s0 : Int32) (w : St) : Prop := ∀ w_1 : St, w_1 = (uI w 67 s0) → ((w_1.1 67 0) ≤ 0 → ((vp_in a0 6) ∧ ((vp_in a0 6) ∧ (∀ w_6 : St, w_6 = (uA w_1 43 (upd (w_1.1 43) (a0).toNatClampNeg a1)) → post (w_1.1 43 (a0).toNatClampNeg) w_6)))) ∧ (¬ ((w_1.1 67 0) ≤ 0) → (post 0 w_1))
set_option maxHeartbeats 4000000 in
set_option maxRecDepth 100000 in
def wpX5_setOffset (a0 : Int32) (a1 : Int32) (w : St) (post : Int32 → St → Prop) : Prop := wpX5_isClient a0 w (fun r_9 w_8 => (r_9 = 0 → (wpX5_setOffset_B28 a0 a1 post 1 w_8)) ∧ (¬ (r_9 = 0) → (wpX5_in a1 (-2) 2 w_8 (fun r_12 w_11 => (r_12 = 0 → (wpX5_setOffset_B28 a0 a1 post 2 w_11)) ∧ (¬ (r_12 = 0) → (wpX5_setOffset_B28 a0 a1 post 0 w_11))))))
set_option maxHeartbeats 4000000 in
set_option maxRecDepth 100000 in
theorem mX5_setOffset (l : Launch) (D : va_G) (ca : Nat → ClassId) (ad : Nat → Nat) (base : Nat) (hAd : okA base ad) (w : St) (a0 : Int32) (a1 : Int32) (post : Int32 → St → Prop) (hw : wpX5_setOffset a0 a1 w post) : Met l yX5_setOffset wsX5_setOffset ({ frames := 2, cells := 0, slots := 0, locals := 43 } : Room) (va_Pc [.ref (ad 33), .int a0, .int a1] (BU D ca ad base w)) (va_Qi post (Bp D ca ad) (AB base)) 0 0 (AB base) := by
  refine Met.ofW (cc := cX5_setOffset) (maxL := 4) (ret := (some .int)) (by decide) rfl ?_
  intro p e s m args below meth c s₁ B hml hv
  obtain ⟨rfl, hbs, hP, hK⟩ := hv
  have hx := B.exec
  have hb := B.bytes
  have hr := B.returns
  have hts := atoms_spec (ws := wsX5_setOffset) B.pre
  have hown : s.vm.findClass RX5 = some m.cls := findClass_of_methodNamed B.named
  have hlocks := B.notSynchronized
  have in_X5 : ∀ w ∈ wsX50, w ∈ wsX5_setOffset := by decide +kernel
  have lk_38 := hts (.fieldLink RX5 38 "LockQuorumModel" "offsets" "[I") (by decide +kernel)
  have lk_87 := hts (.fieldLink RX5 87 "LockQuorumModel" "thrown" "I") (by decide +kernel)
  have hS : va_S (AB base) s.heap s.heap [] := va_S.rf
  have hB28 : ∀ (s0 : Int32) (w : St), wpX5_setOffset_B28 a0 a1 post s0 w → ∀ (H : Heap) (locs : List Loc), PA D ca ad w H → va_S (AB base) s.heap H locs → ∀ ls : Array Slot, lv_has ls 4 [(0, .ref (ad 33)), (1, .int a0), (2, .int a1)] → W p l e (headSpec wsX5_setOffset ({ frames := 2, cells := 0, slots := 0, locals := 43 } : Room)).room s m ([Value.ref (ad 33), Value.int a0, Value.int a1].toArray) below meth c H locs 0 0 (MQ below (va_Qi post (Bp D ca ad) (AB base)) ([Value.ref (ad 33), Value.int a0, Value.int a1].toArray) s 0 0 (AB base)) (F0 m 28 ls [.int s0, .ref (ad 33)]) := by
    intro s0 w hw H locs hP hS ls hl
    refine va_put (D := D) (ci := 7) (v := .int s0) (ty := .int) (C := RX5) (T := TX5) (N := 30) hx hb hts in_X5 tyX5 tyX5_ok nmX5 hown hK hP (DA hAd) hS 33 (wg33 ca ad w) rfl 25 (by decide) lk_87 (fun _ h9 => h9) rfl (by decide +kernel) rfl rfl (Nat.le_of_ble_eq_true rfl) dX5_setOffset_28 (fun H locs hP hD hS => ?_)
    obtain ⟨w_1, e_2⟩ : ∃ z : St, z = (uI w 67 s0) := ⟨_, rfl⟩
    have hP : PA D ca ad w_1 H := by rw [e_2]; exact wf67 hP
    have hw := hw w_1 e_2
    refine lv_aload_n hx hb dX5_setOffset_31 rfl (lv_at hl 0 rfl) ?_
    refine va_get (D := D) (ci := 7) (v := .int (w_1.1 67 0)) (C := RX5) (T := TX5) (N := 30) hx hb hts in_X5 hown hK hP 33 (wg33 ca ad w_1) rfl 25 (by decide) lk_87 (fun _ h9 => h9) rfl dX5_setOffset_32 ?_
    refine lv_if_le (tgt := 40) hx hb dX5_setOffset_35 (by decide) (fun c_3 => ?_) (fun c_3 => ?_)
    · have hw := hw.1 c_3
      refine lv_aload_n hx hb dX5_setOffset_40 rfl (lv_at hl 0 rfl) ?_
      refine va_get (D := D) (ci := 7) (v := .ref (ad 43)) (C := RX5) (T := TX5) (N := 30) hx hb hts in_X5 hown hK hP 33 (wg33 ca ad w_1) rfl 9 (by decide) lk_38 (fun _ h9 => h9) rfl dX5_setOffset_41 ?_
      refine lv_iload_n hx hb dX5_setOffset_44 rfl (lv_at hl 1 rfl) ?_
      obtain ⟨h_4, hw⟩ := hw
      refine va_iald hx hb hK hP 43 0 (wg43 ca ad w_1) rfl h_4 dX5_setOffset_45 ?_
      refine lv_istore_n (lv' := [(3, .int (w_1.1 43 (a0).toNatClampNeg)), (0, .ref (ad 33)), (1, .int a0), (2, .int a1)]) hx hb dX5_setOffset_46 rfl hl (by decide) rfl (fun ls hl => ?_)
      refine lv_aload_n hx hb dX5_setOffset_47 rfl (lv_at hl 1 rfl) ?_
      refine va_get (D := D) (ci := 7) (v := .ref (ad 43)) (C := RX5) (T := TX5) (N := 30) hx hb hts in_X5 hown hK hP 33 (wg33 ca ad w_1) rfl 9 (by decide) lk_38 (fun _ h9 => h9) rfl dX5_setOffset_48 ?_
      refine lv_iload_n hx hb dX5_setOffset_51 rfl (lv_at hl 2 rfl) ?_
      refine lv_iload_n hx hb dX5_setOffset_52 rfl (lv_at hl 3 rfl) ?_
      obtain ⟨h_5, hw⟩ := hw
      refine va_iast hx hb hK hP (DA hAd) hS 43 0 (wg43 ca ad w_1) rfl h_5 dX5_setOffset_53 (fun H locs hP hD hS => ?_)
      obtain ⟨w_6, e_7⟩ : ∃ z : St, z = (uA w_1 43 (upd (w_1.1 43) (a0).toNatClampNeg a1)) := ⟨_, rfl⟩
      have hP : PA D ca ad w_6 H := by rw [e_7]; exact wu43 hP
      have hw := hw w_6 e_7
      refine lv_iload_n hx hb dX5_setOffset_54 rfl (lv_at hl 0 rfl) ?_
      exact W.iret (v := (w_1.1 43 (a0).toNatClampNeg)) hx hb hr (fun t ht hW => ⟨⟨(w_1.1 43 (a0).toNatClampNeg), w_6, rfl, hw, by show PA D ca ad w_6 t.heap; rw [ht]; exact hP⟩, hS.F ht⟩) hS.2.2 dX5_setOffset_55
    · have hw := hw.2 c_3
      refine lv_iconst (v := 0) hx hb dX5_setOffset_38 (by decide) ?_
      exact W.iret (v := 0) hx hb hr (fun t ht hW => ⟨⟨0, w_1, rfl, hw, by show PA D ca ad w_1 t.heap; rw [ht]; exact hP⟩, hS.F ht⟩) hS.2.2 dX5_setOffset_39
  have hl := lv_entry ([.ref (ad 33), .int a0, .int a1]) (n := 4) (Nat.le_of_ble_eq_true rfl)
  rw [lg_entry_eq]
  generalize (lg_sl ([.ref (ad 33), .int a0, .int a1]) ++ List.replicate (4 - (lg_sl ([.ref (ad 33), .int a0, .int a1])).length) Slot.unset).toArray = ls at hl ⊢
  have hl : lv_has ls 4 [(0, .ref (ad 33)), (1, .int a0), (2, .int a1)] := hl
  refine lv_aload_n hx hb dX5_setOffset_0 rfl (lv_at hl 0 rfl) ?_
  refine lv_aload_n hx hb dX5_setOffset_1 rfl (lv_at hl 0 rfl) ?_
  refine lv_iload_n hx hb dX5_setOffset_2 rfl (lv_at hl 1 rfl) ?_
  refine va_calli (va_runV (As := [.int a0]) (rest := [.ref (ad 33)]) ⟨hx, hb, hml, hown, hts⟩ (mX5_isClient l D ca ad base hAd w a0 _ hw) (cwV 1 hts gX5_setOffset_X5_isClient rfl rfl rfl (by decide +kernel) ⟨Nat.le_of_ble_eq_true rfl, Nat.le_of_ble_eq_true rfl⟩) (pv [.int a0] hK hP hbs hS rfl (wg33 ca ad w)) rfl rfl hl.1 rfl (lv_room (Nat.le_of_ble_eq_true rfl)) dX5_setOffset_3 ⟨Nat.le_of_ble_eq_true rfl, Nat.le_of_ble_eq_true rfl⟩) hS (fun q _ h => h) (fun q h => h) (fun r_9 w_8 t H locs ht hvm hw hP hz1 hk1 hS => ?_)
  have hP : PA D ca ad w_8 H := by rw [← ht]; exact hP
  refine lv_if_ne (tgt := 13) hx hb dX5_setOffset_6 (by decide) (fun c_10 => ?_) (fun c_10 => ?_)
  · have hw := hw.2 c_10
    refine lv_iload_n hx hb dX5_setOffset_13 rfl (lv_at hl 2 rfl) ?_
    refine lv_bipush (v := (-2)) hx hb dX5_setOffset_14 (by decide) ?_
    refine lv_iconst (v := 2) hx hb dX5_setOffset_16 (by decide) ?_
    refine va_calli (va_runS (As := [.int a1, .int (-2), .int 2]) (rest := [.ref (ad 33)]) ⟨hx, hb, hml, hown, hts⟩ (mX5_in l D ca ad base hAd w_8 a1 (-2) 2 _ hw) (va_cwS 3 hts gX5_setOffset_X5_in rfl rfl rfl (by decide +kernel) ⟨Nat.le_of_ble_eq_true rfl, Nat.le_of_ble_eq_true rfl⟩) (ps [.int a1, .int (-2), .int 2] hK hP hbs hS) rfl rfl hl.1 rfl (lv_room (Nat.le_of_ble_eq_true rfl)) dX5_setOffset_17 ⟨Nat.le_of_ble_eq_true rfl, Nat.le_of_ble_eq_true rfl⟩) hS (fun q _ h => h) (fun q h => h) (fun r_12 w_11 t H locs ht hvm hw hP hz1 hk1 hS => ?_)
    have hP : PA D ca ad w_11 H := by rw [← ht]; exact hP
    refine lv_if_ne (tgt := 27) hx hb dX5_setOffset_20 (by decide) (fun c_13 => ?_) (fun c_13 => ?_)
    · have hw := hw.2 c_13
      refine lv_iconst (v := 0) hx hb dX5_setOffset_27 (by decide) ?_
      exact hB28 0 w_11 hw _ _ hP hS ls (lv_sub hl [0, 1, 2] rfl)
    · have hw := hw.1 c_13
      refine lv_iconst (v := 2) hx hb dX5_setOffset_23 (by decide) ?_
      refine lv_goto (tgt := 28) hx hb dX5_setOffset_24 (by decide) ?_
      exact hB28 2 w_11 hw _ _ hP hS ls (lv_sub hl [0, 1, 2] rfl)
  · have hw := hw.1 c_10
    refine lv_iconst (v := 1) hx hb dX5_setOffset_9 (by decide) ?_
    refine lv_goto (tgt := 28) hx hb dX5_setOffset_10 (by decide) ?_
    exact hB28 1 w_8 hw _ _ hP hS ls (lv_sub hl [0, 1, 2] rfl)
set_option maxHeartbeats 4000000 in
set_option maxRecDepth 100000 in
def wpX5_setPaused (a0 : Int32) (a1 : Int32) (w : St) (post : Int32 → St → Prop) : Prop := wpX5_isClient a0 w (fun r_2 w_1 => wpX5_checked r_2 w_1 (fun r_4 w_3 => (r_4 ≤ 0 → ((vp_in a0 6) ∧ ((vp_in a0 6) ∧ (∀ w_8 : St, w_8 = (uA w_3 36 (upd (w_3.1 36) (a0).toNatClampNeg (vp_nar .boolean a1))) → (narrow .boolean (.int (w_3.1 36 (a0).toNatClampNeg)) = .int (w_3.1 36 (a0).toNatClampNeg)) ∧ post (w_3.1 36 (a0).toNatClampNeg) w_8)))) ∧ (¬ (r_4 ≤ 0) → (post 0 w_3))))
set_option maxHeartbeats 4000000 in
set_option maxRecDepth 100000 in
theorem mX5_setPaused (l : Launch) (D : va_G) (ca : Nat → ClassId) (ad : Nat → Nat) (base : Nat) (hAd : okA base ad) (w : St) (a0 : Int32) (a1 : Int32) (post : Int32 → St → Prop) (hw : wpX5_setPaused a0 a1 w post) : Met l yX5_setPaused wsX5_setPaused ({ frames := 2, cells := 0, slots := 0, locals := 43 } : Room) (va_Pc [.ref (ad 33), .int a0, .int a1] (BU D ca ad base w)) (va_Qi post (Bp D ca ad) (AB base)) 0 0 (AB base) := by
  refine Met.ofW (cc := cX5_setPaused) (maxL := 4) (ret := (some .boolean)) (by decide) rfl ?_
  intro p e s m args below meth c s₁ B hml hv
  obtain ⟨rfl, hbs, hP, hK⟩ := hv
  have hx := B.exec
  have hb := B.bytes
  have hr := B.returns
  have hts := atoms_spec (ws := wsX5_setPaused) B.pre
  have hown : s.vm.findClass RX5 = some m.cls := findClass_of_methodNamed B.named
  have hlocks := B.notSynchronized
  have in_X5 : ∀ w ∈ wsX50, w ∈ wsX5_setPaused := by decide +kernel
  have lk_16 := hts (.fieldLink RX5 16 "LockQuorumModel" "arePaused" "[Z") (by decide +kernel)
  have hS : va_S (AB base) s.heap s.heap [] := va_S.rf
  have hl := lv_entry ([.ref (ad 33), .int a0, .int a1]) (n := 4) (Nat.le_of_ble_eq_true rfl)
  rw [lg_entry_eq]
  generalize (lg_sl ([.ref (ad 33), .int a0, .int a1]) ++ List.replicate (4 - (lg_sl ([.ref (ad 33), .int a0, .int a1])).length) Slot.unset).toArray = ls at hl ⊢
  have hl : lv_has ls 4 [(0, .ref (ad 33)), (1, .int a0), (2, .int a1)] := hl
  refine lv_aload_n hx hb dX5_setPaused_0 rfl (lv_at hl 0 rfl) ?_
  refine lv_aload_n hx hb dX5_setPaused_1 rfl (lv_at hl 0 rfl) ?_
  refine lv_iload_n hx hb dX5_setPaused_2 rfl (lv_at hl 1 rfl) ?_
  refine va_calli (va_runV (As := [.int a0]) (rest := [.ref (ad 33)]) ⟨hx, hb, hml, hown, hts⟩ (mX5_isClient l D ca ad base hAd w a0 _ hw) (cwV 1 hts gX5_setPaused_X5_isClient rfl rfl rfl (by decide +kernel) ⟨Nat.le_of_ble_eq_true rfl, Nat.le_of_ble_eq_true rfl⟩) (pv [.int a0] hK hP hbs hS rfl (wg33 ca ad w)) rfl rfl hl.1 rfl (lv_room (Nat.le_of_ble_eq_true rfl)) dX5_setPaused_3 ⟨Nat.le_of_ble_eq_true rfl, Nat.le_of_ble_eq_true rfl⟩) hS (fun q _ h => h) (fun q h => h) (fun r_2 w_1 t H locs ht hvm hw hP hz1 hk1 hS => ?_)
  have hP : PA D ca ad w_1 H := by rw [← ht]; exact hP
  refine va_calli (va_runV (As := [.int r_2]) (rest := []) ⟨hx, hb, hml, hown, hts⟩ (mX5_checked l D ca ad base hAd w_1 r_2 _ hw) (cwV 1 hts gX5_setPaused_X5_checked rfl rfl rfl (by decide +kernel) ⟨Nat.le_of_ble_eq_true rfl, Nat.le_of_ble_eq_true rfl⟩) (pv [.int r_2] hK hP hbs hS rfl (wg33 ca ad w_1)) rfl rfl hl.1 rfl (lv_room (Nat.le_of_ble_eq_true rfl)) dX5_setPaused_6 ⟨Nat.le_of_ble_eq_true rfl, Nat.le_of_ble_eq_true rfl⟩) hS (fun q _ h => h) (fun q h => h) (fun r_4 w_3 t H locs ht hvm hw hP hz1 hk1 hS => ?_)
  have hP : PA D ca ad w_3 H := by rw [← ht]; exact hP
  refine lv_if_le (tgt := 14) hx hb dX5_setPaused_9 (by decide) (fun c_5 => ?_) (fun c_5 => ?_)
  · have hw := hw.1 c_5
    refine lv_aload_n hx hb dX5_setPaused_14 rfl (lv_at hl 0 rfl) ?_
    refine va_get (D := D) (ci := 7) (v := .ref (ad 36)) (C := RX5) (T := TX5) (N := 30) hx hb hts in_X5 hown hK hP 33 (wg33 ca ad w_3) rfl 2 (by decide) lk_16 (fun _ h9 => h9) rfl dX5_setPaused_15 ?_
    refine lv_iload_n hx hb dX5_setPaused_18 rfl (lv_at hl 1 rfl) ?_
    obtain ⟨h_6, hw⟩ := hw
    refine va_zald hx hb hK hP 36 1 (wg36 ca ad w_3) rfl h_6 dX5_setPaused_19 ?_
    refine lv_istore_n (lv' := [(3, .int (w_3.1 36 (a0).toNatClampNeg)), (0, .ref (ad 33)), (1, .int a0), (2, .int a1)]) hx hb dX5_setPaused_20 rfl hl (by decide) rfl (fun ls hl => ?_)
    refine lv_aload_n hx hb dX5_setPaused_21 rfl (lv_at hl 1 rfl) ?_
    refine va_get (D := D) (ci := 7) (v := .ref (ad 36)) (C := RX5) (T := TX5) (N := 30) hx hb hts in_X5 hown hK hP 33 (wg33 ca ad w_3) rfl 2 (by decide) lk_16 (fun _ h9 => h9) rfl dX5_setPaused_22 ?_
    refine lv_iload_n hx hb dX5_setPaused_25 rfl (lv_at hl 2 rfl) ?_
    refine lv_iload_n hx hb dX5_setPaused_26 rfl (lv_at hl 3 rfl) ?_
    obtain ⟨h_7, hw⟩ := hw
    refine va_zast hx hb hK hP (DA hAd) hS 36 1 (wg36 ca ad w_3) rfl h_7 dX5_setPaused_27 (fun H locs hP hD hS => ?_)
    obtain ⟨w_8, e_9⟩ : ∃ z : St, z = (uA w_3 36 (upd (w_3.1 36) (a0).toNatClampNeg (vp_nar .boolean a1))) := ⟨_, rfl⟩
    have hP : PA D ca ad w_8 H := by rw [e_9]; exact wu36 hP
    have hw := hw w_8 e_9
    refine lv_iload_n hx hb dX5_setPaused_28 rfl (lv_at hl 0 rfl) ?_
    obtain ⟨hn9, hw⟩ := hw
    exact W.zret (v := (w_3.1 36 (a0).toNatClampNeg)) hx hb hr hn9 (fun t ht hW => ⟨⟨(w_3.1 36 (a0).toNatClampNeg), w_8, rfl, hw, by show PA D ca ad w_8 t.heap; rw [ht]; exact hP⟩, hS.F ht⟩) hS.2.2 dX5_setPaused_29
  · have hw := hw.2 c_5
    refine lv_iconst (v := 0) hx hb dX5_setPaused_12 (by decide) ?_
    exact W.zret (v := 0) hx hb hr (by decide) (fun t ht hW => ⟨⟨0, w_3, rfl, hw, by show PA D ca ad w_3 t.heap; rw [ht]; exact hP⟩, hS.F ht⟩) hS.2.2 dX5_setPaused_13
set_option maxHeartbeats 4000000 in
set_option maxRecDepth 100000 in
def wpX5_clock (a0 : Int32) (w : St) (post : Int32 → St → Prop) : Prop := (vp_in a0 6) ∧ (post ((w.1 68 0) + (w.1 43 (a0).toNatClampNeg)) w)
set_option maxHeartbeats 4000000 in
set_option maxRecDepth 100000 in
theorem mX5_clock (l : Launch) (D : va_G) (ca : Nat → ClassId) (ad : Nat → Nat) (base : Nat) (hAd : okA base ad) (w : St) (a0 : Int32) (post : Int32 → St → Prop) (hw : wpX5_clock a0 w post) : Met l yX5_clock wsX5_clock ({ frames := 0, cells := 0, slots := 0, locals := 0 } : Room) (va_Pc [.ref (ad 33), .int a0] (BU D ca ad base w)) (va_Qi post (Bp D ca ad) (AB base)) 0 0 (AB base) := by
  refine Met.ofW (cc := cX5_clock) (maxL := 2) (ret := (some .int)) (by decide) rfl ?_
  intro p e s m args below meth c s₁ B hml hv
  obtain ⟨rfl, hbs, hP, hK⟩ := hv
  have hx := B.exec
  have hb := B.bytes
  have hr := B.returns
  have hts := atoms_spec (ws := wsX5_clock) B.pre
  have hown : s.vm.findClass RX5 = some m.cls := findClass_of_methodNamed B.named
  have hlocks := B.notSynchronized
  have in_X5 : ∀ w ∈ wsX50, w ∈ wsX5_clock := by decide +kernel
  have lk_38 := hts (.fieldLink RX5 38 "LockQuorumModel" "offsets" "[I") (by decide +kernel)
  have lk_91 := hts (.fieldLink RX5 91 "LockQuorumModel" "time" "I") (by decide +kernel)
  have hS : va_S (AB base) s.heap s.heap [] := va_S.rf
  have hl := lv_entry ([.ref (ad 33), .int a0]) (n := 2) (Nat.le_of_ble_eq_true rfl)
  rw [lg_entry_eq]
  generalize (lg_sl ([.ref (ad 33), .int a0]) ++ List.replicate (2 - (lg_sl ([.ref (ad 33), .int a0])).length) Slot.unset).toArray = ls at hl ⊢
  have hl : lv_has ls 2 [(0, .ref (ad 33)), (1, .int a0)] := hl
  refine lv_aload_n hx hb dX5_clock_0 rfl (lv_at hl 0 rfl) ?_
  refine va_get (D := D) (ci := 7) (v := .int (w.1 68 0)) (C := RX5) (T := TX5) (N := 30) hx hb hts in_X5 hown hK hP 33 (wg33 ca ad w) rfl 26 (by decide) lk_91 (fun _ h9 => h9) rfl dX5_clock_1 ?_
  refine lv_aload_n hx hb dX5_clock_4 rfl (lv_at hl 0 rfl) ?_
  refine va_get (D := D) (ci := 7) (v := .ref (ad 43)) (C := RX5) (T := TX5) (N := 30) hx hb hts in_X5 hown hK hP 33 (wg33 ca ad w) rfl 9 (by decide) lk_38 (fun _ h9 => h9) rfl dX5_clock_5 ?_
  refine lv_iload_n hx hb dX5_clock_8 rfl (lv_at hl 1 rfl) ?_
  obtain ⟨h_1, hw⟩ := hw
  refine va_iald hx hb hK hP 43 0 (wg43 ca ad w) rfl h_1 dX5_clock_9 ?_
  refine lv_iadd hx hb dX5_clock_10 ?_
  exact W.iret (v := ((w.1 68 0) + (w.1 43 (a0).toNatClampNeg))) hx hb hr (fun t ht hW => ⟨⟨((w.1 68 0) + (w.1 43 (a0).toNatClampNeg)), w, rfl, hw, by show PA D ca ad w t.heap; rw [ht]; exact hP⟩, hS.F ht⟩) hS.2.2 dX5_clock_11
set_option maxHeartbeats 4000000 in
set_option maxRecDepth 100000 in
def wpX5_clockOf (a0 : Int32) (w : St) (post : Int32 → St → Prop) : Prop := wpX5_isClient a0 w (fun r_2 w_1 => wpX5_checked r_2 w_1 (fun r_4 w_3 => (r_4 ≤ 0 → (wpX5_clock a0 w_3 (fun r_7 w_6 => post r_7 w_6))) ∧ (¬ (r_4 ≤ 0) → (post 0 w_3))))
set_option maxHeartbeats 4000000 in
set_option maxRecDepth 100000 in
theorem mX5_clockOf (l : Launch) (D : va_G) (ca : Nat → ClassId) (ad : Nat → Nat) (base : Nat) (hAd : okA base ad) (w : St) (a0 : Int32) (post : Int32 → St → Prop) (hw : wpX5_clockOf a0 w post) : Met l yX5_clockOf wsX5_clockOf ({ frames := 2, cells := 0, slots := 0, locals := 43 } : Room) (va_Pc [.ref (ad 33), .int a0] (BU D ca ad base w)) (va_Qi post (Bp D ca ad) (AB base)) 0 0 (AB base) := by
  refine Met.ofW (cc := cX5_clockOf) (maxL := 2) (ret := (some .int)) (by decide) rfl ?_
  intro p e s m args below meth c s₁ B hml hv
  obtain ⟨rfl, hbs, hP, hK⟩ := hv
  have hx := B.exec
  have hb := B.bytes
  have hr := B.returns
  have hts := atoms_spec (ws := wsX5_clockOf) B.pre
  have hown : s.vm.findClass RX5 = some m.cls := findClass_of_methodNamed B.named
  have hlocks := B.notSynchronized
  have hS : va_S (AB base) s.heap s.heap [] := va_S.rf
  have hl := lv_entry ([.ref (ad 33), .int a0]) (n := 2) (Nat.le_of_ble_eq_true rfl)
  rw [lg_entry_eq]
  generalize (lg_sl ([.ref (ad 33), .int a0]) ++ List.replicate (2 - (lg_sl ([.ref (ad 33), .int a0])).length) Slot.unset).toArray = ls at hl ⊢
  have hl : lv_has ls 2 [(0, .ref (ad 33)), (1, .int a0)] := hl
  refine lv_aload_n hx hb dX5_clockOf_0 rfl (lv_at hl 0 rfl) ?_
  refine lv_aload_n hx hb dX5_clockOf_1 rfl (lv_at hl 0 rfl) ?_
  refine lv_iload_n hx hb dX5_clockOf_2 rfl (lv_at hl 1 rfl) ?_
  refine va_calli (va_runV (As := [.int a0]) (rest := [.ref (ad 33)]) ⟨hx, hb, hml, hown, hts⟩ (mX5_isClient l D ca ad base hAd w a0 _ hw) (cwV 1 hts gX5_clockOf_X5_isClient rfl rfl rfl (by decide +kernel) ⟨Nat.le_of_ble_eq_true rfl, Nat.le_of_ble_eq_true rfl⟩) (pv [.int a0] hK hP hbs hS rfl (wg33 ca ad w)) rfl rfl hl.1 rfl (lv_room (Nat.le_of_ble_eq_true rfl)) dX5_clockOf_3 ⟨Nat.le_of_ble_eq_true rfl, Nat.le_of_ble_eq_true rfl⟩) hS (fun q _ h => h) (fun q h => h) (fun r_2 w_1 t H locs ht hvm hw hP hz1 hk1 hS => ?_)
  have hP : PA D ca ad w_1 H := by rw [← ht]; exact hP
  refine va_calli (va_runV (As := [.int r_2]) (rest := []) ⟨hx, hb, hml, hown, hts⟩ (mX5_checked l D ca ad base hAd w_1 r_2 _ hw) (cwV 1 hts gX5_clockOf_X5_checked rfl rfl rfl (by decide +kernel) ⟨Nat.le_of_ble_eq_true rfl, Nat.le_of_ble_eq_true rfl⟩) (pv [.int r_2] hK hP hbs hS rfl (wg33 ca ad w_1)) rfl rfl hl.1 rfl (lv_room (Nat.le_of_ble_eq_true rfl)) dX5_clockOf_6 ⟨Nat.le_of_ble_eq_true rfl, Nat.le_of_ble_eq_true rfl⟩) hS (fun q _ h => h) (fun q h => h) (fun r_4 w_3 t H locs ht hvm hw hP hz1 hk1 hS => ?_)
  have hP : PA D ca ad w_3 H := by rw [← ht]; exact hP
  refine lv_if_le (tgt := 16) hx hb dX5_clockOf_9 (by decide) (fun c_5 => ?_) (fun c_5 => ?_)
  · have hw := hw.1 c_5
    refine lv_aload_n hx hb dX5_clockOf_16 rfl (lv_at hl 0 rfl) ?_
    refine lv_iload_n hx hb dX5_clockOf_17 rfl (lv_at hl 1 rfl) ?_
    refine va_calli (va_runV (As := [.int a0]) (rest := []) ⟨hx, hb, hml, hown, hts⟩ (mX5_clock l D ca ad base hAd w_3 a0 _ hw) (cwV 1 hts gX5_clockOf_X5_clock rfl rfl rfl (by decide +kernel) ⟨Nat.le_of_ble_eq_true rfl, Nat.le_of_ble_eq_true rfl⟩) (pv [.int a0] hK hP hbs hS rfl (wg33 ca ad w_3)) rfl rfl hl.1 rfl (lv_room (Nat.le_of_ble_eq_true rfl)) dX5_clockOf_18 ⟨Nat.le_of_ble_eq_true rfl, Nat.le_of_ble_eq_true rfl⟩) hS (fun q _ h => h) (fun q h => h) (fun r_7 w_6 t H locs ht hvm hw hP hz1 hk1 hS => ?_)
    have hP : PA D ca ad w_6 H := by rw [← ht]; exact hP
    exact W.iret (v := r_7) hx hb hr (fun t ht hW => ⟨⟨r_7, w_6, rfl, hw, by show PA D ca ad w_6 t.heap; rw [ht]; exact hP⟩, hS.F ht⟩) hS.2.2 dX5_clockOf_21
  · have hw := hw.2 c_5
    refine lv_iconst (v := 0) hx hb dX5_clockOf_12 (by decide) ?_
    refine lv_goto (tgt := 21) hx hb dX5_clockOf_13 (by decide) ?_
    exact W.iret (v := 0) hx hb hr (fun t ht hW => ⟨⟨0, w_3, rfl, hw, by show PA D ca ad w_3 t.heap; rw [ht]; exact hP⟩, hS.F ht⟩) hS.2.2 dX5_clockOf_21
set_option maxHeartbeats 4000000 in
set_option maxRecDepth 100000 in
def wpX5_wrongAsk_B24 (a0 : Int32) (a1 : Int32) (a2 : Int32) (post : Int32 → St → Prop) (w : St) : Prop := post 2 w
set_option maxHeartbeats 4000000 in
set_option maxRecDepth 100000 in
def wpX5_wrongAsk (a0 : Int32) (a1 : Int32) (a2 : Int32) (w : St) (post : Int32 → St → Prop) : Prop := wpX5_isClient a0 w (fun r_2 w_1 => (r_2 = 0 → (post 1 w_1)) ∧ (¬ (r_2 = 0) → (wpX5_isLock a1 w_1 (fun r_5 w_4 => (r_5 = 0 → (wpX5_wrongAsk_B24 a0 a1 a2 post w_4)) ∧ (¬ (r_5 = 0) → (wpX5_isMember a2 w_4 (fun r_8 w_7 => (r_8 = 0 → (wpX5_wrongAsk_B24 a0 a1 a2 post w_7)) ∧ (¬ (r_8 = 0) → (post 0 w_7)))))))))
set_option maxHeartbeats 4000000 in
set_option maxRecDepth 100000 in
theorem mX5_wrongAsk (l : Launch) (D : va_G) (ca : Nat → ClassId) (ad : Nat → Nat) (base : Nat) (hAd : okA base ad) (w : St) (a0 : Int32) (a1 : Int32) (a2 : Int32) (post : Int32 → St → Prop) (hw : wpX5_wrongAsk a0 a1 a2 w post) : Met l yX5_wrongAsk wsX5_wrongAsk ({ frames := 2, cells := 0, slots := 0, locals := 43 } : Room) (va_Pc [.ref (ad 33), .int a0, .int a1, .int a2] (BU D ca ad base w)) (va_Qi post (Bp D ca ad) (AB base)) 0 0 (AB base) := by
  refine Met.ofW (cc := cX5_wrongAsk) (maxL := 4) (ret := (some .int)) (by decide) rfl ?_
  intro p e s m args below meth c s₁ B hml hv
  obtain ⟨rfl, hbs, hP, hK⟩ := hv
  have hx := B.exec
  have hb := B.bytes
  have hr := B.returns
  have hts := atoms_spec (ws := wsX5_wrongAsk) B.pre
  have hown : s.vm.findClass RX5 = some m.cls := findClass_of_methodNamed B.named
  have hlocks := B.notSynchronized
  have hS : va_S (AB base) s.heap s.heap [] := va_S.rf
  have hB24 : ∀ (w : St), wpX5_wrongAsk_B24 a0 a1 a2 post w → ∀ (H : Heap) (locs : List Loc), PA D ca ad w H → va_S (AB base) s.heap H locs → ∀ ls : Array Slot, lv_has ls 4 [] → W p l e (headSpec wsX5_wrongAsk ({ frames := 2, cells := 0, slots := 0, locals := 43 } : Room)).room s m ([Value.ref (ad 33), Value.int a0, Value.int a1, Value.int a2].toArray) below meth c H locs 0 0 (MQ below (va_Qi post (Bp D ca ad) (AB base)) ([Value.ref (ad 33), Value.int a0, Value.int a1, Value.int a2].toArray) s 0 0 (AB base)) (F0 m 24 ls []) := by
    intro w hw H locs hP hS ls hl
    refine lv_iconst (v := 2) hx hb dX5_wrongAsk_24 (by decide) ?_
    refine lv_goto (tgt := 29) hx hb dX5_wrongAsk_25 (by decide) ?_
    exact W.iret (v := 2) hx hb hr (fun t ht hW => ⟨⟨2, w, rfl, hw, by show PA D ca ad w t.heap; rw [ht]; exact hP⟩, hS.F ht⟩) hS.2.2 dX5_wrongAsk_29
  have hl := lv_entry ([.ref (ad 33), .int a0, .int a1, .int a2]) (n := 4) (Nat.le_of_ble_eq_true rfl)
  rw [lg_entry_eq]
  generalize (lg_sl ([.ref (ad 33), .int a0, .int a1, .int a2]) ++ List.replicate (4 - (lg_sl ([.ref (ad 33), .int a0, .int a1, .int a2])).length) Slot.unset).toArray = ls at hl ⊢
  have hl : lv_has ls 4 [(0, .ref (ad 33)), (1, .int a0), (2, .int a1), (3, .int a2)] := hl
  refine lv_aload_n hx hb dX5_wrongAsk_0 rfl (lv_at hl 0 rfl) ?_
  refine lv_iload_n hx hb dX5_wrongAsk_1 rfl (lv_at hl 1 rfl) ?_
  refine va_calli (va_runV (As := [.int a0]) (rest := []) ⟨hx, hb, hml, hown, hts⟩ (mX5_isClient l D ca ad base hAd w a0 _ hw) (cwV 1 hts gX5_wrongAsk_X5_isClient rfl rfl rfl (by decide +kernel) ⟨Nat.le_of_ble_eq_true rfl, Nat.le_of_ble_eq_true rfl⟩) (pv [.int a0] hK hP hbs hS rfl (wg33 ca ad w)) rfl rfl hl.1 rfl (lv_room (Nat.le_of_ble_eq_true rfl)) dX5_wrongAsk_2 ⟨Nat.le_of_ble_eq_true rfl, Nat.le_of_ble_eq_true rfl⟩) hS (fun q _ h => h) (fun q h => h) (fun r_2 w_1 t H locs ht hvm hw hP hz1 hk1 hS => ?_)
  have hP : PA D ca ad w_1 H := by rw [← ht]; exact hP
  refine lv_if_ne (tgt := 10) hx hb dX5_wrongAsk_5 (by decide) (fun c_3 => ?_) (fun c_3 => ?_)
  · have hw := hw.2 c_3
    refine lv_iload_n hx hb dX5_wrongAsk_10 rfl (lv_at hl 2 rfl) ?_
    refine va_calli (va_runS (As := [.int a1]) (rest := []) ⟨hx, hb, hml, hown, hts⟩ (mX5_isLock l D ca ad base hAd w_1 a1 _ hw) (va_cwS 1 hts gX5_wrongAsk_X5_isLock rfl rfl rfl (by decide +kernel) ⟨Nat.le_of_ble_eq_true rfl, Nat.le_of_ble_eq_true rfl⟩) (ps [.int a1] hK hP hbs hS) rfl rfl hl.1 rfl (lv_room (Nat.le_of_ble_eq_true rfl)) dX5_wrongAsk_11 ⟨Nat.le_of_ble_eq_true rfl, Nat.le_of_ble_eq_true rfl⟩) hS (fun q _ h => h) (fun q h => h) (fun r_5 w_4 t H locs ht hvm hw hP hz1 hk1 hS => ?_)
    have hP : PA D ca ad w_4 H := by rw [← ht]; exact hP
    refine lv_if_eq (tgt := 24) hx hb dX5_wrongAsk_14 (by decide) (fun c_6 => ?_) (fun c_6 => ?_)
    · have hw := hw.1 c_6
      exact hB24 w_4 hw _ _ hP hS ls (lv_sub hl [] rfl)
    · have hw := hw.2 c_6
      refine lv_iload_n hx hb dX5_wrongAsk_17 rfl (lv_at hl 3 rfl) ?_
      refine va_calli (va_runS (As := [.int a2]) (rest := []) ⟨hx, hb, hml, hown, hts⟩ (mX5_isMember l D ca ad base hAd w_4 a2 _ hw) (va_cwS 1 hts gX5_wrongAsk_X5_isMember rfl rfl rfl (by decide +kernel) ⟨Nat.le_of_ble_eq_true rfl, Nat.le_of_ble_eq_true rfl⟩) (ps [.int a2] hK hP hbs hS) rfl rfl hl.1 rfl (lv_room (Nat.le_of_ble_eq_true rfl)) dX5_wrongAsk_18 ⟨Nat.le_of_ble_eq_true rfl, Nat.le_of_ble_eq_true rfl⟩) hS (fun q _ h => h) (fun q h => h) (fun r_8 w_7 t H locs ht hvm hw hP hz1 hk1 hS => ?_)
      have hP : PA D ca ad w_7 H := by rw [← ht]; exact hP
      refine lv_if_ne (tgt := 28) hx hb dX5_wrongAsk_21 (by decide) (fun c_9 => ?_) (fun c_9 => ?_)
      · have hw := hw.2 c_9
        refine lv_iconst (v := 0) hx hb dX5_wrongAsk_28 (by decide) ?_
        exact W.iret (v := 0) hx hb hr (fun t ht hW => ⟨⟨0, w_7, rfl, hw, by show PA D ca ad w_7 t.heap; rw [ht]; exact hP⟩, hS.F ht⟩) hS.2.2 dX5_wrongAsk_29
      · have hw := hw.1 c_9
        exact hB24 w_7 hw _ _ hP hS ls (lv_sub hl [] rfl)
  · have hw := hw.1 c_3
    refine lv_iconst (v := 1) hx hb dX5_wrongAsk_8 (by decide) ?_
    exact W.iret (v := 1) hx hb hr (fun t ht hW => ⟨⟨1, w_1, rfl, hw, by show PA D ca ad w_1 t.heap; rw [ht]; exact hP⟩, hS.F ht⟩) hS.2.2 dX5_wrongAsk_9
set_option maxHeartbeats 4000000 in
set_option maxRecDepth 100000 in
def wpX5_cannotAsk_B36 (a0 : Int32) (a1 : Int32) (post : Int32 → St → Prop) (w : St) : Prop := post 1 w
set_option maxHeartbeats 4000000 in
set_option maxRecDepth 100000 in
def wpX5_cannotAsk (a0 : Int32) (a1 : Int32) (w : St) (post : Int32 → St → Prop) : Prop := (vp_in a0 6) ∧ (((w.1 36 (a0).toNatClampNeg) = 0 → ((vp_in a1 5) ∧ (((w.1 34 (a1).toNatClampNeg) = 0 → (wpX5_leads a1 w (fun r_6 w_5 => (r_6 = 0 → (wpX5_cannotAsk_B36 a0 a1 post w_5)) ∧ (¬ (r_6 = 0) → (((w_5.1 70 0) = 250 → (wpX5_cannotAsk_B36 a0 a1 post w_5)) ∧ (¬ ((w_5.1 70 0) = 250) → (post 0 w_5))))))) ∧ (¬ ((w.1 34 (a1).toNatClampNeg) = 0) → (wpX5_cannotAsk_B36 a0 a1 post w))))) ∧ (¬ ((w.1 36 (a0).toNatClampNeg) = 0) → (wpX5_cannotAsk_B36 a0 a1 post w)))
set_option maxHeartbeats 4000000 in
set_option maxRecDepth 100000 in
theorem mX5_cannotAsk (l : Launch) (D : va_G) (ca : Nat → ClassId) (ad : Nat → Nat) (base : Nat) (hAd : okA base ad) (w : St) (a0 : Int32) (a1 : Int32) (post : Int32 → St → Prop) (hw : wpX5_cannotAsk a0 a1 w post) : Met l yX5_cannotAsk wsX5_cannotAsk ({ frames := 1, cells := 0, slots := 0, locals := 21 } : Room) (va_Pc [.ref (ad 33), .int a0, .int a1] (BU D ca ad base w)) (va_Qi post (Bp D ca ad) (AB base)) 0 0 (AB base) := by
  refine Met.ofW (cc := cX5_cannotAsk) (maxL := 3) (ret := (some .boolean)) (by decide) rfl ?_
  intro p e s m args below meth c s₁ B hml hv
  obtain ⟨rfl, hbs, hP, hK⟩ := hv
  have hx := B.exec
  have hb := B.bytes
  have hr := B.returns
  have hts := atoms_spec (ws := wsX5_cannotAsk) B.pre
  have hown : s.vm.findClass RX5 = some m.cls := findClass_of_methodNamed B.named
  have hlocks := B.notSynchronized
  have in_X5 : ∀ w ∈ wsX50, w ∈ wsX5_cannotAsk := by decide +kernel
  have lk_7 := hts (.fieldLink RX5 7 "LockQuorumModel" "areDown" "[Z") (by decide +kernel)
  have lk_16 := hts (.fieldLink RX5 16 "LockQuorumModel" "arePaused" "[Z") (by decide +kernel)
  have lk_97 := hts (.fieldLink RX5 97 "LockQuorumModel" "entries" "I") (by decide +kernel)
  have hS : va_S (AB base) s.heap s.heap [] := va_S.rf
  have hB36 : ∀ (w : St), wpX5_cannotAsk_B36 a0 a1 post w → ∀ (H : Heap) (locs : List Loc), PA D ca ad w H → va_S (AB base) s.heap H locs → ∀ ls : Array Slot, lv_has ls 3 [] → W p l e (headSpec wsX5_cannotAsk ({ frames := 1, cells := 0, slots := 0, locals := 21 } : Room)).room s m ([Value.ref (ad 33), Value.int a0, Value.int a1].toArray) below meth c H locs 0 0 (MQ below (va_Qi post (Bp D ca ad) (AB base)) ([Value.ref (ad 33), Value.int a0, Value.int a1].toArray) s 0 0 (AB base)) (F0 m 36 ls []) := by
    intro w hw H locs hP hS ls hl
    refine lv_iconst (v := 1) hx hb dX5_cannotAsk_36 (by decide) ?_
    refine lv_goto (tgt := 41) hx hb dX5_cannotAsk_37 (by decide) ?_
    exact W.zret (v := 1) hx hb hr (by decide) (fun t ht hW => ⟨⟨1, w, rfl, hw, by show PA D ca ad w t.heap; rw [ht]; exact hP⟩, hS.F ht⟩) hS.2.2 dX5_cannotAsk_41
  have hl := lv_entry ([.ref (ad 33), .int a0, .int a1]) (n := 3) (Nat.le_of_ble_eq_true rfl)
  rw [lg_entry_eq]
  generalize (lg_sl ([.ref (ad 33), .int a0, .int a1]) ++ List.replicate (3 - (lg_sl ([.ref (ad 33), .int a0, .int a1])).length) Slot.unset).toArray = ls at hl ⊢
  have hl : lv_has ls 3 [(0, .ref (ad 33)), (1, .int a0), (2, .int a1)] := hl
  refine lv_aload_n hx hb dX5_cannotAsk_0 rfl (lv_at hl 0 rfl) ?_
  refine va_get (D := D) (ci := 7) (v := .ref (ad 36)) (C := RX5) (T := TX5) (N := 30) hx hb hts in_X5 hown hK hP 33 (wg33 ca ad w) rfl 2 (by decide) lk_16 (fun _ h9 => h9) rfl dX5_cannotAsk_1 ?_
  refine lv_iload_n hx hb dX5_cannotAsk_4 rfl (lv_at hl 1 rfl) ?_
  obtain ⟨h_1, hw⟩ := hw
  refine va_zald hx hb hK hP 36 1 (wg36 ca ad w) rfl h_1 dX5_cannotAsk_5 ?_
  refine lv_if_ne (tgt := 36) hx hb dX5_cannotAsk_6 (by decide) (fun c_2 => ?_) (fun c_2 => ?_)
  · have hw := hw.2 c_2
    exact hB36 w hw _ _ hP hS ls (lv_sub hl [] rfl)
  · have hw := hw.1 c_2
    refine lv_aload_n hx hb dX5_cannotAsk_9 rfl (lv_at hl 0 rfl) ?_
    refine va_get (D := D) (ci := 7) (v := .ref (ad 34)) (C := RX5) (T := TX5) (N := 30) hx hb hts in_X5 hown hK hP 33 (wg33 ca ad w) rfl 0 (by decide) lk_7 (fun _ h9 => h9) rfl dX5_cannotAsk_10 ?_
    refine lv_iload_n hx hb dX5_cannotAsk_13 rfl (lv_at hl 2 rfl) ?_
    obtain ⟨h_3, hw⟩ := hw
    refine va_zald hx hb hK hP 34 1 (wg34 ca ad w) rfl h_3 dX5_cannotAsk_14 ?_
    refine lv_if_ne (tgt := 36) hx hb dX5_cannotAsk_15 (by decide) (fun c_4 => ?_) (fun c_4 => ?_)
    · have hw := hw.2 c_4
      exact hB36 w hw _ _ hP hS ls (lv_sub hl [] rfl)
    · have hw := hw.1 c_4
      refine lv_aload_n hx hb dX5_cannotAsk_18 rfl (lv_at hl 0 rfl) ?_
      refine lv_iload_n hx hb dX5_cannotAsk_19 rfl (lv_at hl 2 rfl) ?_
      refine va_calli (va_runV (As := [.int a1]) (rest := []) ⟨hx, hb, hml, hown, hts⟩ (mX5_leads l D ca ad base hAd w a1 _ hw) (cwV 1 hts gX5_cannotAsk_X5_leads rfl rfl rfl (by decide +kernel) ⟨Nat.le_of_ble_eq_true rfl, Nat.le_of_ble_eq_true rfl⟩) (pv [.int a1] hK hP hbs hS rfl (wg33 ca ad w)) rfl rfl hl.1 rfl (lv_room (Nat.le_of_ble_eq_true rfl)) dX5_cannotAsk_20 ⟨Nat.le_of_ble_eq_true rfl, Nat.le_of_ble_eq_true rfl⟩) hS (fun q _ h => h) (fun q h => h) (fun r_6 w_5 t H locs ht hvm hw hP hz1 hk1 hS => ?_)
      have hP : PA D ca ad w_5 H := by rw [← ht]; exact hP
      refine lv_if_eq (tgt := 36) hx hb dX5_cannotAsk_23 (by decide) (fun c_7 => ?_) (fun c_7 => ?_)
      · have hw := hw.1 c_7
        exact hB36 w_5 hw _ _ hP hS ls (lv_sub hl [] rfl)
      · have hw := hw.2 c_7
        refine lv_aload_n hx hb dX5_cannotAsk_26 rfl (lv_at hl 0 rfl) ?_
        refine va_get (D := D) (ci := 7) (v := .int (w_5.1 70 0)) (C := RX5) (T := TX5) (N := 30) hx hb hts in_X5 hown hK hP 33 (wg33 ca ad w_5) rfl 28 (by decide) lk_97 (fun _ h9 => h9) rfl dX5_cannotAsk_27 ?_
        refine lv_sipush (v := 250) hx hb dX5_cannotAsk_30 (by decide) ?_
        refine lv_icmp_ne (tgt := 40) hx hb dX5_cannotAsk_33 (by decide) (fun c_8 => ?_) (fun c_8 => ?_)
        · have hw := hw.2 c_8
          refine lv_iconst (v := 0) hx hb dX5_cannotAsk_40 (by decide) ?_
          exact W.zret (v := 0) hx hb hr (by decide) (fun t ht hW => ⟨⟨0, w_5, rfl, hw, by show PA D ca ad w_5 t.heap; rw [ht]; exact hP⟩, hS.F ht⟩) hS.2.2 dX5_cannotAsk_41
        · have hw := hw.1 c_8
          exact hB36 w_5 hw _ _ hP hS ls (lv_sub hl [] rfl)
set_option maxHeartbeats 4000000 in
set_option maxRecDepth 100000 in
def wpX5_looks_B40 (a0 : Int32) (post : Int32 → St → Prop) (K9 : Int32 → Int32 → St → Prop) (v2 : Int32) (v3 : Int32) (w : St) : Prop := K9 v2 (v3 + 1) w
set_option maxHeartbeats 4000000 in
set_option maxRecDepth 100000 in
def wpX5_looks_B106 (a0 : Int32) (post : Int32 → St → Prop) (K80 : Int32 → St → Prop) (v3 : Int32) (w : St) : Prop := K80 (v3 + 1) w
set_option maxHeartbeats 4000000 in
set_option maxRecDepth 100000 in
def wpX5_looks_L80 (a0 : Int32) (post : Int32 → St → Prop) : Nat → Int32 → St → Prop
  | 0, _, _ => False
  | n + 1, v3, w => (5 ≤ v3 → (post 45 w)) ∧ (¬ (5 ≤ v3) → (wpX5_reaches a0 v3 w (fun r_3 w_2 => (r_3 = 0 → (wpX5_looks_B106 a0 post (fun v3 w => wpX5_looks_L80 a0 post n v3 w) v3 w_2)) ∧ (¬ (r_3 = 0) → ((vp_in a0 5) ∧ ((vp_in v3 5) ∧ (∀ w_7 : St, w_7 = (uA w_2 39 (upd (w_2.1 39) (v3).toNatClampNeg (w_2.1 39 (a0).toNatClampNeg))) → wpX5_looks_B106 a0 post (fun v3 w => wpX5_looks_L80 a0 post n v3 w) v3 w_7)))))))
set_option maxHeartbeats 4000000 in
set_option maxRecDepth 100000 in
def wpX5_looks_L9 (a0 : Int32) (post : Int32 → St → Prop) : Nat → Int32 → Int32 → St → Prop
  | 0, _, _, _ => False
  | n + 1, v2, v3, w => (5 ≤ v3 → ((vp_in a0 5) ∧ ((v2 ≤ (w.1 39 (a0).toNatClampNeg) → (wpX5_reachedBy a0 w (fun r_13 w_12 => (3 ≤ r_13 → (∃ n : Nat, wpX5_looks_L80 a0 post n 0 w_12)) ∧ (¬ (3 ≤ r_13) → (post 110 w_12))))) ∧ (¬ (v2 ≤ (w.1 39 (a0).toNatClampNeg)) → ((vp_in a0 5) ∧ (∀ w_16 : St, w_16 = (uA w 39 (upd (w.1 39) (a0).toNatClampNeg v2)) → post 116 w_16)))))) ∧ (¬ (5 ≤ v3) → (wpX5_reaches a0 v3 w (fun r_19 w_18 => (r_19 = 0 → (wpX5_looks_B40 a0 post (fun v2 v3 w => wpX5_looks_L9 a0 post n v2 v3 w) v2 v3 w_18)) ∧ (¬ (r_19 = 0) → ((vp_in v3 5) ∧ (((w_18.1 39 (v3).toNatClampNeg) ≤ v2 → (wpX5_looks_B40 a0 post (fun v2 v3 w => wpX5_looks_L9 a0 post n v2 v3 w) v2 v3 w_18)) ∧ (¬ ((w_18.1 39 (v3).toNatClampNeg) ≤ v2) → ((vp_in v3 5) ∧ (wpX5_looks_B40 a0 post (fun v2 v3 w => wpX5_looks_L9 a0 post n v2 v3 w) (w_18.1 39 (v3).toNatClampNeg) v3 w_18)))))))))
set_option maxHeartbeats 4000000 in
set_option maxRecDepth 100000 in
def wpX5_looks (a0 : Int32) (w : St) (post : Int32 → St → Prop) : Prop := (vp_in a0 5) ∧ (∃ n : Nat, wpX5_looks_L9 a0 post n (w.1 39 (a0).toNatClampNeg) 0 w)
set_option maxHeartbeats 4000000 in
set_option maxRecDepth 100000 in
theorem mX5_looks (l : Launch) (D : va_G) (ca : Nat → ClassId) (ad : Nat → Nat) (base : Nat) (hAd : okA base ad) (w : St) (a0 : Int32) (post : Int32 → St → Prop) (hw : wpX5_looks a0 w post) : Met l yX5_looks wsX5_looks ({ frames := 2, cells := 0, slots := 0, locals := 45 } : Room) (va_Pc [.ref (ad 33), .int a0] (BU D ca ad base w)) (va_Qi post (Bp D ca ad) (AB base)) 0 0 (AB base) := by
  refine Met.ofW (cc := cX5_looks) (maxL := 4) (ret := (some .char)) (by decide) rfl ?_
  intro p e s m args below meth c s₁ B hml hv
  obtain ⟨rfl, hbs, hP, hK⟩ := hv
  have hx := B.exec
  have hb := B.bytes
  have hr := B.returns
  have hts := atoms_spec (ws := wsX5_looks) B.pre
  have hown : s.vm.findClass RX5 = some m.cls := findClass_of_methodNamed B.named
  have hlocks := B.notSynchronized
  have in_X5 : ∀ w ∈ wsX50, w ∈ wsX5_looks := by decide +kernel
  have lk_25 := hts (.fieldLink RX5 25 "LockQuorumModel" "terms" "[I") (by decide +kernel)
  have hS : va_S (AB base) s.heap s.heap [] := va_S.rf
  have hB80 : ∀ (n : Nat) (v3 : Int32) (w : St), wpX5_looks_L80 a0 post n v3 w → ∀ (H : Heap) (locs : List Loc), PA D ca ad w H → va_S (AB base) s.heap H locs → ∀ ls : Array Slot, lv_has ls 4 [(0, .ref (ad 33)), (1, .int a0), (3, .int v3)] → W p l e (headSpec wsX5_looks ({ frames := 2, cells := 0, slots := 0, locals := 45 } : Room)).room s m ([Value.ref (ad 33), Value.int a0].toArray) below meth c H locs 0 0 (MQ below (va_Qi post (Bp D ca ad) (AB base)) ([Value.ref (ad 33), Value.int a0].toArray) s 0 0 (AB base)) (F0 m 80 ls []) := by
    intro n
    induction n with
    | zero => intro v3 w hw; exact hw.elim
    | succ n ih80 =>
      have hB106 : ∀ (v3 : Int32) (w : St), wpX5_looks_B106 a0 post (fun v3 w => wpX5_looks_L80 a0 post n v3 w) v3 w → ∀ (H : Heap) (locs : List Loc), PA D ca ad w H → va_S (AB base) s.heap H locs → ∀ ls : Array Slot, lv_has ls 4 [(0, .ref (ad 33)), (1, .int a0), (3, .int v3)] → W p l e (headSpec wsX5_looks ({ frames := 2, cells := 0, slots := 0, locals := 45 } : Room)).room s m ([Value.ref (ad 33), Value.int a0].toArray) below meth c H locs 0 0 (MQ below (va_Qi post (Bp D ca ad) (AB base)) ([Value.ref (ad 33), Value.int a0].toArray) s 0 0 (AB base)) (F0 m 106 ls []) := by
        intro v3 w hw H locs hP hS ls hl
        refine lv_iinc (v := (v3 + 1)) (lv' := [(3, .int (v3 + 1)), (0, .ref (ad 33)), (1, .int a0)]) hx hb dX5_looks_106 hl (k := 2) rfl rfl (by decide) rfl (fun ls hl => ?_)
        refine lv_goto (tgt := 80) hx hb dX5_looks_109 (by decide) ?_
        exact ih80 (v3 + 1) w hw _ _ hP hS ls (lv_sub hl [1, 2, 0] rfl)
      intro v3 w hw H locs hP hS ls hl
      refine lv_iload_n hx hb dX5_looks_80 rfl (lv_at hl 2 rfl) ?_
      refine lv_iconst (v := 5) hx hb dX5_looks_81 (by decide) ?_
      refine lv_icmp_ge (tgt := 112) hx hb dX5_looks_82 (by decide) (fun c_1 => ?_) (fun c_1 => ?_)
      · have hw := hw.1 c_1
        refine lv_bipush (v := 45) hx hb dX5_looks_112 (by decide) ?_
        exact W.zret (v := 45) hx hb hr (by decide) (fun t ht hW => ⟨⟨45, w, rfl, hw, by show PA D ca ad w t.heap; rw [ht]; exact hP⟩, hS.F ht⟩) hS.2.2 dX5_looks_114
      · have hw := hw.2 c_1
        refine lv_aload_n hx hb dX5_looks_85 rfl (lv_at hl 0 rfl) ?_
        refine lv_iload_n hx hb dX5_looks_86 rfl (lv_at hl 1 rfl) ?_
        refine lv_iload_n hx hb dX5_looks_87 rfl (lv_at hl 2 rfl) ?_
        refine va_calli (va_runV (As := [.int a0, .int v3]) (rest := []) ⟨hx, hb, hml, hown, hts⟩ (mX5_reaches l D ca ad base hAd w a0 v3 _ hw) (cwV 2 hts gX5_looks_X5_reaches rfl rfl rfl (by decide +kernel) ⟨Nat.le_of_ble_eq_true rfl, Nat.le_of_ble_eq_true rfl⟩) (pv [.int a0, .int v3] hK hP hbs hS rfl (wg33 ca ad w)) rfl rfl hl.1 rfl (lv_room (Nat.le_of_ble_eq_true rfl)) dX5_looks_88 ⟨Nat.le_of_ble_eq_true rfl, Nat.le_of_ble_eq_true rfl⟩) hS (fun q _ h => h) (fun q h => h) (fun r_3 w_2 t H locs ht hvm hw hP hz1 hk1 hS => ?_)
        have hP : PA D ca ad w_2 H := by rw [← ht]; exact hP
        refine lv_if_eq (tgt := 106) hx hb dX5_looks_91 (by decide) (fun c_4 => ?_) (fun c_4 => ?_)
        · have hw := hw.1 c_4
          exact hB106 v3 w_2 hw _ _ hP hS ls (lv_sub hl [0, 1, 2] rfl)
        · have hw := hw.2 c_4
          refine lv_aload_n hx hb dX5_looks_94 rfl (lv_at hl 0 rfl) ?_
          refine va_get (D := D) (ci := 7) (v := .ref (ad 39)) (C := RX5) (T := TX5) (N := 30) hx hb hts in_X5 hown hK hP 33 (wg33 ca ad w_2) rfl 5 (by decide) lk_25 (fun _ h9 => h9) rfl dX5_looks_95 ?_
          refine lv_iload_n hx hb dX5_looks_98 rfl (lv_at hl 2 rfl) ?_
          refine lv_aload_n hx hb dX5_looks_99 rfl (lv_at hl 0 rfl) ?_
          refine va_get (D := D) (ci := 7) (v := .ref (ad 39)) (C := RX5) (T := TX5) (N := 30) hx hb hts in_X5 hown hK hP 33 (wg33 ca ad w_2) rfl 5 (by decide) lk_25 (fun _ h9 => h9) rfl dX5_looks_100 ?_
          refine lv_iload_n hx hb dX5_looks_103 rfl (lv_at hl 1 rfl) ?_
          obtain ⟨h_5, hw⟩ := hw
          refine va_iald hx hb hK hP 39 0 (wg39 ca ad w_2) rfl h_5 dX5_looks_104 ?_
          obtain ⟨h_6, hw⟩ := hw
          refine va_iast hx hb hK hP (DA hAd) hS 39 0 (wg39 ca ad w_2) rfl h_6 dX5_looks_105 (fun H locs hP hD hS => ?_)
          obtain ⟨w_7, e_8⟩ : ∃ z : St, z = (uA w_2 39 (upd (w_2.1 39) (v3).toNatClampNeg (w_2.1 39 (a0).toNatClampNeg))) := ⟨_, rfl⟩
          have hP : PA D ca ad w_7 H := by rw [e_8]; exact wu39 hP
          have hw := hw w_7 e_8
          exact hB106 v3 w_7 hw _ _ hP hS ls (lv_sub hl [0, 1, 2] rfl)
  have hB9 : ∀ (n : Nat) (v2 : Int32) (v3 : Int32) (w : St), wpX5_looks_L9 a0 post n v2 v3 w → ∀ (H : Heap) (locs : List Loc), PA D ca ad w H → va_S (AB base) s.heap H locs → ∀ ls : Array Slot, lv_has ls 4 [(0, .ref (ad 33)), (1, .int a0), (2, .int v2), (3, .int v3)] → W p l e (headSpec wsX5_looks ({ frames := 2, cells := 0, slots := 0, locals := 45 } : Room)).room s m ([Value.ref (ad 33), Value.int a0].toArray) below meth c H locs 0 0 (MQ below (va_Qi post (Bp D ca ad) (AB base)) ([Value.ref (ad 33), Value.int a0].toArray) s 0 0 (AB base)) (F0 m 9 ls []) := by
    intro n
    induction n with
    | zero => intro v2 v3 w hw; exact hw.elim
    | succ n ih9 =>
      have hB40 : ∀ (v2 : Int32) (v3 : Int32) (w : St), wpX5_looks_B40 a0 post (fun v2 v3 w => wpX5_looks_L9 a0 post n v2 v3 w) v2 v3 w → ∀ (H : Heap) (locs : List Loc), PA D ca ad w H → va_S (AB base) s.heap H locs → ∀ ls : Array Slot, lv_has ls 4 [(0, .ref (ad 33)), (1, .int a0), (2, .int v2), (3, .int v3)] → W p l e (headSpec wsX5_looks ({ frames := 2, cells := 0, slots := 0, locals := 45 } : Room)).room s m ([Value.ref (ad 33), Value.int a0].toArray) below meth c H locs 0 0 (MQ below (va_Qi post (Bp D ca ad) (AB base)) ([Value.ref (ad 33), Value.int a0].toArray) s 0 0 (AB base)) (F0 m 40 ls []) := by
        intro v2 v3 w hw H locs hP hS ls hl
        refine lv_iinc (v := (v3 + 1)) (lv' := [(3, .int (v3 + 1)), (0, .ref (ad 33)), (1, .int a0), (2, .int v2)]) hx hb dX5_looks_40 hl (k := 3) rfl rfl (by decide) rfl (fun ls hl => ?_)
        refine lv_goto (tgt := 9) hx hb dX5_looks_43 (by decide) ?_
        exact ih9 v2 (v3 + 1) w hw _ _ hP hS ls (lv_sub hl [1, 2, 3, 0] rfl)
      intro v2 v3 w hw H locs hP hS ls hl
      refine lv_iload_n hx hb dX5_looks_9 rfl (lv_at hl 3 rfl) ?_
      refine lv_iconst (v := 5) hx hb dX5_looks_10 (by decide) ?_
      refine lv_icmp_ge (tgt := 46) hx hb dX5_looks_11 (by decide) (fun c_9 => ?_) (fun c_9 => ?_)
      · have hw := hw.1 c_9
        refine lv_iload_n hx hb dX5_looks_46 rfl (lv_at hl 2 rfl) ?_
        refine lv_aload_n hx hb dX5_looks_47 rfl (lv_at hl 0 rfl) ?_
        refine va_get (D := D) (ci := 7) (v := .ref (ad 39)) (C := RX5) (T := TX5) (N := 30) hx hb hts in_X5 hown hK hP 33 (wg33 ca ad w) rfl 5 (by decide) lk_25 (fun _ h9 => h9) rfl dX5_looks_48 ?_
        refine lv_iload_n hx hb dX5_looks_51 rfl (lv_at hl 1 rfl) ?_
        obtain ⟨h_10, hw⟩ := hw
        refine va_iald hx hb hK hP 39 0 (wg39 ca ad w) rfl h_10 dX5_looks_52 ?_
        refine lv_icmp_le (tgt := 66) hx hb dX5_looks_53 (by decide) (fun c_11 => ?_) (fun c_11 => ?_)
        · have hw := hw.1 c_11
          refine lv_aload_n hx hb dX5_looks_66 rfl (lv_at hl 0 rfl) ?_
          refine lv_iload_n hx hb dX5_looks_67 rfl (lv_at hl 1 rfl) ?_
          refine va_calli (va_runV (As := [.int a0]) (rest := []) ⟨hx, hb, hml, hown, hts⟩ (mX5_reachedBy l D ca ad base hAd w a0 _ hw) (cwV 1 hts gX5_looks_X5_reachedBy rfl rfl rfl (by decide +kernel) ⟨Nat.le_of_ble_eq_true rfl, Nat.le_of_ble_eq_true rfl⟩) (pv [.int a0] hK hP hbs hS rfl (wg33 ca ad w)) rfl rfl hl.1 rfl (lv_room (Nat.le_of_ble_eq_true rfl)) dX5_looks_68 ⟨Nat.le_of_ble_eq_true rfl, Nat.le_of_ble_eq_true rfl⟩) hS (fun q _ h => h) (fun q h => h) (fun r_13 w_12 t H locs ht hvm hw hP hz1 hk1 hS => ?_)
          have hP : PA D ca ad w_12 H := by rw [← ht]; exact hP
          refine lv_iconst (v := 3) hx hb dX5_looks_71 (by decide) ?_
          refine lv_icmp_ge (tgt := 78) hx hb dX5_looks_72 (by decide) (fun c_14 => ?_) (fun c_14 => ?_)
          · have hw := hw.1 c_14
            refine lv_iconst (v := 0) hx hb dX5_looks_78 (by decide) ?_
            refine lv_istore_n (lv' := [(3, .int 0), (0, .ref (ad 33)), (1, .int a0), (2, .int v2)]) hx hb dX5_looks_79 rfl hl (by decide) rfl (fun ls hl => ?_)
            obtain ⟨n_80, hw⟩ := hw
            exact hB80 n_80 0 w_12 hw _ _ hP hS ls (lv_sub hl [1, 2, 0] rfl)
          · have hw := hw.2 c_14
            refine lv_bipush (v := 110) hx hb dX5_looks_75 (by decide) ?_
            exact W.zret (v := 110) hx hb hr (by decide) (fun t ht hW => ⟨⟨110, w_12, rfl, hw, by show PA D ca ad w_12 t.heap; rw [ht]; exact hP⟩, hS.F ht⟩) hS.2.2 dX5_looks_77
        · have hw := hw.2 c_11
          refine lv_aload_n hx hb dX5_looks_56 rfl (lv_at hl 0 rfl) ?_
          refine va_get (D := D) (ci := 7) (v := .ref (ad 39)) (C := RX5) (T := TX5) (N := 30) hx hb hts in_X5 hown hK hP 33 (wg33 ca ad w) rfl 5 (by decide) lk_25 (fun _ h9 => h9) rfl dX5_looks_57 ?_
          refine lv_iload_n hx hb dX5_looks_60 rfl (lv_at hl 1 rfl) ?_
          refine lv_iload_n hx hb dX5_looks_61 rfl (lv_at hl 2 rfl) ?_
          obtain ⟨h_15, hw⟩ := hw
          refine va_iast hx hb hK hP (DA hAd) hS 39 0 (wg39 ca ad w) rfl h_15 dX5_looks_62 (fun H locs hP hD hS => ?_)
          obtain ⟨w_16, e_17⟩ : ∃ z : St, z = (uA w 39 (upd (w.1 39) (a0).toNatClampNeg v2)) := ⟨_, rfl⟩
          have hP : PA D ca ad w_16 H := by rw [e_17]; exact wu39 hP
          have hw := hw w_16 e_17
          refine lv_bipush (v := 116) hx hb dX5_looks_63 (by decide) ?_
          exact W.zret (v := 116) hx hb hr (by decide) (fun t ht hW => ⟨⟨116, w_16, rfl, hw, by show PA D ca ad w_16 t.heap; rw [ht]; exact hP⟩, hS.F ht⟩) hS.2.2 dX5_looks_65
      · have hw := hw.2 c_9
        refine lv_aload_n hx hb dX5_looks_14 rfl (lv_at hl 0 rfl) ?_
        refine lv_iload_n hx hb dX5_looks_15 rfl (lv_at hl 1 rfl) ?_
        refine lv_iload_n hx hb dX5_looks_16 rfl (lv_at hl 3 rfl) ?_
        refine va_calli (va_runV (As := [.int a0, .int v3]) (rest := []) ⟨hx, hb, hml, hown, hts⟩ (mX5_reaches l D ca ad base hAd w a0 v3 _ hw) (cwV 2 hts gX5_looks_X5_reaches rfl rfl rfl (by decide +kernel) ⟨Nat.le_of_ble_eq_true rfl, Nat.le_of_ble_eq_true rfl⟩) (pv [.int a0, .int v3] hK hP hbs hS rfl (wg33 ca ad w)) rfl rfl hl.1 rfl (lv_room (Nat.le_of_ble_eq_true rfl)) dX5_looks_17 ⟨Nat.le_of_ble_eq_true rfl, Nat.le_of_ble_eq_true rfl⟩) hS (fun q _ h => h) (fun q h => h) (fun r_19 w_18 t H locs ht hvm hw hP hz1 hk1 hS => ?_)
        have hP : PA D ca ad w_18 H := by rw [← ht]; exact hP
        refine lv_if_eq (tgt := 40) hx hb dX5_looks_20 (by decide) (fun c_20 => ?_) (fun c_20 => ?_)
        · have hw := hw.1 c_20
          exact hB40 v2 v3 w_18 hw _ _ hP hS ls (lv_sub hl [0, 1, 2, 3] rfl)
        · have hw := hw.2 c_20
          refine lv_aload_n hx hb dX5_looks_23 rfl (lv_at hl 0 rfl) ?_
          refine va_get (D := D) (ci := 7) (v := .ref (ad 39)) (C := RX5) (T := TX5) (N := 30) hx hb hts in_X5 hown hK hP 33 (wg33 ca ad w_18) rfl 5 (by decide) lk_25 (fun _ h9 => h9) rfl dX5_looks_24 ?_
          refine lv_iload_n hx hb dX5_looks_27 rfl (lv_at hl 3 rfl) ?_
          obtain ⟨h_21, hw⟩ := hw
          refine va_iald hx hb hK hP 39 0 (wg39 ca ad w_18) rfl h_21 dX5_looks_28 ?_
          refine lv_iload_n hx hb dX5_looks_29 rfl (lv_at hl 2 rfl) ?_
          refine lv_icmp_le (tgt := 40) hx hb dX5_looks_30 (by decide) (fun c_22 => ?_) (fun c_22 => ?_)
          · have hw := hw.1 c_22
            exact hB40 v2 v3 w_18 hw _ _ hP hS ls (lv_sub hl [0, 1, 2, 3] rfl)
          · have hw := hw.2 c_22
            refine lv_aload_n hx hb dX5_looks_33 rfl (lv_at hl 0 rfl) ?_
            refine va_get (D := D) (ci := 7) (v := .ref (ad 39)) (C := RX5) (T := TX5) (N := 30) hx hb hts in_X5 hown hK hP 33 (wg33 ca ad w_18) rfl 5 (by decide) lk_25 (fun _ h9 => h9) rfl dX5_looks_34 ?_
            refine lv_iload_n hx hb dX5_looks_37 rfl (lv_at hl 3 rfl) ?_
            obtain ⟨h_23, hw⟩ := hw
            refine va_iald hx hb hK hP 39 0 (wg39 ca ad w_18) rfl h_23 dX5_looks_38 ?_
            refine lv_istore_n (lv' := [(2, .int (w_18.1 39 (v3).toNatClampNeg)), (0, .ref (ad 33)), (1, .int a0), (3, .int v3)]) hx hb dX5_looks_39 rfl hl (by decide) rfl (fun ls hl => ?_)
            exact hB40 (w_18.1 39 (v3).toNatClampNeg) v3 w_18 hw _ _ hP hS ls (lv_sub hl [1, 2, 0, 3] rfl)
  have hl := lv_entry ([.ref (ad 33), .int a0]) (n := 4) (Nat.le_of_ble_eq_true rfl)
  rw [lg_entry_eq]
  generalize (lg_sl ([.ref (ad 33), .int a0]) ++ List.replicate (4 - (lg_sl ([.ref (ad 33), .int a0])).length) Slot.unset).toArray = ls at hl ⊢
  have hl : lv_has ls 4 [(0, .ref (ad 33)), (1, .int a0)] := hl
  refine lv_aload_n hx hb dX5_looks_0 rfl (lv_at hl 0 rfl) ?_
  refine va_get (D := D) (ci := 7) (v := .ref (ad 39)) (C := RX5) (T := TX5) (N := 30) hx hb hts in_X5 hown hK hP 33 (wg33 ca ad w) rfl 5 (by decide) lk_25 (fun _ h9 => h9) rfl dX5_looks_1 ?_
  refine lv_iload_n hx hb dX5_looks_4 rfl (lv_at hl 1 rfl) ?_
  obtain ⟨h_24, hw⟩ := hw
  refine va_iald hx hb hK hP 39 0 (wg39 ca ad w) rfl h_24 dX5_looks_5 ?_
  refine lv_istore_n (lv' := [(2, .int (w.1 39 (a0).toNatClampNeg)), (0, .ref (ad 33)), (1, .int a0)]) hx hb dX5_looks_6 rfl hl (by decide) rfl (fun ls hl => ?_)
  refine lv_iconst (v := 0) hx hb dX5_looks_7 (by decide) ?_
  refine lv_istore_n (lv' := [(3, .int 0), (2, .int (w.1 39 (a0).toNatClampNeg)), (0, .ref (ad 33)), (1, .int a0)]) hx hb dX5_looks_8 rfl hl (by decide) rfl (fun ls hl => ?_)
  obtain ⟨n_9, hw⟩ := hw
  exact hB9 n_9 (w.1 39 (a0).toNatClampNeg) 0 w hw _ _ hP hS ls (lv_sub hl [2, 3, 1, 0] rfl)
set_option maxHeartbeats 4000000 in
set_option maxRecDepth 100000 in
def wpX5_enters_B87 (a0 : Int32) (a1 : Int32) (a2 : Int32) (a3 : Int32) (post : Int32 → St → Prop) (K59 : Int32 → St → Prop) (v5 : Int32) (w : St) : Prop := K59 (v5 + 1) w
set_option maxHeartbeats 4000000 in
set_option maxRecDepth 100000 in
def wpX5_enters_L59 (a0 : Int32) (a1 : Int32) (a2 : Int32) (a3 : Int32) (post : Int32 → St → Prop) : Nat → Int32 → St → Prop
  | 0, _, _ => False
  | n + 1, v5, w => (5 ≤ v5 → (post 103 w)) ∧ (¬ (5 ≤ v5) → (wpX5_reaches a3 v5 w (fun r_3 w_2 => (r_3 = 0 → (wpX5_enters_B87 a0 a1 a2 a3 post (fun v5 w => wpX5_enters_L59 a0 a1 a2 a3 post n v5 w) v5 w_2)) ∧ (¬ (r_3 = 0) → ((vp_in v5 5) ∧ (∀ w_6 : St, w_6 = (uA w_2 41 (upd (w_2.1 41) (v5).toNatClampNeg (w_2.1 70 0))) → wpX5_enters_B87 a0 a1 a2 a3 post (fun v5 w => wpX5_enters_L59 a0 a1 a2 a3 post n v5 w) v5 w_6))))))
set_option maxHeartbeats 4000000 in
set_option maxRecDepth 100000 in
def wpX5_enters (a0 : Int32) (a1 : Int32) (a2 : Int32) (a3 : Int32) (w : St) (post : Int32 → St → Prop) : Prop := (vp_in (w.1 70 0) 250) ∧ (∀ w_9 : St, w_9 = (uA w 55 (upd (w.1 55) ((w.1 70 0)).toNatClampNeg (vp_nar .char a0))) → (vp_in a3 5) ∧ ((vp_in (w_9.1 70 0) 250) ∧ (∀ w_13 : St, w_13 = (uA w_9 56 (upd (w_9.1 56) ((w_9.1 70 0)).toNatClampNeg (w_9.1 39 (a3).toNatClampNeg))) → (vp_in (w_13.1 70 0) 250) ∧ (∀ w_16 : St, w_16 = (uA w_13 57 (upd (w_13.1 57) ((w_13.1 70 0)).toNatClampNeg a2)) → (vp_in (w_16.1 70 0) 250) ∧ (∀ w_19 : St, w_19 = (uA w_16 58 (upd (w_16.1 58) ((w_16.1 70 0)).toNatClampNeg a1)) → ∀ w_21 : St, w_21 = (uI w_19 70 ((w_19.1 70 0) + 1)) → ∃ n : Nat, wpX5_enters_L59 a0 a1 a2 a3 post n 0 w_21)))))
set_option maxHeartbeats 4000000 in
set_option maxRecDepth 100000 in
theorem mX5_enters (l : Launch) (D : va_G) (ca : Nat → ClassId) (ad : Nat → Nat) (base : Nat) (hAd : okA base ad) (w : St) (a0 : Int32) (a1 : Int32) (a2 : Int32) (a3 : Int32) (post : Int32 → St → Prop) (hw : wpX5_enters a0 a1 a2 a3 w post) : Met l yX5_enters wsX5_enters ({ frames := 1, cells := 0, slots := 0, locals := 22 } : Room) (va_Pc [.ref (ad 33), .int a0, .int a1, .int a2, .int a3] (BU D ca ad base w)) (va_Qi post (Bp D ca ad) (AB base)) 0 0 (AB base) := by
  refine Met.ofW (cc := cX5_enters) (maxL := 6) (ret := (some .char)) (by decide) rfl ?_
  intro p e s m args below meth c s₁ B hml hv
  obtain ⟨rfl, hbs, hP, hK⟩ := hv
  have hx := B.exec
  have hb := B.bytes
  have hr := B.returns
  have hts := atoms_spec (ws := wsX5_enters) B.pre
  have hown : s.vm.findClass RX5 = some m.cls := findClass_of_methodNamed B.named
  have hlocks := B.notSynchronized
  have in_X5 : ∀ w ∈ wsX50, w ∈ wsX5_enters := by decide +kernel
  have lk_25 := hts (.fieldLink RX5 25 "LockQuorumModel" "terms" "[I") (by decide +kernel)
  have lk_32 := hts (.fieldLink RX5 32 "LockQuorumModel" "known" "[I") (by decide +kernel)
  have lk_74 := hts (.fieldLink RX5 74 "LockQuorumModel" "kinds" "[C") (by decide +kernel)
  have lk_78 := hts (.fieldLink RX5 78 "LockQuorumModel" "entryTerms" "[I") (by decide +kernel)
  have lk_81 := hts (.fieldLink RX5 81 "LockQuorumModel" "entryLocks" "[I") (by decide +kernel)
  have lk_84 := hts (.fieldLink RX5 84 "LockQuorumModel" "entryClients" "[I") (by decide +kernel)
  have lk_97 := hts (.fieldLink RX5 97 "LockQuorumModel" "entries" "I") (by decide +kernel)
  have hS : va_S (AB base) s.heap s.heap [] := va_S.rf
  have hB59 : ∀ (n : Nat) (v5 : Int32) (w : St), wpX5_enters_L59 a0 a1 a2 a3 post n v5 w → ∀ (H : Heap) (locs : List Loc), PA D ca ad w H → va_S (AB base) s.heap H locs → ∀ ls : Array Slot, lv_has ls 6 [(0, .ref (ad 33)), (4, .int a3), (5, .int v5)] → W p l e (headSpec wsX5_enters ({ frames := 1, cells := 0, slots := 0, locals := 22 } : Room)).room s m ([Value.ref (ad 33), Value.int a0, Value.int a1, Value.int a2, Value.int a3].toArray) below meth c H locs 0 0 (MQ below (va_Qi post (Bp D ca ad) (AB base)) ([Value.ref (ad 33), Value.int a0, Value.int a1, Value.int a2, Value.int a3].toArray) s 0 0 (AB base)) (F0 m 59 ls []) := by
    intro n
    induction n with
    | zero => intro v5 w hw; exact hw.elim
    | succ n ih59 =>
      have hB87 : ∀ (v5 : Int32) (w : St), wpX5_enters_B87 a0 a1 a2 a3 post (fun v5 w => wpX5_enters_L59 a0 a1 a2 a3 post n v5 w) v5 w → ∀ (H : Heap) (locs : List Loc), PA D ca ad w H → va_S (AB base) s.heap H locs → ∀ ls : Array Slot, lv_has ls 6 [(0, .ref (ad 33)), (4, .int a3), (5, .int v5)] → W p l e (headSpec wsX5_enters ({ frames := 1, cells := 0, slots := 0, locals := 22 } : Room)).room s m ([Value.ref (ad 33), Value.int a0, Value.int a1, Value.int a2, Value.int a3].toArray) below meth c H locs 0 0 (MQ below (va_Qi post (Bp D ca ad) (AB base)) ([Value.ref (ad 33), Value.int a0, Value.int a1, Value.int a2, Value.int a3].toArray) s 0 0 (AB base)) (F0 m 87 ls []) := by
        intro v5 w hw H locs hP hS ls hl
        refine lv_iinc (v := (v5 + 1)) (lv' := [(5, .int (v5 + 1)), (0, .ref (ad 33)), (4, .int a3)]) hx hb dX5_enters_87 hl (k := 2) rfl rfl (by decide) rfl (fun ls hl => ?_)
        refine lv_goto (tgt := 59) hx hb dX5_enters_90 (by decide) ?_
        exact ih59 (v5 + 1) w hw _ _ hP hS ls (lv_sub hl [1, 2, 0] rfl)
      intro v5 w hw H locs hP hS ls hl
      refine lv_iload hx hb dX5_enters_59 (lv_at hl 2 rfl) ?_
      refine lv_iconst (v := 5) hx hb dX5_enters_61 (by decide) ?_
      refine lv_icmp_ge (tgt := 93) hx hb dX5_enters_62 (by decide) (fun c_1 => ?_) (fun c_1 => ?_)
      · have hw := hw.1 c_1
        refine lv_bipush (v := 103) hx hb dX5_enters_93 (by decide) ?_
        exact W.zret (v := 103) hx hb hr (by decide) (fun t ht hW => ⟨⟨103, w, rfl, hw, by show PA D ca ad w t.heap; rw [ht]; exact hP⟩, hS.F ht⟩) hS.2.2 dX5_enters_95
      · have hw := hw.2 c_1
        refine lv_aload_n hx hb dX5_enters_65 rfl (lv_at hl 0 rfl) ?_
        refine lv_iload hx hb dX5_enters_66 (lv_at hl 1 rfl) ?_
        refine lv_iload hx hb dX5_enters_68 (lv_at hl 2 rfl) ?_
        refine va_calli (va_runV (As := [.int a3, .int v5]) (rest := []) ⟨hx, hb, hml, hown, hts⟩ (mX5_reaches l D ca ad base hAd w a3 v5 _ hw) (cwV 2 hts gX5_enters_X5_reaches rfl rfl rfl (by decide +kernel) ⟨Nat.le_of_ble_eq_true rfl, Nat.le_of_ble_eq_true rfl⟩) (pv [.int a3, .int v5] hK hP hbs hS rfl (wg33 ca ad w)) rfl rfl hl.1 rfl (lv_room (Nat.le_of_ble_eq_true rfl)) dX5_enters_70 ⟨Nat.le_of_ble_eq_true rfl, Nat.le_of_ble_eq_true rfl⟩) hS (fun q _ h => h) (fun q h => h) (fun r_3 w_2 t H locs ht hvm hw hP hz1 hk1 hS => ?_)
        have hP : PA D ca ad w_2 H := by rw [← ht]; exact hP
        refine lv_if_eq (tgt := 87) hx hb dX5_enters_73 (by decide) (fun c_4 => ?_) (fun c_4 => ?_)
        · have hw := hw.1 c_4
          exact hB87 v5 w_2 hw _ _ hP hS ls (lv_sub hl [0, 1, 2] rfl)
        · have hw := hw.2 c_4
          refine lv_aload_n hx hb dX5_enters_76 rfl (lv_at hl 0 rfl) ?_
          refine va_get (D := D) (ci := 7) (v := .ref (ad 41)) (C := RX5) (T := TX5) (N := 30) hx hb hts in_X5 hown hK hP 33 (wg33 ca ad w_2) rfl 7 (by decide) lk_32 (fun _ h9 => h9) rfl dX5_enters_77 ?_
          refine lv_iload hx hb dX5_enters_80 (lv_at hl 2 rfl) ?_
          refine lv_aload_n hx hb dX5_enters_82 rfl (lv_at hl 0 rfl) ?_
          refine va_get (D := D) (ci := 7) (v := .int (w_2.1 70 0)) (C := RX5) (T := TX5) (N := 30) hx hb hts in_X5 hown hK hP 33 (wg33 ca ad w_2) rfl 28 (by decide) lk_97 (fun _ h9 => h9) rfl dX5_enters_83 ?_
          obtain ⟨h_5, hw⟩ := hw
          refine va_iast hx hb hK hP (DA hAd) hS 41 0 (wg41 ca ad w_2) rfl h_5 dX5_enters_86 (fun H locs hP hD hS => ?_)
          obtain ⟨w_6, e_7⟩ : ∃ z : St, z = (uA w_2 41 (upd (w_2.1 41) (v5).toNatClampNeg (w_2.1 70 0))) := ⟨_, rfl⟩
          have hP : PA D ca ad w_6 H := by rw [e_7]; exact wu41 hP
          have hw := hw w_6 e_7
          exact hB87 v5 w_6 hw _ _ hP hS ls (lv_sub hl [0, 1, 2] rfl)
  have hl := lv_entry ([.ref (ad 33), .int a0, .int a1, .int a2, .int a3]) (n := 6) (Nat.le_of_ble_eq_true rfl)
  rw [lg_entry_eq]
  generalize (lg_sl ([.ref (ad 33), .int a0, .int a1, .int a2, .int a3]) ++ List.replicate (6 - (lg_sl ([.ref (ad 33), .int a0, .int a1, .int a2, .int a3])).length) Slot.unset).toArray = ls at hl ⊢
  have hl : lv_has ls 6 [(0, .ref (ad 33)), (1, .int a0), (2, .int a1), (3, .int a2), (4, .int a3)] := hl
  refine lv_aload_n hx hb dX5_enters_0 rfl (lv_at hl 0 rfl) ?_
  refine va_get (D := D) (ci := 7) (v := .ref (ad 55)) (C := RX5) (T := TX5) (N := 30) hx hb hts in_X5 hown hK hP 33 (wg33 ca ad w) rfl 21 (by decide) lk_74 (fun _ h9 => h9) rfl dX5_enters_1 ?_
  refine lv_aload_n hx hb dX5_enters_4 rfl (lv_at hl 0 rfl) ?_
  refine va_get (D := D) (ci := 7) (v := .int (w.1 70 0)) (C := RX5) (T := TX5) (N := 30) hx hb hts in_X5 hown hK hP 33 (wg33 ca ad w) rfl 28 (by decide) lk_97 (fun _ h9 => h9) rfl dX5_enters_5 ?_
  refine lv_iload_n hx hb dX5_enters_8 rfl (lv_at hl 1 rfl) ?_
  obtain ⟨h_8, hw⟩ := hw
  refine va_cast hx hb hK hP (DA hAd) hS 55 2 (wg55 ca ad w) rfl h_8 dX5_enters_9 (fun H locs hP hD hS => ?_)
  obtain ⟨w_9, e_10⟩ : ∃ z : St, z = (uA w 55 (upd (w.1 55) ((w.1 70 0)).toNatClampNeg (vp_nar .char a0))) := ⟨_, rfl⟩
  have hP : PA D ca ad w_9 H := by rw [e_10]; exact wu55 hP
  have hw := hw w_9 e_10
  refine lv_aload_n hx hb dX5_enters_10 rfl (lv_at hl 0 rfl) ?_
  refine va_get (D := D) (ci := 7) (v := .ref (ad 56)) (C := RX5) (T := TX5) (N := 30) hx hb hts in_X5 hown hK hP 33 (wg33 ca ad w_9) rfl 22 (by decide) lk_78 (fun _ h9 => h9) rfl dX5_enters_11 ?_
  refine lv_aload_n hx hb dX5_enters_14 rfl (lv_at hl 0 rfl) ?_
  refine va_get (D := D) (ci := 7) (v := .int (w_9.1 70 0)) (C := RX5) (T := TX5) (N := 30) hx hb hts in_X5 hown hK hP 33 (wg33 ca ad w_9) rfl 28 (by decide) lk_97 (fun _ h9 => h9) rfl dX5_enters_15 ?_
  refine lv_aload_n hx hb dX5_enters_18 rfl (lv_at hl 0 rfl) ?_
  refine va_get (D := D) (ci := 7) (v := .ref (ad 39)) (C := RX5) (T := TX5) (N := 30) hx hb hts in_X5 hown hK hP 33 (wg33 ca ad w_9) rfl 5 (by decide) lk_25 (fun _ h9 => h9) rfl dX5_enters_19 ?_
  refine lv_iload hx hb dX5_enters_22 (lv_at hl 4 rfl) ?_
  obtain ⟨h_11, hw⟩ := hw
  refine va_iald hx hb hK hP 39 0 (wg39 ca ad w_9) rfl h_11 dX5_enters_24 ?_
  obtain ⟨h_12, hw⟩ := hw
  refine va_iast hx hb hK hP (DA hAd) hS 56 0 (wg56 ca ad w_9) rfl h_12 dX5_enters_25 (fun H locs hP hD hS => ?_)
  obtain ⟨w_13, e_14⟩ : ∃ z : St, z = (uA w_9 56 (upd (w_9.1 56) ((w_9.1 70 0)).toNatClampNeg (w_9.1 39 (a3).toNatClampNeg))) := ⟨_, rfl⟩
  have hP : PA D ca ad w_13 H := by rw [e_14]; exact wu56 hP
  have hw := hw w_13 e_14
  refine lv_aload_n hx hb dX5_enters_26 rfl (lv_at hl 0 rfl) ?_
  refine va_get (D := D) (ci := 7) (v := .ref (ad 57)) (C := RX5) (T := TX5) (N := 30) hx hb hts in_X5 hown hK hP 33 (wg33 ca ad w_13) rfl 23 (by decide) lk_81 (fun _ h9 => h9) rfl dX5_enters_27 ?_
  refine lv_aload_n hx hb dX5_enters_30 rfl (lv_at hl 0 rfl) ?_
  refine va_get (D := D) (ci := 7) (v := .int (w_13.1 70 0)) (C := RX5) (T := TX5) (N := 30) hx hb hts in_X5 hown hK hP 33 (wg33 ca ad w_13) rfl 28 (by decide) lk_97 (fun _ h9 => h9) rfl dX5_enters_31 ?_
  refine lv_iload_n hx hb dX5_enters_34 rfl (lv_at hl 3 rfl) ?_
  obtain ⟨h_15, hw⟩ := hw
  refine va_iast hx hb hK hP (DA hAd) hS 57 0 (wg57 ca ad w_13) rfl h_15 dX5_enters_35 (fun H locs hP hD hS => ?_)
  obtain ⟨w_16, e_17⟩ : ∃ z : St, z = (uA w_13 57 (upd (w_13.1 57) ((w_13.1 70 0)).toNatClampNeg a2)) := ⟨_, rfl⟩
  have hP : PA D ca ad w_16 H := by rw [e_17]; exact wu57 hP
  have hw := hw w_16 e_17
  refine lv_aload_n hx hb dX5_enters_36 rfl (lv_at hl 0 rfl) ?_
  refine va_get (D := D) (ci := 7) (v := .ref (ad 58)) (C := RX5) (T := TX5) (N := 30) hx hb hts in_X5 hown hK hP 33 (wg33 ca ad w_16) rfl 24 (by decide) lk_84 (fun _ h9 => h9) rfl dX5_enters_37 ?_
  refine lv_aload_n hx hb dX5_enters_40 rfl (lv_at hl 0 rfl) ?_
  refine va_get (D := D) (ci := 7) (v := .int (w_16.1 70 0)) (C := RX5) (T := TX5) (N := 30) hx hb hts in_X5 hown hK hP 33 (wg33 ca ad w_16) rfl 28 (by decide) lk_97 (fun _ h9 => h9) rfl dX5_enters_41 ?_
  refine lv_iload_n hx hb dX5_enters_44 rfl (lv_at hl 2 rfl) ?_
  obtain ⟨h_18, hw⟩ := hw
  refine va_iast hx hb hK hP (DA hAd) hS 58 0 (wg58 ca ad w_16) rfl h_18 dX5_enters_45 (fun H locs hP hD hS => ?_)
  obtain ⟨w_19, e_20⟩ : ∃ z : St, z = (uA w_16 58 (upd (w_16.1 58) ((w_16.1 70 0)).toNatClampNeg a1)) := ⟨_, rfl⟩
  have hP : PA D ca ad w_19 H := by rw [e_20]; exact wu58 hP
  have hw := hw w_19 e_20
  refine lv_aload_n hx hb dX5_enters_46 rfl (lv_at hl 0 rfl) ?_
  refine lv_dup hx hb dX5_enters_47 rfl ?_
  refine va_get (D := D) (ci := 7) (v := .int (w_19.1 70 0)) (C := RX5) (T := TX5) (N := 30) hx hb hts in_X5 hown hK hP 33 (wg33 ca ad w_19) rfl 28 (by decide) lk_97 (fun _ h9 => h9) rfl dX5_enters_48 ?_
  refine lv_iconst (v := 1) hx hb dX5_enters_51 (by decide) ?_
  refine lv_iadd hx hb dX5_enters_52 ?_
  refine va_put (D := D) (ci := 7) (v := .int ((w_19.1 70 0) + 1)) (ty := .int) (C := RX5) (T := TX5) (N := 30) hx hb hts in_X5 tyX5 tyX5_ok nmX5 hown hK hP (DA hAd) hS 33 (wg33 ca ad w_19) rfl 28 (by decide) lk_97 (fun _ h9 => h9) rfl (by decide +kernel) rfl rfl (Nat.le_of_ble_eq_true rfl) dX5_enters_53 (fun H locs hP hD hS => ?_)
  obtain ⟨w_21, e_22⟩ : ∃ z : St, z = (uI w_19 70 ((w_19.1 70 0) + 1)) := ⟨_, rfl⟩
  have hP : PA D ca ad w_21 H := by rw [e_22]; exact wf70 hP
  have hw := hw w_21 e_22
  refine lv_iconst (v := 0) hx hb dX5_enters_56 (by decide) ?_
  refine lv_istore (lv' := [(5, .int 0), (0, .ref (ad 33)), (1, .int a0), (2, .int a1), (3, .int a2), (4, .int a3)]) hx hb dX5_enters_57 hl (by decide) rfl (fun ls hl => ?_)
  obtain ⟨n_59, hw⟩ := hw
  exact hB59 n_59 0 w_21 hw _ _ hP hS ls (lv_sub hl [1, 5, 0] rfl)
set_option maxHeartbeats 4000000 in
set_option maxRecDepth 100000 in
def wpX5_isFree_B22 (a0 : Int32) (post : Int32 → St → Prop) (w : St) : Prop := post 1 w
set_option maxHeartbeats 4000000 in
set_option maxRecDepth 100000 in
def wpX5_isFree (a0 : Int32) (w : St) (post : Int32 → St → Prop) : Prop := (vp_in a0 4) ∧ (((w.1 48 (a0).toNatClampNeg) < 0 → (wpX5_isFree_B22 a0 post w)) ∧ (¬ ((w.1 48 (a0).toNatClampNeg) < 0) → ((vp_in a0 4) ∧ (((w.1 68 0) < (w.1 49 (a0).toNatClampNeg) → (post 0 w)) ∧ (¬ ((w.1 68 0) < (w.1 49 (a0).toNatClampNeg)) → (wpX5_isFree_B22 a0 post w))))))
set_option maxHeartbeats 4000000 in
set_option maxRecDepth 100000 in
theorem mX5_isFree (l : Launch) (D : va_G) (ca : Nat → ClassId) (ad : Nat → Nat) (base : Nat) (hAd : okA base ad) (w : St) (a0 : Int32) (post : Int32 → St → Prop) (hw : wpX5_isFree a0 w post) : Met l yX5_isFree wsX5_isFree ({ frames := 0, cells := 0, slots := 0, locals := 0 } : Room) (va_Pc [.ref (ad 33), .int a0] (BU D ca ad base w)) (va_Qi post (Bp D ca ad) (AB base)) 0 0 (AB base) := by
  refine Met.ofW (cc := cX5_isFree) (maxL := 2) (ret := (some .boolean)) (by decide) rfl ?_
  intro p e s m args below meth c s₁ B hml hv
  obtain ⟨rfl, hbs, hP, hK⟩ := hv
  have hx := B.exec
  have hb := B.bytes
  have hr := B.returns
  have hts := atoms_spec (ws := wsX5_isFree) B.pre
  have hown : s.vm.findClass RX5 = some m.cls := findClass_of_methodNamed B.named
  have hlocks := B.notSynchronized
  have in_X5 : ∀ w ∈ wsX50, w ∈ wsX5_isFree := by decide +kernel
  have lk_53 := hts (.fieldLink RX5 53 "LockQuorumModel" "owners" "[I") (by decide +kernel)
  have lk_56 := hts (.fieldLink RX5 56 "LockQuorumModel" "ends" "[I") (by decide +kernel)
  have lk_91 := hts (.fieldLink RX5 91 "LockQuorumModel" "time" "I") (by decide +kernel)
  have hS : va_S (AB base) s.heap s.heap [] := va_S.rf
  have hB22 : ∀ (w : St), wpX5_isFree_B22 a0 post w → ∀ (H : Heap) (locs : List Loc), PA D ca ad w H → va_S (AB base) s.heap H locs → ∀ ls : Array Slot, lv_has ls 2 [] → W p l e (headSpec wsX5_isFree ({ frames := 0, cells := 0, slots := 0, locals := 0 } : Room)).room s m ([Value.ref (ad 33), Value.int a0].toArray) below meth c H locs 0 0 (MQ below (va_Qi post (Bp D ca ad) (AB base)) ([Value.ref (ad 33), Value.int a0].toArray) s 0 0 (AB base)) (F0 m 22 ls []) := by
    intro w hw H locs hP hS ls hl
    refine lv_iconst (v := 1) hx hb dX5_isFree_22 (by decide) ?_
    refine lv_goto (tgt := 27) hx hb dX5_isFree_23 (by decide) ?_
    exact W.zret (v := 1) hx hb hr (by decide) (fun t ht hW => ⟨⟨1, w, rfl, hw, by show PA D ca ad w t.heap; rw [ht]; exact hP⟩, hS.F ht⟩) hS.2.2 dX5_isFree_27
  have hl := lv_entry ([.ref (ad 33), .int a0]) (n := 2) (Nat.le_of_ble_eq_true rfl)
  rw [lg_entry_eq]
  generalize (lg_sl ([.ref (ad 33), .int a0]) ++ List.replicate (2 - (lg_sl ([.ref (ad 33), .int a0])).length) Slot.unset).toArray = ls at hl ⊢
  have hl : lv_has ls 2 [(0, .ref (ad 33)), (1, .int a0)] := hl
  refine lv_aload_n hx hb dX5_isFree_0 rfl (lv_at hl 0 rfl) ?_
  refine va_get (D := D) (ci := 7) (v := .ref (ad 48)) (C := RX5) (T := TX5) (N := 30) hx hb hts in_X5 hown hK hP 33 (wg33 ca ad w) rfl 14 (by decide) lk_53 (fun _ h9 => h9) rfl dX5_isFree_1 ?_
  refine lv_iload_n hx hb dX5_isFree_4 rfl (lv_at hl 1 rfl) ?_
  obtain ⟨h_1, hw⟩ := hw
  refine va_iald hx hb hK hP 48 0 (wg48 ca ad w) rfl h_1 dX5_isFree_5 ?_
  refine lv_if_lt (tgt := 22) hx hb dX5_isFree_6 (by decide) (fun c_2 => ?_) (fun c_2 => ?_)
  · have hw := hw.1 c_2
    exact hB22 w hw _ _ hP hS ls (lv_sub hl [] rfl)
  · have hw := hw.2 c_2
    refine lv_aload_n hx hb dX5_isFree_9 rfl (lv_at hl 0 rfl) ?_
    refine va_get (D := D) (ci := 7) (v := .ref (ad 49)) (C := RX5) (T := TX5) (N := 30) hx hb hts in_X5 hown hK hP 33 (wg33 ca ad w) rfl 15 (by decide) lk_56 (fun _ h9 => h9) rfl dX5_isFree_10 ?_
    refine lv_iload_n hx hb dX5_isFree_13 rfl (lv_at hl 1 rfl) ?_
    obtain ⟨h_3, hw⟩ := hw
    refine va_iald hx hb hK hP 49 0 (wg49 ca ad w) rfl h_3 dX5_isFree_14 ?_
    refine lv_aload_n hx hb dX5_isFree_15 rfl (lv_at hl 0 rfl) ?_
    refine va_get (D := D) (ci := 7) (v := .int (w.1 68 0)) (C := RX5) (T := TX5) (N := 30) hx hb hts in_X5 hown hK hP 33 (wg33 ca ad w) rfl 26 (by decide) lk_91 (fun _ h9 => h9) rfl dX5_isFree_16 ?_
    refine lv_icmp_gt (tgt := 26) hx hb dX5_isFree_19 (by decide) (fun c_4 => ?_) (fun c_4 => ?_)
    · have hw := hw.1 c_4
      refine lv_iconst (v := 0) hx hb dX5_isFree_26 (by decide) ?_
      exact W.zret (v := 0) hx hb hr (by decide) (fun t ht hW => ⟨⟨0, w, rfl, hw, by show PA D ca ad w t.heap; rw [ht]; exact hP⟩, hS.F ht⟩) hS.2.2 dX5_isFree_27
    · have hw := hw.2 c_4
      exact hB22 w hw _ _ hP hS ls (lv_sub hl [] rfl)
set_option maxHeartbeats 4000000 in
set_option maxRecDepth 100000 in
def wpX5_placeIn_L2 (a0 : Int32) (a1 : Int32) (post : Int32 → St → Prop) : Nat → Int32 → St → Prop
  | 0, _, _ => False
  | n + 1, v3, w => (vp_in a1 4) ∧ (((w.1 54 (a1).toNatClampNeg) ≤ v3 → (post (-1) w)) ∧ (¬ ((w.1 54 (a1).toNatClampNeg) ≤ v3) → ((vp_in ((6 * a1) + v3) 24) ∧ (((w.1 53 (((6 * a1) + v3)).toNatClampNeg) = a0 → (post v3 w)) ∧ (¬ ((w.1 53 (((6 * a1) + v3)).toNatClampNeg) = a0) → (wpX5_placeIn_L2 a0 a1 post n (v3 + 1) w))))))
set_option maxHeartbeats 4000000 in
set_option maxRecDepth 100000 in
def wpX5_placeIn (a0 : Int32) (a1 : Int32) (w : St) (post : Int32 → St → Prop) : Prop := ∃ n : Nat, wpX5_placeIn_L2 a0 a1 post n 0 w
set_option maxHeartbeats 4000000 in
set_option maxRecDepth 100000 in
theorem mX5_placeIn (l : Launch) (D : va_G) (ca : Nat → ClassId) (ad : Nat → Nat) (base : Nat) (hAd : okA base ad) (w : St) (a0 : Int32) (a1 : Int32) (post : Int32 → St → Prop) (hw : wpX5_placeIn a0 a1 w post) : Met l yX5_placeIn wsX5_placeIn ({ frames := 0, cells := 0, slots := 0, locals := 0 } : Room) (va_Pc [.ref (ad 33), .int a0, .int a1] (BU D ca ad base w)) (va_Qi post (Bp D ca ad) (AB base)) 0 0 (AB base) := by
  refine Met.ofW (cc := cX5_placeIn) (maxL := 4) (ret := (some .int)) (by decide) rfl ?_
  intro p e s m args below meth c s₁ B hml hv
  obtain ⟨rfl, hbs, hP, hK⟩ := hv
  have hx := B.exec
  have hb := B.bytes
  have hr := B.returns
  have hts := atoms_spec (ws := wsX5_placeIn) B.pre
  have hown : s.vm.findClass RX5 = some m.cls := findClass_of_methodNamed B.named
  have hlocks := B.notSynchronized
  have in_X5 : ∀ w ∈ wsX50, w ∈ wsX5_placeIn := by decide +kernel
  have lk_68 := hts (.fieldLink RX5 68 "LockQuorumModel" "queues" "[I") (by decide +kernel)
  have lk_71 := hts (.fieldLink RX5 71 "LockQuorumModel" "waits" "[I") (by decide +kernel)
  have hS : va_S (AB base) s.heap s.heap [] := va_S.rf
  have hB2 : ∀ (n : Nat) (v3 : Int32) (w : St), wpX5_placeIn_L2 a0 a1 post n v3 w → ∀ (H : Heap) (locs : List Loc), PA D ca ad w H → va_S (AB base) s.heap H locs → ∀ ls : Array Slot, lv_has ls 4 [(0, .ref (ad 33)), (1, .int a0), (2, .int a1), (3, .int v3)] → W p l e (headSpec wsX5_placeIn ({ frames := 0, cells := 0, slots := 0, locals := 0 } : Room)).room s m ([Value.ref (ad 33), Value.int a0, Value.int a1].toArray) below meth c H locs 0 0 (MQ below (va_Qi post (Bp D ca ad) (AB base)) ([Value.ref (ad 33), Value.int a0, Value.int a1].toArray) s 0 0 (AB base)) (F0 m 2 ls []) := by
    intro n
    induction n with
    | zero => intro v3 w hw; exact hw.elim
    | succ n ih2 =>
      intro v3 w hw H locs hP hS ls hl
      refine lv_iload_n hx hb dX5_placeIn_2 rfl (lv_at hl 3 rfl) ?_
      refine lv_aload_n hx hb dX5_placeIn_3 rfl (lv_at hl 0 rfl) ?_
      refine va_get (D := D) (ci := 7) (v := .ref (ad 54)) (C := RX5) (T := TX5) (N := 30) hx hb hts in_X5 hown hK hP 33 (wg33 ca ad w) rfl 20 (by decide) lk_71 (fun _ h9 => h9) rfl dX5_placeIn_4 ?_
      refine lv_iload_n hx hb dX5_placeIn_7 rfl (lv_at hl 2 rfl) ?_
      obtain ⟨h_1, hw⟩ := hw
      refine va_iald hx hb hK hP 54 0 (wg54 ca ad w) rfl h_1 dX5_placeIn_8 ?_
      refine lv_icmp_ge (tgt := 35) hx hb dX5_placeIn_9 (by decide) (fun c_2 => ?_) (fun c_2 => ?_)
      · have hw := hw.1 c_2
        refine lv_iconst (v := (-1)) hx hb dX5_placeIn_35 (by decide) ?_
        exact W.iret (v := (-1)) hx hb hr (fun t ht hW => ⟨⟨(-1), w, rfl, hw, by show PA D ca ad w t.heap; rw [ht]; exact hP⟩, hS.F ht⟩) hS.2.2 dX5_placeIn_36
      · have hw := hw.2 c_2
        refine lv_aload_n hx hb dX5_placeIn_12 rfl (lv_at hl 0 rfl) ?_
        refine va_get (D := D) (ci := 7) (v := .ref (ad 53)) (C := RX5) (T := TX5) (N := 30) hx hb hts in_X5 hown hK hP 33 (wg33 ca ad w) rfl 19 (by decide) lk_68 (fun _ h9 => h9) rfl dX5_placeIn_13 ?_
        refine lv_bipush (v := 6) hx hb dX5_placeIn_16 (by decide) ?_
        refine lv_iload_n hx hb dX5_placeIn_18 rfl (lv_at hl 2 rfl) ?_
        refine lv_imul hx hb dX5_placeIn_19 ?_
        refine lv_iload_n hx hb dX5_placeIn_20 rfl (lv_at hl 3 rfl) ?_
        refine lv_iadd hx hb dX5_placeIn_21 ?_
        obtain ⟨h_3, hw⟩ := hw
        refine va_iald hx hb hK hP 53 0 (wg53 ca ad w) rfl h_3 dX5_placeIn_22 ?_
        refine lv_iload_n hx hb dX5_placeIn_23 rfl (lv_at hl 1 rfl) ?_
        refine lv_icmp_ne (tgt := 29) hx hb dX5_placeIn_24 (by decide) (fun c_4 => ?_) (fun c_4 => ?_)
        · have hw := hw.2 c_4
          refine lv_iinc (v := (v3 + 1)) (lv' := [(3, .int (v3 + 1)), (0, .ref (ad 33)), (1, .int a0), (2, .int a1)]) hx hb dX5_placeIn_29 hl (k := 3) rfl rfl (by decide) rfl (fun ls hl => ?_)
          refine lv_goto (tgt := 2) hx hb dX5_placeIn_32 (by decide) ?_
          exact ih2 (v3 + 1) w hw _ _ hP hS ls (lv_sub hl [1, 2, 3, 0] rfl)
        · have hw := hw.1 c_4
          refine lv_iload_n hx hb dX5_placeIn_27 rfl (lv_at hl 3 rfl) ?_
          exact W.iret (v := v3) hx hb hr (fun t ht hW => ⟨⟨v3, w, rfl, hw, by show PA D ca ad w t.heap; rw [ht]; exact hP⟩, hS.F ht⟩) hS.2.2 dX5_placeIn_28
  have hl := lv_entry ([.ref (ad 33), .int a0, .int a1]) (n := 4) (Nat.le_of_ble_eq_true rfl)
  rw [lg_entry_eq]
  generalize (lg_sl ([.ref (ad 33), .int a0, .int a1]) ++ List.replicate (4 - (lg_sl ([.ref (ad 33), .int a0, .int a1])).length) Slot.unset).toArray = ls at hl ⊢
  have hl : lv_has ls 4 [(0, .ref (ad 33)), (1, .int a0), (2, .int a1)] := hl
  refine lv_iconst (v := 0) hx hb dX5_placeIn_0 (by decide) ?_
  refine lv_istore_n (lv' := [(3, .int 0), (0, .ref (ad 33)), (1, .int a0), (2, .int a1)]) hx hb dX5_placeIn_1 rfl hl (by decide) rfl (fun ls hl => ?_)
  obtain ⟨n_2, hw⟩ := hw
  exact hB2 n_2 0 w hw _ _ hP hS ls (lv_sub hl [1, 2, 3, 0] rfl)
set_option maxHeartbeats 4000000 in
set_option maxRecDepth 100000 in
def wpX5_leaves_L25 (a0 : Int32) (a1 : Int32) (post : St → Prop) : Nat → Int32 → St → Prop
  | 0, _, _ => False
  | n + 1, v4, w => (vp_in a1 4) ∧ (((w.1 54 (a1).toNatClampNeg) ≤ v4 → (post w)) ∧ (¬ ((w.1 54 (a1).toNatClampNeg) ≤ v4) → ((vp_in (((6 * a1) + v4) + 1) 24) ∧ ((vp_in ((6 * a1) + v4) 24) ∧ (∀ w_5 : St, w_5 = (uA w 53 (upd (w.1 53) (((6 * a1) + v4)).toNatClampNeg (w.1 53 ((((6 * a1) + v4) + 1)).toNatClampNeg))) → wpX5_leaves_L25 a0 a1 post n (v4 + 1) w_5)))))
set_option maxHeartbeats 4000000 in
set_option maxRecDepth 100000 in
def wpX5_leaves (a0 : Int32) (a1 : Int32) (w : St) (post : St → Prop) : Prop := wpX5_placeIn a0 a1 w (fun r_8 w_7 => (0 ≤ r_8 → ((vp_in a1 4) ∧ ((vp_in a1 4) ∧ (∀ w_12 : St, w_12 = (uA w_7 54 (upd (w_7.1 54) (a1).toNatClampNeg ((w_7.1 54 (a1).toNatClampNeg) - 1))) → ∃ n : Nat, wpX5_leaves_L25 a0 a1 post n r_8 w_12)))) ∧ (¬ (0 ≤ r_8) → (post w_7)))
set_option maxHeartbeats 4000000 in
set_option maxRecDepth 100000 in
theorem mX5_leaves (l : Launch) (D : va_G) (ca : Nat → ClassId) (ad : Nat → Nat) (base : Nat) (hAd : okA base ad) (w : St) (a0 : Int32) (a1 : Int32) (post : St → Prop) (hw : wpX5_leaves a0 a1 w post) : Met l yX5_leaves wsX5_leaves ({ frames := 1, cells := 0, slots := 0, locals := 23 } : Room) (va_Pc [.ref (ad 33), .int a0, .int a1] (BU D ca ad base w)) (va_Qv post (Bp D ca ad) (AB base)) 0 0 (AB base) := by
  refine Met.ofW (cc := cX5_leaves) (maxL := 5) (ret := none) (by decide) rfl ?_
  intro p e s m args below meth c s₁ B hml hv
  obtain ⟨rfl, hbs, hP, hK⟩ := hv
  have hx := B.exec
  have hb := B.bytes
  have hr := B.returns
  have hts := atoms_spec (ws := wsX5_leaves) B.pre
  have hown : s.vm.findClass RX5 = some m.cls := findClass_of_methodNamed B.named
  have hlocks := B.notSynchronized
  have in_X5 : ∀ w ∈ wsX50, w ∈ wsX5_leaves := by decide +kernel
  have lk_68 := hts (.fieldLink RX5 68 "LockQuorumModel" "queues" "[I") (by decide +kernel)
  have lk_71 := hts (.fieldLink RX5 71 "LockQuorumModel" "waits" "[I") (by decide +kernel)
  have hS : va_S (AB base) s.heap s.heap [] := va_S.rf
  have hB25 : ∀ (n : Nat) (v4 : Int32) (w : St), wpX5_leaves_L25 a0 a1 post n v4 w → ∀ (H : Heap) (locs : List Loc), PA D ca ad w H → va_S (AB base) s.heap H locs → ∀ ls : Array Slot, lv_has ls 5 [(0, .ref (ad 33)), (2, .int a1), (4, .int v4)] → W p l e (headSpec wsX5_leaves ({ frames := 1, cells := 0, slots := 0, locals := 23 } : Room)).room s m ([Value.ref (ad 33), Value.int a0, Value.int a1].toArray) below meth c H locs 0 0 (MQ below (va_Qv post (Bp D ca ad) (AB base)) ([Value.ref (ad 33), Value.int a0, Value.int a1].toArray) s 0 0 (AB base)) (F0 m 25 ls []) := by
    intro n
    induction n with
    | zero => intro v4 w hw; exact hw.elim
    | succ n ih25 =>
      intro v4 w hw H locs hP hS ls hl
      refine lv_iload hx hb dX5_leaves_25 (lv_at hl 2 rfl) ?_
      refine lv_aload_n hx hb dX5_leaves_27 rfl (lv_at hl 0 rfl) ?_
      refine va_get (D := D) (ci := 7) (v := .ref (ad 54)) (C := RX5) (T := TX5) (N := 30) hx hb hts in_X5 hown hK hP 33 (wg33 ca ad w) rfl 20 (by decide) lk_71 (fun _ h9 => h9) rfl dX5_leaves_28 ?_
      refine lv_iload_n hx hb dX5_leaves_31 rfl (lv_at hl 1 rfl) ?_
      obtain ⟨h_1, hw⟩ := hw
      refine va_iald hx hb hK hP 54 0 (wg54 ca ad w) rfl h_1 dX5_leaves_32 ?_
      refine lv_icmp_ge (tgt := 68) hx hb dX5_leaves_33 (by decide) (fun c_2 => ?_) (fun c_2 => ?_)
      · have hw := hw.1 c_2
        exact W.vret hx hb hr (fun t ht hW => ⟨⟨w, rfl, hw, by show PA D ca ad w t.heap; rw [ht]; exact hP⟩, hS.F ht⟩) hS.2.2 dX5_leaves_68
      · have hw := hw.2 c_2
        refine lv_aload_n hx hb dX5_leaves_36 rfl (lv_at hl 0 rfl) ?_
        refine va_get (D := D) (ci := 7) (v := .ref (ad 53)) (C := RX5) (T := TX5) (N := 30) hx hb hts in_X5 hown hK hP 33 (wg33 ca ad w) rfl 19 (by decide) lk_68 (fun _ h9 => h9) rfl dX5_leaves_37 ?_
        refine lv_bipush (v := 6) hx hb dX5_leaves_40 (by decide) ?_
        refine lv_iload_n hx hb dX5_leaves_42 rfl (lv_at hl 1 rfl) ?_
        refine lv_imul hx hb dX5_leaves_43 ?_
        refine lv_iload hx hb dX5_leaves_44 (lv_at hl 2 rfl) ?_
        refine lv_iadd hx hb dX5_leaves_46 ?_
        refine lv_aload_n hx hb dX5_leaves_47 rfl (lv_at hl 0 rfl) ?_
        refine va_get (D := D) (ci := 7) (v := .ref (ad 53)) (C := RX5) (T := TX5) (N := 30) hx hb hts in_X5 hown hK hP 33 (wg33 ca ad w) rfl 19 (by decide) lk_68 (fun _ h9 => h9) rfl dX5_leaves_48 ?_
        refine lv_bipush (v := 6) hx hb dX5_leaves_51 (by decide) ?_
        refine lv_iload_n hx hb dX5_leaves_53 rfl (lv_at hl 1 rfl) ?_
        refine lv_imul hx hb dX5_leaves_54 ?_
        refine lv_iload hx hb dX5_leaves_55 (lv_at hl 2 rfl) ?_
        refine lv_iadd hx hb dX5_leaves_57 ?_
        refine lv_iconst (v := 1) hx hb dX5_leaves_58 (by decide) ?_
        refine lv_iadd hx hb dX5_leaves_59 ?_
        obtain ⟨h_3, hw⟩ := hw
        refine va_iald hx hb hK hP 53 0 (wg53 ca ad w) rfl h_3 dX5_leaves_60 ?_
        obtain ⟨h_4, hw⟩ := hw
        refine va_iast hx hb hK hP (DA hAd) hS 53 0 (wg53 ca ad w) rfl h_4 dX5_leaves_61 (fun H locs hP hD hS => ?_)
        obtain ⟨w_5, e_6⟩ : ∃ z : St, z = (uA w 53 (upd (w.1 53) (((6 * a1) + v4)).toNatClampNeg (w.1 53 ((((6 * a1) + v4) + 1)).toNatClampNeg))) := ⟨_, rfl⟩
        have hP : PA D ca ad w_5 H := by rw [e_6]; exact wu53 hP
        have hw := hw w_5 e_6
        refine lv_iinc (v := (v4 + 1)) (lv' := [(4, .int (v4 + 1)), (0, .ref (ad 33)), (2, .int a1)]) hx hb dX5_leaves_62 hl (k := 2) rfl rfl (by decide) rfl (fun ls hl => ?_)
        refine lv_goto (tgt := 25) hx hb dX5_leaves_65 (by decide) ?_
        exact ih25 (v4 + 1) w_5 hw _ _ hP hS ls (lv_sub hl [1, 2, 0] rfl)
  have hl := lv_entry ([.ref (ad 33), .int a0, .int a1]) (n := 5) (Nat.le_of_ble_eq_true rfl)
  rw [lg_entry_eq]
  generalize (lg_sl ([.ref (ad 33), .int a0, .int a1]) ++ List.replicate (5 - (lg_sl ([.ref (ad 33), .int a0, .int a1])).length) Slot.unset).toArray = ls at hl ⊢
  have hl : lv_has ls 5 [(0, .ref (ad 33)), (1, .int a0), (2, .int a1)] := hl
  refine lv_aload_n hx hb dX5_leaves_0 rfl (lv_at hl 0 rfl) ?_
  refine lv_iload_n hx hb dX5_leaves_1 rfl (lv_at hl 1 rfl) ?_
  refine lv_iload_n hx hb dX5_leaves_2 rfl (lv_at hl 2 rfl) ?_
  refine va_calli (va_runV (As := [.int a0, .int a1]) (rest := []) ⟨hx, hb, hml, hown, hts⟩ (mX5_placeIn l D ca ad base hAd w a0 a1 _ hw) (cwV 2 hts gX5_leaves_X5_placeIn rfl rfl rfl (by decide +kernel) ⟨Nat.le_of_ble_eq_true rfl, Nat.le_of_ble_eq_true rfl⟩) (pv [.int a0, .int a1] hK hP hbs hS rfl (wg33 ca ad w)) rfl rfl hl.1 rfl (lv_room (Nat.le_of_ble_eq_true rfl)) dX5_leaves_3 ⟨Nat.le_of_ble_eq_true rfl, Nat.le_of_ble_eq_true rfl⟩) hS (fun q _ h => h) (fun q h => h) (fun r_8 w_7 t H locs ht hvm hw hP hz1 hk1 hS => ?_)
  have hP : PA D ca ad w_7 H := by rw [← ht]; exact hP
  refine lv_istore_n (lv' := [(3, .int r_8), (0, .ref (ad 33)), (1, .int a0), (2, .int a1)]) hx hb dX5_leaves_6 rfl hl (by decide) rfl (fun ls hl => ?_)
  refine lv_iload_n hx hb dX5_leaves_7 rfl (lv_at hl 0 rfl) ?_
  refine lv_if_ge (tgt := 12) hx hb dX5_leaves_8 (by decide) (fun c_9 => ?_) (fun c_9 => ?_)
  · have hw := hw.1 c_9
    refine lv_aload_n hx hb dX5_leaves_12 rfl (lv_at hl 1 rfl) ?_
    refine va_get (D := D) (ci := 7) (v := .ref (ad 54)) (C := RX5) (T := TX5) (N := 30) hx hb hts in_X5 hown hK hP 33 (wg33 ca ad w_7) rfl 20 (by decide) lk_71 (fun _ h9 => h9) rfl dX5_leaves_13 ?_
    refine lv_iload_n hx hb dX5_leaves_16 rfl (lv_at hl 3 rfl) ?_
    refine lv_dup2_11 hx hb dX5_leaves_17 rfl rfl ?_
    obtain ⟨h_10, hw⟩ := hw
    refine va_iald hx hb hK hP 54 0 (wg54 ca ad w_7) rfl h_10 dX5_leaves_18 ?_
    refine lv_iconst (v := 1) hx hb dX5_leaves_19 (by decide) ?_
    refine lv_isub hx hb dX5_leaves_20 ?_
    obtain ⟨h_11, hw⟩ := hw
    refine va_iast hx hb hK hP (DA hAd) hS 54 0 (wg54 ca ad w_7) rfl h_11 dX5_leaves_21 (fun H locs hP hD hS => ?_)
    obtain ⟨w_12, e_13⟩ : ∃ z : St, z = (uA w_7 54 (upd (w_7.1 54) (a1).toNatClampNeg ((w_7.1 54 (a1).toNatClampNeg) - 1))) := ⟨_, rfl⟩
    have hP : PA D ca ad w_12 H := by rw [e_13]; exact wu54 hP
    have hw := hw w_12 e_13
    refine lv_iload_n hx hb dX5_leaves_22 rfl (lv_at hl 0 rfl) ?_
    refine lv_istore (lv' := [(4, .int r_8), (3, .int r_8), (0, .ref (ad 33)), (1, .int a0), (2, .int a1)]) hx hb dX5_leaves_23 hl (by decide) rfl (fun ls hl => ?_)
    obtain ⟨n_25, hw⟩ := hw
    exact hB25 n_25 r_8 w_12 hw _ _ hP hS ls (lv_sub hl [2, 4, 0] rfl)
  · have hw := hw.2 c_9
    exact W.vret hx hb hr (fun t ht hW => ⟨⟨w_7, rfl, hw, by show PA D ca ad w_7 t.heap; rw [ht]; exact hP⟩, hS.F ht⟩) hS.2.2 dX5_leaves_11
set_option maxHeartbeats 4000000 in
set_option maxRecDepth 100000 in
def wpX5_notesClaim (a0 : Int32) (a1 : Int32) (w : St) (post : St → Prop) : Prop := wpX5_at a0 a1 w (fun r_2 w_1 => (vp_in r_2 24) ∧ (∀ w_4 : St, w_4 = (uA w_1 37 (upd (w_1.1 37) (r_2).toNatClampNeg (vp_nar .boolean 1))) → wpX5_at a0 a1 w_4 (fun r_7 w_6 => wpX5_clock a0 w_6 (fun r_9 w_8 => (vp_in r_7 24) ∧ (∀ w_11 : St, w_11 = (uA w_8 44 (upd (w_8.1 44) (r_7).toNatClampNeg r_9)) → post w_11)))))
set_option maxHeartbeats 4000000 in
set_option maxRecDepth 100000 in
theorem mX5_notesClaim (l : Launch) (D : va_G) (ca : Nat → ClassId) (ad : Nat → Nat) (base : Nat) (hAd : okA base ad) (w : St) (a0 : Int32) (a1 : Int32) (post : St → Prop) (hw : wpX5_notesClaim a0 a1 w post) : Met l yX5_notesClaim wsX5_notesClaim ({ frames := 1, cells := 0, slots := 0, locals := 21 } : Room) (va_Pc [.ref (ad 33), .int a0, .int a1] (BU D ca ad base w)) (va_Qv post (Bp D ca ad) (AB base)) 0 0 (AB base) := by
  refine Met.ofW (cc := cX5_notesClaim) (maxL := 3) (ret := none) (by decide) rfl ?_
  intro p e s m args below meth c s₁ B hml hv
  obtain ⟨rfl, hbs, hP, hK⟩ := hv
  have hx := B.exec
  have hb := B.bytes
  have hr := B.returns
  have hts := atoms_spec (ws := wsX5_notesClaim) B.pre
  have hown : s.vm.findClass RX5 = some m.cls := findClass_of_methodNamed B.named
  have hlocks := B.notSynchronized
  have in_X5 : ∀ w ∈ wsX50, w ∈ wsX5_notesClaim := by decide +kernel
  have lk_19 := hts (.fieldLink RX5 19 "LockQuorumModel" "claim" "[Z") (by decide +kernel)
  have lk_41 := hts (.fieldLink RX5 41 "LockQuorumModel" "claimed" "[I") (by decide +kernel)
  have hS : va_S (AB base) s.heap s.heap [] := va_S.rf
  have hl := lv_entry ([.ref (ad 33), .int a0, .int a1]) (n := 3) (Nat.le_of_ble_eq_true rfl)
  rw [lg_entry_eq]
  generalize (lg_sl ([.ref (ad 33), .int a0, .int a1]) ++ List.replicate (3 - (lg_sl ([.ref (ad 33), .int a0, .int a1])).length) Slot.unset).toArray = ls at hl ⊢
  have hl : lv_has ls 3 [(0, .ref (ad 33)), (1, .int a0), (2, .int a1)] := hl
  refine lv_aload_n hx hb dX5_notesClaim_0 rfl (lv_at hl 0 rfl) ?_
  refine va_get (D := D) (ci := 7) (v := .ref (ad 37)) (C := RX5) (T := TX5) (N := 30) hx hb hts in_X5 hown hK hP 33 (wg33 ca ad w) rfl 3 (by decide) lk_19 (fun _ h9 => h9) rfl dX5_notesClaim_1 ?_
  refine lv_iload_n hx hb dX5_notesClaim_4 rfl (lv_at hl 1 rfl) ?_
  refine lv_iload_n hx hb dX5_notesClaim_5 rfl (lv_at hl 2 rfl) ?_
  refine va_calli (va_runS (As := [.int a0, .int a1]) (rest := [.ref (ad 37)]) ⟨hx, hb, hml, hown, hts⟩ (mX5_at l D ca ad base hAd w a0 a1 _ hw) (va_cwS 2 hts gX5_notesClaim_X5_at rfl rfl rfl (by decide +kernel) ⟨Nat.le_of_ble_eq_true rfl, Nat.le_of_ble_eq_true rfl⟩) (ps [.int a0, .int a1] hK hP hbs hS) rfl rfl hl.1 rfl (lv_room (Nat.le_of_ble_eq_true rfl)) dX5_notesClaim_6 ⟨Nat.le_of_ble_eq_true rfl, Nat.le_of_ble_eq_true rfl⟩) hS (fun q _ h => h) (fun q h => h) (fun r_2 w_1 t H locs ht hvm hw hP hz1 hk1 hS => ?_)
  have hP : PA D ca ad w_1 H := by rw [← ht]; exact hP
  refine lv_iconst (v := 1) hx hb dX5_notesClaim_9 (by decide) ?_
  obtain ⟨h_3, hw⟩ := hw
  refine va_zast hx hb hK hP (DA hAd) hS 37 1 (wg37 ca ad w_1) rfl h_3 dX5_notesClaim_10 (fun H locs hP hD hS => ?_)
  obtain ⟨w_4, e_5⟩ : ∃ z : St, z = (uA w_1 37 (upd (w_1.1 37) (r_2).toNatClampNeg (vp_nar .boolean 1))) := ⟨_, rfl⟩
  have hP : PA D ca ad w_4 H := by rw [e_5]; exact wu37 hP
  have hw := hw w_4 e_5
  refine lv_aload_n hx hb dX5_notesClaim_11 rfl (lv_at hl 0 rfl) ?_
  refine va_get (D := D) (ci := 7) (v := .ref (ad 44)) (C := RX5) (T := TX5) (N := 30) hx hb hts in_X5 hown hK hP 33 (wg33 ca ad w_4) rfl 10 (by decide) lk_41 (fun _ h9 => h9) rfl dX5_notesClaim_12 ?_
  refine lv_iload_n hx hb dX5_notesClaim_15 rfl (lv_at hl 1 rfl) ?_
  refine lv_iload_n hx hb dX5_notesClaim_16 rfl (lv_at hl 2 rfl) ?_
  refine va_calli (va_runS (As := [.int a0, .int a1]) (rest := [.ref (ad 44)]) ⟨hx, hb, hml, hown, hts⟩ (mX5_at l D ca ad base hAd w_4 a0 a1 _ hw) (va_cwS 2 hts gX5_notesClaim_X5_at rfl rfl rfl (by decide +kernel) ⟨Nat.le_of_ble_eq_true rfl, Nat.le_of_ble_eq_true rfl⟩) (ps [.int a0, .int a1] hK hP hbs hS) rfl rfl hl.1 rfl (lv_room (Nat.le_of_ble_eq_true rfl)) dX5_notesClaim_17 ⟨Nat.le_of_ble_eq_true rfl, Nat.le_of_ble_eq_true rfl⟩) hS (fun q _ h => h) (fun q h => h) (fun r_7 w_6 t H locs ht hvm hw hP hz1 hk1 hS => ?_)
  have hP : PA D ca ad w_6 H := by rw [← ht]; exact hP
  refine lv_aload_n hx hb dX5_notesClaim_20 rfl (lv_at hl 0 rfl) ?_
  refine lv_iload_n hx hb dX5_notesClaim_21 rfl (lv_at hl 1 rfl) ?_
  refine va_calli (va_runV (As := [.int a0]) (rest := [.int r_7, .ref (ad 44)]) ⟨hx, hb, hml, hown, hts⟩ (mX5_clock l D ca ad base hAd w_6 a0 _ hw) (cwV 1 hts gX5_notesClaim_X5_clock rfl rfl rfl (by decide +kernel) ⟨Nat.le_of_ble_eq_true rfl, Nat.le_of_ble_eq_true rfl⟩) (pv [.int a0] hK hP hbs hS rfl (wg33 ca ad w_6)) rfl rfl hl.1 rfl (lv_room (Nat.le_of_ble_eq_true rfl)) dX5_notesClaim_22 ⟨Nat.le_of_ble_eq_true rfl, Nat.le_of_ble_eq_true rfl⟩) hS (fun q _ h => h) (fun q h => h) (fun r_9 w_8 t H locs ht hvm hw hP hz1 hk1 hS => ?_)
  have hP : PA D ca ad w_8 H := by rw [← ht]; exact hP
  obtain ⟨h_10, hw⟩ := hw
  refine va_iast hx hb hK hP (DA hAd) hS 44 0 (wg44 ca ad w_8) rfl h_10 dX5_notesClaim_25 (fun H locs hP hD hS => ?_)
  obtain ⟨w_11, e_12⟩ : ∃ z : St, z = (uA w_8 44 (upd (w_8.1 44) (r_7).toNatClampNeg r_9)) := ⟨_, rfl⟩
  have hP : PA D ca ad w_11 H := by rw [e_12]; exact wu44 hP
  have hw := hw w_11 e_12
  exact W.vret hx hb hr (fun t ht hW => ⟨⟨w_11, rfl, hw, by show PA D ca ad w_11 t.heap; rw [ht]; exact hP⟩, hS.F ht⟩) hS.2.2 dX5_notesClaim_26
set_option maxHeartbeats 4000000 in
set_option maxRecDepth 100000 in
def wpX5_grants_B38 (a0 : Int32) (a1 : Int32) (post : St → Prop) (w : St) : Prop := (vp_in a1 4) ∧ (∀ w_2 : St, w_2 = (uA w 48 (upd (w.1 48) (a1).toNatClampNeg a0)) → (vp_in a1 4) ∧ (∀ w_5 : St, w_5 = (uA w_2 50 (upd (w_2.1 50) (a1).toNatClampNeg (w_2.1 68 0))) → (vp_in a1 4) ∧ (∀ w_8 : St, w_8 = (uA w_5 49 (upd (w_5.1 49) (a1).toNatClampNeg ((w_5.1 68 0) + 12))) → (vp_in a1 4) ∧ (∀ w_11 : St, w_11 = (uA w_8 51 (upd (w_8.1 51) (a1).toNatClampNeg (-1))) → wpX5_notesClaim a0 a1 w_11 (fun w_13 => post w_13)))))
set_option maxHeartbeats 4000000 in
set_option maxRecDepth 100000 in
def wpX5_grants (a0 : Int32) (a1 : Int32) (w : St) (post : St → Prop) : Prop := wpX5_leaves a0 a1 w (fun w_14 => (vp_in a1 4) ∧ (((w_14.1 48 (a1).toNatClampNeg) < 0 → (wpX5_grants_B38 a0 a1 post w_14)) ∧ (¬ ((w_14.1 48 (a1).toNatClampNeg) < 0) → ((vp_in a1 4) ∧ ((vp_in a1 4) ∧ (∀ w_19 : St, w_19 = (uL w_14 1 ((w_14.2.1 1) + (((w_14.1 49 (a1).toNatClampNeg) - (w_14.1 50 (a1).toNatClampNeg))).toInt64)) → wpX5_grants_B38 a0 a1 post w_19))))))
set_option maxHeartbeats 4000000 in
set_option maxRecDepth 100000 in
theorem mX5_grants (l : Launch) (D : va_G) (ca : Nat → ClassId) (ad : Nat → Nat) (base : Nat) (hAd : okA base ad) (w : St) (a0 : Int32) (a1 : Int32) (post : St → Prop) (hw : wpX5_grants a0 a1 w post) : Met l yX5_grants wsX5_grants ({ frames := 2, cells := 0, slots := 0, locals := 47 } : Room) (va_Pc [.ref (ad 33), .int a0, .int a1] (BU D ca ad base w)) (va_Qv post (Bp D ca ad) (AB base)) 0 0 (AB base) := by
  refine Met.ofW (cc := cX5_grants) (maxL := 3) (ret := none) (by decide) rfl ?_
  intro p e s m args below meth c s₁ B hml hv
  obtain ⟨rfl, hbs, hP, hK⟩ := hv
  have hx := B.exec
  have hb := B.bytes
  have hr := B.returns
  have hts := atoms_spec (ws := wsX5_grants) B.pre
  have hown : s.vm.findClass RX5 = some m.cls := findClass_of_methodNamed B.named
  have hlocks := B.notSynchronized
  have in_X5 : ∀ w ∈ wsX50, w ∈ wsX5_grants := by decide +kernel
  have lk_53 := hts (.fieldLink RX5 53 "LockQuorumModel" "owners" "[I") (by decide +kernel)
  have lk_56 := hts (.fieldLink RX5 56 "LockQuorumModel" "ends" "[I") (by decide +kernel)
  have lk_59 := hts (.fieldLink RX5 59 "LockQuorumModel" "granted" "[I") (by decide +kernel)
  have lk_62 := hts (.fieldLink RX5 62 "LockQuorumModel" "thieves" "[I") (by decide +kernel)
  have lk_91 := hts (.fieldLink RX5 91 "LockQuorumModel" "time" "I") (by decide +kernel)
  have lk_100 := hts (.fieldLink RX5 100 "LockQuorumModel" "leased" "J") (by decide +kernel)
  have hS : va_S (AB base) s.heap s.heap [] := va_S.rf
  have hB38 : ∀ (w : St), wpX5_grants_B38 a0 a1 post w → ∀ (H : Heap) (locs : List Loc), PA D ca ad w H → va_S (AB base) s.heap H locs → ∀ ls : Array Slot, lv_has ls 3 [(0, .ref (ad 33)), (1, .int a0), (2, .int a1)] → W p l e (headSpec wsX5_grants ({ frames := 2, cells := 0, slots := 0, locals := 47 } : Room)).room s m ([Value.ref (ad 33), Value.int a0, Value.int a1].toArray) below meth c H locs 0 0 (MQ below (va_Qv post (Bp D ca ad) (AB base)) ([Value.ref (ad 33), Value.int a0, Value.int a1].toArray) s 0 0 (AB base)) (F0 m 38 ls []) := by
    intro w hw H locs hP hS ls hl
    refine lv_aload_n hx hb dX5_grants_38 rfl (lv_at hl 0 rfl) ?_
    refine va_get (D := D) (ci := 7) (v := .ref (ad 48)) (C := RX5) (T := TX5) (N := 30) hx hb hts in_X5 hown hK hP 33 (wg33 ca ad w) rfl 14 (by decide) lk_53 (fun _ h9 => h9) rfl dX5_grants_39 ?_
    refine lv_iload_n hx hb dX5_grants_42 rfl (lv_at hl 2 rfl) ?_
    refine lv_iload_n hx hb dX5_grants_43 rfl (lv_at hl 1 rfl) ?_
    obtain ⟨h_1, hw⟩ := hw
    refine va_iast hx hb hK hP (DA hAd) hS 48 0 (wg48 ca ad w) rfl h_1 dX5_grants_44 (fun H locs hP hD hS => ?_)
    obtain ⟨w_2, e_3⟩ : ∃ z : St, z = (uA w 48 (upd (w.1 48) (a1).toNatClampNeg a0)) := ⟨_, rfl⟩
    have hP : PA D ca ad w_2 H := by rw [e_3]; exact wu48 hP
    have hw := hw w_2 e_3
    refine lv_aload_n hx hb dX5_grants_45 rfl (lv_at hl 0 rfl) ?_
    refine va_get (D := D) (ci := 7) (v := .ref (ad 50)) (C := RX5) (T := TX5) (N := 30) hx hb hts in_X5 hown hK hP 33 (wg33 ca ad w_2) rfl 16 (by decide) lk_59 (fun _ h9 => h9) rfl dX5_grants_46 ?_
    refine lv_iload_n hx hb dX5_grants_49 rfl (lv_at hl 2 rfl) ?_
    refine lv_aload_n hx hb dX5_grants_50 rfl (lv_at hl 0 rfl) ?_
    refine va_get (D := D) (ci := 7) (v := .int (w_2.1 68 0)) (C := RX5) (T := TX5) (N := 30) hx hb hts in_X5 hown hK hP 33 (wg33 ca ad w_2) rfl 26 (by decide) lk_91 (fun _ h9 => h9) rfl dX5_grants_51 ?_
    obtain ⟨h_4, hw⟩ := hw
    refine va_iast hx hb hK hP (DA hAd) hS 50 0 (wg50 ca ad w_2) rfl h_4 dX5_grants_54 (fun H locs hP hD hS => ?_)
    obtain ⟨w_5, e_6⟩ : ∃ z : St, z = (uA w_2 50 (upd (w_2.1 50) (a1).toNatClampNeg (w_2.1 68 0))) := ⟨_, rfl⟩
    have hP : PA D ca ad w_5 H := by rw [e_6]; exact wu50 hP
    have hw := hw w_5 e_6
    refine lv_aload_n hx hb dX5_grants_55 rfl (lv_at hl 0 rfl) ?_
    refine va_get (D := D) (ci := 7) (v := .ref (ad 49)) (C := RX5) (T := TX5) (N := 30) hx hb hts in_X5 hown hK hP 33 (wg33 ca ad w_5) rfl 15 (by decide) lk_56 (fun _ h9 => h9) rfl dX5_grants_56 ?_
    refine lv_iload_n hx hb dX5_grants_59 rfl (lv_at hl 2 rfl) ?_
    refine lv_aload_n hx hb dX5_grants_60 rfl (lv_at hl 0 rfl) ?_
    refine va_get (D := D) (ci := 7) (v := .int (w_5.1 68 0)) (C := RX5) (T := TX5) (N := 30) hx hb hts in_X5 hown hK hP 33 (wg33 ca ad w_5) rfl 26 (by decide) lk_91 (fun _ h9 => h9) rfl dX5_grants_61 ?_
    refine lv_bipush (v := 12) hx hb dX5_grants_64 (by decide) ?_
    refine lv_iadd hx hb dX5_grants_66 ?_
    obtain ⟨h_7, hw⟩ := hw
    refine va_iast hx hb hK hP (DA hAd) hS 49 0 (wg49 ca ad w_5) rfl h_7 dX5_grants_67 (fun H locs hP hD hS => ?_)
    obtain ⟨w_8, e_9⟩ : ∃ z : St, z = (uA w_5 49 (upd (w_5.1 49) (a1).toNatClampNeg ((w_5.1 68 0) + 12))) := ⟨_, rfl⟩
    have hP : PA D ca ad w_8 H := by rw [e_9]; exact wu49 hP
    have hw := hw w_8 e_9
    refine lv_aload_n hx hb dX5_grants_68 rfl (lv_at hl 0 rfl) ?_
    refine va_get (D := D) (ci := 7) (v := .ref (ad 51)) (C := RX5) (T := TX5) (N := 30) hx hb hts in_X5 hown hK hP 33 (wg33 ca ad w_8) rfl 17 (by decide) lk_62 (fun _ h9 => h9) rfl dX5_grants_69 ?_
    refine lv_iload_n hx hb dX5_grants_72 rfl (lv_at hl 2 rfl) ?_
    refine lv_iconst (v := (-1)) hx hb dX5_grants_73 (by decide) ?_
    obtain ⟨h_10, hw⟩ := hw
    refine va_iast hx hb hK hP (DA hAd) hS 51 0 (wg51 ca ad w_8) rfl h_10 dX5_grants_74 (fun H locs hP hD hS => ?_)
    obtain ⟨w_11, e_12⟩ : ∃ z : St, z = (uA w_8 51 (upd (w_8.1 51) (a1).toNatClampNeg (-1))) := ⟨_, rfl⟩
    have hP : PA D ca ad w_11 H := by rw [e_12]; exact wu51 hP
    have hw := hw w_11 e_12
    refine lv_aload_n hx hb dX5_grants_75 rfl (lv_at hl 0 rfl) ?_
    refine lv_iload_n hx hb dX5_grants_76 rfl (lv_at hl 1 rfl) ?_
    refine lv_iload_n hx hb dX5_grants_77 rfl (lv_at hl 2 rfl) ?_
    refine va_callv (va_runV (As := [.int a0, .int a1]) (rest := []) ⟨hx, hb, hml, hown, hts⟩ (mX5_notesClaim l D ca ad base hAd w_11 a0 a1 _ hw) (cwV 2 hts gX5_grants_X5_notesClaim rfl rfl rfl (by decide +kernel) ⟨Nat.le_of_ble_eq_true rfl, Nat.le_of_ble_eq_true rfl⟩) (pv [.int a0, .int a1] hK hP hbs hS rfl (wg33 ca ad w_11)) rfl rfl hl.1 rfl (lv_room (Nat.le_of_ble_eq_true rfl)) dX5_grants_78 ⟨Nat.le_of_ble_eq_true rfl, Nat.le_of_ble_eq_true rfl⟩) hS (fun q _ h => h) (fun q h => h) (fun w_13 t H locs ht hvm hw hP hz1 hk1 hS => ?_)
    have hP : PA D ca ad w_13 H := by rw [← ht]; exact hP
    exact W.vret hx hb hr (fun t ht hW => ⟨⟨w_13, rfl, hw, by show PA D ca ad w_13 t.heap; rw [ht]; exact hP⟩, hS.F ht⟩) hS.2.2 dX5_grants_81
  have hl := lv_entry ([.ref (ad 33), .int a0, .int a1]) (n := 3) (Nat.le_of_ble_eq_true rfl)
  rw [lg_entry_eq]
  generalize (lg_sl ([.ref (ad 33), .int a0, .int a1]) ++ List.replicate (3 - (lg_sl ([.ref (ad 33), .int a0, .int a1])).length) Slot.unset).toArray = ls at hl ⊢
  have hl : lv_has ls 3 [(0, .ref (ad 33)), (1, .int a0), (2, .int a1)] := hl
  refine lv_aload_n hx hb dX5_grants_0 rfl (lv_at hl 0 rfl) ?_
  refine lv_iload_n hx hb dX5_grants_1 rfl (lv_at hl 1 rfl) ?_
  refine lv_iload_n hx hb dX5_grants_2 rfl (lv_at hl 2 rfl) ?_
  refine va_callv (va_runV (As := [.int a0, .int a1]) (rest := []) ⟨hx, hb, hml, hown, hts⟩ (mX5_leaves l D ca ad base hAd w a0 a1 _ hw) (cwV 2 hts gX5_grants_X5_leaves rfl rfl rfl (by decide +kernel) ⟨Nat.le_of_ble_eq_true rfl, Nat.le_of_ble_eq_true rfl⟩) (pv [.int a0, .int a1] hK hP hbs hS rfl (wg33 ca ad w)) rfl rfl hl.1 rfl (lv_room (Nat.le_of_ble_eq_true rfl)) dX5_grants_3 ⟨Nat.le_of_ble_eq_true rfl, Nat.le_of_ble_eq_true rfl⟩) hS (fun q _ h => h) (fun q h => h) (fun w_14 t H locs ht hvm hw hP hz1 hk1 hS => ?_)
  have hP : PA D ca ad w_14 H := by rw [← ht]; exact hP
  refine lv_aload_n hx hb dX5_grants_6 rfl (lv_at hl 0 rfl) ?_
  refine va_get (D := D) (ci := 7) (v := .ref (ad 48)) (C := RX5) (T := TX5) (N := 30) hx hb hts in_X5 hown hK hP 33 (wg33 ca ad w_14) rfl 14 (by decide) lk_53 (fun _ h9 => h9) rfl dX5_grants_7 ?_
  refine lv_iload_n hx hb dX5_grants_10 rfl (lv_at hl 2 rfl) ?_
  obtain ⟨h_15, hw⟩ := hw
  refine va_iald hx hb hK hP 48 0 (wg48 ca ad w_14) rfl h_15 dX5_grants_11 ?_
  refine lv_if_lt (tgt := 38) hx hb dX5_grants_12 (by decide) (fun c_16 => ?_) (fun c_16 => ?_)
  · have hw := hw.1 c_16
    exact hB38 w_14 hw _ _ hP hS ls (lv_sub hl [0, 1, 2] rfl)
  · have hw := hw.2 c_16
    refine lv_aload_n hx hb dX5_grants_15 rfl (lv_at hl 0 rfl) ?_
    refine lv_dup hx hb dX5_grants_16 rfl ?_
    refine va_get (D := D) (ci := 7) (v := .long (w_14.2.1 1)) (C := RX5) (T := TX5) (N := 30) hx hb hts in_X5 hown hK hP 33 (wg33 ca ad w_14) rfl 29 (by decide) lk_100 (fun _ h9 => h9) rfl dX5_grants_17 ?_
    refine lv_aload_n hx hb dX5_grants_20 rfl (lv_at hl 0 rfl) ?_
    refine va_get (D := D) (ci := 7) (v := .ref (ad 49)) (C := RX5) (T := TX5) (N := 30) hx hb hts in_X5 hown hK hP 33 (wg33 ca ad w_14) rfl 15 (by decide) lk_56 (fun _ h9 => h9) rfl dX5_grants_21 ?_
    refine lv_iload_n hx hb dX5_grants_24 rfl (lv_at hl 2 rfl) ?_
    obtain ⟨h_17, hw⟩ := hw
    refine va_iald hx hb hK hP 49 0 (wg49 ca ad w_14) rfl h_17 dX5_grants_25 ?_
    refine lv_aload_n hx hb dX5_grants_26 rfl (lv_at hl 0 rfl) ?_
    refine va_get (D := D) (ci := 7) (v := .ref (ad 50)) (C := RX5) (T := TX5) (N := 30) hx hb hts in_X5 hown hK hP 33 (wg33 ca ad w_14) rfl 16 (by decide) lk_59 (fun _ h9 => h9) rfl dX5_grants_27 ?_
    refine lv_iload_n hx hb dX5_grants_30 rfl (lv_at hl 2 rfl) ?_
    obtain ⟨h_18, hw⟩ := hw
    refine va_iald hx hb hK hP 50 0 (wg50 ca ad w_14) rfl h_18 dX5_grants_31 ?_
    refine lv_isub hx hb dX5_grants_32 ?_
    refine lv_i2l (v := (((w_14.1 49 (a1).toNatClampNeg) - (w_14.1 50 (a1).toNatClampNeg))).toInt64) hx hb dX5_grants_33 rfl ?_
    refine lv_ladd hx hb dX5_grants_34 ?_
    refine va_put (D := D) (ci := 7) (v := .long ((w_14.2.1 1) + (((w_14.1 49 (a1).toNatClampNeg) - (w_14.1 50 (a1).toNatClampNeg))).toInt64)) (ty := .long) (C := RX5) (T := TX5) (N := 30) hx hb hts in_X5 tyX5 tyX5_ok nmX5 hown hK hP (DA hAd) hS 33 (wg33 ca ad w_14) rfl 29 (by decide) lk_100 (fun _ h9 => h9) rfl (by decide +kernel) rfl rfl (Nat.le_of_ble_eq_true rfl) dX5_grants_35 (fun H locs hP hD hS => ?_)
    obtain ⟨w_19, e_20⟩ : ∃ z : St, z = (uL w_14 1 ((w_14.2.1 1) + (((w_14.1 49 (a1).toNatClampNeg) - (w_14.1 50 (a1).toNatClampNeg))).toInt64)) := ⟨_, rfl⟩
    have hP : PA D ca ad w_19 H := by rw [e_20]; exact wl1 hP
    have hw := hw w_19 e_20
    exact hB38 w_19 hw _ _ hP hS ls (lv_sub hl [0, 1, 2] rfl)
set_option maxHeartbeats 4000000 in
set_option maxRecDepth 100000 in
def wpX5_requests_L121 (a0 : Int32) (a1 : Int32) (a2 : Int32) (a3 : Int32) (post : Int32 → St → Prop) : Nat → Int32 → St → Prop
  | 0, _, _ => False
  | n + 1, v5, w => (v5 ≤ 0 → ((vp_in (6 * a1) 24) ∧ (∀ w_3 : St, w_3 = (uA w 53 (upd (w.1 53) ((6 * a1)).toNatClampNeg a0)) → (vp_in a1 4) ∧ ((vp_in a1 4) ∧ (∀ w_7 : St, w_7 = (uA w_3 54 (upd (w_3.1 54) (a1).toNatClampNeg ((w_3.1 54 (a1).toNatClampNeg) + 1))) → (vp_in a1 4) ∧ (∀ w_10 : St, w_10 = (uA w_7 51 (upd (w_7.1 51) (a1).toNatClampNeg a0)) → post 109 w_10)))))) ∧ (¬ (v5 ≤ 0) → ((vp_in (((6 * a1) + v5) - 1) 24) ∧ ((vp_in ((6 * a1) + v5) 24) ∧ (∀ w_14 : St, w_14 = (uA w 53 (upd (w.1 53) (((6 * a1) + v5)).toNatClampNeg (w.1 53 ((((6 * a1) + v5) - 1)).toNatClampNeg))) → wpX5_requests_L121 a0 a1 a2 a3 post n (v5 + (-1)) w_14))))
set_option maxHeartbeats 4000000 in
set_option maxRecDepth 100000 in
def wpX5_requests_B63 (a0 : Int32) (a1 : Int32) (a2 : Int32) (a3 : Int32) (post : Int32 → St → Prop) (w : St) : Prop := (a3 = 0 → (wpX5_placeIn a0 a1 w (fun r_20 w_19 => (0 ≤ r_20 → (post 119 w_19)) ∧ (¬ (0 ≤ r_20) → ((vp_in a1 4) ∧ ((vp_in ((6 * a1) + (w_19.1 54 (a1).toNatClampNeg)) 24) ∧ (∀ w_24 : St, w_24 = (uA w_19 53 (upd (w_19.1 53) (((6 * a1) + (w_19.1 54 (a1).toNatClampNeg))).toNatClampNeg a0)) → (vp_in a1 4) ∧ ((vp_in a1 4) ∧ (∀ w_28 : St, w_28 = (uA w_24 54 (upd (w_24.1 54) (a1).toNatClampNeg ((w_24.1 54 (a1).toNatClampNeg) + 1))) → post 119 w_28))))))))) ∧ (¬ (a3 = 0) → (wpX5_leaves a0 a1 w (fun w_17 => (vp_in a1 4) ∧ (∃ n : Nat, wpX5_requests_L121 a0 a1 a2 a3 post n (w_17.1 54 (a1).toNatClampNeg) w_17))))
set_option maxHeartbeats 4000000 in
set_option maxRecDepth 100000 in
def wpX5_requests_B47 (a0 : Int32) (a1 : Int32) (a2 : Int32) (a3 : Int32) (post : Int32 → St → Prop) (w : St) : Prop := wpX5_grants a0 a1 w (fun w_30 => wpX5_enters 108 a0 a1 a2 w_30 (fun r_32 w_31 => (narrow .char (.int r_32) = .int r_32) ∧ post r_32 w_31))
set_option maxHeartbeats 4000000 in
set_option maxRecDepth 100000 in
def wpX5_requests_B21 (a0 : Int32) (a1 : Int32) (a2 : Int32) (a3 : Int32) (post : Int32 → St → Prop) (w : St) : Prop := wpX5_isFree a1 w (fun r_34 w_33 => (r_34 = 0 → (wpX5_requests_B63 a0 a1 a2 a3 post w_33)) ∧ (¬ (r_34 = 0) → ((vp_in a1 4) ∧ (((w_33.1 54 (a1).toNatClampNeg) = 0 → (wpX5_requests_B47 a0 a1 a2 a3 post w_33)) ∧ (¬ ((w_33.1 54 (a1).toNatClampNeg) = 0) → (wpX5_placeIn a0 a1 w_33 (fun r_39 w_38 => (r_39 = 0 → (wpX5_requests_B47 a0 a1 a2 a3 post w_38)) ∧ (¬ (r_39 = 0) → (wpX5_requests_B63 a0 a1 a2 a3 post w_38)))))))))
set_option maxHeartbeats 4000000 in
set_option maxRecDepth 100000 in
def wpX5_requests (a0 : Int32) (a1 : Int32) (a2 : Int32) (a3 : Int32) (w : St) (post : Int32 → St → Prop) : Prop := wpX5_isFree a1 w (fun r_42 w_41 => (r_42 = 0 → ((vp_in a1 4) ∧ (((w_41.1 48 (a1).toNatClampNeg) = a0 → (post 104 w_41)) ∧ (¬ ((w_41.1 48 (a1).toNatClampNeg) = a0) → (wpX5_requests_B21 a0 a1 a2 a3 post w_41))))) ∧ (¬ (r_42 = 0) → (wpX5_requests_B21 a0 a1 a2 a3 post w_41)))
set_option maxHeartbeats 4000000 in
set_option maxRecDepth 100000 in
theorem mX5_requests (l : Launch) (D : va_G) (ca : Nat → ClassId) (ad : Nat → Nat) (base : Nat) (hAd : okA base ad) (w : St) (a0 : Int32) (a1 : Int32) (a2 : Int32) (a3 : Int32) (post : Int32 → St → Prop) (hw : wpX5_requests a0 a1 a2 a3 w post) : Met l yX5_requests wsX5_requests ({ frames := 3, cells := 0, slots := 0, locals := 69 } : Room) (va_Pc [.ref (ad 33), .int a0, .int a1, .int a2, .int a3] (BU D ca ad base w)) (va_Qi post (Bp D ca ad) (AB base)) 0 0 (AB base) := by
  refine Met.ofW (cc := cX5_requests) (maxL := 6) (ret := (some .char)) (by decide) rfl ?_
  intro p e s m args below meth c s₁ B hml hv
  obtain ⟨rfl, hbs, hP, hK⟩ := hv
  have hx := B.exec
  have hb := B.bytes
  have hr := B.returns
  have hts := atoms_spec (ws := wsX5_requests) B.pre
  have hown : s.vm.findClass RX5 = some m.cls := findClass_of_methodNamed B.named
  have hlocks := B.notSynchronized
  have in_X5 : ∀ w ∈ wsX50, w ∈ wsX5_requests := by decide +kernel
  have lk_53 := hts (.fieldLink RX5 53 "LockQuorumModel" "owners" "[I") (by decide +kernel)
  have lk_62 := hts (.fieldLink RX5 62 "LockQuorumModel" "thieves" "[I") (by decide +kernel)
  have lk_68 := hts (.fieldLink RX5 68 "LockQuorumModel" "queues" "[I") (by decide +kernel)
  have lk_71 := hts (.fieldLink RX5 71 "LockQuorumModel" "waits" "[I") (by decide +kernel)
  have hS : va_S (AB base) s.heap s.heap [] := va_S.rf
  have hB121 : ∀ (n : Nat) (v5 : Int32) (w : St), wpX5_requests_L121 a0 a1 a2 a3 post n v5 w → ∀ (H : Heap) (locs : List Loc), PA D ca ad w H → va_S (AB base) s.heap H locs → ∀ ls : Array Slot, lv_has ls 6 [(0, .ref (ad 33)), (1, .int a0), (2, .int a1), (5, .int v5)] → W p l e (headSpec wsX5_requests ({ frames := 3, cells := 0, slots := 0, locals := 69 } : Room)).room s m ([Value.ref (ad 33), Value.int a0, Value.int a1, Value.int a2, Value.int a3].toArray) below meth c H locs 0 0 (MQ below (va_Qi post (Bp D ca ad) (AB base)) ([Value.ref (ad 33), Value.int a0, Value.int a1, Value.int a2, Value.int a3].toArray) s 0 0 (AB base)) (F0 m 121 ls []) := by
    intro n
    induction n with
    | zero => intro v5 w hw; exact hw.elim
    | succ n ih121 =>
      intro v5 w hw H locs hP hS ls hl
      refine lv_iload hx hb dX5_requests_121 (lv_at hl 3 rfl) ?_
      refine lv_if_le (tgt := 158) hx hb dX5_requests_123 (by decide) (fun c_1 => ?_) (fun c_1 => ?_)
      · have hw := hw.1 c_1
        refine lv_aload_n hx hb dX5_requests_158 rfl (lv_at hl 0 rfl) ?_
        refine va_get (D := D) (ci := 7) (v := .ref (ad 53)) (C := RX5) (T := TX5) (N := 30) hx hb hts in_X5 hown hK hP 33 (wg33 ca ad w) rfl 19 (by decide) lk_68 (fun _ h9 => h9) rfl dX5_requests_159 ?_
        refine lv_bipush (v := 6) hx hb dX5_requests_162 (by decide) ?_
        refine lv_iload_n hx hb dX5_requests_164 rfl (lv_at hl 2 rfl) ?_
        refine lv_imul hx hb dX5_requests_165 ?_
        refine lv_iload_n hx hb dX5_requests_166 rfl (lv_at hl 1 rfl) ?_
        obtain ⟨h_2, hw⟩ := hw
        refine va_iast hx hb hK hP (DA hAd) hS 53 0 (wg53 ca ad w) rfl h_2 dX5_requests_167 (fun H locs hP hD hS => ?_)
        obtain ⟨w_3, e_4⟩ : ∃ z : St, z = (uA w 53 (upd (w.1 53) ((6 * a1)).toNatClampNeg a0)) := ⟨_, rfl⟩
        have hP : PA D ca ad w_3 H := by rw [e_4]; exact wu53 hP
        have hw := hw w_3 e_4
        refine lv_aload_n hx hb dX5_requests_168 rfl (lv_at hl 0 rfl) ?_
        refine va_get (D := D) (ci := 7) (v := .ref (ad 54)) (C := RX5) (T := TX5) (N := 30) hx hb hts in_X5 hown hK hP 33 (wg33 ca ad w_3) rfl 20 (by decide) lk_71 (fun _ h9 => h9) rfl dX5_requests_169 ?_
        refine lv_iload_n hx hb dX5_requests_172 rfl (lv_at hl 2 rfl) ?_
        refine lv_dup2_11 hx hb dX5_requests_173 rfl rfl ?_
        obtain ⟨h_5, hw⟩ := hw
        refine va_iald hx hb hK hP 54 0 (wg54 ca ad w_3) rfl h_5 dX5_requests_174 ?_
        refine lv_iconst (v := 1) hx hb dX5_requests_175 (by decide) ?_
        refine lv_iadd hx hb dX5_requests_176 ?_
        obtain ⟨h_6, hw⟩ := hw
        refine va_iast hx hb hK hP (DA hAd) hS 54 0 (wg54 ca ad w_3) rfl h_6 dX5_requests_177 (fun H locs hP hD hS => ?_)
        obtain ⟨w_7, e_8⟩ : ∃ z : St, z = (uA w_3 54 (upd (w_3.1 54) (a1).toNatClampNeg ((w_3.1 54 (a1).toNatClampNeg) + 1))) := ⟨_, rfl⟩
        have hP : PA D ca ad w_7 H := by rw [e_8]; exact wu54 hP
        have hw := hw w_7 e_8
        refine lv_aload_n hx hb dX5_requests_178 rfl (lv_at hl 0 rfl) ?_
        refine va_get (D := D) (ci := 7) (v := .ref (ad 51)) (C := RX5) (T := TX5) (N := 30) hx hb hts in_X5 hown hK hP 33 (wg33 ca ad w_7) rfl 17 (by decide) lk_62 (fun _ h9 => h9) rfl dX5_requests_179 ?_
        refine lv_iload_n hx hb dX5_requests_182 rfl (lv_at hl 2 rfl) ?_
        refine lv_iload_n hx hb dX5_requests_183 rfl (lv_at hl 1 rfl) ?_
        obtain ⟨h_9, hw⟩ := hw
        refine va_iast hx hb hK hP (DA hAd) hS 51 0 (wg51 ca ad w_7) rfl h_9 dX5_requests_184 (fun H locs hP hD hS => ?_)
        obtain ⟨w_10, e_11⟩ : ∃ z : St, z = (uA w_7 51 (upd (w_7.1 51) (a1).toNatClampNeg a0)) := ⟨_, rfl⟩
        have hP : PA D ca ad w_10 H := by rw [e_11]; exact wu51 hP
        have hw := hw w_10 e_11
        refine lv_bipush (v := 109) hx hb dX5_requests_185 (by decide) ?_
        exact W.zret (v := 109) hx hb hr (by decide) (fun t ht hW => ⟨⟨109, w_10, rfl, hw, by show PA D ca ad w_10 t.heap; rw [ht]; exact hP⟩, hS.F ht⟩) hS.2.2 dX5_requests_187
      · have hw := hw.2 c_1
        refine lv_aload_n hx hb dX5_requests_126 rfl (lv_at hl 0 rfl) ?_
        refine va_get (D := D) (ci := 7) (v := .ref (ad 53)) (C := RX5) (T := TX5) (N := 30) hx hb hts in_X5 hown hK hP 33 (wg33 ca ad w) rfl 19 (by decide) lk_68 (fun _ h9 => h9) rfl dX5_requests_127 ?_
        refine lv_bipush (v := 6) hx hb dX5_requests_130 (by decide) ?_
        refine lv_iload_n hx hb dX5_requests_132 rfl (lv_at hl 2 rfl) ?_
        refine lv_imul hx hb dX5_requests_133 ?_
        refine lv_iload hx hb dX5_requests_134 (lv_at hl 3 rfl) ?_
        refine lv_iadd hx hb dX5_requests_136 ?_
        refine lv_aload_n hx hb dX5_requests_137 rfl (lv_at hl 0 rfl) ?_
        refine va_get (D := D) (ci := 7) (v := .ref (ad 53)) (C := RX5) (T := TX5) (N := 30) hx hb hts in_X5 hown hK hP 33 (wg33 ca ad w) rfl 19 (by decide) lk_68 (fun _ h9 => h9) rfl dX5_requests_138 ?_
        refine lv_bipush (v := 6) hx hb dX5_requests_141 (by decide) ?_
        refine lv_iload_n hx hb dX5_requests_143 rfl (lv_at hl 2 rfl) ?_
        refine lv_imul hx hb dX5_requests_144 ?_
        refine lv_iload hx hb dX5_requests_145 (lv_at hl 3 rfl) ?_
        refine lv_iadd hx hb dX5_requests_147 ?_
        refine lv_iconst (v := 1) hx hb dX5_requests_148 (by decide) ?_
        refine lv_isub hx hb dX5_requests_149 ?_
        obtain ⟨h_12, hw⟩ := hw
        refine va_iald hx hb hK hP 53 0 (wg53 ca ad w) rfl h_12 dX5_requests_150 ?_
        obtain ⟨h_13, hw⟩ := hw
        refine va_iast hx hb hK hP (DA hAd) hS 53 0 (wg53 ca ad w) rfl h_13 dX5_requests_151 (fun H locs hP hD hS => ?_)
        obtain ⟨w_14, e_15⟩ : ∃ z : St, z = (uA w 53 (upd (w.1 53) (((6 * a1) + v5)).toNatClampNeg (w.1 53 ((((6 * a1) + v5) - 1)).toNatClampNeg))) := ⟨_, rfl⟩
        have hP : PA D ca ad w_14 H := by rw [e_15]; exact wu53 hP
        have hw := hw w_14 e_15
        refine lv_iinc (v := (v5 + (-1))) (lv' := [(5, .int (v5 + (-1))), (0, .ref (ad 33)), (1, .int a0), (2, .int a1)]) hx hb dX5_requests_152 hl (k := 3) rfl rfl (by decide) rfl (fun ls hl => ?_)
        refine lv_goto (tgt := 121) hx hb dX5_requests_155 (by decide) ?_
        exact ih121 (v5 + (-1)) w_14 hw _ _ hP hS ls (lv_sub hl [1, 2, 3, 0] rfl)
  have hB63 : ∀ (w : St), wpX5_requests_B63 a0 a1 a2 a3 post w → ∀ (H : Heap) (locs : List Loc), PA D ca ad w H → va_S (AB base) s.heap H locs → ∀ ls : Array Slot, lv_has ls 6 [(0, .ref (ad 33)), (1, .int a0), (2, .int a1), (4, .int a3)] → W p l e (headSpec wsX5_requests ({ frames := 3, cells := 0, slots := 0, locals := 69 } : Room)).room s m ([Value.ref (ad 33), Value.int a0, Value.int a1, Value.int a2, Value.int a3].toArray) below meth c H locs 0 0 (MQ below (va_Qi post (Bp D ca ad) (AB base)) ([Value.ref (ad 33), Value.int a0, Value.int a1, Value.int a2, Value.int a3].toArray) s 0 0 (AB base)) (F0 m 63 ls []) := by
    intro w hw H locs hP hS ls hl
    refine lv_iload hx hb dX5_requests_63 (lv_at hl 3 rfl) ?_
    refine lv_if_ne (tgt := 107) hx hb dX5_requests_65 (by decide) (fun c_16 => ?_) (fun c_16 => ?_)
    · have hw := hw.2 c_16
      refine lv_aload_n hx hb dX5_requests_107 rfl (lv_at hl 0 rfl) ?_
      refine lv_iload_n hx hb dX5_requests_108 rfl (lv_at hl 1 rfl) ?_
      refine lv_iload_n hx hb dX5_requests_109 rfl (lv_at hl 2 rfl) ?_
      refine va_callv (va_runV (As := [.int a0, .int a1]) (rest := []) ⟨hx, hb, hml, hown, hts⟩ (mX5_leaves l D ca ad base hAd w a0 a1 _ hw) (cwV 2 hts gX5_requests_X5_leaves rfl rfl rfl (by decide +kernel) ⟨Nat.le_of_ble_eq_true rfl, Nat.le_of_ble_eq_true rfl⟩) (pv [.int a0, .int a1] hK hP hbs hS rfl (wg33 ca ad w)) rfl rfl hl.1 rfl (lv_room (Nat.le_of_ble_eq_true rfl)) dX5_requests_110 ⟨Nat.le_of_ble_eq_true rfl, Nat.le_of_ble_eq_true rfl⟩) hS (fun q _ h => h) (fun q h => h) (fun w_17 t H locs ht hvm hw hP hz1 hk1 hS => ?_)
      have hP : PA D ca ad w_17 H := by rw [← ht]; exact hP
      refine lv_aload_n hx hb dX5_requests_113 rfl (lv_at hl 0 rfl) ?_
      refine va_get (D := D) (ci := 7) (v := .ref (ad 54)) (C := RX5) (T := TX5) (N := 30) hx hb hts in_X5 hown hK hP 33 (wg33 ca ad w_17) rfl 20 (by decide) lk_71 (fun _ h9 => h9) rfl dX5_requests_114 ?_
      refine lv_iload_n hx hb dX5_requests_117 rfl (lv_at hl 2 rfl) ?_
      obtain ⟨h_18, hw⟩ := hw
      refine va_iald hx hb hK hP 54 0 (wg54 ca ad w_17) rfl h_18 dX5_requests_118 ?_
      refine lv_istore (lv' := [(5, .int (w_17.1 54 (a1).toNatClampNeg)), (0, .ref (ad 33)), (1, .int a0), (2, .int a1), (4, .int a3)]) hx hb dX5_requests_119 hl (by decide) rfl (fun ls hl => ?_)
      obtain ⟨n_121, hw⟩ := hw
      exact hB121 n_121 (w_17.1 54 (a1).toNatClampNeg) w_17 hw _ _ hP hS ls (lv_sub hl [1, 2, 3, 0] rfl)
    · have hw := hw.1 c_16
      refine lv_aload_n hx hb dX5_requests_68 rfl (lv_at hl 0 rfl) ?_
      refine lv_iload_n hx hb dX5_requests_69 rfl (lv_at hl 1 rfl) ?_
      refine lv_iload_n hx hb dX5_requests_70 rfl (lv_at hl 2 rfl) ?_
      refine va_calli (va_runV (As := [.int a0, .int a1]) (rest := []) ⟨hx, hb, hml, hown, hts⟩ (mX5_placeIn l D ca ad base hAd w a0 a1 _ hw) (cwV 2 hts gX5_requests_X5_placeIn rfl rfl rfl (by decide +kernel) ⟨Nat.le_of_ble_eq_true rfl, Nat.le_of_ble_eq_true rfl⟩) (pv [.int a0, .int a1] hK hP hbs hS rfl (wg33 ca ad w)) rfl rfl hl.1 rfl (lv_room (Nat.le_of_ble_eq_true rfl)) dX5_requests_71 ⟨Nat.le_of_ble_eq_true rfl, Nat.le_of_ble_eq_true rfl⟩) hS (fun q _ h => h) (fun q h => h) (fun r_20 w_19 t H locs ht hvm hw hP hz1 hk1 hS => ?_)
      have hP : PA D ca ad w_19 H := by rw [← ht]; exact hP
      refine lv_if_ge (tgt := 104) hx hb dX5_requests_74 (by decide) (fun c_21 => ?_) (fun c_21 => ?_)
      · have hw := hw.1 c_21
        refine lv_bipush (v := 119) hx hb dX5_requests_104 (by decide) ?_
        exact W.zret (v := 119) hx hb hr (by decide) (fun t ht hW => ⟨⟨119, w_19, rfl, hw, by show PA D ca ad w_19 t.heap; rw [ht]; exact hP⟩, hS.F ht⟩) hS.2.2 dX5_requests_106
      · have hw := hw.2 c_21
        refine lv_aload_n hx hb dX5_requests_77 rfl (lv_at hl 0 rfl) ?_
        refine va_get (D := D) (ci := 7) (v := .ref (ad 53)) (C := RX5) (T := TX5) (N := 30) hx hb hts in_X5 hown hK hP 33 (wg33 ca ad w_19) rfl 19 (by decide) lk_68 (fun _ h9 => h9) rfl dX5_requests_78 ?_
        refine lv_bipush (v := 6) hx hb dX5_requests_81 (by decide) ?_
        refine lv_iload_n hx hb dX5_requests_83 rfl (lv_at hl 2 rfl) ?_
        refine lv_imul hx hb dX5_requests_84 ?_
        refine lv_aload_n hx hb dX5_requests_85 rfl (lv_at hl 0 rfl) ?_
        refine va_get (D := D) (ci := 7) (v := .ref (ad 54)) (C := RX5) (T := TX5) (N := 30) hx hb hts in_X5 hown hK hP 33 (wg33 ca ad w_19) rfl 20 (by decide) lk_71 (fun _ h9 => h9) rfl dX5_requests_86 ?_
        refine lv_iload_n hx hb dX5_requests_89 rfl (lv_at hl 2 rfl) ?_
        obtain ⟨h_22, hw⟩ := hw
        refine va_iald hx hb hK hP 54 0 (wg54 ca ad w_19) rfl h_22 dX5_requests_90 ?_
        refine lv_iadd hx hb dX5_requests_91 ?_
        refine lv_iload_n hx hb dX5_requests_92 rfl (lv_at hl 1 rfl) ?_
        obtain ⟨h_23, hw⟩ := hw
        refine va_iast hx hb hK hP (DA hAd) hS 53 0 (wg53 ca ad w_19) rfl h_23 dX5_requests_93 (fun H locs hP hD hS => ?_)
        obtain ⟨w_24, e_25⟩ : ∃ z : St, z = (uA w_19 53 (upd (w_19.1 53) (((6 * a1) + (w_19.1 54 (a1).toNatClampNeg))).toNatClampNeg a0)) := ⟨_, rfl⟩
        have hP : PA D ca ad w_24 H := by rw [e_25]; exact wu53 hP
        have hw := hw w_24 e_25
        refine lv_aload_n hx hb dX5_requests_94 rfl (lv_at hl 0 rfl) ?_
        refine va_get (D := D) (ci := 7) (v := .ref (ad 54)) (C := RX5) (T := TX5) (N := 30) hx hb hts in_X5 hown hK hP 33 (wg33 ca ad w_24) rfl 20 (by decide) lk_71 (fun _ h9 => h9) rfl dX5_requests_95 ?_
        refine lv_iload_n hx hb dX5_requests_98 rfl (lv_at hl 2 rfl) ?_
        refine lv_dup2_11 hx hb dX5_requests_99 rfl rfl ?_
        obtain ⟨h_26, hw⟩ := hw
        refine va_iald hx hb hK hP 54 0 (wg54 ca ad w_24) rfl h_26 dX5_requests_100 ?_
        refine lv_iconst (v := 1) hx hb dX5_requests_101 (by decide) ?_
        refine lv_iadd hx hb dX5_requests_102 ?_
        obtain ⟨h_27, hw⟩ := hw
        refine va_iast hx hb hK hP (DA hAd) hS 54 0 (wg54 ca ad w_24) rfl h_27 dX5_requests_103 (fun H locs hP hD hS => ?_)
        obtain ⟨w_28, e_29⟩ : ∃ z : St, z = (uA w_24 54 (upd (w_24.1 54) (a1).toNatClampNeg ((w_24.1 54 (a1).toNatClampNeg) + 1))) := ⟨_, rfl⟩
        have hP : PA D ca ad w_28 H := by rw [e_29]; exact wu54 hP
        have hw := hw w_28 e_29
        refine lv_bipush (v := 119) hx hb dX5_requests_104 (by decide) ?_
        exact W.zret (v := 119) hx hb hr (by decide) (fun t ht hW => ⟨⟨119, w_28, rfl, hw, by show PA D ca ad w_28 t.heap; rw [ht]; exact hP⟩, hS.F ht⟩) hS.2.2 dX5_requests_106
  have hB47 : ∀ (w : St), wpX5_requests_B47 a0 a1 a2 a3 post w → ∀ (H : Heap) (locs : List Loc), PA D ca ad w H → va_S (AB base) s.heap H locs → ∀ ls : Array Slot, lv_has ls 6 [(0, .ref (ad 33)), (1, .int a0), (2, .int a1), (3, .int a2)] → W p l e (headSpec wsX5_requests ({ frames := 3, cells := 0, slots := 0, locals := 69 } : Room)).room s m ([Value.ref (ad 33), Value.int a0, Value.int a1, Value.int a2, Value.int a3].toArray) below meth c H locs 0 0 (MQ below (va_Qi post (Bp D ca ad) (AB base)) ([Value.ref (ad 33), Value.int a0, Value.int a1, Value.int a2, Value.int a3].toArray) s 0 0 (AB base)) (F0 m 47 ls []) := by
    intro w hw H locs hP hS ls hl
    refine lv_aload_n hx hb dX5_requests_47 rfl (lv_at hl 0 rfl) ?_
    refine lv_iload_n hx hb dX5_requests_48 rfl (lv_at hl 1 rfl) ?_
    refine lv_iload_n hx hb dX5_requests_49 rfl (lv_at hl 2 rfl) ?_
    refine va_callv (va_runV (As := [.int a0, .int a1]) (rest := []) ⟨hx, hb, hml, hown, hts⟩ (mX5_grants l D ca ad base hAd w a0 a1 _ hw) (cwV 2 hts gX5_requests_X5_grants rfl rfl rfl (by decide +kernel) ⟨Nat.le_of_ble_eq_true rfl, Nat.le_of_ble_eq_true rfl⟩) (pv [.int a0, .int a1] hK hP hbs hS rfl (wg33 ca ad w)) rfl rfl hl.1 rfl (lv_room (Nat.le_of_ble_eq_true rfl)) dX5_requests_50 ⟨Nat.le_of_ble_eq_true rfl, Nat.le_of_ble_eq_true rfl⟩) hS (fun q _ h => h) (fun q h => h) (fun w_30 t H locs ht hvm hw hP hz1 hk1 hS => ?_)
    have hP : PA D ca ad w_30 H := by rw [← ht]; exact hP
    refine lv_aload_n hx hb dX5_requests_53 rfl (lv_at hl 0 rfl) ?_
    refine lv_bipush (v := 108) hx hb dX5_requests_54 (by decide) ?_
    refine lv_iload_n hx hb dX5_requests_56 rfl (lv_at hl 1 rfl) ?_
    refine lv_iload_n hx hb dX5_requests_57 rfl (lv_at hl 2 rfl) ?_
    refine lv_iload_n hx hb dX5_requests_58 rfl (lv_at hl 3 rfl) ?_
    refine va_calli (va_runV (As := [.int 108, .int a0, .int a1, .int a2]) (rest := []) ⟨hx, hb, hml, hown, hts⟩ (mX5_enters l D ca ad base hAd w_30 108 a0 a1 a2 _ hw) (cwV 4 hts gX5_requests_X5_enters rfl rfl rfl (by decide +kernel) ⟨Nat.le_of_ble_eq_true rfl, Nat.le_of_ble_eq_true rfl⟩) (pv [.int 108, .int a0, .int a1, .int a2] hK hP hbs hS rfl (wg33 ca ad w_30)) rfl rfl hl.1 rfl (lv_room (Nat.le_of_ble_eq_true rfl)) dX5_requests_59 ⟨Nat.le_of_ble_eq_true rfl, Nat.le_of_ble_eq_true rfl⟩) hS (fun q _ h => h) (fun q h => h) (fun r_32 w_31 t H locs ht hvm hw hP hz1 hk1 hS => ?_)
    have hP : PA D ca ad w_31 H := by rw [← ht]; exact hP
    obtain ⟨hn9, hw⟩ := hw
    exact W.zret (v := r_32) hx hb hr hn9 (fun t ht hW => ⟨⟨r_32, w_31, rfl, hw, by show PA D ca ad w_31 t.heap; rw [ht]; exact hP⟩, hS.F ht⟩) hS.2.2 dX5_requests_62
  have hB21 : ∀ (w : St), wpX5_requests_B21 a0 a1 a2 a3 post w → ∀ (H : Heap) (locs : List Loc), PA D ca ad w H → va_S (AB base) s.heap H locs → ∀ ls : Array Slot, lv_has ls 6 [(0, .ref (ad 33)), (1, .int a0), (2, .int a1), (3, .int a2), (4, .int a3)] → W p l e (headSpec wsX5_requests ({ frames := 3, cells := 0, slots := 0, locals := 69 } : Room)).room s m ([Value.ref (ad 33), Value.int a0, Value.int a1, Value.int a2, Value.int a3].toArray) below meth c H locs 0 0 (MQ below (va_Qi post (Bp D ca ad) (AB base)) ([Value.ref (ad 33), Value.int a0, Value.int a1, Value.int a2, Value.int a3].toArray) s 0 0 (AB base)) (F0 m 21 ls []) := by
    intro w hw H locs hP hS ls hl
    refine lv_aload_n hx hb dX5_requests_21 rfl (lv_at hl 0 rfl) ?_
    refine lv_iload_n hx hb dX5_requests_22 rfl (lv_at hl 2 rfl) ?_
    refine va_calli (va_runV (As := [.int a1]) (rest := []) ⟨hx, hb, hml, hown, hts⟩ (mX5_isFree l D ca ad base hAd w a1 _ hw) (cwV 1 hts gX5_requests_X5_isFree rfl rfl rfl (by decide +kernel) ⟨Nat.le_of_ble_eq_true rfl, Nat.le_of_ble_eq_true rfl⟩) (pv [.int a1] hK hP hbs hS rfl (wg33 ca ad w)) rfl rfl hl.1 rfl (lv_room (Nat.le_of_ble_eq_true rfl)) dX5_requests_23 ⟨Nat.le_of_ble_eq_true rfl, Nat.le_of_ble_eq_true rfl⟩) hS (fun q _ h => h) (fun q h => h) (fun r_34 w_33 t H locs ht hvm hw hP hz1 hk1 hS => ?_)
    have hP : PA D ca ad w_33 H := by rw [← ht]; exact hP
    refine lv_if_eq (tgt := 63) hx hb dX5_requests_26 (by decide) (fun c_35 => ?_) (fun c_35 => ?_)
    · have hw := hw.1 c_35
      exact hB63 w_33 hw _ _ hP hS ls (lv_sub hl [0, 1, 2, 4] rfl)
    · have hw := hw.2 c_35
      refine lv_aload_n hx hb dX5_requests_29 rfl (lv_at hl 0 rfl) ?_
      refine va_get (D := D) (ci := 7) (v := .ref (ad 54)) (C := RX5) (T := TX5) (N := 30) hx hb hts in_X5 hown hK hP 33 (wg33 ca ad w_33) rfl 20 (by decide) lk_71 (fun _ h9 => h9) rfl dX5_requests_30 ?_
      refine lv_iload_n hx hb dX5_requests_33 rfl (lv_at hl 2 rfl) ?_
      obtain ⟨h_36, hw⟩ := hw
      refine va_iald hx hb hK hP 54 0 (wg54 ca ad w_33) rfl h_36 dX5_requests_34 ?_
      refine lv_if_eq (tgt := 47) hx hb dX5_requests_35 (by decide) (fun c_37 => ?_) (fun c_37 => ?_)
      · have hw := hw.1 c_37
        exact hB47 w_33 hw _ _ hP hS ls (lv_sub hl [0, 1, 2, 3] rfl)
      · have hw := hw.2 c_37
        refine lv_aload_n hx hb dX5_requests_38 rfl (lv_at hl 0 rfl) ?_
        refine lv_iload_n hx hb dX5_requests_39 rfl (lv_at hl 1 rfl) ?_
        refine lv_iload_n hx hb dX5_requests_40 rfl (lv_at hl 2 rfl) ?_
        refine va_calli (va_runV (As := [.int a0, .int a1]) (rest := []) ⟨hx, hb, hml, hown, hts⟩ (mX5_placeIn l D ca ad base hAd w_33 a0 a1 _ hw) (cwV 2 hts gX5_requests_X5_placeIn rfl rfl rfl (by decide +kernel) ⟨Nat.le_of_ble_eq_true rfl, Nat.le_of_ble_eq_true rfl⟩) (pv [.int a0, .int a1] hK hP hbs hS rfl (wg33 ca ad w_33)) rfl rfl hl.1 rfl (lv_room (Nat.le_of_ble_eq_true rfl)) dX5_requests_41 ⟨Nat.le_of_ble_eq_true rfl, Nat.le_of_ble_eq_true rfl⟩) hS (fun q _ h => h) (fun q h => h) (fun r_39 w_38 t H locs ht hvm hw hP hz1 hk1 hS => ?_)
        have hP : PA D ca ad w_38 H := by rw [← ht]; exact hP
        refine lv_if_ne (tgt := 63) hx hb dX5_requests_44 (by decide) (fun c_40 => ?_) (fun c_40 => ?_)
        · have hw := hw.2 c_40
          exact hB63 w_38 hw _ _ hP hS ls (lv_sub hl [0, 1, 2, 4] rfl)
        · have hw := hw.1 c_40
          exact hB47 w_38 hw _ _ hP hS ls (lv_sub hl [0, 1, 2, 3] rfl)
  have hl := lv_entry ([.ref (ad 33), .int a0, .int a1, .int a2, .int a3]) (n := 6) (Nat.le_of_ble_eq_true rfl)
  rw [lg_entry_eq]
  generalize (lg_sl ([.ref (ad 33), .int a0, .int a1, .int a2, .int a3]) ++ List.replicate (6 - (lg_sl ([.ref (ad 33), .int a0, .int a1, .int a2, .int a3])).length) Slot.unset).toArray = ls at hl ⊢
  have hl : lv_has ls 6 [(0, .ref (ad 33)), (1, .int a0), (2, .int a1), (3, .int a2), (4, .int a3)] := hl
  refine lv_aload_n hx hb dX5_requests_0 rfl (lv_at hl 0 rfl) ?_
  refine lv_iload_n hx hb dX5_requests_1 rfl (lv_at hl 2 rfl) ?_
  refine va_calli (va_runV (As := [.int a1]) (rest := []) ⟨hx, hb, hml, hown, hts⟩ (mX5_isFree l D ca ad base hAd w a1 _ hw) (cwV 1 hts gX5_requests_X5_isFree rfl rfl rfl (by decide +kernel) ⟨Nat.le_of_ble_eq_true rfl, Nat.le_of_ble_eq_true rfl⟩) (pv [.int a1] hK hP hbs hS rfl (wg33 ca ad w)) rfl rfl hl.1 rfl (lv_room (Nat.le_of_ble_eq_true rfl)) dX5_requests_2 ⟨Nat.le_of_ble_eq_true rfl, Nat.le_of_ble_eq_true rfl⟩) hS (fun q _ h => h) (fun q h => h) (fun r_42 w_41 t H locs ht hvm hw hP hz1 hk1 hS => ?_)
  have hP : PA D ca ad w_41 H := by rw [← ht]; exact hP
  refine lv_if_ne (tgt := 21) hx hb dX5_requests_5 (by decide) (fun c_43 => ?_) (fun c_43 => ?_)
  · have hw := hw.2 c_43
    exact hB21 w_41 hw _ _ hP hS ls (lv_sub hl [0, 1, 2, 3, 4] rfl)
  · have hw := hw.1 c_43
    refine lv_aload_n hx hb dX5_requests_8 rfl (lv_at hl 0 rfl) ?_
    refine va_get (D := D) (ci := 7) (v := .ref (ad 48)) (C := RX5) (T := TX5) (N := 30) hx hb hts in_X5 hown hK hP 33 (wg33 ca ad w_41) rfl 14 (by decide) lk_53 (fun _ h9 => h9) rfl dX5_requests_9 ?_
    refine lv_iload_n hx hb dX5_requests_12 rfl (lv_at hl 2 rfl) ?_
    obtain ⟨h_44, hw⟩ := hw
    refine va_iald hx hb hK hP 48 0 (wg48 ca ad w_41) rfl h_44 dX5_requests_13 ?_
    refine lv_iload_n hx hb dX5_requests_14 rfl (lv_at hl 1 rfl) ?_
    refine lv_icmp_ne (tgt := 21) hx hb dX5_requests_15 (by decide) (fun c_45 => ?_) (fun c_45 => ?_)
    · have hw := hw.2 c_45
      exact hB21 w_41 hw _ _ hP hS ls (lv_sub hl [0, 1, 2, 3, 4] rfl)
    · have hw := hw.1 c_45
      refine lv_bipush (v := 104) hx hb dX5_requests_18 (by decide) ?_
      exact W.zret (v := 104) hx hb hr (by decide) (fun t ht hW => ⟨⟨104, w_41, rfl, hw, by show PA D ca ad w_41 t.heap; rw [ht]; exact hP⟩, hS.F ht⟩) hS.2.2 dX5_requests_20
set_option maxHeartbeats 4000000 in
set_option maxRecDepth 100000 in
def wpX5_asks_B32 (a0 : Int32) (a1 : Int32) (a2 : Int32) (a3 : Int32) (post : Int32 → St → Prop) (w : St) : Prop := ((w.1 67 0) ≤ 0 → (wpX5_looks a2 w (fun r_3 w_2 => (r_3 = 45 → (wpX5_requests a0 a1 a2 a3 w_2 (fun r_6 w_5 => (narrow .char (.int r_6) = .int r_6) ∧ post r_6 w_5))) ∧ (¬ (r_3 = 45) → ((narrow .char (.int r_3) = .int r_3) ∧ post r_3 w_2))))) ∧ (¬ ((w.1 67 0) ≤ 0) → (post 32 w))
set_option maxHeartbeats 4000000 in
set_option maxRecDepth 100000 in
def wpX5_asks (a0 : Int32) (a1 : Int32) (a2 : Int32) (a3 : Int32) (w : St) (post : Int32 → St → Prop) : Prop := wpX5_wrongAsk a0 a1 a2 w (fun r_8 w_7 => ∀ w_9 : St, w_9 = (uI w_7 67 r_8) → ((w_9.1 67 0) = 0 → (wpX5_cannotAsk a0 a2 w_9 (fun r_13 w_12 => (r_13 = 0 → (wpX5_asks_B32 a0 a1 a2 a3 post w_12)) ∧ (¬ (r_13 = 0) → (∀ w_15 : St, w_15 = (uI w_12 67 3) → wpX5_asks_B32 a0 a1 a2 a3 post w_15))))) ∧ (¬ ((w_9.1 67 0) = 0) → (wpX5_asks_B32 a0 a1 a2 a3 post w_9)))
set_option maxHeartbeats 4000000 in
set_option maxRecDepth 100000 in
theorem mX5_asks (l : Launch) (D : va_G) (ca : Nat → ClassId) (ad : Nat → Nat) (base : Nat) (hAd : okA base ad) (w : St) (a0 : Int32) (a1 : Int32) (a2 : Int32) (a3 : Int32) (post : Int32 → St → Prop) (hw : wpX5_asks a0 a1 a2 a3 w post) : Met l yX5_asks wsX5_asks ({ frames := 4, cells := 0, slots := 0, locals := 94 } : Room) (va_Pc [.ref (ad 33), .int a0, .int a1, .int a2, .int a3] (BU D ca ad base w)) (va_Qi post (Bp D ca ad) (AB base)) 0 0 (AB base) := by
  refine Met.ofW (cc := cX5_asks) (maxL := 6) (ret := (some .char)) (by decide) rfl ?_
  intro p e s m args below meth c s₁ B hml hv
  obtain ⟨rfl, hbs, hP, hK⟩ := hv
  have hx := B.exec
  have hb := B.bytes
  have hr := B.returns
  have hts := atoms_spec (ws := wsX5_asks) B.pre
  have hown : s.vm.findClass RX5 = some m.cls := findClass_of_methodNamed B.named
  have hlocks := B.notSynchronized
  have in_X5 : ∀ w ∈ wsX50, w ∈ wsX5_asks := by decide +kernel
  have lk_87 := hts (.fieldLink RX5 87 "LockQuorumModel" "thrown" "I") (by decide +kernel)
  have hS : va_S (AB base) s.heap s.heap [] := va_S.rf
  have hB32 : ∀ (w : St), wpX5_asks_B32 a0 a1 a2 a3 post w → ∀ (H : Heap) (locs : List Loc), PA D ca ad w H → va_S (AB base) s.heap H locs → ∀ ls : Array Slot, lv_has ls 6 [(0, .ref (ad 33)), (1, .int a0), (2, .int a1), (3, .int a2), (4, .int a3)] → W p l e (headSpec wsX5_asks ({ frames := 4, cells := 0, slots := 0, locals := 94 } : Room)).room s m ([Value.ref (ad 33), Value.int a0, Value.int a1, Value.int a2, Value.int a3].toArray) below meth c H locs 0 0 (MQ below (va_Qi post (Bp D ca ad) (AB base)) ([Value.ref (ad 33), Value.int a0, Value.int a1, Value.int a2, Value.int a3].toArray) s 0 0 (AB base)) (F0 m 32 ls []) := by
    intro w hw H locs hP hS ls hl
    refine lv_aload_n hx hb dX5_asks_32 rfl (lv_at hl 0 rfl) ?_
    refine va_get (D := D) (ci := 7) (v := .int (w.1 67 0)) (C := RX5) (T := TX5) (N := 30) hx hb hts in_X5 hown hK hP 33 (wg33 ca ad w) rfl 25 (by decide) lk_87 (fun _ h9 => h9) rfl dX5_asks_33 ?_
    refine lv_if_le (tgt := 42) hx hb dX5_asks_36 (by decide) (fun c_1 => ?_) (fun c_1 => ?_)
    · have hw := hw.1 c_1
      refine lv_aload_n hx hb dX5_asks_42 rfl (lv_at hl 0 rfl) ?_
      refine lv_iload_n hx hb dX5_asks_43 rfl (lv_at hl 3 rfl) ?_
      refine va_calli (va_runV (As := [.int a2]) (rest := []) ⟨hx, hb, hml, hown, hts⟩ (mX5_looks l D ca ad base hAd w a2 _ hw) (cwV 1 hts gX5_asks_X5_looks rfl rfl rfl (by decide +kernel) ⟨Nat.le_of_ble_eq_true rfl, Nat.le_of_ble_eq_true rfl⟩) (pv [.int a2] hK hP hbs hS rfl (wg33 ca ad w)) rfl rfl hl.1 rfl (lv_room (Nat.le_of_ble_eq_true rfl)) dX5_asks_44 ⟨Nat.le_of_ble_eq_true rfl, Nat.le_of_ble_eq_true rfl⟩) hS (fun q _ h => h) (fun q h => h) (fun r_3 w_2 t H locs ht hvm hw hP hz1 hk1 hS => ?_)
      have hP : PA D ca ad w_2 H := by rw [← ht]; exact hP
      refine lv_istore (lv' := [(5, .int r_3), (0, .ref (ad 33)), (1, .int a0), (2, .int a1), (3, .int a2), (4, .int a3)]) hx hb dX5_asks_47 hl (by decide) rfl (fun ls hl => ?_)
      refine lv_iload hx hb dX5_asks_49 (lv_at hl 0 rfl) ?_
      refine lv_bipush (v := 45) hx hb dX5_asks_51 (by decide) ?_
      refine lv_icmp_ne (tgt := 68) hx hb dX5_asks_53 (by decide) (fun c_4 => ?_) (fun c_4 => ?_)
      · have hw := hw.2 c_4
        refine lv_iload hx hb dX5_asks_68 (lv_at hl 0 rfl) ?_
        obtain ⟨hn9, hw⟩ := hw
        exact W.zret (v := r_3) hx hb hr hn9 (fun t ht hW => ⟨⟨r_3, w_2, rfl, hw, by show PA D ca ad w_2 t.heap; rw [ht]; exact hP⟩, hS.F ht⟩) hS.2.2 dX5_asks_70
      · have hw := hw.1 c_4
        refine lv_aload_n hx hb dX5_asks_56 rfl (lv_at hl 1 rfl) ?_
        refine lv_iload_n hx hb dX5_asks_57 rfl (lv_at hl 2 rfl) ?_
        refine lv_iload_n hx hb dX5_asks_58 rfl (lv_at hl 3 rfl) ?_
        refine lv_iload_n hx hb dX5_asks_59 rfl (lv_at hl 4 rfl) ?_
        refine lv_iload hx hb dX5_asks_60 (lv_at hl 5 rfl) ?_
        refine va_calli (va_runV (As := [.int a0, .int a1, .int a2, .int a3]) (rest := []) ⟨hx, hb, hml, hown, hts⟩ (mX5_requests l D ca ad base hAd w_2 a0 a1 a2 a3 _ hw) (cwV 4 hts gX5_asks_X5_requests rfl rfl rfl (by decide +kernel) ⟨Nat.le_of_ble_eq_true rfl, Nat.le_of_ble_eq_true rfl⟩) (pv [.int a0, .int a1, .int a2, .int a3] hK hP hbs hS rfl (wg33 ca ad w_2)) rfl rfl hl.1 rfl (lv_room (Nat.le_of_ble_eq_true rfl)) dX5_asks_62 ⟨Nat.le_of_ble_eq_true rfl, Nat.le_of_ble_eq_true rfl⟩) hS (fun q _ h => h) (fun q h => h) (fun r_6 w_5 t H locs ht hvm hw hP hz1 hk1 hS => ?_)
        have hP : PA D ca ad w_5 H := by rw [← ht]; exact hP
        refine lv_goto (tgt := 70) hx hb dX5_asks_65 (by decide) ?_
        obtain ⟨hn9, hw⟩ := hw
        exact W.zret (v := r_6) hx hb hr hn9 (fun t ht hW => ⟨⟨r_6, w_5, rfl, hw, by show PA D ca ad w_5 t.heap; rw [ht]; exact hP⟩, hS.F ht⟩) hS.2.2 dX5_asks_70
    · have hw := hw.2 c_1
      refine lv_bipush (v := 32) hx hb dX5_asks_39 (by decide) ?_
      exact W.zret (v := 32) hx hb hr (by decide) (fun t ht hW => ⟨⟨32, w, rfl, hw, by show PA D ca ad w t.heap; rw [ht]; exact hP⟩, hS.F ht⟩) hS.2.2 dX5_asks_41
  have hl := lv_entry ([.ref (ad 33), .int a0, .int a1, .int a2, .int a3]) (n := 6) (Nat.le_of_ble_eq_true rfl)
  rw [lg_entry_eq]
  generalize (lg_sl ([.ref (ad 33), .int a0, .int a1, .int a2, .int a3]) ++ List.replicate (6 - (lg_sl ([.ref (ad 33), .int a0, .int a1, .int a2, .int a3])).length) Slot.unset).toArray = ls at hl ⊢
  have hl : lv_has ls 6 [(0, .ref (ad 33)), (1, .int a0), (2, .int a1), (3, .int a2), (4, .int a3)] := hl
  refine lv_aload_n hx hb dX5_asks_0 rfl (lv_at hl 0 rfl) ?_
  refine lv_aload_n hx hb dX5_asks_1 rfl (lv_at hl 0 rfl) ?_
  refine lv_iload_n hx hb dX5_asks_2 rfl (lv_at hl 1 rfl) ?_
  refine lv_iload_n hx hb dX5_asks_3 rfl (lv_at hl 2 rfl) ?_
  refine lv_iload_n hx hb dX5_asks_4 rfl (lv_at hl 3 rfl) ?_
  refine va_calli (va_runV (As := [.int a0, .int a1, .int a2]) (rest := [.ref (ad 33)]) ⟨hx, hb, hml, hown, hts⟩ (mX5_wrongAsk l D ca ad base hAd w a0 a1 a2 _ hw) (cwV 3 hts gX5_asks_X5_wrongAsk rfl rfl rfl (by decide +kernel) ⟨Nat.le_of_ble_eq_true rfl, Nat.le_of_ble_eq_true rfl⟩) (pv [.int a0, .int a1, .int a2] hK hP hbs hS rfl (wg33 ca ad w)) rfl rfl hl.1 rfl (lv_room (Nat.le_of_ble_eq_true rfl)) dX5_asks_5 ⟨Nat.le_of_ble_eq_true rfl, Nat.le_of_ble_eq_true rfl⟩) hS (fun q _ h => h) (fun q h => h) (fun r_8 w_7 t H locs ht hvm hw hP hz1 hk1 hS => ?_)
  have hP : PA D ca ad w_7 H := by rw [← ht]; exact hP
  refine va_put (D := D) (ci := 7) (v := .int r_8) (ty := .int) (C := RX5) (T := TX5) (N := 30) hx hb hts in_X5 tyX5 tyX5_ok nmX5 hown hK hP (DA hAd) hS 33 (wg33 ca ad w_7) rfl 25 (by decide) lk_87 (fun _ h9 => h9) rfl (by decide +kernel) rfl rfl (Nat.le_of_ble_eq_true rfl) dX5_asks_8 (fun H locs hP hD hS => ?_)
  obtain ⟨w_9, e_10⟩ : ∃ z : St, z = (uI w_7 67 r_8) := ⟨_, rfl⟩
  have hP : PA D ca ad w_9 H := by rw [e_10]; exact wf67 hP
  have hw := hw w_9 e_10
  refine lv_aload_n hx hb dX5_asks_11 rfl (lv_at hl 0 rfl) ?_
  refine va_get (D := D) (ci := 7) (v := .int (w_9.1 67 0)) (C := RX5) (T := TX5) (N := 30) hx hb hts in_X5 hown hK hP 33 (wg33 ca ad w_9) rfl 25 (by decide) lk_87 (fun _ h9 => h9) rfl dX5_asks_12 ?_
  refine lv_if_ne (tgt := 32) hx hb dX5_asks_15 (by decide) (fun c_11 => ?_) (fun c_11 => ?_)
  · have hw := hw.2 c_11
    exact hB32 w_9 hw _ _ hP hS ls (lv_sub hl [0, 1, 2, 3, 4] rfl)
  · have hw := hw.1 c_11
    refine lv_aload_n hx hb dX5_asks_18 rfl (lv_at hl 0 rfl) ?_
    refine lv_iload_n hx hb dX5_asks_19 rfl (lv_at hl 1 rfl) ?_
    refine lv_iload_n hx hb dX5_asks_20 rfl (lv_at hl 3 rfl) ?_
    refine va_calli (va_runV (As := [.int a0, .int a2]) (rest := []) ⟨hx, hb, hml, hown, hts⟩ (mX5_cannotAsk l D ca ad base hAd w_9 a0 a2 _ hw) (cwV 2 hts gX5_asks_X5_cannotAsk rfl rfl rfl (by decide +kernel) ⟨Nat.le_of_ble_eq_true rfl, Nat.le_of_ble_eq_true rfl⟩) (pv [.int a0, .int a2] hK hP hbs hS rfl (wg33 ca ad w_9)) rfl rfl hl.1 rfl (lv_room (Nat.le_of_ble_eq_true rfl)) dX5_asks_21 ⟨Nat.le_of_ble_eq_true rfl, Nat.le_of_ble_eq_true rfl⟩) hS (fun q _ h => h) (fun q h => h) (fun r_13 w_12 t H locs ht hvm hw hP hz1 hk1 hS => ?_)
    have hP : PA D ca ad w_12 H := by rw [← ht]; exact hP
    refine lv_if_eq (tgt := 32) hx hb dX5_asks_24 (by decide) (fun c_14 => ?_) (fun c_14 => ?_)
    · have hw := hw.1 c_14
      exact hB32 w_12 hw _ _ hP hS ls (lv_sub hl [0, 1, 2, 3, 4] rfl)
    · have hw := hw.2 c_14
      refine lv_aload_n hx hb dX5_asks_27 rfl (lv_at hl 0 rfl) ?_
      refine lv_iconst (v := 3) hx hb dX5_asks_28 (by decide) ?_
      refine va_put (D := D) (ci := 7) (v := .int 3) (ty := .int) (C := RX5) (T := TX5) (N := 30) hx hb hts in_X5 tyX5 tyX5_ok nmX5 hown hK hP (DA hAd) hS 33 (wg33 ca ad w_12) rfl 25 (by decide) lk_87 (fun _ h9 => h9) rfl (by decide +kernel) rfl rfl (Nat.le_of_ble_eq_true rfl) dX5_asks_29 (fun H locs hP hD hS => ?_)
      obtain ⟨w_15, e_16⟩ : ∃ z : St, z = (uI w_12 67 3) := ⟨_, rfl⟩
      have hP : PA D ca ad w_15 H := by rw [e_16]; exact wf67 hP
      have hw := hw w_15 e_16
      exact hB32 w_15 hw _ _ hP hS ls (lv_sub hl [0, 1, 2, 3, 4] rfl)
set_option maxHeartbeats 4000000 in
set_option maxRecDepth 100000 in
def wpX5_request (a0 : Int32) (a1 : Int32) (a2 : Int32) (w : St) (post : Int32 → St → Prop) : Prop := wpX5_asks a0 a1 a2 0 w (fun r_2 w_1 => (narrow .char (.int r_2) = .int r_2) ∧ post r_2 w_1)
set_option maxHeartbeats 4000000 in
set_option maxRecDepth 100000 in
theorem mX5_request (l : Launch) (D : va_G) (ca : Nat → ClassId) (ad : Nat → Nat) (base : Nat) (hAd : okA base ad) (w : St) (a0 : Int32) (a1 : Int32) (a2 : Int32) (post : Int32 → St → Prop) (hw : wpX5_request a0 a1 a2 w post) : Met l yX5_request wsX5_request ({ frames := 5, cells := 0, slots := 0, locals := 119 } : Room) (va_Pc [.ref (ad 33), .int a0, .int a1, .int a2] (BU D ca ad base w)) (va_Qi post (Bp D ca ad) (AB base)) 0 0 (AB base) := by
  refine Met.ofW (cc := cX5_request) (maxL := 4) (ret := (some .char)) (by decide) rfl ?_
  intro p e s m args below meth c s₁ B hml hv
  obtain ⟨rfl, hbs, hP, hK⟩ := hv
  have hx := B.exec
  have hb := B.bytes
  have hr := B.returns
  have hts := atoms_spec (ws := wsX5_request) B.pre
  have hown : s.vm.findClass RX5 = some m.cls := findClass_of_methodNamed B.named
  have hlocks := B.notSynchronized
  have hS : va_S (AB base) s.heap s.heap [] := va_S.rf
  have hl := lv_entry ([.ref (ad 33), .int a0, .int a1, .int a2]) (n := 4) (Nat.le_of_ble_eq_true rfl)
  rw [lg_entry_eq]
  generalize (lg_sl ([.ref (ad 33), .int a0, .int a1, .int a2]) ++ List.replicate (4 - (lg_sl ([.ref (ad 33), .int a0, .int a1, .int a2])).length) Slot.unset).toArray = ls at hl ⊢
  have hl : lv_has ls 4 [(0, .ref (ad 33)), (1, .int a0), (2, .int a1), (3, .int a2)] := hl
  refine lv_aload_n hx hb dX5_request_0 rfl (lv_at hl 0 rfl) ?_
  refine lv_iload_n hx hb dX5_request_1 rfl (lv_at hl 1 rfl) ?_
  refine lv_iload_n hx hb dX5_request_2 rfl (lv_at hl 2 rfl) ?_
  refine lv_iload_n hx hb dX5_request_3 rfl (lv_at hl 3 rfl) ?_
  refine lv_iconst (v := 0) hx hb dX5_request_4 (by decide) ?_
  refine va_calli (va_runV (As := [.int a0, .int a1, .int a2, .int 0]) (rest := []) ⟨hx, hb, hml, hown, hts⟩ (mX5_asks l D ca ad base hAd w a0 a1 a2 0 _ hw) (cwV 4 hts gX5_request_X5_asks rfl rfl rfl (by decide +kernel) ⟨Nat.le_of_ble_eq_true rfl, Nat.le_of_ble_eq_true rfl⟩) (pv [.int a0, .int a1, .int a2, .int 0] hK hP hbs hS rfl (wg33 ca ad w)) rfl rfl hl.1 rfl (lv_room (Nat.le_of_ble_eq_true rfl)) dX5_request_5 ⟨Nat.le_of_ble_eq_true rfl, Nat.le_of_ble_eq_true rfl⟩) hS (fun q _ h => h) (fun q h => h) (fun r_2 w_1 t H locs ht hvm hw hP hz1 hk1 hS => ?_)
  have hP : PA D ca ad w_1 H := by rw [← ht]; exact hP
  obtain ⟨hn9, hw⟩ := hw
  exact W.zret (v := r_2) hx hb hr hn9 (fun t ht hW => ⟨⟨r_2, w_1, rfl, hw, by show PA D ca ad w_1 t.heap; rw [ht]; exact hP⟩, hS.F ht⟩) hS.2.2 dX5_request_8
set_option maxHeartbeats 4000000 in
set_option maxRecDepth 100000 in
def wpX5_steal (a0 : Int32) (a1 : Int32) (a2 : Int32) (w : St) (post : Int32 → St → Prop) : Prop := wpX5_asks a0 a1 a2 1 w (fun r_2 w_1 => (narrow .char (.int r_2) = .int r_2) ∧ post r_2 w_1)
set_option maxHeartbeats 4000000 in
set_option maxRecDepth 100000 in
theorem mX5_steal (l : Launch) (D : va_G) (ca : Nat → ClassId) (ad : Nat → Nat) (base : Nat) (hAd : okA base ad) (w : St) (a0 : Int32) (a1 : Int32) (a2 : Int32) (post : Int32 → St → Prop) (hw : wpX5_steal a0 a1 a2 w post) : Met l yX5_steal wsX5_steal ({ frames := 5, cells := 0, slots := 0, locals := 119 } : Room) (va_Pc [.ref (ad 33), .int a0, .int a1, .int a2] (BU D ca ad base w)) (va_Qi post (Bp D ca ad) (AB base)) 0 0 (AB base) := by
  refine Met.ofW (cc := cX5_steal) (maxL := 4) (ret := (some .char)) (by decide) rfl ?_
  intro p e s m args below meth c s₁ B hml hv
  obtain ⟨rfl, hbs, hP, hK⟩ := hv
  have hx := B.exec
  have hb := B.bytes
  have hr := B.returns
  have hts := atoms_spec (ws := wsX5_steal) B.pre
  have hown : s.vm.findClass RX5 = some m.cls := findClass_of_methodNamed B.named
  have hlocks := B.notSynchronized
  have hS : va_S (AB base) s.heap s.heap [] := va_S.rf
  have hl := lv_entry ([.ref (ad 33), .int a0, .int a1, .int a2]) (n := 4) (Nat.le_of_ble_eq_true rfl)
  rw [lg_entry_eq]
  generalize (lg_sl ([.ref (ad 33), .int a0, .int a1, .int a2]) ++ List.replicate (4 - (lg_sl ([.ref (ad 33), .int a0, .int a1, .int a2])).length) Slot.unset).toArray = ls at hl ⊢
  have hl : lv_has ls 4 [(0, .ref (ad 33)), (1, .int a0), (2, .int a1), (3, .int a2)] := hl
  refine lv_aload_n hx hb dX5_steal_0 rfl (lv_at hl 0 rfl) ?_
  refine lv_iload_n hx hb dX5_steal_1 rfl (lv_at hl 1 rfl) ?_
  refine lv_iload_n hx hb dX5_steal_2 rfl (lv_at hl 2 rfl) ?_
  refine lv_iload_n hx hb dX5_steal_3 rfl (lv_at hl 3 rfl) ?_
  refine lv_iconst (v := 1) hx hb dX5_steal_4 (by decide) ?_
  refine va_calli (va_runV (As := [.int a0, .int a1, .int a2, .int 1]) (rest := []) ⟨hx, hb, hml, hown, hts⟩ (mX5_asks l D ca ad base hAd w a0 a1 a2 1 _ hw) (cwV 4 hts gX5_steal_X5_asks rfl rfl rfl (by decide +kernel) ⟨Nat.le_of_ble_eq_true rfl, Nat.le_of_ble_eq_true rfl⟩) (pv [.int a0, .int a1, .int a2, .int 1] hK hP hbs hS rfl (wg33 ca ad w)) rfl rfl hl.1 rfl (lv_room (Nat.le_of_ble_eq_true rfl)) dX5_steal_5 ⟨Nat.le_of_ble_eq_true rfl, Nat.le_of_ble_eq_true rfl⟩) hS (fun q _ h => h) (fun q h => h) (fun r_2 w_1 t H locs ht hvm hw hP hz1 hk1 hS => ?_)
  have hP : PA D ca ad w_1 H := by rw [← ht]; exact hP
  obtain ⟨hn9, hw⟩ := hw
  exact W.zret (v := r_2) hx hb hr hn9 (fun t ht hW => ⟨⟨r_2, w_1, rfl, hw, by show PA D ca ad w_1 t.heap; rw [ht]; exact hP⟩, hS.F ht⟩) hS.2.2 dX5_steal_8
set_option maxHeartbeats 4000000 in
set_option maxRecDepth 100000 in
def wpX5_owns (a0 : Int32) (a1 : Int32) (w : St) (post : Int32 → St → Prop) : Prop := wpX5_isFree a1 w (fun r_2 w_1 => (r_2 = 0 → ((vp_in a1 4) ∧ (((w_1.1 48 (a1).toNatClampNeg) = a0 → (post 1 w_1)) ∧ (¬ ((w_1.1 48 (a1).toNatClampNeg) = a0) → (post 0 w_1))))) ∧ (¬ (r_2 = 0) → (post 0 w_1)))
set_option maxHeartbeats 4000000 in
set_option maxRecDepth 100000 in
theorem mX5_owns (l : Launch) (D : va_G) (ca : Nat → ClassId) (ad : Nat → Nat) (base : Nat) (hAd : okA base ad) (w : St) (a0 : Int32) (a1 : Int32) (post : Int32 → St → Prop) (hw : wpX5_owns a0 a1 w post) : Met l yX5_owns wsX5_owns ({ frames := 1, cells := 0, slots := 0, locals := 21 } : Room) (va_Pc [.ref (ad 33), .int a0, .int a1] (BU D ca ad base w)) (va_Qi post (Bp D ca ad) (AB base)) 0 0 (AB base) := by
  refine Met.ofW (cc := cX5_owns) (maxL := 3) (ret := (some .boolean)) (by decide) rfl ?_
  intro p e s m args below meth c s₁ B hml hv
  obtain ⟨rfl, hbs, hP, hK⟩ := hv
  have hx := B.exec
  have hb := B.bytes
  have hr := B.returns
  have hts := atoms_spec (ws := wsX5_owns) B.pre
  have hown : s.vm.findClass RX5 = some m.cls := findClass_of_methodNamed B.named
  have hlocks := B.notSynchronized
  have in_X5 : ∀ w ∈ wsX50, w ∈ wsX5_owns := by decide +kernel
  have lk_53 := hts (.fieldLink RX5 53 "LockQuorumModel" "owners" "[I") (by decide +kernel)
  have hS : va_S (AB base) s.heap s.heap [] := va_S.rf
  have hl := lv_entry ([.ref (ad 33), .int a0, .int a1]) (n := 3) (Nat.le_of_ble_eq_true rfl)
  rw [lg_entry_eq]
  generalize (lg_sl ([.ref (ad 33), .int a0, .int a1]) ++ List.replicate (3 - (lg_sl ([.ref (ad 33), .int a0, .int a1])).length) Slot.unset).toArray = ls at hl ⊢
  have hl : lv_has ls 3 [(0, .ref (ad 33)), (1, .int a0), (2, .int a1)] := hl
  refine lv_aload_n hx hb dX5_owns_0 rfl (lv_at hl 0 rfl) ?_
  refine lv_iload_n hx hb dX5_owns_1 rfl (lv_at hl 2 rfl) ?_
  refine va_calli (va_runV (As := [.int a1]) (rest := []) ⟨hx, hb, hml, hown, hts⟩ (mX5_isFree l D ca ad base hAd w a1 _ hw) (cwV 1 hts gX5_owns_X5_isFree rfl rfl rfl (by decide +kernel) ⟨Nat.le_of_ble_eq_true rfl, Nat.le_of_ble_eq_true rfl⟩) (pv [.int a1] hK hP hbs hS rfl (wg33 ca ad w)) rfl rfl hl.1 rfl (lv_room (Nat.le_of_ble_eq_true rfl)) dX5_owns_2 ⟨Nat.le_of_ble_eq_true rfl, Nat.le_of_ble_eq_true rfl⟩) hS (fun q _ h => h) (fun q h => h) (fun r_2 w_1 t H locs ht hvm hw hP hz1 hk1 hS => ?_)
  have hP : PA D ca ad w_1 H := by rw [← ht]; exact hP
  refine lv_if_ne (tgt := 22) hx hb dX5_owns_5 (by decide) (fun c_3 => ?_) (fun c_3 => ?_)
  · have hw := hw.2 c_3
    refine lv_iconst (v := 0) hx hb dX5_owns_22 (by decide) ?_
    exact W.zret (v := 0) hx hb hr (by decide) (fun t ht hW => ⟨⟨0, w_1, rfl, hw, by show PA D ca ad w_1 t.heap; rw [ht]; exact hP⟩, hS.F ht⟩) hS.2.2 dX5_owns_23
  · have hw := hw.1 c_3
    refine lv_aload_n hx hb dX5_owns_8 rfl (lv_at hl 0 rfl) ?_
    refine va_get (D := D) (ci := 7) (v := .ref (ad 48)) (C := RX5) (T := TX5) (N := 30) hx hb hts in_X5 hown hK hP 33 (wg33 ca ad w_1) rfl 14 (by decide) lk_53 (fun _ h9 => h9) rfl dX5_owns_9 ?_
    refine lv_iload_n hx hb dX5_owns_12 rfl (lv_at hl 2 rfl) ?_
    obtain ⟨h_4, hw⟩ := hw
    refine va_iald hx hb hK hP 48 0 (wg48 ca ad w_1) rfl h_4 dX5_owns_13 ?_
    refine lv_iload_n hx hb dX5_owns_14 rfl (lv_at hl 1 rfl) ?_
    refine lv_icmp_ne (tgt := 22) hx hb dX5_owns_15 (by decide) (fun c_5 => ?_) (fun c_5 => ?_)
    · have hw := hw.2 c_5
      refine lv_iconst (v := 0) hx hb dX5_owns_22 (by decide) ?_
      exact W.zret (v := 0) hx hb hr (by decide) (fun t ht hW => ⟨⟨0, w_1, rfl, hw, by show PA D ca ad w_1 t.heap; rw [ht]; exact hP⟩, hS.F ht⟩) hS.2.2 dX5_owns_23
    · have hw := hw.1 c_5
      refine lv_iconst (v := 1) hx hb dX5_owns_18 (by decide) ?_
      refine lv_goto (tgt := 23) hx hb dX5_owns_19 (by decide) ?_
      exact W.zret (v := 1) hx hb hr (by decide) (fun t ht hW => ⟨⟨1, w_1, rfl, hw, by show PA D ca ad w_1 t.heap; rw [ht]; exact hP⟩, hS.F ht⟩) hS.2.2 dX5_owns_23
set_option maxHeartbeats 4000000 in
set_option maxRecDepth 100000 in
def wpX5_renew_B32 (a0 : Int32) (a1 : Int32) (a2 : Int32) (post : Int32 → St → Prop) (w : St) : Prop := ((w.1 67 0) ≤ 0 → (wpX5_looks a2 w (fun r_3 w_2 => (r_3 = 45 → (wpX5_owns a0 a1 w_2 (fun r_6 w_5 => (r_6 = 0 → (post 111 w_5)) ∧ (¬ (r_6 = 0) → ((vp_in a1 4) ∧ (((w_5.1 51 (a1).toNatClampNeg) < 0 → ((vp_in a1 4) ∧ (∀ w_11 : St, w_11 = (uA w_5 49 (upd (w_5.1 49) (a1).toNatClampNeg ((w_5.1 68 0) + 12))) → wpX5_notesClaim a0 a1 w_11 (fun w_13 => wpX5_enters 114 a0 a1 a2 w_13 (fun r_15 w_14 => (narrow .char (.int r_15) = .int r_15) ∧ post r_15 w_14))))) ∧ (¬ ((w_5.1 51 (a1).toNatClampNeg) < 0) → (post 115 w_5)))))))) ∧ (¬ (r_3 = 45) → ((narrow .char (.int r_3) = .int r_3) ∧ post r_3 w_2))))) ∧ (¬ ((w.1 67 0) ≤ 0) → (post 32 w))
set_option maxHeartbeats 4000000 in
set_option maxRecDepth 100000 in
def wpX5_renew (a0 : Int32) (a1 : Int32) (a2 : Int32) (w : St) (post : Int32 → St → Prop) : Prop := wpX5_wrongAsk a0 a1 a2 w (fun r_17 w_16 => ∀ w_18 : St, w_18 = (uI w_16 67 r_17) → ((w_18.1 67 0) = 0 → (wpX5_cannotAsk a0 a2 w_18 (fun r_22 w_21 => (r_22 = 0 → (wpX5_renew_B32 a0 a1 a2 post w_21)) ∧ (¬ (r_22 = 0) → (∀ w_24 : St, w_24 = (uI w_21 67 3) → wpX5_renew_B32 a0 a1 a2 post w_24))))) ∧ (¬ ((w_18.1 67 0) = 0) → (wpX5_renew_B32 a0 a1 a2 post w_18)))
set_option maxHeartbeats 4000000 in
set_option maxRecDepth 100000 in
theorem mX5_renew (l : Launch) (D : va_G) (ca : Nat → ClassId) (ad : Nat → Nat) (base : Nat) (hAd : okA base ad) (w : St) (a0 : Int32) (a1 : Int32) (a2 : Int32) (post : Int32 → St → Prop) (hw : wpX5_renew a0 a1 a2 w post) : Met l yX5_renew wsX5_renew ({ frames := 3, cells := 0, slots := 0, locals := 68 } : Room) (va_Pc [.ref (ad 33), .int a0, .int a1, .int a2] (BU D ca ad base w)) (va_Qi post (Bp D ca ad) (AB base)) 0 0 (AB base) := by
  refine Met.ofW (cc := cX5_renew) (maxL := 5) (ret := (some .char)) (by decide) rfl ?_
  intro p e s m args below meth c s₁ B hml hv
  obtain ⟨rfl, hbs, hP, hK⟩ := hv
  have hx := B.exec
  have hb := B.bytes
  have hr := B.returns
  have hts := atoms_spec (ws := wsX5_renew) B.pre
  have hown : s.vm.findClass RX5 = some m.cls := findClass_of_methodNamed B.named
  have hlocks := B.notSynchronized
  have in_X5 : ∀ w ∈ wsX50, w ∈ wsX5_renew := by decide +kernel
  have lk_56 := hts (.fieldLink RX5 56 "LockQuorumModel" "ends" "[I") (by decide +kernel)
  have lk_62 := hts (.fieldLink RX5 62 "LockQuorumModel" "thieves" "[I") (by decide +kernel)
  have lk_87 := hts (.fieldLink RX5 87 "LockQuorumModel" "thrown" "I") (by decide +kernel)
  have lk_91 := hts (.fieldLink RX5 91 "LockQuorumModel" "time" "I") (by decide +kernel)
  have hS : va_S (AB base) s.heap s.heap [] := va_S.rf
  have hB32 : ∀ (w : St), wpX5_renew_B32 a0 a1 a2 post w → ∀ (H : Heap) (locs : List Loc), PA D ca ad w H → va_S (AB base) s.heap H locs → ∀ ls : Array Slot, lv_has ls 5 [(0, .ref (ad 33)), (1, .int a0), (2, .int a1), (3, .int a2)] → W p l e (headSpec wsX5_renew ({ frames := 3, cells := 0, slots := 0, locals := 68 } : Room)).room s m ([Value.ref (ad 33), Value.int a0, Value.int a1, Value.int a2].toArray) below meth c H locs 0 0 (MQ below (va_Qi post (Bp D ca ad) (AB base)) ([Value.ref (ad 33), Value.int a0, Value.int a1, Value.int a2].toArray) s 0 0 (AB base)) (F0 m 32 ls []) := by
    intro w hw H locs hP hS ls hl
    refine lv_aload_n hx hb dX5_renew_32 rfl (lv_at hl 0 rfl) ?_
    refine va_get (D := D) (ci := 7) (v := .int (w.1 67 0)) (C := RX5) (T := TX5) (N := 30) hx hb hts in_X5 hown hK hP 33 (wg33 ca ad w) rfl 25 (by decide) lk_87 (fun _ h9 => h9) rfl dX5_renew_33 ?_
    refine lv_if_le (tgt := 42) hx hb dX5_renew_36 (by decide) (fun c_1 => ?_) (fun c_1 => ?_)
    · have hw := hw.1 c_1
      refine lv_aload_n hx hb dX5_renew_42 rfl (lv_at hl 0 rfl) ?_
      refine lv_iload_n hx hb dX5_renew_43 rfl (lv_at hl 3 rfl) ?_
      refine va_calli (va_runV (As := [.int a2]) (rest := []) ⟨hx, hb, hml, hown, hts⟩ (mX5_looks l D ca ad base hAd w a2 _ hw) (cwV 1 hts gX5_renew_X5_looks rfl rfl rfl (by decide +kernel) ⟨Nat.le_of_ble_eq_true rfl, Nat.le_of_ble_eq_true rfl⟩) (pv [.int a2] hK hP hbs hS rfl (wg33 ca ad w)) rfl rfl hl.1 rfl (lv_room (Nat.le_of_ble_eq_true rfl)) dX5_renew_44 ⟨Nat.le_of_ble_eq_true rfl, Nat.le_of_ble_eq_true rfl⟩) hS (fun q _ h => h) (fun q h => h) (fun r_3 w_2 t H locs ht hvm hw hP hz1 hk1 hS => ?_)
      have hP : PA D ca ad w_2 H := by rw [← ht]; exact hP
      refine lv_istore (lv' := [(4, .int r_3), (0, .ref (ad 33)), (1, .int a0), (2, .int a1), (3, .int a2)]) hx hb dX5_renew_47 hl (by decide) rfl (fun ls hl => ?_)
      refine lv_iload hx hb dX5_renew_49 (lv_at hl 0 rfl) ?_
      refine lv_bipush (v := 45) hx hb dX5_renew_51 (by decide) ?_
      refine lv_icmp_eq (tgt := 59) hx hb dX5_renew_53 (by decide) (fun c_4 => ?_) (fun c_4 => ?_)
      · have hw := hw.1 c_4
        refine lv_aload_n hx hb dX5_renew_59 rfl (lv_at hl 1 rfl) ?_
        refine lv_iload_n hx hb dX5_renew_60 rfl (lv_at hl 2 rfl) ?_
        refine lv_iload_n hx hb dX5_renew_61 rfl (lv_at hl 3 rfl) ?_
        refine va_calli (va_runV (As := [.int a0, .int a1]) (rest := []) ⟨hx, hb, hml, hown, hts⟩ (mX5_owns l D ca ad base hAd w_2 a0 a1 _ hw) (cwV 2 hts gX5_renew_X5_owns rfl rfl rfl (by decide +kernel) ⟨Nat.le_of_ble_eq_true rfl, Nat.le_of_ble_eq_true rfl⟩) (pv [.int a0, .int a1] hK hP hbs hS rfl (wg33 ca ad w_2)) rfl rfl hl.1 rfl (lv_room (Nat.le_of_ble_eq_true rfl)) dX5_renew_62 ⟨Nat.le_of_ble_eq_true rfl, Nat.le_of_ble_eq_true rfl⟩) hS (fun q _ h => h) (fun q h => h) (fun r_6 w_5 t H locs ht hvm hw hP hz1 hk1 hS => ?_)
        have hP : PA D ca ad w_5 H := by rw [← ht]; exact hP
        refine lv_if_ne (tgt := 71) hx hb dX5_renew_65 (by decide) (fun c_7 => ?_) (fun c_7 => ?_)
        · have hw := hw.2 c_7
          refine lv_aload_n hx hb dX5_renew_71 rfl (lv_at hl 1 rfl) ?_
          refine va_get (D := D) (ci := 7) (v := .ref (ad 51)) (C := RX5) (T := TX5) (N := 30) hx hb hts in_X5 hown hK hP 33 (wg33 ca ad w_5) rfl 17 (by decide) lk_62 (fun _ h9 => h9) rfl dX5_renew_72 ?_
          refine lv_iload_n hx hb dX5_renew_75 rfl (lv_at hl 3 rfl) ?_
          obtain ⟨h_8, hw⟩ := hw
          refine va_iald hx hb hK hP 51 0 (wg51 ca ad w_5) rfl h_8 dX5_renew_76 ?_
          refine lv_if_lt (tgt := 83) hx hb dX5_renew_77 (by decide) (fun c_9 => ?_) (fun c_9 => ?_)
          · have hw := hw.1 c_9
            refine lv_aload_n hx hb dX5_renew_83 rfl (lv_at hl 1 rfl) ?_
            refine va_get (D := D) (ci := 7) (v := .ref (ad 49)) (C := RX5) (T := TX5) (N := 30) hx hb hts in_X5 hown hK hP 33 (wg33 ca ad w_5) rfl 15 (by decide) lk_56 (fun _ h9 => h9) rfl dX5_renew_84 ?_
            refine lv_iload_n hx hb dX5_renew_87 rfl (lv_at hl 3 rfl) ?_
            refine lv_aload_n hx hb dX5_renew_88 rfl (lv_at hl 1 rfl) ?_
            refine va_get (D := D) (ci := 7) (v := .int (w_5.1 68 0)) (C := RX5) (T := TX5) (N := 30) hx hb hts in_X5 hown hK hP 33 (wg33 ca ad w_5) rfl 26 (by decide) lk_91 (fun _ h9 => h9) rfl dX5_renew_89 ?_
            refine lv_bipush (v := 12) hx hb dX5_renew_92 (by decide) ?_
            refine lv_iadd hx hb dX5_renew_94 ?_
            obtain ⟨h_10, hw⟩ := hw
            refine va_iast hx hb hK hP (DA hAd) hS 49 0 (wg49 ca ad w_5) rfl h_10 dX5_renew_95 (fun H locs hP hD hS => ?_)
            obtain ⟨w_11, e_12⟩ : ∃ z : St, z = (uA w_5 49 (upd (w_5.1 49) (a1).toNatClampNeg ((w_5.1 68 0) + 12))) := ⟨_, rfl⟩
            have hP : PA D ca ad w_11 H := by rw [e_12]; exact wu49 hP
            have hw := hw w_11 e_12
            refine lv_aload_n hx hb dX5_renew_96 rfl (lv_at hl 1 rfl) ?_
            refine lv_iload_n hx hb dX5_renew_97 rfl (lv_at hl 2 rfl) ?_
            refine lv_iload_n hx hb dX5_renew_98 rfl (lv_at hl 3 rfl) ?_
            refine va_callv (va_runV (As := [.int a0, .int a1]) (rest := []) ⟨hx, hb, hml, hown, hts⟩ (mX5_notesClaim l D ca ad base hAd w_11 a0 a1 _ hw) (cwV 2 hts gX5_renew_X5_notesClaim rfl rfl rfl (by decide +kernel) ⟨Nat.le_of_ble_eq_true rfl, Nat.le_of_ble_eq_true rfl⟩) (pv [.int a0, .int a1] hK hP hbs hS rfl (wg33 ca ad w_11)) rfl rfl hl.1 rfl (lv_room (Nat.le_of_ble_eq_true rfl)) dX5_renew_99 ⟨Nat.le_of_ble_eq_true rfl, Nat.le_of_ble_eq_true rfl⟩) hS (fun q _ h => h) (fun q h => h) (fun w_13 t H locs ht hvm hw hP hz1 hk1 hS => ?_)
            have hP : PA D ca ad w_13 H := by rw [← ht]; exact hP
            refine lv_aload_n hx hb dX5_renew_102 rfl (lv_at hl 1 rfl) ?_
            refine lv_bipush (v := 114) hx hb dX5_renew_103 (by decide) ?_
            refine lv_iload_n hx hb dX5_renew_105 rfl (lv_at hl 2 rfl) ?_
            refine lv_iload_n hx hb dX5_renew_106 rfl (lv_at hl 3 rfl) ?_
            refine lv_iload_n hx hb dX5_renew_107 rfl (lv_at hl 4 rfl) ?_
            refine va_calli (va_runV (As := [.int 114, .int a0, .int a1, .int a2]) (rest := []) ⟨hx, hb, hml, hown, hts⟩ (mX5_enters l D ca ad base hAd w_13 114 a0 a1 a2 _ hw) (cwV 4 hts gX5_renew_X5_enters rfl rfl rfl (by decide +kernel) ⟨Nat.le_of_ble_eq_true rfl, Nat.le_of_ble_eq_true rfl⟩) (pv [.int 114, .int a0, .int a1, .int a2] hK hP hbs hS rfl (wg33 ca ad w_13)) rfl rfl hl.1 rfl (lv_room (Nat.le_of_ble_eq_true rfl)) dX5_renew_108 ⟨Nat.le_of_ble_eq_true rfl, Nat.le_of_ble_eq_true rfl⟩) hS (fun q _ h => h) (fun q h => h) (fun r_15 w_14 t H locs ht hvm hw hP hz1 hk1 hS => ?_)
            have hP : PA D ca ad w_14 H := by rw [← ht]; exact hP
            obtain ⟨hn9, hw⟩ := hw
            exact W.zret (v := r_15) hx hb hr hn9 (fun t ht hW => ⟨⟨r_15, w_14, rfl, hw, by show PA D ca ad w_14 t.heap; rw [ht]; exact hP⟩, hS.F ht⟩) hS.2.2 dX5_renew_111
          · have hw := hw.2 c_9
            refine lv_bipush (v := 115) hx hb dX5_renew_80 (by decide) ?_
            exact W.zret (v := 115) hx hb hr (by decide) (fun t ht hW => ⟨⟨115, w_5, rfl, hw, by show PA D ca ad w_5 t.heap; rw [ht]; exact hP⟩, hS.F ht⟩) hS.2.2 dX5_renew_82
        · have hw := hw.1 c_7
          refine lv_bipush (v := 111) hx hb dX5_renew_68 (by decide) ?_
          exact W.zret (v := 111) hx hb hr (by decide) (fun t ht hW => ⟨⟨111, w_5, rfl, hw, by show PA D ca ad w_5 t.heap; rw [ht]; exact hP⟩, hS.F ht⟩) hS.2.2 dX5_renew_70
      · have hw := hw.2 c_4
        refine lv_iload hx hb dX5_renew_56 (lv_at hl 0 rfl) ?_
        obtain ⟨hn9, hw⟩ := hw
        exact W.zret (v := r_3) hx hb hr hn9 (fun t ht hW => ⟨⟨r_3, w_2, rfl, hw, by show PA D ca ad w_2 t.heap; rw [ht]; exact hP⟩, hS.F ht⟩) hS.2.2 dX5_renew_58
    · have hw := hw.2 c_1
      refine lv_bipush (v := 32) hx hb dX5_renew_39 (by decide) ?_
      exact W.zret (v := 32) hx hb hr (by decide) (fun t ht hW => ⟨⟨32, w, rfl, hw, by show PA D ca ad w t.heap; rw [ht]; exact hP⟩, hS.F ht⟩) hS.2.2 dX5_renew_41
  have hl := lv_entry ([.ref (ad 33), .int a0, .int a1, .int a2]) (n := 5) (Nat.le_of_ble_eq_true rfl)
  rw [lg_entry_eq]
  generalize (lg_sl ([.ref (ad 33), .int a0, .int a1, .int a2]) ++ List.replicate (5 - (lg_sl ([.ref (ad 33), .int a0, .int a1, .int a2])).length) Slot.unset).toArray = ls at hl ⊢
  have hl : lv_has ls 5 [(0, .ref (ad 33)), (1, .int a0), (2, .int a1), (3, .int a2)] := hl
  refine lv_aload_n hx hb dX5_renew_0 rfl (lv_at hl 0 rfl) ?_
  refine lv_aload_n hx hb dX5_renew_1 rfl (lv_at hl 0 rfl) ?_
  refine lv_iload_n hx hb dX5_renew_2 rfl (lv_at hl 1 rfl) ?_
  refine lv_iload_n hx hb dX5_renew_3 rfl (lv_at hl 2 rfl) ?_
  refine lv_iload_n hx hb dX5_renew_4 rfl (lv_at hl 3 rfl) ?_
  refine va_calli (va_runV (As := [.int a0, .int a1, .int a2]) (rest := [.ref (ad 33)]) ⟨hx, hb, hml, hown, hts⟩ (mX5_wrongAsk l D ca ad base hAd w a0 a1 a2 _ hw) (cwV 3 hts gX5_renew_X5_wrongAsk rfl rfl rfl (by decide +kernel) ⟨Nat.le_of_ble_eq_true rfl, Nat.le_of_ble_eq_true rfl⟩) (pv [.int a0, .int a1, .int a2] hK hP hbs hS rfl (wg33 ca ad w)) rfl rfl hl.1 rfl (lv_room (Nat.le_of_ble_eq_true rfl)) dX5_renew_5 ⟨Nat.le_of_ble_eq_true rfl, Nat.le_of_ble_eq_true rfl⟩) hS (fun q _ h => h) (fun q h => h) (fun r_17 w_16 t H locs ht hvm hw hP hz1 hk1 hS => ?_)
  have hP : PA D ca ad w_16 H := by rw [← ht]; exact hP
  refine va_put (D := D) (ci := 7) (v := .int r_17) (ty := .int) (C := RX5) (T := TX5) (N := 30) hx hb hts in_X5 tyX5 tyX5_ok nmX5 hown hK hP (DA hAd) hS 33 (wg33 ca ad w_16) rfl 25 (by decide) lk_87 (fun _ h9 => h9) rfl (by decide +kernel) rfl rfl (Nat.le_of_ble_eq_true rfl) dX5_renew_8 (fun H locs hP hD hS => ?_)
  obtain ⟨w_18, e_19⟩ : ∃ z : St, z = (uI w_16 67 r_17) := ⟨_, rfl⟩
  have hP : PA D ca ad w_18 H := by rw [e_19]; exact wf67 hP
  have hw := hw w_18 e_19
  refine lv_aload_n hx hb dX5_renew_11 rfl (lv_at hl 0 rfl) ?_
  refine va_get (D := D) (ci := 7) (v := .int (w_18.1 67 0)) (C := RX5) (T := TX5) (N := 30) hx hb hts in_X5 hown hK hP 33 (wg33 ca ad w_18) rfl 25 (by decide) lk_87 (fun _ h9 => h9) rfl dX5_renew_12 ?_
  refine lv_if_ne (tgt := 32) hx hb dX5_renew_15 (by decide) (fun c_20 => ?_) (fun c_20 => ?_)
  · have hw := hw.2 c_20
    exact hB32 w_18 hw _ _ hP hS ls (lv_sub hl [0, 1, 2, 3] rfl)
  · have hw := hw.1 c_20
    refine lv_aload_n hx hb dX5_renew_18 rfl (lv_at hl 0 rfl) ?_
    refine lv_iload_n hx hb dX5_renew_19 rfl (lv_at hl 1 rfl) ?_
    refine lv_iload_n hx hb dX5_renew_20 rfl (lv_at hl 3 rfl) ?_
    refine va_calli (va_runV (As := [.int a0, .int a2]) (rest := []) ⟨hx, hb, hml, hown, hts⟩ (mX5_cannotAsk l D ca ad base hAd w_18 a0 a2 _ hw) (cwV 2 hts gX5_renew_X5_cannotAsk rfl rfl rfl (by decide +kernel) ⟨Nat.le_of_ble_eq_true rfl, Nat.le_of_ble_eq_true rfl⟩) (pv [.int a0, .int a2] hK hP hbs hS rfl (wg33 ca ad w_18)) rfl rfl hl.1 rfl (lv_room (Nat.le_of_ble_eq_true rfl)) dX5_renew_21 ⟨Nat.le_of_ble_eq_true rfl, Nat.le_of_ble_eq_true rfl⟩) hS (fun q _ h => h) (fun q h => h) (fun r_22 w_21 t H locs ht hvm hw hP hz1 hk1 hS => ?_)
    have hP : PA D ca ad w_21 H := by rw [← ht]; exact hP
    refine lv_if_eq (tgt := 32) hx hb dX5_renew_24 (by decide) (fun c_23 => ?_) (fun c_23 => ?_)
    · have hw := hw.1 c_23
      exact hB32 w_21 hw _ _ hP hS ls (lv_sub hl [0, 1, 2, 3] rfl)
    · have hw := hw.2 c_23
      refine lv_aload_n hx hb dX5_renew_27 rfl (lv_at hl 0 rfl) ?_
      refine lv_iconst (v := 3) hx hb dX5_renew_28 (by decide) ?_
      refine va_put (D := D) (ci := 7) (v := .int 3) (ty := .int) (C := RX5) (T := TX5) (N := 30) hx hb hts in_X5 tyX5 tyX5_ok nmX5 hown hK hP (DA hAd) hS 33 (wg33 ca ad w_21) rfl 25 (by decide) lk_87 (fun _ h9 => h9) rfl (by decide +kernel) rfl rfl (Nat.le_of_ble_eq_true rfl) dX5_renew_29 (fun H locs hP hD hS => ?_)
      obtain ⟨w_24, e_25⟩ : ∃ z : St, z = (uI w_21 67 3) := ⟨_, rfl⟩
      have hP : PA D ca ad w_24 H := by rw [e_25]; exact wf67 hP
      have hw := hw w_24 e_25
      exact hB32 w_24 hw _ _ hP hS ls (lv_sub hl [0, 1, 2, 3] rfl)
set_option maxHeartbeats 4000000 in
set_option maxRecDepth 100000 in
def wpX5_release_B32 (a0 : Int32) (a1 : Int32) (a2 : Int32) (post : Int32 → St → Prop) (w : St) : Prop := ((w.1 67 0) ≤ 0 → (wpX5_looks a2 w (fun r_3 w_2 => (r_3 = 45 → (wpX5_owns a0 a1 w_2 (fun r_6 w_5 => (r_6 = 0 → (post 111 w_5)) ∧ (¬ (r_6 = 0) → ((vp_in a1 4) ∧ (∀ w_9 : St, w_9 = (uL w_5 1 ((w_5.2.1 1) + (((w_5.1 68 0) - (w_5.1 50 (a1).toNatClampNeg))).toInt64)) → (vp_in a1 4) ∧ (∀ w_12 : St, w_12 = (uA w_9 48 (upd (w_9.1 48) (a1).toNatClampNeg (-1))) → wpX5_at a0 a1 w_12 (fun r_15 w_14 => (vp_in r_15 24) ∧ (∀ w_17 : St, w_17 = (uA w_14 37 (upd (w_14.1 37) (r_15).toNatClampNeg (vp_nar .boolean 0))) → wpX5_enters 117 a0 a1 a2 w_17 (fun r_20 w_19 => (narrow .char (.int r_20) = .int r_20) ∧ post r_20 w_19)))))))))) ∧ (¬ (r_3 = 45) → ((narrow .char (.int r_3) = .int r_3) ∧ post r_3 w_2))))) ∧ (¬ ((w.1 67 0) ≤ 0) → (post 32 w))
set_option maxHeartbeats 4000000 in
set_option maxRecDepth 100000 in
def wpX5_release (a0 : Int32) (a1 : Int32) (a2 : Int32) (w : St) (post : Int32 → St → Prop) : Prop := wpX5_wrongAsk a0 a1 a2 w (fun r_22 w_21 => ∀ w_23 : St, w_23 = (uI w_21 67 r_22) → ((w_23.1 67 0) = 0 → (wpX5_cannotAsk a0 a2 w_23 (fun r_27 w_26 => (r_27 = 0 → (wpX5_release_B32 a0 a1 a2 post w_26)) ∧ (¬ (r_27 = 0) → (∀ w_29 : St, w_29 = (uI w_26 67 3) → wpX5_release_B32 a0 a1 a2 post w_29))))) ∧ (¬ ((w_23.1 67 0) = 0) → (wpX5_release_B32 a0 a1 a2 post w_23)))
set_option maxHeartbeats 4000000 in
set_option maxRecDepth 100000 in
theorem mX5_release (l : Launch) (D : va_G) (ca : Nat → ClassId) (ad : Nat → Nat) (base : Nat) (hAd : okA base ad) (w : St) (a0 : Int32) (a1 : Int32) (a2 : Int32) (post : Int32 → St → Prop) (hw : wpX5_release a0 a1 a2 w post) : Met l yX5_release wsX5_release ({ frames := 3, cells := 0, slots := 0, locals := 68 } : Room) (va_Pc [.ref (ad 33), .int a0, .int a1, .int a2] (BU D ca ad base w)) (va_Qi post (Bp D ca ad) (AB base)) 0 0 (AB base) := by
  refine Met.ofW (cc := cX5_release) (maxL := 5) (ret := (some .char)) (by decide) rfl ?_
  intro p e s m args below meth c s₁ B hml hv
  obtain ⟨rfl, hbs, hP, hK⟩ := hv
  have hx := B.exec
  have hb := B.bytes
  have hr := B.returns
  have hts := atoms_spec (ws := wsX5_release) B.pre
  have hown : s.vm.findClass RX5 = some m.cls := findClass_of_methodNamed B.named
  have hlocks := B.notSynchronized
  have in_X5 : ∀ w ∈ wsX50, w ∈ wsX5_release := by decide +kernel
  have lk_19 := hts (.fieldLink RX5 19 "LockQuorumModel" "claim" "[Z") (by decide +kernel)
  have lk_53 := hts (.fieldLink RX5 53 "LockQuorumModel" "owners" "[I") (by decide +kernel)
  have lk_59 := hts (.fieldLink RX5 59 "LockQuorumModel" "granted" "[I") (by decide +kernel)
  have lk_87 := hts (.fieldLink RX5 87 "LockQuorumModel" "thrown" "I") (by decide +kernel)
  have lk_91 := hts (.fieldLink RX5 91 "LockQuorumModel" "time" "I") (by decide +kernel)
  have lk_100 := hts (.fieldLink RX5 100 "LockQuorumModel" "leased" "J") (by decide +kernel)
  have hS : va_S (AB base) s.heap s.heap [] := va_S.rf
  have hB32 : ∀ (w : St), wpX5_release_B32 a0 a1 a2 post w → ∀ (H : Heap) (locs : List Loc), PA D ca ad w H → va_S (AB base) s.heap H locs → ∀ ls : Array Slot, lv_has ls 5 [(0, .ref (ad 33)), (1, .int a0), (2, .int a1), (3, .int a2)] → W p l e (headSpec wsX5_release ({ frames := 3, cells := 0, slots := 0, locals := 68 } : Room)).room s m ([Value.ref (ad 33), Value.int a0, Value.int a1, Value.int a2].toArray) below meth c H locs 0 0 (MQ below (va_Qi post (Bp D ca ad) (AB base)) ([Value.ref (ad 33), Value.int a0, Value.int a1, Value.int a2].toArray) s 0 0 (AB base)) (F0 m 32 ls []) := by
    intro w hw H locs hP hS ls hl
    refine lv_aload_n hx hb dX5_release_32 rfl (lv_at hl 0 rfl) ?_
    refine va_get (D := D) (ci := 7) (v := .int (w.1 67 0)) (C := RX5) (T := TX5) (N := 30) hx hb hts in_X5 hown hK hP 33 (wg33 ca ad w) rfl 25 (by decide) lk_87 (fun _ h9 => h9) rfl dX5_release_33 ?_
    refine lv_if_le (tgt := 42) hx hb dX5_release_36 (by decide) (fun c_1 => ?_) (fun c_1 => ?_)
    · have hw := hw.1 c_1
      refine lv_aload_n hx hb dX5_release_42 rfl (lv_at hl 0 rfl) ?_
      refine lv_iload_n hx hb dX5_release_43 rfl (lv_at hl 3 rfl) ?_
      refine va_calli (va_runV (As := [.int a2]) (rest := []) ⟨hx, hb, hml, hown, hts⟩ (mX5_looks l D ca ad base hAd w a2 _ hw) (cwV 1 hts gX5_release_X5_looks rfl rfl rfl (by decide +kernel) ⟨Nat.le_of_ble_eq_true rfl, Nat.le_of_ble_eq_true rfl⟩) (pv [.int a2] hK hP hbs hS rfl (wg33 ca ad w)) rfl rfl hl.1 rfl (lv_room (Nat.le_of_ble_eq_true rfl)) dX5_release_44 ⟨Nat.le_of_ble_eq_true rfl, Nat.le_of_ble_eq_true rfl⟩) hS (fun q _ h => h) (fun q h => h) (fun r_3 w_2 t H locs ht hvm hw hP hz1 hk1 hS => ?_)
      have hP : PA D ca ad w_2 H := by rw [← ht]; exact hP
      refine lv_istore (lv' := [(4, .int r_3), (0, .ref (ad 33)), (1, .int a0), (2, .int a1), (3, .int a2)]) hx hb dX5_release_47 hl (by decide) rfl (fun ls hl => ?_)
      refine lv_iload hx hb dX5_release_49 (lv_at hl 0 rfl) ?_
      refine lv_bipush (v := 45) hx hb dX5_release_51 (by decide) ?_
      refine lv_icmp_eq (tgt := 59) hx hb dX5_release_53 (by decide) (fun c_4 => ?_) (fun c_4 => ?_)
      · have hw := hw.1 c_4
        refine lv_aload_n hx hb dX5_release_59 rfl (lv_at hl 1 rfl) ?_
        refine lv_iload_n hx hb dX5_release_60 rfl (lv_at hl 2 rfl) ?_
        refine lv_iload_n hx hb dX5_release_61 rfl (lv_at hl 3 rfl) ?_
        refine va_calli (va_runV (As := [.int a0, .int a1]) (rest := []) ⟨hx, hb, hml, hown, hts⟩ (mX5_owns l D ca ad base hAd w_2 a0 a1 _ hw) (cwV 2 hts gX5_release_X5_owns rfl rfl rfl (by decide +kernel) ⟨Nat.le_of_ble_eq_true rfl, Nat.le_of_ble_eq_true rfl⟩) (pv [.int a0, .int a1] hK hP hbs hS rfl (wg33 ca ad w_2)) rfl rfl hl.1 rfl (lv_room (Nat.le_of_ble_eq_true rfl)) dX5_release_62 ⟨Nat.le_of_ble_eq_true rfl, Nat.le_of_ble_eq_true rfl⟩) hS (fun q _ h => h) (fun q h => h) (fun r_6 w_5 t H locs ht hvm hw hP hz1 hk1 hS => ?_)
        have hP : PA D ca ad w_5 H := by rw [← ht]; exact hP
        refine lv_if_ne (tgt := 71) hx hb dX5_release_65 (by decide) (fun c_7 => ?_) (fun c_7 => ?_)
        · have hw := hw.2 c_7
          refine lv_aload_n hx hb dX5_release_71 rfl (lv_at hl 1 rfl) ?_
          refine lv_dup hx hb dX5_release_72 rfl ?_
          refine va_get (D := D) (ci := 7) (v := .long (w_5.2.1 1)) (C := RX5) (T := TX5) (N := 30) hx hb hts in_X5 hown hK hP 33 (wg33 ca ad w_5) rfl 29 (by decide) lk_100 (fun _ h9 => h9) rfl dX5_release_73 ?_
          refine lv_aload_n hx hb dX5_release_76 rfl (lv_at hl 1 rfl) ?_
          refine va_get (D := D) (ci := 7) (v := .int (w_5.1 68 0)) (C := RX5) (T := TX5) (N := 30) hx hb hts in_X5 hown hK hP 33 (wg33 ca ad w_5) rfl 26 (by decide) lk_91 (fun _ h9 => h9) rfl dX5_release_77 ?_
          refine lv_aload_n hx hb dX5_release_80 rfl (lv_at hl 1 rfl) ?_
          refine va_get (D := D) (ci := 7) (v := .ref (ad 50)) (C := RX5) (T := TX5) (N := 30) hx hb hts in_X5 hown hK hP 33 (wg33 ca ad w_5) rfl 16 (by decide) lk_59 (fun _ h9 => h9) rfl dX5_release_81 ?_
          refine lv_iload_n hx hb dX5_release_84 rfl (lv_at hl 3 rfl) ?_
          obtain ⟨h_8, hw⟩ := hw
          refine va_iald hx hb hK hP 50 0 (wg50 ca ad w_5) rfl h_8 dX5_release_85 ?_
          refine lv_isub hx hb dX5_release_86 ?_
          refine lv_i2l (v := (((w_5.1 68 0) - (w_5.1 50 (a1).toNatClampNeg))).toInt64) hx hb dX5_release_87 rfl ?_
          refine lv_ladd hx hb dX5_release_88 ?_
          refine va_put (D := D) (ci := 7) (v := .long ((w_5.2.1 1) + (((w_5.1 68 0) - (w_5.1 50 (a1).toNatClampNeg))).toInt64)) (ty := .long) (C := RX5) (T := TX5) (N := 30) hx hb hts in_X5 tyX5 tyX5_ok nmX5 hown hK hP (DA hAd) hS 33 (wg33 ca ad w_5) rfl 29 (by decide) lk_100 (fun _ h9 => h9) rfl (by decide +kernel) rfl rfl (Nat.le_of_ble_eq_true rfl) dX5_release_89 (fun H locs hP hD hS => ?_)
          obtain ⟨w_9, e_10⟩ : ∃ z : St, z = (uL w_5 1 ((w_5.2.1 1) + (((w_5.1 68 0) - (w_5.1 50 (a1).toNatClampNeg))).toInt64)) := ⟨_, rfl⟩
          have hP : PA D ca ad w_9 H := by rw [e_10]; exact wl1 hP
          have hw := hw w_9 e_10
          refine lv_aload_n hx hb dX5_release_92 rfl (lv_at hl 1 rfl) ?_
          refine va_get (D := D) (ci := 7) (v := .ref (ad 48)) (C := RX5) (T := TX5) (N := 30) hx hb hts in_X5 hown hK hP 33 (wg33 ca ad w_9) rfl 14 (by decide) lk_53 (fun _ h9 => h9) rfl dX5_release_93 ?_
          refine lv_iload_n hx hb dX5_release_96 rfl (lv_at hl 3 rfl) ?_
          refine lv_iconst (v := (-1)) hx hb dX5_release_97 (by decide) ?_
          obtain ⟨h_11, hw⟩ := hw
          refine va_iast hx hb hK hP (DA hAd) hS 48 0 (wg48 ca ad w_9) rfl h_11 dX5_release_98 (fun H locs hP hD hS => ?_)
          obtain ⟨w_12, e_13⟩ : ∃ z : St, z = (uA w_9 48 (upd (w_9.1 48) (a1).toNatClampNeg (-1))) := ⟨_, rfl⟩
          have hP : PA D ca ad w_12 H := by rw [e_13]; exact wu48 hP
          have hw := hw w_12 e_13
          refine lv_aload_n hx hb dX5_release_99 rfl (lv_at hl 1 rfl) ?_
          refine va_get (D := D) (ci := 7) (v := .ref (ad 37)) (C := RX5) (T := TX5) (N := 30) hx hb hts in_X5 hown hK hP 33 (wg33 ca ad w_12) rfl 3 (by decide) lk_19 (fun _ h9 => h9) rfl dX5_release_100 ?_
          refine lv_iload_n hx hb dX5_release_103 rfl (lv_at hl 2 rfl) ?_
          refine lv_iload_n hx hb dX5_release_104 rfl (lv_at hl 3 rfl) ?_
          refine va_calli (va_runS (As := [.int a0, .int a1]) (rest := [.ref (ad 37)]) ⟨hx, hb, hml, hown, hts⟩ (mX5_at l D ca ad base hAd w_12 a0 a1 _ hw) (va_cwS 2 hts gX5_release_X5_at rfl rfl rfl (by decide +kernel) ⟨Nat.le_of_ble_eq_true rfl, Nat.le_of_ble_eq_true rfl⟩) (ps [.int a0, .int a1] hK hP hbs hS) rfl rfl hl.1 rfl (lv_room (Nat.le_of_ble_eq_true rfl)) dX5_release_105 ⟨Nat.le_of_ble_eq_true rfl, Nat.le_of_ble_eq_true rfl⟩) hS (fun q _ h => h) (fun q h => h) (fun r_15 w_14 t H locs ht hvm hw hP hz1 hk1 hS => ?_)
          have hP : PA D ca ad w_14 H := by rw [← ht]; exact hP
          refine lv_iconst (v := 0) hx hb dX5_release_108 (by decide) ?_
          obtain ⟨h_16, hw⟩ := hw
          refine va_zast hx hb hK hP (DA hAd) hS 37 1 (wg37 ca ad w_14) rfl h_16 dX5_release_109 (fun H locs hP hD hS => ?_)
          obtain ⟨w_17, e_18⟩ : ∃ z : St, z = (uA w_14 37 (upd (w_14.1 37) (r_15).toNatClampNeg (vp_nar .boolean 0))) := ⟨_, rfl⟩
          have hP : PA D ca ad w_17 H := by rw [e_18]; exact wu37 hP
          have hw := hw w_17 e_18
          refine lv_aload_n hx hb dX5_release_110 rfl (lv_at hl 1 rfl) ?_
          refine lv_bipush (v := 117) hx hb dX5_release_111 (by decide) ?_
          refine lv_iload_n hx hb dX5_release_113 rfl (lv_at hl 2 rfl) ?_
          refine lv_iload_n hx hb dX5_release_114 rfl (lv_at hl 3 rfl) ?_
          refine lv_iload_n hx hb dX5_release_115 rfl (lv_at hl 4 rfl) ?_
          refine va_calli (va_runV (As := [.int 117, .int a0, .int a1, .int a2]) (rest := []) ⟨hx, hb, hml, hown, hts⟩ (mX5_enters l D ca ad base hAd w_17 117 a0 a1 a2 _ hw) (cwV 4 hts gX5_release_X5_enters rfl rfl rfl (by decide +kernel) ⟨Nat.le_of_ble_eq_true rfl, Nat.le_of_ble_eq_true rfl⟩) (pv [.int 117, .int a0, .int a1, .int a2] hK hP hbs hS rfl (wg33 ca ad w_17)) rfl rfl hl.1 rfl (lv_room (Nat.le_of_ble_eq_true rfl)) dX5_release_116 ⟨Nat.le_of_ble_eq_true rfl, Nat.le_of_ble_eq_true rfl⟩) hS (fun q _ h => h) (fun q h => h) (fun r_20 w_19 t H locs ht hvm hw hP hz1 hk1 hS => ?_)
          have hP : PA D ca ad w_19 H := by rw [← ht]; exact hP
          obtain ⟨hn9, hw⟩ := hw
          exact W.zret (v := r_20) hx hb hr hn9 (fun t ht hW => ⟨⟨r_20, w_19, rfl, hw, by show PA D ca ad w_19 t.heap; rw [ht]; exact hP⟩, hS.F ht⟩) hS.2.2 dX5_release_119
        · have hw := hw.1 c_7
          refine lv_bipush (v := 111) hx hb dX5_release_68 (by decide) ?_
          exact W.zret (v := 111) hx hb hr (by decide) (fun t ht hW => ⟨⟨111, w_5, rfl, hw, by show PA D ca ad w_5 t.heap; rw [ht]; exact hP⟩, hS.F ht⟩) hS.2.2 dX5_release_70
      · have hw := hw.2 c_4
        refine lv_iload hx hb dX5_release_56 (lv_at hl 0 rfl) ?_
        obtain ⟨hn9, hw⟩ := hw
        exact W.zret (v := r_3) hx hb hr hn9 (fun t ht hW => ⟨⟨r_3, w_2, rfl, hw, by show PA D ca ad w_2 t.heap; rw [ht]; exact hP⟩, hS.F ht⟩) hS.2.2 dX5_release_58
    · have hw := hw.2 c_1
      refine lv_bipush (v := 32) hx hb dX5_release_39 (by decide) ?_
      exact W.zret (v := 32) hx hb hr (by decide) (fun t ht hW => ⟨⟨32, w, rfl, hw, by show PA D ca ad w t.heap; rw [ht]; exact hP⟩, hS.F ht⟩) hS.2.2 dX5_release_41
  have hl := lv_entry ([.ref (ad 33), .int a0, .int a1, .int a2]) (n := 5) (Nat.le_of_ble_eq_true rfl)
  rw [lg_entry_eq]
  generalize (lg_sl ([.ref (ad 33), .int a0, .int a1, .int a2]) ++ List.replicate (5 - (lg_sl ([.ref (ad 33), .int a0, .int a1, .int a2])).length) Slot.unset).toArray = ls at hl ⊢
  have hl : lv_has ls 5 [(0, .ref (ad 33)), (1, .int a0), (2, .int a1), (3, .int a2)] := hl
  refine lv_aload_n hx hb dX5_release_0 rfl (lv_at hl 0 rfl) ?_
  refine lv_aload_n hx hb dX5_release_1 rfl (lv_at hl 0 rfl) ?_
  refine lv_iload_n hx hb dX5_release_2 rfl (lv_at hl 1 rfl) ?_
  refine lv_iload_n hx hb dX5_release_3 rfl (lv_at hl 2 rfl) ?_
  refine lv_iload_n hx hb dX5_release_4 rfl (lv_at hl 3 rfl) ?_
  refine va_calli (va_runV (As := [.int a0, .int a1, .int a2]) (rest := [.ref (ad 33)]) ⟨hx, hb, hml, hown, hts⟩ (mX5_wrongAsk l D ca ad base hAd w a0 a1 a2 _ hw) (cwV 3 hts gX5_release_X5_wrongAsk rfl rfl rfl (by decide +kernel) ⟨Nat.le_of_ble_eq_true rfl, Nat.le_of_ble_eq_true rfl⟩) (pv [.int a0, .int a1, .int a2] hK hP hbs hS rfl (wg33 ca ad w)) rfl rfl hl.1 rfl (lv_room (Nat.le_of_ble_eq_true rfl)) dX5_release_5 ⟨Nat.le_of_ble_eq_true rfl, Nat.le_of_ble_eq_true rfl⟩) hS (fun q _ h => h) (fun q h => h) (fun r_22 w_21 t H locs ht hvm hw hP hz1 hk1 hS => ?_)
  have hP : PA D ca ad w_21 H := by rw [← ht]; exact hP
  refine va_put (D := D) (ci := 7) (v := .int r_22) (ty := .int) (C := RX5) (T := TX5) (N := 30) hx hb hts in_X5 tyX5 tyX5_ok nmX5 hown hK hP (DA hAd) hS 33 (wg33 ca ad w_21) rfl 25 (by decide) lk_87 (fun _ h9 => h9) rfl (by decide +kernel) rfl rfl (Nat.le_of_ble_eq_true rfl) dX5_release_8 (fun H locs hP hD hS => ?_)
  obtain ⟨w_23, e_24⟩ : ∃ z : St, z = (uI w_21 67 r_22) := ⟨_, rfl⟩
  have hP : PA D ca ad w_23 H := by rw [e_24]; exact wf67 hP
  have hw := hw w_23 e_24
  refine lv_aload_n hx hb dX5_release_11 rfl (lv_at hl 0 rfl) ?_
  refine va_get (D := D) (ci := 7) (v := .int (w_23.1 67 0)) (C := RX5) (T := TX5) (N := 30) hx hb hts in_X5 hown hK hP 33 (wg33 ca ad w_23) rfl 25 (by decide) lk_87 (fun _ h9 => h9) rfl dX5_release_12 ?_
  refine lv_if_ne (tgt := 32) hx hb dX5_release_15 (by decide) (fun c_25 => ?_) (fun c_25 => ?_)
  · have hw := hw.2 c_25
    exact hB32 w_23 hw _ _ hP hS ls (lv_sub hl [0, 1, 2, 3] rfl)
  · have hw := hw.1 c_25
    refine lv_aload_n hx hb dX5_release_18 rfl (lv_at hl 0 rfl) ?_
    refine lv_iload_n hx hb dX5_release_19 rfl (lv_at hl 1 rfl) ?_
    refine lv_iload_n hx hb dX5_release_20 rfl (lv_at hl 3 rfl) ?_
    refine va_calli (va_runV (As := [.int a0, .int a2]) (rest := []) ⟨hx, hb, hml, hown, hts⟩ (mX5_cannotAsk l D ca ad base hAd w_23 a0 a2 _ hw) (cwV 2 hts gX5_release_X5_cannotAsk rfl rfl rfl (by decide +kernel) ⟨Nat.le_of_ble_eq_true rfl, Nat.le_of_ble_eq_true rfl⟩) (pv [.int a0, .int a2] hK hP hbs hS rfl (wg33 ca ad w_23)) rfl rfl hl.1 rfl (lv_room (Nat.le_of_ble_eq_true rfl)) dX5_release_21 ⟨Nat.le_of_ble_eq_true rfl, Nat.le_of_ble_eq_true rfl⟩) hS (fun q _ h => h) (fun q h => h) (fun r_27 w_26 t H locs ht hvm hw hP hz1 hk1 hS => ?_)
    have hP : PA D ca ad w_26 H := by rw [← ht]; exact hP
    refine lv_if_eq (tgt := 32) hx hb dX5_release_24 (by decide) (fun c_28 => ?_) (fun c_28 => ?_)
    · have hw := hw.1 c_28
      exact hB32 w_26 hw _ _ hP hS ls (lv_sub hl [0, 1, 2, 3] rfl)
    · have hw := hw.2 c_28
      refine lv_aload_n hx hb dX5_release_27 rfl (lv_at hl 0 rfl) ?_
      refine lv_iconst (v := 3) hx hb dX5_release_28 (by decide) ?_
      refine va_put (D := D) (ci := 7) (v := .int 3) (ty := .int) (C := RX5) (T := TX5) (N := 30) hx hb hts in_X5 tyX5 tyX5_ok nmX5 hown hK hP (DA hAd) hS 33 (wg33 ca ad w_26) rfl 25 (by decide) lk_87 (fun _ h9 => h9) rfl (by decide +kernel) rfl rfl (Nat.le_of_ble_eq_true rfl) dX5_release_29 (fun H locs hP hD hS => ?_)
      obtain ⟨w_29, e_30⟩ : ∃ z : St, z = (uI w_26 67 3) := ⟨_, rfl⟩
      have hP : PA D ca ad w_29 H := by rw [e_30]; exact wf67 hP
      have hw := hw w_29 e_30
      exact hB32 w_29 hw _ _ hP hS ls (lv_sub hl [0, 1, 2, 3] rfl)
set_option maxHeartbeats 4000000 in
set_option maxRecDepth 100000 in
def wpX5_quit_B73 (a0 : Int32) (a1 : Int32) (post : Int32 → St → Prop) (w : St) : Prop := (vp_in a1 4) ∧ (post (w.1 54 (a1).toNatClampNeg) w)
set_option maxHeartbeats 4000000 in
set_option maxRecDepth 100000 in
def wpX5_quit_B38 (a0 : Int32) (a1 : Int32) (post : Int32 → St → Prop) (s0 : Int32) (w : St) : Prop := ∀ w_2 : St, w_2 = (uI w 67 s0) → ((w_2.1 67 0) ≤ 0 → (wpX5_leaves a0 a1 w_2 (fun w_5 => (vp_in a1 4) ∧ (((w_5.1 51 (a1).toNatClampNeg) = a0 → ((vp_in a1 4) ∧ (∀ w_9 : St, w_9 = (uA w_5 51 (upd (w_5.1 51) (a1).toNatClampNeg (-1))) → wpX5_quit_B73 a0 a1 post w_9))) ∧ (¬ ((w_5.1 51 (a1).toNatClampNeg) = a0) → (wpX5_quit_B73 a0 a1 post w_5)))))) ∧ (¬ ((w_2.1 67 0) ≤ 0) → (post 0 w_2))
set_option maxHeartbeats 4000000 in
set_option maxRecDepth 100000 in
def wpX5_quit (a0 : Int32) (a1 : Int32) (w : St) (post : Int32 → St → Prop) : Prop := wpX5_isClient a0 w (fun r_12 w_11 => (r_12 = 0 → (wpX5_quit_B38 a0 a1 post 1 w_11)) ∧ (¬ (r_12 = 0) → (wpX5_isLock a1 w_11 (fun r_15 w_14 => (r_15 = 0 → (wpX5_quit_B38 a0 a1 post 2 w_14)) ∧ (¬ (r_15 = 0) → (wpX5_placeIn a0 a1 w_14 (fun r_18 w_17 => (0 ≤ r_18 → (wpX5_quit_B38 a0 a1 post 0 w_17)) ∧ (¬ (0 ≤ r_18) → (wpX5_quit_B38 a0 a1 post 3 w_17)))))))))
set_option maxHeartbeats 4000000 in
set_option maxRecDepth 100000 in
theorem mX5_quit (l : Launch) (D : va_G) (ca : Nat → ClassId) (ad : Nat → Nat) (base : Nat) (hAd : okA base ad) (w : St) (a0 : Int32) (a1 : Int32) (post : Int32 → St → Prop) (hw : wpX5_quit a0 a1 w post) : Met l yX5_quit wsX5_quit ({ frames := 2, cells := 0, slots := 0, locals := 47 } : Room) (va_Pc [.ref (ad 33), .int a0, .int a1] (BU D ca ad base w)) (va_Qi post (Bp D ca ad) (AB base)) 0 0 (AB base) := by
  refine Met.ofW (cc := cX5_quit) (maxL := 3) (ret := (some .int)) (by decide) rfl ?_
  intro p e s m args below meth c s₁ B hml hv
  obtain ⟨rfl, hbs, hP, hK⟩ := hv
  have hx := B.exec
  have hb := B.bytes
  have hr := B.returns
  have hts := atoms_spec (ws := wsX5_quit) B.pre
  have hown : s.vm.findClass RX5 = some m.cls := findClass_of_methodNamed B.named
  have hlocks := B.notSynchronized
  have in_X5 : ∀ w ∈ wsX50, w ∈ wsX5_quit := by decide +kernel
  have lk_62 := hts (.fieldLink RX5 62 "LockQuorumModel" "thieves" "[I") (by decide +kernel)
  have lk_71 := hts (.fieldLink RX5 71 "LockQuorumModel" "waits" "[I") (by decide +kernel)
  have lk_87 := hts (.fieldLink RX5 87 "LockQuorumModel" "thrown" "I") (by decide +kernel)
  have hS : va_S (AB base) s.heap s.heap [] := va_S.rf
  have hB73 : ∀ (w : St), wpX5_quit_B73 a0 a1 post w → ∀ (H : Heap) (locs : List Loc), PA D ca ad w H → va_S (AB base) s.heap H locs → ∀ ls : Array Slot, lv_has ls 3 [(0, .ref (ad 33)), (2, .int a1)] → W p l e (headSpec wsX5_quit ({ frames := 2, cells := 0, slots := 0, locals := 47 } : Room)).room s m ([Value.ref (ad 33), Value.int a0, Value.int a1].toArray) below meth c H locs 0 0 (MQ below (va_Qi post (Bp D ca ad) (AB base)) ([Value.ref (ad 33), Value.int a0, Value.int a1].toArray) s 0 0 (AB base)) (F0 m 73 ls []) := by
    intro w hw H locs hP hS ls hl
    refine lv_aload_n hx hb dX5_quit_73 rfl (lv_at hl 0 rfl) ?_
    refine va_get (D := D) (ci := 7) (v := .ref (ad 54)) (C := RX5) (T := TX5) (N := 30) hx hb hts in_X5 hown hK hP 33 (wg33 ca ad w) rfl 20 (by decide) lk_71 (fun _ h9 => h9) rfl dX5_quit_74 ?_
    refine lv_iload_n hx hb dX5_quit_77 rfl (lv_at hl 1 rfl) ?_
    obtain ⟨h_1, hw⟩ := hw
    refine va_iald hx hb hK hP 54 0 (wg54 ca ad w) rfl h_1 dX5_quit_78 ?_
    exact W.iret (v := (w.1 54 (a1).toNatClampNeg)) hx hb hr (fun t ht hW => ⟨⟨(w.1 54 (a1).toNatClampNeg), w, rfl, hw, by show PA D ca ad w t.heap; rw [ht]; exact hP⟩, hS.F ht⟩) hS.2.2 dX5_quit_79
  have hB38 : ∀ (s0 : Int32) (w : St), wpX5_quit_B38 a0 a1 post s0 w → ∀ (H : Heap) (locs : List Loc), PA D ca ad w H → va_S (AB base) s.heap H locs → ∀ ls : Array Slot, lv_has ls 3 [(0, .ref (ad 33)), (1, .int a0), (2, .int a1)] → W p l e (headSpec wsX5_quit ({ frames := 2, cells := 0, slots := 0, locals := 47 } : Room)).room s m ([Value.ref (ad 33), Value.int a0, Value.int a1].toArray) below meth c H locs 0 0 (MQ below (va_Qi post (Bp D ca ad) (AB base)) ([Value.ref (ad 33), Value.int a0, Value.int a1].toArray) s 0 0 (AB base)) (F0 m 38 ls [.int s0, .ref (ad 33)]) := by
    intro s0 w hw H locs hP hS ls hl
    refine va_put (D := D) (ci := 7) (v := .int s0) (ty := .int) (C := RX5) (T := TX5) (N := 30) hx hb hts in_X5 tyX5 tyX5_ok nmX5 hown hK hP (DA hAd) hS 33 (wg33 ca ad w) rfl 25 (by decide) lk_87 (fun _ h9 => h9) rfl (by decide +kernel) rfl rfl (Nat.le_of_ble_eq_true rfl) dX5_quit_38 (fun H locs hP hD hS => ?_)
    obtain ⟨w_2, e_3⟩ : ∃ z : St, z = (uI w 67 s0) := ⟨_, rfl⟩
    have hP : PA D ca ad w_2 H := by rw [e_3]; exact wf67 hP
    have hw := hw w_2 e_3
    refine lv_aload_n hx hb dX5_quit_41 rfl (lv_at hl 0 rfl) ?_
    refine va_get (D := D) (ci := 7) (v := .int (w_2.1 67 0)) (C := RX5) (T := TX5) (N := 30) hx hb hts in_X5 hown hK hP 33 (wg33 ca ad w_2) rfl 25 (by decide) lk_87 (fun _ h9 => h9) rfl dX5_quit_42 ?_
    refine lv_if_le (tgt := 50) hx hb dX5_quit_45 (by decide) (fun c_4 => ?_) (fun c_4 => ?_)
    · have hw := hw.1 c_4
      refine lv_aload_n hx hb dX5_quit_50 rfl (lv_at hl 0 rfl) ?_
      refine lv_iload_n hx hb dX5_quit_51 rfl (lv_at hl 1 rfl) ?_
      refine lv_iload_n hx hb dX5_quit_52 rfl (lv_at hl 2 rfl) ?_
      refine va_callv (va_runV (As := [.int a0, .int a1]) (rest := []) ⟨hx, hb, hml, hown, hts⟩ (mX5_leaves l D ca ad base hAd w_2 a0 a1 _ hw) (cwV 2 hts gX5_quit_X5_leaves rfl rfl rfl (by decide +kernel) ⟨Nat.le_of_ble_eq_true rfl, Nat.le_of_ble_eq_true rfl⟩) (pv [.int a0, .int a1] hK hP hbs hS rfl (wg33 ca ad w_2)) rfl rfl hl.1 rfl (lv_room (Nat.le_of_ble_eq_true rfl)) dX5_quit_53 ⟨Nat.le_of_ble_eq_true rfl, Nat.le_of_ble_eq_true rfl⟩) hS (fun q _ h => h) (fun q h => h) (fun w_5 t H locs ht hvm hw hP hz1 hk1 hS => ?_)
      have hP : PA D ca ad w_5 H := by rw [← ht]; exact hP
      refine lv_aload_n hx hb dX5_quit_56 rfl (lv_at hl 0 rfl) ?_
      refine va_get (D := D) (ci := 7) (v := .ref (ad 51)) (C := RX5) (T := TX5) (N := 30) hx hb hts in_X5 hown hK hP 33 (wg33 ca ad w_5) rfl 17 (by decide) lk_62 (fun _ h9 => h9) rfl dX5_quit_57 ?_
      refine lv_iload_n hx hb dX5_quit_60 rfl (lv_at hl 2 rfl) ?_
      obtain ⟨h_6, hw⟩ := hw
      refine va_iald hx hb hK hP 51 0 (wg51 ca ad w_5) rfl h_6 dX5_quit_61 ?_
      refine lv_iload_n hx hb dX5_quit_62 rfl (lv_at hl 1 rfl) ?_
      refine lv_icmp_ne (tgt := 73) hx hb dX5_quit_63 (by decide) (fun c_7 => ?_) (fun c_7 => ?_)
      · have hw := hw.2 c_7
        exact hB73 w_5 hw _ _ hP hS ls (lv_sub hl [0, 2] rfl)
      · have hw := hw.1 c_7
        refine lv_aload_n hx hb dX5_quit_66 rfl (lv_at hl 0 rfl) ?_
        refine va_get (D := D) (ci := 7) (v := .ref (ad 51)) (C := RX5) (T := TX5) (N := 30) hx hb hts in_X5 hown hK hP 33 (wg33 ca ad w_5) rfl 17 (by decide) lk_62 (fun _ h9 => h9) rfl dX5_quit_67 ?_
        refine lv_iload_n hx hb dX5_quit_70 rfl (lv_at hl 2 rfl) ?_
        refine lv_iconst (v := (-1)) hx hb dX5_quit_71 (by decide) ?_
        obtain ⟨h_8, hw⟩ := hw
        refine va_iast hx hb hK hP (DA hAd) hS 51 0 (wg51 ca ad w_5) rfl h_8 dX5_quit_72 (fun H locs hP hD hS => ?_)
        obtain ⟨w_9, e_10⟩ : ∃ z : St, z = (uA w_5 51 (upd (w_5.1 51) (a1).toNatClampNeg (-1))) := ⟨_, rfl⟩
        have hP : PA D ca ad w_9 H := by rw [e_10]; exact wu51 hP
        have hw := hw w_9 e_10
        exact hB73 w_9 hw _ _ hP hS ls (lv_sub hl [0, 2] rfl)
    · have hw := hw.2 c_4
      refine lv_iconst (v := 0) hx hb dX5_quit_48 (by decide) ?_
      exact W.iret (v := 0) hx hb hr (fun t ht hW => ⟨⟨0, w_2, rfl, hw, by show PA D ca ad w_2 t.heap; rw [ht]; exact hP⟩, hS.F ht⟩) hS.2.2 dX5_quit_49
  have hl := lv_entry ([.ref (ad 33), .int a0, .int a1]) (n := 3) (Nat.le_of_ble_eq_true rfl)
  rw [lg_entry_eq]
  generalize (lg_sl ([.ref (ad 33), .int a0, .int a1]) ++ List.replicate (3 - (lg_sl ([.ref (ad 33), .int a0, .int a1])).length) Slot.unset).toArray = ls at hl ⊢
  have hl : lv_has ls 3 [(0, .ref (ad 33)), (1, .int a0), (2, .int a1)] := hl
  refine lv_aload_n hx hb dX5_quit_0 rfl (lv_at hl 0 rfl) ?_
  refine lv_aload_n hx hb dX5_quit_1 rfl (lv_at hl 0 rfl) ?_
  refine lv_iload_n hx hb dX5_quit_2 rfl (lv_at hl 1 rfl) ?_
  refine va_calli (va_runV (As := [.int a0]) (rest := [.ref (ad 33)]) ⟨hx, hb, hml, hown, hts⟩ (mX5_isClient l D ca ad base hAd w a0 _ hw) (cwV 1 hts gX5_quit_X5_isClient rfl rfl rfl (by decide +kernel) ⟨Nat.le_of_ble_eq_true rfl, Nat.le_of_ble_eq_true rfl⟩) (pv [.int a0] hK hP hbs hS rfl (wg33 ca ad w)) rfl rfl hl.1 rfl (lv_room (Nat.le_of_ble_eq_true rfl)) dX5_quit_3 ⟨Nat.le_of_ble_eq_true rfl, Nat.le_of_ble_eq_true rfl⟩) hS (fun q _ h => h) (fun q h => h) (fun r_12 w_11 t H locs ht hvm hw hP hz1 hk1 hS => ?_)
  have hP : PA D ca ad w_11 H := by rw [← ht]; exact hP
  refine lv_if_ne (tgt := 13) hx hb dX5_quit_6 (by decide) (fun c_13 => ?_) (fun c_13 => ?_)
  · have hw := hw.2 c_13
    refine lv_iload_n hx hb dX5_quit_13 rfl (lv_at hl 2 rfl) ?_
    refine va_calli (va_runS (As := [.int a1]) (rest := [.ref (ad 33)]) ⟨hx, hb, hml, hown, hts⟩ (mX5_isLock l D ca ad base hAd w_11 a1 _ hw) (va_cwS 1 hts gX5_quit_X5_isLock rfl rfl rfl (by decide +kernel) ⟨Nat.le_of_ble_eq_true rfl, Nat.le_of_ble_eq_true rfl⟩) (ps [.int a1] hK hP hbs hS) rfl rfl hl.1 rfl (lv_room (Nat.le_of_ble_eq_true rfl)) dX5_quit_14 ⟨Nat.le_of_ble_eq_true rfl, Nat.le_of_ble_eq_true rfl⟩) hS (fun q _ h => h) (fun q h => h) (fun r_15 w_14 t H locs ht hvm hw hP hz1 hk1 hS => ?_)
    have hP : PA D ca ad w_14 H := by rw [← ht]; exact hP
    refine lv_if_ne (tgt := 24) hx hb dX5_quit_17 (by decide) (fun c_16 => ?_) (fun c_16 => ?_)
    · have hw := hw.2 c_16
      refine lv_aload_n hx hb dX5_quit_24 rfl (lv_at hl 0 rfl) ?_
      refine lv_iload_n hx hb dX5_quit_25 rfl (lv_at hl 1 rfl) ?_
      refine lv_iload_n hx hb dX5_quit_26 rfl (lv_at hl 2 rfl) ?_
      refine va_calli (va_runV (As := [.int a0, .int a1]) (rest := [.ref (ad 33)]) ⟨hx, hb, hml, hown, hts⟩ (mX5_placeIn l D ca ad base hAd w_14 a0 a1 _ hw) (cwV 2 hts gX5_quit_X5_placeIn rfl rfl rfl (by decide +kernel) ⟨Nat.le_of_ble_eq_true rfl, Nat.le_of_ble_eq_true rfl⟩) (pv [.int a0, .int a1] hK hP hbs hS rfl (wg33 ca ad w_14)) rfl rfl hl.1 rfl (lv_room (Nat.le_of_ble_eq_true rfl)) dX5_quit_27 ⟨Nat.le_of_ble_eq_true rfl, Nat.le_of_ble_eq_true rfl⟩) hS (fun q _ h => h) (fun q h => h) (fun r_18 w_17 t H locs ht hvm hw hP hz1 hk1 hS => ?_)
      have hP : PA D ca ad w_17 H := by rw [← ht]; exact hP
      refine lv_if_ge (tgt := 37) hx hb dX5_quit_30 (by decide) (fun c_19 => ?_) (fun c_19 => ?_)
      · have hw := hw.1 c_19
        refine lv_iconst (v := 0) hx hb dX5_quit_37 (by decide) ?_
        exact hB38 0 w_17 hw _ _ hP hS ls (lv_sub hl [0, 1, 2] rfl)
      · have hw := hw.2 c_19
        refine lv_iconst (v := 3) hx hb dX5_quit_33 (by decide) ?_
        refine lv_goto (tgt := 38) hx hb dX5_quit_34 (by decide) ?_
        exact hB38 3 w_17 hw _ _ hP hS ls (lv_sub hl [0, 1, 2] rfl)
    · have hw := hw.1 c_16
      refine lv_iconst (v := 2) hx hb dX5_quit_20 (by decide) ?_
      refine lv_goto (tgt := 38) hx hb dX5_quit_21 (by decide) ?_
      exact hB38 2 w_14 hw _ _ hP hS ls (lv_sub hl [0, 1, 2] rfl)
  · have hw := hw.1 c_13
    refine lv_iconst (v := 1) hx hb dX5_quit_9 (by decide) ?_
    refine lv_goto (tgt := 38) hx hb dX5_quit_10 (by decide) ?_
    exact hB38 1 w_11 hw _ _ hP hS ls (lv_sub hl [0, 1, 2] rfl)
set_option maxHeartbeats 4000000 in
set_option maxRecDepth 100000 in
def wpX5_read_B32 (a0 : Int32) (a1 : Int32) (a2 : Int32) (post : Int32 → St → Prop) (w : St) : Prop := ((w.1 67 0) ≤ 0 → (wpX5_looks a2 w (fun r_3 w_2 => (r_3 = 45 → (wpX5_at a0 a1 w_2 (fun r_6 w_5 => (vp_in r_6 24) ∧ (∀ w_8 : St, w_8 = (uA w_5 38 (upd (w_5.1 38) (r_6).toNatClampNeg (vp_nar .boolean 1))) → wpX5_at a0 a1 w_8 (fun r_11 w_10 => wpX5_clock a0 w_10 (fun r_13 w_12 => (vp_in r_11 24) ∧ (∀ w_15 : St, w_15 = (uA w_12 45 (upd (w_12.1 45) (r_11).toNatClampNeg r_13)) → wpX5_at a0 a1 w_15 (fun r_18 w_17 => (vp_in a1 4) ∧ ((vp_in r_18 24) ∧ (∀ w_21 : St, w_21 = (uA w_17 46 (upd (w_17.1 46) (r_18).toNatClampNeg (w_17.1 52 (a1).toNatClampNeg))) → wpX5_at a0 a1 w_21 (fun r_24 w_23 => (vp_in r_24 24) ∧ (∀ w_26 : St, w_26 = (uA w_23 47 (upd (w_23.1 47) (r_24).toNatClampNeg ((w_23.1 68 0) + 10))) → post 103 w_26)))))))))))) ∧ (¬ (r_3 = 45) → ((narrow .char (.int r_3) = .int r_3) ∧ post r_3 w_2))))) ∧ (¬ ((w.1 67 0) ≤ 0) → (post 32 w))
set_option maxHeartbeats 4000000 in
set_option maxRecDepth 100000 in
def wpX5_read (a0 : Int32) (a1 : Int32) (a2 : Int32) (w : St) (post : Int32 → St → Prop) : Prop := wpX5_wrongAsk a0 a1 a2 w (fun r_29 w_28 => ∀ w_30 : St, w_30 = (uI w_28 67 r_29) → ((w_30.1 67 0) = 0 → (wpX5_cannotAsk a0 a2 w_30 (fun r_34 w_33 => (r_34 = 0 → (wpX5_read_B32 a0 a1 a2 post w_33)) ∧ (¬ (r_34 = 0) → (∀ w_36 : St, w_36 = (uI w_33 67 3) → wpX5_read_B32 a0 a1 a2 post w_36))))) ∧ (¬ ((w_30.1 67 0) = 0) → (wpX5_read_B32 a0 a1 a2 post w_30)))
set_option maxHeartbeats 4000000 in
set_option maxRecDepth 100000 in
theorem mX5_read (l : Launch) (D : va_G) (ca : Nat → ClassId) (ad : Nat → Nat) (base : Nat) (hAd : okA base ad) (w : St) (a0 : Int32) (a1 : Int32) (a2 : Int32) (post : Int32 → St → Prop) (hw : wpX5_read a0 a1 a2 w post) : Met l yX5_read wsX5_read ({ frames := 3, cells := 0, slots := 0, locals := 68 } : Room) (va_Pc [.ref (ad 33), .int a0, .int a1, .int a2] (BU D ca ad base w)) (va_Qi post (Bp D ca ad) (AB base)) 0 0 (AB base) := by
  refine Met.ofW (cc := cX5_read) (maxL := 5) (ret := (some .char)) (by decide) rfl ?_
  intro p e s m args below meth c s₁ B hml hv
  obtain ⟨rfl, hbs, hP, hK⟩ := hv
  have hx := B.exec
  have hb := B.bytes
  have hr := B.returns
  have hts := atoms_spec (ws := wsX5_read) B.pre
  have hown : s.vm.findClass RX5 = some m.cls := findClass_of_methodNamed B.named
  have hlocks := B.notSynchronized
  have in_X5 : ∀ w ∈ wsX50, w ∈ wsX5_read := by decide +kernel
  have lk_22 := hts (.fieldLink RX5 22 "LockQuorumModel" "keep" "[Z") (by decide +kernel)
  have lk_44 := hts (.fieldLink RX5 44 "LockQuorumModel" "keptAt" "[I") (by decide +kernel)
  have lk_47 := hts (.fieldLink RX5 47 "LockQuorumModel" "keptValues" "[I") (by decide +kernel)
  have lk_50 := hts (.fieldLink RX5 50 "LockQuorumModel" "notedTo" "[I") (by decide +kernel)
  have lk_65 := hts (.fieldLink RX5 65 "LockQuorumModel" "values" "[I") (by decide +kernel)
  have lk_87 := hts (.fieldLink RX5 87 "LockQuorumModel" "thrown" "I") (by decide +kernel)
  have lk_91 := hts (.fieldLink RX5 91 "LockQuorumModel" "time" "I") (by decide +kernel)
  have hS : va_S (AB base) s.heap s.heap [] := va_S.rf
  have hB32 : ∀ (w : St), wpX5_read_B32 a0 a1 a2 post w → ∀ (H : Heap) (locs : List Loc), PA D ca ad w H → va_S (AB base) s.heap H locs → ∀ ls : Array Slot, lv_has ls 5 [(0, .ref (ad 33)), (1, .int a0), (2, .int a1), (3, .int a2)] → W p l e (headSpec wsX5_read ({ frames := 3, cells := 0, slots := 0, locals := 68 } : Room)).room s m ([Value.ref (ad 33), Value.int a0, Value.int a1, Value.int a2].toArray) below meth c H locs 0 0 (MQ below (va_Qi post (Bp D ca ad) (AB base)) ([Value.ref (ad 33), Value.int a0, Value.int a1, Value.int a2].toArray) s 0 0 (AB base)) (F0 m 32 ls []) := by
    intro w hw H locs hP hS ls hl
    refine lv_aload_n hx hb dX5_read_32 rfl (lv_at hl 0 rfl) ?_
    refine va_get (D := D) (ci := 7) (v := .int (w.1 67 0)) (C := RX5) (T := TX5) (N := 30) hx hb hts in_X5 hown hK hP 33 (wg33 ca ad w) rfl 25 (by decide) lk_87 (fun _ h9 => h9) rfl dX5_read_33 ?_
    refine lv_if_le (tgt := 42) hx hb dX5_read_36 (by decide) (fun c_1 => ?_) (fun c_1 => ?_)
    · have hw := hw.1 c_1
      refine lv_aload_n hx hb dX5_read_42 rfl (lv_at hl 0 rfl) ?_
      refine lv_iload_n hx hb dX5_read_43 rfl (lv_at hl 3 rfl) ?_
      refine va_calli (va_runV (As := [.int a2]) (rest := []) ⟨hx, hb, hml, hown, hts⟩ (mX5_looks l D ca ad base hAd w a2 _ hw) (cwV 1 hts gX5_read_X5_looks rfl rfl rfl (by decide +kernel) ⟨Nat.le_of_ble_eq_true rfl, Nat.le_of_ble_eq_true rfl⟩) (pv [.int a2] hK hP hbs hS rfl (wg33 ca ad w)) rfl rfl hl.1 rfl (lv_room (Nat.le_of_ble_eq_true rfl)) dX5_read_44 ⟨Nat.le_of_ble_eq_true rfl, Nat.le_of_ble_eq_true rfl⟩) hS (fun q _ h => h) (fun q h => h) (fun r_3 w_2 t H locs ht hvm hw hP hz1 hk1 hS => ?_)
      have hP : PA D ca ad w_2 H := by rw [← ht]; exact hP
      refine lv_istore (lv' := [(4, .int r_3), (0, .ref (ad 33)), (1, .int a0), (2, .int a1), (3, .int a2)]) hx hb dX5_read_47 hl (by decide) rfl (fun ls hl => ?_)
      refine lv_iload hx hb dX5_read_49 (lv_at hl 0 rfl) ?_
      refine lv_bipush (v := 45) hx hb dX5_read_51 (by decide) ?_
      refine lv_icmp_eq (tgt := 59) hx hb dX5_read_53 (by decide) (fun c_4 => ?_) (fun c_4 => ?_)
      · have hw := hw.1 c_4
        refine lv_aload_n hx hb dX5_read_59 rfl (lv_at hl 1 rfl) ?_
        refine va_get (D := D) (ci := 7) (v := .ref (ad 38)) (C := RX5) (T := TX5) (N := 30) hx hb hts in_X5 hown hK hP 33 (wg33 ca ad w_2) rfl 4 (by decide) lk_22 (fun _ h9 => h9) rfl dX5_read_60 ?_
        refine lv_iload_n hx hb dX5_read_63 rfl (lv_at hl 2 rfl) ?_
        refine lv_iload_n hx hb dX5_read_64 rfl (lv_at hl 3 rfl) ?_
        refine va_calli (va_runS (As := [.int a0, .int a1]) (rest := [.ref (ad 38)]) ⟨hx, hb, hml, hown, hts⟩ (mX5_at l D ca ad base hAd w_2 a0 a1 _ hw) (va_cwS 2 hts gX5_read_X5_at rfl rfl rfl (by decide +kernel) ⟨Nat.le_of_ble_eq_true rfl, Nat.le_of_ble_eq_true rfl⟩) (ps [.int a0, .int a1] hK hP hbs hS) rfl rfl hl.1 rfl (lv_room (Nat.le_of_ble_eq_true rfl)) dX5_read_65 ⟨Nat.le_of_ble_eq_true rfl, Nat.le_of_ble_eq_true rfl⟩) hS (fun q _ h => h) (fun q h => h) (fun r_6 w_5 t H locs ht hvm hw hP hz1 hk1 hS => ?_)
        have hP : PA D ca ad w_5 H := by rw [← ht]; exact hP
        refine lv_iconst (v := 1) hx hb dX5_read_68 (by decide) ?_
        obtain ⟨h_7, hw⟩ := hw
        refine va_zast hx hb hK hP (DA hAd) hS 38 1 (wg38 ca ad w_5) rfl h_7 dX5_read_69 (fun H locs hP hD hS => ?_)
        obtain ⟨w_8, e_9⟩ : ∃ z : St, z = (uA w_5 38 (upd (w_5.1 38) (r_6).toNatClampNeg (vp_nar .boolean 1))) := ⟨_, rfl⟩
        have hP : PA D ca ad w_8 H := by rw [e_9]; exact wu38 hP
        have hw := hw w_8 e_9
        refine lv_aload_n hx hb dX5_read_70 rfl (lv_at hl 1 rfl) ?_
        refine va_get (D := D) (ci := 7) (v := .ref (ad 45)) (C := RX5) (T := TX5) (N := 30) hx hb hts in_X5 hown hK hP 33 (wg33 ca ad w_8) rfl 11 (by decide) lk_44 (fun _ h9 => h9) rfl dX5_read_71 ?_
        refine lv_iload_n hx hb dX5_read_74 rfl (lv_at hl 2 rfl) ?_
        refine lv_iload_n hx hb dX5_read_75 rfl (lv_at hl 3 rfl) ?_
        refine va_calli (va_runS (As := [.int a0, .int a1]) (rest := [.ref (ad 45)]) ⟨hx, hb, hml, hown, hts⟩ (mX5_at l D ca ad base hAd w_8 a0 a1 _ hw) (va_cwS 2 hts gX5_read_X5_at rfl rfl rfl (by decide +kernel) ⟨Nat.le_of_ble_eq_true rfl, Nat.le_of_ble_eq_true rfl⟩) (ps [.int a0, .int a1] hK hP hbs hS) rfl rfl hl.1 rfl (lv_room (Nat.le_of_ble_eq_true rfl)) dX5_read_76 ⟨Nat.le_of_ble_eq_true rfl, Nat.le_of_ble_eq_true rfl⟩) hS (fun q _ h => h) (fun q h => h) (fun r_11 w_10 t H locs ht hvm hw hP hz1 hk1 hS => ?_)
        have hP : PA D ca ad w_10 H := by rw [← ht]; exact hP
        refine lv_aload_n hx hb dX5_read_79 rfl (lv_at hl 1 rfl) ?_
        refine lv_iload_n hx hb dX5_read_80 rfl (lv_at hl 2 rfl) ?_
        refine va_calli (va_runV (As := [.int a0]) (rest := [.int r_11, .ref (ad 45)]) ⟨hx, hb, hml, hown, hts⟩ (mX5_clock l D ca ad base hAd w_10 a0 _ hw) (cwV 1 hts gX5_read_X5_clock rfl rfl rfl (by decide +kernel) ⟨Nat.le_of_ble_eq_true rfl, Nat.le_of_ble_eq_true rfl⟩) (pv [.int a0] hK hP hbs hS rfl (wg33 ca ad w_10)) rfl rfl hl.1 rfl (lv_room (Nat.le_of_ble_eq_true rfl)) dX5_read_81 ⟨Nat.le_of_ble_eq_true rfl, Nat.le_of_ble_eq_true rfl⟩) hS (fun q _ h => h) (fun q h => h) (fun r_13 w_12 t H locs ht hvm hw hP hz1 hk1 hS => ?_)
        have hP : PA D ca ad w_12 H := by rw [← ht]; exact hP
        obtain ⟨h_14, hw⟩ := hw
        refine va_iast hx hb hK hP (DA hAd) hS 45 0 (wg45 ca ad w_12) rfl h_14 dX5_read_84 (fun H locs hP hD hS => ?_)
        obtain ⟨w_15, e_16⟩ : ∃ z : St, z = (uA w_12 45 (upd (w_12.1 45) (r_11).toNatClampNeg r_13)) := ⟨_, rfl⟩
        have hP : PA D ca ad w_15 H := by rw [e_16]; exact wu45 hP
        have hw := hw w_15 e_16
        refine lv_aload_n hx hb dX5_read_85 rfl (lv_at hl 1 rfl) ?_
        refine va_get (D := D) (ci := 7) (v := .ref (ad 46)) (C := RX5) (T := TX5) (N := 30) hx hb hts in_X5 hown hK hP 33 (wg33 ca ad w_15) rfl 12 (by decide) lk_47 (fun _ h9 => h9) rfl dX5_read_86 ?_
        refine lv_iload_n hx hb dX5_read_89 rfl (lv_at hl 2 rfl) ?_
        refine lv_iload_n hx hb dX5_read_90 rfl (lv_at hl 3 rfl) ?_
        refine va_calli (va_runS (As := [.int a0, .int a1]) (rest := [.ref (ad 46)]) ⟨hx, hb, hml, hown, hts⟩ (mX5_at l D ca ad base hAd w_15 a0 a1 _ hw) (va_cwS 2 hts gX5_read_X5_at rfl rfl rfl (by decide +kernel) ⟨Nat.le_of_ble_eq_true rfl, Nat.le_of_ble_eq_true rfl⟩) (ps [.int a0, .int a1] hK hP hbs hS) rfl rfl hl.1 rfl (lv_room (Nat.le_of_ble_eq_true rfl)) dX5_read_91 ⟨Nat.le_of_ble_eq_true rfl, Nat.le_of_ble_eq_true rfl⟩) hS (fun q _ h => h) (fun q h => h) (fun r_18 w_17 t H locs ht hvm hw hP hz1 hk1 hS => ?_)
        have hP : PA D ca ad w_17 H := by rw [← ht]; exact hP
        refine lv_aload_n hx hb dX5_read_94 rfl (lv_at hl 1 rfl) ?_
        refine va_get (D := D) (ci := 7) (v := .ref (ad 52)) (C := RX5) (T := TX5) (N := 30) hx hb hts in_X5 hown hK hP 33 (wg33 ca ad w_17) rfl 18 (by decide) lk_65 (fun _ h9 => h9) rfl dX5_read_95 ?_
        refine lv_iload_n hx hb dX5_read_98 rfl (lv_at hl 3 rfl) ?_
        obtain ⟨h_19, hw⟩ := hw
        refine va_iald hx hb hK hP 52 0 (wg52 ca ad w_17) rfl h_19 dX5_read_99 ?_
        obtain ⟨h_20, hw⟩ := hw
        refine va_iast hx hb hK hP (DA hAd) hS 46 0 (wg46 ca ad w_17) rfl h_20 dX5_read_100 (fun H locs hP hD hS => ?_)
        obtain ⟨w_21, e_22⟩ : ∃ z : St, z = (uA w_17 46 (upd (w_17.1 46) (r_18).toNatClampNeg (w_17.1 52 (a1).toNatClampNeg))) := ⟨_, rfl⟩
        have hP : PA D ca ad w_21 H := by rw [e_22]; exact wu46 hP
        have hw := hw w_21 e_22
        refine lv_aload_n hx hb dX5_read_101 rfl (lv_at hl 1 rfl) ?_
        refine va_get (D := D) (ci := 7) (v := .ref (ad 47)) (C := RX5) (T := TX5) (N := 30) hx hb hts in_X5 hown hK hP 33 (wg33 ca ad w_21) rfl 13 (by decide) lk_50 (fun _ h9 => h9) rfl dX5_read_102 ?_
        refine lv_iload_n hx hb dX5_read_105 rfl (lv_at hl 2 rfl) ?_
        refine lv_iload_n hx hb dX5_read_106 rfl (lv_at hl 3 rfl) ?_
        refine va_calli (va_runS (As := [.int a0, .int a1]) (rest := [.ref (ad 47)]) ⟨hx, hb, hml, hown, hts⟩ (mX5_at l D ca ad base hAd w_21 a0 a1 _ hw) (va_cwS 2 hts gX5_read_X5_at rfl rfl rfl (by decide +kernel) ⟨Nat.le_of_ble_eq_true rfl, Nat.le_of_ble_eq_true rfl⟩) (ps [.int a0, .int a1] hK hP hbs hS) rfl rfl hl.1 rfl (lv_room (Nat.le_of_ble_eq_true rfl)) dX5_read_107 ⟨Nat.le_of_ble_eq_true rfl, Nat.le_of_ble_eq_true rfl⟩) hS (fun q _ h => h) (fun q h => h) (fun r_24 w_23 t H locs ht hvm hw hP hz1 hk1 hS => ?_)
        have hP : PA D ca ad w_23 H := by rw [← ht]; exact hP
        refine lv_aload_n hx hb dX5_read_110 rfl (lv_at hl 1 rfl) ?_
        refine va_get (D := D) (ci := 7) (v := .int (w_23.1 68 0)) (C := RX5) (T := TX5) (N := 30) hx hb hts in_X5 hown hK hP 33 (wg33 ca ad w_23) rfl 26 (by decide) lk_91 (fun _ h9 => h9) rfl dX5_read_111 ?_
        refine lv_bipush (v := 10) hx hb dX5_read_114 (by decide) ?_
        refine lv_iadd hx hb dX5_read_116 ?_
        obtain ⟨h_25, hw⟩ := hw
        refine va_iast hx hb hK hP (DA hAd) hS 47 0 (wg47 ca ad w_23) rfl h_25 dX5_read_117 (fun H locs hP hD hS => ?_)
        obtain ⟨w_26, e_27⟩ : ∃ z : St, z = (uA w_23 47 (upd (w_23.1 47) (r_24).toNatClampNeg ((w_23.1 68 0) + 10))) := ⟨_, rfl⟩
        have hP : PA D ca ad w_26 H := by rw [e_27]; exact wu47 hP
        have hw := hw w_26 e_27
        refine lv_bipush (v := 103) hx hb dX5_read_118 (by decide) ?_
        exact W.zret (v := 103) hx hb hr (by decide) (fun t ht hW => ⟨⟨103, w_26, rfl, hw, by show PA D ca ad w_26 t.heap; rw [ht]; exact hP⟩, hS.F ht⟩) hS.2.2 dX5_read_120
      · have hw := hw.2 c_4
        refine lv_iload hx hb dX5_read_56 (lv_at hl 0 rfl) ?_
        obtain ⟨hn9, hw⟩ := hw
        exact W.zret (v := r_3) hx hb hr hn9 (fun t ht hW => ⟨⟨r_3, w_2, rfl, hw, by show PA D ca ad w_2 t.heap; rw [ht]; exact hP⟩, hS.F ht⟩) hS.2.2 dX5_read_58
    · have hw := hw.2 c_1
      refine lv_bipush (v := 32) hx hb dX5_read_39 (by decide) ?_
      exact W.zret (v := 32) hx hb hr (by decide) (fun t ht hW => ⟨⟨32, w, rfl, hw, by show PA D ca ad w t.heap; rw [ht]; exact hP⟩, hS.F ht⟩) hS.2.2 dX5_read_41
  have hl := lv_entry ([.ref (ad 33), .int a0, .int a1, .int a2]) (n := 5) (Nat.le_of_ble_eq_true rfl)
  rw [lg_entry_eq]
  generalize (lg_sl ([.ref (ad 33), .int a0, .int a1, .int a2]) ++ List.replicate (5 - (lg_sl ([.ref (ad 33), .int a0, .int a1, .int a2])).length) Slot.unset).toArray = ls at hl ⊢
  have hl : lv_has ls 5 [(0, .ref (ad 33)), (1, .int a0), (2, .int a1), (3, .int a2)] := hl
  refine lv_aload_n hx hb dX5_read_0 rfl (lv_at hl 0 rfl) ?_
  refine lv_aload_n hx hb dX5_read_1 rfl (lv_at hl 0 rfl) ?_
  refine lv_iload_n hx hb dX5_read_2 rfl (lv_at hl 1 rfl) ?_
  refine lv_iload_n hx hb dX5_read_3 rfl (lv_at hl 2 rfl) ?_
  refine lv_iload_n hx hb dX5_read_4 rfl (lv_at hl 3 rfl) ?_
  refine va_calli (va_runV (As := [.int a0, .int a1, .int a2]) (rest := [.ref (ad 33)]) ⟨hx, hb, hml, hown, hts⟩ (mX5_wrongAsk l D ca ad base hAd w a0 a1 a2 _ hw) (cwV 3 hts gX5_read_X5_wrongAsk rfl rfl rfl (by decide +kernel) ⟨Nat.le_of_ble_eq_true rfl, Nat.le_of_ble_eq_true rfl⟩) (pv [.int a0, .int a1, .int a2] hK hP hbs hS rfl (wg33 ca ad w)) rfl rfl hl.1 rfl (lv_room (Nat.le_of_ble_eq_true rfl)) dX5_read_5 ⟨Nat.le_of_ble_eq_true rfl, Nat.le_of_ble_eq_true rfl⟩) hS (fun q _ h => h) (fun q h => h) (fun r_29 w_28 t H locs ht hvm hw hP hz1 hk1 hS => ?_)
  have hP : PA D ca ad w_28 H := by rw [← ht]; exact hP
  refine va_put (D := D) (ci := 7) (v := .int r_29) (ty := .int) (C := RX5) (T := TX5) (N := 30) hx hb hts in_X5 tyX5 tyX5_ok nmX5 hown hK hP (DA hAd) hS 33 (wg33 ca ad w_28) rfl 25 (by decide) lk_87 (fun _ h9 => h9) rfl (by decide +kernel) rfl rfl (Nat.le_of_ble_eq_true rfl) dX5_read_8 (fun H locs hP hD hS => ?_)
  obtain ⟨w_30, e_31⟩ : ∃ z : St, z = (uI w_28 67 r_29) := ⟨_, rfl⟩
  have hP : PA D ca ad w_30 H := by rw [e_31]; exact wf67 hP
  have hw := hw w_30 e_31
  refine lv_aload_n hx hb dX5_read_11 rfl (lv_at hl 0 rfl) ?_
  refine va_get (D := D) (ci := 7) (v := .int (w_30.1 67 0)) (C := RX5) (T := TX5) (N := 30) hx hb hts in_X5 hown hK hP 33 (wg33 ca ad w_30) rfl 25 (by decide) lk_87 (fun _ h9 => h9) rfl dX5_read_12 ?_
  refine lv_if_ne (tgt := 32) hx hb dX5_read_15 (by decide) (fun c_32 => ?_) (fun c_32 => ?_)
  · have hw := hw.2 c_32
    exact hB32 w_30 hw _ _ hP hS ls (lv_sub hl [0, 1, 2, 3] rfl)
  · have hw := hw.1 c_32
    refine lv_aload_n hx hb dX5_read_18 rfl (lv_at hl 0 rfl) ?_
    refine lv_iload_n hx hb dX5_read_19 rfl (lv_at hl 1 rfl) ?_
    refine lv_iload_n hx hb dX5_read_20 rfl (lv_at hl 3 rfl) ?_
    refine va_calli (va_runV (As := [.int a0, .int a2]) (rest := []) ⟨hx, hb, hml, hown, hts⟩ (mX5_cannotAsk l D ca ad base hAd w_30 a0 a2 _ hw) (cwV 2 hts gX5_read_X5_cannotAsk rfl rfl rfl (by decide +kernel) ⟨Nat.le_of_ble_eq_true rfl, Nat.le_of_ble_eq_true rfl⟩) (pv [.int a0, .int a2] hK hP hbs hS rfl (wg33 ca ad w_30)) rfl rfl hl.1 rfl (lv_room (Nat.le_of_ble_eq_true rfl)) dX5_read_21 ⟨Nat.le_of_ble_eq_true rfl, Nat.le_of_ble_eq_true rfl⟩) hS (fun q _ h => h) (fun q h => h) (fun r_34 w_33 t H locs ht hvm hw hP hz1 hk1 hS => ?_)
    have hP : PA D ca ad w_33 H := by rw [← ht]; exact hP
    refine lv_if_eq (tgt := 32) hx hb dX5_read_24 (by decide) (fun c_35 => ?_) (fun c_35 => ?_)
    · have hw := hw.1 c_35
      exact hB32 w_33 hw _ _ hP hS ls (lv_sub hl [0, 1, 2, 3] rfl)
    · have hw := hw.2 c_35
      refine lv_aload_n hx hb dX5_read_27 rfl (lv_at hl 0 rfl) ?_
      refine lv_iconst (v := 3) hx hb dX5_read_28 (by decide) ?_
      refine va_put (D := D) (ci := 7) (v := .int 3) (ty := .int) (C := RX5) (T := TX5) (N := 30) hx hb hts in_X5 tyX5 tyX5_ok nmX5 hown hK hP (DA hAd) hS 33 (wg33 ca ad w_33) rfl 25 (by decide) lk_87 (fun _ h9 => h9) rfl (by decide +kernel) rfl rfl (Nat.le_of_ble_eq_true rfl) dX5_read_29 (fun H locs hP hD hS => ?_)
      obtain ⟨w_36, e_37⟩ : ∃ z : St, z = (uI w_33 67 3) := ⟨_, rfl⟩
      have hP : PA D ca ad w_36 H := by rw [e_37]; exact wf67 hP
      have hw := hw w_36 e_37
      exact hB32 w_36 hw _ _ hP hS ls (lv_sub hl [0, 1, 2, 3] rfl)
set_option maxHeartbeats 4000000 in
set_option maxRecDepth 100000 in
def wpX5_isClaimed (a0 : Int32) (a1 : Int32) (w : St) (post : Int32 → St → Prop) : Prop := (vp_in a0 6) ∧ (((w.1 36 (a0).toNatClampNeg) = 0 → (wpX5_at a0 a1 w (fun r_4 w_3 => (vp_in r_4 24) ∧ (((w_3.1 37 (r_4).toNatClampNeg) = 0 → (post 0 w_3)) ∧ (¬ ((w_3.1 37 (r_4).toNatClampNeg) = 0) → (wpX5_clock a0 w_3 (fun r_8 w_7 => wpX5_at a0 a1 w_7 (fun r_10 w_9 => (vp_in r_10 24) ∧ ((8 ≤ (r_8 - (w_9.1 44 (r_10).toNatClampNeg)) → (post 0 w_9)) ∧ (¬ (8 ≤ (r_8 - (w_9.1 44 (r_10).toNatClampNeg))) → (post 1 w_9))))))))))) ∧ (¬ ((w.1 36 (a0).toNatClampNeg) = 0) → (post 0 w)))
set_option maxHeartbeats 4000000 in
set_option maxRecDepth 100000 in
theorem mX5_isClaimed (l : Launch) (D : va_G) (ca : Nat → ClassId) (ad : Nat → Nat) (base : Nat) (hAd : okA base ad) (w : St) (a0 : Int32) (a1 : Int32) (post : Int32 → St → Prop) (hw : wpX5_isClaimed a0 a1 w post) : Met l yX5_isClaimed wsX5_isClaimed ({ frames := 1, cells := 0, slots := 0, locals := 21 } : Room) (va_Pc [.ref (ad 33), .int a0, .int a1] (BU D ca ad base w)) (va_Qi post (Bp D ca ad) (AB base)) 0 0 (AB base) := by
  refine Met.ofW (cc := cX5_isClaimed) (maxL := 3) (ret := (some .boolean)) (by decide) rfl ?_
  intro p e s m args below meth c s₁ B hml hv
  obtain ⟨rfl, hbs, hP, hK⟩ := hv
  have hx := B.exec
  have hb := B.bytes
  have hr := B.returns
  have hts := atoms_spec (ws := wsX5_isClaimed) B.pre
  have hown : s.vm.findClass RX5 = some m.cls := findClass_of_methodNamed B.named
  have hlocks := B.notSynchronized
  have in_X5 : ∀ w ∈ wsX50, w ∈ wsX5_isClaimed := by decide +kernel
  have lk_16 := hts (.fieldLink RX5 16 "LockQuorumModel" "arePaused" "[Z") (by decide +kernel)
  have lk_19 := hts (.fieldLink RX5 19 "LockQuorumModel" "claim" "[Z") (by decide +kernel)
  have lk_41 := hts (.fieldLink RX5 41 "LockQuorumModel" "claimed" "[I") (by decide +kernel)
  have hS : va_S (AB base) s.heap s.heap [] := va_S.rf
  have hl := lv_entry ([.ref (ad 33), .int a0, .int a1]) (n := 3) (Nat.le_of_ble_eq_true rfl)
  rw [lg_entry_eq]
  generalize (lg_sl ([.ref (ad 33), .int a0, .int a1]) ++ List.replicate (3 - (lg_sl ([.ref (ad 33), .int a0, .int a1])).length) Slot.unset).toArray = ls at hl ⊢
  have hl : lv_has ls 3 [(0, .ref (ad 33)), (1, .int a0), (2, .int a1)] := hl
  refine lv_aload_n hx hb dX5_isClaimed_0 rfl (lv_at hl 0 rfl) ?_
  refine va_get (D := D) (ci := 7) (v := .ref (ad 36)) (C := RX5) (T := TX5) (N := 30) hx hb hts in_X5 hown hK hP 33 (wg33 ca ad w) rfl 2 (by decide) lk_16 (fun _ h9 => h9) rfl dX5_isClaimed_1 ?_
  refine lv_iload_n hx hb dX5_isClaimed_4 rfl (lv_at hl 1 rfl) ?_
  obtain ⟨h_1, hw⟩ := hw
  refine va_zald hx hb hK hP 36 1 (wg36 ca ad w) rfl h_1 dX5_isClaimed_5 ?_
  refine lv_if_ne (tgt := 47) hx hb dX5_isClaimed_6 (by decide) (fun c_2 => ?_) (fun c_2 => ?_)
  · have hw := hw.2 c_2
    refine lv_iconst (v := 0) hx hb dX5_isClaimed_47 (by decide) ?_
    exact W.zret (v := 0) hx hb hr (by decide) (fun t ht hW => ⟨⟨0, w, rfl, hw, by show PA D ca ad w t.heap; rw [ht]; exact hP⟩, hS.F ht⟩) hS.2.2 dX5_isClaimed_48
  · have hw := hw.1 c_2
    refine lv_aload_n hx hb dX5_isClaimed_9 rfl (lv_at hl 0 rfl) ?_
    refine va_get (D := D) (ci := 7) (v := .ref (ad 37)) (C := RX5) (T := TX5) (N := 30) hx hb hts in_X5 hown hK hP 33 (wg33 ca ad w) rfl 3 (by decide) lk_19 (fun _ h9 => h9) rfl dX5_isClaimed_10 ?_
    refine lv_iload_n hx hb dX5_isClaimed_13 rfl (lv_at hl 1 rfl) ?_
    refine lv_iload_n hx hb dX5_isClaimed_14 rfl (lv_at hl 2 rfl) ?_
    refine va_calli (va_runS (As := [.int a0, .int a1]) (rest := [.ref (ad 37)]) ⟨hx, hb, hml, hown, hts⟩ (mX5_at l D ca ad base hAd w a0 a1 _ hw) (va_cwS 2 hts gX5_isClaimed_X5_at rfl rfl rfl (by decide +kernel) ⟨Nat.le_of_ble_eq_true rfl, Nat.le_of_ble_eq_true rfl⟩) (ps [.int a0, .int a1] hK hP hbs hS) rfl rfl hl.1 rfl (lv_room (Nat.le_of_ble_eq_true rfl)) dX5_isClaimed_15 ⟨Nat.le_of_ble_eq_true rfl, Nat.le_of_ble_eq_true rfl⟩) hS (fun q _ h => h) (fun q h => h) (fun r_4 w_3 t H locs ht hvm hw hP hz1 hk1 hS => ?_)
    have hP : PA D ca ad w_3 H := by rw [← ht]; exact hP
    obtain ⟨h_5, hw⟩ := hw
    refine va_zald hx hb hK hP 37 1 (wg37 ca ad w_3) rfl h_5 dX5_isClaimed_18 ?_
    refine lv_if_eq (tgt := 47) hx hb dX5_isClaimed_19 (by decide) (fun c_6 => ?_) (fun c_6 => ?_)
    · have hw := hw.1 c_6
      refine lv_iconst (v := 0) hx hb dX5_isClaimed_47 (by decide) ?_
      exact W.zret (v := 0) hx hb hr (by decide) (fun t ht hW => ⟨⟨0, w_3, rfl, hw, by show PA D ca ad w_3 t.heap; rw [ht]; exact hP⟩, hS.F ht⟩) hS.2.2 dX5_isClaimed_48
    · have hw := hw.2 c_6
      refine lv_aload_n hx hb dX5_isClaimed_22 rfl (lv_at hl 0 rfl) ?_
      refine lv_iload_n hx hb dX5_isClaimed_23 rfl (lv_at hl 1 rfl) ?_
      refine va_calli (va_runV (As := [.int a0]) (rest := []) ⟨hx, hb, hml, hown, hts⟩ (mX5_clock l D ca ad base hAd w_3 a0 _ hw) (cwV 1 hts gX5_isClaimed_X5_clock rfl rfl rfl (by decide +kernel) ⟨Nat.le_of_ble_eq_true rfl, Nat.le_of_ble_eq_true rfl⟩) (pv [.int a0] hK hP hbs hS rfl (wg33 ca ad w_3)) rfl rfl hl.1 rfl (lv_room (Nat.le_of_ble_eq_true rfl)) dX5_isClaimed_24 ⟨Nat.le_of_ble_eq_true rfl, Nat.le_of_ble_eq_true rfl⟩) hS (fun q _ h => h) (fun q h => h) (fun r_8 w_7 t H locs ht hvm hw hP hz1 hk1 hS => ?_)
      have hP : PA D ca ad w_7 H := by rw [← ht]; exact hP
      refine lv_aload_n hx hb dX5_isClaimed_27 rfl (lv_at hl 0 rfl) ?_
      refine va_get (D := D) (ci := 7) (v := .ref (ad 44)) (C := RX5) (T := TX5) (N := 30) hx hb hts in_X5 hown hK hP 33 (wg33 ca ad w_7) rfl 10 (by decide) lk_41 (fun _ h9 => h9) rfl dX5_isClaimed_28 ?_
      refine lv_iload_n hx hb dX5_isClaimed_31 rfl (lv_at hl 1 rfl) ?_
      refine lv_iload_n hx hb dX5_isClaimed_32 rfl (lv_at hl 2 rfl) ?_
      refine va_calli (va_runS (As := [.int a0, .int a1]) (rest := [.ref (ad 44), .int r_8]) ⟨hx, hb, hml, hown, hts⟩ (mX5_at l D ca ad base hAd w_7 a0 a1 _ hw) (va_cwS 2 hts gX5_isClaimed_X5_at rfl rfl rfl (by decide +kernel) ⟨Nat.le_of_ble_eq_true rfl, Nat.le_of_ble_eq_true rfl⟩) (ps [.int a0, .int a1] hK hP hbs hS) rfl rfl hl.1 rfl (lv_room (Nat.le_of_ble_eq_true rfl)) dX5_isClaimed_33 ⟨Nat.le_of_ble_eq_true rfl, Nat.le_of_ble_eq_true rfl⟩) hS (fun q _ h => h) (fun q h => h) (fun r_10 w_9 t H locs ht hvm hw hP hz1 hk1 hS => ?_)
      have hP : PA D ca ad w_9 H := by rw [← ht]; exact hP
      obtain ⟨h_11, hw⟩ := hw
      refine va_iald hx hb hK hP 44 0 (wg44 ca ad w_9) rfl h_11 dX5_isClaimed_36 ?_
      refine lv_isub hx hb dX5_isClaimed_37 ?_
      refine lv_bipush (v := 8) hx hb dX5_isClaimed_38 (by decide) ?_
      refine lv_icmp_ge (tgt := 47) hx hb dX5_isClaimed_40 (by decide) (fun c_12 => ?_) (fun c_12 => ?_)
      · have hw := hw.1 c_12
        refine lv_iconst (v := 0) hx hb dX5_isClaimed_47 (by decide) ?_
        exact W.zret (v := 0) hx hb hr (by decide) (fun t ht hW => ⟨⟨0, w_9, rfl, hw, by show PA D ca ad w_9 t.heap; rw [ht]; exact hP⟩, hS.F ht⟩) hS.2.2 dX5_isClaimed_48
      · have hw := hw.2 c_12
        refine lv_iconst (v := 1) hx hb dX5_isClaimed_43 (by decide) ?_
        refine lv_goto (tgt := 48) hx hb dX5_isClaimed_44 (by decide) ?_
        exact W.zret (v := 1) hx hb hr (by decide) (fun t ht hW => ⟨⟨1, w_9, rfl, hw, by show PA D ca ad w_9 t.heap; rw [ht]; exact hP⟩, hS.F ht⟩) hS.2.2 dX5_isClaimed_48
set_option maxHeartbeats 4000000 in
set_option maxRecDepth 100000 in
def wpX5_isBlocked_B38 (a0 : Int32) (post : Int32 → St → Prop) (K2 : Int32 → St → Prop) (v2 : Int32) (w : St) : Prop := K2 (v2 + 1) w
set_option maxHeartbeats 4000000 in
set_option maxRecDepth 100000 in
def wpX5_isBlocked_L2 (a0 : Int32) (post : Int32 → St → Prop) : Nat → Int32 → St → Prop
  | 0, _, _ => False
  | n + 1, v2, w => ((w.1 69 0) ≤ v2 → (post 0 w)) ∧ (¬ ((w.1 69 0) ≤ v2) → ((vp_in v2 6) ∧ (((w.1 36 (v2).toNatClampNeg) = 0 → (wpX5_isBlocked_B38 a0 post (fun v2 w => wpX5_isBlocked_L2 a0 post n v2 w) v2 w)) ∧ (¬ ((w.1 36 (v2).toNatClampNeg) = 0) → (wpX5_at v2 a0 w (fun r_5 w_4 => (vp_in r_5 24) ∧ (((w_4.1 47 (r_5).toNatClampNeg) ≤ (w_4.1 68 0) → (wpX5_isBlocked_B38 a0 post (fun v2 w => wpX5_isBlocked_L2 a0 post n v2 w) v2 w_4)) ∧ (¬ ((w_4.1 47 (r_5).toNatClampNeg) ≤ (w_4.1 68 0)) → (post 1 w_4)))))))))
set_option maxHeartbeats 4000000 in
set_option maxRecDepth 100000 in
def wpX5_isBlocked (a0 : Int32) (w : St) (post : Int32 → St → Prop) : Prop := ∃ n : Nat, wpX5_isBlocked_L2 a0 post n 0 w
set_option maxHeartbeats 4000000 in
set_option maxRecDepth 100000 in
theorem mX5_isBlocked (l : Launch) (D : va_G) (ca : Nat → ClassId) (ad : Nat → Nat) (base : Nat) (hAd : okA base ad) (w : St) (a0 : Int32) (post : Int32 → St → Prop) (hw : wpX5_isBlocked a0 w post) : Met l yX5_isBlocked wsX5_isBlocked ({ frames := 1, cells := 0, slots := 0, locals := 21 } : Room) (va_Pc [.ref (ad 33), .int a0] (BU D ca ad base w)) (va_Qi post (Bp D ca ad) (AB base)) 0 0 (AB base) := by
  refine Met.ofW (cc := cX5_isBlocked) (maxL := 3) (ret := (some .boolean)) (by decide) rfl ?_
  intro p e s m args below meth c s₁ B hml hv
  obtain ⟨rfl, hbs, hP, hK⟩ := hv
  have hx := B.exec
  have hb := B.bytes
  have hr := B.returns
  have hts := atoms_spec (ws := wsX5_isBlocked) B.pre
  have hown : s.vm.findClass RX5 = some m.cls := findClass_of_methodNamed B.named
  have hlocks := B.notSynchronized
  have in_X5 : ∀ w ∈ wsX50, w ∈ wsX5_isBlocked := by decide +kernel
  have lk_16 := hts (.fieldLink RX5 16 "LockQuorumModel" "arePaused" "[Z") (by decide +kernel)
  have lk_50 := hts (.fieldLink RX5 50 "LockQuorumModel" "notedTo" "[I") (by decide +kernel)
  have lk_91 := hts (.fieldLink RX5 91 "LockQuorumModel" "time" "I") (by decide +kernel)
  have lk_94 := hts (.fieldLink RX5 94 "LockQuorumModel" "clients" "I") (by decide +kernel)
  have hS : va_S (AB base) s.heap s.heap [] := va_S.rf
  have hB2 : ∀ (n : Nat) (v2 : Int32) (w : St), wpX5_isBlocked_L2 a0 post n v2 w → ∀ (H : Heap) (locs : List Loc), PA D ca ad w H → va_S (AB base) s.heap H locs → ∀ ls : Array Slot, lv_has ls 3 [(0, .ref (ad 33)), (1, .int a0), (2, .int v2)] → W p l e (headSpec wsX5_isBlocked ({ frames := 1, cells := 0, slots := 0, locals := 21 } : Room)).room s m ([Value.ref (ad 33), Value.int a0].toArray) below meth c H locs 0 0 (MQ below (va_Qi post (Bp D ca ad) (AB base)) ([Value.ref (ad 33), Value.int a0].toArray) s 0 0 (AB base)) (F0 m 2 ls []) := by
    intro n
    induction n with
    | zero => intro v2 w hw; exact hw.elim
    | succ n ih2 =>
      have hB38 : ∀ (v2 : Int32) (w : St), wpX5_isBlocked_B38 a0 post (fun v2 w => wpX5_isBlocked_L2 a0 post n v2 w) v2 w → ∀ (H : Heap) (locs : List Loc), PA D ca ad w H → va_S (AB base) s.heap H locs → ∀ ls : Array Slot, lv_has ls 3 [(0, .ref (ad 33)), (1, .int a0), (2, .int v2)] → W p l e (headSpec wsX5_isBlocked ({ frames := 1, cells := 0, slots := 0, locals := 21 } : Room)).room s m ([Value.ref (ad 33), Value.int a0].toArray) below meth c H locs 0 0 (MQ below (va_Qi post (Bp D ca ad) (AB base)) ([Value.ref (ad 33), Value.int a0].toArray) s 0 0 (AB base)) (F0 m 38 ls []) := by
        intro v2 w hw H locs hP hS ls hl
        refine lv_iinc (v := (v2 + 1)) (lv' := [(2, .int (v2 + 1)), (0, .ref (ad 33)), (1, .int a0)]) hx hb dX5_isBlocked_38 hl (k := 2) rfl rfl (by decide) rfl (fun ls hl => ?_)
        refine lv_goto (tgt := 2) hx hb dX5_isBlocked_41 (by decide) ?_
        exact ih2 (v2 + 1) w hw _ _ hP hS ls (lv_sub hl [1, 2, 0] rfl)
      intro v2 w hw H locs hP hS ls hl
      refine lv_iload_n hx hb dX5_isBlocked_2 rfl (lv_at hl 2 rfl) ?_
      refine lv_aload_n hx hb dX5_isBlocked_3 rfl (lv_at hl 0 rfl) ?_
      refine va_get (D := D) (ci := 7) (v := .int (w.1 69 0)) (C := RX5) (T := TX5) (N := 30) hx hb hts in_X5 hown hK hP 33 (wg33 ca ad w) rfl 27 (by decide) lk_94 (fun _ h9 => h9) rfl dX5_isBlocked_4 ?_
      refine lv_icmp_ge (tgt := 44) hx hb dX5_isBlocked_7 (by decide) (fun c_1 => ?_) (fun c_1 => ?_)
      · have hw := hw.1 c_1
        refine lv_iconst (v := 0) hx hb dX5_isBlocked_44 (by decide) ?_
        exact W.zret (v := 0) hx hb hr (by decide) (fun t ht hW => ⟨⟨0, w, rfl, hw, by show PA D ca ad w t.heap; rw [ht]; exact hP⟩, hS.F ht⟩) hS.2.2 dX5_isBlocked_45
      · have hw := hw.2 c_1
        refine lv_aload_n hx hb dX5_isBlocked_10 rfl (lv_at hl 0 rfl) ?_
        refine va_get (D := D) (ci := 7) (v := .ref (ad 36)) (C := RX5) (T := TX5) (N := 30) hx hb hts in_X5 hown hK hP 33 (wg33 ca ad w) rfl 2 (by decide) lk_16 (fun _ h9 => h9) rfl dX5_isBlocked_11 ?_
        refine lv_iload_n hx hb dX5_isBlocked_14 rfl (lv_at hl 2 rfl) ?_
        obtain ⟨h_2, hw⟩ := hw
        refine va_zald hx hb hK hP 36 1 (wg36 ca ad w) rfl h_2 dX5_isBlocked_15 ?_
        refine lv_if_eq (tgt := 38) hx hb dX5_isBlocked_16 (by decide) (fun c_3 => ?_) (fun c_3 => ?_)
        · have hw := hw.1 c_3
          exact hB38 v2 w hw _ _ hP hS ls (lv_sub hl [0, 1, 2] rfl)
        · have hw := hw.2 c_3
          refine lv_aload_n hx hb dX5_isBlocked_19 rfl (lv_at hl 0 rfl) ?_
          refine va_get (D := D) (ci := 7) (v := .ref (ad 47)) (C := RX5) (T := TX5) (N := 30) hx hb hts in_X5 hown hK hP 33 (wg33 ca ad w) rfl 13 (by decide) lk_50 (fun _ h9 => h9) rfl dX5_isBlocked_20 ?_
          refine lv_iload_n hx hb dX5_isBlocked_23 rfl (lv_at hl 2 rfl) ?_
          refine lv_iload_n hx hb dX5_isBlocked_24 rfl (lv_at hl 1 rfl) ?_
          refine va_calli (va_runS (As := [.int v2, .int a0]) (rest := [.ref (ad 47)]) ⟨hx, hb, hml, hown, hts⟩ (mX5_at l D ca ad base hAd w v2 a0 _ hw) (va_cwS 2 hts gX5_isBlocked_X5_at rfl rfl rfl (by decide +kernel) ⟨Nat.le_of_ble_eq_true rfl, Nat.le_of_ble_eq_true rfl⟩) (ps [.int v2, .int a0] hK hP hbs hS) rfl rfl hl.1 rfl (lv_room (Nat.le_of_ble_eq_true rfl)) dX5_isBlocked_25 ⟨Nat.le_of_ble_eq_true rfl, Nat.le_of_ble_eq_true rfl⟩) hS (fun q _ h => h) (fun q h => h) (fun r_5 w_4 t H locs ht hvm hw hP hz1 hk1 hS => ?_)
          have hP : PA D ca ad w_4 H := by rw [← ht]; exact hP
          obtain ⟨h_6, hw⟩ := hw
          refine va_iald hx hb hK hP 47 0 (wg47 ca ad w_4) rfl h_6 dX5_isBlocked_28 ?_
          refine lv_aload_n hx hb dX5_isBlocked_29 rfl (lv_at hl 0 rfl) ?_
          refine va_get (D := D) (ci := 7) (v := .int (w_4.1 68 0)) (C := RX5) (T := TX5) (N := 30) hx hb hts in_X5 hown hK hP 33 (wg33 ca ad w_4) rfl 26 (by decide) lk_91 (fun _ h9 => h9) rfl dX5_isBlocked_30 ?_
          refine lv_icmp_le (tgt := 38) hx hb dX5_isBlocked_33 (by decide) (fun c_7 => ?_) (fun c_7 => ?_)
          · have hw := hw.1 c_7
            exact hB38 v2 w_4 hw _ _ hP hS ls (lv_sub hl [0, 1, 2] rfl)
          · have hw := hw.2 c_7
            refine lv_iconst (v := 1) hx hb dX5_isBlocked_36 (by decide) ?_
            exact W.zret (v := 1) hx hb hr (by decide) (fun t ht hW => ⟨⟨1, w_4, rfl, hw, by show PA D ca ad w_4 t.heap; rw [ht]; exact hP⟩, hS.F ht⟩) hS.2.2 dX5_isBlocked_37
  have hl := lv_entry ([.ref (ad 33), .int a0]) (n := 3) (Nat.le_of_ble_eq_true rfl)
  rw [lg_entry_eq]
  generalize (lg_sl ([.ref (ad 33), .int a0]) ++ List.replicate (3 - (lg_sl ([.ref (ad 33), .int a0])).length) Slot.unset).toArray = ls at hl ⊢
  have hl : lv_has ls 3 [(0, .ref (ad 33)), (1, .int a0)] := hl
  refine lv_iconst (v := 0) hx hb dX5_isBlocked_0 (by decide) ?_
  refine lv_istore_n (lv' := [(2, .int 0), (0, .ref (ad 33)), (1, .int a0)]) hx hb dX5_isBlocked_1 rfl hl (by decide) rfl (fun ls hl => ?_)
  obtain ⟨n_2, hw⟩ := hw
  exact hB2 n_2 0 w hw _ _ hP hS ls (lv_sub hl [1, 2, 0] rfl)
set_option maxHeartbeats 4000000 in
set_option maxRecDepth 100000 in
def wpX5_write_L118 (a0 : Int32) (a1 : Int32) (a2 : Int32) (a3 : Int32) (post : Int32 → St → Prop) : Nat → Int32 → St → Prop
  | 0, _, _ => False
  | n + 1, v6, w => ((w.1 69 0) ≤ v6 → ((vp_in a1 4) ∧ (∀ w_3 : St, w_3 = (uA w 52 (upd (w.1 52) (a1).toNatClampNeg a3)) → wpX5_enters 118 a0 a1 a2 w_3 (fun r_6 w_5 => (narrow .char (.int r_6) = .int r_6) ∧ post r_6 w_5)))) ∧ (¬ ((w.1 69 0) ≤ v6) → (wpX5_at v6 a1 w (fun r_8 w_7 => (vp_in r_8 24) ∧ (∀ w_10 : St, w_10 = (uA w_7 38 (upd (w_7.1 38) (r_8).toNatClampNeg (vp_nar .boolean 0))) → wpX5_at v6 a1 w_10 (fun r_13 w_12 => (vp_in r_13 24) ∧ (∀ w_15 : St, w_15 = (uA w_12 47 (upd (w_12.1 47) (r_13).toNatClampNeg 0)) → wpX5_write_L118 a0 a1 a2 a3 post n (v6 + 1) w_15))))))
set_option maxHeartbeats 4000000 in
set_option maxRecDepth 100000 in
def wpX5_write_B56 (a0 : Int32) (a1 : Int32) (a2 : Int32) (a3 : Int32) (post : Int32 → St → Prop) (w : St) : Prop := ((w.1 67 0) ≤ 0 → (wpX5_looks a2 w (fun r_19 w_18 => (r_19 = 45 → (wpX5_owns a0 a1 w_18 (fun r_22 w_21 => (r_22 = 0 → (post 111 w_21)) ∧ (¬ (r_22 = 0) → (wpX5_isClaimed a0 a1 w_21 (fun r_25 w_24 => (r_25 = 0 → (post 111 w_24)) ∧ (¬ (r_25 = 0) → (wpX5_isBlocked a1 w_24 (fun r_28 w_27 => (r_28 = 0 → (∃ n : Nat, wpX5_write_L118 a0 a1 a2 a3 post n 0 w_27)) ∧ (¬ (r_28 = 0) → (post 98 w_27))))))))))) ∧ (¬ (r_19 = 45) → ((narrow .char (.int r_19) = .int r_19) ∧ post r_19 w_18))))) ∧ (¬ ((w.1 67 0) ≤ 0) → (post 32 w))
set_option maxHeartbeats 4000000 in
set_option maxRecDepth 100000 in
def wpX5_write_B35 (a0 : Int32) (a1 : Int32) (a2 : Int32) (a3 : Int32) (post : Int32 → St → Prop) (w : St) : Prop := ((w.1 67 0) = 0 → (wpX5_cannotAsk a0 a2 w (fun r_32 w_31 => (r_32 = 0 → (wpX5_write_B56 a0 a1 a2 a3 post w_31)) ∧ (¬ (r_32 = 0) → (∀ w_34 : St, w_34 = (uI w_31 67 4) → wpX5_write_B56 a0 a1 a2 a3 post w_34))))) ∧ (¬ ((w.1 67 0) = 0) → (wpX5_write_B56 a0 a1 a2 a3 post w))
set_option maxHeartbeats 4000000 in
set_option maxRecDepth 100000 in
def wpX5_write (a0 : Int32) (a1 : Int32) (a2 : Int32) (a3 : Int32) (w : St) (post : Int32 → St → Prop) : Prop := wpX5_wrongAsk a0 a1 a2 w (fun r_37 w_36 => ∀ w_38 : St, w_38 = (uI w_36 67 r_37) → ((w_38.1 67 0) = 0 → (wpX5_in a3 0 999 w_38 (fun r_42 w_41 => (r_42 = 0 → (∀ w_44 : St, w_44 = (uI w_41 67 3) → wpX5_write_B35 a0 a1 a2 a3 post w_44)) ∧ (¬ (r_42 = 0) → (wpX5_write_B35 a0 a1 a2 a3 post w_41))))) ∧ (¬ ((w_38.1 67 0) = 0) → (wpX5_write_B35 a0 a1 a2 a3 post w_38)))
set_option maxHeartbeats 4000000 in
set_option maxRecDepth 100000 in
theorem mX5_write (l : Launch) (D : va_G) (ca : Nat → ClassId) (ad : Nat → Nat) (base : Nat) (hAd : okA base ad) (w : St) (a0 : Int32) (a1 : Int32) (a2 : Int32) (a3 : Int32) (post : Int32 → St → Prop) (hw : wpX5_write a0 a1 a2 a3 w post) : Met l yX5_write wsX5_write ({ frames := 3, cells := 0, slots := 0, locals := 68 } : Room) (va_Pc [.ref (ad 33), .int a0, .int a1, .int a2, .int a3] (BU D ca ad base w)) (va_Qi post (Bp D ca ad) (AB base)) 0 0 (AB base) := by
  refine Met.ofW (cc := cX5_write) (maxL := 7) (ret := (some .char)) (by decide) rfl ?_
  intro p e s m args below meth c s₁ B hml hv
  obtain ⟨rfl, hbs, hP, hK⟩ := hv
  have hx := B.exec
  have hb := B.bytes
  have hr := B.returns
  have hts := atoms_spec (ws := wsX5_write) B.pre
  have hown : s.vm.findClass RX5 = some m.cls := findClass_of_methodNamed B.named
  have hlocks := B.notSynchronized
  have in_X5 : ∀ w ∈ wsX50, w ∈ wsX5_write := by decide +kernel
  have lk_22 := hts (.fieldLink RX5 22 "LockQuorumModel" "keep" "[Z") (by decide +kernel)
  have lk_50 := hts (.fieldLink RX5 50 "LockQuorumModel" "notedTo" "[I") (by decide +kernel)
  have lk_65 := hts (.fieldLink RX5 65 "LockQuorumModel" "values" "[I") (by decide +kernel)
  have lk_87 := hts (.fieldLink RX5 87 "LockQuorumModel" "thrown" "I") (by decide +kernel)
  have lk_94 := hts (.fieldLink RX5 94 "LockQuorumModel" "clients" "I") (by decide +kernel)
  have hS : va_S (AB base) s.heap s.heap [] := va_S.rf
  have hB118 : ∀ (n : Nat) (v6 : Int32) (w : St), wpX5_write_L118 a0 a1 a2 a3 post n v6 w → ∀ (H : Heap) (locs : List Loc), PA D ca ad w H → va_S (AB base) s.heap H locs → ∀ ls : Array Slot, lv_has ls 7 [(0, .ref (ad 33)), (1, .int a0), (2, .int a1), (3, .int a2), (4, .int a3), (6, .int v6)] → W p l e (headSpec wsX5_write ({ frames := 3, cells := 0, slots := 0, locals := 68 } : Room)).room s m ([Value.ref (ad 33), Value.int a0, Value.int a1, Value.int a2, Value.int a3].toArray) below meth c H locs 0 0 (MQ below (va_Qi post (Bp D ca ad) (AB base)) ([Value.ref (ad 33), Value.int a0, Value.int a1, Value.int a2, Value.int a3].toArray) s 0 0 (AB base)) (F0 m 118 ls []) := by
    intro n
    induction n with
    | zero => intro v6 w hw; exact hw.elim
    | succ n ih118 =>
      intro v6 w hw H locs hP hS ls hl
      refine lv_iload hx hb dX5_write_118 (lv_at hl 5 rfl) ?_
      refine lv_aload_n hx hb dX5_write_120 rfl (lv_at hl 0 rfl) ?_
      refine va_get (D := D) (ci := 7) (v := .int (w.1 69 0)) (C := RX5) (T := TX5) (N := 30) hx hb hts in_X5 hown hK hP 33 (wg33 ca ad w) rfl 27 (by decide) lk_94 (fun _ h9 => h9) rfl dX5_write_121 ?_
      refine lv_icmp_ge (tgt := 157) hx hb dX5_write_124 (by decide) (fun c_1 => ?_) (fun c_1 => ?_)
      · have hw := hw.1 c_1
        refine lv_aload_n hx hb dX5_write_157 rfl (lv_at hl 0 rfl) ?_
        refine va_get (D := D) (ci := 7) (v := .ref (ad 52)) (C := RX5) (T := TX5) (N := 30) hx hb hts in_X5 hown hK hP 33 (wg33 ca ad w) rfl 18 (by decide) lk_65 (fun _ h9 => h9) rfl dX5_write_158 ?_
        refine lv_iload_n hx hb dX5_write_161 rfl (lv_at hl 2 rfl) ?_
        refine lv_iload hx hb dX5_write_162 (lv_at hl 4 rfl) ?_
        obtain ⟨h_2, hw⟩ := hw
        refine va_iast hx hb hK hP (DA hAd) hS 52 0 (wg52 ca ad w) rfl h_2 dX5_write_164 (fun H locs hP hD hS => ?_)
        obtain ⟨w_3, e_4⟩ : ∃ z : St, z = (uA w 52 (upd (w.1 52) (a1).toNatClampNeg a3)) := ⟨_, rfl⟩
        have hP : PA D ca ad w_3 H := by rw [e_4]; exact wu52 hP
        have hw := hw w_3 e_4
        refine lv_aload_n hx hb dX5_write_165 rfl (lv_at hl 0 rfl) ?_
        refine lv_bipush (v := 118) hx hb dX5_write_166 (by decide) ?_
        refine lv_iload_n hx hb dX5_write_168 rfl (lv_at hl 1 rfl) ?_
        refine lv_iload_n hx hb dX5_write_169 rfl (lv_at hl 2 rfl) ?_
        refine lv_iload_n hx hb dX5_write_170 rfl (lv_at hl 3 rfl) ?_
        refine va_calli (va_runV (As := [.int 118, .int a0, .int a1, .int a2]) (rest := []) ⟨hx, hb, hml, hown, hts⟩ (mX5_enters l D ca ad base hAd w_3 118 a0 a1 a2 _ hw) (cwV 4 hts gX5_write_X5_enters rfl rfl rfl (by decide +kernel) ⟨Nat.le_of_ble_eq_true rfl, Nat.le_of_ble_eq_true rfl⟩) (pv [.int 118, .int a0, .int a1, .int a2] hK hP hbs hS rfl (wg33 ca ad w_3)) rfl rfl hl.1 rfl (lv_room (Nat.le_of_ble_eq_true rfl)) dX5_write_171 ⟨Nat.le_of_ble_eq_true rfl, Nat.le_of_ble_eq_true rfl⟩) hS (fun q _ h => h) (fun q h => h) (fun r_6 w_5 t H locs ht hvm hw hP hz1 hk1 hS => ?_)
        have hP : PA D ca ad w_5 H := by rw [← ht]; exact hP
        obtain ⟨hn9, hw⟩ := hw
        exact W.zret (v := r_6) hx hb hr hn9 (fun t ht hW => ⟨⟨r_6, w_5, rfl, hw, by show PA D ca ad w_5 t.heap; rw [ht]; exact hP⟩, hS.F ht⟩) hS.2.2 dX5_write_174
      · have hw := hw.2 c_1
        refine lv_aload_n hx hb dX5_write_127 rfl (lv_at hl 0 rfl) ?_
        refine va_get (D := D) (ci := 7) (v := .ref (ad 38)) (C := RX5) (T := TX5) (N := 30) hx hb hts in_X5 hown hK hP 33 (wg33 ca ad w) rfl 4 (by decide) lk_22 (fun _ h9 => h9) rfl dX5_write_128 ?_
        refine lv_iload hx hb dX5_write_131 (lv_at hl 5 rfl) ?_
        refine lv_iload_n hx hb dX5_write_133 rfl (lv_at hl 2 rfl) ?_
        refine va_calli (va_runS (As := [.int v6, .int a1]) (rest := [.ref (ad 38)]) ⟨hx, hb, hml, hown, hts⟩ (mX5_at l D ca ad base hAd w v6 a1 _ hw) (va_cwS 2 hts gX5_write_X5_at rfl rfl rfl (by decide +kernel) ⟨Nat.le_of_ble_eq_true rfl, Nat.le_of_ble_eq_true rfl⟩) (ps [.int v6, .int a1] hK hP hbs hS) rfl rfl hl.1 rfl (lv_room (Nat.le_of_ble_eq_true rfl)) dX5_write_134 ⟨Nat.le_of_ble_eq_true rfl, Nat.le_of_ble_eq_true rfl⟩) hS (fun q _ h => h) (fun q h => h) (fun r_8 w_7 t H locs ht hvm hw hP hz1 hk1 hS => ?_)
        have hP : PA D ca ad w_7 H := by rw [← ht]; exact hP
        refine lv_iconst (v := 0) hx hb dX5_write_137 (by decide) ?_
        obtain ⟨h_9, hw⟩ := hw
        refine va_zast hx hb hK hP (DA hAd) hS 38 1 (wg38 ca ad w_7) rfl h_9 dX5_write_138 (fun H locs hP hD hS => ?_)
        obtain ⟨w_10, e_11⟩ : ∃ z : St, z = (uA w_7 38 (upd (w_7.1 38) (r_8).toNatClampNeg (vp_nar .boolean 0))) := ⟨_, rfl⟩
        have hP : PA D ca ad w_10 H := by rw [e_11]; exact wu38 hP
        have hw := hw w_10 e_11
        refine lv_aload_n hx hb dX5_write_139 rfl (lv_at hl 0 rfl) ?_
        refine va_get (D := D) (ci := 7) (v := .ref (ad 47)) (C := RX5) (T := TX5) (N := 30) hx hb hts in_X5 hown hK hP 33 (wg33 ca ad w_10) rfl 13 (by decide) lk_50 (fun _ h9 => h9) rfl dX5_write_140 ?_
        refine lv_iload hx hb dX5_write_143 (lv_at hl 5 rfl) ?_
        refine lv_iload_n hx hb dX5_write_145 rfl (lv_at hl 2 rfl) ?_
        refine va_calli (va_runS (As := [.int v6, .int a1]) (rest := [.ref (ad 47)]) ⟨hx, hb, hml, hown, hts⟩ (mX5_at l D ca ad base hAd w_10 v6 a1 _ hw) (va_cwS 2 hts gX5_write_X5_at rfl rfl rfl (by decide +kernel) ⟨Nat.le_of_ble_eq_true rfl, Nat.le_of_ble_eq_true rfl⟩) (ps [.int v6, .int a1] hK hP hbs hS) rfl rfl hl.1 rfl (lv_room (Nat.le_of_ble_eq_true rfl)) dX5_write_146 ⟨Nat.le_of_ble_eq_true rfl, Nat.le_of_ble_eq_true rfl⟩) hS (fun q _ h => h) (fun q h => h) (fun r_13 w_12 t H locs ht hvm hw hP hz1 hk1 hS => ?_)
        have hP : PA D ca ad w_12 H := by rw [← ht]; exact hP
        refine lv_iconst (v := 0) hx hb dX5_write_149 (by decide) ?_
        obtain ⟨h_14, hw⟩ := hw
        refine va_iast hx hb hK hP (DA hAd) hS 47 0 (wg47 ca ad w_12) rfl h_14 dX5_write_150 (fun H locs hP hD hS => ?_)
        obtain ⟨w_15, e_16⟩ : ∃ z : St, z = (uA w_12 47 (upd (w_12.1 47) (r_13).toNatClampNeg 0)) := ⟨_, rfl⟩
        have hP : PA D ca ad w_15 H := by rw [e_16]; exact wu47 hP
        have hw := hw w_15 e_16
        refine lv_iinc (v := (v6 + 1)) (lv' := [(6, .int (v6 + 1)), (0, .ref (ad 33)), (1, .int a0), (2, .int a1), (3, .int a2), (4, .int a3)]) hx hb dX5_write_151 hl (k := 5) rfl rfl (by decide) rfl (fun ls hl => ?_)
        refine lv_goto (tgt := 118) hx hb dX5_write_154 (by decide) ?_
        exact ih118 (v6 + 1) w_15 hw _ _ hP hS ls (lv_sub hl [1, 2, 3, 4, 5, 0] rfl)
  have hB56 : ∀ (w : St), wpX5_write_B56 a0 a1 a2 a3 post w → ∀ (H : Heap) (locs : List Loc), PA D ca ad w H → va_S (AB base) s.heap H locs → ∀ ls : Array Slot, lv_has ls 7 [(0, .ref (ad 33)), (1, .int a0), (2, .int a1), (3, .int a2), (4, .int a3)] → W p l e (headSpec wsX5_write ({ frames := 3, cells := 0, slots := 0, locals := 68 } : Room)).room s m ([Value.ref (ad 33), Value.int a0, Value.int a1, Value.int a2, Value.int a3].toArray) below meth c H locs 0 0 (MQ below (va_Qi post (Bp D ca ad) (AB base)) ([Value.ref (ad 33), Value.int a0, Value.int a1, Value.int a2, Value.int a3].toArray) s 0 0 (AB base)) (F0 m 56 ls []) := by
    intro w hw H locs hP hS ls hl
    refine lv_aload_n hx hb dX5_write_56 rfl (lv_at hl 0 rfl) ?_
    refine va_get (D := D) (ci := 7) (v := .int (w.1 67 0)) (C := RX5) (T := TX5) (N := 30) hx hb hts in_X5 hown hK hP 33 (wg33 ca ad w) rfl 25 (by decide) lk_87 (fun _ h9 => h9) rfl dX5_write_57 ?_
    refine lv_if_le (tgt := 66) hx hb dX5_write_60 (by decide) (fun c_17 => ?_) (fun c_17 => ?_)
    · have hw := hw.1 c_17
      refine lv_aload_n hx hb dX5_write_66 rfl (lv_at hl 0 rfl) ?_
      refine lv_iload_n hx hb dX5_write_67 rfl (lv_at hl 3 rfl) ?_
      refine va_calli (va_runV (As := [.int a2]) (rest := []) ⟨hx, hb, hml, hown, hts⟩ (mX5_looks l D ca ad base hAd w a2 _ hw) (cwV 1 hts gX5_write_X5_looks rfl rfl rfl (by decide +kernel) ⟨Nat.le_of_ble_eq_true rfl, Nat.le_of_ble_eq_true rfl⟩) (pv [.int a2] hK hP hbs hS rfl (wg33 ca ad w)) rfl rfl hl.1 rfl (lv_room (Nat.le_of_ble_eq_true rfl)) dX5_write_68 ⟨Nat.le_of_ble_eq_true rfl, Nat.le_of_ble_eq_true rfl⟩) hS (fun q _ h => h) (fun q h => h) (fun r_19 w_18 t H locs ht hvm hw hP hz1 hk1 hS => ?_)
      have hP : PA D ca ad w_18 H := by rw [← ht]; exact hP
      refine lv_istore (lv' := [(5, .int r_19), (0, .ref (ad 33)), (1, .int a0), (2, .int a1), (3, .int a2), (4, .int a3)]) hx hb dX5_write_71 hl (by decide) rfl (fun ls hl => ?_)
      refine lv_iload hx hb dX5_write_73 (lv_at hl 0 rfl) ?_
      refine lv_bipush (v := 45) hx hb dX5_write_75 (by decide) ?_
      refine lv_icmp_eq (tgt := 83) hx hb dX5_write_77 (by decide) (fun c_20 => ?_) (fun c_20 => ?_)
      · have hw := hw.1 c_20
        refine lv_aload_n hx hb dX5_write_83 rfl (lv_at hl 1 rfl) ?_
        refine lv_iload_n hx hb dX5_write_84 rfl (lv_at hl 2 rfl) ?_
        refine lv_iload_n hx hb dX5_write_85 rfl (lv_at hl 3 rfl) ?_
        refine va_calli (va_runV (As := [.int a0, .int a1]) (rest := []) ⟨hx, hb, hml, hown, hts⟩ (mX5_owns l D ca ad base hAd w_18 a0 a1 _ hw) (cwV 2 hts gX5_write_X5_owns rfl rfl rfl (by decide +kernel) ⟨Nat.le_of_ble_eq_true rfl, Nat.le_of_ble_eq_true rfl⟩) (pv [.int a0, .int a1] hK hP hbs hS rfl (wg33 ca ad w_18)) rfl rfl hl.1 rfl (lv_room (Nat.le_of_ble_eq_true rfl)) dX5_write_86 ⟨Nat.le_of_ble_eq_true rfl, Nat.le_of_ble_eq_true rfl⟩) hS (fun q _ h => h) (fun q h => h) (fun r_22 w_21 t H locs ht hvm hw hP hz1 hk1 hS => ?_)
        have hP : PA D ca ad w_21 H := by rw [← ht]; exact hP
        refine lv_if_eq (tgt := 101) hx hb dX5_write_89 (by decide) (fun c_23 => ?_) (fun c_23 => ?_)
        · have hw := hw.1 c_23
          refine lv_bipush (v := 111) hx hb dX5_write_101 (by decide) ?_
          exact W.zret (v := 111) hx hb hr (by decide) (fun t ht hW => ⟨⟨111, w_21, rfl, hw, by show PA D ca ad w_21 t.heap; rw [ht]; exact hP⟩, hS.F ht⟩) hS.2.2 dX5_write_103
        · have hw := hw.2 c_23
          refine lv_aload_n hx hb dX5_write_92 rfl (lv_at hl 1 rfl) ?_
          refine lv_iload_n hx hb dX5_write_93 rfl (lv_at hl 2 rfl) ?_
          refine lv_iload_n hx hb dX5_write_94 rfl (lv_at hl 3 rfl) ?_
          refine va_calli (va_runV (As := [.int a0, .int a1]) (rest := []) ⟨hx, hb, hml, hown, hts⟩ (mX5_isClaimed l D ca ad base hAd w_21 a0 a1 _ hw) (cwV 2 hts gX5_write_X5_isClaimed rfl rfl rfl (by decide +kernel) ⟨Nat.le_of_ble_eq_true rfl, Nat.le_of_ble_eq_true rfl⟩) (pv [.int a0, .int a1] hK hP hbs hS rfl (wg33 ca ad w_21)) rfl rfl hl.1 rfl (lv_room (Nat.le_of_ble_eq_true rfl)) dX5_write_95 ⟨Nat.le_of_ble_eq_true rfl, Nat.le_of_ble_eq_true rfl⟩) hS (fun q _ h => h) (fun q h => h) (fun r_25 w_24 t H locs ht hvm hw hP hz1 hk1 hS => ?_)
          have hP : PA D ca ad w_24 H := by rw [← ht]; exact hP
          refine lv_if_ne (tgt := 104) hx hb dX5_write_98 (by decide) (fun c_26 => ?_) (fun c_26 => ?_)
          · have hw := hw.2 c_26
            refine lv_aload_n hx hb dX5_write_104 rfl (lv_at hl 1 rfl) ?_
            refine lv_iload_n hx hb dX5_write_105 rfl (lv_at hl 3 rfl) ?_
            refine va_calli (va_runV (As := [.int a1]) (rest := []) ⟨hx, hb, hml, hown, hts⟩ (mX5_isBlocked l D ca ad base hAd w_24 a1 _ hw) (cwV 1 hts gX5_write_X5_isBlocked rfl rfl rfl (by decide +kernel) ⟨Nat.le_of_ble_eq_true rfl, Nat.le_of_ble_eq_true rfl⟩) (pv [.int a1] hK hP hbs hS rfl (wg33 ca ad w_24)) rfl rfl hl.1 rfl (lv_room (Nat.le_of_ble_eq_true rfl)) dX5_write_106 ⟨Nat.le_of_ble_eq_true rfl, Nat.le_of_ble_eq_true rfl⟩) hS (fun q _ h => h) (fun q h => h) (fun r_28 w_27 t H locs ht hvm hw hP hz1 hk1 hS => ?_)
            have hP : PA D ca ad w_27 H := by rw [← ht]; exact hP
            refine lv_if_eq (tgt := 115) hx hb dX5_write_109 (by decide) (fun c_29 => ?_) (fun c_29 => ?_)
            · have hw := hw.1 c_29
              refine lv_iconst (v := 0) hx hb dX5_write_115 (by decide) ?_
              refine lv_istore (lv' := [(6, .int 0), (5, .int r_19), (0, .ref (ad 33)), (1, .int a0), (2, .int a1), (3, .int a2), (4, .int a3)]) hx hb dX5_write_116 hl (by decide) rfl (fun ls hl => ?_)
              obtain ⟨n_118, hw⟩ := hw
              exact hB118 n_118 0 w_27 hw _ _ hP hS ls (lv_sub hl [2, 3, 4, 5, 6, 0] rfl)
            · have hw := hw.2 c_29
              refine lv_bipush (v := 98) hx hb dX5_write_112 (by decide) ?_
              exact W.zret (v := 98) hx hb hr (by decide) (fun t ht hW => ⟨⟨98, w_27, rfl, hw, by show PA D ca ad w_27 t.heap; rw [ht]; exact hP⟩, hS.F ht⟩) hS.2.2 dX5_write_114
          · have hw := hw.1 c_26
            refine lv_bipush (v := 111) hx hb dX5_write_101 (by decide) ?_
            exact W.zret (v := 111) hx hb hr (by decide) (fun t ht hW => ⟨⟨111, w_24, rfl, hw, by show PA D ca ad w_24 t.heap; rw [ht]; exact hP⟩, hS.F ht⟩) hS.2.2 dX5_write_103
      · have hw := hw.2 c_20
        refine lv_iload hx hb dX5_write_80 (lv_at hl 0 rfl) ?_
        obtain ⟨hn9, hw⟩ := hw
        exact W.zret (v := r_19) hx hb hr hn9 (fun t ht hW => ⟨⟨r_19, w_18, rfl, hw, by show PA D ca ad w_18 t.heap; rw [ht]; exact hP⟩, hS.F ht⟩) hS.2.2 dX5_write_82
    · have hw := hw.2 c_17
      refine lv_bipush (v := 32) hx hb dX5_write_63 (by decide) ?_
      exact W.zret (v := 32) hx hb hr (by decide) (fun t ht hW => ⟨⟨32, w, rfl, hw, by show PA D ca ad w t.heap; rw [ht]; exact hP⟩, hS.F ht⟩) hS.2.2 dX5_write_65
  have hB35 : ∀ (w : St), wpX5_write_B35 a0 a1 a2 a3 post w → ∀ (H : Heap) (locs : List Loc), PA D ca ad w H → va_S (AB base) s.heap H locs → ∀ ls : Array Slot, lv_has ls 7 [(0, .ref (ad 33)), (1, .int a0), (2, .int a1), (3, .int a2), (4, .int a3)] → W p l e (headSpec wsX5_write ({ frames := 3, cells := 0, slots := 0, locals := 68 } : Room)).room s m ([Value.ref (ad 33), Value.int a0, Value.int a1, Value.int a2, Value.int a3].toArray) below meth c H locs 0 0 (MQ below (va_Qi post (Bp D ca ad) (AB base)) ([Value.ref (ad 33), Value.int a0, Value.int a1, Value.int a2, Value.int a3].toArray) s 0 0 (AB base)) (F0 m 35 ls []) := by
    intro w hw H locs hP hS ls hl
    refine lv_aload_n hx hb dX5_write_35 rfl (lv_at hl 0 rfl) ?_
    refine va_get (D := D) (ci := 7) (v := .int (w.1 67 0)) (C := RX5) (T := TX5) (N := 30) hx hb hts in_X5 hown hK hP 33 (wg33 ca ad w) rfl 25 (by decide) lk_87 (fun _ h9 => h9) rfl dX5_write_36 ?_
    refine lv_if_ne (tgt := 56) hx hb dX5_write_39 (by decide) (fun c_30 => ?_) (fun c_30 => ?_)
    · have hw := hw.2 c_30
      exact hB56 w hw _ _ hP hS ls (lv_sub hl [0, 1, 2, 3, 4] rfl)
    · have hw := hw.1 c_30
      refine lv_aload_n hx hb dX5_write_42 rfl (lv_at hl 0 rfl) ?_
      refine lv_iload_n hx hb dX5_write_43 rfl (lv_at hl 1 rfl) ?_
      refine lv_iload_n hx hb dX5_write_44 rfl (lv_at hl 3 rfl) ?_
      refine va_calli (va_runV (As := [.int a0, .int a2]) (rest := []) ⟨hx, hb, hml, hown, hts⟩ (mX5_cannotAsk l D ca ad base hAd w a0 a2 _ hw) (cwV 2 hts gX5_write_X5_cannotAsk rfl rfl rfl (by decide +kernel) ⟨Nat.le_of_ble_eq_true rfl, Nat.le_of_ble_eq_true rfl⟩) (pv [.int a0, .int a2] hK hP hbs hS rfl (wg33 ca ad w)) rfl rfl hl.1 rfl (lv_room (Nat.le_of_ble_eq_true rfl)) dX5_write_45 ⟨Nat.le_of_ble_eq_true rfl, Nat.le_of_ble_eq_true rfl⟩) hS (fun q _ h => h) (fun q h => h) (fun r_32 w_31 t H locs ht hvm hw hP hz1 hk1 hS => ?_)
      have hP : PA D ca ad w_31 H := by rw [← ht]; exact hP
      refine lv_if_eq (tgt := 56) hx hb dX5_write_48 (by decide) (fun c_33 => ?_) (fun c_33 => ?_)
      · have hw := hw.1 c_33
        exact hB56 w_31 hw _ _ hP hS ls (lv_sub hl [0, 1, 2, 3, 4] rfl)
      · have hw := hw.2 c_33
        refine lv_aload_n hx hb dX5_write_51 rfl (lv_at hl 0 rfl) ?_
        refine lv_iconst (v := 4) hx hb dX5_write_52 (by decide) ?_
        refine va_put (D := D) (ci := 7) (v := .int 4) (ty := .int) (C := RX5) (T := TX5) (N := 30) hx hb hts in_X5 tyX5 tyX5_ok nmX5 hown hK hP (DA hAd) hS 33 (wg33 ca ad w_31) rfl 25 (by decide) lk_87 (fun _ h9 => h9) rfl (by decide +kernel) rfl rfl (Nat.le_of_ble_eq_true rfl) dX5_write_53 (fun H locs hP hD hS => ?_)
        obtain ⟨w_34, e_35⟩ : ∃ z : St, z = (uI w_31 67 4) := ⟨_, rfl⟩
        have hP : PA D ca ad w_34 H := by rw [e_35]; exact wf67 hP
        have hw := hw w_34 e_35
        exact hB56 w_34 hw _ _ hP hS ls (lv_sub hl [0, 1, 2, 3, 4] rfl)
  have hl := lv_entry ([.ref (ad 33), .int a0, .int a1, .int a2, .int a3]) (n := 7) (Nat.le_of_ble_eq_true rfl)
  rw [lg_entry_eq]
  generalize (lg_sl ([.ref (ad 33), .int a0, .int a1, .int a2, .int a3]) ++ List.replicate (7 - (lg_sl ([.ref (ad 33), .int a0, .int a1, .int a2, .int a3])).length) Slot.unset).toArray = ls at hl ⊢
  have hl : lv_has ls 7 [(0, .ref (ad 33)), (1, .int a0), (2, .int a1), (3, .int a2), (4, .int a3)] := hl
  refine lv_aload_n hx hb dX5_write_0 rfl (lv_at hl 0 rfl) ?_
  refine lv_aload_n hx hb dX5_write_1 rfl (lv_at hl 0 rfl) ?_
  refine lv_iload_n hx hb dX5_write_2 rfl (lv_at hl 1 rfl) ?_
  refine lv_iload_n hx hb dX5_write_3 rfl (lv_at hl 2 rfl) ?_
  refine lv_iload_n hx hb dX5_write_4 rfl (lv_at hl 3 rfl) ?_
  refine va_calli (va_runV (As := [.int a0, .int a1, .int a2]) (rest := [.ref (ad 33)]) ⟨hx, hb, hml, hown, hts⟩ (mX5_wrongAsk l D ca ad base hAd w a0 a1 a2 _ hw) (cwV 3 hts gX5_write_X5_wrongAsk rfl rfl rfl (by decide +kernel) ⟨Nat.le_of_ble_eq_true rfl, Nat.le_of_ble_eq_true rfl⟩) (pv [.int a0, .int a1, .int a2] hK hP hbs hS rfl (wg33 ca ad w)) rfl rfl hl.1 rfl (lv_room (Nat.le_of_ble_eq_true rfl)) dX5_write_5 ⟨Nat.le_of_ble_eq_true rfl, Nat.le_of_ble_eq_true rfl⟩) hS (fun q _ h => h) (fun q h => h) (fun r_37 w_36 t H locs ht hvm hw hP hz1 hk1 hS => ?_)
  have hP : PA D ca ad w_36 H := by rw [← ht]; exact hP
  refine va_put (D := D) (ci := 7) (v := .int r_37) (ty := .int) (C := RX5) (T := TX5) (N := 30) hx hb hts in_X5 tyX5 tyX5_ok nmX5 hown hK hP (DA hAd) hS 33 (wg33 ca ad w_36) rfl 25 (by decide) lk_87 (fun _ h9 => h9) rfl (by decide +kernel) rfl rfl (Nat.le_of_ble_eq_true rfl) dX5_write_8 (fun H locs hP hD hS => ?_)
  obtain ⟨w_38, e_39⟩ : ∃ z : St, z = (uI w_36 67 r_37) := ⟨_, rfl⟩
  have hP : PA D ca ad w_38 H := by rw [e_39]; exact wf67 hP
  have hw := hw w_38 e_39
  refine lv_aload_n hx hb dX5_write_11 rfl (lv_at hl 0 rfl) ?_
  refine va_get (D := D) (ci := 7) (v := .int (w_38.1 67 0)) (C := RX5) (T := TX5) (N := 30) hx hb hts in_X5 hown hK hP 33 (wg33 ca ad w_38) rfl 25 (by decide) lk_87 (fun _ h9 => h9) rfl dX5_write_12 ?_
  refine lv_if_ne (tgt := 35) hx hb dX5_write_15 (by decide) (fun c_40 => ?_) (fun c_40 => ?_)
  · have hw := hw.2 c_40
    exact hB35 w_38 hw _ _ hP hS ls (lv_sub hl [0, 1, 2, 3, 4] rfl)
  · have hw := hw.1 c_40
    refine lv_iload hx hb dX5_write_18 (lv_at hl 4 rfl) ?_
    refine lv_iconst (v := 0) hx hb dX5_write_20 (by decide) ?_
    refine lv_sipush (v := 999) hx hb dX5_write_21 (by decide) ?_
    refine va_calli (va_runS (As := [.int a3, .int 0, .int 999]) (rest := []) ⟨hx, hb, hml, hown, hts⟩ (mX5_in l D ca ad base hAd w_38 a3 0 999 _ hw) (va_cwS 3 hts gX5_write_X5_in rfl rfl rfl (by decide +kernel) ⟨Nat.le_of_ble_eq_true rfl, Nat.le_of_ble_eq_true rfl⟩) (ps [.int a3, .int 0, .int 999] hK hP hbs hS) rfl rfl hl.1 rfl (lv_room (Nat.le_of_ble_eq_true rfl)) dX5_write_24 ⟨Nat.le_of_ble_eq_true rfl, Nat.le_of_ble_eq_true rfl⟩) hS (fun q _ h => h) (fun q h => h) (fun r_42 w_41 t H locs ht hvm hw hP hz1 hk1 hS => ?_)
    have hP : PA D ca ad w_41 H := by rw [← ht]; exact hP
    refine lv_if_ne (tgt := 35) hx hb dX5_write_27 (by decide) (fun c_43 => ?_) (fun c_43 => ?_)
    · have hw := hw.2 c_43
      exact hB35 w_41 hw _ _ hP hS ls (lv_sub hl [0, 1, 2, 3, 4] rfl)
    · have hw := hw.1 c_43
      refine lv_aload_n hx hb dX5_write_30 rfl (lv_at hl 0 rfl) ?_
      refine lv_iconst (v := 3) hx hb dX5_write_31 (by decide) ?_
      refine va_put (D := D) (ci := 7) (v := .int 3) (ty := .int) (C := RX5) (T := TX5) (N := 30) hx hb hts in_X5 tyX5 tyX5_ok nmX5 hown hK hP (DA hAd) hS 33 (wg33 ca ad w_41) rfl 25 (by decide) lk_87 (fun _ h9 => h9) rfl (by decide +kernel) rfl rfl (Nat.le_of_ble_eq_true rfl) dX5_write_32 (fun H locs hP hD hS => ?_)
      obtain ⟨w_44, e_45⟩ : ∃ z : St, z = (uI w_41 67 3) := ⟨_, rfl⟩
      have hP : PA D ca ad w_44 H := by rw [e_45]; exact wf67 hP
      have hw := hw w_44 e_45
      exact hB35 w_44 hw _ _ hP hS ls (lv_sub hl [0, 1, 2, 3, 4] rfl)
set_option maxHeartbeats 4000000 in
set_option maxRecDepth 100000 in
def wpX5_wrongLock (a0 : Int32) (a1 : Int32) (w : St) (post : Int32 → St → Prop) : Prop := wpX5_isLock a0 w (fun r_2 w_1 => (r_2 = 0 → (post 1 w_1)) ∧ (¬ (r_2 = 0) → ((a1 = 0 → (post 2 w_1)) ∧ (¬ (a1 = 0) → (post 0 w_1)))))
set_option maxHeartbeats 4000000 in
set_option maxRecDepth 100000 in
theorem mX5_wrongLock (l : Launch) (D : va_G) (ca : Nat → ClassId) (ad : Nat → Nat) (base : Nat) (hAd : okA base ad) (w : St) (a0 : Int32) (a1 : Int32) (post : Int32 → St → Prop) (hw : wpX5_wrongLock a0 a1 w post) : Met l yX5_wrongLock wsX5_wrongLock ({ frames := 2, cells := 0, slots := 0, locals := 42 } : Room) (va_Pc [.ref (ad 33), .int a0, .int a1] (BU D ca ad base w)) (va_Qi post (Bp D ca ad) (AB base)) 0 0 (AB base) := by
  refine Met.ofW (cc := cX5_wrongLock) (maxL := 3) (ret := (some .int)) (by decide) rfl ?_
  intro p e s m args below meth c s₁ B hml hv
  obtain ⟨rfl, hbs, hP, hK⟩ := hv
  have hx := B.exec
  have hb := B.bytes
  have hr := B.returns
  have hts := atoms_spec (ws := wsX5_wrongLock) B.pre
  have hown : s.vm.findClass RX5 = some m.cls := findClass_of_methodNamed B.named
  have hlocks := B.notSynchronized
  have hS : va_S (AB base) s.heap s.heap [] := va_S.rf
  have hl := lv_entry ([.ref (ad 33), .int a0, .int a1]) (n := 3) (Nat.le_of_ble_eq_true rfl)
  rw [lg_entry_eq]
  generalize (lg_sl ([.ref (ad 33), .int a0, .int a1]) ++ List.replicate (3 - (lg_sl ([.ref (ad 33), .int a0, .int a1])).length) Slot.unset).toArray = ls at hl ⊢
  have hl : lv_has ls 3 [(0, .ref (ad 33)), (1, .int a0), (2, .int a1)] := hl
  refine lv_iload_n hx hb dX5_wrongLock_0 rfl (lv_at hl 1 rfl) ?_
  refine va_calli (va_runS (As := [.int a0]) (rest := []) ⟨hx, hb, hml, hown, hts⟩ (mX5_isLock l D ca ad base hAd w a0 _ hw) (va_cwS 1 hts gX5_wrongLock_X5_isLock rfl rfl rfl (by decide +kernel) ⟨Nat.le_of_ble_eq_true rfl, Nat.le_of_ble_eq_true rfl⟩) (ps [.int a0] hK hP hbs hS) rfl rfl hl.1 rfl (lv_room (Nat.le_of_ble_eq_true rfl)) dX5_wrongLock_1 ⟨Nat.le_of_ble_eq_true rfl, Nat.le_of_ble_eq_true rfl⟩) hS (fun q _ h => h) (fun q h => h) (fun r_2 w_1 t H locs ht hvm hw hP hz1 hk1 hS => ?_)
  have hP : PA D ca ad w_1 H := by rw [← ht]; exact hP
  refine lv_if_ne (tgt := 11) hx hb dX5_wrongLock_4 (by decide) (fun c_3 => ?_) (fun c_3 => ?_)
  · have hw := hw.2 c_3
    refine lv_iload_n hx hb dX5_wrongLock_11 rfl (lv_at hl 2 rfl) ?_
    refine lv_if_eq (tgt := 19) hx hb dX5_wrongLock_12 (by decide) (fun c_4 => ?_) (fun c_4 => ?_)
    · have hw := hw.1 c_4
      refine lv_iconst (v := 2) hx hb dX5_wrongLock_19 (by decide) ?_
      exact W.iret (v := 2) hx hb hr (fun t ht hW => ⟨⟨2, w_1, rfl, hw, by show PA D ca ad w_1 t.heap; rw [ht]; exact hP⟩, hS.F ht⟩) hS.2.2 dX5_wrongLock_20
    · have hw := hw.2 c_4
      refine lv_iconst (v := 0) hx hb dX5_wrongLock_15 (by decide) ?_
      refine lv_goto (tgt := 20) hx hb dX5_wrongLock_16 (by decide) ?_
      exact W.iret (v := 0) hx hb hr (fun t ht hW => ⟨⟨0, w_1, rfl, hw, by show PA D ca ad w_1 t.heap; rw [ht]; exact hP⟩, hS.F ht⟩) hS.2.2 dX5_wrongLock_20
  · have hw := hw.1 c_3
    refine lv_iconst (v := 1) hx hb dX5_wrongLock_7 (by decide) ?_
    refine lv_goto (tgt := 20) hx hb dX5_wrongLock_8 (by decide) ?_
    exact W.iret (v := 1) hx hb hr (fun t ht hW => ⟨⟨1, w_1, rfl, hw, by show PA D ca ad w_1 t.heap; rw [ht]; exact hP⟩, hS.F ht⟩) hS.2.2 dX5_wrongLock_20
set_option maxHeartbeats 4000000 in
set_option maxRecDepth 100000 in
def wpX5_owner_B23 (a0 : Int32) (post : Int32 → St → Prop) (s0 : Int32) (s1 : Int32) (w : St) : Prop := wpX5_wrongLock s1 s0 w (fun r_2 w_1 => ∀ w_3 : St, w_3 = (uI w_1 67 r_2) → ((w_3.1 67 0) ≤ 0 → ((vp_in a0 4) ∧ (post (w_3.1 48 (a0).toNatClampNeg) w_3))) ∧ (¬ ((w_3.1 67 0) ≤ 0) → (post 0 w_3)))
set_option maxHeartbeats 4000000 in
set_option maxRecDepth 100000 in
def wpX5_owner_B22 (a0 : Int32) (post : Int32 → St → Prop) (s0 : Int32) (w : St) : Prop := wpX5_owner_B23 a0 post 0 s0 w
set_option maxHeartbeats 4000000 in
set_option maxRecDepth 100000 in
def wpX5_owner (a0 : Int32) (w : St) (post : Int32 → St → Prop) : Prop := wpX5_isLock a0 w (fun r_8 w_7 => (r_8 = 0 → (wpX5_owner_B22 a0 post a0 w_7)) ∧ (¬ (r_8 = 0) → (wpX5_isFree a0 w_7 (fun r_11 w_10 => (r_11 = 0 → (wpX5_owner_B23 a0 post 1 a0 w_10)) ∧ (¬ (r_11 = 0) → (wpX5_owner_B22 a0 post a0 w_10))))))
set_option maxHeartbeats 4000000 in
set_option maxRecDepth 100000 in
theorem mX5_owner (l : Launch) (D : va_G) (ca : Nat → ClassId) (ad : Nat → Nat) (base : Nat) (hAd : okA base ad) (w : St) (a0 : Int32) (post : Int32 → St → Prop) (hw : wpX5_owner a0 w post) : Met l yX5_owner wsX5_owner ({ frames := 3, cells := 0, slots := 0, locals := 64 } : Room) (va_Pc [.ref (ad 33), .int a0] (BU D ca ad base w)) (va_Qi post (Bp D ca ad) (AB base)) 0 0 (AB base) := by
  refine Met.ofW (cc := cX5_owner) (maxL := 2) (ret := (some .int)) (by decide) rfl ?_
  intro p e s m args below meth c s₁ B hml hv
  obtain ⟨rfl, hbs, hP, hK⟩ := hv
  have hx := B.exec
  have hb := B.bytes
  have hr := B.returns
  have hts := atoms_spec (ws := wsX5_owner) B.pre
  have hown : s.vm.findClass RX5 = some m.cls := findClass_of_methodNamed B.named
  have hlocks := B.notSynchronized
  have in_X5 : ∀ w ∈ wsX50, w ∈ wsX5_owner := by decide +kernel
  have lk_53 := hts (.fieldLink RX5 53 "LockQuorumModel" "owners" "[I") (by decide +kernel)
  have lk_87 := hts (.fieldLink RX5 87 "LockQuorumModel" "thrown" "I") (by decide +kernel)
  have hS : va_S (AB base) s.heap s.heap [] := va_S.rf
  have hB23 : ∀ (s0 : Int32) (s1 : Int32) (w : St), wpX5_owner_B23 a0 post s0 s1 w → ∀ (H : Heap) (locs : List Loc), PA D ca ad w H → va_S (AB base) s.heap H locs → ∀ ls : Array Slot, lv_has ls 2 [(0, .ref (ad 33)), (1, .int a0)] → W p l e (headSpec wsX5_owner ({ frames := 3, cells := 0, slots := 0, locals := 64 } : Room)).room s m ([Value.ref (ad 33), Value.int a0].toArray) below meth c H locs 0 0 (MQ below (va_Qi post (Bp D ca ad) (AB base)) ([Value.ref (ad 33), Value.int a0].toArray) s 0 0 (AB base)) (F0 m 23 ls [.int s0, .int s1, .ref (ad 33), .ref (ad 33)]) := by
    intro s0 s1 w hw H locs hP hS ls hl
    refine va_calli (va_runV (As := [.int s1, .int s0]) (rest := [.ref (ad 33)]) ⟨hx, hb, hml, hown, hts⟩ (mX5_wrongLock l D ca ad base hAd w s1 s0 _ hw) (cwV 2 hts gX5_owner_X5_wrongLock rfl rfl rfl (by decide +kernel) ⟨Nat.le_of_ble_eq_true rfl, Nat.le_of_ble_eq_true rfl⟩) (pv [.int s1, .int s0] hK hP hbs hS rfl (wg33 ca ad w)) rfl rfl hl.1 rfl (lv_room (Nat.le_of_ble_eq_true rfl)) dX5_owner_23 ⟨Nat.le_of_ble_eq_true rfl, Nat.le_of_ble_eq_true rfl⟩) hS (fun q _ h => h) (fun q h => h) (fun r_2 w_1 t H locs ht hvm hw hP hz1 hk1 hS => ?_)
    have hP : PA D ca ad w_1 H := by rw [← ht]; exact hP
    refine va_put (D := D) (ci := 7) (v := .int r_2) (ty := .int) (C := RX5) (T := TX5) (N := 30) hx hb hts in_X5 tyX5 tyX5_ok nmX5 hown hK hP (DA hAd) hS 33 (wg33 ca ad w_1) rfl 25 (by decide) lk_87 (fun _ h9 => h9) rfl (by decide +kernel) rfl rfl (Nat.le_of_ble_eq_true rfl) dX5_owner_26 (fun H locs hP hD hS => ?_)
    obtain ⟨w_3, e_4⟩ : ∃ z : St, z = (uI w_1 67 r_2) := ⟨_, rfl⟩
    have hP : PA D ca ad w_3 H := by rw [e_4]; exact wf67 hP
    have hw := hw w_3 e_4
    refine lv_aload_n hx hb dX5_owner_29 rfl (lv_at hl 0 rfl) ?_
    refine va_get (D := D) (ci := 7) (v := .int (w_3.1 67 0)) (C := RX5) (T := TX5) (N := 30) hx hb hts in_X5 hown hK hP 33 (wg33 ca ad w_3) rfl 25 (by decide) lk_87 (fun _ h9 => h9) rfl dX5_owner_30 ?_
    refine lv_if_le (tgt := 40) hx hb dX5_owner_33 (by decide) (fun c_5 => ?_) (fun c_5 => ?_)
    · have hw := hw.1 c_5
      refine lv_aload_n hx hb dX5_owner_40 rfl (lv_at hl 0 rfl) ?_
      refine va_get (D := D) (ci := 7) (v := .ref (ad 48)) (C := RX5) (T := TX5) (N := 30) hx hb hts in_X5 hown hK hP 33 (wg33 ca ad w_3) rfl 14 (by decide) lk_53 (fun _ h9 => h9) rfl dX5_owner_41 ?_
      refine lv_iload_n hx hb dX5_owner_44 rfl (lv_at hl 1 rfl) ?_
      obtain ⟨h_6, hw⟩ := hw
      refine va_iald hx hb hK hP 48 0 (wg48 ca ad w_3) rfl h_6 dX5_owner_45 ?_
      exact W.iret (v := (w_3.1 48 (a0).toNatClampNeg)) hx hb hr (fun t ht hW => ⟨⟨(w_3.1 48 (a0).toNatClampNeg), w_3, rfl, hw, by show PA D ca ad w_3 t.heap; rw [ht]; exact hP⟩, hS.F ht⟩) hS.2.2 dX5_owner_46
    · have hw := hw.2 c_5
      refine lv_iconst (v := 0) hx hb dX5_owner_36 (by decide) ?_
      refine lv_goto (tgt := 46) hx hb dX5_owner_37 (by decide) ?_
      exact W.iret (v := 0) hx hb hr (fun t ht hW => ⟨⟨0, w_3, rfl, hw, by show PA D ca ad w_3 t.heap; rw [ht]; exact hP⟩, hS.F ht⟩) hS.2.2 dX5_owner_46
  have hB22 : ∀ (s0 : Int32) (w : St), wpX5_owner_B22 a0 post s0 w → ∀ (H : Heap) (locs : List Loc), PA D ca ad w H → va_S (AB base) s.heap H locs → ∀ ls : Array Slot, lv_has ls 2 [(0, .ref (ad 33)), (1, .int a0)] → W p l e (headSpec wsX5_owner ({ frames := 3, cells := 0, slots := 0, locals := 64 } : Room)).room s m ([Value.ref (ad 33), Value.int a0].toArray) below meth c H locs 0 0 (MQ below (va_Qi post (Bp D ca ad) (AB base)) ([Value.ref (ad 33), Value.int a0].toArray) s 0 0 (AB base)) (F0 m 22 ls [.int s0, .ref (ad 33), .ref (ad 33)]) := by
    intro s0 w hw H locs hP hS ls hl
    refine lv_iconst (v := 0) hx hb dX5_owner_22 (by decide) ?_
    exact hB23 0 s0 w hw _ _ hP hS ls (lv_sub hl [0, 1] rfl)
  have hl := lv_entry ([.ref (ad 33), .int a0]) (n := 2) (Nat.le_of_ble_eq_true rfl)
  rw [lg_entry_eq]
  generalize (lg_sl ([.ref (ad 33), .int a0]) ++ List.replicate (2 - (lg_sl ([.ref (ad 33), .int a0])).length) Slot.unset).toArray = ls at hl ⊢
  have hl : lv_has ls 2 [(0, .ref (ad 33)), (1, .int a0)] := hl
  refine lv_aload_n hx hb dX5_owner_0 rfl (lv_at hl 0 rfl) ?_
  refine lv_aload_n hx hb dX5_owner_1 rfl (lv_at hl 0 rfl) ?_
  refine lv_iload_n hx hb dX5_owner_2 rfl (lv_at hl 1 rfl) ?_
  refine lv_iload_n hx hb dX5_owner_3 rfl (lv_at hl 1 rfl) ?_
  refine va_calli (va_runS (As := [.int a0]) (rest := [.int a0, .ref (ad 33), .ref (ad 33)]) ⟨hx, hb, hml, hown, hts⟩ (mX5_isLock l D ca ad base hAd w a0 _ hw) (va_cwS 1 hts gX5_owner_X5_isLock rfl rfl rfl (by decide +kernel) ⟨Nat.le_of_ble_eq_true rfl, Nat.le_of_ble_eq_true rfl⟩) (ps [.int a0] hK hP hbs hS) rfl rfl hl.1 rfl (lv_room (Nat.le_of_ble_eq_true rfl)) dX5_owner_4 ⟨Nat.le_of_ble_eq_true rfl, Nat.le_of_ble_eq_true rfl⟩) hS (fun q _ h => h) (fun q h => h) (fun r_8 w_7 t H locs ht hvm hw hP hz1 hk1 hS => ?_)
  have hP : PA D ca ad w_7 H := by rw [← ht]; exact hP
  refine lv_if_eq (tgt := 22) hx hb dX5_owner_7 (by decide) (fun c_9 => ?_) (fun c_9 => ?_)
  · have hw := hw.1 c_9
    exact hB22 a0 w_7 hw _ _ hP hS ls (lv_sub hl [0, 1] rfl)
  · have hw := hw.2 c_9
    refine lv_aload_n hx hb dX5_owner_10 rfl (lv_at hl 0 rfl) ?_
    refine lv_iload_n hx hb dX5_owner_11 rfl (lv_at hl 1 rfl) ?_
    refine va_calli (va_runV (As := [.int a0]) (rest := [.int a0, .ref (ad 33), .ref (ad 33)]) ⟨hx, hb, hml, hown, hts⟩ (mX5_isFree l D ca ad base hAd w_7 a0 _ hw) (cwV 1 hts gX5_owner_X5_isFree rfl rfl rfl (by decide +kernel) ⟨Nat.le_of_ble_eq_true rfl, Nat.le_of_ble_eq_true rfl⟩) (pv [.int a0] hK hP hbs hS rfl (wg33 ca ad w_7)) rfl rfl hl.1 rfl (lv_room (Nat.le_of_ble_eq_true rfl)) dX5_owner_12 ⟨Nat.le_of_ble_eq_true rfl, Nat.le_of_ble_eq_true rfl⟩) hS (fun q _ h => h) (fun q h => h) (fun r_11 w_10 t H locs ht hvm hw hP hz1 hk1 hS => ?_)
    have hP : PA D ca ad w_10 H := by rw [← ht]; exact hP
    refine lv_if_ne (tgt := 22) hx hb dX5_owner_15 (by decide) (fun c_12 => ?_) (fun c_12 => ?_)
    · have hw := hw.2 c_12
      exact hB22 a0 w_10 hw _ _ hP hS ls (lv_sub hl [0, 1] rfl)
    · have hw := hw.1 c_12
      refine lv_iconst (v := 1) hx hb dX5_owner_18 (by decide) ?_
      refine lv_goto (tgt := 23) hx hb dX5_owner_19 (by decide) ?_
      exact hB23 1 a0 w_10 hw _ _ hP hS ls (lv_sub hl [0, 1] rfl)
set_option maxHeartbeats 4000000 in
set_option maxRecDepth 100000 in
def wpX5_ownerByLog (a0 : Int32) (w : St) (post : Int32 → St → Prop) : Prop := wpX5_owner a0 w (fun r_2 w_1 => post r_2 w_1)
set_option maxHeartbeats 4000000 in
set_option maxRecDepth 100000 in
theorem mX5_ownerByLog (l : Launch) (D : va_G) (ca : Nat → ClassId) (ad : Nat → Nat) (base : Nat) (hAd : okA base ad) (w : St) (a0 : Int32) (post : Int32 → St → Prop) (hw : wpX5_ownerByLog a0 w post) : Met l yX5_ownerByLog wsX5_ownerByLog ({ frames := 4, cells := 0, slots := 0, locals := 85 } : Room) (va_Pc [.ref (ad 33), .int a0] (BU D ca ad base w)) (va_Qi post (Bp D ca ad) (AB base)) 0 0 (AB base) := by
  refine Met.ofW (cc := cX5_ownerByLog) (maxL := 2) (ret := (some .int)) (by decide) rfl ?_
  intro p e s m args below meth c s₁ B hml hv
  obtain ⟨rfl, hbs, hP, hK⟩ := hv
  have hx := B.exec
  have hb := B.bytes
  have hr := B.returns
  have hts := atoms_spec (ws := wsX5_ownerByLog) B.pre
  have hown : s.vm.findClass RX5 = some m.cls := findClass_of_methodNamed B.named
  have hlocks := B.notSynchronized
  have hS : va_S (AB base) s.heap s.heap [] := va_S.rf
  have hl := lv_entry ([.ref (ad 33), .int a0]) (n := 2) (Nat.le_of_ble_eq_true rfl)
  rw [lg_entry_eq]
  generalize (lg_sl ([.ref (ad 33), .int a0]) ++ List.replicate (2 - (lg_sl ([.ref (ad 33), .int a0])).length) Slot.unset).toArray = ls at hl ⊢
  have hl : lv_has ls 2 [(0, .ref (ad 33)), (1, .int a0)] := hl
  refine lv_aload_n hx hb dX5_ownerByLog_0 rfl (lv_at hl 0 rfl) ?_
  refine lv_iload_n hx hb dX5_ownerByLog_1 rfl (lv_at hl 1 rfl) ?_
  refine va_calli (va_runV (As := [.int a0]) (rest := []) ⟨hx, hb, hml, hown, hts⟩ (mX5_owner l D ca ad base hAd w a0 _ hw) (cwV 1 hts gX5_ownerByLog_X5_owner rfl rfl rfl (by decide +kernel) ⟨Nat.le_of_ble_eq_true rfl, Nat.le_of_ble_eq_true rfl⟩) (pv [.int a0] hK hP hbs hS rfl (wg33 ca ad w)) rfl rfl hl.1 rfl (lv_room (Nat.le_of_ble_eq_true rfl)) dX5_ownerByLog_2 ⟨Nat.le_of_ble_eq_true rfl, Nat.le_of_ble_eq_true rfl⟩) hS (fun q _ h => h) (fun q h => h) (fun r_2 w_1 t H locs ht hvm hw hP hz1 hk1 hS => ?_)
  have hP : PA D ca ad w_1 H := by rw [← ht]; exact hP
  exact W.iret (v := r_2) hx hb hr (fun t ht hW => ⟨⟨r_2, w_1, rfl, hw, by show PA D ca ad w_1 t.heap; rw [ht]; exact hP⟩, hS.F ht⟩) hS.2.2 dX5_ownerByLog_5
set_option maxHeartbeats 4000000 in
set_option maxRecDepth 100000 in
def wpX5_endOf_B23 (a0 : Int32) (post : Int32 → St → Prop) (s0 : Int32) (s1 : Int32) (w : St) : Prop := wpX5_wrongLock s1 s0 w (fun r_2 w_1 => ∀ w_3 : St, w_3 = (uI w_1 67 r_2) → ((w_3.1 67 0) ≤ 0 → ((vp_in a0 4) ∧ (post (w_3.1 49 (a0).toNatClampNeg) w_3))) ∧ (¬ ((w_3.1 67 0) ≤ 0) → (post 0 w_3)))
set_option maxHeartbeats 4000000 in
set_option maxRecDepth 100000 in
def wpX5_endOf_B22 (a0 : Int32) (post : Int32 → St → Prop) (s0 : Int32) (w : St) : Prop := wpX5_endOf_B23 a0 post 0 s0 w
set_option maxHeartbeats 4000000 in
set_option maxRecDepth 100000 in
def wpX5_endOf (a0 : Int32) (w : St) (post : Int32 → St → Prop) : Prop := wpX5_isLock a0 w (fun r_8 w_7 => (r_8 = 0 → (wpX5_endOf_B22 a0 post a0 w_7)) ∧ (¬ (r_8 = 0) → (wpX5_isFree a0 w_7 (fun r_11 w_10 => (r_11 = 0 → (wpX5_endOf_B23 a0 post 1 a0 w_10)) ∧ (¬ (r_11 = 0) → (wpX5_endOf_B22 a0 post a0 w_10))))))
set_option maxHeartbeats 4000000 in
set_option maxRecDepth 100000 in
theorem mX5_endOf (l : Launch) (D : va_G) (ca : Nat → ClassId) (ad : Nat → Nat) (base : Nat) (hAd : okA base ad) (w : St) (a0 : Int32) (post : Int32 → St → Prop) (hw : wpX5_endOf a0 w post) : Met l yX5_endOf wsX5_endOf ({ frames := 3, cells := 0, slots := 0, locals := 64 } : Room) (va_Pc [.ref (ad 33), .int a0] (BU D ca ad base w)) (va_Qi post (Bp D ca ad) (AB base)) 0 0 (AB base) := by
  refine Met.ofW (cc := cX5_endOf) (maxL := 2) (ret := (some .int)) (by decide) rfl ?_
  intro p e s m args below meth c s₁ B hml hv
  obtain ⟨rfl, hbs, hP, hK⟩ := hv
  have hx := B.exec
  have hb := B.bytes
  have hr := B.returns
  have hts := atoms_spec (ws := wsX5_endOf) B.pre
  have hown : s.vm.findClass RX5 = some m.cls := findClass_of_methodNamed B.named
  have hlocks := B.notSynchronized
  have in_X5 : ∀ w ∈ wsX50, w ∈ wsX5_endOf := by decide +kernel
  have lk_56 := hts (.fieldLink RX5 56 "LockQuorumModel" "ends" "[I") (by decide +kernel)
  have lk_87 := hts (.fieldLink RX5 87 "LockQuorumModel" "thrown" "I") (by decide +kernel)
  have hS : va_S (AB base) s.heap s.heap [] := va_S.rf
  have hB23 : ∀ (s0 : Int32) (s1 : Int32) (w : St), wpX5_endOf_B23 a0 post s0 s1 w → ∀ (H : Heap) (locs : List Loc), PA D ca ad w H → va_S (AB base) s.heap H locs → ∀ ls : Array Slot, lv_has ls 2 [(0, .ref (ad 33)), (1, .int a0)] → W p l e (headSpec wsX5_endOf ({ frames := 3, cells := 0, slots := 0, locals := 64 } : Room)).room s m ([Value.ref (ad 33), Value.int a0].toArray) below meth c H locs 0 0 (MQ below (va_Qi post (Bp D ca ad) (AB base)) ([Value.ref (ad 33), Value.int a0].toArray) s 0 0 (AB base)) (F0 m 23 ls [.int s0, .int s1, .ref (ad 33), .ref (ad 33)]) := by
    intro s0 s1 w hw H locs hP hS ls hl
    refine va_calli (va_runV (As := [.int s1, .int s0]) (rest := [.ref (ad 33)]) ⟨hx, hb, hml, hown, hts⟩ (mX5_wrongLock l D ca ad base hAd w s1 s0 _ hw) (cwV 2 hts gX5_endOf_X5_wrongLock rfl rfl rfl (by decide +kernel) ⟨Nat.le_of_ble_eq_true rfl, Nat.le_of_ble_eq_true rfl⟩) (pv [.int s1, .int s0] hK hP hbs hS rfl (wg33 ca ad w)) rfl rfl hl.1 rfl (lv_room (Nat.le_of_ble_eq_true rfl)) dX5_endOf_23 ⟨Nat.le_of_ble_eq_true rfl, Nat.le_of_ble_eq_true rfl⟩) hS (fun q _ h => h) (fun q h => h) (fun r_2 w_1 t H locs ht hvm hw hP hz1 hk1 hS => ?_)
    have hP : PA D ca ad w_1 H := by rw [← ht]; exact hP
    refine va_put (D := D) (ci := 7) (v := .int r_2) (ty := .int) (C := RX5) (T := TX5) (N := 30) hx hb hts in_X5 tyX5 tyX5_ok nmX5 hown hK hP (DA hAd) hS 33 (wg33 ca ad w_1) rfl 25 (by decide) lk_87 (fun _ h9 => h9) rfl (by decide +kernel) rfl rfl (Nat.le_of_ble_eq_true rfl) dX5_endOf_26 (fun H locs hP hD hS => ?_)
    obtain ⟨w_3, e_4⟩ : ∃ z : St, z = (uI w_1 67 r_2) := ⟨_, rfl⟩
    have hP : PA D ca ad w_3 H := by rw [e_4]; exact wf67 hP
    have hw := hw w_3 e_4
    refine lv_aload_n hx hb dX5_endOf_29 rfl (lv_at hl 0 rfl) ?_
    refine va_get (D := D) (ci := 7) (v := .int (w_3.1 67 0)) (C := RX5) (T := TX5) (N := 30) hx hb hts in_X5 hown hK hP 33 (wg33 ca ad w_3) rfl 25 (by decide) lk_87 (fun _ h9 => h9) rfl dX5_endOf_30 ?_
    refine lv_if_le (tgt := 40) hx hb dX5_endOf_33 (by decide) (fun c_5 => ?_) (fun c_5 => ?_)
    · have hw := hw.1 c_5
      refine lv_aload_n hx hb dX5_endOf_40 rfl (lv_at hl 0 rfl) ?_
      refine va_get (D := D) (ci := 7) (v := .ref (ad 49)) (C := RX5) (T := TX5) (N := 30) hx hb hts in_X5 hown hK hP 33 (wg33 ca ad w_3) rfl 15 (by decide) lk_56 (fun _ h9 => h9) rfl dX5_endOf_41 ?_
      refine lv_iload_n hx hb dX5_endOf_44 rfl (lv_at hl 1 rfl) ?_
      obtain ⟨h_6, hw⟩ := hw
      refine va_iald hx hb hK hP 49 0 (wg49 ca ad w_3) rfl h_6 dX5_endOf_45 ?_
      exact W.iret (v := (w_3.1 49 (a0).toNatClampNeg)) hx hb hr (fun t ht hW => ⟨⟨(w_3.1 49 (a0).toNatClampNeg), w_3, rfl, hw, by show PA D ca ad w_3 t.heap; rw [ht]; exact hP⟩, hS.F ht⟩) hS.2.2 dX5_endOf_46
    · have hw := hw.2 c_5
      refine lv_iconst (v := 0) hx hb dX5_endOf_36 (by decide) ?_
      refine lv_goto (tgt := 46) hx hb dX5_endOf_37 (by decide) ?_
      exact W.iret (v := 0) hx hb hr (fun t ht hW => ⟨⟨0, w_3, rfl, hw, by show PA D ca ad w_3 t.heap; rw [ht]; exact hP⟩, hS.F ht⟩) hS.2.2 dX5_endOf_46
  have hB22 : ∀ (s0 : Int32) (w : St), wpX5_endOf_B22 a0 post s0 w → ∀ (H : Heap) (locs : List Loc), PA D ca ad w H → va_S (AB base) s.heap H locs → ∀ ls : Array Slot, lv_has ls 2 [(0, .ref (ad 33)), (1, .int a0)] → W p l e (headSpec wsX5_endOf ({ frames := 3, cells := 0, slots := 0, locals := 64 } : Room)).room s m ([Value.ref (ad 33), Value.int a0].toArray) below meth c H locs 0 0 (MQ below (va_Qi post (Bp D ca ad) (AB base)) ([Value.ref (ad 33), Value.int a0].toArray) s 0 0 (AB base)) (F0 m 22 ls [.int s0, .ref (ad 33), .ref (ad 33)]) := by
    intro s0 w hw H locs hP hS ls hl
    refine lv_iconst (v := 0) hx hb dX5_endOf_22 (by decide) ?_
    exact hB23 0 s0 w hw _ _ hP hS ls (lv_sub hl [0, 1] rfl)
  have hl := lv_entry ([.ref (ad 33), .int a0]) (n := 2) (Nat.le_of_ble_eq_true rfl)
  rw [lg_entry_eq]
  generalize (lg_sl ([.ref (ad 33), .int a0]) ++ List.replicate (2 - (lg_sl ([.ref (ad 33), .int a0])).length) Slot.unset).toArray = ls at hl ⊢
  have hl : lv_has ls 2 [(0, .ref (ad 33)), (1, .int a0)] := hl
  refine lv_aload_n hx hb dX5_endOf_0 rfl (lv_at hl 0 rfl) ?_
  refine lv_aload_n hx hb dX5_endOf_1 rfl (lv_at hl 0 rfl) ?_
  refine lv_iload_n hx hb dX5_endOf_2 rfl (lv_at hl 1 rfl) ?_
  refine lv_iload_n hx hb dX5_endOf_3 rfl (lv_at hl 1 rfl) ?_
  refine va_calli (va_runS (As := [.int a0]) (rest := [.int a0, .ref (ad 33), .ref (ad 33)]) ⟨hx, hb, hml, hown, hts⟩ (mX5_isLock l D ca ad base hAd w a0 _ hw) (va_cwS 1 hts gX5_endOf_X5_isLock rfl rfl rfl (by decide +kernel) ⟨Nat.le_of_ble_eq_true rfl, Nat.le_of_ble_eq_true rfl⟩) (ps [.int a0] hK hP hbs hS) rfl rfl hl.1 rfl (lv_room (Nat.le_of_ble_eq_true rfl)) dX5_endOf_4 ⟨Nat.le_of_ble_eq_true rfl, Nat.le_of_ble_eq_true rfl⟩) hS (fun q _ h => h) (fun q h => h) (fun r_8 w_7 t H locs ht hvm hw hP hz1 hk1 hS => ?_)
  have hP : PA D ca ad w_7 H := by rw [← ht]; exact hP
  refine lv_if_eq (tgt := 22) hx hb dX5_endOf_7 (by decide) (fun c_9 => ?_) (fun c_9 => ?_)
  · have hw := hw.1 c_9
    exact hB22 a0 w_7 hw _ _ hP hS ls (lv_sub hl [0, 1] rfl)
  · have hw := hw.2 c_9
    refine lv_aload_n hx hb dX5_endOf_10 rfl (lv_at hl 0 rfl) ?_
    refine lv_iload_n hx hb dX5_endOf_11 rfl (lv_at hl 1 rfl) ?_
    refine va_calli (va_runV (As := [.int a0]) (rest := [.int a0, .ref (ad 33), .ref (ad 33)]) ⟨hx, hb, hml, hown, hts⟩ (mX5_isFree l D ca ad base hAd w_7 a0 _ hw) (cwV 1 hts gX5_endOf_X5_isFree rfl rfl rfl (by decide +kernel) ⟨Nat.le_of_ble_eq_true rfl, Nat.le_of_ble_eq_true rfl⟩) (pv [.int a0] hK hP hbs hS rfl (wg33 ca ad w_7)) rfl rfl hl.1 rfl (lv_room (Nat.le_of_ble_eq_true rfl)) dX5_endOf_12 ⟨Nat.le_of_ble_eq_true rfl, Nat.le_of_ble_eq_true rfl⟩) hS (fun q _ h => h) (fun q h => h) (fun r_11 w_10 t H locs ht hvm hw hP hz1 hk1 hS => ?_)
    have hP : PA D ca ad w_10 H := by rw [← ht]; exact hP
    refine lv_if_ne (tgt := 22) hx hb dX5_endOf_15 (by decide) (fun c_12 => ?_) (fun c_12 => ?_)
    · have hw := hw.2 c_12
      exact hB22 a0 w_10 hw _ _ hP hS ls (lv_sub hl [0, 1] rfl)
    · have hw := hw.1 c_12
      refine lv_iconst (v := 1) hx hb dX5_endOf_18 (by decide) ?_
      refine lv_goto (tgt := 23) hx hb dX5_endOf_19 (by decide) ?_
      exact hB23 1 a0 w_10 hw _ _ hP hS ls (lv_sub hl [0, 1] rfl)
set_option maxHeartbeats 4000000 in
set_option maxRecDepth 100000 in
def wpX5_thief_B24 (a0 : Int32) (post : Int32 → St → Prop) (s0 : Int32) (s1 : Int32) (w : St) : Prop := wpX5_wrongLock s1 s0 w (fun r_2 w_1 => ∀ w_3 : St, w_3 = (uI w_1 67 r_2) → ((w_3.1 67 0) ≤ 0 → ((vp_in a0 4) ∧ (post (w_3.1 51 (a0).toNatClampNeg) w_3))) ∧ (¬ ((w_3.1 67 0) ≤ 0) → (post 0 w_3)))
set_option maxHeartbeats 4000000 in
set_option maxRecDepth 100000 in
def wpX5_thief_B23 (a0 : Int32) (post : Int32 → St → Prop) (s0 : Int32) (w : St) : Prop := wpX5_thief_B24 a0 post 0 s0 w
set_option maxHeartbeats 4000000 in
set_option maxRecDepth 100000 in
def wpX5_thief (a0 : Int32) (w : St) (post : Int32 → St → Prop) : Prop := wpX5_isLock a0 w (fun r_8 w_7 => (r_8 = 0 → (wpX5_thief_B23 a0 post a0 w_7)) ∧ (¬ (r_8 = 0) → ((vp_in a0 4) ∧ (((w_7.1 51 (a0).toNatClampNeg) < 0 → (wpX5_thief_B23 a0 post a0 w_7)) ∧ (¬ ((w_7.1 51 (a0).toNatClampNeg) < 0) → (wpX5_thief_B24 a0 post 1 a0 w_7))))))
set_option maxHeartbeats 4000000 in
set_option maxRecDepth 100000 in
theorem mX5_thief (l : Launch) (D : va_G) (ca : Nat → ClassId) (ad : Nat → Nat) (base : Nat) (hAd : okA base ad) (w : St) (a0 : Int32) (post : Int32 → St → Prop) (hw : wpX5_thief a0 w post) : Met l yX5_thief wsX5_thief ({ frames := 3, cells := 0, slots := 0, locals := 64 } : Room) (va_Pc [.ref (ad 33), .int a0] (BU D ca ad base w)) (va_Qi post (Bp D ca ad) (AB base)) 0 0 (AB base) := by
  refine Met.ofW (cc := cX5_thief) (maxL := 2) (ret := (some .int)) (by decide) rfl ?_
  intro p e s m args below meth c s₁ B hml hv
  obtain ⟨rfl, hbs, hP, hK⟩ := hv
  have hx := B.exec
  have hb := B.bytes
  have hr := B.returns
  have hts := atoms_spec (ws := wsX5_thief) B.pre
  have hown : s.vm.findClass RX5 = some m.cls := findClass_of_methodNamed B.named
  have hlocks := B.notSynchronized
  have in_X5 : ∀ w ∈ wsX50, w ∈ wsX5_thief := by decide +kernel
  have lk_62 := hts (.fieldLink RX5 62 "LockQuorumModel" "thieves" "[I") (by decide +kernel)
  have lk_87 := hts (.fieldLink RX5 87 "LockQuorumModel" "thrown" "I") (by decide +kernel)
  have hS : va_S (AB base) s.heap s.heap [] := va_S.rf
  have hB24 : ∀ (s0 : Int32) (s1 : Int32) (w : St), wpX5_thief_B24 a0 post s0 s1 w → ∀ (H : Heap) (locs : List Loc), PA D ca ad w H → va_S (AB base) s.heap H locs → ∀ ls : Array Slot, lv_has ls 2 [(0, .ref (ad 33)), (1, .int a0)] → W p l e (headSpec wsX5_thief ({ frames := 3, cells := 0, slots := 0, locals := 64 } : Room)).room s m ([Value.ref (ad 33), Value.int a0].toArray) below meth c H locs 0 0 (MQ below (va_Qi post (Bp D ca ad) (AB base)) ([Value.ref (ad 33), Value.int a0].toArray) s 0 0 (AB base)) (F0 m 24 ls [.int s0, .int s1, .ref (ad 33), .ref (ad 33)]) := by
    intro s0 s1 w hw H locs hP hS ls hl
    refine va_calli (va_runV (As := [.int s1, .int s0]) (rest := [.ref (ad 33)]) ⟨hx, hb, hml, hown, hts⟩ (mX5_wrongLock l D ca ad base hAd w s1 s0 _ hw) (cwV 2 hts gX5_thief_X5_wrongLock rfl rfl rfl (by decide +kernel) ⟨Nat.le_of_ble_eq_true rfl, Nat.le_of_ble_eq_true rfl⟩) (pv [.int s1, .int s0] hK hP hbs hS rfl (wg33 ca ad w)) rfl rfl hl.1 rfl (lv_room (Nat.le_of_ble_eq_true rfl)) dX5_thief_24 ⟨Nat.le_of_ble_eq_true rfl, Nat.le_of_ble_eq_true rfl⟩) hS (fun q _ h => h) (fun q h => h) (fun r_2 w_1 t H locs ht hvm hw hP hz1 hk1 hS => ?_)
    have hP : PA D ca ad w_1 H := by rw [← ht]; exact hP
    refine va_put (D := D) (ci := 7) (v := .int r_2) (ty := .int) (C := RX5) (T := TX5) (N := 30) hx hb hts in_X5 tyX5 tyX5_ok nmX5 hown hK hP (DA hAd) hS 33 (wg33 ca ad w_1) rfl 25 (by decide) lk_87 (fun _ h9 => h9) rfl (by decide +kernel) rfl rfl (Nat.le_of_ble_eq_true rfl) dX5_thief_27 (fun H locs hP hD hS => ?_)
    obtain ⟨w_3, e_4⟩ : ∃ z : St, z = (uI w_1 67 r_2) := ⟨_, rfl⟩
    have hP : PA D ca ad w_3 H := by rw [e_4]; exact wf67 hP
    have hw := hw w_3 e_4
    refine lv_aload_n hx hb dX5_thief_30 rfl (lv_at hl 0 rfl) ?_
    refine va_get (D := D) (ci := 7) (v := .int (w_3.1 67 0)) (C := RX5) (T := TX5) (N := 30) hx hb hts in_X5 hown hK hP 33 (wg33 ca ad w_3) rfl 25 (by decide) lk_87 (fun _ h9 => h9) rfl dX5_thief_31 ?_
    refine lv_if_le (tgt := 41) hx hb dX5_thief_34 (by decide) (fun c_5 => ?_) (fun c_5 => ?_)
    · have hw := hw.1 c_5
      refine lv_aload_n hx hb dX5_thief_41 rfl (lv_at hl 0 rfl) ?_
      refine va_get (D := D) (ci := 7) (v := .ref (ad 51)) (C := RX5) (T := TX5) (N := 30) hx hb hts in_X5 hown hK hP 33 (wg33 ca ad w_3) rfl 17 (by decide) lk_62 (fun _ h9 => h9) rfl dX5_thief_42 ?_
      refine lv_iload_n hx hb dX5_thief_45 rfl (lv_at hl 1 rfl) ?_
      obtain ⟨h_6, hw⟩ := hw
      refine va_iald hx hb hK hP 51 0 (wg51 ca ad w_3) rfl h_6 dX5_thief_46 ?_
      exact W.iret (v := (w_3.1 51 (a0).toNatClampNeg)) hx hb hr (fun t ht hW => ⟨⟨(w_3.1 51 (a0).toNatClampNeg), w_3, rfl, hw, by show PA D ca ad w_3 t.heap; rw [ht]; exact hP⟩, hS.F ht⟩) hS.2.2 dX5_thief_47
    · have hw := hw.2 c_5
      refine lv_iconst (v := 0) hx hb dX5_thief_37 (by decide) ?_
      refine lv_goto (tgt := 47) hx hb dX5_thief_38 (by decide) ?_
      exact W.iret (v := 0) hx hb hr (fun t ht hW => ⟨⟨0, w_3, rfl, hw, by show PA D ca ad w_3 t.heap; rw [ht]; exact hP⟩, hS.F ht⟩) hS.2.2 dX5_thief_47
  have hB23 : ∀ (s0 : Int32) (w : St), wpX5_thief_B23 a0 post s0 w → ∀ (H : Heap) (locs : List Loc), PA D ca ad w H → va_S (AB base) s.heap H locs → ∀ ls : Array Slot, lv_has ls 2 [(0, .ref (ad 33)), (1, .int a0)] → W p l e (headSpec wsX5_thief ({ frames := 3, cells := 0, slots := 0, locals := 64 } : Room)).room s m ([Value.ref (ad 33), Value.int a0].toArray) below meth c H locs 0 0 (MQ below (va_Qi post (Bp D ca ad) (AB base)) ([Value.ref (ad 33), Value.int a0].toArray) s 0 0 (AB base)) (F0 m 23 ls [.int s0, .ref (ad 33), .ref (ad 33)]) := by
    intro s0 w hw H locs hP hS ls hl
    refine lv_iconst (v := 0) hx hb dX5_thief_23 (by decide) ?_
    exact hB24 0 s0 w hw _ _ hP hS ls (lv_sub hl [0, 1] rfl)
  have hl := lv_entry ([.ref (ad 33), .int a0]) (n := 2) (Nat.le_of_ble_eq_true rfl)
  rw [lg_entry_eq]
  generalize (lg_sl ([.ref (ad 33), .int a0]) ++ List.replicate (2 - (lg_sl ([.ref (ad 33), .int a0])).length) Slot.unset).toArray = ls at hl ⊢
  have hl : lv_has ls 2 [(0, .ref (ad 33)), (1, .int a0)] := hl
  refine lv_aload_n hx hb dX5_thief_0 rfl (lv_at hl 0 rfl) ?_
  refine lv_aload_n hx hb dX5_thief_1 rfl (lv_at hl 0 rfl) ?_
  refine lv_iload_n hx hb dX5_thief_2 rfl (lv_at hl 1 rfl) ?_
  refine lv_iload_n hx hb dX5_thief_3 rfl (lv_at hl 1 rfl) ?_
  refine va_calli (va_runS (As := [.int a0]) (rest := [.int a0, .ref (ad 33), .ref (ad 33)]) ⟨hx, hb, hml, hown, hts⟩ (mX5_isLock l D ca ad base hAd w a0 _ hw) (va_cwS 1 hts gX5_thief_X5_isLock rfl rfl rfl (by decide +kernel) ⟨Nat.le_of_ble_eq_true rfl, Nat.le_of_ble_eq_true rfl⟩) (ps [.int a0] hK hP hbs hS) rfl rfl hl.1 rfl (lv_room (Nat.le_of_ble_eq_true rfl)) dX5_thief_4 ⟨Nat.le_of_ble_eq_true rfl, Nat.le_of_ble_eq_true rfl⟩) hS (fun q _ h => h) (fun q h => h) (fun r_8 w_7 t H locs ht hvm hw hP hz1 hk1 hS => ?_)
  have hP : PA D ca ad w_7 H := by rw [← ht]; exact hP
  refine lv_if_eq (tgt := 23) hx hb dX5_thief_7 (by decide) (fun c_9 => ?_) (fun c_9 => ?_)
  · have hw := hw.1 c_9
    exact hB23 a0 w_7 hw _ _ hP hS ls (lv_sub hl [0, 1] rfl)
  · have hw := hw.2 c_9
    refine lv_aload_n hx hb dX5_thief_10 rfl (lv_at hl 0 rfl) ?_
    refine va_get (D := D) (ci := 7) (v := .ref (ad 51)) (C := RX5) (T := TX5) (N := 30) hx hb hts in_X5 hown hK hP 33 (wg33 ca ad w_7) rfl 17 (by decide) lk_62 (fun _ h9 => h9) rfl dX5_thief_11 ?_
    refine lv_iload_n hx hb dX5_thief_14 rfl (lv_at hl 1 rfl) ?_
    obtain ⟨h_10, hw⟩ := hw
    refine va_iald hx hb hK hP 51 0 (wg51 ca ad w_7) rfl h_10 dX5_thief_15 ?_
    refine lv_if_lt (tgt := 23) hx hb dX5_thief_16 (by decide) (fun c_11 => ?_) (fun c_11 => ?_)
    · have hw := hw.1 c_11
      exact hB23 a0 w_7 hw _ _ hP hS ls (lv_sub hl [0, 1] rfl)
    · have hw := hw.2 c_11
      refine lv_iconst (v := 1) hx hb dX5_thief_19 (by decide) ?_
      refine lv_goto (tgt := 24) hx hb dX5_thief_20 (by decide) ?_
      exact hB24 1 a0 w_7 hw _ _ hP hS ls (lv_sub hl [0, 1] rfl)
set_option maxHeartbeats 4000000 in
set_option maxRecDepth 100000 in
def wpX5_waiting (a0 : Int32) (w : St) (post : Int32 → St → Prop) : Prop := wpX5_isLock a0 w (fun r_2 w_1 => wpX5_checked r_2 w_1 (fun r_4 w_3 => (r_4 ≤ 0 → ((vp_in a0 4) ∧ (post (w_3.1 54 (a0).toNatClampNeg) w_3))) ∧ (¬ (r_4 ≤ 0) → (post 0 w_3))))
set_option maxHeartbeats 4000000 in
set_option maxRecDepth 100000 in
theorem mX5_waiting (l : Launch) (D : va_G) (ca : Nat → ClassId) (ad : Nat → Nat) (base : Nat) (hAd : okA base ad) (w : St) (a0 : Int32) (post : Int32 → St → Prop) (hw : wpX5_waiting a0 w post) : Met l yX5_waiting wsX5_waiting ({ frames := 2, cells := 0, slots := 0, locals := 42 } : Room) (va_Pc [.ref (ad 33), .int a0] (BU D ca ad base w)) (va_Qi post (Bp D ca ad) (AB base)) 0 0 (AB base) := by
  refine Met.ofW (cc := cX5_waiting) (maxL := 2) (ret := (some .int)) (by decide) rfl ?_
  intro p e s m args below meth c s₁ B hml hv
  obtain ⟨rfl, hbs, hP, hK⟩ := hv
  have hx := B.exec
  have hb := B.bytes
  have hr := B.returns
  have hts := atoms_spec (ws := wsX5_waiting) B.pre
  have hown : s.vm.findClass RX5 = some m.cls := findClass_of_methodNamed B.named
  have hlocks := B.notSynchronized
  have in_X5 : ∀ w ∈ wsX50, w ∈ wsX5_waiting := by decide +kernel
  have lk_71 := hts (.fieldLink RX5 71 "LockQuorumModel" "waits" "[I") (by decide +kernel)
  have hS : va_S (AB base) s.heap s.heap [] := va_S.rf
  have hl := lv_entry ([.ref (ad 33), .int a0]) (n := 2) (Nat.le_of_ble_eq_true rfl)
  rw [lg_entry_eq]
  generalize (lg_sl ([.ref (ad 33), .int a0]) ++ List.replicate (2 - (lg_sl ([.ref (ad 33), .int a0])).length) Slot.unset).toArray = ls at hl ⊢
  have hl : lv_has ls 2 [(0, .ref (ad 33)), (1, .int a0)] := hl
  refine lv_aload_n hx hb dX5_waiting_0 rfl (lv_at hl 0 rfl) ?_
  refine lv_iload_n hx hb dX5_waiting_1 rfl (lv_at hl 1 rfl) ?_
  refine va_calli (va_runS (As := [.int a0]) (rest := [.ref (ad 33)]) ⟨hx, hb, hml, hown, hts⟩ (mX5_isLock l D ca ad base hAd w a0 _ hw) (va_cwS 1 hts gX5_waiting_X5_isLock rfl rfl rfl (by decide +kernel) ⟨Nat.le_of_ble_eq_true rfl, Nat.le_of_ble_eq_true rfl⟩) (ps [.int a0] hK hP hbs hS) rfl rfl hl.1 rfl (lv_room (Nat.le_of_ble_eq_true rfl)) dX5_waiting_2 ⟨Nat.le_of_ble_eq_true rfl, Nat.le_of_ble_eq_true rfl⟩) hS (fun q _ h => h) (fun q h => h) (fun r_2 w_1 t H locs ht hvm hw hP hz1 hk1 hS => ?_)
  have hP : PA D ca ad w_1 H := by rw [← ht]; exact hP
  refine va_calli (va_runV (As := [.int r_2]) (rest := []) ⟨hx, hb, hml, hown, hts⟩ (mX5_checked l D ca ad base hAd w_1 r_2 _ hw) (cwV 1 hts gX5_waiting_X5_checked rfl rfl rfl (by decide +kernel) ⟨Nat.le_of_ble_eq_true rfl, Nat.le_of_ble_eq_true rfl⟩) (pv [.int r_2] hK hP hbs hS rfl (wg33 ca ad w_1)) rfl rfl hl.1 rfl (lv_room (Nat.le_of_ble_eq_true rfl)) dX5_waiting_5 ⟨Nat.le_of_ble_eq_true rfl, Nat.le_of_ble_eq_true rfl⟩) hS (fun q _ h => h) (fun q h => h) (fun r_4 w_3 t H locs ht hvm hw hP hz1 hk1 hS => ?_)
  have hP : PA D ca ad w_3 H := by rw [← ht]; exact hP
  refine lv_if_le (tgt := 15) hx hb dX5_waiting_8 (by decide) (fun c_5 => ?_) (fun c_5 => ?_)
  · have hw := hw.1 c_5
    refine lv_aload_n hx hb dX5_waiting_15 rfl (lv_at hl 0 rfl) ?_
    refine va_get (D := D) (ci := 7) (v := .ref (ad 54)) (C := RX5) (T := TX5) (N := 30) hx hb hts in_X5 hown hK hP 33 (wg33 ca ad w_3) rfl 20 (by decide) lk_71 (fun _ h9 => h9) rfl dX5_waiting_16 ?_
    refine lv_iload_n hx hb dX5_waiting_19 rfl (lv_at hl 1 rfl) ?_
    obtain ⟨h_6, hw⟩ := hw
    refine va_iald hx hb hK hP 54 0 (wg54 ca ad w_3) rfl h_6 dX5_waiting_20 ?_
    exact W.iret (v := (w_3.1 54 (a0).toNatClampNeg)) hx hb hr (fun t ht hW => ⟨⟨(w_3.1 54 (a0).toNatClampNeg), w_3, rfl, hw, by show PA D ca ad w_3 t.heap; rw [ht]; exact hP⟩, hS.F ht⟩) hS.2.2 dX5_waiting_21
  · have hw := hw.2 c_5
    refine lv_iconst (v := 0) hx hb dX5_waiting_11 (by decide) ?_
    refine lv_goto (tgt := 21) hx hb dX5_waiting_12 (by decide) ?_
    exact W.iret (v := 0) hx hb hr (fun t ht hW => ⟨⟨0, w_3, rfl, hw, by show PA D ca ad w_3 t.heap; rw [ht]; exact hP⟩, hS.F ht⟩) hS.2.2 dX5_waiting_21
set_option maxHeartbeats 4000000 in
set_option maxRecDepth 100000 in
def wpX5_waitingAt_B31 (a0 : Int32) (a1 : Int32) (post : Int32 → St → Prop) (s0 : Int32) (s1 : Int32) (w : St) : Prop := wpX5_wrongLock s1 s0 w (fun r_2 w_1 => ∀ w_3 : St, w_3 = (uI w_1 67 r_2) → ((w_3.1 67 0) ≤ 0 → ((vp_in ((6 * a0) + a1) 24) ∧ (post (w_3.1 53 (((6 * a0) + a1)).toNatClampNeg) w_3))) ∧ (¬ ((w_3.1 67 0) ≤ 0) → (post 0 w_3)))
set_option maxHeartbeats 4000000 in
set_option maxRecDepth 100000 in
def wpX5_waitingAt_B30 (a0 : Int32) (a1 : Int32) (post : Int32 → St → Prop) (s0 : Int32) (w : St) : Prop := wpX5_waitingAt_B31 a0 a1 post 0 s0 w
set_option maxHeartbeats 4000000 in
set_option maxRecDepth 100000 in
def wpX5_waitingAt (a0 : Int32) (a1 : Int32) (w : St) (post : Int32 → St → Prop) : Prop := wpX5_isLock a0 w (fun r_8 w_7 => (r_8 = 0 → (wpX5_waitingAt_B30 a0 a1 post a0 w_7)) ∧ (¬ (r_8 = 0) → ((vp_in a0 4) ∧ (wpX5_in a1 0 ((w_7.1 54 (a0).toNatClampNeg) - 1) w_7 (fun r_12 w_11 => (r_12 = 0 → (wpX5_waitingAt_B30 a0 a1 post a0 w_11)) ∧ (¬ (r_12 = 0) → (wpX5_waitingAt_B31 a0 a1 post 1 a0 w_11)))))))
set_option maxHeartbeats 4000000 in
set_option maxRecDepth 100000 in
theorem mX5_waitingAt (l : Launch) (D : va_G) (ca : Nat → ClassId) (ad : Nat → Nat) (base : Nat) (hAd : okA base ad) (w : St) (a0 : Int32) (a1 : Int32) (post : Int32 → St → Prop) (hw : wpX5_waitingAt a0 a1 w post) : Met l yX5_waitingAt wsX5_waitingAt ({ frames := 3, cells := 0, slots := 0, locals := 64 } : Room) (va_Pc [.ref (ad 33), .int a0, .int a1] (BU D ca ad base w)) (va_Qi post (Bp D ca ad) (AB base)) 0 0 (AB base) := by
  refine Met.ofW (cc := cX5_waitingAt) (maxL := 3) (ret := (some .int)) (by decide) rfl ?_
  intro p e s m args below meth c s₁ B hml hv
  obtain ⟨rfl, hbs, hP, hK⟩ := hv
  have hx := B.exec
  have hb := B.bytes
  have hr := B.returns
  have hts := atoms_spec (ws := wsX5_waitingAt) B.pre
  have hown : s.vm.findClass RX5 = some m.cls := findClass_of_methodNamed B.named
  have hlocks := B.notSynchronized
  have in_X5 : ∀ w ∈ wsX50, w ∈ wsX5_waitingAt := by decide +kernel
  have lk_68 := hts (.fieldLink RX5 68 "LockQuorumModel" "queues" "[I") (by decide +kernel)
  have lk_71 := hts (.fieldLink RX5 71 "LockQuorumModel" "waits" "[I") (by decide +kernel)
  have lk_87 := hts (.fieldLink RX5 87 "LockQuorumModel" "thrown" "I") (by decide +kernel)
  have hS : va_S (AB base) s.heap s.heap [] := va_S.rf
  have hB31 : ∀ (s0 : Int32) (s1 : Int32) (w : St), wpX5_waitingAt_B31 a0 a1 post s0 s1 w → ∀ (H : Heap) (locs : List Loc), PA D ca ad w H → va_S (AB base) s.heap H locs → ∀ ls : Array Slot, lv_has ls 3 [(0, .ref (ad 33)), (1, .int a0), (2, .int a1)] → W p l e (headSpec wsX5_waitingAt ({ frames := 3, cells := 0, slots := 0, locals := 64 } : Room)).room s m ([Value.ref (ad 33), Value.int a0, Value.int a1].toArray) below meth c H locs 0 0 (MQ below (va_Qi post (Bp D ca ad) (AB base)) ([Value.ref (ad 33), Value.int a0, Value.int a1].toArray) s 0 0 (AB base)) (F0 m 31 ls [.int s0, .int s1, .ref (ad 33), .ref (ad 33)]) := by
    intro s0 s1 w hw H locs hP hS ls hl
    refine va_calli (va_runV (As := [.int s1, .int s0]) (rest := [.ref (ad 33)]) ⟨hx, hb, hml, hown, hts⟩ (mX5_wrongLock l D ca ad base hAd w s1 s0 _ hw) (cwV 2 hts gX5_waitingAt_X5_wrongLock rfl rfl rfl (by decide +kernel) ⟨Nat.le_of_ble_eq_true rfl, Nat.le_of_ble_eq_true rfl⟩) (pv [.int s1, .int s0] hK hP hbs hS rfl (wg33 ca ad w)) rfl rfl hl.1 rfl (lv_room (Nat.le_of_ble_eq_true rfl)) dX5_waitingAt_31 ⟨Nat.le_of_ble_eq_true rfl, Nat.le_of_ble_eq_true rfl⟩) hS (fun q _ h => h) (fun q h => h) (fun r_2 w_1 t H locs ht hvm hw hP hz1 hk1 hS => ?_)
    have hP : PA D ca ad w_1 H := by rw [← ht]; exact hP
    refine va_put (D := D) (ci := 7) (v := .int r_2) (ty := .int) (C := RX5) (T := TX5) (N := 30) hx hb hts in_X5 tyX5 tyX5_ok nmX5 hown hK hP (DA hAd) hS 33 (wg33 ca ad w_1) rfl 25 (by decide) lk_87 (fun _ h9 => h9) rfl (by decide +kernel) rfl rfl (Nat.le_of_ble_eq_true rfl) dX5_waitingAt_34 (fun H locs hP hD hS => ?_)
    obtain ⟨w_3, e_4⟩ : ∃ z : St, z = (uI w_1 67 r_2) := ⟨_, rfl⟩
    have hP : PA D ca ad w_3 H := by rw [e_4]; exact wf67 hP
    have hw := hw w_3 e_4
    refine lv_aload_n hx hb dX5_waitingAt_37 rfl (lv_at hl 0 rfl) ?_
    refine va_get (D := D) (ci := 7) (v := .int (w_3.1 67 0)) (C := RX5) (T := TX5) (N := 30) hx hb hts in_X5 hown hK hP 33 (wg33 ca ad w_3) rfl 25 (by decide) lk_87 (fun _ h9 => h9) rfl dX5_waitingAt_38 ?_
    refine lv_if_le (tgt := 48) hx hb dX5_waitingAt_41 (by decide) (fun c_5 => ?_) (fun c_5 => ?_)
    · have hw := hw.1 c_5
      refine lv_aload_n hx hb dX5_waitingAt_48 rfl (lv_at hl 0 rfl) ?_
      refine va_get (D := D) (ci := 7) (v := .ref (ad 53)) (C := RX5) (T := TX5) (N := 30) hx hb hts in_X5 hown hK hP 33 (wg33 ca ad w_3) rfl 19 (by decide) lk_68 (fun _ h9 => h9) rfl dX5_waitingAt_49 ?_
      refine lv_bipush (v := 6) hx hb dX5_waitingAt_52 (by decide) ?_
      refine lv_iload_n hx hb dX5_waitingAt_54 rfl (lv_at hl 1 rfl) ?_
      refine lv_imul hx hb dX5_waitingAt_55 ?_
      refine lv_iload_n hx hb dX5_waitingAt_56 rfl (lv_at hl 2 rfl) ?_
      refine lv_iadd hx hb dX5_waitingAt_57 ?_
      obtain ⟨h_6, hw⟩ := hw
      refine va_iald hx hb hK hP 53 0 (wg53 ca ad w_3) rfl h_6 dX5_waitingAt_58 ?_
      exact W.iret (v := (w_3.1 53 (((6 * a0) + a1)).toNatClampNeg)) hx hb hr (fun t ht hW => ⟨⟨(w_3.1 53 (((6 * a0) + a1)).toNatClampNeg), w_3, rfl, hw, by show PA D ca ad w_3 t.heap; rw [ht]; exact hP⟩, hS.F ht⟩) hS.2.2 dX5_waitingAt_59
    · have hw := hw.2 c_5
      refine lv_iconst (v := 0) hx hb dX5_waitingAt_44 (by decide) ?_
      refine lv_goto (tgt := 59) hx hb dX5_waitingAt_45 (by decide) ?_
      exact W.iret (v := 0) hx hb hr (fun t ht hW => ⟨⟨0, w_3, rfl, hw, by show PA D ca ad w_3 t.heap; rw [ht]; exact hP⟩, hS.F ht⟩) hS.2.2 dX5_waitingAt_59
  have hB30 : ∀ (s0 : Int32) (w : St), wpX5_waitingAt_B30 a0 a1 post s0 w → ∀ (H : Heap) (locs : List Loc), PA D ca ad w H → va_S (AB base) s.heap H locs → ∀ ls : Array Slot, lv_has ls 3 [(0, .ref (ad 33)), (1, .int a0), (2, .int a1)] → W p l e (headSpec wsX5_waitingAt ({ frames := 3, cells := 0, slots := 0, locals := 64 } : Room)).room s m ([Value.ref (ad 33), Value.int a0, Value.int a1].toArray) below meth c H locs 0 0 (MQ below (va_Qi post (Bp D ca ad) (AB base)) ([Value.ref (ad 33), Value.int a0, Value.int a1].toArray) s 0 0 (AB base)) (F0 m 30 ls [.int s0, .ref (ad 33), .ref (ad 33)]) := by
    intro s0 w hw H locs hP hS ls hl
    refine lv_iconst (v := 0) hx hb dX5_waitingAt_30 (by decide) ?_
    exact hB31 0 s0 w hw _ _ hP hS ls (lv_sub hl [0, 1, 2] rfl)
  have hl := lv_entry ([.ref (ad 33), .int a0, .int a1]) (n := 3) (Nat.le_of_ble_eq_true rfl)
  rw [lg_entry_eq]
  generalize (lg_sl ([.ref (ad 33), .int a0, .int a1]) ++ List.replicate (3 - (lg_sl ([.ref (ad 33), .int a0, .int a1])).length) Slot.unset).toArray = ls at hl ⊢
  have hl : lv_has ls 3 [(0, .ref (ad 33)), (1, .int a0), (2, .int a1)] := hl
  refine lv_aload_n hx hb dX5_waitingAt_0 rfl (lv_at hl 0 rfl) ?_
  refine lv_aload_n hx hb dX5_waitingAt_1 rfl (lv_at hl 0 rfl) ?_
  refine lv_iload_n hx hb dX5_waitingAt_2 rfl (lv_at hl 1 rfl) ?_
  refine lv_iload_n hx hb dX5_waitingAt_3 rfl (lv_at hl 1 rfl) ?_
  refine va_calli (va_runS (As := [.int a0]) (rest := [.int a0, .ref (ad 33), .ref (ad 33)]) ⟨hx, hb, hml, hown, hts⟩ (mX5_isLock l D ca ad base hAd w a0 _ hw) (va_cwS 1 hts gX5_waitingAt_X5_isLock rfl rfl rfl (by decide +kernel) ⟨Nat.le_of_ble_eq_true rfl, Nat.le_of_ble_eq_true rfl⟩) (ps [.int a0] hK hP hbs hS) rfl rfl hl.1 rfl (lv_room (Nat.le_of_ble_eq_true rfl)) dX5_waitingAt_4 ⟨Nat.le_of_ble_eq_true rfl, Nat.le_of_ble_eq_true rfl⟩) hS (fun q _ h => h) (fun q h => h) (fun r_8 w_7 t H locs ht hvm hw hP hz1 hk1 hS => ?_)
  have hP : PA D ca ad w_7 H := by rw [← ht]; exact hP
  refine lv_if_eq (tgt := 30) hx hb dX5_waitingAt_7 (by decide) (fun c_9 => ?_) (fun c_9 => ?_)
  · have hw := hw.1 c_9
    exact hB30 a0 w_7 hw _ _ hP hS ls (lv_sub hl [0, 1, 2] rfl)
  · have hw := hw.2 c_9
    refine lv_iload_n hx hb dX5_waitingAt_10 rfl (lv_at hl 2 rfl) ?_
    refine lv_iconst (v := 0) hx hb dX5_waitingAt_11 (by decide) ?_
    refine lv_aload_n hx hb dX5_waitingAt_12 rfl (lv_at hl 0 rfl) ?_
    refine va_get (D := D) (ci := 7) (v := .ref (ad 54)) (C := RX5) (T := TX5) (N := 30) hx hb hts in_X5 hown hK hP 33 (wg33 ca ad w_7) rfl 20 (by decide) lk_71 (fun _ h9 => h9) rfl dX5_waitingAt_13 ?_
    refine lv_iload_n hx hb dX5_waitingAt_16 rfl (lv_at hl 1 rfl) ?_
    obtain ⟨h_10, hw⟩ := hw
    refine va_iald hx hb hK hP 54 0 (wg54 ca ad w_7) rfl h_10 dX5_waitingAt_17 ?_
    refine lv_iconst (v := 1) hx hb dX5_waitingAt_18 (by decide) ?_
    refine lv_isub hx hb dX5_waitingAt_19 ?_
    refine va_calli (va_runS (As := [.int a1, .int 0, .int ((w_7.1 54 (a0).toNatClampNeg) - 1)]) (rest := [.int a0, .ref (ad 33), .ref (ad 33)]) ⟨hx, hb, hml, hown, hts⟩ (mX5_in l D ca ad base hAd w_7 a1 0 ((w_7.1 54 (a0).toNatClampNeg) - 1) _ hw) (va_cwS 3 hts gX5_waitingAt_X5_in rfl rfl rfl (by decide +kernel) ⟨Nat.le_of_ble_eq_true rfl, Nat.le_of_ble_eq_true rfl⟩) (ps [.int a1, .int 0, .int ((w_7.1 54 (a0).toNatClampNeg) - 1)] hK hP hbs hS) rfl rfl hl.1 rfl (lv_room (Nat.le_of_ble_eq_true rfl)) dX5_waitingAt_20 ⟨Nat.le_of_ble_eq_true rfl, Nat.le_of_ble_eq_true rfl⟩) hS (fun q _ h => h) (fun q h => h) (fun r_12 w_11 t H locs ht hvm hw hP hz1 hk1 hS => ?_)
    have hP : PA D ca ad w_11 H := by rw [← ht]; exact hP
    refine lv_if_eq (tgt := 30) hx hb dX5_waitingAt_23 (by decide) (fun c_13 => ?_) (fun c_13 => ?_)
    · have hw := hw.1 c_13
      exact hB30 a0 w_11 hw _ _ hP hS ls (lv_sub hl [0, 1, 2] rfl)
    · have hw := hw.2 c_13
      refine lv_iconst (v := 1) hx hb dX5_waitingAt_26 (by decide) ?_
      refine lv_goto (tgt := 31) hx hb dX5_waitingAt_27 (by decide) ?_
      exact hB31 1 a0 w_11 hw _ _ hP hS ls (lv_sub hl [0, 1, 2] rfl)
set_option maxHeartbeats 4000000 in
set_option maxRecDepth 100000 in
def wpX5_claims_B25 (a0 : Int32) (a1 : Int32) (post : Int32 → St → Prop) (s0 : Int32) (w : St) : Prop := ∀ w_1 : St, w_1 = (uI w 67 s0) → ((w_1.1 67 0) = 0 → (wpX5_isClaimed a0 a1 w_1 (fun r_5 w_4 => (r_5 = 0 → (post 0 w_4)) ∧ (¬ (r_5 = 0) → (post 1 w_4))))) ∧ (¬ ((w_1.1 67 0) = 0) → (post 0 w_1))
set_option maxHeartbeats 4000000 in
set_option maxRecDepth 100000 in
def wpX5_claims (a0 : Int32) (a1 : Int32) (w : St) (post : Int32 → St → Prop) : Prop := wpX5_isClient a0 w (fun r_8 w_7 => (r_8 = 0 → (wpX5_claims_B25 a0 a1 post 1 w_7)) ∧ (¬ (r_8 = 0) → (wpX5_isLock a1 w_7 (fun r_11 w_10 => (r_11 = 0 → (wpX5_claims_B25 a0 a1 post 2 w_10)) ∧ (¬ (r_11 = 0) → (wpX5_claims_B25 a0 a1 post 0 w_10))))))
set_option maxHeartbeats 4000000 in
set_option maxRecDepth 100000 in
theorem mX5_claims (l : Launch) (D : va_G) (ca : Nat → ClassId) (ad : Nat → Nat) (base : Nat) (hAd : okA base ad) (w : St) (a0 : Int32) (a1 : Int32) (post : Int32 → St → Prop) (hw : wpX5_claims a0 a1 w post) : Met l yX5_claims wsX5_claims ({ frames := 2, cells := 0, slots := 0, locals := 43 } : Room) (va_Pc [.ref (ad 33), .int a0, .int a1] (BU D ca ad base w)) (va_Qi post (Bp D ca ad) (AB base)) 0 0 (AB base) := by
  refine Met.ofW (cc := cX5_claims) (maxL := 3) (ret := (some .boolean)) (by decide) rfl ?_
  intro p e s m args below meth c s₁ B hml hv
  obtain ⟨rfl, hbs, hP, hK⟩ := hv
  have hx := B.exec
  have hb := B.bytes
  have hr := B.returns
  have hts := atoms_spec (ws := wsX5_claims) B.pre
  have hown : s.vm.findClass RX5 = some m.cls := findClass_of_methodNamed B.named
  have hlocks := B.notSynchronized
  have in_X5 : ∀ w ∈ wsX50, w ∈ wsX5_claims := by decide +kernel
  have lk_87 := hts (.fieldLink RX5 87 "LockQuorumModel" "thrown" "I") (by decide +kernel)
  have hS : va_S (AB base) s.heap s.heap [] := va_S.rf
  have hB25 : ∀ (s0 : Int32) (w : St), wpX5_claims_B25 a0 a1 post s0 w → ∀ (H : Heap) (locs : List Loc), PA D ca ad w H → va_S (AB base) s.heap H locs → ∀ ls : Array Slot, lv_has ls 3 [(0, .ref (ad 33)), (1, .int a0), (2, .int a1)] → W p l e (headSpec wsX5_claims ({ frames := 2, cells := 0, slots := 0, locals := 43 } : Room)).room s m ([Value.ref (ad 33), Value.int a0, Value.int a1].toArray) below meth c H locs 0 0 (MQ below (va_Qi post (Bp D ca ad) (AB base)) ([Value.ref (ad 33), Value.int a0, Value.int a1].toArray) s 0 0 (AB base)) (F0 m 25 ls [.int s0, .ref (ad 33)]) := by
    intro s0 w hw H locs hP hS ls hl
    refine va_put (D := D) (ci := 7) (v := .int s0) (ty := .int) (C := RX5) (T := TX5) (N := 30) hx hb hts in_X5 tyX5 tyX5_ok nmX5 hown hK hP (DA hAd) hS 33 (wg33 ca ad w) rfl 25 (by decide) lk_87 (fun _ h9 => h9) rfl (by decide +kernel) rfl rfl (Nat.le_of_ble_eq_true rfl) dX5_claims_25 (fun H locs hP hD hS => ?_)
    obtain ⟨w_1, e_2⟩ : ∃ z : St, z = (uI w 67 s0) := ⟨_, rfl⟩
    have hP : PA D ca ad w_1 H := by rw [e_2]; exact wf67 hP
    have hw := hw w_1 e_2
    refine lv_aload_n hx hb dX5_claims_28 rfl (lv_at hl 0 rfl) ?_
    refine va_get (D := D) (ci := 7) (v := .int (w_1.1 67 0)) (C := RX5) (T := TX5) (N := 30) hx hb hts in_X5 hown hK hP 33 (wg33 ca ad w_1) rfl 25 (by decide) lk_87 (fun _ h9 => h9) rfl dX5_claims_29 ?_
    refine lv_if_ne (tgt := 48) hx hb dX5_claims_32 (by decide) (fun c_3 => ?_) (fun c_3 => ?_)
    · have hw := hw.2 c_3
      refine lv_iconst (v := 0) hx hb dX5_claims_48 (by decide) ?_
      exact W.zret (v := 0) hx hb hr (by decide) (fun t ht hW => ⟨⟨0, w_1, rfl, hw, by show PA D ca ad w_1 t.heap; rw [ht]; exact hP⟩, hS.F ht⟩) hS.2.2 dX5_claims_49
    · have hw := hw.1 c_3
      refine lv_aload_n hx hb dX5_claims_35 rfl (lv_at hl 0 rfl) ?_
      refine lv_iload_n hx hb dX5_claims_36 rfl (lv_at hl 1 rfl) ?_
      refine lv_iload_n hx hb dX5_claims_37 rfl (lv_at hl 2 rfl) ?_
      refine va_calli (va_runV (As := [.int a0, .int a1]) (rest := []) ⟨hx, hb, hml, hown, hts⟩ (mX5_isClaimed l D ca ad base hAd w_1 a0 a1 _ hw) (cwV 2 hts gX5_claims_X5_isClaimed rfl rfl rfl (by decide +kernel) ⟨Nat.le_of_ble_eq_true rfl, Nat.le_of_ble_eq_true rfl⟩) (pv [.int a0, .int a1] hK hP hbs hS rfl (wg33 ca ad w_1)) rfl rfl hl.1 rfl (lv_room (Nat.le_of_ble_eq_true rfl)) dX5_claims_38 ⟨Nat.le_of_ble_eq_true rfl, Nat.le_of_ble_eq_true rfl⟩) hS (fun q _ h => h) (fun q h => h) (fun r_5 w_4 t H locs ht hvm hw hP hz1 hk1 hS => ?_)
      have hP : PA D ca ad w_4 H := by rw [← ht]; exact hP
      refine lv_if_eq (tgt := 48) hx hb dX5_claims_41 (by decide) (fun c_6 => ?_) (fun c_6 => ?_)
      · have hw := hw.1 c_6
        refine lv_iconst (v := 0) hx hb dX5_claims_48 (by decide) ?_
        exact W.zret (v := 0) hx hb hr (by decide) (fun t ht hW => ⟨⟨0, w_4, rfl, hw, by show PA D ca ad w_4 t.heap; rw [ht]; exact hP⟩, hS.F ht⟩) hS.2.2 dX5_claims_49
      · have hw := hw.2 c_6
        refine lv_iconst (v := 1) hx hb dX5_claims_44 (by decide) ?_
        refine lv_goto (tgt := 49) hx hb dX5_claims_45 (by decide) ?_
        exact W.zret (v := 1) hx hb hr (by decide) (fun t ht hW => ⟨⟨1, w_4, rfl, hw, by show PA D ca ad w_4 t.heap; rw [ht]; exact hP⟩, hS.F ht⟩) hS.2.2 dX5_claims_49
  have hl := lv_entry ([.ref (ad 33), .int a0, .int a1]) (n := 3) (Nat.le_of_ble_eq_true rfl)
  rw [lg_entry_eq]
  generalize (lg_sl ([.ref (ad 33), .int a0, .int a1]) ++ List.replicate (3 - (lg_sl ([.ref (ad 33), .int a0, .int a1])).length) Slot.unset).toArray = ls at hl ⊢
  have hl : lv_has ls 3 [(0, .ref (ad 33)), (1, .int a0), (2, .int a1)] := hl
  refine lv_aload_n hx hb dX5_claims_0 rfl (lv_at hl 0 rfl) ?_
  refine lv_aload_n hx hb dX5_claims_1 rfl (lv_at hl 0 rfl) ?_
  refine lv_iload_n hx hb dX5_claims_2 rfl (lv_at hl 1 rfl) ?_
  refine va_calli (va_runV (As := [.int a0]) (rest := [.ref (ad 33)]) ⟨hx, hb, hml, hown, hts⟩ (mX5_isClient l D ca ad base hAd w a0 _ hw) (cwV 1 hts gX5_claims_X5_isClient rfl rfl rfl (by decide +kernel) ⟨Nat.le_of_ble_eq_true rfl, Nat.le_of_ble_eq_true rfl⟩) (pv [.int a0] hK hP hbs hS rfl (wg33 ca ad w)) rfl rfl hl.1 rfl (lv_room (Nat.le_of_ble_eq_true rfl)) dX5_claims_3 ⟨Nat.le_of_ble_eq_true rfl, Nat.le_of_ble_eq_true rfl⟩) hS (fun q _ h => h) (fun q h => h) (fun r_8 w_7 t H locs ht hvm hw hP hz1 hk1 hS => ?_)
  have hP : PA D ca ad w_7 H := by rw [← ht]; exact hP
  refine lv_if_ne (tgt := 13) hx hb dX5_claims_6 (by decide) (fun c_9 => ?_) (fun c_9 => ?_)
  · have hw := hw.2 c_9
    refine lv_iload_n hx hb dX5_claims_13 rfl (lv_at hl 2 rfl) ?_
    refine va_calli (va_runS (As := [.int a1]) (rest := [.ref (ad 33)]) ⟨hx, hb, hml, hown, hts⟩ (mX5_isLock l D ca ad base hAd w_7 a1 _ hw) (va_cwS 1 hts gX5_claims_X5_isLock rfl rfl rfl (by decide +kernel) ⟨Nat.le_of_ble_eq_true rfl, Nat.le_of_ble_eq_true rfl⟩) (ps [.int a1] hK hP hbs hS) rfl rfl hl.1 rfl (lv_room (Nat.le_of_ble_eq_true rfl)) dX5_claims_14 ⟨Nat.le_of_ble_eq_true rfl, Nat.le_of_ble_eq_true rfl⟩) hS (fun q _ h => h) (fun q h => h) (fun r_11 w_10 t H locs ht hvm hw hP hz1 hk1 hS => ?_)
    have hP : PA D ca ad w_10 H := by rw [← ht]; exact hP
    refine lv_if_ne (tgt := 24) hx hb dX5_claims_17 (by decide) (fun c_12 => ?_) (fun c_12 => ?_)
    · have hw := hw.2 c_12
      refine lv_iconst (v := 0) hx hb dX5_claims_24 (by decide) ?_
      exact hB25 0 w_10 hw _ _ hP hS ls (lv_sub hl [0, 1, 2] rfl)
    · have hw := hw.1 c_12
      refine lv_iconst (v := 2) hx hb dX5_claims_20 (by decide) ?_
      refine lv_goto (tgt := 25) hx hb dX5_claims_21 (by decide) ?_
      exact hB25 2 w_10 hw _ _ hP hS ls (lv_sub hl [0, 1, 2] rfl)
  · have hw := hw.1 c_9
    refine lv_iconst (v := 1) hx hb dX5_claims_9 (by decide) ?_
    refine lv_goto (tgt := 25) hx hb dX5_claims_10 (by decide) ?_
    exact hB25 1 w_7 hw _ _ hP hS ls (lv_sub hl [0, 1, 2] rfl)
set_option maxHeartbeats 4000000 in
set_option maxRecDepth 100000 in
def wpX5_claimants_B40 (a0 : Int32) (post : Int32 → St → Prop) (K17 : Int32 → Int32 → St → Prop) (v3 : Int32) (s0 : Int32) (s1 : Int32) (w : St) : Prop := K17 (s1 + s0) (v3 + 1) w
set_option maxHeartbeats 4000000 in
set_option maxRecDepth 100000 in
def wpX5_claimants_L17 (a0 : Int32) (post : Int32 → St → Prop) : Nat → Int32 → Int32 → St → Prop
  | 0, _, _, _ => False
  | n + 1, v2, v3, w => ((w.1 69 0) ≤ v3 → (post v2 w)) ∧ (¬ ((w.1 69 0) ≤ v3) → (wpX5_isClaimed v3 a0 w (fun r_3 w_2 => (r_3 = 0 → (wpX5_claimants_B40 a0 post (fun v2 v3 w => wpX5_claimants_L17 a0 post n v2 v3 w) v3 0 v2 w_2)) ∧ (¬ (r_3 = 0) → (wpX5_claimants_B40 a0 post (fun v2 v3 w => wpX5_claimants_L17 a0 post n v2 v3 w) v3 1 v2 w_2)))))
set_option maxHeartbeats 4000000 in
set_option maxRecDepth 100000 in
def wpX5_claimants (a0 : Int32) (w : St) (post : Int32 → St → Prop) : Prop := wpX5_isLock a0 w (fun r_6 w_5 => wpX5_checked r_6 w_5 (fun r_8 w_7 => (r_8 ≤ 0 → (∃ n : Nat, wpX5_claimants_L17 a0 post n 0 0 w_7)) ∧ (¬ (r_8 ≤ 0) → (post 0 w_7))))
set_option maxHeartbeats 4000000 in
set_option maxRecDepth 100000 in
theorem mX5_claimants (l : Launch) (D : va_G) (ca : Nat → ClassId) (ad : Nat → Nat) (base : Nat) (hAd : okA base ad) (w : St) (a0 : Int32) (post : Int32 → St → Prop) (hw : wpX5_claimants a0 w post) : Met l yX5_claimants wsX5_claimants ({ frames := 2, cells := 0, slots := 0, locals := 43 } : Room) (va_Pc [.ref (ad 33), .int a0] (BU D ca ad base w)) (va_Qi post (Bp D ca ad) (AB base)) 0 0 (AB base) := by
  refine Met.ofW (cc := cX5_claimants) (maxL := 4) (ret := (some .int)) (by decide) rfl ?_
  intro p e s m args below meth c s₁ B hml hv
  obtain ⟨rfl, hbs, hP, hK⟩ := hv
  have hx := B.exec
  have hb := B.bytes
  have hr := B.returns
  have hts := atoms_spec (ws := wsX5_claimants) B.pre
  have hown : s.vm.findClass RX5 = some m.cls := findClass_of_methodNamed B.named
  have hlocks := B.notSynchronized
  have in_X5 : ∀ w ∈ wsX50, w ∈ wsX5_claimants := by decide +kernel
  have lk_94 := hts (.fieldLink RX5 94 "LockQuorumModel" "clients" "I") (by decide +kernel)
  have hS : va_S (AB base) s.heap s.heap [] := va_S.rf
  have hB17 : ∀ (n : Nat) (v2 : Int32) (v3 : Int32) (w : St), wpX5_claimants_L17 a0 post n v2 v3 w → ∀ (H : Heap) (locs : List Loc), PA D ca ad w H → va_S (AB base) s.heap H locs → ∀ ls : Array Slot, lv_has ls 4 [(0, .ref (ad 33)), (1, .int a0), (2, .int v2), (3, .int v3)] → W p l e (headSpec wsX5_claimants ({ frames := 2, cells := 0, slots := 0, locals := 43 } : Room)).room s m ([Value.ref (ad 33), Value.int a0].toArray) below meth c H locs 0 0 (MQ below (va_Qi post (Bp D ca ad) (AB base)) ([Value.ref (ad 33), Value.int a0].toArray) s 0 0 (AB base)) (F0 m 17 ls []) := by
    intro n
    induction n with
    | zero => intro v2 v3 w hw; exact hw.elim
    | succ n ih17 =>
      have hB40 : ∀ (v3 : Int32) (s0 : Int32) (s1 : Int32) (w : St), wpX5_claimants_B40 a0 post (fun v2 v3 w => wpX5_claimants_L17 a0 post n v2 v3 w) v3 s0 s1 w → ∀ (H : Heap) (locs : List Loc), PA D ca ad w H → va_S (AB base) s.heap H locs → ∀ ls : Array Slot, lv_has ls 4 [(0, .ref (ad 33)), (1, .int a0), (3, .int v3)] → W p l e (headSpec wsX5_claimants ({ frames := 2, cells := 0, slots := 0, locals := 43 } : Room)).room s m ([Value.ref (ad 33), Value.int a0].toArray) below meth c H locs 0 0 (MQ below (va_Qi post (Bp D ca ad) (AB base)) ([Value.ref (ad 33), Value.int a0].toArray) s 0 0 (AB base)) (F0 m 40 ls [.int s0, .int s1]) := by
        intro v3 s0 s1 w hw H locs hP hS ls hl
        refine lv_iadd hx hb dX5_claimants_40 ?_
        refine lv_istore_n (lv' := [(2, .int (s1 + s0)), (0, .ref (ad 33)), (1, .int a0), (3, .int v3)]) hx hb dX5_claimants_41 rfl hl (by decide) rfl (fun ls hl => ?_)
        refine lv_iinc (v := (v3 + 1)) (lv' := [(3, .int (v3 + 1)), (2, .int (s1 + s0)), (0, .ref (ad 33)), (1, .int a0)]) hx hb dX5_claimants_42 hl (k := 3) rfl rfl (by decide) rfl (fun ls hl => ?_)
        refine lv_goto (tgt := 17) hx hb dX5_claimants_45 (by decide) ?_
        exact ih17 (s1 + s0) (v3 + 1) w hw _ _ hP hS ls (lv_sub hl [2, 3, 1, 0] rfl)
      intro v2 v3 w hw H locs hP hS ls hl
      refine lv_iload_n hx hb dX5_claimants_17 rfl (lv_at hl 3 rfl) ?_
      refine lv_aload_n hx hb dX5_claimants_18 rfl (lv_at hl 0 rfl) ?_
      refine va_get (D := D) (ci := 7) (v := .int (w.1 69 0)) (C := RX5) (T := TX5) (N := 30) hx hb hts in_X5 hown hK hP 33 (wg33 ca ad w) rfl 27 (by decide) lk_94 (fun _ h9 => h9) rfl dX5_claimants_19 ?_
      refine lv_icmp_ge (tgt := 48) hx hb dX5_claimants_22 (by decide) (fun c_1 => ?_) (fun c_1 => ?_)
      · have hw := hw.1 c_1
        refine lv_iload_n hx hb dX5_claimants_48 rfl (lv_at hl 2 rfl) ?_
        exact W.iret (v := v2) hx hb hr (fun t ht hW => ⟨⟨v2, w, rfl, hw, by show PA D ca ad w t.heap; rw [ht]; exact hP⟩, hS.F ht⟩) hS.2.2 dX5_claimants_49
      · have hw := hw.2 c_1
        refine lv_iload_n hx hb dX5_claimants_25 rfl (lv_at hl 2 rfl) ?_
        refine lv_aload_n hx hb dX5_claimants_26 rfl (lv_at hl 0 rfl) ?_
        refine lv_iload_n hx hb dX5_claimants_27 rfl (lv_at hl 3 rfl) ?_
        refine lv_iload_n hx hb dX5_claimants_28 rfl (lv_at hl 1 rfl) ?_
        refine va_calli (va_runV (As := [.int v3, .int a0]) (rest := [.int v2]) ⟨hx, hb, hml, hown, hts⟩ (mX5_isClaimed l D ca ad base hAd w v3 a0 _ hw) (cwV 2 hts gX5_claimants_X5_isClaimed rfl rfl rfl (by decide +kernel) ⟨Nat.le_of_ble_eq_true rfl, Nat.le_of_ble_eq_true rfl⟩) (pv [.int v3, .int a0] hK hP hbs hS rfl (wg33 ca ad w)) rfl rfl hl.1 rfl (lv_room (Nat.le_of_ble_eq_true rfl)) dX5_claimants_29 ⟨Nat.le_of_ble_eq_true rfl, Nat.le_of_ble_eq_true rfl⟩) hS (fun q _ h => h) (fun q h => h) (fun r_3 w_2 t H locs ht hvm hw hP hz1 hk1 hS => ?_)
        have hP : PA D ca ad w_2 H := by rw [← ht]; exact hP
        refine lv_if_eq (tgt := 39) hx hb dX5_claimants_32 (by decide) (fun c_4 => ?_) (fun c_4 => ?_)
        · have hw := hw.1 c_4
          refine lv_iconst (v := 0) hx hb dX5_claimants_39 (by decide) ?_
          exact hB40 v3 0 v2 w_2 hw _ _ hP hS ls (lv_sub hl [0, 1, 3] rfl)
        · have hw := hw.2 c_4
          refine lv_iconst (v := 1) hx hb dX5_claimants_35 (by decide) ?_
          refine lv_goto (tgt := 40) hx hb dX5_claimants_36 (by decide) ?_
          exact hB40 v3 1 v2 w_2 hw _ _ hP hS ls (lv_sub hl [0, 1, 3] rfl)
  have hl := lv_entry ([.ref (ad 33), .int a0]) (n := 4) (Nat.le_of_ble_eq_true rfl)
  rw [lg_entry_eq]
  generalize (lg_sl ([.ref (ad 33), .int a0]) ++ List.replicate (4 - (lg_sl ([.ref (ad 33), .int a0])).length) Slot.unset).toArray = ls at hl ⊢
  have hl : lv_has ls 4 [(0, .ref (ad 33)), (1, .int a0)] := hl
  refine lv_aload_n hx hb dX5_claimants_0 rfl (lv_at hl 0 rfl) ?_
  refine lv_iload_n hx hb dX5_claimants_1 rfl (lv_at hl 1 rfl) ?_
  refine va_calli (va_runS (As := [.int a0]) (rest := [.ref (ad 33)]) ⟨hx, hb, hml, hown, hts⟩ (mX5_isLock l D ca ad base hAd w a0 _ hw) (va_cwS 1 hts gX5_claimants_X5_isLock rfl rfl rfl (by decide +kernel) ⟨Nat.le_of_ble_eq_true rfl, Nat.le_of_ble_eq_true rfl⟩) (ps [.int a0] hK hP hbs hS) rfl rfl hl.1 rfl (lv_room (Nat.le_of_ble_eq_true rfl)) dX5_claimants_2 ⟨Nat.le_of_ble_eq_true rfl, Nat.le_of_ble_eq_true rfl⟩) hS (fun q _ h => h) (fun q h => h) (fun r_6 w_5 t H locs ht hvm hw hP hz1 hk1 hS => ?_)
  have hP : PA D ca ad w_5 H := by rw [← ht]; exact hP
  refine va_calli (va_runV (As := [.int r_6]) (rest := []) ⟨hx, hb, hml, hown, hts⟩ (mX5_checked l D ca ad base hAd w_5 r_6 _ hw) (cwV 1 hts gX5_claimants_X5_checked rfl rfl rfl (by decide +kernel) ⟨Nat.le_of_ble_eq_true rfl, Nat.le_of_ble_eq_true rfl⟩) (pv [.int r_6] hK hP hbs hS rfl (wg33 ca ad w_5)) rfl rfl hl.1 rfl (lv_room (Nat.le_of_ble_eq_true rfl)) dX5_claimants_5 ⟨Nat.le_of_ble_eq_true rfl, Nat.le_of_ble_eq_true rfl⟩) hS (fun q _ h => h) (fun q h => h) (fun r_8 w_7 t H locs ht hvm hw hP hz1 hk1 hS => ?_)
  have hP : PA D ca ad w_7 H := by rw [← ht]; exact hP
  refine lv_if_le (tgt := 13) hx hb dX5_claimants_8 (by decide) (fun c_9 => ?_) (fun c_9 => ?_)
  · have hw := hw.1 c_9
    refine lv_iconst (v := 0) hx hb dX5_claimants_13 (by decide) ?_
    refine lv_istore_n (lv' := [(2, .int 0), (0, .ref (ad 33)), (1, .int a0)]) hx hb dX5_claimants_14 rfl hl (by decide) rfl (fun ls hl => ?_)
    refine lv_iconst (v := 0) hx hb dX5_claimants_15 (by decide) ?_
    refine lv_istore_n (lv' := [(3, .int 0), (2, .int 0), (0, .ref (ad 33)), (1, .int a0)]) hx hb dX5_claimants_16 rfl hl (by decide) rfl (fun ls hl => ?_)
    obtain ⟨n_17, hw⟩ := hw
    exact hB17 n_17 0 0 w_7 hw _ _ hP hS ls (lv_sub hl [2, 3, 1, 0] rfl)
  · have hw := hw.2 c_9
    refine lv_iconst (v := 0) hx hb dX5_claimants_11 (by decide) ?_
    exact W.iret (v := 0) hx hb hr (fun t ht hW => ⟨⟨0, w_7, rfl, hw, by show PA D ca ad w_7 t.heap; rw [ht]; exact hP⟩, hS.F ht⟩) hS.2.2 dX5_claimants_12
set_option maxHeartbeats 4000000 in
set_option maxRecDepth 100000 in
def wpX5_value (a0 : Int32) (w : St) (post : Int32 → St → Prop) : Prop := wpX5_isLock a0 w (fun r_2 w_1 => wpX5_checked r_2 w_1 (fun r_4 w_3 => (r_4 ≤ 0 → ((vp_in a0 4) ∧ (post (w_3.1 52 (a0).toNatClampNeg) w_3))) ∧ (¬ (r_4 ≤ 0) → (post 0 w_3))))
set_option maxHeartbeats 4000000 in
set_option maxRecDepth 100000 in
theorem mX5_value (l : Launch) (D : va_G) (ca : Nat → ClassId) (ad : Nat → Nat) (base : Nat) (hAd : okA base ad) (w : St) (a0 : Int32) (post : Int32 → St → Prop) (hw : wpX5_value a0 w post) : Met l yX5_value wsX5_value ({ frames := 2, cells := 0, slots := 0, locals := 42 } : Room) (va_Pc [.ref (ad 33), .int a0] (BU D ca ad base w)) (va_Qi post (Bp D ca ad) (AB base)) 0 0 (AB base) := by
  refine Met.ofW (cc := cX5_value) (maxL := 2) (ret := (some .int)) (by decide) rfl ?_
  intro p e s m args below meth c s₁ B hml hv
  obtain ⟨rfl, hbs, hP, hK⟩ := hv
  have hx := B.exec
  have hb := B.bytes
  have hr := B.returns
  have hts := atoms_spec (ws := wsX5_value) B.pre
  have hown : s.vm.findClass RX5 = some m.cls := findClass_of_methodNamed B.named
  have hlocks := B.notSynchronized
  have in_X5 : ∀ w ∈ wsX50, w ∈ wsX5_value := by decide +kernel
  have lk_65 := hts (.fieldLink RX5 65 "LockQuorumModel" "values" "[I") (by decide +kernel)
  have hS : va_S (AB base) s.heap s.heap [] := va_S.rf
  have hl := lv_entry ([.ref (ad 33), .int a0]) (n := 2) (Nat.le_of_ble_eq_true rfl)
  rw [lg_entry_eq]
  generalize (lg_sl ([.ref (ad 33), .int a0]) ++ List.replicate (2 - (lg_sl ([.ref (ad 33), .int a0])).length) Slot.unset).toArray = ls at hl ⊢
  have hl : lv_has ls 2 [(0, .ref (ad 33)), (1, .int a0)] := hl
  refine lv_aload_n hx hb dX5_value_0 rfl (lv_at hl 0 rfl) ?_
  refine lv_iload_n hx hb dX5_value_1 rfl (lv_at hl 1 rfl) ?_
  refine va_calli (va_runS (As := [.int a0]) (rest := [.ref (ad 33)]) ⟨hx, hb, hml, hown, hts⟩ (mX5_isLock l D ca ad base hAd w a0 _ hw) (va_cwS 1 hts gX5_value_X5_isLock rfl rfl rfl (by decide +kernel) ⟨Nat.le_of_ble_eq_true rfl, Nat.le_of_ble_eq_true rfl⟩) (ps [.int a0] hK hP hbs hS) rfl rfl hl.1 rfl (lv_room (Nat.le_of_ble_eq_true rfl)) dX5_value_2 ⟨Nat.le_of_ble_eq_true rfl, Nat.le_of_ble_eq_true rfl⟩) hS (fun q _ h => h) (fun q h => h) (fun r_2 w_1 t H locs ht hvm hw hP hz1 hk1 hS => ?_)
  have hP : PA D ca ad w_1 H := by rw [← ht]; exact hP
  refine va_calli (va_runV (As := [.int r_2]) (rest := []) ⟨hx, hb, hml, hown, hts⟩ (mX5_checked l D ca ad base hAd w_1 r_2 _ hw) (cwV 1 hts gX5_value_X5_checked rfl rfl rfl (by decide +kernel) ⟨Nat.le_of_ble_eq_true rfl, Nat.le_of_ble_eq_true rfl⟩) (pv [.int r_2] hK hP hbs hS rfl (wg33 ca ad w_1)) rfl rfl hl.1 rfl (lv_room (Nat.le_of_ble_eq_true rfl)) dX5_value_5 ⟨Nat.le_of_ble_eq_true rfl, Nat.le_of_ble_eq_true rfl⟩) hS (fun q _ h => h) (fun q h => h) (fun r_4 w_3 t H locs ht hvm hw hP hz1 hk1 hS => ?_)
  have hP : PA D ca ad w_3 H := by rw [← ht]; exact hP
  refine lv_if_le (tgt := 15) hx hb dX5_value_8 (by decide) (fun c_5 => ?_) (fun c_5 => ?_)
  · have hw := hw.1 c_5
    refine lv_aload_n hx hb dX5_value_15 rfl (lv_at hl 0 rfl) ?_
    refine va_get (D := D) (ci := 7) (v := .ref (ad 52)) (C := RX5) (T := TX5) (N := 30) hx hb hts in_X5 hown hK hP 33 (wg33 ca ad w_3) rfl 18 (by decide) lk_65 (fun _ h9 => h9) rfl dX5_value_16 ?_
    refine lv_iload_n hx hb dX5_value_19 rfl (lv_at hl 1 rfl) ?_
    obtain ⟨h_6, hw⟩ := hw
    refine va_iald hx hb hK hP 52 0 (wg52 ca ad w_3) rfl h_6 dX5_value_20 ?_
    exact W.iret (v := (w_3.1 52 (a0).toNatClampNeg)) hx hb hr (fun t ht hW => ⟨⟨(w_3.1 52 (a0).toNatClampNeg), w_3, rfl, hw, by show PA D ca ad w_3 t.heap; rw [ht]; exact hP⟩, hS.F ht⟩) hS.2.2 dX5_value_21
  · have hw := hw.2 c_5
    refine lv_iconst (v := 0) hx hb dX5_value_11 (by decide) ?_
    refine lv_goto (tgt := 21) hx hb dX5_value_12 (by decide) ?_
    exact W.iret (v := 0) hx hb hr (fun t ht hW => ⟨⟨0, w_3, rfl, hw, by show PA D ca ad w_3 t.heap; rw [ht]; exact hP⟩, hS.F ht⟩) hS.2.2 dX5_value_21
set_option maxHeartbeats 4000000 in
set_option maxRecDepth 100000 in
def wpX5_valueByLog (a0 : Int32) (w : St) (post : Int32 → St → Prop) : Prop := wpX5_value a0 w (fun r_2 w_1 => post r_2 w_1)
set_option maxHeartbeats 4000000 in
set_option maxRecDepth 100000 in
theorem mX5_valueByLog (l : Launch) (D : va_G) (ca : Nat → ClassId) (ad : Nat → Nat) (base : Nat) (hAd : okA base ad) (w : St) (a0 : Int32) (post : Int32 → St → Prop) (hw : wpX5_valueByLog a0 w post) : Met l yX5_valueByLog wsX5_valueByLog ({ frames := 3, cells := 0, slots := 0, locals := 63 } : Room) (va_Pc [.ref (ad 33), .int a0] (BU D ca ad base w)) (va_Qi post (Bp D ca ad) (AB base)) 0 0 (AB base) := by
  refine Met.ofW (cc := cX5_valueByLog) (maxL := 2) (ret := (some .int)) (by decide) rfl ?_
  intro p e s m args below meth c s₁ B hml hv
  obtain ⟨rfl, hbs, hP, hK⟩ := hv
  have hx := B.exec
  have hb := B.bytes
  have hr := B.returns
  have hts := atoms_spec (ws := wsX5_valueByLog) B.pre
  have hown : s.vm.findClass RX5 = some m.cls := findClass_of_methodNamed B.named
  have hlocks := B.notSynchronized
  have hS : va_S (AB base) s.heap s.heap [] := va_S.rf
  have hl := lv_entry ([.ref (ad 33), .int a0]) (n := 2) (Nat.le_of_ble_eq_true rfl)
  rw [lg_entry_eq]
  generalize (lg_sl ([.ref (ad 33), .int a0]) ++ List.replicate (2 - (lg_sl ([.ref (ad 33), .int a0])).length) Slot.unset).toArray = ls at hl ⊢
  have hl : lv_has ls 2 [(0, .ref (ad 33)), (1, .int a0)] := hl
  refine lv_aload_n hx hb dX5_valueByLog_0 rfl (lv_at hl 0 rfl) ?_
  refine lv_iload_n hx hb dX5_valueByLog_1 rfl (lv_at hl 1 rfl) ?_
  refine va_calli (va_runV (As := [.int a0]) (rest := []) ⟨hx, hb, hml, hown, hts⟩ (mX5_value l D ca ad base hAd w a0 _ hw) (cwV 1 hts gX5_valueByLog_X5_value rfl rfl rfl (by decide +kernel) ⟨Nat.le_of_ble_eq_true rfl, Nat.le_of_ble_eq_true rfl⟩) (pv [.int a0] hK hP hbs hS rfl (wg33 ca ad w)) rfl rfl hl.1 rfl (lv_room (Nat.le_of_ble_eq_true rfl)) dX5_valueByLog_2 ⟨Nat.le_of_ble_eq_true rfl, Nat.le_of_ble_eq_true rfl⟩) hS (fun q _ h => h) (fun q h => h) (fun r_2 w_1 t H locs ht hvm hw hP hz1 hk1 hS => ?_)
  have hP : PA D ca ad w_1 H := by rw [← ht]; exact hP
  exact W.iret (v := r_2) hx hb hr (fun t ht hW => ⟨⟨r_2, w_1, rfl, hw, by show PA D ca ad w_1 t.heap; rw [ht]; exact hP⟩, hS.F ht⟩) hS.2.2 dX5_valueByLog_5
set_option maxHeartbeats 4000000 in
set_option maxRecDepth 100000 in
def wpX5_kept_B96 (a0 : Int32) (a1 : Int32) (post : Int32 → St → Prop) (v3 : Int32) (s0 : Int32) (w : St) : Prop := ∀ w_1 : St, w_1 = (uI w 67 s0) → (v3 = 0 → (post 0 w_1)) ∧ (¬ (v3 = 0) → (wpX5_at a0 a1 w_1 (fun r_5 w_4 => (vp_in r_5 24) ∧ (post (w_4.1 46 (r_5).toNatClampNeg) w_4))))
set_option maxHeartbeats 4000000 in
set_option maxRecDepth 100000 in
def wpX5_kept_B85 (a0 : Int32) (a1 : Int32) (post : Int32 → St → Prop) (s0 : Int32) (w : St) : Prop := (s0 = 0 → (wpX5_kept_B96 a0 a1 post s0 3 w)) ∧ (¬ (s0 = 0) → (wpX5_kept_B96 a0 a1 post s0 0 w))
set_option maxHeartbeats 4000000 in
set_option maxRecDepth 100000 in
def wpX5_kept_B84 (a0 : Int32) (a1 : Int32) (post : Int32 → St → Prop) (w : St) : Prop := wpX5_kept_B85 a0 a1 post 0 w
set_option maxHeartbeats 4000000 in
set_option maxRecDepth 100000 in
def wpX5_kept_B25 (a0 : Int32) (a1 : Int32) (post : Int32 → St → Prop) (s0 : Int32) (w : St) : Prop := ∀ w_8 : St, w_8 = (uI w 67 s0) → ((w_8.1 67 0) ≤ 0 → (wpX5_at a0 a1 w_8 (fun r_12 w_11 => (vp_in r_12 24) ∧ (((w_11.1 38 (r_12).toNatClampNeg) = 0 → (wpX5_kept_B84 a0 a1 post w_11)) ∧ (¬ ((w_11.1 38 (r_12).toNatClampNeg) = 0) → ((vp_in a0 6) ∧ (((w_11.1 36 (a0).toNatClampNeg) = 0 → (wpX5_clock a0 w_11 (fun r_18 w_17 => wpX5_at a0 a1 w_17 (fun r_20 w_19 => (vp_in r_20 24) ∧ ((6 ≤ (r_18 - (w_19.1 45 (r_20).toNatClampNeg)) → (wpX5_kept_B84 a0 a1 post w_19)) ∧ (¬ (6 ≤ (r_18 - (w_19.1 45 (r_20).toNatClampNeg))) → (wpX5_kept_B85 a0 a1 post 1 w_19))))))) ∧ (¬ ((w_11.1 36 (a0).toNatClampNeg) = 0) → (wpX5_kept_B84 a0 a1 post w_11))))))))) ∧ (¬ ((w_8.1 67 0) ≤ 0) → (post 0 w_8))
set_option maxHeartbeats 4000000 in
set_option maxRecDepth 100000 in
def wpX5_kept (a0 : Int32) (a1 : Int32) (w : St) (post : Int32 → St → Prop) : Prop := wpX5_isClient a0 w (fun r_24 w_23 => (r_24 = 0 → (wpX5_kept_B25 a0 a1 post 1 w_23)) ∧ (¬ (r_24 = 0) → (wpX5_isLock a1 w_23 (fun r_27 w_26 => (r_27 = 0 → (wpX5_kept_B25 a0 a1 post 2 w_26)) ∧ (¬ (r_27 = 0) → (wpX5_kept_B25 a0 a1 post 0 w_26))))))
set_option maxHeartbeats 4000000 in
set_option maxRecDepth 100000 in
theorem mX5_kept (l : Launch) (D : va_G) (ca : Nat → ClassId) (ad : Nat → Nat) (base : Nat) (hAd : okA base ad) (w : St) (a0 : Int32) (a1 : Int32) (post : Int32 → St → Prop) (hw : wpX5_kept a0 a1 w post) : Met l yX5_kept wsX5_kept ({ frames := 2, cells := 0, slots := 0, locals := 43 } : Room) (va_Pc [.ref (ad 33), .int a0, .int a1] (BU D ca ad base w)) (va_Qi post (Bp D ca ad) (AB base)) 0 0 (AB base) := by
  refine Met.ofW (cc := cX5_kept) (maxL := 4) (ret := (some .int)) (by decide) rfl ?_
  intro p e s m args below meth c s₁ B hml hv
  obtain ⟨rfl, hbs, hP, hK⟩ := hv
  have hx := B.exec
  have hb := B.bytes
  have hr := B.returns
  have hts := atoms_spec (ws := wsX5_kept) B.pre
  have hown : s.vm.findClass RX5 = some m.cls := findClass_of_methodNamed B.named
  have hlocks := B.notSynchronized
  have in_X5 : ∀ w ∈ wsX50, w ∈ wsX5_kept := by decide +kernel
  have lk_16 := hts (.fieldLink RX5 16 "LockQuorumModel" "arePaused" "[Z") (by decide +kernel)
  have lk_22 := hts (.fieldLink RX5 22 "LockQuorumModel" "keep" "[Z") (by decide +kernel)
  have lk_44 := hts (.fieldLink RX5 44 "LockQuorumModel" "keptAt" "[I") (by decide +kernel)
  have lk_47 := hts (.fieldLink RX5 47 "LockQuorumModel" "keptValues" "[I") (by decide +kernel)
  have lk_87 := hts (.fieldLink RX5 87 "LockQuorumModel" "thrown" "I") (by decide +kernel)
  have hS : va_S (AB base) s.heap s.heap [] := va_S.rf
  have hB96 : ∀ (v3 : Int32) (s0 : Int32) (w : St), wpX5_kept_B96 a0 a1 post v3 s0 w → ∀ (H : Heap) (locs : List Loc), PA D ca ad w H → va_S (AB base) s.heap H locs → ∀ ls : Array Slot, lv_has ls 4 [(0, .ref (ad 33)), (1, .int a0), (2, .int a1), (3, .int v3)] → W p l e (headSpec wsX5_kept ({ frames := 2, cells := 0, slots := 0, locals := 43 } : Room)).room s m ([Value.ref (ad 33), Value.int a0, Value.int a1].toArray) below meth c H locs 0 0 (MQ below (va_Qi post (Bp D ca ad) (AB base)) ([Value.ref (ad 33), Value.int a0, Value.int a1].toArray) s 0 0 (AB base)) (F0 m 96 ls [.int s0, .ref (ad 33)]) := by
    intro v3 s0 w hw H locs hP hS ls hl
    refine va_put (D := D) (ci := 7) (v := .int s0) (ty := .int) (C := RX5) (T := TX5) (N := 30) hx hb hts in_X5 tyX5 tyX5_ok nmX5 hown hK hP (DA hAd) hS 33 (wg33 ca ad w) rfl 25 (by decide) lk_87 (fun _ h9 => h9) rfl (by decide +kernel) rfl rfl (Nat.le_of_ble_eq_true rfl) dX5_kept_96 (fun H locs hP hD hS => ?_)
    obtain ⟨w_1, e_2⟩ : ∃ z : St, z = (uI w 67 s0) := ⟨_, rfl⟩
    have hP : PA D ca ad w_1 H := by rw [e_2]; exact wf67 hP
    have hw := hw w_1 e_2
    refine lv_iload_n hx hb dX5_kept_99 rfl (lv_at hl 3 rfl) ?_
    refine lv_if_eq (tgt := 116) hx hb dX5_kept_100 (by decide) (fun c_3 => ?_) (fun c_3 => ?_)
    · have hw := hw.1 c_3
      refine lv_iconst (v := 0) hx hb dX5_kept_116 (by decide) ?_
      exact W.iret (v := 0) hx hb hr (fun t ht hW => ⟨⟨0, w_1, rfl, hw, by show PA D ca ad w_1 t.heap; rw [ht]; exact hP⟩, hS.F ht⟩) hS.2.2 dX5_kept_117
    · have hw := hw.2 c_3
      refine lv_aload_n hx hb dX5_kept_103 rfl (lv_at hl 0 rfl) ?_
      refine va_get (D := D) (ci := 7) (v := .ref (ad 46)) (C := RX5) (T := TX5) (N := 30) hx hb hts in_X5 hown hK hP 33 (wg33 ca ad w_1) rfl 12 (by decide) lk_47 (fun _ h9 => h9) rfl dX5_kept_104 ?_
      refine lv_iload_n hx hb dX5_kept_107 rfl (lv_at hl 1 rfl) ?_
      refine lv_iload_n hx hb dX5_kept_108 rfl (lv_at hl 2 rfl) ?_
      refine va_calli (va_runS (As := [.int a0, .int a1]) (rest := [.ref (ad 46)]) ⟨hx, hb, hml, hown, hts⟩ (mX5_at l D ca ad base hAd w_1 a0 a1 _ hw) (va_cwS 2 hts gX5_kept_X5_at rfl rfl rfl (by decide +kernel) ⟨Nat.le_of_ble_eq_true rfl, Nat.le_of_ble_eq_true rfl⟩) (ps [.int a0, .int a1] hK hP hbs hS) rfl rfl hl.1 rfl (lv_room (Nat.le_of_ble_eq_true rfl)) dX5_kept_109 ⟨Nat.le_of_ble_eq_true rfl, Nat.le_of_ble_eq_true rfl⟩) hS (fun q _ h => h) (fun q h => h) (fun r_5 w_4 t H locs ht hvm hw hP hz1 hk1 hS => ?_)
      have hP : PA D ca ad w_4 H := by rw [← ht]; exact hP
      obtain ⟨h_6, hw⟩ := hw
      refine va_iald hx hb hK hP 46 0 (wg46 ca ad w_4) rfl h_6 dX5_kept_112 ?_
      refine lv_goto (tgt := 117) hx hb dX5_kept_113 (by decide) ?_
      exact W.iret (v := (w_4.1 46 (r_5).toNatClampNeg)) hx hb hr (fun t ht hW => ⟨⟨(w_4.1 46 (r_5).toNatClampNeg), w_4, rfl, hw, by show PA D ca ad w_4 t.heap; rw [ht]; exact hP⟩, hS.F ht⟩) hS.2.2 dX5_kept_117
  have hB85 : ∀ (s0 : Int32) (w : St), wpX5_kept_B85 a0 a1 post s0 w → ∀ (H : Heap) (locs : List Loc), PA D ca ad w H → va_S (AB base) s.heap H locs → ∀ ls : Array Slot, lv_has ls 4 [(0, .ref (ad 33)), (1, .int a0), (2, .int a1)] → W p l e (headSpec wsX5_kept ({ frames := 2, cells := 0, slots := 0, locals := 43 } : Room)).room s m ([Value.ref (ad 33), Value.int a0, Value.int a1].toArray) below meth c H locs 0 0 (MQ below (va_Qi post (Bp D ca ad) (AB base)) ([Value.ref (ad 33), Value.int a0, Value.int a1].toArray) s 0 0 (AB base)) (F0 m 85 ls [.int s0]) := by
    intro s0 w hw H locs hP hS ls hl
    refine lv_istore_n (lv' := [(3, .int s0), (0, .ref (ad 33)), (1, .int a0), (2, .int a1)]) hx hb dX5_kept_85 rfl hl (by decide) rfl (fun ls hl => ?_)
    refine lv_aload_n hx hb dX5_kept_86 rfl (lv_at hl 1 rfl) ?_
    refine lv_iload_n hx hb dX5_kept_87 rfl (lv_at hl 0 rfl) ?_
    refine lv_if_eq (tgt := 95) hx hb dX5_kept_88 (by decide) (fun c_7 => ?_) (fun c_7 => ?_)
    · have hw := hw.1 c_7
      refine lv_iconst (v := 3) hx hb dX5_kept_95 (by decide) ?_
      exact hB96 s0 3 w hw _ _ hP hS ls (lv_sub hl [1, 2, 3, 0] rfl)
    · have hw := hw.2 c_7
      refine lv_iconst (v := 0) hx hb dX5_kept_91 (by decide) ?_
      refine lv_goto (tgt := 96) hx hb dX5_kept_92 (by decide) ?_
      exact hB96 s0 0 w hw _ _ hP hS ls (lv_sub hl [1, 2, 3, 0] rfl)
  have hB84 : ∀ (w : St), wpX5_kept_B84 a0 a1 post w → ∀ (H : Heap) (locs : List Loc), PA D ca ad w H → va_S (AB base) s.heap H locs → ∀ ls : Array Slot, lv_has ls 4 [(0, .ref (ad 33)), (1, .int a0), (2, .int a1)] → W p l e (headSpec wsX5_kept ({ frames := 2, cells := 0, slots := 0, locals := 43 } : Room)).room s m ([Value.ref (ad 33), Value.int a0, Value.int a1].toArray) below meth c H locs 0 0 (MQ below (va_Qi post (Bp D ca ad) (AB base)) ([Value.ref (ad 33), Value.int a0, Value.int a1].toArray) s 0 0 (AB base)) (F0 m 84 ls []) := by
    intro w hw H locs hP hS ls hl
    refine lv_iconst (v := 0) hx hb dX5_kept_84 (by decide) ?_
    exact hB85 0 w hw _ _ hP hS ls (lv_sub hl [0, 1, 2] rfl)
  have hB25 : ∀ (s0 : Int32) (w : St), wpX5_kept_B25 a0 a1 post s0 w → ∀ (H : Heap) (locs : List Loc), PA D ca ad w H → va_S (AB base) s.heap H locs → ∀ ls : Array Slot, lv_has ls 4 [(0, .ref (ad 33)), (1, .int a0), (2, .int a1)] → W p l e (headSpec wsX5_kept ({ frames := 2, cells := 0, slots := 0, locals := 43 } : Room)).room s m ([Value.ref (ad 33), Value.int a0, Value.int a1].toArray) below meth c H locs 0 0 (MQ below (va_Qi post (Bp D ca ad) (AB base)) ([Value.ref (ad 33), Value.int a0, Value.int a1].toArray) s 0 0 (AB base)) (F0 m 25 ls [.int s0, .ref (ad 33)]) := by
    intro s0 w hw H locs hP hS ls hl
    refine va_put (D := D) (ci := 7) (v := .int s0) (ty := .int) (C := RX5) (T := TX5) (N := 30) hx hb hts in_X5 tyX5 tyX5_ok nmX5 hown hK hP (DA hAd) hS 33 (wg33 ca ad w) rfl 25 (by decide) lk_87 (fun _ h9 => h9) rfl (by decide +kernel) rfl rfl (Nat.le_of_ble_eq_true rfl) dX5_kept_25 (fun H locs hP hD hS => ?_)
    obtain ⟨w_8, e_9⟩ : ∃ z : St, z = (uI w 67 s0) := ⟨_, rfl⟩
    have hP : PA D ca ad w_8 H := by rw [e_9]; exact wf67 hP
    have hw := hw w_8 e_9
    refine lv_aload_n hx hb dX5_kept_28 rfl (lv_at hl 0 rfl) ?_
    refine va_get (D := D) (ci := 7) (v := .int (w_8.1 67 0)) (C := RX5) (T := TX5) (N := 30) hx hb hts in_X5 hown hK hP 33 (wg33 ca ad w_8) rfl 25 (by decide) lk_87 (fun _ h9 => h9) rfl dX5_kept_29 ?_
    refine lv_if_le (tgt := 37) hx hb dX5_kept_32 (by decide) (fun c_10 => ?_) (fun c_10 => ?_)
    · have hw := hw.1 c_10
      refine lv_aload_n hx hb dX5_kept_37 rfl (lv_at hl 0 rfl) ?_
      refine va_get (D := D) (ci := 7) (v := .ref (ad 38)) (C := RX5) (T := TX5) (N := 30) hx hb hts in_X5 hown hK hP 33 (wg33 ca ad w_8) rfl 4 (by decide) lk_22 (fun _ h9 => h9) rfl dX5_kept_38 ?_
      refine lv_iload_n hx hb dX5_kept_41 rfl (lv_at hl 1 rfl) ?_
      refine lv_iload_n hx hb dX5_kept_42 rfl (lv_at hl 2 rfl) ?_
      refine va_calli (va_runS (As := [.int a0, .int a1]) (rest := [.ref (ad 38)]) ⟨hx, hb, hml, hown, hts⟩ (mX5_at l D ca ad base hAd w_8 a0 a1 _ hw) (va_cwS 2 hts gX5_kept_X5_at rfl rfl rfl (by decide +kernel) ⟨Nat.le_of_ble_eq_true rfl, Nat.le_of_ble_eq_true rfl⟩) (ps [.int a0, .int a1] hK hP hbs hS) rfl rfl hl.1 rfl (lv_room (Nat.le_of_ble_eq_true rfl)) dX5_kept_43 ⟨Nat.le_of_ble_eq_true rfl, Nat.le_of_ble_eq_true rfl⟩) hS (fun q _ h => h) (fun q h => h) (fun r_12 w_11 t H locs ht hvm hw hP hz1 hk1 hS => ?_)
      have hP : PA D ca ad w_11 H := by rw [← ht]; exact hP
      obtain ⟨h_13, hw⟩ := hw
      refine va_zald hx hb hK hP 38 1 (wg38 ca ad w_11) rfl h_13 dX5_kept_46 ?_
      refine lv_if_eq (tgt := 84) hx hb dX5_kept_47 (by decide) (fun c_14 => ?_) (fun c_14 => ?_)
      · have hw := hw.1 c_14
        exact hB84 w_11 hw _ _ hP hS ls (lv_sub hl [0, 1, 2] rfl)
      · have hw := hw.2 c_14
        refine lv_aload_n hx hb dX5_kept_50 rfl (lv_at hl 0 rfl) ?_
        refine va_get (D := D) (ci := 7) (v := .ref (ad 36)) (C := RX5) (T := TX5) (N := 30) hx hb hts in_X5 hown hK hP 33 (wg33 ca ad w_11) rfl 2 (by decide) lk_16 (fun _ h9 => h9) rfl dX5_kept_51 ?_
        refine lv_iload_n hx hb dX5_kept_54 rfl (lv_at hl 1 rfl) ?_
        obtain ⟨h_15, hw⟩ := hw
        refine va_zald hx hb hK hP 36 1 (wg36 ca ad w_11) rfl h_15 dX5_kept_55 ?_
        refine lv_if_ne (tgt := 84) hx hb dX5_kept_56 (by decide) (fun c_16 => ?_) (fun c_16 => ?_)
        · have hw := hw.2 c_16
          exact hB84 w_11 hw _ _ hP hS ls (lv_sub hl [0, 1, 2] rfl)
        · have hw := hw.1 c_16
          refine lv_aload_n hx hb dX5_kept_59 rfl (lv_at hl 0 rfl) ?_
          refine lv_iload_n hx hb dX5_kept_60 rfl (lv_at hl 1 rfl) ?_
          refine va_calli (va_runV (As := [.int a0]) (rest := []) ⟨hx, hb, hml, hown, hts⟩ (mX5_clock l D ca ad base hAd w_11 a0 _ hw) (cwV 1 hts gX5_kept_X5_clock rfl rfl rfl (by decide +kernel) ⟨Nat.le_of_ble_eq_true rfl, Nat.le_of_ble_eq_true rfl⟩) (pv [.int a0] hK hP hbs hS rfl (wg33 ca ad w_11)) rfl rfl hl.1 rfl (lv_room (Nat.le_of_ble_eq_true rfl)) dX5_kept_61 ⟨Nat.le_of_ble_eq_true rfl, Nat.le_of_ble_eq_true rfl⟩) hS (fun q _ h => h) (fun q h => h) (fun r_18 w_17 t H locs ht hvm hw hP hz1 hk1 hS => ?_)
          have hP : PA D ca ad w_17 H := by rw [← ht]; exact hP
          refine lv_aload_n hx hb dX5_kept_64 rfl (lv_at hl 0 rfl) ?_
          refine va_get (D := D) (ci := 7) (v := .ref (ad 45)) (C := RX5) (T := TX5) (N := 30) hx hb hts in_X5 hown hK hP 33 (wg33 ca ad w_17) rfl 11 (by decide) lk_44 (fun _ h9 => h9) rfl dX5_kept_65 ?_
          refine lv_iload_n hx hb dX5_kept_68 rfl (lv_at hl 1 rfl) ?_
          refine lv_iload_n hx hb dX5_kept_69 rfl (lv_at hl 2 rfl) ?_
          refine va_calli (va_runS (As := [.int a0, .int a1]) (rest := [.ref (ad 45), .int r_18]) ⟨hx, hb, hml, hown, hts⟩ (mX5_at l D ca ad base hAd w_17 a0 a1 _ hw) (va_cwS 2 hts gX5_kept_X5_at rfl rfl rfl (by decide +kernel) ⟨Nat.le_of_ble_eq_true rfl, Nat.le_of_ble_eq_true rfl⟩) (ps [.int a0, .int a1] hK hP hbs hS) rfl rfl hl.1 rfl (lv_room (Nat.le_of_ble_eq_true rfl)) dX5_kept_70 ⟨Nat.le_of_ble_eq_true rfl, Nat.le_of_ble_eq_true rfl⟩) hS (fun q _ h => h) (fun q h => h) (fun r_20 w_19 t H locs ht hvm hw hP hz1 hk1 hS => ?_)
          have hP : PA D ca ad w_19 H := by rw [← ht]; exact hP
          obtain ⟨h_21, hw⟩ := hw
          refine va_iald hx hb hK hP 45 0 (wg45 ca ad w_19) rfl h_21 dX5_kept_73 ?_
          refine lv_isub hx hb dX5_kept_74 ?_
          refine lv_bipush (v := 6) hx hb dX5_kept_75 (by decide) ?_
          refine lv_icmp_ge (tgt := 84) hx hb dX5_kept_77 (by decide) (fun c_22 => ?_) (fun c_22 => ?_)
          · have hw := hw.1 c_22
            exact hB84 w_19 hw _ _ hP hS ls (lv_sub hl [0, 1, 2] rfl)
          · have hw := hw.2 c_22
            refine lv_iconst (v := 1) hx hb dX5_kept_80 (by decide) ?_
            refine lv_goto (tgt := 85) hx hb dX5_kept_81 (by decide) ?_
            exact hB85 1 w_19 hw _ _ hP hS ls (lv_sub hl [0, 1, 2] rfl)
    · have hw := hw.2 c_10
      refine lv_iconst (v := 0) hx hb dX5_kept_35 (by decide) ?_
      exact W.iret (v := 0) hx hb hr (fun t ht hW => ⟨⟨0, w_8, rfl, hw, by show PA D ca ad w_8 t.heap; rw [ht]; exact hP⟩, hS.F ht⟩) hS.2.2 dX5_kept_36
  have hl := lv_entry ([.ref (ad 33), .int a0, .int a1]) (n := 4) (Nat.le_of_ble_eq_true rfl)
  rw [lg_entry_eq]
  generalize (lg_sl ([.ref (ad 33), .int a0, .int a1]) ++ List.replicate (4 - (lg_sl ([.ref (ad 33), .int a0, .int a1])).length) Slot.unset).toArray = ls at hl ⊢
  have hl : lv_has ls 4 [(0, .ref (ad 33)), (1, .int a0), (2, .int a1)] := hl
  refine lv_aload_n hx hb dX5_kept_0 rfl (lv_at hl 0 rfl) ?_
  refine lv_aload_n hx hb dX5_kept_1 rfl (lv_at hl 0 rfl) ?_
  refine lv_iload_n hx hb dX5_kept_2 rfl (lv_at hl 1 rfl) ?_
  refine va_calli (va_runV (As := [.int a0]) (rest := [.ref (ad 33)]) ⟨hx, hb, hml, hown, hts⟩ (mX5_isClient l D ca ad base hAd w a0 _ hw) (cwV 1 hts gX5_kept_X5_isClient rfl rfl rfl (by decide +kernel) ⟨Nat.le_of_ble_eq_true rfl, Nat.le_of_ble_eq_true rfl⟩) (pv [.int a0] hK hP hbs hS rfl (wg33 ca ad w)) rfl rfl hl.1 rfl (lv_room (Nat.le_of_ble_eq_true rfl)) dX5_kept_3 ⟨Nat.le_of_ble_eq_true rfl, Nat.le_of_ble_eq_true rfl⟩) hS (fun q _ h => h) (fun q h => h) (fun r_24 w_23 t H locs ht hvm hw hP hz1 hk1 hS => ?_)
  have hP : PA D ca ad w_23 H := by rw [← ht]; exact hP
  refine lv_if_ne (tgt := 13) hx hb dX5_kept_6 (by decide) (fun c_25 => ?_) (fun c_25 => ?_)
  · have hw := hw.2 c_25
    refine lv_iload_n hx hb dX5_kept_13 rfl (lv_at hl 2 rfl) ?_
    refine va_calli (va_runS (As := [.int a1]) (rest := [.ref (ad 33)]) ⟨hx, hb, hml, hown, hts⟩ (mX5_isLock l D ca ad base hAd w_23 a1 _ hw) (va_cwS 1 hts gX5_kept_X5_isLock rfl rfl rfl (by decide +kernel) ⟨Nat.le_of_ble_eq_true rfl, Nat.le_of_ble_eq_true rfl⟩) (ps [.int a1] hK hP hbs hS) rfl rfl hl.1 rfl (lv_room (Nat.le_of_ble_eq_true rfl)) dX5_kept_14 ⟨Nat.le_of_ble_eq_true rfl, Nat.le_of_ble_eq_true rfl⟩) hS (fun q _ h => h) (fun q h => h) (fun r_27 w_26 t H locs ht hvm hw hP hz1 hk1 hS => ?_)
    have hP : PA D ca ad w_26 H := by rw [← ht]; exact hP
    refine lv_if_ne (tgt := 24) hx hb dX5_kept_17 (by decide) (fun c_28 => ?_) (fun c_28 => ?_)
    · have hw := hw.2 c_28
      refine lv_iconst (v := 0) hx hb dX5_kept_24 (by decide) ?_
      exact hB25 0 w_26 hw _ _ hP hS ls (lv_sub hl [0, 1, 2] rfl)
    · have hw := hw.1 c_28
      refine lv_iconst (v := 2) hx hb dX5_kept_20 (by decide) ?_
      refine lv_goto (tgt := 25) hx hb dX5_kept_21 (by decide) ?_
      exact hB25 2 w_26 hw _ _ hP hS ls (lv_sub hl [0, 1, 2] rfl)
  · have hw := hw.1 c_25
    refine lv_iconst (v := 1) hx hb dX5_kept_9 (by decide) ?_
    refine lv_goto (tgt := 25) hx hb dX5_kept_10 (by decide) ?_
    exact hB25 1 w_23 hw _ _ hP hS ls (lv_sub hl [0, 1, 2] rfl)
set_option maxHeartbeats 4000000 in
set_option maxRecDepth 100000 in
def wpX5_entries (w : St) (post : Int32 → St → Prop) : Prop := wpX5_plain (w.1 70 0) w (fun r_2 w_1 => post r_2 w_1)
set_option maxHeartbeats 4000000 in
set_option maxRecDepth 100000 in
theorem mX5_entries (l : Launch) (D : va_G) (ca : Nat → ClassId) (ad : Nat → Nat) (base : Nat) (hAd : okA base ad) (w : St) (post : Int32 → St → Prop) (hw : wpX5_entries w post) : Met l yX5_entries wsX5_entries ({ frames := 1, cells := 0, slots := 0, locals := 21 } : Room) (va_Pc [.ref (ad 33)] (BU D ca ad base w)) (va_Qi post (Bp D ca ad) (AB base)) 0 0 (AB base) := by
  refine Met.ofW (cc := cX5_entries) (maxL := 1) (ret := (some .int)) (by decide) rfl ?_
  intro p e s m args below meth c s₁ B hml hv
  obtain ⟨rfl, hbs, hP, hK⟩ := hv
  have hx := B.exec
  have hb := B.bytes
  have hr := B.returns
  have hts := atoms_spec (ws := wsX5_entries) B.pre
  have hown : s.vm.findClass RX5 = some m.cls := findClass_of_methodNamed B.named
  have hlocks := B.notSynchronized
  have in_X5 : ∀ w ∈ wsX50, w ∈ wsX5_entries := by decide +kernel
  have lk_97 := hts (.fieldLink RX5 97 "LockQuorumModel" "entries" "I") (by decide +kernel)
  have hS : va_S (AB base) s.heap s.heap [] := va_S.rf
  have hl := lv_entry ([.ref (ad 33)]) (n := 1) (Nat.le_of_ble_eq_true rfl)
  rw [lg_entry_eq]
  generalize (lg_sl ([.ref (ad 33)]) ++ List.replicate (1 - (lg_sl ([.ref (ad 33)])).length) Slot.unset).toArray = ls at hl ⊢
  have hl : lv_has ls 1 [(0, .ref (ad 33))] := hl
  refine lv_aload_n hx hb dX5_entries_0 rfl (lv_at hl 0 rfl) ?_
  refine lv_aload_n hx hb dX5_entries_1 rfl (lv_at hl 0 rfl) ?_
  refine va_get (D := D) (ci := 7) (v := .int (w.1 70 0)) (C := RX5) (T := TX5) (N := 30) hx hb hts in_X5 hown hK hP 33 (wg33 ca ad w) rfl 28 (by decide) lk_97 (fun _ h9 => h9) rfl dX5_entries_2 ?_
  refine va_calli (va_runV (As := [.int (w.1 70 0)]) (rest := []) ⟨hx, hb, hml, hown, hts⟩ (mX5_plain l D ca ad base hAd w (w.1 70 0) _ hw) (cwV 1 hts gX5_entries_X5_plain rfl rfl rfl (by decide +kernel) ⟨Nat.le_of_ble_eq_true rfl, Nat.le_of_ble_eq_true rfl⟩) (pv [.int (w.1 70 0)] hK hP hbs hS rfl (wg33 ca ad w)) rfl rfl hl.1 rfl (lv_room (Nat.le_of_ble_eq_true rfl)) dX5_entries_5 ⟨Nat.le_of_ble_eq_true rfl, Nat.le_of_ble_eq_true rfl⟩) hS (fun q _ h => h) (fun q h => h) (fun r_2 w_1 t H locs ht hvm hw hP hz1 hk1 hS => ?_)
  have hP : PA D ca ad w_1 H := by rw [← ht]; exact hP
  exact W.iret (v := r_2) hx hb hr (fun t ht hW => ⟨⟨r_2, w_1, rfl, hw, by show PA D ca ad w_1 t.heap; rw [ht]; exact hP⟩, hS.F ht⟩) hS.2.2 dX5_entries_8
set_option maxHeartbeats 4000000 in
set_option maxRecDepth 100000 in
def wpX5_isEntry (a0 : Int32) (w : St) (post : Int32 → St → Prop) : Prop := wpX5_in a0 0 ((w.1 70 0) - 1) w (fun r_2 w_1 => (narrow .boolean (.int r_2) = .int r_2) ∧ post r_2 w_1)
set_option maxHeartbeats 4000000 in
set_option maxRecDepth 100000 in
theorem mX5_isEntry (l : Launch) (D : va_G) (ca : Nat → ClassId) (ad : Nat → Nat) (base : Nat) (hAd : okA base ad) (w : St) (a0 : Int32) (post : Int32 → St → Prop) (hw : wpX5_isEntry a0 w post) : Met l yX5_isEntry wsX5_isEntry ({ frames := 1, cells := 0, slots := 0, locals := 22 } : Room) (va_Pc [.ref (ad 33), .int a0] (BU D ca ad base w)) (va_Qi post (Bp D ca ad) (AB base)) 0 0 (AB base) := by
  refine Met.ofW (cc := cX5_isEntry) (maxL := 2) (ret := (some .boolean)) (by decide) rfl ?_
  intro p e s m args below meth c s₁ B hml hv
  obtain ⟨rfl, hbs, hP, hK⟩ := hv
  have hx := B.exec
  have hb := B.bytes
  have hr := B.returns
  have hts := atoms_spec (ws := wsX5_isEntry) B.pre
  have hown : s.vm.findClass RX5 = some m.cls := findClass_of_methodNamed B.named
  have hlocks := B.notSynchronized
  have in_X5 : ∀ w ∈ wsX50, w ∈ wsX5_isEntry := by decide +kernel
  have lk_97 := hts (.fieldLink RX5 97 "LockQuorumModel" "entries" "I") (by decide +kernel)
  have hS : va_S (AB base) s.heap s.heap [] := va_S.rf
  have hl := lv_entry ([.ref (ad 33), .int a0]) (n := 2) (Nat.le_of_ble_eq_true rfl)
  rw [lg_entry_eq]
  generalize (lg_sl ([.ref (ad 33), .int a0]) ++ List.replicate (2 - (lg_sl ([.ref (ad 33), .int a0])).length) Slot.unset).toArray = ls at hl ⊢
  have hl : lv_has ls 2 [(0, .ref (ad 33)), (1, .int a0)] := hl
  refine lv_iload_n hx hb dX5_isEntry_0 rfl (lv_at hl 1 rfl) ?_
  refine lv_iconst (v := 0) hx hb dX5_isEntry_1 (by decide) ?_
  refine lv_aload_n hx hb dX5_isEntry_2 rfl (lv_at hl 0 rfl) ?_
  refine va_get (D := D) (ci := 7) (v := .int (w.1 70 0)) (C := RX5) (T := TX5) (N := 30) hx hb hts in_X5 hown hK hP 33 (wg33 ca ad w) rfl 28 (by decide) lk_97 (fun _ h9 => h9) rfl dX5_isEntry_3 ?_
  refine lv_iconst (v := 1) hx hb dX5_isEntry_6 (by decide) ?_
  refine lv_isub hx hb dX5_isEntry_7 ?_
  refine va_calli (va_runS (As := [.int a0, .int 0, .int ((w.1 70 0) - 1)]) (rest := []) ⟨hx, hb, hml, hown, hts⟩ (mX5_in l D ca ad base hAd w a0 0 ((w.1 70 0) - 1) _ hw) (va_cwS 3 hts gX5_isEntry_X5_in rfl rfl rfl (by decide +kernel) ⟨Nat.le_of_ble_eq_true rfl, Nat.le_of_ble_eq_true rfl⟩) (ps [.int a0, .int 0, .int ((w.1 70 0) - 1)] hK hP hbs hS) rfl rfl hl.1 rfl (lv_room (Nat.le_of_ble_eq_true rfl)) dX5_isEntry_8 ⟨Nat.le_of_ble_eq_true rfl, Nat.le_of_ble_eq_true rfl⟩) hS (fun q _ h => h) (fun q h => h) (fun r_2 w_1 t H locs ht hvm hw hP hz1 hk1 hS => ?_)
  have hP : PA D ca ad w_1 H := by rw [← ht]; exact hP
  obtain ⟨hn9, hw⟩ := hw
  exact W.zret (v := r_2) hx hb hr hn9 (fun t ht hW => ⟨⟨r_2, w_1, rfl, hw, by show PA D ca ad w_1 t.heap; rw [ht]; exact hP⟩, hS.F ht⟩) hS.2.2 dX5_isEntry_11
set_option maxHeartbeats 4000000 in
set_option maxRecDepth 100000 in
def wpX5_kindOf (a0 : Int32) (w : St) (post : Int32 → St → Prop) : Prop := wpX5_isEntry a0 w (fun r_2 w_1 => wpX5_checked r_2 w_1 (fun r_4 w_3 => (r_4 ≤ 0 → ((vp_in a0 250) ∧ ((narrow .char (.int (w_3.1 55 (a0).toNatClampNeg)) = .int (w_3.1 55 (a0).toNatClampNeg)) ∧ post (w_3.1 55 (a0).toNatClampNeg) w_3))) ∧ (¬ (r_4 ≤ 0) → (post 32 w_3))))
set_option maxHeartbeats 4000000 in
set_option maxRecDepth 100000 in
theorem mX5_kindOf (l : Launch) (D : va_G) (ca : Nat → ClassId) (ad : Nat → Nat) (base : Nat) (hAd : okA base ad) (w : St) (a0 : Int32) (post : Int32 → St → Prop) (hw : wpX5_kindOf a0 w post) : Met l yX5_kindOf wsX5_kindOf ({ frames := 2, cells := 0, slots := 0, locals := 43 } : Room) (va_Pc [.ref (ad 33), .int a0] (BU D ca ad base w)) (va_Qi post (Bp D ca ad) (AB base)) 0 0 (AB base) := by
  refine Met.ofW (cc := cX5_kindOf) (maxL := 2) (ret := (some .char)) (by decide) rfl ?_
  intro p e s m args below meth c s₁ B hml hv
  obtain ⟨rfl, hbs, hP, hK⟩ := hv
  have hx := B.exec
  have hb := B.bytes
  have hr := B.returns
  have hts := atoms_spec (ws := wsX5_kindOf) B.pre
  have hown : s.vm.findClass RX5 = some m.cls := findClass_of_methodNamed B.named
  have hlocks := B.notSynchronized
  have in_X5 : ∀ w ∈ wsX50, w ∈ wsX5_kindOf := by decide +kernel
  have lk_74 := hts (.fieldLink RX5 74 "LockQuorumModel" "kinds" "[C") (by decide +kernel)
  have hS : va_S (AB base) s.heap s.heap [] := va_S.rf
  have hl := lv_entry ([.ref (ad 33), .int a0]) (n := 2) (Nat.le_of_ble_eq_true rfl)
  rw [lg_entry_eq]
  generalize (lg_sl ([.ref (ad 33), .int a0]) ++ List.replicate (2 - (lg_sl ([.ref (ad 33), .int a0])).length) Slot.unset).toArray = ls at hl ⊢
  have hl : lv_has ls 2 [(0, .ref (ad 33)), (1, .int a0)] := hl
  refine lv_aload_n hx hb dX5_kindOf_0 rfl (lv_at hl 0 rfl) ?_
  refine lv_aload_n hx hb dX5_kindOf_1 rfl (lv_at hl 0 rfl) ?_
  refine lv_iload_n hx hb dX5_kindOf_2 rfl (lv_at hl 1 rfl) ?_
  refine va_calli (va_runV (As := [.int a0]) (rest := [.ref (ad 33)]) ⟨hx, hb, hml, hown, hts⟩ (mX5_isEntry l D ca ad base hAd w a0 _ hw) (cwV 1 hts gX5_kindOf_X5_isEntry rfl rfl rfl (by decide +kernel) ⟨Nat.le_of_ble_eq_true rfl, Nat.le_of_ble_eq_true rfl⟩) (pv [.int a0] hK hP hbs hS rfl (wg33 ca ad w)) rfl rfl hl.1 rfl (lv_room (Nat.le_of_ble_eq_true rfl)) dX5_kindOf_3 ⟨Nat.le_of_ble_eq_true rfl, Nat.le_of_ble_eq_true rfl⟩) hS (fun q _ h => h) (fun q h => h) (fun r_2 w_1 t H locs ht hvm hw hP hz1 hk1 hS => ?_)
  have hP : PA D ca ad w_1 H := by rw [← ht]; exact hP
  refine va_calli (va_runV (As := [.int r_2]) (rest := []) ⟨hx, hb, hml, hown, hts⟩ (mX5_checked l D ca ad base hAd w_1 r_2 _ hw) (cwV 1 hts gX5_kindOf_X5_checked rfl rfl rfl (by decide +kernel) ⟨Nat.le_of_ble_eq_true rfl, Nat.le_of_ble_eq_true rfl⟩) (pv [.int r_2] hK hP hbs hS rfl (wg33 ca ad w_1)) rfl rfl hl.1 rfl (lv_room (Nat.le_of_ble_eq_true rfl)) dX5_kindOf_6 ⟨Nat.le_of_ble_eq_true rfl, Nat.le_of_ble_eq_true rfl⟩) hS (fun q _ h => h) (fun q h => h) (fun r_4 w_3 t H locs ht hvm hw hP hz1 hk1 hS => ?_)
  have hP : PA D ca ad w_3 H := by rw [← ht]; exact hP
  refine lv_if_le (tgt := 17) hx hb dX5_kindOf_9 (by decide) (fun c_5 => ?_) (fun c_5 => ?_)
  · have hw := hw.1 c_5
    refine lv_aload_n hx hb dX5_kindOf_17 rfl (lv_at hl 0 rfl) ?_
    refine va_get (D := D) (ci := 7) (v := .ref (ad 55)) (C := RX5) (T := TX5) (N := 30) hx hb hts in_X5 hown hK hP 33 (wg33 ca ad w_3) rfl 21 (by decide) lk_74 (fun _ h9 => h9) rfl dX5_kindOf_18 ?_
    refine lv_iload_n hx hb dX5_kindOf_21 rfl (lv_at hl 1 rfl) ?_
    obtain ⟨h_6, hw⟩ := hw
    refine va_cald hx hb hK hP 55 2 (wg55 ca ad w_3) rfl h_6 dX5_kindOf_22 ?_
    obtain ⟨hn9, hw⟩ := hw
    exact W.zret (v := (w_3.1 55 (a0).toNatClampNeg)) hx hb hr hn9 (fun t ht hW => ⟨⟨(w_3.1 55 (a0).toNatClampNeg), w_3, rfl, hw, by show PA D ca ad w_3 t.heap; rw [ht]; exact hP⟩, hS.F ht⟩) hS.2.2 dX5_kindOf_23
  · have hw := hw.2 c_5
    refine lv_bipush (v := 32) hx hb dX5_kindOf_12 (by decide) ?_
    refine lv_goto (tgt := 23) hx hb dX5_kindOf_14 (by decide) ?_
    exact W.zret (v := 32) hx hb hr (by decide) (fun t ht hW => ⟨⟨32, w_3, rfl, hw, by show PA D ca ad w_3 t.heap; rw [ht]; exact hP⟩, hS.F ht⟩) hS.2.2 dX5_kindOf_23
set_option maxHeartbeats 4000000 in
set_option maxRecDepth 100000 in
def wpX5_termOfEntry (a0 : Int32) (w : St) (post : Int32 → St → Prop) : Prop := wpX5_isEntry a0 w (fun r_2 w_1 => wpX5_checked r_2 w_1 (fun r_4 w_3 => (r_4 ≤ 0 → ((vp_in a0 250) ∧ (post (w_3.1 56 (a0).toNatClampNeg) w_3))) ∧ (¬ (r_4 ≤ 0) → (post 0 w_3))))
set_option maxHeartbeats 4000000 in
set_option maxRecDepth 100000 in
theorem mX5_termOfEntry (l : Launch) (D : va_G) (ca : Nat → ClassId) (ad : Nat → Nat) (base : Nat) (hAd : okA base ad) (w : St) (a0 : Int32) (post : Int32 → St → Prop) (hw : wpX5_termOfEntry a0 w post) : Met l yX5_termOfEntry wsX5_termOfEntry ({ frames := 2, cells := 0, slots := 0, locals := 43 } : Room) (va_Pc [.ref (ad 33), .int a0] (BU D ca ad base w)) (va_Qi post (Bp D ca ad) (AB base)) 0 0 (AB base) := by
  refine Met.ofW (cc := cX5_termOfEntry) (maxL := 2) (ret := (some .int)) (by decide) rfl ?_
  intro p e s m args below meth c s₁ B hml hv
  obtain ⟨rfl, hbs, hP, hK⟩ := hv
  have hx := B.exec
  have hb := B.bytes
  have hr := B.returns
  have hts := atoms_spec (ws := wsX5_termOfEntry) B.pre
  have hown : s.vm.findClass RX5 = some m.cls := findClass_of_methodNamed B.named
  have hlocks := B.notSynchronized
  have in_X5 : ∀ w ∈ wsX50, w ∈ wsX5_termOfEntry := by decide +kernel
  have lk_78 := hts (.fieldLink RX5 78 "LockQuorumModel" "entryTerms" "[I") (by decide +kernel)
  have hS : va_S (AB base) s.heap s.heap [] := va_S.rf
  have hl := lv_entry ([.ref (ad 33), .int a0]) (n := 2) (Nat.le_of_ble_eq_true rfl)
  rw [lg_entry_eq]
  generalize (lg_sl ([.ref (ad 33), .int a0]) ++ List.replicate (2 - (lg_sl ([.ref (ad 33), .int a0])).length) Slot.unset).toArray = ls at hl ⊢
  have hl : lv_has ls 2 [(0, .ref (ad 33)), (1, .int a0)] := hl
  refine lv_aload_n hx hb dX5_termOfEntry_0 rfl (lv_at hl 0 rfl) ?_
  refine lv_aload_n hx hb dX5_termOfEntry_1 rfl (lv_at hl 0 rfl) ?_
  refine lv_iload_n hx hb dX5_termOfEntry_2 rfl (lv_at hl 1 rfl) ?_
  refine va_calli (va_runV (As := [.int a0]) (rest := [.ref (ad 33)]) ⟨hx, hb, hml, hown, hts⟩ (mX5_isEntry l D ca ad base hAd w a0 _ hw) (cwV 1 hts gX5_termOfEntry_X5_isEntry rfl rfl rfl (by decide +kernel) ⟨Nat.le_of_ble_eq_true rfl, Nat.le_of_ble_eq_true rfl⟩) (pv [.int a0] hK hP hbs hS rfl (wg33 ca ad w)) rfl rfl hl.1 rfl (lv_room (Nat.le_of_ble_eq_true rfl)) dX5_termOfEntry_3 ⟨Nat.le_of_ble_eq_true rfl, Nat.le_of_ble_eq_true rfl⟩) hS (fun q _ h => h) (fun q h => h) (fun r_2 w_1 t H locs ht hvm hw hP hz1 hk1 hS => ?_)
  have hP : PA D ca ad w_1 H := by rw [← ht]; exact hP
  refine va_calli (va_runV (As := [.int r_2]) (rest := []) ⟨hx, hb, hml, hown, hts⟩ (mX5_checked l D ca ad base hAd w_1 r_2 _ hw) (cwV 1 hts gX5_termOfEntry_X5_checked rfl rfl rfl (by decide +kernel) ⟨Nat.le_of_ble_eq_true rfl, Nat.le_of_ble_eq_true rfl⟩) (pv [.int r_2] hK hP hbs hS rfl (wg33 ca ad w_1)) rfl rfl hl.1 rfl (lv_room (Nat.le_of_ble_eq_true rfl)) dX5_termOfEntry_6 ⟨Nat.le_of_ble_eq_true rfl, Nat.le_of_ble_eq_true rfl⟩) hS (fun q _ h => h) (fun q h => h) (fun r_4 w_3 t H locs ht hvm hw hP hz1 hk1 hS => ?_)
  have hP : PA D ca ad w_3 H := by rw [← ht]; exact hP
  refine lv_if_le (tgt := 16) hx hb dX5_termOfEntry_9 (by decide) (fun c_5 => ?_) (fun c_5 => ?_)
  · have hw := hw.1 c_5
    refine lv_aload_n hx hb dX5_termOfEntry_16 rfl (lv_at hl 0 rfl) ?_
    refine va_get (D := D) (ci := 7) (v := .ref (ad 56)) (C := RX5) (T := TX5) (N := 30) hx hb hts in_X5 hown hK hP 33 (wg33 ca ad w_3) rfl 22 (by decide) lk_78 (fun _ h9 => h9) rfl dX5_termOfEntry_17 ?_
    refine lv_iload_n hx hb dX5_termOfEntry_20 rfl (lv_at hl 1 rfl) ?_
    obtain ⟨h_6, hw⟩ := hw
    refine va_iald hx hb hK hP 56 0 (wg56 ca ad w_3) rfl h_6 dX5_termOfEntry_21 ?_
    exact W.iret (v := (w_3.1 56 (a0).toNatClampNeg)) hx hb hr (fun t ht hW => ⟨⟨(w_3.1 56 (a0).toNatClampNeg), w_3, rfl, hw, by show PA D ca ad w_3 t.heap; rw [ht]; exact hP⟩, hS.F ht⟩) hS.2.2 dX5_termOfEntry_22
  · have hw := hw.2 c_5
    refine lv_iconst (v := 0) hx hb dX5_termOfEntry_12 (by decide) ?_
    refine lv_goto (tgt := 22) hx hb dX5_termOfEntry_13 (by decide) ?_
    exact W.iret (v := 0) hx hb hr (fun t ht hW => ⟨⟨0, w_3, rfl, hw, by show PA D ca ad w_3 t.heap; rw [ht]; exact hP⟩, hS.F ht⟩) hS.2.2 dX5_termOfEntry_22
set_option maxHeartbeats 4000000 in
set_option maxRecDepth 100000 in
def wpX5_knownBy_B39 (a0 : Int32) (post : Int32 → St → Prop) (K18 : Int32 → Int32 → St → Prop) (v3 : Int32) (s0 : Int32) (s1 : Int32) (w : St) : Prop := K18 (s1 + s0) (v3 + 1) w
set_option maxHeartbeats 4000000 in
set_option maxRecDepth 100000 in
def wpX5_knownBy_L18 (a0 : Int32) (post : Int32 → St → Prop) : Nat → Int32 → Int32 → St → Prop
  | 0, _, _, _ => False
  | n + 1, v2, v3, w => (5 ≤ v3 → (post v2 w)) ∧ (¬ (5 ≤ v3) → ((vp_in v3 5) ∧ (((w.1 41 (v3).toNatClampNeg) ≤ a0 → (wpX5_knownBy_B39 a0 post (fun v2 v3 w => wpX5_knownBy_L18 a0 post n v2 v3 w) v3 0 v2 w)) ∧ (¬ ((w.1 41 (v3).toNatClampNeg) ≤ a0) → (wpX5_knownBy_B39 a0 post (fun v2 v3 w => wpX5_knownBy_L18 a0 post n v2 v3 w) v3 1 v2 w)))))
set_option maxHeartbeats 4000000 in
set_option maxRecDepth 100000 in
def wpX5_knownBy (a0 : Int32) (w : St) (post : Int32 → St → Prop) : Prop := wpX5_isEntry a0 w (fun r_5 w_4 => wpX5_checked r_5 w_4 (fun r_7 w_6 => (r_7 ≤ 0 → (∃ n : Nat, wpX5_knownBy_L18 a0 post n 0 0 w_6)) ∧ (¬ (r_7 ≤ 0) → (post 0 w_6))))
set_option maxHeartbeats 4000000 in
set_option maxRecDepth 100000 in
theorem mX5_knownBy (l : Launch) (D : va_G) (ca : Nat → ClassId) (ad : Nat → Nat) (base : Nat) (hAd : okA base ad) (w : St) (a0 : Int32) (post : Int32 → St → Prop) (hw : wpX5_knownBy a0 w post) : Met l yX5_knownBy wsX5_knownBy ({ frames := 2, cells := 0, slots := 0, locals := 43 } : Room) (va_Pc [.ref (ad 33), .int a0] (BU D ca ad base w)) (va_Qi post (Bp D ca ad) (AB base)) 0 0 (AB base) := by
  refine Met.ofW (cc := cX5_knownBy) (maxL := 4) (ret := (some .int)) (by decide) rfl ?_
  intro p e s m args below meth c s₁ B hml hv
  obtain ⟨rfl, hbs, hP, hK⟩ := hv
  have hx := B.exec
  have hb := B.bytes
  have hr := B.returns
  have hts := atoms_spec (ws := wsX5_knownBy) B.pre
  have hown : s.vm.findClass RX5 = some m.cls := findClass_of_methodNamed B.named
  have hlocks := B.notSynchronized
  have in_X5 : ∀ w ∈ wsX50, w ∈ wsX5_knownBy := by decide +kernel
  have lk_32 := hts (.fieldLink RX5 32 "LockQuorumModel" "known" "[I") (by decide +kernel)
  have hS : va_S (AB base) s.heap s.heap [] := va_S.rf
  have hB18 : ∀ (n : Nat) (v2 : Int32) (v3 : Int32) (w : St), wpX5_knownBy_L18 a0 post n v2 v3 w → ∀ (H : Heap) (locs : List Loc), PA D ca ad w H → va_S (AB base) s.heap H locs → ∀ ls : Array Slot, lv_has ls 4 [(0, .ref (ad 33)), (1, .int a0), (2, .int v2), (3, .int v3)] → W p l e (headSpec wsX5_knownBy ({ frames := 2, cells := 0, slots := 0, locals := 43 } : Room)).room s m ([Value.ref (ad 33), Value.int a0].toArray) below meth c H locs 0 0 (MQ below (va_Qi post (Bp D ca ad) (AB base)) ([Value.ref (ad 33), Value.int a0].toArray) s 0 0 (AB base)) (F0 m 18 ls []) := by
    intro n
    induction n with
    | zero => intro v2 v3 w hw; exact hw.elim
    | succ n ih18 =>
      have hB39 : ∀ (v3 : Int32) (s0 : Int32) (s1 : Int32) (w : St), wpX5_knownBy_B39 a0 post (fun v2 v3 w => wpX5_knownBy_L18 a0 post n v2 v3 w) v3 s0 s1 w → ∀ (H : Heap) (locs : List Loc), PA D ca ad w H → va_S (AB base) s.heap H locs → ∀ ls : Array Slot, lv_has ls 4 [(0, .ref (ad 33)), (1, .int a0), (3, .int v3)] → W p l e (headSpec wsX5_knownBy ({ frames := 2, cells := 0, slots := 0, locals := 43 } : Room)).room s m ([Value.ref (ad 33), Value.int a0].toArray) below meth c H locs 0 0 (MQ below (va_Qi post (Bp D ca ad) (AB base)) ([Value.ref (ad 33), Value.int a0].toArray) s 0 0 (AB base)) (F0 m 39 ls [.int s0, .int s1]) := by
        intro v3 s0 s1 w hw H locs hP hS ls hl
        refine lv_iadd hx hb dX5_knownBy_39 ?_
        refine lv_istore_n (lv' := [(2, .int (s1 + s0)), (0, .ref (ad 33)), (1, .int a0), (3, .int v3)]) hx hb dX5_knownBy_40 rfl hl (by decide) rfl (fun ls hl => ?_)
        refine lv_iinc (v := (v3 + 1)) (lv' := [(3, .int (v3 + 1)), (2, .int (s1 + s0)), (0, .ref (ad 33)), (1, .int a0)]) hx hb dX5_knownBy_41 hl (k := 3) rfl rfl (by decide) rfl (fun ls hl => ?_)
        refine lv_goto (tgt := 18) hx hb dX5_knownBy_44 (by decide) ?_
        exact ih18 (s1 + s0) (v3 + 1) w hw _ _ hP hS ls (lv_sub hl [2, 3, 1, 0] rfl)
      intro v2 v3 w hw H locs hP hS ls hl
      refine lv_iload_n hx hb dX5_knownBy_18 rfl (lv_at hl 3 rfl) ?_
      refine lv_iconst (v := 5) hx hb dX5_knownBy_19 (by decide) ?_
      refine lv_icmp_ge (tgt := 47) hx hb dX5_knownBy_20 (by decide) (fun c_1 => ?_) (fun c_1 => ?_)
      · have hw := hw.1 c_1
        refine lv_iload_n hx hb dX5_knownBy_47 rfl (lv_at hl 2 rfl) ?_
        exact W.iret (v := v2) hx hb hr (fun t ht hW => ⟨⟨v2, w, rfl, hw, by show PA D ca ad w t.heap; rw [ht]; exact hP⟩, hS.F ht⟩) hS.2.2 dX5_knownBy_48
      · have hw := hw.2 c_1
        refine lv_iload_n hx hb dX5_knownBy_23 rfl (lv_at hl 2 rfl) ?_
        refine lv_aload_n hx hb dX5_knownBy_24 rfl (lv_at hl 0 rfl) ?_
        refine va_get (D := D) (ci := 7) (v := .ref (ad 41)) (C := RX5) (T := TX5) (N := 30) hx hb hts in_X5 hown hK hP 33 (wg33 ca ad w) rfl 7 (by decide) lk_32 (fun _ h9 => h9) rfl dX5_knownBy_25 ?_
        refine lv_iload_n hx hb dX5_knownBy_28 rfl (lv_at hl 3 rfl) ?_
        obtain ⟨h_2, hw⟩ := hw
        refine va_iald hx hb hK hP 41 0 (wg41 ca ad w) rfl h_2 dX5_knownBy_29 ?_
        refine lv_iload_n hx hb dX5_knownBy_30 rfl (lv_at hl 1 rfl) ?_
        refine lv_icmp_le (tgt := 38) hx hb dX5_knownBy_31 (by decide) (fun c_3 => ?_) (fun c_3 => ?_)
        · have hw := hw.1 c_3
          refine lv_iconst (v := 0) hx hb dX5_knownBy_38 (by decide) ?_
          exact hB39 v3 0 v2 w hw _ _ hP hS ls (lv_sub hl [0, 1, 3] rfl)
        · have hw := hw.2 c_3
          refine lv_iconst (v := 1) hx hb dX5_knownBy_34 (by decide) ?_
          refine lv_goto (tgt := 39) hx hb dX5_knownBy_35 (by decide) ?_
          exact hB39 v3 1 v2 w hw _ _ hP hS ls (lv_sub hl [0, 1, 3] rfl)
  have hl := lv_entry ([.ref (ad 33), .int a0]) (n := 4) (Nat.le_of_ble_eq_true rfl)
  rw [lg_entry_eq]
  generalize (lg_sl ([.ref (ad 33), .int a0]) ++ List.replicate (4 - (lg_sl ([.ref (ad 33), .int a0])).length) Slot.unset).toArray = ls at hl ⊢
  have hl : lv_has ls 4 [(0, .ref (ad 33)), (1, .int a0)] := hl
  refine lv_aload_n hx hb dX5_knownBy_0 rfl (lv_at hl 0 rfl) ?_
  refine lv_aload_n hx hb dX5_knownBy_1 rfl (lv_at hl 0 rfl) ?_
  refine lv_iload_n hx hb dX5_knownBy_2 rfl (lv_at hl 1 rfl) ?_
  refine va_calli (va_runV (As := [.int a0]) (rest := [.ref (ad 33)]) ⟨hx, hb, hml, hown, hts⟩ (mX5_isEntry l D ca ad base hAd w a0 _ hw) (cwV 1 hts gX5_knownBy_X5_isEntry rfl rfl rfl (by decide +kernel) ⟨Nat.le_of_ble_eq_true rfl, Nat.le_of_ble_eq_true rfl⟩) (pv [.int a0] hK hP hbs hS rfl (wg33 ca ad w)) rfl rfl hl.1 rfl (lv_room (Nat.le_of_ble_eq_true rfl)) dX5_knownBy_3 ⟨Nat.le_of_ble_eq_true rfl, Nat.le_of_ble_eq_true rfl⟩) hS (fun q _ h => h) (fun q h => h) (fun r_5 w_4 t H locs ht hvm hw hP hz1 hk1 hS => ?_)
  have hP : PA D ca ad w_4 H := by rw [← ht]; exact hP
  refine va_calli (va_runV (As := [.int r_5]) (rest := []) ⟨hx, hb, hml, hown, hts⟩ (mX5_checked l D ca ad base hAd w_4 r_5 _ hw) (cwV 1 hts gX5_knownBy_X5_checked rfl rfl rfl (by decide +kernel) ⟨Nat.le_of_ble_eq_true rfl, Nat.le_of_ble_eq_true rfl⟩) (pv [.int r_5] hK hP hbs hS rfl (wg33 ca ad w_4)) rfl rfl hl.1 rfl (lv_room (Nat.le_of_ble_eq_true rfl)) dX5_knownBy_6 ⟨Nat.le_of_ble_eq_true rfl, Nat.le_of_ble_eq_true rfl⟩) hS (fun q _ h => h) (fun q h => h) (fun r_7 w_6 t H locs ht hvm hw hP hz1 hk1 hS => ?_)
  have hP : PA D ca ad w_6 H := by rw [← ht]; exact hP
  refine lv_if_le (tgt := 14) hx hb dX5_knownBy_9 (by decide) (fun c_8 => ?_) (fun c_8 => ?_)
  · have hw := hw.1 c_8
    refine lv_iconst (v := 0) hx hb dX5_knownBy_14 (by decide) ?_
    refine lv_istore_n (lv' := [(2, .int 0), (0, .ref (ad 33)), (1, .int a0)]) hx hb dX5_knownBy_15 rfl hl (by decide) rfl (fun ls hl => ?_)
    refine lv_iconst (v := 0) hx hb dX5_knownBy_16 (by decide) ?_
    refine lv_istore_n (lv' := [(3, .int 0), (2, .int 0), (0, .ref (ad 33)), (1, .int a0)]) hx hb dX5_knownBy_17 rfl hl (by decide) rfl (fun ls hl => ?_)
    obtain ⟨n_18, hw⟩ := hw
    exact hB18 n_18 0 0 w_6 hw _ _ hP hS ls (lv_sub hl [2, 3, 1, 0] rfl)
  · have hw := hw.2 c_8
    refine lv_iconst (v := 0) hx hb dX5_knownBy_12 (by decide) ?_
    exact W.iret (v := 0) hx hb hr (fun t ht hW => ⟨⟨0, w_6, rfl, hw, by show PA D ca ad w_6 t.heap; rw [ht]; exact hP⟩, hS.F ht⟩) hS.2.2 dX5_knownBy_13
set_option maxHeartbeats 4000000 in
set_option maxRecDepth 100000 in
def wpX5_leased_B45 (post : Int64 → St → Prop) (K12 : Int64 → Int32 → St → Prop) (v3 : Int32) (s0 : Int64) (s1 : Int64) (w : St) : Prop := K12 (s1 + s0) (v3 + 1) w
set_option maxHeartbeats 4000000 in
set_option maxRecDepth 100000 in
def wpX5_leased_L12 (post : Int64 → St → Prop) : Nat → Int64 → Int32 → St → Prop
  | 0, _, _, _ => False
  | n + 1, v1, v3, w => (4 ≤ v3 → (post v1 w)) ∧ (¬ (4 ≤ v3) → ((vp_in v3 4) ∧ (((w.1 48 (v3).toNatClampNeg) < 0 → (wpX5_leased_B45 post (fun v1 v3 w => wpX5_leased_L12 post n v1 v3 w) v3 0 v1 w)) ∧ (¬ ((w.1 48 (v3).toNatClampNeg) < 0) → ((vp_in v3 4) ∧ ((vp_in v3 4) ∧ (wpX5_leased_B45 post (fun v1 v3 w => wpX5_leased_L12 post n v1 v3 w) v3 ((((w.1 49 (v3).toNatClampNeg) - (w.1 50 (v3).toNatClampNeg))).toInt64) v1 w)))))))
set_option maxHeartbeats 4000000 in
set_option maxRecDepth 100000 in
def wpX5_leased (w : St) (post : Int64 → St → Prop) : Prop := ∀ w_6 : St, w_6 = (uI w 67 0) → ∃ n : Nat, wpX5_leased_L12 post n (w_6.2.1 1) 0 w_6
set_option maxHeartbeats 4000000 in
set_option maxRecDepth 100000 in
theorem mX5_leased (l : Launch) (D : va_G) (ca : Nat → ClassId) (ad : Nat → Nat) (base : Nat) (hAd : okA base ad) (w : St) (post : Int64 → St → Prop) (hw : wpX5_leased w post) : Met l yX5_leased wsX5_leased ({ frames := 0, cells := 0, slots := 0, locals := 0 } : Room) (va_Pc [.ref (ad 33)] (BU D ca ad base w)) (va_Ql post (Bp D ca ad) (AB base)) 0 0 (AB base) := by
  refine Met.ofW (cc := cX5_leased) (maxL := 4) (ret := (some .long)) (by decide) rfl ?_
  intro p e s m args below meth c s₁ B hml hv
  obtain ⟨rfl, hbs, hP, hK⟩ := hv
  have hx := B.exec
  have hb := B.bytes
  have hr := B.returns
  have hts := atoms_spec (ws := wsX5_leased) B.pre
  have hown : s.vm.findClass RX5 = some m.cls := findClass_of_methodNamed B.named
  have hlocks := B.notSynchronized
  have in_X5 : ∀ w ∈ wsX50, w ∈ wsX5_leased := by decide +kernel
  have lk_53 := hts (.fieldLink RX5 53 "LockQuorumModel" "owners" "[I") (by decide +kernel)
  have lk_56 := hts (.fieldLink RX5 56 "LockQuorumModel" "ends" "[I") (by decide +kernel)
  have lk_59 := hts (.fieldLink RX5 59 "LockQuorumModel" "granted" "[I") (by decide +kernel)
  have lk_87 := hts (.fieldLink RX5 87 "LockQuorumModel" "thrown" "I") (by decide +kernel)
  have lk_100 := hts (.fieldLink RX5 100 "LockQuorumModel" "leased" "J") (by decide +kernel)
  have hS : va_S (AB base) s.heap s.heap [] := va_S.rf
  have hB12 : ∀ (n : Nat) (v1 : Int64) (v3 : Int32) (w : St), wpX5_leased_L12 post n v1 v3 w → ∀ (H : Heap) (locs : List Loc), PA D ca ad w H → va_S (AB base) s.heap H locs → ∀ ls : Array Slot, lv_has ls 4 [(0, .ref (ad 33)), (1, .long v1), (3, .int v3)] → W p l e (headSpec wsX5_leased ({ frames := 0, cells := 0, slots := 0, locals := 0 } : Room)).room s m ([Value.ref (ad 33)].toArray) below meth c H locs 0 0 (MQ below (va_Ql post (Bp D ca ad) (AB base)) ([Value.ref (ad 33)].toArray) s 0 0 (AB base)) (F0 m 12 ls []) := by
    intro n
    induction n with
    | zero => intro v1 v3 w hw; exact hw.elim
    | succ n ih12 =>
      have hB45 : ∀ (v3 : Int32) (s0 : Int64) (s1 : Int64) (w : St), wpX5_leased_B45 post (fun v1 v3 w => wpX5_leased_L12 post n v1 v3 w) v3 s0 s1 w → ∀ (H : Heap) (locs : List Loc), PA D ca ad w H → va_S (AB base) s.heap H locs → ∀ ls : Array Slot, lv_has ls 4 [(0, .ref (ad 33)), (3, .int v3)] → W p l e (headSpec wsX5_leased ({ frames := 0, cells := 0, slots := 0, locals := 0 } : Room)).room s m ([Value.ref (ad 33)].toArray) below meth c H locs 0 0 (MQ below (va_Ql post (Bp D ca ad) (AB base)) ([Value.ref (ad 33)].toArray) s 0 0 (AB base)) (F0 m 45 ls [.long s0, .long s1]) := by
        intro v3 s0 s1 w hw H locs hP hS ls hl
        refine lv_ladd hx hb dX5_leased_45 ?_
        refine lv_lstore_n (lv' := [(1, .long (s1 + s0)), (0, .ref (ad 33)), (3, .int v3)]) hx hb dX5_leased_46 rfl hl (by decide) rfl (fun ls hl => ?_)
        refine lv_iinc (v := (v3 + 1)) (lv' := [(3, .int (v3 + 1)), (1, .long (s1 + s0)), (0, .ref (ad 33))]) hx hb dX5_leased_47 hl (k := 2) rfl rfl (by decide) rfl (fun ls hl => ?_)
        refine lv_goto (tgt := 12) hx hb dX5_leased_50 (by decide) ?_
        exact ih12 (s1 + s0) (v3 + 1) w hw _ _ hP hS ls (lv_sub hl [2, 1, 0] rfl)
      intro v1 v3 w hw H locs hP hS ls hl
      refine lv_iload_n hx hb dX5_leased_12 rfl (lv_at hl 2 rfl) ?_
      refine lv_iconst (v := 4) hx hb dX5_leased_13 (by decide) ?_
      refine lv_icmp_ge (tgt := 53) hx hb dX5_leased_14 (by decide) (fun c_1 => ?_) (fun c_1 => ?_)
      · have hw := hw.1 c_1
        refine lv_lload_n hx hb dX5_leased_53 rfl (lv_at hl 1 rfl) ?_
        exact W.lret (v := v1) hx hb hr (fun t ht hW => ⟨⟨v1, w, rfl, hw, by show PA D ca ad w t.heap; rw [ht]; exact hP⟩, hS.F ht⟩) hS.2.2 dX5_leased_54
      · have hw := hw.2 c_1
        refine lv_lload_n hx hb dX5_leased_17 rfl (lv_at hl 1 rfl) ?_
        refine lv_aload_n hx hb dX5_leased_18 rfl (lv_at hl 0 rfl) ?_
        refine va_get (D := D) (ci := 7) (v := .ref (ad 48)) (C := RX5) (T := TX5) (N := 30) hx hb hts in_X5 hown hK hP 33 (wg33 ca ad w) rfl 14 (by decide) lk_53 (fun _ h9 => h9) rfl dX5_leased_19 ?_
        refine lv_iload_n hx hb dX5_leased_22 rfl (lv_at hl 2 rfl) ?_
        obtain ⟨h_2, hw⟩ := hw
        refine va_iald hx hb hK hP 48 0 (wg48 ca ad w) rfl h_2 dX5_leased_23 ?_
        refine lv_if_lt (tgt := 44) hx hb dX5_leased_24 (by decide) (fun c_3 => ?_) (fun c_3 => ?_)
        · have hw := hw.1 c_3
          refine lv_lconst (v := 0) hx hb dX5_leased_44 (by decide) ?_
          exact hB45 v3 0 v1 w hw _ _ hP hS ls (lv_sub hl [0, 2] rfl)
        · have hw := hw.2 c_3
          refine lv_aload_n hx hb dX5_leased_27 rfl (lv_at hl 0 rfl) ?_
          refine va_get (D := D) (ci := 7) (v := .ref (ad 49)) (C := RX5) (T := TX5) (N := 30) hx hb hts in_X5 hown hK hP 33 (wg33 ca ad w) rfl 15 (by decide) lk_56 (fun _ h9 => h9) rfl dX5_leased_28 ?_
          refine lv_iload_n hx hb dX5_leased_31 rfl (lv_at hl 2 rfl) ?_
          obtain ⟨h_4, hw⟩ := hw
          refine va_iald hx hb hK hP 49 0 (wg49 ca ad w) rfl h_4 dX5_leased_32 ?_
          refine lv_aload_n hx hb dX5_leased_33 rfl (lv_at hl 0 rfl) ?_
          refine va_get (D := D) (ci := 7) (v := .ref (ad 50)) (C := RX5) (T := TX5) (N := 30) hx hb hts in_X5 hown hK hP 33 (wg33 ca ad w) rfl 16 (by decide) lk_59 (fun _ h9 => h9) rfl dX5_leased_34 ?_
          refine lv_iload_n hx hb dX5_leased_37 rfl (lv_at hl 2 rfl) ?_
          obtain ⟨h_5, hw⟩ := hw
          refine va_iald hx hb hK hP 50 0 (wg50 ca ad w) rfl h_5 dX5_leased_38 ?_
          refine lv_isub hx hb dX5_leased_39 ?_
          refine lv_i2l (v := (((w.1 49 (v3).toNatClampNeg) - (w.1 50 (v3).toNatClampNeg))).toInt64) hx hb dX5_leased_40 rfl ?_
          refine lv_goto (tgt := 45) hx hb dX5_leased_41 (by decide) ?_
          exact hB45 v3 ((((w.1 49 (v3).toNatClampNeg) - (w.1 50 (v3).toNatClampNeg))).toInt64) v1 w hw _ _ hP hS ls (lv_sub hl [0, 2] rfl)
  have hl := lv_entry ([.ref (ad 33)]) (n := 4) (Nat.le_of_ble_eq_true rfl)
  rw [lg_entry_eq]
  generalize (lg_sl ([.ref (ad 33)]) ++ List.replicate (4 - (lg_sl ([.ref (ad 33)])).length) Slot.unset).toArray = ls at hl ⊢
  have hl : lv_has ls 4 [(0, .ref (ad 33))] := hl
  refine lv_aload_n hx hb dX5_leased_0 rfl (lv_at hl 0 rfl) ?_
  refine lv_iconst (v := 0) hx hb dX5_leased_1 (by decide) ?_
  refine va_put (D := D) (ci := 7) (v := .int 0) (ty := .int) (C := RX5) (T := TX5) (N := 30) hx hb hts in_X5 tyX5 tyX5_ok nmX5 hown hK hP (DA hAd) hS 33 (wg33 ca ad w) rfl 25 (by decide) lk_87 (fun _ h9 => h9) rfl (by decide +kernel) rfl rfl (Nat.le_of_ble_eq_true rfl) dX5_leased_2 (fun H locs hP hD hS => ?_)
  obtain ⟨w_6, e_7⟩ : ∃ z : St, z = (uI w 67 0) := ⟨_, rfl⟩
  have hP : PA D ca ad w_6 H := by rw [e_7]; exact wf67 hP
  have hw := hw w_6 e_7
  refine lv_aload_n hx hb dX5_leased_5 rfl (lv_at hl 0 rfl) ?_
  refine va_get (D := D) (ci := 7) (v := .long (w_6.2.1 1)) (C := RX5) (T := TX5) (N := 30) hx hb hts in_X5 hown hK hP 33 (wg33 ca ad w_6) rfl 29 (by decide) lk_100 (fun _ h9 => h9) rfl dX5_leased_6 ?_
  refine lv_lstore_n (lv' := [(1, .long (w_6.2.1 1)), (0, .ref (ad 33))]) hx hb dX5_leased_9 rfl hl (by decide) rfl (fun ls hl => ?_)
  refine lv_iconst (v := 0) hx hb dX5_leased_10 (by decide) ?_
  refine lv_istore_n (lv' := [(3, .int 0), (1, .long (w_6.2.1 1)), (0, .ref (ad 33))]) hx hb dX5_leased_11 rfl hl (by decide) rfl (fun ls hl => ?_)
  obtain ⟨n_12, hw⟩ := hw
  exact hB12 n_12 (w_6.2.1 1) 0 w_6 hw _ _ hP hS ls (lv_sub hl [2, 1, 0] rfl)
set_option maxHeartbeats 4000000 in
set_option maxRecDepth 100000 in
def wpX5_upShare_B29 (post : UInt32 → St → Prop) (K9 : Int32 → Int32 → St → Prop) (v2 : Int32) (s0 : Int32) (s1 : Int32) (w : St) : Prop := K9 (s1 + s0) (v2 + 1) w
set_option maxHeartbeats 4000000 in
set_option maxRecDepth 100000 in
def wpX5_upShare_L9 (post : UInt32 → St → Prop) : Nat → Int32 → Int32 → St → Prop
  | 0, _, _, _ => False
  | n + 1, v1, v2, w => (5 ≤ v2 → ((vf_n32 (FP.fdiv (FP.i2f v1) 1084227584)) ∧ (post (FP.fdiv (FP.i2f v1) 1084227584) w))) ∧ (¬ (5 ≤ v2) → ((vp_in v2 5) ∧ (((w.1 34 (v2).toNatClampNeg) = 0 → (wpX5_upShare_B29 post (fun v1 v2 w => wpX5_upShare_L9 post n v1 v2 w) v2 1 v1 w)) ∧ (¬ ((w.1 34 (v2).toNatClampNeg) = 0) → (wpX5_upShare_B29 post (fun v1 v2 w => wpX5_upShare_L9 post n v1 v2 w) v2 0 v1 w)))))
set_option maxHeartbeats 4000000 in
set_option maxRecDepth 100000 in
def wpX5_upShare (w : St) (post : UInt32 → St → Prop) : Prop := ∀ w_5 : St, w_5 = (uI w 67 0) → ∃ n : Nat, wpX5_upShare_L9 post n 0 0 w_5
set_option maxHeartbeats 4000000 in
set_option maxRecDepth 100000 in
theorem mX5_upShare (l : Launch) (D : va_G) (ca : Nat → ClassId) (ad : Nat → Nat) (base : Nat) (hAd : okA base ad) (w : St) (post : UInt32 → St → Prop) (hw : wpX5_upShare w post) : Met l yX5_upShare wsX5_upShare ({ frames := 0, cells := 0, slots := 0, locals := 0 } : Room) (va_Pc [.ref (ad 33)] (BU D ca ad base w)) (va_Qf post (Bp D ca ad) (AB base)) 0 0 (AB base) := by
  refine Met.ofW (cc := cX5_upShare) (maxL := 3) (ret := (some .float)) (by decide) rfl ?_
  intro p e s m args below meth c s₁ B hml hv
  obtain ⟨rfl, hbs, hP, hK⟩ := hv
  have hx := B.exec
  have hb := B.bytes
  have hr := B.returns
  have hts := atoms_spec (ws := wsX5_upShare) B.pre
  have hown : s.vm.findClass RX5 = some m.cls := findClass_of_methodNamed B.named
  have hlocks := B.notSynchronized
  have in_X5 : ∀ w ∈ wsX50, w ∈ wsX5_upShare := by decide +kernel
  have lk_7 := hts (.fieldLink RX5 7 "LockQuorumModel" "areDown" "[Z") (by decide +kernel)
  have lk_87 := hts (.fieldLink RX5 87 "LockQuorumModel" "thrown" "I") (by decide +kernel)
  have hS : va_S (AB base) s.heap s.heap [] := va_S.rf
  have hB9 : ∀ (n : Nat) (v1 : Int32) (v2 : Int32) (w : St), wpX5_upShare_L9 post n v1 v2 w → ∀ (H : Heap) (locs : List Loc), PA D ca ad w H → va_S (AB base) s.heap H locs → ∀ ls : Array Slot, lv_has ls 3 [(0, .ref (ad 33)), (1, .int v1), (2, .int v2)] → W p l e (headSpec wsX5_upShare ({ frames := 0, cells := 0, slots := 0, locals := 0 } : Room)).room s m ([Value.ref (ad 33)].toArray) below meth c H locs 0 0 (MQ below (va_Qf post (Bp D ca ad) (AB base)) ([Value.ref (ad 33)].toArray) s 0 0 (AB base)) (F0 m 9 ls []) := by
    intro n
    induction n with
    | zero => intro v1 v2 w hw; exact hw.elim
    | succ n ih9 =>
      have hB29 : ∀ (v2 : Int32) (s0 : Int32) (s1 : Int32) (w : St), wpX5_upShare_B29 post (fun v1 v2 w => wpX5_upShare_L9 post n v1 v2 w) v2 s0 s1 w → ∀ (H : Heap) (locs : List Loc), PA D ca ad w H → va_S (AB base) s.heap H locs → ∀ ls : Array Slot, lv_has ls 3 [(0, .ref (ad 33)), (2, .int v2)] → W p l e (headSpec wsX5_upShare ({ frames := 0, cells := 0, slots := 0, locals := 0 } : Room)).room s m ([Value.ref (ad 33)].toArray) below meth c H locs 0 0 (MQ below (va_Qf post (Bp D ca ad) (AB base)) ([Value.ref (ad 33)].toArray) s 0 0 (AB base)) (F0 m 29 ls [.int s0, .int s1]) := by
        intro v2 s0 s1 w hw H locs hP hS ls hl
        refine lv_iadd hx hb dX5_upShare_29 ?_
        refine lv_istore_n (lv' := [(1, .int (s1 + s0)), (0, .ref (ad 33)), (2, .int v2)]) hx hb dX5_upShare_30 rfl hl (by decide) rfl (fun ls hl => ?_)
        refine lv_iinc (v := (v2 + 1)) (lv' := [(2, .int (v2 + 1)), (1, .int (s1 + s0)), (0, .ref (ad 33))]) hx hb dX5_upShare_31 hl (k := 2) rfl rfl (by decide) rfl (fun ls hl => ?_)
        refine lv_goto (tgt := 9) hx hb dX5_upShare_34 (by decide) ?_
        exact ih9 (s1 + s0) (v2 + 1) w hw _ _ hP hS ls (lv_sub hl [2, 1, 0] rfl)
      intro v1 v2 w hw H locs hP hS ls hl
      refine lv_iload_n hx hb dX5_upShare_9 rfl (lv_at hl 2 rfl) ?_
      refine lv_iconst (v := 5) hx hb dX5_upShare_10 (by decide) ?_
      refine lv_icmp_ge (tgt := 37) hx hb dX5_upShare_11 (by decide) (fun c_1 => ?_) (fun c_1 => ?_)
      · have hw := hw.1 c_1
        refine lv_iload_n hx hb dX5_upShare_37 rfl (lv_at hl 1 rfl) ?_
        refine lv_i2f hx hb dX5_upShare_38 ?_
        refine lv_ldcf (own := RX5) (v := 1084227584) hx hb hown (hts (.constantFloat RX5 206 1084227584) (by decide +kernel)) dX5_upShare_39 ?_
        obtain ⟨h_2, hw⟩ := hw
        refine lv_fdiv hx hb dX5_upShare_41 h_2 ?_
        exact W.fret (v := (FP.fdiv (FP.i2f v1) 1084227584)) hx hb hr (fun t ht hW => ⟨⟨(FP.fdiv (FP.i2f v1) 1084227584), w, rfl, hw, by show PA D ca ad w t.heap; rw [ht]; exact hP⟩, hS.F ht⟩) hS.2.2 dX5_upShare_42
      · have hw := hw.2 c_1
        refine lv_iload_n hx hb dX5_upShare_14 rfl (lv_at hl 1 rfl) ?_
        refine lv_aload_n hx hb dX5_upShare_15 rfl (lv_at hl 0 rfl) ?_
        refine va_get (D := D) (ci := 7) (v := .ref (ad 34)) (C := RX5) (T := TX5) (N := 30) hx hb hts in_X5 hown hK hP 33 (wg33 ca ad w) rfl 0 (by decide) lk_7 (fun _ h9 => h9) rfl dX5_upShare_16 ?_
        refine lv_iload_n hx hb dX5_upShare_19 rfl (lv_at hl 2 rfl) ?_
        obtain ⟨h_3, hw⟩ := hw
        refine va_zald hx hb hK hP 34 1 (wg34 ca ad w) rfl h_3 dX5_upShare_20 ?_
        refine lv_if_eq (tgt := 28) hx hb dX5_upShare_21 (by decide) (fun c_4 => ?_) (fun c_4 => ?_)
        · have hw := hw.1 c_4
          refine lv_iconst (v := 1) hx hb dX5_upShare_28 (by decide) ?_
          exact hB29 v2 1 v1 w hw _ _ hP hS ls (lv_sub hl [0, 2] rfl)
        · have hw := hw.2 c_4
          refine lv_iconst (v := 0) hx hb dX5_upShare_24 (by decide) ?_
          refine lv_goto (tgt := 29) hx hb dX5_upShare_25 (by decide) ?_
          exact hB29 v2 0 v1 w hw _ _ hP hS ls (lv_sub hl [0, 2] rfl)
  have hl := lv_entry ([.ref (ad 33)]) (n := 3) (Nat.le_of_ble_eq_true rfl)
  rw [lg_entry_eq]
  generalize (lg_sl ([.ref (ad 33)]) ++ List.replicate (3 - (lg_sl ([.ref (ad 33)])).length) Slot.unset).toArray = ls at hl ⊢
  have hl : lv_has ls 3 [(0, .ref (ad 33))] := hl
  refine lv_aload_n hx hb dX5_upShare_0 rfl (lv_at hl 0 rfl) ?_
  refine lv_iconst (v := 0) hx hb dX5_upShare_1 (by decide) ?_
  refine va_put (D := D) (ci := 7) (v := .int 0) (ty := .int) (C := RX5) (T := TX5) (N := 30) hx hb hts in_X5 tyX5 tyX5_ok nmX5 hown hK hP (DA hAd) hS 33 (wg33 ca ad w) rfl 25 (by decide) lk_87 (fun _ h9 => h9) rfl (by decide +kernel) rfl rfl (Nat.le_of_ble_eq_true rfl) dX5_upShare_2 (fun H locs hP hD hS => ?_)
  obtain ⟨w_5, e_6⟩ : ∃ z : St, z = (uI w 67 0) := ⟨_, rfl⟩
  have hP : PA D ca ad w_5 H := by rw [e_6]; exact wf67 hP
  have hw := hw w_5 e_6
  refine lv_iconst (v := 0) hx hb dX5_upShare_5 (by decide) ?_
  refine lv_istore_n (lv' := [(1, .int 0), (0, .ref (ad 33))]) hx hb dX5_upShare_6 rfl hl (by decide) rfl (fun ls hl => ?_)
  refine lv_iconst (v := 0) hx hb dX5_upShare_7 (by decide) ?_
  refine lv_istore_n (lv' := [(2, .int 0), (1, .int 0), (0, .ref (ad 33))]) hx hb dX5_upShare_8 rfl hl (by decide) rfl (fun ls hl => ?_)
  obtain ⟨n_9, hw⟩ := hw
  exact hB9 n_9 0 0 w_5 hw _ _ hP hS ls (lv_sub hl [2, 1, 0] rfl)
set_option maxHeartbeats 4000000 in
set_option maxRecDepth 100000 in
def wpX5_meanKnown_L25 (post : UInt64 → St → Prop) : Nat → Int32 → Int32 → St → Prop
  | 0, _, _, _ => False
  | n + 1, v1, v2, w => (5 ≤ v2 → ((vf_n64 (FP.ddiv (FP.i2d v1) (FP.i2d (5 * (w.1 70 0))))) ∧ (post (FP.ddiv (FP.i2d v1) (FP.i2d (5 * (w.1 70 0)))) w))) ∧ (¬ (5 ≤ v2) → ((vp_in v2 5) ∧ (wpX5_meanKnown_L25 post n (v1 + (w.1 41 (v2).toNatClampNeg)) (v2 + 1) w)))
set_option maxHeartbeats 4000000 in
set_option maxRecDepth 100000 in
def wpX5_meanKnown_B13 (post : UInt64 → St → Prop) (s0 : Int32) (w : St) : Prop := wpX5_checked s0 w (fun r_5 w_4 => (r_5 ≤ 0 → (∃ n : Nat, wpX5_meanKnown_L25 post n 0 0 w_4)) ∧ (¬ (r_5 ≤ 0) → (post FP.dconst0 w_4)))
set_option maxHeartbeats 4000000 in
set_option maxRecDepth 100000 in
def wpX5_meanKnown (w : St) (post : UInt64 → St → Prop) : Prop := ((w.1 70 0) ≤ 0 → (wpX5_meanKnown_B13 post 0 w)) ∧ (¬ ((w.1 70 0) ≤ 0) → (wpX5_meanKnown_B13 post 1 w))
set_option maxHeartbeats 4000000 in
set_option maxRecDepth 100000 in
theorem mX5_meanKnown (l : Launch) (D : va_G) (ca : Nat → ClassId) (ad : Nat → Nat) (base : Nat) (hAd : okA base ad) (w : St) (post : UInt64 → St → Prop) (hw : wpX5_meanKnown w post) : Met l yX5_meanKnown wsX5_meanKnown ({ frames := 1, cells := 0, slots := 0, locals := 21 } : Room) (va_Pc [.ref (ad 33)] (BU D ca ad base w)) (va_Qd post (Bp D ca ad) (AB base)) 0 0 (AB base) := by
  refine Met.ofW (cc := cX5_meanKnown) (maxL := 3) (ret := (some .double)) (by decide) rfl ?_
  intro p e s m args below meth c s₁ B hml hv
  obtain ⟨rfl, hbs, hP, hK⟩ := hv
  have hx := B.exec
  have hb := B.bytes
  have hr := B.returns
  have hts := atoms_spec (ws := wsX5_meanKnown) B.pre
  have hown : s.vm.findClass RX5 = some m.cls := findClass_of_methodNamed B.named
  have hlocks := B.notSynchronized
  have in_X5 : ∀ w ∈ wsX50, w ∈ wsX5_meanKnown := by decide +kernel
  have lk_32 := hts (.fieldLink RX5 32 "LockQuorumModel" "known" "[I") (by decide +kernel)
  have lk_97 := hts (.fieldLink RX5 97 "LockQuorumModel" "entries" "I") (by decide +kernel)
  have hS : va_S (AB base) s.heap s.heap [] := va_S.rf
  have hB25 : ∀ (n : Nat) (v1 : Int32) (v2 : Int32) (w : St), wpX5_meanKnown_L25 post n v1 v2 w → ∀ (H : Heap) (locs : List Loc), PA D ca ad w H → va_S (AB base) s.heap H locs → ∀ ls : Array Slot, lv_has ls 3 [(0, .ref (ad 33)), (1, .int v1), (2, .int v2)] → W p l e (headSpec wsX5_meanKnown ({ frames := 1, cells := 0, slots := 0, locals := 21 } : Room)).room s m ([Value.ref (ad 33)].toArray) below meth c H locs 0 0 (MQ below (va_Qd post (Bp D ca ad) (AB base)) ([Value.ref (ad 33)].toArray) s 0 0 (AB base)) (F0 m 25 ls []) := by
    intro n
    induction n with
    | zero => intro v1 v2 w hw; exact hw.elim
    | succ n ih25 =>
      intro v1 v2 w hw H locs hP hS ls hl
      refine lv_iload_n hx hb dX5_meanKnown_25 rfl (lv_at hl 2 rfl) ?_
      refine lv_iconst (v := 5) hx hb dX5_meanKnown_26 (by decide) ?_
      refine lv_icmp_ge (tgt := 45) hx hb dX5_meanKnown_27 (by decide) (fun c_1 => ?_) (fun c_1 => ?_)
      · have hw := hw.1 c_1
        refine lv_iload_n hx hb dX5_meanKnown_45 rfl (lv_at hl 1 rfl) ?_
        refine lv_i2d hx hb dX5_meanKnown_46 ?_
        refine lv_iconst (v := 5) hx hb dX5_meanKnown_47 (by decide) ?_
        refine lv_aload_n hx hb dX5_meanKnown_48 rfl (lv_at hl 0 rfl) ?_
        refine va_get (D := D) (ci := 7) (v := .int (w.1 70 0)) (C := RX5) (T := TX5) (N := 30) hx hb hts in_X5 hown hK hP 33 (wg33 ca ad w) rfl 28 (by decide) lk_97 (fun _ h9 => h9) rfl dX5_meanKnown_49 ?_
        refine lv_imul hx hb dX5_meanKnown_52 ?_
        refine lv_i2d hx hb dX5_meanKnown_53 ?_
        obtain ⟨h_2, hw⟩ := hw
        refine lv_ddiv hx hb dX5_meanKnown_54 h_2 ?_
        exact W.dret (v := (FP.ddiv (FP.i2d v1) (FP.i2d (5 * (w.1 70 0))))) hx hb hr (fun t ht hW => ⟨⟨(FP.ddiv (FP.i2d v1) (FP.i2d (5 * (w.1 70 0)))), w, rfl, hw, by show PA D ca ad w t.heap; rw [ht]; exact hP⟩, hS.F ht⟩) hS.2.2 dX5_meanKnown_55
      · have hw := hw.2 c_1
        refine lv_iload_n hx hb dX5_meanKnown_30 rfl (lv_at hl 1 rfl) ?_
        refine lv_aload_n hx hb dX5_meanKnown_31 rfl (lv_at hl 0 rfl) ?_
        refine va_get (D := D) (ci := 7) (v := .ref (ad 41)) (C := RX5) (T := TX5) (N := 30) hx hb hts in_X5 hown hK hP 33 (wg33 ca ad w) rfl 7 (by decide) lk_32 (fun _ h9 => h9) rfl dX5_meanKnown_32 ?_
        refine lv_iload_n hx hb dX5_meanKnown_35 rfl (lv_at hl 2 rfl) ?_
        obtain ⟨h_3, hw⟩ := hw
        refine va_iald hx hb hK hP 41 0 (wg41 ca ad w) rfl h_3 dX5_meanKnown_36 ?_
        refine lv_iadd hx hb dX5_meanKnown_37 ?_
        refine lv_istore_n (lv' := [(1, .int (v1 + (w.1 41 (v2).toNatClampNeg))), (0, .ref (ad 33)), (2, .int v2)]) hx hb dX5_meanKnown_38 rfl hl (by decide) rfl (fun ls hl => ?_)
        refine lv_iinc (v := (v2 + 1)) (lv' := [(2, .int (v2 + 1)), (1, .int (v1 + (w.1 41 (v2).toNatClampNeg))), (0, .ref (ad 33))]) hx hb dX5_meanKnown_39 hl (k := 2) rfl rfl (by decide) rfl (fun ls hl => ?_)
        refine lv_goto (tgt := 25) hx hb dX5_meanKnown_42 (by decide) ?_
        exact ih25 (v1 + (w.1 41 (v2).toNatClampNeg)) (v2 + 1) w hw _ _ hP hS ls (lv_sub hl [2, 1, 0] rfl)
  have hB13 : ∀ (s0 : Int32) (w : St), wpX5_meanKnown_B13 post s0 w → ∀ (H : Heap) (locs : List Loc), PA D ca ad w H → va_S (AB base) s.heap H locs → ∀ ls : Array Slot, lv_has ls 3 [(0, .ref (ad 33))] → W p l e (headSpec wsX5_meanKnown ({ frames := 1, cells := 0, slots := 0, locals := 21 } : Room)).room s m ([Value.ref (ad 33)].toArray) below meth c H locs 0 0 (MQ below (va_Qd post (Bp D ca ad) (AB base)) ([Value.ref (ad 33)].toArray) s 0 0 (AB base)) (F0 m 13 ls [.int s0, .ref (ad 33)]) := by
    intro s0 w hw H locs hP hS ls hl
    refine va_calli (va_runV (As := [.int s0]) (rest := []) ⟨hx, hb, hml, hown, hts⟩ (mX5_checked l D ca ad base hAd w s0 _ hw) (cwV 1 hts gX5_meanKnown_X5_checked rfl rfl rfl (by decide +kernel) ⟨Nat.le_of_ble_eq_true rfl, Nat.le_of_ble_eq_true rfl⟩) (pv [.int s0] hK hP hbs hS rfl (wg33 ca ad w)) rfl rfl hl.1 rfl (lv_room (Nat.le_of_ble_eq_true rfl)) dX5_meanKnown_13 ⟨Nat.le_of_ble_eq_true rfl, Nat.le_of_ble_eq_true rfl⟩) hS (fun q _ h => h) (fun q h => h) (fun r_5 w_4 t H locs ht hvm hw hP hz1 hk1 hS => ?_)
    have hP : PA D ca ad w_4 H := by rw [← ht]; exact hP
    refine lv_if_le (tgt := 21) hx hb dX5_meanKnown_16 (by decide) (fun c_6 => ?_) (fun c_6 => ?_)
    · have hw := hw.1 c_6
      refine lv_iconst (v := 0) hx hb dX5_meanKnown_21 (by decide) ?_
      refine lv_istore_n (lv' := [(1, .int 0), (0, .ref (ad 33))]) hx hb dX5_meanKnown_22 rfl hl (by decide) rfl (fun ls hl => ?_)
      refine lv_iconst (v := 0) hx hb dX5_meanKnown_23 (by decide) ?_
      refine lv_istore_n (lv' := [(2, .int 0), (1, .int 0), (0, .ref (ad 33))]) hx hb dX5_meanKnown_24 rfl hl (by decide) rfl (fun ls hl => ?_)
      obtain ⟨n_25, hw⟩ := hw
      exact hB25 n_25 0 0 w_4 hw _ _ hP hS ls (lv_sub hl [2, 1, 0] rfl)
    · have hw := hw.2 c_6
      refine lv_dconst0 hx hb dX5_meanKnown_19 ?_
      exact W.dret (v := FP.dconst0) hx hb hr (fun t ht hW => ⟨⟨FP.dconst0, w_4, rfl, hw, by show PA D ca ad w_4 t.heap; rw [ht]; exact hP⟩, hS.F ht⟩) hS.2.2 dX5_meanKnown_20
  have hl := lv_entry ([.ref (ad 33)]) (n := 3) (Nat.le_of_ble_eq_true rfl)
  rw [lg_entry_eq]
  generalize (lg_sl ([.ref (ad 33)]) ++ List.replicate (3 - (lg_sl ([.ref (ad 33)])).length) Slot.unset).toArray = ls at hl ⊢
  have hl : lv_has ls 3 [(0, .ref (ad 33))] := hl
  refine lv_aload_n hx hb dX5_meanKnown_0 rfl (lv_at hl 0 rfl) ?_
  refine lv_aload_n hx hb dX5_meanKnown_1 rfl (lv_at hl 0 rfl) ?_
  refine va_get (D := D) (ci := 7) (v := .int (w.1 70 0)) (C := RX5) (T := TX5) (N := 30) hx hb hts in_X5 hown hK hP 33 (wg33 ca ad w) rfl 28 (by decide) lk_97 (fun _ h9 => h9) rfl dX5_meanKnown_2 ?_
  refine lv_if_le (tgt := 12) hx hb dX5_meanKnown_5 (by decide) (fun c_7 => ?_) (fun c_7 => ?_)
  · have hw := hw.1 c_7
    refine lv_iconst (v := 0) hx hb dX5_meanKnown_12 (by decide) ?_
    exact hB13 0 w hw _ _ hP hS ls (lv_sub hl [0] rfl)
  · have hw := hw.2 c_7
    refine lv_iconst (v := 1) hx hb dX5_meanKnown_8 (by decide) ?_
    refine lv_goto (tgt := 13) hx hb dX5_meanKnown_9 (by decide) ?_
    exact hB13 1 w hw _ _ hP hS ls (lv_sub hl [0] rfl)
set_option maxHeartbeats 4000000 in
set_option maxRecDepth 100000 in
def wpX5_isOneOrder (w : St) (post : Int32 → St → Prop) : Prop := ∀ w_1 : St, w_1 = (uI w 67 0) → post 1 w_1
set_option maxHeartbeats 4000000 in
set_option maxRecDepth 100000 in
theorem mX5_isOneOrder (l : Launch) (D : va_G) (ca : Nat → ClassId) (ad : Nat → Nat) (base : Nat) (hAd : okA base ad) (w : St) (post : Int32 → St → Prop) (hw : wpX5_isOneOrder w post) : Met l yX5_isOneOrder wsX5_isOneOrder ({ frames := 0, cells := 0, slots := 0, locals := 0 } : Room) (va_Pc [.ref (ad 33)] (BU D ca ad base w)) (va_Qi post (Bp D ca ad) (AB base)) 0 0 (AB base) := by
  refine Met.ofW (cc := cX5_isOneOrder) (maxL := 1) (ret := (some .boolean)) (by decide) rfl ?_
  intro p e s m args below meth c s₁ B hml hv
  obtain ⟨rfl, hbs, hP, hK⟩ := hv
  have hx := B.exec
  have hb := B.bytes
  have hr := B.returns
  have hts := atoms_spec (ws := wsX5_isOneOrder) B.pre
  have hown : s.vm.findClass RX5 = some m.cls := findClass_of_methodNamed B.named
  have hlocks := B.notSynchronized
  have in_X5 : ∀ w ∈ wsX50, w ∈ wsX5_isOneOrder := by decide +kernel
  have lk_87 := hts (.fieldLink RX5 87 "LockQuorumModel" "thrown" "I") (by decide +kernel)
  have hS : va_S (AB base) s.heap s.heap [] := va_S.rf
  have hl := lv_entry ([.ref (ad 33)]) (n := 1) (Nat.le_of_ble_eq_true rfl)
  rw [lg_entry_eq]
  generalize (lg_sl ([.ref (ad 33)]) ++ List.replicate (1 - (lg_sl ([.ref (ad 33)])).length) Slot.unset).toArray = ls at hl ⊢
  have hl : lv_has ls 1 [(0, .ref (ad 33))] := hl
  refine lv_aload_n hx hb dX5_isOneOrder_0 rfl (lv_at hl 0 rfl) ?_
  refine lv_iconst (v := 0) hx hb dX5_isOneOrder_1 (by decide) ?_
  refine va_put (D := D) (ci := 7) (v := .int 0) (ty := .int) (C := RX5) (T := TX5) (N := 30) hx hb hts in_X5 tyX5 tyX5_ok nmX5 hown hK hP (DA hAd) hS 33 (wg33 ca ad w) rfl 25 (by decide) lk_87 (fun _ h9 => h9) rfl (by decide +kernel) rfl rfl (Nat.le_of_ble_eq_true rfl) dX5_isOneOrder_2 (fun H locs hP hD hS => ?_)
  obtain ⟨w_1, e_2⟩ : ∃ z : St, z = (uI w 67 0) := ⟨_, rfl⟩
  have hP : PA D ca ad w_1 H := by rw [e_2]; exact wf67 hP
  have hw := hw w_1 e_2
  refine lv_iconst (v := 1) hx hb dX5_isOneOrder_5 (by decide) ?_
  exact W.zret (v := 1) hx hb hr (by decide) (fun t ht hW => ⟨⟨1, w_1, rfl, hw, by show PA D ca ad w_1 t.heap; rw [ht]; exact hP⟩, hS.F ht⟩) hS.2.2 dX5_isOneOrder_6
