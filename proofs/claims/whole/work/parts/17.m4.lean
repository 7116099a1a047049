set_option maxHeartbeats 4000000 in
set_option maxRecDepth 100000 in
def wpX4_pass_B11 (a0 : Int32) (post : Int32 → St → Prop) (px : String → St → Prop) (w : St) : Prop := px "java/lang/IllegalArgumentException" w
set_option maxHeartbeats 4000000 in
set_option maxRecDepth 100000 in
def wpX4_pass (a0 : Int32) (w : St) (post : Int32 → St → Prop) (px : String → St → Prop) : Prop := (a0 < 1 → (wpX4_pass_B11 a0 post px w)) ∧ (¬ (a0 < 1) → ((a0 ≤ 60 → (∀ w_3 : St, w_3 = (uI w 64 ((w.1 64 0) + a0)) → post (w_3.1 64 0) w_3)) ∧ (¬ (a0 ≤ 60) → (wpX4_pass_B11 a0 post px w))))
set_option maxHeartbeats 4000000 in
set_option maxRecDepth 100000 in
theorem mX4_pass (l : Launch) (D : va_G) (ca : Nat → ClassId) (ad : Nat → Nat) (base : Nat) (hAd : okA base ad) (w : St) (a0 : Int32) (post : Int32 → St → Prop) (px : String → St → Prop) (hw : wpX4_pass a0 w post px) (hl9 : l.stackTraces = false) : vx_Met l yX4_pass wsX4_pass ({ frames := 6, cells := 1, slots := 6, locals := 90 } : Room) (va_Pc [.ref (ad 0), .int a0] (BX D ca ad base w)) (va_Qi post (Bp D ca ad) (AB base)) (vx_X (fun q : String × St => px q.1 q.2) (Bx D ca ad) (AB base)) 1 6 (AB base) := by
  refine vx_ofW (cc := cX4_pass) (maxL := 2) (ret := (some .int)) (by decide) rfl ?_
  intro p e s m args below meth c s₁ B hml hEx hv
  obtain ⟨rfl, ⟨hbs, hP, hK⟩, hXP⟩ := hv
  have hx := B.exec
  have hb := B.bytes
  have hr := B.returns
  have hts := atoms_spec (ws := wsX4_pass) B.pre
  have hown : s.vm.findClass RX4 = some m.cls := findClass_of_methodNamed B.named
  have hlocks := B.notSynchronized
  have in_X4 : ∀ w ∈ wsX40, w ∈ wsX4_pass := by decide +kernel
  have lk_44 := hts (.fieldLink RX4 44 "LockQuorum" "now" "I") (by decide +kernel)
  have hS : va_S (AB base) s.heap s.heap [] := va_S.rf
  have hB11 : ∀ (w : St), wpX4_pass_B11 a0 post px w → ∀ (H : Heap) (locs : List Loc), PA D ca ad w H → va_S (AB base) s.heap H locs → ∀ ls : Array Slot, lv_has ls 2 [] → W p l e (headSpec wsX4_pass ({ frames := 6, cells := 1, slots := 6, locals := 90 } : Room)).room s m ([Value.ref (ad 0), Value.int a0].toArray) below meth c H locs 0 0 (vx_MQ below (va_Qi post (Bp D ca ad) (AB base)) (vx_X (fun q : String × St => px q.1 q.2) (Bx D ca ad) (AB base)) ([Value.ref (ad 0), Value.int a0].toArray) s 1 6 (AB base)) (F0 m 11 ls []) := by
    intro w hw H locs hP hS ls hl
    obtain ⟨sa, hstr⟩ := hXP.2.2.2.1 (39, "ticks must be 1 to 60") (List.mem_of_getElem? (i := 0) rfl)
    exact vx_throwS (own := RX4) (cls := "java/lang/IllegalArgumentException") (names := ["java/lang/RuntimeException", "java/lang/Exception"]) hx hb hl9 hown (by decide +kernel) (by decide +kernel) (hts (.classLink RX4 37 "java/lang/IllegalArgumentException") (by decide +kernel)) (hts (.initialized "java/lang/IllegalArgumentException") (by decide +kernel)) hstr (vx_hat (L := vx_atS RX4 41 "java/lang/IllegalArgumentException" ["java/lang/RuntimeException", "java/lang/Exception"]) (B := [.castable "java/lang/IllegalArgumentException" "java/lang/IllegalArgumentException", .declares ⟨"java/lang/RuntimeException", "<init>", "(Ljava/lang/String;)V"⟩, .declares ⟨"java/lang/Exception", "<init>", "(Ljava/lang/String;)V"⟩, .declares ⟨"java/lang/Throwable", "<init>", "(Ljava/lang/String;)V"⟩]) (fun w hw => hts w ((by decide +kernel : ∀ w ∈ (vx_atS RX4 41 "java/lang/IllegalArgumentException" ["java/lang/RuntimeException", "java/lang/Exception"]).filter goodWord, w ∈ wsX4_pass) w hw)) (by decide +kernel) (vx_c (va_Nw.use rfl (hXP.2.2.1 (.castable "java/lang/IllegalArgumentException" "java/lang/IllegalArgumentException") (List.mem_of_getElem? (i := 0) rfl))) (vx_c (va_Nw.use rfl (hXP.2.2.1 (.declares ⟨"java/lang/RuntimeException", "<init>", "(Ljava/lang/String;)V"⟩) (List.mem_of_getElem? (i := 6) rfl))) (vx_c (va_Nw.use rfl (hXP.2.2.1 (.declares ⟨"java/lang/Exception", "<init>", "(Ljava/lang/String;)V"⟩) (List.mem_of_getElem? (i := 7) rfl))) (vx_c (va_Nw.use rfl (hXP.2.2.1 (.declares ⟨"java/lang/Throwable", "<init>", "(Ljava/lang/String;)V"⟩) (List.mem_of_getElem? (i := 8) rfl))) (vx_n)))))) (by decide +kernel) hXP.1 hXP.2.1 hS (hl.1.trans hml.symm) dX4_pass_11 dX4_pass_14 dX4_pass_15 dX4_pass_17 dX4_pass_20 (fun x hx => (hEx x hx).elim) (Nat.le_of_ble_eq_true rfl) (Nat.le_of_ble_eq_true rfl) (Nat.le_of_ble_eq_true rfl) (Nat.le_of_ble_eq_true rfl) hlocks (fun t ha hsz hk => ⟨("java/lang/IllegalArgumentException", w), hw, ⟨rfl, hP.kept (fun k q hq => hk q.1 (hP k q hq).lt)⟩, Nat.le_trans hS.1 hsz, fun q h1 h2 => (hk q (Nat.lt_of_lt_of_le h1 hS.1)).trans (hS.2.1 q h1 h2)⟩) hS.2.2 (Nat.le_of_ble_eq_true rfl) (Nat.le_of_ble_eq_true rfl)
  have hl := lv_entry ([.ref (ad 0), .int a0]) (n := 2) (Nat.le_of_ble_eq_true rfl)
  rw [lg_entry_eq]
  generalize (lg_sl ([.ref (ad 0), .int a0]) ++ List.replicate (2 - (lg_sl ([.ref (ad 0), .int a0])).length) Slot.unset).toArray = ls at hl ⊢
  have hl : lv_has ls 2 [(0, .ref (ad 0)), (1, .int a0)] := hl
  refine lv_iload_n hx hb dX4_pass_0 rfl (lv_at hl 1 rfl) ?_
  refine lv_iconst (v := 1) hx hb dX4_pass_1 (by decide) ?_
  refine lv_icmp_lt (tgt := 11) hx hb dX4_pass_2 (by decide) (fun c_1 => ?_) (fun c_1 => ?_)
  · have hw := hw.1 c_1
    exact hB11 w hw _ _ hP hS ls (lv_sub hl [] rfl)
  · have hw := hw.2 c_1
    refine lv_iload_n hx hb dX4_pass_5 rfl (lv_at hl 1 rfl) ?_
    refine lv_bipush (v := 60) hx hb dX4_pass_6 (by decide) ?_
    refine lv_icmp_le (tgt := 21) hx hb dX4_pass_8 (by decide) (fun c_2 => ?_) (fun c_2 => ?_)
    · have hw := hw.1 c_2
      refine lv_aload_n hx hb dX4_pass_21 rfl (lv_at hl 0 rfl) ?_
      refine lv_dup hx hb dX4_pass_22 rfl ?_
      refine va_get (D := D) (ci := 6) (v := .int (w.1 64 0)) (C := RX4) (T := TX4) (N := 6) hx hb hts in_X4 hown hK hP 0 (wg0 ca ad w) rfl 4 (by decide) lk_44 (fun _ h9 => h9) rfl dX4_pass_23 ?_
      refine lv_iload_n hx hb dX4_pass_26 rfl (lv_at hl 1 rfl) ?_
      refine lv_iadd hx hb dX4_pass_27 ?_
      refine va_put (D := D) (ci := 6) (v := .int ((w.1 64 0) + a0)) (ty := .int) (C := RX4) (T := TX4) (N := 6) hx hb hts in_X4 tyX4 tyX4_ok nmX4 hown hK hP (DA hAd) hS 0 (wg0 ca ad w) rfl 4 (by decide) lk_44 (fun _ h9 => h9) rfl (by decide +kernel) rfl rfl (Nat.le_of_ble_eq_true rfl) dX4_pass_28 (fun H locs hP hD hS => ?_)
      obtain ⟨w_3, e_4⟩ : ∃ z : St, z = (uI w 64 ((w.1 64 0) + a0)) := ⟨_, rfl⟩
      have hP : PA D ca ad w_3 H := by rw [e_4]; exact wf64 hP
      have hw := hw w_3 e_4
      refine lv_aload_n hx hb dX4_pass_31 rfl (lv_at hl 0 rfl) ?_
      refine va_get (D := D) (ci := 6) (v := .int (w_3.1 64 0)) (C := RX4) (T := TX4) (N := 6) hx hb hts in_X4 hown hK hP 0 (wg0 ca ad w_3) rfl 4 (by decide) lk_44 (fun _ h9 => h9) rfl dX4_pass_32 ?_
      refine W.widen (k := 1) (n := 6) (Nat.le_of_ble_eq_true rfl) (Nat.le_of_ble_eq_true rfl) ?_
      refine vx_ret ?_
      exact W.iret (v := (w_3.1 64 0)) hx hb hr (fun t ht hW => ⟨⟨(w_3.1 64 0), w_3, rfl, hw, by show PA D ca ad w_3 t.heap; rw [ht]; exact hP⟩, hS.F ht⟩) hS.2.2 dX4_pass_35
    · have hw := hw.2 c_2
      exact hB11 w hw _ _ hP hS ls (lv_sub hl [] rfl)
set_option maxHeartbeats 4000000 in
set_option maxRecDepth 100000 in
def wpX4_time (w : St) (post : Int32 → St → Prop) : Prop := post (w.1 64 0) w
set_option maxHeartbeats 4000000 in
set_option maxRecDepth 100000 in
theorem mX4_time (l : Launch) (D : va_G) (ca : Nat → ClassId) (ad : Nat → Nat) (base : Nat) (hAd : okA base ad) (w : St) (post : Int32 → St → Prop) (hw : wpX4_time w post) : Met l yX4_time wsX4_time ({ frames := 0, cells := 0, slots := 0, locals := 0 } : Room) (va_Pc [.ref (ad 0)] (BU D ca ad base w)) (va_Qi post (Bp D ca ad) (AB base)) 0 0 (AB base) := by
  refine Met.ofW (cc := cX4_time) (maxL := 1) (ret := (some .int)) (by decide) rfl ?_
  intro p e s m args below meth c s₁ B hml hv
  obtain ⟨rfl, hbs, hP, hK⟩ := hv
  have hx := B.exec
  have hb := B.bytes
  have hr := B.returns
  have hts := atoms_spec (ws := wsX4_time) B.pre
  have hown : s.vm.findClass RX4 = some m.cls := findClass_of_methodNamed B.named
  have hlocks := B.notSynchronized
  have in_X4 : ∀ w ∈ wsX40, w ∈ wsX4_time := by decide +kernel
  have lk_44 := hts (.fieldLink RX4 44 "LockQuorum" "now" "I") (by decide +kernel)
  have hS : va_S (AB base) s.heap s.heap [] := va_S.rf
  have hl := lv_entry ([.ref (ad 0)]) (n := 1) (Nat.le_of_ble_eq_true rfl)
  rw [lg_entry_eq]
  generalize (lg_sl ([.ref (ad 0)]) ++ List.replicate (1 - (lg_sl ([.ref (ad 0)])).length) Slot.unset).toArray = ls at hl ⊢
  have hl : lv_has ls 1 [(0, .ref (ad 0))] := hl
  refine lv_aload_n hx hb dX4_time_0 rfl (lv_at hl 0 rfl) ?_
  refine va_get (D := D) (ci := 6) (v := .int (w.1 64 0)) (C := RX4) (T := TX4) (N := 6) hx hb hts in_X4 hown hK hP 0 (wg0 ca ad w) rfl 4 (by decide) lk_44 (fun _ h9 => h9) rfl dX4_time_1 ?_
  exact W.iret (v := (w.1 64 0)) hx hb hr (fun t ht hW => ⟨⟨(w.1 64 0), w, rfl, hw, by show PA D ca ad w t.heap; rw [ht]; exact hP⟩, hS.F ht⟩) hS.2.2 dX4_time_4
set_option maxHeartbeats 4000000 in
set_option maxRecDepth 100000 in
def wpX4_checkMember_B9 (a0 : Int32) (post : St → Prop) (px : String → St → Prop) (w : St) : Prop := px "java/lang/IndexOutOfBoundsException" w
set_option maxHeartbeats 4000000 in
set_option maxRecDepth 100000 in
def wpX4_checkMember (a0 : Int32) (w : St) (post : St → Prop) (px : String → St → Prop) : Prop := (a0 < 0 → (wpX4_checkMember_B9 a0 post px w)) ∧ (¬ (a0 < 0) → ((a0 < 5 → (post w)) ∧ (¬ (a0 < 5) → (wpX4_checkMember_B9 a0 post px w))))
set_option maxHeartbeats 4000000 in
set_option maxRecDepth 100000 in
theorem mX4_checkMember (l : Launch) (D : va_G) (ca : Nat → ClassId) (ad : Nat → Nat) (base : Nat) (hAd : okA base ad) (w : St) (a0 : Int32) (post : St → Prop) (px : String → St → Prop) (hw : wpX4_checkMember a0 w post px) (hl9 : l.stackTraces = false) : vx_Met l yX4_checkMember wsX4_checkMember ({ frames := 6, cells := 1, slots := 6, locals := 90 } : Room) (va_Pc [.ref (ad 0), .int a0] (BX D ca ad base w)) (va_Qv post (Bp D ca ad) (AB base)) (vx_X (fun q : String × St => px q.1 q.2) (Bx D ca ad) (AB base)) 1 6 (AB base) := by
  refine vx_ofW (cc := cX4_checkMember) (maxL := 2) (ret := none) (by decide) rfl ?_
  intro p e s m args below meth c s₁ B hml hEx hv
  obtain ⟨rfl, ⟨hbs, hP, hK⟩, hXP⟩ := hv
  have hx := B.exec
  have hb := B.bytes
  have hr := B.returns
  have hts := atoms_spec (ws := wsX4_checkMember) B.pre
  have hown : s.vm.findClass RX4 = some m.cls := findClass_of_methodNamed B.named
  have hlocks := B.notSynchronized
  have hS : va_S (AB base) s.heap s.heap [] := va_S.rf
  have hB9 : ∀ (w : St), wpX4_checkMember_B9 a0 post px w → ∀ (H : Heap) (locs : List Loc), PA D ca ad w H → va_S (AB base) s.heap H locs → ∀ ls : Array Slot, lv_has ls 2 [] → W p l e (headSpec wsX4_checkMember ({ frames := 6, cells := 1, slots := 6, locals := 90 } : Room)).room s m ([Value.ref (ad 0), Value.int a0].toArray) below meth c H locs 0 0 (vx_MQ below (va_Qv post (Bp D ca ad) (AB base)) (vx_X (fun q : String × St => px q.1 q.2) (Bx D ca ad) (AB base)) ([Value.ref (ad 0), Value.int a0].toArray) s 1 6 (AB base)) (F0 m 9 ls []) := by
    intro w hw H locs hP hS ls hl
    obtain ⟨sa, hstr⟩ := hXP.2.2.2.1 (270, "no such member") (List.mem_of_getElem? (i := 14) rfl)
    exact vx_throwSW (own := RX4) (cls := "java/lang/IndexOutOfBoundsException") (names := ["java/lang/RuntimeException", "java/lang/Exception"]) hx hb hl9 hown (by decide +kernel) (by decide +kernel) (hts (.classLink RX4 268 "java/lang/IndexOutOfBoundsException") (by decide +kernel)) (hts (.initialized "java/lang/IndexOutOfBoundsException") (by decide +kernel)) hstr (vx_hat (L := vx_atS RX4 272 "java/lang/IndexOutOfBoundsException" ["java/lang/RuntimeException", "java/lang/Exception"]) (B := [.castable "java/lang/IndexOutOfBoundsException" "java/lang/IndexOutOfBoundsException", .declares ⟨"java/lang/RuntimeException", "<init>", "(Ljava/lang/String;)V"⟩, .declares ⟨"java/lang/Exception", "<init>", "(Ljava/lang/String;)V"⟩, .declares ⟨"java/lang/Throwable", "<init>", "(Ljava/lang/String;)V"⟩]) (fun w hw => hts w ((by decide +kernel : ∀ w ∈ (vx_atS RX4 272 "java/lang/IndexOutOfBoundsException" ["java/lang/RuntimeException", "java/lang/Exception"]).filter goodWord, w ∈ wsX4_checkMember) w hw)) (by decide +kernel) (vx_c (va_Nw.use rfl (hXP.2.2.1 (.castable "java/lang/IndexOutOfBoundsException" "java/lang/IndexOutOfBoundsException") (List.mem_of_getElem? (i := 1) rfl))) (vx_c (va_Nw.use rfl (hXP.2.2.1 (.declares ⟨"java/lang/RuntimeException", "<init>", "(Ljava/lang/String;)V"⟩) (List.mem_of_getElem? (i := 6) rfl))) (vx_c (va_Nw.use rfl (hXP.2.2.1 (.declares ⟨"java/lang/Exception", "<init>", "(Ljava/lang/String;)V"⟩) (List.mem_of_getElem? (i := 7) rfl))) (vx_c (va_Nw.use rfl (hXP.2.2.1 (.declares ⟨"java/lang/Throwable", "<init>", "(Ljava/lang/String;)V"⟩) (List.mem_of_getElem? (i := 8) rfl))) (vx_n)))))) (by decide +kernel) hXP.1 hXP.2.1 hS (hl.1.trans hml.symm) dX4_checkMember_9 dX4_checkMember_12 dX4_checkMember_13 dX4_checkMember_16 dX4_checkMember_19 (fun x hx => (hEx x hx).elim) (Nat.le_of_ble_eq_true rfl) (Nat.le_of_ble_eq_true rfl) (Nat.le_of_ble_eq_true rfl) (Nat.le_of_ble_eq_true rfl) hlocks (fun t ha hsz hk => ⟨("java/lang/IndexOutOfBoundsException", w), hw, ⟨rfl, hP.kept (fun k q hq => hk q.1 (hP k q hq).lt)⟩, Nat.le_trans hS.1 hsz, fun q h1 h2 => (hk q (Nat.lt_of_lt_of_le h1 hS.1)).trans (hS.2.1 q h1 h2)⟩) hS.2.2 (Nat.le_of_ble_eq_true rfl) (Nat.le_of_ble_eq_true rfl)
  have hl := lv_entry ([.ref (ad 0), .int a0]) (n := 2) (Nat.le_of_ble_eq_true rfl)
  rw [lg_entry_eq]
  generalize (lg_sl ([.ref (ad 0), .int a0]) ++ List.replicate (2 - (lg_sl ([.ref (ad 0), .int a0])).length) Slot.unset).toArray = ls at hl ⊢
  have hl : lv_has ls 2 [(0, .ref (ad 0)), (1, .int a0)] := hl
  refine lv_iload_n hx hb dX4_checkMember_0 rfl (lv_at hl 1 rfl) ?_
  refine lv_if_lt (tgt := 9) hx hb dX4_checkMember_1 (by decide) (fun c_1 => ?_) (fun c_1 => ?_)
  · have hw := hw.1 c_1
    exact hB9 w hw _ _ hP hS ls (lv_sub hl [] rfl)
  · have hw := hw.2 c_1
    refine lv_iload_n hx hb dX4_checkMember_4 rfl (lv_at hl 1 rfl) ?_
    refine lv_iconst (v := 5) hx hb dX4_checkMember_5 (by decide) ?_
    refine lv_icmp_lt (tgt := 20) hx hb dX4_checkMember_6 (by decide) (fun c_2 => ?_) (fun c_2 => ?_)
    · have hw := hw.1 c_2
      refine W.widen (k := 1) (n := 6) (Nat.le_of_ble_eq_true rfl) (Nat.le_of_ble_eq_true rfl) ?_
      refine vx_ret ?_
      exact W.vret hx hb hr (fun t ht hW => ⟨⟨w, rfl, hw, by show PA D ca ad w t.heap; rw [ht]; exact hP⟩, hS.F ht⟩) hS.2.2 dX4_checkMember_20
    · have hw := hw.2 c_2
      exact hB9 w hw _ _ hP hS ls (lv_sub hl [] rfl)
set_option maxHeartbeats 4000000 in
set_option maxRecDepth 100000 in
def wpX4_setDown (a0 : Int32) (a1 : Int32) (w : St) (post : Int32 → St → Prop) (px : String → St → Prop) : Prop := wpX4_checkMember a0 w (fun w_1 => (vp_in a0 5) ∧ ((vp_in a0 5) ∧ (∀ w_4 : St, w_4 = (uA w_1 2 (upd (w_1.1 2) (a0).toNatClampNeg (vp_nar .boolean a1))) → (narrow .boolean (.int (w_1.1 2 (a0).toNatClampNeg)) = .int (w_1.1 2 (a0).toNatClampNeg)) ∧ post (w_1.1 2 (a0).toNatClampNeg) w_4))) px
set_option maxHeartbeats 4000000 in
set_option maxRecDepth 100000 in
theorem mX4_setDown (l : Launch) (D : va_G) (ca : Nat → ClassId) (ad : Nat → Nat) (base : Nat) (hAd : okA base ad) (w : St) (a0 : Int32) (a1 : Int32) (post : Int32 → St → Prop) (px : String → St → Prop) (hw : wpX4_setDown a0 a1 w post px) (hl9 : l.stackTraces = false) : vx_Met l yX4_setDown wsX4_setDown ({ frames := 7, cells := 1, slots := 6, locals := 111 } : Room) (va_Pc [.ref (ad 0), .int a0, .int a1] (BX D ca ad base w)) (va_Qi post (Bp D ca ad) (AB base)) (vx_X (fun q : String × St => px q.1 q.2) (Bx D ca ad) (AB base)) 1 6 (AB base) := by
  refine vx_ofW (cc := cX4_setDown) (maxL := 4) (ret := (some .boolean)) (by decide) rfl ?_
  intro p e s m args below meth c s₁ B hml hEx hv
  obtain ⟨rfl, ⟨hbs, hP, hK⟩, hXP⟩ := hv
  have hx := B.exec
  have hb := B.bytes
  have hr := B.returns
  have hts := atoms_spec (ws := wsX4_setDown) B.pre
  have hown : s.vm.findClass RX4 = some m.cls := findClass_of_methodNamed B.named
  have hlocks := B.notSynchronized
  have in_X3 : ∀ w ∈ wsX30, w ∈ wsX4_setDown := by decide +kernel
  have in_X4 : ∀ w ∈ wsX40, w ∈ wsX4_setDown := by decide +kernel
  have lk_10 := hts (.fieldLink RX4 10 "LockQuorum" "members" "LLockQuorum$Members;") (by decide +kernel)
  have lk_52 := hts (.fieldLink RX4 52 "LockQuorum$Members" "down" "[Z") (by decide +kernel)
  have hS : va_S (AB base) s.heap s.heap [] := va_S.rf
  have hl := lv_entry ([.ref (ad 0), .int a0, .int a1]) (n := 4) (Nat.le_of_ble_eq_true rfl)
  rw [lg_entry_eq]
  generalize (lg_sl ([.ref (ad 0), .int a0, .int a1]) ++ List.replicate (4 - (lg_sl ([.ref (ad 0), .int a0, .int a1])).length) Slot.unset).toArray = ls at hl ⊢
  have hl : lv_has ls 4 [(0, .ref (ad 0)), (1, .int a0), (2, .int a1)] := hl
  refine lv_aload_n hx hb dX4_setDown_0 rfl (lv_at hl 0 rfl) ?_
  refine lv_iload_n hx hb dX4_setDown_1 rfl (lv_at hl 1 rfl) ?_
  refine vx_callv (vx_runV (As := [.int a0]) (rest := []) ⟨hx, hb, hml, hown, hts⟩ (mX4_checkMember l D ca ad base hAd w a0 _ _ hw hl9) (cwV 1 hts gX4_setDown_X4_checkMember rfl rfl rfl (by decide +kernel) ⟨Nat.le_of_ble_eq_true rfl, Nat.le_of_ble_eq_true rfl⟩) (pvx [.int a0] hK hXP hP hbs hS rfl (wg0 ca ad w)) rfl rfl hl.1 rfl (lv_room (Nat.le_of_ble_eq_true rfl)) dX4_setDown_2 ⟨Nat.le_of_ble_eq_true rfl, Nat.le_of_ble_eq_true rfl⟩) hS (fun q _ h => h) (fun q h => h) (fun q _ h => h) (fun E ce q9 u t H locs ht hvm hw hB hz1 hk1 hS hce hcv hcl => ?_) (fun w_1 t H locs ht hvm hw hP hz1 hk1 hS => ?_)
  · exact vx_out (E := E) (fun x hx => (hEx x hx).elim) hlocks hce hcv hcl (fun t9 ht9 ha9 => ⟨u, hw, ⟨hB.1, by show PA D ca ad u.2 t9.heap; rw [ht9, ← ht]; exact hB.2⟩, hS.F ht9⟩) hS.2.2 (Nat.le_of_ble_eq_true rfl) (Nat.le_of_ble_eq_true rfl)
  have hP : PA D ca ad w_1 H := by rw [← ht]; exact hP
  refine lv_aload_n hx hb dX4_setDown_5 rfl (lv_at hl 0 rfl) ?_
  refine va_get (D := D) (ci := 6) (v := .ref (ad 1)) (C := RX4) (T := TX4) (N := 6) hx hb hts in_X4 hown hK hP 0 (wg0 ca ad w_1) rfl 0 (by decide) lk_10 (fun _ h9 => h9) rfl dX4_setDown_6 ?_
  refine va_get (D := D) (ci := 5) (v := .ref (ad 2)) (C := RX3) (T := TX3) (N := 5) hx hb hts in_X3 hown hK hP 1 (wg1 ca ad w_1) rfl 0 (by decide) lk_52 (fun _ h9 => h9) rfl dX4_setDown_9 ?_
  refine lv_iload_n hx hb dX4_setDown_12 rfl (lv_at hl 1 rfl) ?_
  obtain ⟨h_2, hw⟩ := hw
  refine va_zald hx hb hK hP 2 1 (wg2 ca ad w_1) rfl h_2 dX4_setDown_13 ?_
  refine lv_istore_n (lv' := [(3, .int (w_1.1 2 (a0).toNatClampNeg)), (0, .ref (ad 0)), (1, .int a0), (2, .int a1)]) hx hb dX4_setDown_14 rfl hl (by decide) rfl (fun ls hl => ?_)
  refine lv_aload_n hx hb dX4_setDown_15 rfl (lv_at hl 1 rfl) ?_
  refine va_get (D := D) (ci := 6) (v := .ref (ad 1)) (C := RX4) (T := TX4) (N := 6) hx hb hts in_X4 hown hK hP 0 (wg0 ca ad w_1) rfl 0 (by decide) lk_10 (fun _ h9 => h9) rfl dX4_setDown_16 ?_
  refine va_get (D := D) (ci := 5) (v := .ref (ad 2)) (C := RX3) (T := TX3) (N := 5) hx hb hts in_X3 hown hK hP 1 (wg1 ca ad w_1) rfl 0 (by decide) lk_52 (fun _ h9 => h9) rfl dX4_setDown_19 ?_
  refine lv_iload_n hx hb dX4_setDown_22 rfl (lv_at hl 2 rfl) ?_
  refine lv_iload_n hx hb dX4_setDown_23 rfl (lv_at hl 3 rfl) ?_
  obtain ⟨h_3, hw⟩ := hw
  refine va_zast hx hb hK hP (DA hAd) hS 2 1 (wg2 ca ad w_1) rfl h_3 dX4_setDown_24 (fun H locs hP hD hS => ?_)
  obtain ⟨w_4, e_5⟩ : ∃ z : St, z = (uA w_1 2 (upd (w_1.1 2) (a0).toNatClampNeg (vp_nar .boolean a1))) := ⟨_, rfl⟩
  have hP : PA D ca ad w_4 H := by rw [e_5]; exact wu2 hP
  have hw := hw w_4 e_5
  refine lv_iload_n hx hb dX4_setDown_25 rfl (lv_at hl 0 rfl) ?_
  refine vx_ret ?_
  obtain ⟨hn9, hw⟩ := hw
  exact W.zret (v := (w_1.1 2 (a0).toNatClampNeg)) hx hb hr hn9 (fun t ht hW => ⟨⟨(w_1.1 2 (a0).toNatClampNeg), w_4, rfl, hw, by show PA D ca ad w_4 t.heap; rw [ht]; exact hP⟩, hS.F ht⟩) hS.2.2 dX4_setDown_26
set_option maxHeartbeats 4000000 in
set_option maxRecDepth 100000 in
def wpX4_setCut (a0 : Int32) (a1 : Int32) (a2 : Int32) (w : St) (post : Int32 → St → Prop) (px : String → St → Prop) : Prop := wpX4_checkMember a0 w (fun w_1 => wpX4_checkMember a1 w_1 (fun w_2 => (a0 = a1 → (px "java/lang/IllegalArgumentException" w_2)) ∧ (¬ (a0 = a1) → (wpX3_cutLink a0 a1 a2 w_2 (fun r_5 w_4 => (narrow .boolean (.int r_5) = .int r_5) ∧ post r_5 w_4)))) px) px
set_option maxHeartbeats 4000000 in
set_option maxRecDepth 100000 in
theorem mX4_setCut (l : Launch) (D : va_G) (ca : Nat → ClassId) (ad : Nat → Nat) (base : Nat) (hAd : okA base ad) (w : St) (a0 : Int32) (a1 : Int32) (a2 : Int32) (post : Int32 → St → Prop) (px : String → St → Prop) (hw : wpX4_setCut a0 a1 a2 w post px) (hl9 : l.stackTraces = false) : vx_Met l yX4_setCut wsX4_setCut ({ frames := 7, cells := 3, slots := 18, locals := 111 } : Room) (va_Pc [.ref (ad 0), .int a0, .int a1, .int a2] (BX D ca ad base w)) (va_Qi post (Bp D ca ad) (AB base)) (vx_X (fun q : String × St => px q.1 q.2) (Bx D ca ad) (AB base)) 3 18 (AB base) := by
  refine vx_ofW (cc := cX4_setCut) (maxL := 4) (ret := (some .boolean)) (by decide) rfl ?_
  intro p e s m args below meth c s₁ B hml hEx hv
  obtain ⟨rfl, ⟨hbs, hP, hK⟩, hXP⟩ := hv
  have hx := B.exec
  have hb := B.bytes
  have hr := B.returns
  have hts := atoms_spec (ws := wsX4_setCut) B.pre
  have hown : s.vm.findClass RX4 = some m.cls := findClass_of_methodNamed B.named
  have hlocks := B.notSynchronized
  have in_X4 : ∀ w ∈ wsX40, w ∈ wsX4_setCut := by decide +kernel
  have lk_10 := hts (.fieldLink RX4 10 "LockQuorum" "members" "LLockQuorum$Members;") (by decide +kernel)
  have hS : va_S (AB base) s.heap s.heap [] := va_S.rf
  have hl := lv_entry ([.ref (ad 0), .int a0, .int a1, .int a2]) (n := 4) (Nat.le_of_ble_eq_true rfl)
  rw [lg_entry_eq]
  generalize (lg_sl ([.ref (ad 0), .int a0, .int a1, .int a2]) ++ List.replicate (4 - (lg_sl ([.ref (ad 0), .int a0, .int a1, .int a2])).length) Slot.unset).toArray = ls at hl ⊢
  have hl : lv_has ls 4 [(0, .ref (ad 0)), (1, .int a0), (2, .int a1), (3, .int a2)] := hl
  refine lv_aload_n hx hb dX4_setCut_0 rfl (lv_at hl 0 rfl) ?_
  refine lv_iload_n hx hb dX4_setCut_1 rfl (lv_at hl 1 rfl) ?_
  refine vx_callv (vx_runV (As := [.int a0]) (rest := []) ⟨hx, hb, hml, hown, hts⟩ (mX4_checkMember l D ca ad base hAd w a0 _ _ hw hl9) (cwV 1 hts gX4_setCut_X4_checkMember rfl rfl rfl (by decide +kernel) ⟨Nat.le_of_ble_eq_true rfl, Nat.le_of_ble_eq_true rfl⟩) (pvx [.int a0] hK hXP hP hbs hS rfl (wg0 ca ad w)) rfl rfl hl.1 rfl (lv_room (Nat.le_of_ble_eq_true rfl)) dX4_setCut_2 ⟨Nat.le_of_ble_eq_true rfl, Nat.le_of_ble_eq_true rfl⟩) hS (fun q _ h => h) (fun q h => h) (fun q _ h => h) (fun E ce q9 u t H locs ht hvm hw hB hz1 hk1 hS hce hcv hcl => ?_) (fun w_1 t H locs ht hvm hw hP hz1 hk1 hS => ?_)
  · exact vx_out (E := E) (fun x hx => (hEx x hx).elim) hlocks hce hcv hcl (fun t9 ht9 ha9 => ⟨u, hw, ⟨hB.1, by show PA D ca ad u.2 t9.heap; rw [ht9, ← ht]; exact hB.2⟩, hS.F ht9⟩) hS.2.2 (Nat.le_of_ble_eq_true rfl) (Nat.le_of_ble_eq_true rfl)
  have hP : PA D ca ad w_1 H := by rw [← ht]; exact hP
  refine lv_aload_n hx hb dX4_setCut_5 rfl (lv_at hl 0 rfl) ?_
  refine lv_iload_n hx hb dX4_setCut_6 rfl (lv_at hl 2 rfl) ?_
  refine vx_callv (vx_runV (As := [.int a1]) (rest := []) ⟨hx, hb, hml, hown, hts⟩ (mX4_checkMember l D ca ad base hAd w_1 a1 _ _ hw hl9) (cwV 1 hts gX4_setCut_X4_checkMember rfl rfl rfl (by decide +kernel) ⟨Nat.le_of_ble_eq_true rfl, Nat.le_of_ble_eq_true rfl⟩) (pvx [.int a1] hK hXP hP hbs hS rfl (wg0 ca ad w_1)) rfl rfl hl.1 rfl (lv_room (Nat.le_of_ble_eq_true rfl)) dX4_setCut_7 ⟨Nat.le_of_ble_eq_true rfl, Nat.le_of_ble_eq_true rfl⟩) hS (fun q _ h => h) (fun q h => h) (fun q _ h => h) (fun E ce q9 u t H locs ht hvm hw hB hz1 hk1 hS hce hcv hcl => ?_) (fun w_2 t H locs ht hvm hw hP hz1 hk1 hS => ?_)
  · exact vx_out (E := E) (fun x hx => (hEx x hx).elim) hlocks hce hcv hcl (fun t9 ht9 ha9 => ⟨u, hw, ⟨hB.1, by show PA D ca ad u.2 t9.heap; rw [ht9, ← ht]; exact hB.2⟩, hS.F ht9⟩) hS.2.2 (Nat.le_of_ble_eq_true rfl) (Nat.le_of_ble_eq_true rfl)
  have hP : PA D ca ad w_2 H := by rw [← ht]; exact hP
  refine lv_iload_n hx hb dX4_setCut_10 rfl (lv_at hl 1 rfl) ?_
  refine lv_iload_n hx hb dX4_setCut_11 rfl (lv_at hl 2 rfl) ?_
  refine lv_icmp_ne (tgt := 25) hx hb dX4_setCut_12 (by decide) (fun c_3 => ?_) (fun c_3 => ?_)
  · have hw := hw.2 c_3
    refine lv_aload_n hx hb dX4_setCut_25 rfl (lv_at hl 0 rfl) ?_
    refine va_get (D := D) (ci := 6) (v := .ref (ad 1)) (C := RX4) (T := TX4) (N := 6) hx hb hts in_X4 hown hK hP 0 (wg0 ca ad w_2) rfl 0 (by decide) lk_10 (fun _ h9 => h9) rfl dX4_setCut_26 ?_
    refine lv_iload_n hx hb dX4_setCut_29 rfl (lv_at hl 1 rfl) ?_
    refine lv_iload_n hx hb dX4_setCut_30 rfl (lv_at hl 2 rfl) ?_
    refine lv_iload_n hx hb dX4_setCut_31 rfl (lv_at hl 3 rfl) ?_
    refine va_calli (va_runV (As := [.int a0, .int a1, .int a2]) (rest := []) ⟨hx, hb, hml, hown, hts⟩ (mX3_cutLink l D ca ad base hAd w_2 a0 a1 a2 _ hw) (cwV 3 hts gX4_setCut_X3_cutLink rfl rfl rfl (by decide +kernel) ⟨Nat.le_of_ble_eq_true rfl, Nat.le_of_ble_eq_true rfl⟩) (pv [.int a0, .int a1, .int a2] hK hP hbs hS rfl (wg1 ca ad w_2)) rfl rfl hl.1 rfl (lv_room (Nat.le_of_ble_eq_true rfl)) dX4_setCut_32 ⟨Nat.le_of_ble_eq_true rfl, Nat.le_of_ble_eq_true rfl⟩) hS (fun q _ h => h) (fun q h => h) (fun r_5 w_4 t H locs ht hvm hw hP hz1 hk1 hS => ?_)
    have hP : PA D ca ad w_4 H := by rw [← ht]; exact hP
    refine W.widen (k := 3) (n := 18) (Nat.le_of_ble_eq_true rfl) (Nat.le_of_ble_eq_true rfl) ?_
    refine vx_ret ?_
    obtain ⟨hn9, hw⟩ := hw
    exact W.zret (v := r_5) hx hb hr hn9 (fun t ht hW => ⟨⟨r_5, w_4, rfl, hw, by show PA D ca ad w_4 t.heap; rw [ht]; exact hP⟩, hS.F ht⟩) hS.2.2 dX4_setCut_35
  · have hw := hw.1 c_3
    obtain ⟨sa, hstr⟩ := hXP.2.2.2.1 (56, "a member has no link with itself") (List.mem_of_getElem? (i := 1) rfl)
    exact vx_throwS (own := RX4) (cls := "java/lang/IllegalArgumentException") (names := ["java/lang/RuntimeException", "java/lang/Exception"]) hx hb hl9 hown (by decide +kernel) (by decide +kernel) (hts (.classLink RX4 37 "java/lang/IllegalArgumentException") (by decide +kernel)) (hts (.initialized "java/lang/IllegalArgumentException") (by decide +kernel)) hstr (vx_hat (L := vx_atS RX4 41 "java/lang/IllegalArgumentException" ["java/lang/RuntimeException", "java/lang/Exception"]) (B := [.castable "java/lang/IllegalArgumentException" "java/lang/IllegalArgumentException", .declares ⟨"java/lang/RuntimeException", "<init>", "(Ljava/lang/String;)V"⟩, .declares ⟨"java/lang/Exception", "<init>", "(Ljava/lang/String;)V"⟩, .declares ⟨"java/lang/Throwable", "<init>", "(Ljava/lang/String;)V"⟩]) (fun w hw => hts w ((by decide +kernel : ∀ w ∈ (vx_atS RX4 41 "java/lang/IllegalArgumentException" ["java/lang/RuntimeException", "java/lang/Exception"]).filter goodWord, w ∈ wsX4_setCut) w hw)) (by decide +kernel) (vx_c (va_Nw.use rfl (hXP.2.2.1 (.castable "java/lang/IllegalArgumentException" "java/lang/IllegalArgumentException") (List.mem_of_getElem? (i := 0) rfl))) (vx_c (va_Nw.use rfl (hXP.2.2.1 (.declares ⟨"java/lang/RuntimeException", "<init>", "(Ljava/lang/String;)V"⟩) (List.mem_of_getElem? (i := 6) rfl))) (vx_c (va_Nw.use rfl (hXP.2.2.1 (.declares ⟨"java/lang/Exception", "<init>", "(Ljava/lang/String;)V"⟩) (List.mem_of_getElem? (i := 7) rfl))) (vx_c (va_Nw.use rfl (hXP.2.2.1 (.declares ⟨"java/lang/Throwable", "<init>", "(Ljava/lang/String;)V"⟩) (List.mem_of_getElem? (i := 8) rfl))) (vx_n)))))) (by decide +kernel) hXP.1 hXP.2.1 hS (hl.1.trans hml.symm) dX4_setCut_15 dX4_setCut_18 dX4_setCut_19 dX4_setCut_21 dX4_setCut_24 (fun x hx => (hEx x hx).elim) (Nat.le_of_ble_eq_true rfl) (Nat.le_of_ble_eq_true rfl) (Nat.le_of_ble_eq_true rfl) (Nat.le_of_ble_eq_true rfl) hlocks (fun t ha hsz hk => ⟨("java/lang/IllegalArgumentException", w_2), hw, ⟨rfl, hP.kept (fun k q hq => hk q.1 (hP k q hq).lt)⟩, Nat.le_trans hS.1 hsz, fun q h1 h2 => (hk q (Nat.lt_of_lt_of_le h1 hS.1)).trans (hS.2.1 q h1 h2)⟩) hS.2.2 (Nat.le_of_ble_eq_true rfl) (Nat.le_of_ble_eq_true rfl)
set_option maxHeartbeats 4000000 in
set_option maxRecDepth 100000 in
def wpX4_reached (a0 : Int32) (w : St) (post : Int32 → St → Prop) (px : String → St → Prop) : Prop := wpX4_checkMember a0 w (fun w_1 => wpX3_countReached a0 w_1 (fun r_3 w_2 => post r_3 w_2)) px
set_option maxHeartbeats 4000000 in
set_option maxRecDepth 100000 in
theorem mX4_reached (l : Launch) (D : va_G) (ca : Nat → ClassId) (ad : Nat → Nat) (base : Nat) (hAd : okA base ad) (w : St) (a0 : Int32) (post : Int32 → St → Prop) (px : String → St → Prop) (hw : wpX4_reached a0 w post px) (hl9 : l.stackTraces = false) : vx_Met l yX4_reached wsX4_reached ({ frames := 7, cells := 1, slots := 6, locals := 111 } : Room) (va_Pc [.ref (ad 0), .int a0] (BX D ca ad base w)) (va_Qi post (Bp D ca ad) (AB base)) (vx_X (fun q : String × St => px q.1 q.2) (Bx D ca ad) (AB base)) 1 6 (AB base) := by
  refine vx_ofW (cc := cX4_reached) (maxL := 2) (ret := (some .int)) (by decide) rfl ?_
  intro p e s m args below meth c s₁ B hml hEx hv
  obtain ⟨rfl, ⟨hbs, hP, hK⟩, hXP⟩ := hv
  have hx := B.exec
  have hb := B.bytes
  have hr := B.returns
  have hts := atoms_spec (ws := wsX4_reached) B.pre
  have hown : s.vm.findClass RX4 = some m.cls := findClass_of_methodNamed B.named
  have hlocks := B.notSynchronized
  have in_X4 : ∀ w ∈ wsX40, w ∈ wsX4_reached := by decide +kernel
  have lk_10 := hts (.fieldLink RX4 10 "LockQuorum" "members" "LLockQuorum$Members;") (by decide +kernel)
  have hS : va_S (AB base) s.heap s.heap [] := va_S.rf
  have hl := lv_entry ([.ref (ad 0), .int a0]) (n := 2) (Nat.le_of_ble_eq_true rfl)
  rw [lg_entry_eq]
  generalize (lg_sl ([.ref (ad 0), .int a0]) ++ List.replicate (2 - (lg_sl ([.ref (ad 0), .int a0])).length) Slot.unset).toArray = ls at hl ⊢
  have hl : lv_has ls 2 [(0, .ref (ad 0)), (1, .int a0)] := hl
  refine lv_aload_n hx hb dX4_reached_0 rfl (lv_at hl 0 rfl) ?_
  refine lv_iload_n hx hb dX4_reached_1 rfl (lv_at hl 1 rfl) ?_
  refine vx_callv (vx_runV (As := [.int a0]) (rest := []) ⟨hx, hb, hml, hown, hts⟩ (mX4_checkMember l D ca ad base hAd w a0 _ _ hw hl9) (cwV 1 hts gX4_reached_X4_checkMember rfl rfl rfl (by decide +kernel) ⟨Nat.le_of_ble_eq_true rfl, Nat.le_of_ble_eq_true rfl⟩) (pvx [.int a0] hK hXP hP hbs hS rfl (wg0 ca ad w)) rfl rfl hl.1 rfl (lv_room (Nat.le_of_ble_eq_true rfl)) dX4_reached_2 ⟨Nat.le_of_ble_eq_true rfl, Nat.le_of_ble_eq_true rfl⟩) hS (fun q _ h => h) (fun q h => h) (fun q _ h => h) (fun E ce q9 u t H locs ht hvm hw hB hz1 hk1 hS hce hcv hcl => ?_) (fun w_1 t H locs ht hvm hw hP hz1 hk1 hS => ?_)
  · exact vx_out (E := E) (fun x hx => (hEx x hx).elim) hlocks hce hcv hcl (fun t9 ht9 ha9 => ⟨u, hw, ⟨hB.1, by show PA D ca ad u.2 t9.heap; rw [ht9, ← ht]; exact hB.2⟩, hS.F ht9⟩) hS.2.2 (Nat.le_of_ble_eq_true rfl) (Nat.le_of_ble_eq_true rfl)
  have hP : PA D ca ad w_1 H := by rw [← ht]; exact hP
  refine lv_aload_n hx hb dX4_reached_5 rfl (lv_at hl 0 rfl) ?_
  refine va_get (D := D) (ci := 6) (v := .ref (ad 1)) (C := RX4) (T := TX4) (N := 6) hx hb hts in_X4 hown hK hP 0 (wg0 ca ad w_1) rfl 0 (by decide) lk_10 (fun _ h9 => h9) rfl dX4_reached_6 ?_
  refine lv_iload_n hx hb dX4_reached_9 rfl (lv_at hl 1 rfl) ?_
  refine va_calli (va_runV (As := [.int a0]) (rest := []) ⟨hx, hb, hml, hown, hts⟩ (mX3_countReached l D ca ad base hAd w_1 a0 _ hw) (cwV 1 hts gX4_reached_X3_countReached rfl rfl rfl (by decide +kernel) ⟨Nat.le_of_ble_eq_true rfl, Nat.le_of_ble_eq_true rfl⟩) (pv [.int a0] hK hP hbs hS rfl (wg1 ca ad w_1)) rfl rfl hl.1 rfl (lv_room (Nat.le_of_ble_eq_true rfl)) dX4_reached_10 ⟨Nat.le_of_ble_eq_true rfl, Nat.le_of_ble_eq_true rfl⟩) hS (fun q _ h => h) (fun q h => h) (fun r_3 w_2 t H locs ht hvm hw hP hz1 hk1 hS => ?_)
  have hP : PA D ca ad w_2 H := by rw [← ht]; exact hP
  refine vx_ret ?_
  exact W.iret (v := r_3) hx hb hr (fun t ht hW => ⟨⟨r_3, w_2, rfl, hw, by show PA D ca ad w_2 t.heap; rw [ht]; exact hP⟩, hS.F ht⟩) hS.2.2 dX4_reached_13
set_option maxHeartbeats 4000000 in
set_option maxRecDepth 100000 in
def wpX4_stand (a0 : Int32) (w : St) (post : Int32 → St → Prop) (px : String → St → Prop) : Prop := wpX4_checkMember a0 w (fun w_1 => (vp_in a0 5) ∧ (((w_1.1 2 (a0).toNatClampNeg) = 0 → (wpX3_holdVote a0 w_1 (fun r_5 w_4 => post r_5 w_4))) ∧ (¬ ((w_1.1 2 (a0).toNatClampNeg) = 0) → (px "java/lang/IllegalStateException" w_1)))) px
set_option maxHeartbeats 4000000 in
set_option maxRecDepth 100000 in
theorem mX4_stand (l : Launch) (D : va_G) (ca : Nat → ClassId) (ad : Nat → Nat) (base : Nat) (hAd : okA base ad) (w : St) (a0 : Int32) (post : Int32 → St → Prop) (px : String → St → Prop) (hw : wpX4_stand a0 w post px) (hl9 : l.stackTraces = false) : vx_Met l yX4_stand wsX4_stand ({ frames := 7, cells := 2, slots := 12, locals := 111 } : Room) (va_Pc [.ref (ad 0), .int a0] (BX D ca ad base w)) (va_Qi post (Bp D ca ad) (AB base)) (vx_X (fun q : String × St => px q.1 q.2) (Bx D ca ad) (AB base)) 2 12 (AB base) := by
  refine vx_ofW (cc := cX4_stand) (maxL := 2) (ret := (some .int)) (by decide) rfl ?_
  intro p e s m args below meth c s₁ B hml hEx hv
  obtain ⟨rfl, ⟨hbs, hP, hK⟩, hXP⟩ := hv
  have hx := B.exec
  have hb := B.bytes
  have hr := B.returns
  have hts := atoms_spec (ws := wsX4_stand) B.pre
  have hown : s.vm.findClass RX4 = some m.cls := findClass_of_methodNamed B.named
  have hlocks := B.notSynchronized
  have in_X3 : ∀ w ∈ wsX30, w ∈ wsX4_stand := by decide +kernel
  have in_X4 : ∀ w ∈ wsX40, w ∈ wsX4_stand := by decide +kernel
  have lk_10 := hts (.fieldLink RX4 10 "LockQuorum" "members" "LLockQuorum$Members;") (by decide +kernel)
  have lk_52 := hts (.fieldLink RX4 52 "LockQuorum$Members" "down" "[Z") (by decide +kernel)
  have hS : va_S (AB base) s.heap s.heap [] := va_S.rf
  have hl := lv_entry ([.ref (ad 0), .int a0]) (n := 2) (Nat.le_of_ble_eq_true rfl)
  rw [lg_entry_eq]
  generalize (lg_sl ([.ref (ad 0), .int a0]) ++ List.replicate (2 - (lg_sl ([.ref (ad 0), .int a0])).length) Slot.unset).toArray = ls at hl ⊢
  have hl : lv_has ls 2 [(0, .ref (ad 0)), (1, .int a0)] := hl
  refine lv_aload_n hx hb dX4_stand_0 rfl (lv_at hl 0 rfl) ?_
  refine lv_iload_n hx hb dX4_stand_1 rfl (lv_at hl 1 rfl) ?_
  refine vx_callv (vx_runV (As := [.int a0]) (rest := []) ⟨hx, hb, hml, hown, hts⟩ (mX4_checkMember l D ca ad base hAd w a0 _ _ hw hl9) (cwV 1 hts gX4_stand_X4_checkMember rfl rfl rfl (by decide +kernel) ⟨Nat.le_of_ble_eq_true rfl, Nat.le_of_ble_eq_true rfl⟩) (pvx [.int a0] hK hXP hP hbs hS rfl (wg0 ca ad w)) rfl rfl hl.1 rfl (lv_room (Nat.le_of_ble_eq_true rfl)) dX4_stand_2 ⟨Nat.le_of_ble_eq_true rfl, Nat.le_of_ble_eq_true rfl⟩) hS (fun q _ h => h) (fun q h => h) (fun q _ h => h) (fun E ce q9 u t H locs ht hvm hw hB hz1 hk1 hS hce hcv hcl => ?_) (fun w_1 t H locs ht hvm hw hP hz1 hk1 hS => ?_)
  · exact vx_out (E := E) (fun x hx => (hEx x hx).elim) hlocks hce hcv hcl (fun t9 ht9 ha9 => ⟨u, hw, ⟨hB.1, by show PA D ca ad u.2 t9.heap; rw [ht9, ← ht]; exact hB.2⟩, hS.F ht9⟩) hS.2.2 (Nat.le_of_ble_eq_true rfl) (Nat.le_of_ble_eq_true rfl)
  have hP : PA D ca ad w_1 H := by rw [← ht]; exact hP
  refine lv_aload_n hx hb dX4_stand_5 rfl (lv_at hl 0 rfl) ?_
  refine va_get (D := D) (ci := 6) (v := .ref (ad 1)) (C := RX4) (T := TX4) (N := 6) hx hb hts in_X4 hown hK hP 0 (wg0 ca ad w_1) rfl 0 (by decide) lk_10 (fun _ h9 => h9) rfl dX4_stand_6 ?_
  refine va_get (D := D) (ci := 5) (v := .ref (ad 2)) (C := RX3) (T := TX3) (N := 5) hx hb hts in_X3 hown hK hP 1 (wg1 ca ad w_1) rfl 0 (by decide) lk_52 (fun _ h9 => h9) rfl dX4_stand_9 ?_
  refine lv_iload_n hx hb dX4_stand_12 rfl (lv_at hl 1 rfl) ?_
  obtain ⟨h_2, hw⟩ := hw
  refine va_zald hx hb hK hP 2 1 (wg2 ca ad w_1) rfl h_2 dX4_stand_13 ?_
  refine lv_if_eq (tgt := 27) hx hb dX4_stand_14 (by decide) (fun c_3 => ?_) (fun c_3 => ?_)
  · have hw := hw.1 c_3
    refine lv_aload_n hx hb dX4_stand_27 rfl (lv_at hl 0 rfl) ?_
    refine va_get (D := D) (ci := 6) (v := .ref (ad 1)) (C := RX4) (T := TX4) (N := 6) hx hb hts in_X4 hown hK hP 0 (wg0 ca ad w_1) rfl 0 (by decide) lk_10 (fun _ h9 => h9) rfl dX4_stand_28 ?_
    refine lv_iload_n hx hb dX4_stand_31 rfl (lv_at hl 1 rfl) ?_
    refine va_calli (va_runV (As := [.int a0]) (rest := []) ⟨hx, hb, hml, hown, hts⟩ (mX3_holdVote l D ca ad base hAd w_1 a0 _ hw) (cwV 1 hts gX4_stand_X3_holdVote rfl rfl rfl (by decide +kernel) ⟨Nat.le_of_ble_eq_true rfl, Nat.le_of_ble_eq_true rfl⟩) (pv [.int a0] hK hP hbs hS rfl (wg1 ca ad w_1)) rfl rfl hl.1 rfl (lv_room (Nat.le_of_ble_eq_true rfl)) dX4_stand_32 ⟨Nat.le_of_ble_eq_true rfl, Nat.le_of_ble_eq_true rfl⟩) hS (fun q _ h => h) (fun q h => h) (fun r_5 w_4 t H locs ht hvm hw hP hz1 hk1 hS => ?_)
    have hP : PA D ca ad w_4 H := by rw [← ht]; exact hP
    refine W.widen (k := 2) (n := 12) (Nat.le_of_ble_eq_true rfl) (Nat.le_of_ble_eq_true rfl) ?_
    refine vx_ret ?_
    exact W.iret (v := r_5) hx hb hr (fun t ht hW => ⟨⟨r_5, w_4, rfl, hw, by show PA D ca ad w_4 t.heap; rw [ht]; exact hP⟩, hS.F ht⟩) hS.2.2 dX4_stand_35
  · have hw := hw.2 c_3
    obtain ⟨sa, hstr⟩ := hXP.2.2.2.1 (68, "the member is down") (List.mem_of_getElem? (i := 2) rfl)
    exact vx_throwS (own := RX4) (cls := "java/lang/IllegalStateException") (names := ["java/lang/RuntimeException", "java/lang/Exception"]) hx hb hl9 hown (by decide +kernel) (by decide +kernel) (hts (.classLink RX4 66 "java/lang/IllegalStateException") (by decide +kernel)) (hts (.initialized "java/lang/IllegalStateException") (by decide +kernel)) hstr (vx_hat (L := vx_atS RX4 70 "java/lang/IllegalStateException" ["java/lang/RuntimeException", "java/lang/Exception"]) (B := [.castable "java/lang/IllegalStateException" "java/lang/IllegalStateException", .declares ⟨"java/lang/RuntimeException", "<init>", "(Ljava/lang/String;)V"⟩, .declares ⟨"java/lang/Exception", "<init>", "(Ljava/lang/String;)V"⟩, .declares ⟨"java/lang/Throwable", "<init>", "(Ljava/lang/String;)V"⟩]) (fun w hw => hts w ((by decide +kernel : ∀ w ∈ (vx_atS RX4 70 "java/lang/IllegalStateException" ["java/lang/RuntimeException", "java/lang/Exception"]).filter goodWord, w ∈ wsX4_stand) w hw)) (by decide +kernel) (vx_c (va_Nw.use rfl (hXP.2.2.1 (.castable "java/lang/IllegalStateException" "java/lang/IllegalStateException") (List.mem_of_getElem? (i := 2) rfl))) (vx_c (va_Nw.use rfl (hXP.2.2.1 (.declares ⟨"java/lang/RuntimeException", "<init>", "(Ljava/lang/String;)V"⟩) (List.mem_of_getElem? (i := 6) rfl))) (vx_c (va_Nw.use rfl (hXP.2.2.1 (.declares ⟨"java/lang/Exception", "<init>", "(Ljava/lang/String;)V"⟩) (List.mem_of_getElem? (i := 7) rfl))) (vx_c (va_Nw.use rfl (hXP.2.2.1 (.declares ⟨"java/lang/Throwable", "<init>", "(Ljava/lang/String;)V"⟩) (List.mem_of_getElem? (i := 8) rfl))) (vx_n)))))) (by decide +kernel) hXP.1 hXP.2.1 hS (hl.1.trans hml.symm) dX4_stand_17 dX4_stand_20 dX4_stand_21 dX4_stand_23 dX4_stand_26 (fun x hx => (hEx x hx).elim) (Nat.le_of_ble_eq_true rfl) (Nat.le_of_ble_eq_true rfl) (Nat.le_of_ble_eq_true rfl) (Nat.le_of_ble_eq_true rfl) hlocks (fun t ha hsz hk => ⟨("java/lang/IllegalStateException", w_1), hw, ⟨rfl, hP.kept (fun k q hq => hk q.1 (hP k q hq).lt)⟩, Nat.le_trans hS.1 hsz, fun q h1 h2 => (hk q (Nat.lt_of_lt_of_le h1 hS.1)).trans (hS.2.1 q h1 h2)⟩) hS.2.2 (Nat.le_of_ble_eq_true rfl) (Nat.le_of_ble_eq_true rfl)
set_option maxHeartbeats 4000000 in
set_option maxRecDepth 100000 in
def wpX4_termOf (a0 : Int32) (w : St) (post : Int32 → St → Prop) (px : String → St → Prop) : Prop := wpX4_checkMember a0 w (fun w_1 => (vp_in a0 5) ∧ (post (w_1.1 3 (a0).toNatClampNeg) w_1)) px
set_option maxHeartbeats 4000000 in
set_option maxRecDepth 100000 in
theorem mX4_termOf (l : Launch) (D : va_G) (ca : Nat → ClassId) (ad : Nat → Nat) (base : Nat) (hAd : okA base ad) (w : St) (a0 : Int32) (post : Int32 → St → Prop) (px : String → St → Prop) (hw : wpX4_termOf a0 w post px) (hl9 : l.stackTraces = false) : vx_Met l yX4_termOf wsX4_termOf ({ frames := 7, cells := 1, slots := 6, locals := 111 } : Room) (va_Pc [.ref (ad 0), .int a0] (BX D ca ad base w)) (va_Qi post (Bp D ca ad) (AB base)) (vx_X (fun q : String × St => px q.1 q.2) (Bx D ca ad) (AB base)) 1 6 (AB base) := by
  refine vx_ofW (cc := cX4_termOf) (maxL := 2) (ret := (some .int)) (by decide) rfl ?_
  intro p e s m args below meth c s₁ B hml hEx hv
  obtain ⟨rfl, ⟨hbs, hP, hK⟩, hXP⟩ := hv
  have hx := B.exec
  have hb := B.bytes
  have hr := B.returns
  have hts := atoms_spec (ws := wsX4_termOf) B.pre
  have hown : s.vm.findClass RX4 = some m.cls := findClass_of_methodNamed B.named
  have hlocks := B.notSynchronized
  have in_X3 : ∀ w ∈ wsX30, w ∈ wsX4_termOf := by decide +kernel
  have in_X4 : ∀ w ∈ wsX40, w ∈ wsX4_termOf := by decide +kernel
  have lk_10 := hts (.fieldLink RX4 10 "LockQuorum" "members" "LLockQuorum$Members;") (by decide +kernel)
  have lk_74 := hts (.fieldLink RX4 74 "LockQuorum$Members" "term" "[I") (by decide +kernel)
  have hS : va_S (AB base) s.heap s.heap [] := va_S.rf
  have hl := lv_entry ([.ref (ad 0), .int a0]) (n := 2) (Nat.le_of_ble_eq_true rfl)
  rw [lg_entry_eq]
  generalize (lg_sl ([.ref (ad 0), .int a0]) ++ List.replicate (2 - (lg_sl ([.ref (ad 0), .int a0])).length) Slot.unset).toArray = ls at hl ⊢
  have hl : lv_has ls 2 [(0, .ref (ad 0)), (1, .int a0)] := hl
  refine lv_aload_n hx hb dX4_termOf_0 rfl (lv_at hl 0 rfl) ?_
  refine lv_iload_n hx hb dX4_termOf_1 rfl (lv_at hl 1 rfl) ?_
  refine vx_callv (vx_runV (As := [.int a0]) (rest := []) ⟨hx, hb, hml, hown, hts⟩ (mX4_checkMember l D ca ad base hAd w a0 _ _ hw hl9) (cwV 1 hts gX4_termOf_X4_checkMember rfl rfl rfl (by decide +kernel) ⟨Nat.le_of_ble_eq_true rfl, Nat.le_of_ble_eq_true rfl⟩) (pvx [.int a0] hK hXP hP hbs hS rfl (wg0 ca ad w)) rfl rfl hl.1 rfl (lv_room (Nat.le_of_ble_eq_true rfl)) dX4_termOf_2 ⟨Nat.le_of_ble_eq_true rfl, Nat.le_of_ble_eq_true rfl⟩) hS (fun q _ h => h) (fun q h => h) (fun q _ h => h) (fun E ce q9 u t H locs ht hvm hw hB hz1 hk1 hS hce hcv hcl => ?_) (fun w_1 t H locs ht hvm hw hP hz1 hk1 hS => ?_)
  · exact vx_out (E := E) (fun x hx => (hEx x hx).elim) hlocks hce hcv hcl (fun t9 ht9 ha9 => ⟨u, hw, ⟨hB.1, by show PA D ca ad u.2 t9.heap; rw [ht9, ← ht]; exact hB.2⟩, hS.F ht9⟩) hS.2.2 (Nat.le_of_ble_eq_true rfl) (Nat.le_of_ble_eq_true rfl)
  have hP : PA D ca ad w_1 H := by rw [← ht]; exact hP
  refine lv_aload_n hx hb dX4_termOf_5 rfl (lv_at hl 0 rfl) ?_
  refine va_get (D := D) (ci := 6) (v := .ref (ad 1)) (C := RX4) (T := TX4) (N := 6) hx hb hts in_X4 hown hK hP 0 (wg0 ca ad w_1) rfl 0 (by decide) lk_10 (fun _ h9 => h9) rfl dX4_termOf_6 ?_
  refine va_get (D := D) (ci := 5) (v := .ref (ad 3)) (C := RX3) (T := TX3) (N := 5) hx hb hts in_X3 hown hK hP 1 (wg1 ca ad w_1) rfl 1 (by decide) lk_74 (fun _ h9 => h9) rfl dX4_termOf_9 ?_
  refine lv_iload_n hx hb dX4_termOf_12 rfl (lv_at hl 1 rfl) ?_
  obtain ⟨h_2, hw⟩ := hw
  refine va_iald hx hb hK hP 3 0 (wg3 ca ad w_1) rfl h_2 dX4_termOf_13 ?_
  refine vx_ret ?_
  exact W.iret (v := (w_1.1 3 (a0).toNatClampNeg)) hx hb hr (fun t ht hW => ⟨⟨(w_1.1 3 (a0).toNatClampNeg), w_1, rfl, hw, by show PA D ca ad w_1 t.heap; rw [ht]; exact hP⟩, hS.F ht⟩) hS.2.2 dX4_termOf_14
set_option maxHeartbeats 4000000 in
set_option maxRecDepth 100000 in
def wpX4_isLeader (a0 : Int32) (w : St) (post : Int32 → St → Prop) (px : String → St → Prop) : Prop := wpX4_checkMember a0 w (fun w_1 => wpX3_leads a0 w_1 (fun r_3 w_2 => (narrow .boolean (.int r_3) = .int r_3) ∧ post r_3 w_2)) px
set_option maxHeartbeats 4000000 in
set_option maxRecDepth 100000 in
theorem mX4_isLeader (l : Launch) (D : va_G) (ca : Nat → ClassId) (ad : Nat → Nat) (base : Nat) (hAd : okA base ad) (w : St) (a0 : Int32) (post : Int32 → St → Prop) (px : String → St → Prop) (hw : wpX4_isLeader a0 w post px) (hl9 : l.stackTraces = false) : vx_Met l yX4_isLeader wsX4_isLeader ({ frames := 7, cells := 1, slots := 6, locals := 111 } : Room) (va_Pc [.ref (ad 0), .int a0] (BX D ca ad base w)) (va_Qi post (Bp D ca ad) (AB base)) (vx_X (fun q : String × St => px q.1 q.2) (Bx D ca ad) (AB base)) 1 6 (AB base) := by
  refine vx_ofW (cc := cX4_isLeader) (maxL := 2) (ret := (some .boolean)) (by decide) rfl ?_
  intro p e s m args below meth c s₁ B hml hEx hv
  obtain ⟨rfl, ⟨hbs, hP, hK⟩, hXP⟩ := hv
  have hx := B.exec
  have hb := B.bytes
  have hr := B.returns
  have hts := atoms_spec (ws := wsX4_isLeader) B.pre
  have hown : s.vm.findClass RX4 = some m.cls := findClass_of_methodNamed B.named
  have hlocks := B.notSynchronized
  have in_X4 : ∀ w ∈ wsX40, w ∈ wsX4_isLeader := by decide +kernel
  have lk_10 := hts (.fieldLink RX4 10 "LockQuorum" "members" "LLockQuorum$Members;") (by decide +kernel)
  have hS : va_S (AB base) s.heap s.heap [] := va_S.rf
  have hl := lv_entry ([.ref (ad 0), .int a0]) (n := 2) (Nat.le_of_ble_eq_true rfl)
  rw [lg_entry_eq]
  generalize (lg_sl ([.ref (ad 0), .int a0]) ++ List.replicate (2 - (lg_sl ([.ref (ad 0), .int a0])).length) Slot.unset).toArray = ls at hl ⊢
  have hl : lv_has ls 2 [(0, .ref (ad 0)), (1, .int a0)] := hl
  refine lv_aload_n hx hb dX4_isLeader_0 rfl (lv_at hl 0 rfl) ?_
  refine lv_iload_n hx hb dX4_isLeader_1 rfl (lv_at hl 1 rfl) ?_
  refine vx_callv (vx_runV (As := [.int a0]) (rest := []) ⟨hx, hb, hml, hown, hts⟩ (mX4_checkMember l D ca ad base hAd w a0 _ _ hw hl9) (cwV 1 hts gX4_isLeader_X4_checkMember rfl rfl rfl (by decide +kernel) ⟨Nat.le_of_ble_eq_true rfl, Nat.le_of_ble_eq_true rfl⟩) (pvx [.int a0] hK hXP hP hbs hS rfl (wg0 ca ad w)) rfl rfl hl.1 rfl (lv_room (Nat.le_of_ble_eq_true rfl)) dX4_isLeader_2 ⟨Nat.le_of_ble_eq_true rfl, Nat.le_of_ble_eq_true rfl⟩) hS (fun q _ h => h) (fun q h => h) (fun q _ h => h) (fun E ce q9 u t H locs ht hvm hw hB hz1 hk1 hS hce hcv hcl => ?_) (fun w_1 t H locs ht hvm hw hP hz1 hk1 hS => ?_)
  · exact vx_out (E := E) (fun x hx => (hEx x hx).elim) hlocks hce hcv hcl (fun t9 ht9 ha9 => ⟨u, hw, ⟨hB.1, by show PA D ca ad u.2 t9.heap; rw [ht9, ← ht]; exact hB.2⟩, hS.F ht9⟩) hS.2.2 (Nat.le_of_ble_eq_true rfl) (Nat.le_of_ble_eq_true rfl)
  have hP : PA D ca ad w_1 H := by rw [← ht]; exact hP
  refine lv_aload_n hx hb dX4_isLeader_5 rfl (lv_at hl 0 rfl) ?_
  refine va_get (D := D) (ci := 6) (v := .ref (ad 1)) (C := RX4) (T := TX4) (N := 6) hx hb hts in_X4 hown hK hP 0 (wg0 ca ad w_1) rfl 0 (by decide) lk_10 (fun _ h9 => h9) rfl dX4_isLeader_6 ?_
  refine lv_iload_n hx hb dX4_isLeader_9 rfl (lv_at hl 1 rfl) ?_
  refine va_calli (va_runV (As := [.int a0]) (rest := []) ⟨hx, hb, hml, hown, hts⟩ (mX3_leads l D ca ad base hAd w_1 a0 _ hw) (cwV 1 hts gX4_isLeader_X3_leads rfl rfl rfl (by decide +kernel) ⟨Nat.le_of_ble_eq_true rfl, Nat.le_of_ble_eq_true rfl⟩) (pv [.int a0] hK hP hbs hS rfl (wg1 ca ad w_1)) rfl rfl hl.1 rfl (lv_room (Nat.le_of_ble_eq_true rfl)) dX4_isLeader_10 ⟨Nat.le_of_ble_eq_true rfl, Nat.le_of_ble_eq_true rfl⟩) hS (fun q _ h => h) (fun q h => h) (fun r_3 w_2 t H locs ht hvm hw hP hz1 hk1 hS => ?_)
  have hP : PA D ca ad w_2 H := by rw [← ht]; exact hP
  refine vx_ret ?_
  obtain ⟨hn9, hw⟩ := hw
  exact W.zret (v := r_3) hx hb hr hn9 (fun t ht hW => ⟨⟨r_3, w_2, rfl, hw, by show PA D ca ad w_2 t.heap; rw [ht]; exact hP⟩, hS.F ht⟩) hS.2.2 dX4_isLeader_13
set_option maxHeartbeats 4000000 in
set_option maxRecDepth 100000 in
def wpX4_leaderOf (a0 : Int32) (w : St) (post : Int32 → St → Prop) (px : String → St → Prop) : Prop := wpX3_winnerOf a0 w (fun r_2 w_1 => (r_2 = (-1) → (px "java/util/NoSuchElementException" w_1)) ∧ (¬ (r_2 = (-1)) → (post r_2 w_1)))
set_option maxHeartbeats 4000000 in
set_option maxRecDepth 100000 in
theorem mX4_leaderOf (l : Launch) (D : va_G) (ca : Nat → ClassId) (ad : Nat → Nat) (base : Nat) (hAd : okA base ad) (w : St) (a0 : Int32) (post : Int32 → St → Prop) (px : String → St → Prop) (hw : wpX4_leaderOf a0 w post px) (hl9 : l.stackTraces = false) : vx_Met l yX4_leaderOf wsX4_leaderOf ({ frames := 6, cells := 1, slots := 6, locals := 90 } : Room) (va_Pc [.ref (ad 0), .int a0] (BX D ca ad base w)) (va_Qi post (Bp D ca ad) (AB base)) (vx_X (fun q : String × St => px q.1 q.2) (Bx D ca ad) (AB base)) 1 6 (AB base) := by
  refine vx_ofW (cc := cX4_leaderOf) (maxL := 3) (ret := (some .int)) (by decide) rfl ?_
  intro p e s m args below meth c s₁ B hml hEx hv
  obtain ⟨rfl, ⟨hbs, hP, hK⟩, hXP⟩ := hv
  have hx := B.exec
  have hb := B.bytes
  have hr := B.returns
  have hts := atoms_spec (ws := wsX4_leaderOf) B.pre
  have hown : s.vm.findClass RX4 = some m.cls := findClass_of_methodNamed B.named
  have hlocks := B.notSynchronized
  have in_X4 : ∀ w ∈ wsX40, w ∈ wsX4_leaderOf := by decide +kernel
  have lk_10 := hts (.fieldLink RX4 10 "LockQuorum" "members" "LLockQuorum$Members;") (by decide +kernel)
  have hS : va_S (AB base) s.heap s.heap [] := va_S.rf
  have hl := lv_entry ([.ref (ad 0), .int a0]) (n := 3) (Nat.le_of_ble_eq_true rfl)
  rw [lg_entry_eq]
  generalize (lg_sl ([.ref (ad 0), .int a0]) ++ List.replicate (3 - (lg_sl ([.ref (ad 0), .int a0])).length) Slot.unset).toArray = ls at hl ⊢
  have hl : lv_has ls 3 [(0, .ref (ad 0)), (1, .int a0)] := hl
  refine lv_aload_n hx hb dX4_leaderOf_0 rfl (lv_at hl 0 rfl) ?_
  refine va_get (D := D) (ci := 6) (v := .ref (ad 1)) (C := RX4) (T := TX4) (N := 6) hx hb hts in_X4 hown hK hP 0 (wg0 ca ad w) rfl 0 (by decide) lk_10 (fun _ h9 => h9) rfl dX4_leaderOf_1 ?_
  refine lv_iload_n hx hb dX4_leaderOf_4 rfl (lv_at hl 1 rfl) ?_
  refine va_calli (va_runV (As := [.int a0]) (rest := []) ⟨hx, hb, hml, hown, hts⟩ (mX3_winnerOf l D ca ad base hAd w a0 _ hw) (cwV 1 hts gX4_leaderOf_X3_winnerOf rfl rfl rfl (by decide +kernel) ⟨Nat.le_of_ble_eq_true rfl, Nat.le_of_ble_eq_true rfl⟩) (pv [.int a0] hK hP hbs hS rfl (wg1 ca ad w)) rfl rfl hl.1 rfl (lv_room (Nat.le_of_ble_eq_true rfl)) dX4_leaderOf_5 ⟨Nat.le_of_ble_eq_true rfl, Nat.le_of_ble_eq_true rfl⟩) hS (fun q _ h => h) (fun q h => h) (fun r_2 w_1 t H locs ht hvm hw hP hz1 hk1 hS => ?_)
  have hP : PA D ca ad w_1 H := by rw [← ht]; exact hP
  refine lv_istore_n (lv' := [(2, .int r_2), (0, .ref (ad 0)), (1, .int a0)]) hx hb dX4_leaderOf_8 rfl hl (by decide) rfl (fun ls hl => ?_)
  refine lv_iload_n hx hb dX4_leaderOf_9 rfl (lv_at hl 0 rfl) ?_
  refine lv_iconst (v := (-1)) hx hb dX4_leaderOf_10 (by decide) ?_
  refine lv_icmp_ne (tgt := 24) hx hb dX4_leaderOf_11 (by decide) (fun c_3 => ?_) (fun c_3 => ?_)
  · have hw := hw.2 c_3
    refine lv_iload_n hx hb dX4_leaderOf_24 rfl (lv_at hl 0 rfl) ?_
    refine W.widen (k := 1) (n := 6) (Nat.le_of_ble_eq_true rfl) (Nat.le_of_ble_eq_true rfl) ?_
    refine vx_ret ?_
    exact W.iret (v := r_2) hx hb hr (fun t ht hW => ⟨⟨r_2, w_1, rfl, hw, by show PA D ca ad w_1 t.heap; rw [ht]; exact hP⟩, hS.F ht⟩) hS.2.2 dX4_leaderOf_25
  · have hw := hw.1 c_3
    obtain ⟨sa, hstr⟩ := hXP.2.2.2.1 (87, "no leader of this term") (List.mem_of_getElem? (i := 3) rfl)
    exact nx_throwS (own := RX4) (cls := "java/util/NoSuchElementException") (names := ["java/lang/RuntimeException", "java/lang/Exception"]) hx hb hl9 hown (by decide +kernel) (by decide +kernel) (hts (.classLink RX4 85 "java/util/NoSuchElementException") (by decide +kernel)) (hts (.initialized "java/util/NoSuchElementException") (by decide +kernel)) hstr (vx_hat (L := nx_at RX4 89 "java/util/NoSuchElementException" ["java/lang/RuntimeException", "java/lang/Exception"]) (B := [.castable "java/util/NoSuchElementException" "java/util/NoSuchElementException", .declares ⟨"java/lang/RuntimeException", "<init>", "(Ljava/lang/String;)V"⟩, .declares ⟨"java/lang/Exception", "<init>", "(Ljava/lang/String;)V"⟩, .declares ⟨"java/lang/Throwable", "<init>", "(Ljava/lang/String;)V"⟩]) (fun w hw => hts w ((by decide +kernel : ∀ w ∈ (nx_at RX4 89 "java/util/NoSuchElementException" ["java/lang/RuntimeException", "java/lang/Exception"]).filter goodWord, w ∈ wsX4_leaderOf) w hw)) (by decide +kernel) (vx_c (va_Nw.use rfl (hXP.2.2.1 (.castable "java/util/NoSuchElementException" "java/util/NoSuchElementException") (List.mem_of_getElem? (i := 3) rfl))) (vx_c (va_Nw.use rfl (hXP.2.2.1 (.declares ⟨"java/lang/RuntimeException", "<init>", "(Ljava/lang/String;)V"⟩) (List.mem_of_getElem? (i := 6) rfl))) (vx_c (va_Nw.use rfl (hXP.2.2.1 (.declares ⟨"java/lang/Exception", "<init>", "(Ljava/lang/String;)V"⟩) (List.mem_of_getElem? (i := 7) rfl))) (vx_c (va_Nw.use rfl (hXP.2.2.1 (.declares ⟨"java/lang/Throwable", "<init>", "(Ljava/lang/String;)V"⟩) (List.mem_of_getElem? (i := 8) rfl))) (vx_n)))))) (by decide +kernel) hXP.1 hXP.2.1 hS (hl.1.trans hml.symm) dX4_leaderOf_14 dX4_leaderOf_17 dX4_leaderOf_18 dX4_leaderOf_20 dX4_leaderOf_23 (fun x hx => (hEx x hx).elim) (Nat.le_of_ble_eq_true rfl) (Nat.le_of_ble_eq_true rfl) (Nat.le_of_ble_eq_true rfl) (Nat.le_of_ble_eq_true rfl) hlocks (fun t ha hsz hk => ⟨("java/util/NoSuchElementException", w_1), hw, ⟨rfl, hP.kept (fun k q hq => hk q.1 (hP k q hq).lt)⟩, Nat.le_trans hS.1 hsz, fun q h1 h2 => (hk q (Nat.lt_of_lt_of_le h1 hS.1)).trans (hS.2.1 q h1 h2)⟩) hS.2.2 (Nat.le_of_ble_eq_true rfl) (Nat.le_of_ble_eq_true rfl)
set_option maxHeartbeats 4000000 in
set_option maxRecDepth 100000 in
def wpX4_known (a0 : Int32) (w : St) (post : Int32 → St → Prop) (px : String → St → Prop) : Prop := wpX4_checkMember a0 w (fun w_1 => (vp_in a0 5) ∧ (post (w_1.1 4 (a0).toNatClampNeg) w_1)) px
set_option maxHeartbeats 4000000 in
set_option maxRecDepth 100000 in
theorem mX4_known (l : Launch) (D : va_G) (ca : Nat → ClassId) (ad : Nat → Nat) (base : Nat) (hAd : okA base ad) (w : St) (a0 : Int32) (post : Int32 → St → Prop) (px : String → St → Prop) (hw : wpX4_known a0 w post px) (hl9 : l.stackTraces = false) : vx_Met l yX4_known wsX4_known ({ frames := 7, cells := 1, slots := 6, locals := 111 } : Room) (va_Pc [.ref (ad 0), .int a0] (BX D ca ad base w)) (va_Qi post (Bp D ca ad) (AB base)) (vx_X (fun q : String × St => px q.1 q.2) (Bx D ca ad) (AB base)) 1 6 (AB base) := by
  refine vx_ofW (cc := cX4_known) (maxL := 2) (ret := (some .int)) (by decide) rfl ?_
  intro p e s m args below meth c s₁ B hml hEx hv
  obtain ⟨rfl, ⟨hbs, hP, hK⟩, hXP⟩ := hv
  have hx := B.exec
  have hb := B.bytes
  have hr := B.returns
  have hts := atoms_spec (ws := wsX4_known) B.pre
  have hown : s.vm.findClass RX4 = some m.cls := findClass_of_methodNamed B.named
  have hlocks := B.notSynchronized
  have in_X3 : ∀ w ∈ wsX30, w ∈ wsX4_known := by decide +kernel
  have in_X4 : ∀ w ∈ wsX40, w ∈ wsX4_known := by decide +kernel
  have lk_10 := hts (.fieldLink RX4 10 "LockQuorum" "members" "LLockQuorum$Members;") (by decide +kernel)
  have lk_90 := hts (.fieldLink RX4 90 "LockQuorum$Members" "known" "[I") (by decide +kernel)
  have hS : va_S (AB base) s.heap s.heap [] := va_S.rf
  have hl := lv_entry ([.ref (ad 0), .int a0]) (n := 2) (Nat.le_of_ble_eq_true rfl)
  rw [lg_entry_eq]
  generalize (lg_sl ([.ref (ad 0), .int a0]) ++ List.replicate (2 - (lg_sl ([.ref (ad 0), .int a0])).length) Slot.unset).toArray = ls at hl ⊢
  have hl : lv_has ls 2 [(0, .ref (ad 0)), (1, .int a0)] := hl
  refine lv_aload_n hx hb dX4_known_0 rfl (lv_at hl 0 rfl) ?_
  refine lv_iload_n hx hb dX4_known_1 rfl (lv_at hl 1 rfl) ?_
  refine vx_callv (vx_runV (As := [.int a0]) (rest := []) ⟨hx, hb, hml, hown, hts⟩ (mX4_checkMember l D ca ad base hAd w a0 _ _ hw hl9) (cwV 1 hts gX4_known_X4_checkMember rfl rfl rfl (by decide +kernel) ⟨Nat.le_of_ble_eq_true rfl, Nat.le_of_ble_eq_true rfl⟩) (pvx [.int a0] hK hXP hP hbs hS rfl (wg0 ca ad w)) rfl rfl hl.1 rfl (lv_room (Nat.le_of_ble_eq_true rfl)) dX4_known_2 ⟨Nat.le_of_ble_eq_true rfl, Nat.le_of_ble_eq_true rfl⟩) hS (fun q _ h => h) (fun q h => h) (fun q _ h => h) (fun E ce q9 u t H locs ht hvm hw hB hz1 hk1 hS hce hcv hcl => ?_) (fun w_1 t H locs ht hvm hw hP hz1 hk1 hS => ?_)
  · exact vx_out (E := E) (fun x hx => (hEx x hx).elim) hlocks hce hcv hcl (fun t9 ht9 ha9 => ⟨u, hw, ⟨hB.1, by show PA D ca ad u.2 t9.heap; rw [ht9, ← ht]; exact hB.2⟩, hS.F ht9⟩) hS.2.2 (Nat.le_of_ble_eq_true rfl) (Nat.le_of_ble_eq_true rfl)
  have hP : PA D ca ad w_1 H := by rw [← ht]; exact hP
  refine lv_aload_n hx hb dX4_known_5 rfl (lv_at hl 0 rfl) ?_
  refine va_get (D := D) (ci := 6) (v := .ref (ad 1)) (C := RX4) (T := TX4) (N := 6) hx hb hts in_X4 hown hK hP 0 (wg0 ca ad w_1) rfl 0 (by decide) lk_10 (fun _ h9 => h9) rfl dX4_known_6 ?_
  refine va_get (D := D) (ci := 5) (v := .ref (ad 4)) (C := RX3) (T := TX3) (N := 5) hx hb hts in_X3 hown hK hP 1 (wg1 ca ad w_1) rfl 2 (by decide) lk_90 (fun _ h9 => h9) rfl dX4_known_9 ?_
  refine lv_iload_n hx hb dX4_known_12 rfl (lv_at hl 1 rfl) ?_
  obtain ⟨h_2, hw⟩ := hw
  refine va_iald hx hb hK hP 4 0 (wg4 ca ad w_1) rfl h_2 dX4_known_13 ?_
  refine vx_ret ?_
  exact W.iret (v := (w_1.1 4 (a0).toNatClampNeg)) hx hb hr (fun t ht hW => ⟨⟨(w_1.1 4 (a0).toNatClampNeg), w_1, rfl, hw, by show PA D ca ad w_1 t.heap; rw [ht]; exact hP⟩, hS.F ht⟩) hS.2.2 dX4_known_14
set_option maxHeartbeats 4000000 in
set_option maxRecDepth 100000 in
def wpX4_checkLock_B9 (a0 : Int32) (post : St → Prop) (px : String → St → Prop) (w : St) : Prop := px "java/lang/IndexOutOfBoundsException" w
set_option maxHeartbeats 4000000 in
set_option maxRecDepth 100000 in
def wpX4_checkLock (a0 : Int32) (w : St) (post : St → Prop) (px : String → St → Prop) : Prop := (a0 < 0 → (wpX4_checkLock_B9 a0 post px w)) ∧ (¬ (a0 < 0) → ((a0 < 4 → (post w)) ∧ (¬ (a0 < 4) → (wpX4_checkLock_B9 a0 post px w))))
set_option maxHeartbeats 4000000 in
set_option maxRecDepth 100000 in
theorem mX4_checkLock (l : Launch) (D : va_G) (ca : Nat → ClassId) (ad : Nat → Nat) (base : Nat) (hAd : okA base ad) (w : St) (a0 : Int32) (post : St → Prop) (px : String → St → Prop) (hw : wpX4_checkLock a0 w post px) (hl9 : l.stackTraces = false) : vx_Met l yX4_checkLock wsX4_checkLock ({ frames := 6, cells := 1, slots := 6, locals := 90 } : Room) (va_Pc [.ref (ad 0), .int a0] (BX D ca ad base w)) (va_Qv post (Bp D ca ad) (AB base)) (vx_X (fun q : String × St => px q.1 q.2) (Bx D ca ad) (AB base)) 1 6 (AB base) := by
  refine vx_ofW (cc := cX4_checkLock) (maxL := 2) (ret := none) (by decide) rfl ?_
  intro p e s m args below meth c s₁ B hml hEx hv
  obtain ⟨rfl, ⟨hbs, hP, hK⟩, hXP⟩ := hv
  have hx := B.exec
  have hb := B.bytes
  have hr := B.returns
  have hts := atoms_spec (ws := wsX4_checkLock) B.pre
  have hown : s.vm.findClass RX4 = some m.cls := findClass_of_methodNamed B.named
  have hlocks := B.notSynchronized
  have hS : va_S (AB base) s.heap s.heap [] := va_S.rf
  have hB9 : ∀ (w : St), wpX4_checkLock_B9 a0 post px w → ∀ (H : Heap) (locs : List Loc), PA D ca ad w H → va_S (AB base) s.heap H locs → ∀ ls : Array Slot, lv_has ls 2 [] → W p l e (headSpec wsX4_checkLock ({ frames := 6, cells := 1, slots := 6, locals := 90 } : Room)).room s m ([Value.ref (ad 0), Value.int a0].toArray) below meth c H locs 0 0 (vx_MQ below (va_Qv post (Bp D ca ad) (AB base)) (vx_X (fun q : String × St => px q.1 q.2) (Bx D ca ad) (AB base)) ([Value.ref (ad 0), Value.int a0].toArray) s 1 6 (AB base)) (F0 m 9 ls []) := by
    intro w hw H locs hP hS ls hl
    obtain ⟨sa, hstr⟩ := hXP.2.2.2.1 (273, "no such lock") (List.mem_of_getElem? (i := 15) rfl)
    exact vx_throwSW (own := RX4) (cls := "java/lang/IndexOutOfBoundsException") (names := ["java/lang/RuntimeException", "java/lang/Exception"]) hx hb hl9 hown (by decide +kernel) (by decide +kernel) (hts (.classLink RX4 268 "java/lang/IndexOutOfBoundsException") (by decide +kernel)) (hts (.initialized "java/lang/IndexOutOfBoundsException") (by decide +kernel)) hstr (vx_hat (L := vx_atS RX4 272 "java/lang/IndexOutOfBoundsException" ["java/lang/RuntimeException", "java/lang/Exception"]) (B := [.castable "java/lang/IndexOutOfBoundsException" "java/lang/IndexOutOfBoundsException", .declares ⟨"java/lang/RuntimeException", "<init>", "(Ljava/lang/String;)V"⟩, .declares ⟨"java/lang/Exception", "<init>", "(Ljava/lang/String;)V"⟩, .declares ⟨"java/lang/Throwable", "<init>", "(Ljava/lang/String;)V"⟩]) (fun w hw => hts w ((by decide +kernel : ∀ w ∈ (vx_atS RX4 272 "java/lang/IndexOutOfBoundsException" ["java/lang/RuntimeException", "java/lang/Exception"]).filter goodWord, w ∈ wsX4_checkLock) w hw)) (by decide +kernel) (vx_c (va_Nw.use rfl (hXP.2.2.1 (.castable "java/lang/IndexOutOfBoundsException" "java/lang/IndexOutOfBoundsException") (List.mem_of_getElem? (i := 1) rfl))) (vx_c (va_Nw.use rfl (hXP.2.2.1 (.declares ⟨"java/lang/RuntimeException", "<init>", "(Ljava/lang/String;)V"⟩) (List.mem_of_getElem? (i := 6) rfl))) (vx_c (va_Nw.use rfl (hXP.2.2.1 (.declares ⟨"java/lang/Exception", "<init>", "(Ljava/lang/String;)V"⟩) (List.mem_of_getElem? (i := 7) rfl))) (vx_c (va_Nw.use rfl (hXP.2.2.1 (.declares ⟨"java/lang/Throwable", "<init>", "(Ljava/lang/String;)V"⟩) (List.mem_of_getElem? (i := 8) rfl))) (vx_n)))))) (by decide +kernel) hXP.1 hXP.2.1 hS (hl.1.trans hml.symm) dX4_checkLock_9 dX4_checkLock_12 dX4_checkLock_13 dX4_checkLock_16 dX4_checkLock_19 (fun x hx => (hEx x hx).elim) (Nat.le_of_ble_eq_true rfl) (Nat.le_of_ble_eq_true rfl) (Nat.le_of_ble_eq_true rfl) (Nat.le_of_ble_eq_true rfl) hlocks (fun t ha hsz hk => ⟨("java/lang/IndexOutOfBoundsException", w), hw, ⟨rfl, hP.kept (fun k q hq => hk q.1 (hP k q hq).lt)⟩, Nat.le_trans hS.1 hsz, fun q h1 h2 => (hk q (Nat.lt_of_lt_of_le h1 hS.1)).trans (hS.2.1 q h1 h2)⟩) hS.2.2 (Nat.le_of_ble_eq_true rfl) (Nat.le_of_ble_eq_true rfl)
  have hl := lv_entry ([.ref (ad 0), .int a0]) (n := 2) (Nat.le_of_ble_eq_true rfl)
  rw [lg_entry_eq]
  generalize (lg_sl ([.ref (ad 0), .int a0]) ++ List.replicate (2 - (lg_sl ([.ref (ad 0), .int a0])).length) Slot.unset).toArray = ls at hl ⊢
  have hl : lv_has ls 2 [(0, .ref (ad 0)), (1, .int a0)] := hl
  refine lv_iload_n hx hb dX4_checkLock_0 rfl (lv_at hl 1 rfl) ?_
  refine lv_if_lt (tgt := 9) hx hb dX4_checkLock_1 (by decide) (fun c_1 => ?_) (fun c_1 => ?_)
  · have hw := hw.1 c_1
    exact hB9 w hw _ _ hP hS ls (lv_sub hl [] rfl)
  · have hw := hw.2 c_1
    refine lv_iload_n hx hb dX4_checkLock_4 rfl (lv_at hl 1 rfl) ?_
    refine lv_iconst (v := 4) hx hb dX4_checkLock_5 (by decide) ?_
    refine lv_icmp_lt (tgt := 20) hx hb dX4_checkLock_6 (by decide) (fun c_2 => ?_) (fun c_2 => ?_)
    · have hw := hw.1 c_2
      refine W.widen (k := 1) (n := 6) (Nat.le_of_ble_eq_true rfl) (Nat.le_of_ble_eq_true rfl) ?_
      refine vx_ret ?_
      exact W.vret hx hb hr (fun t ht hW => ⟨⟨w, rfl, hw, by show PA D ca ad w t.heap; rw [ht]; exact hP⟩, hS.F ht⟩) hS.2.2 dX4_checkLock_20
    · have hw := hw.2 c_2
      exact hB9 w hw _ _ hP hS ls (lv_sub hl [] rfl)
set_option maxHeartbeats 4000000 in
set_option maxRecDepth 100000 in
def wpX4_ownerKnown (a0 : Int32) (a1 : Int32) (w : St) (post : Int32 → St → Prop) (px : String → St → Prop) : Prop := wpX4_checkMember a0 w (fun w_1 => wpX4_checkLock a1 w_1 (fun w_2 => (vp_in a0 5) ∧ (wpX2_ownerBy (w_2.1 4 (a0).toNatClampNeg) a1 w_2 (fun r_5 w_4 => (r_5 = (-1) → (px "java/util/NoSuchElementException" w_4)) ∧ (¬ (r_5 = (-1)) → (post r_5 w_4))))) px) px
set_option maxHeartbeats 4000000 in
set_option maxRecDepth 100000 in
theorem mX4_ownerKnown (l : Launch) (D : va_G) (ca : Nat → ClassId) (ad : Nat → Nat) (base : Nat) (hAd : okA base ad) (w : St) (a0 : Int32) (a1 : Int32) (post : Int32 → St → Prop) (px : String → St → Prop) (hw : wpX4_ownerKnown a0 a1 w post px) (hl9 : l.stackTraces = false) : vx_Met l yX4_ownerKnown wsX4_ownerKnown ({ frames := 7, cells := 3, slots := 18, locals := 111 } : Room) (va_Pc [.ref (ad 0), .int a0, .int a1] (BX D ca ad base w)) (va_Qi post (Bp D ca ad) (AB base)) (vx_X (fun q : String × St => px q.1 q.2) (Bx D ca ad) (AB base)) 3 18 (AB base) := by
  refine vx_ofW (cc := cX4_ownerKnown) (maxL := 4) (ret := (some .int)) (by decide) rfl ?_
  intro p e s m args below meth c s₁ B hml hEx hv
  obtain ⟨rfl, ⟨hbs, hP, hK⟩, hXP⟩ := hv
  have hx := B.exec
  have hb := B.bytes
  have hr := B.returns
  have hts := atoms_spec (ws := wsX4_ownerKnown) B.pre
  have hown : s.vm.findClass RX4 = some m.cls := findClass_of_methodNamed B.named
  have hlocks := B.notSynchronized
  have in_X3 : ∀ w ∈ wsX30, w ∈ wsX4_ownerKnown := by decide +kernel
  have in_X4 : ∀ w ∈ wsX40, w ∈ wsX4_ownerKnown := by decide +kernel
  have lk_10 := hts (.fieldLink RX4 10 "LockQuorum" "members" "LLockQuorum$Members;") (by decide +kernel)
  have lk_19 := hts (.fieldLink RX4 19 "LockQuorum" "log" "LLockQuorum$Log;") (by decide +kernel)
  have lk_90 := hts (.fieldLink RX4 90 "LockQuorum$Members" "known" "[I") (by decide +kernel)
  have hS : va_S (AB base) s.heap s.heap [] := va_S.rf
  have hl := lv_entry ([.ref (ad 0), .int a0, .int a1]) (n := 4) (Nat.le_of_ble_eq_true rfl)
  rw [lg_entry_eq]
  generalize (lg_sl ([.ref (ad 0), .int a0, .int a1]) ++ List.replicate (4 - (lg_sl ([.ref (ad 0), .int a0, .int a1])).length) Slot.unset).toArray = ls at hl ⊢
  have hl : lv_has ls 4 [(0, .ref (ad 0)), (1, .int a0), (2, .int a1)] := hl
  refine lv_aload_n hx hb dX4_ownerKnown_0 rfl (lv_at hl 0 rfl) ?_
  refine lv_iload_n hx hb dX4_ownerKnown_1 rfl (lv_at hl 1 rfl) ?_
  refine vx_callv (vx_runV (As := [.int a0]) (rest := []) ⟨hx, hb, hml, hown, hts⟩ (mX4_checkMember l D ca ad base hAd w a0 _ _ hw hl9) (cwV 1 hts gX4_ownerKnown_X4_checkMember rfl rfl rfl (by decide +kernel) ⟨Nat.le_of_ble_eq_true rfl, Nat.le_of_ble_eq_true rfl⟩) (pvx [.int a0] hK hXP hP hbs hS rfl (wg0 ca ad w)) rfl rfl hl.1 rfl (lv_room (Nat.le_of_ble_eq_true rfl)) dX4_ownerKnown_2 ⟨Nat.le_of_ble_eq_true rfl, Nat.le_of_ble_eq_true rfl⟩) hS (fun q _ h => h) (fun q h => h) (fun q _ h => h) (fun E ce q9 u t H locs ht hvm hw hB hz1 hk1 hS hce hcv hcl => ?_) (fun w_1 t H locs ht hvm hw hP hz1 hk1 hS => ?_)
  · exact vx_out (E := E) (fun x hx => (hEx x hx).elim) hlocks hce hcv hcl (fun t9 ht9 ha9 => ⟨u, hw, ⟨hB.1, by show PA D ca ad u.2 t9.heap; rw [ht9, ← ht]; exact hB.2⟩, hS.F ht9⟩) hS.2.2 (Nat.le_of_ble_eq_true rfl) (Nat.le_of_ble_eq_true rfl)
  have hP : PA D ca ad w_1 H := by rw [← ht]; exact hP
  refine lv_aload_n hx hb dX4_ownerKnown_5 rfl (lv_at hl 0 rfl) ?_
  refine lv_iload_n hx hb dX4_ownerKnown_6 rfl (lv_at hl 2 rfl) ?_
  refine vx_callv (vx_runV (As := [.int a1]) (rest := []) ⟨hx, hb, hml, hown, hts⟩ (mX4_checkLock l D ca ad base hAd w_1 a1 _ _ hw hl9) (cwV 1 hts gX4_ownerKnown_X4_checkLock rfl rfl rfl (by decide +kernel) ⟨Nat.le_of_ble_eq_true rfl, Nat.le_of_ble_eq_true rfl⟩) (pvx [.int a1] hK hXP hP hbs hS rfl (wg0 ca ad w_1)) rfl rfl hl.1 rfl (lv_room (Nat.le_of_ble_eq_true rfl)) dX4_ownerKnown_7 ⟨Nat.le_of_ble_eq_true rfl, Nat.le_of_ble_eq_true rfl⟩) hS (fun q _ h => h) (fun q h => h) (fun q _ h => h) (fun E ce q9 u t H locs ht hvm hw hB hz1 hk1 hS hce hcv hcl => ?_) (fun w_2 t H locs ht hvm hw hP hz1 hk1 hS => ?_)
  · exact vx_out (E := E) (fun x hx => (hEx x hx).elim) hlocks hce hcv hcl (fun t9 ht9 ha9 => ⟨u, hw, ⟨hB.1, by show PA D ca ad u.2 t9.heap; rw [ht9, ← ht]; exact hB.2⟩, hS.F ht9⟩) hS.2.2 (Nat.le_of_ble_eq_true rfl) (Nat.le_of_ble_eq_true rfl)
  have hP : PA D ca ad w_2 H := by rw [← ht]; exact hP
  refine lv_aload_n hx hb dX4_ownerKnown_10 rfl (lv_at hl 0 rfl) ?_
  refine va_get (D := D) (ci := 6) (v := .ref (ad 7)) (C := RX4) (T := TX4) (N := 6) hx hb hts in_X4 hown hK hP 0 (wg0 ca ad w_2) rfl 1 (by decide) lk_19 (fun _ h9 => h9) rfl dX4_ownerKnown_11 ?_
  refine lv_aload_n hx hb dX4_ownerKnown_14 rfl (lv_at hl 0 rfl) ?_
  refine va_get (D := D) (ci := 6) (v := .ref (ad 1)) (C := RX4) (T := TX4) (N := 6) hx hb hts in_X4 hown hK hP 0 (wg0 ca ad w_2) rfl 0 (by decide) lk_10 (fun _ h9 => h9) rfl dX4_ownerKnown_15 ?_
  refine va_get (D := D) (ci := 5) (v := .ref (ad 4)) (C := RX3) (T := TX3) (N := 5) hx hb hts in_X3 hown hK hP 1 (wg1 ca ad w_2) rfl 2 (by decide) lk_90 (fun _ h9 => h9) rfl dX4_ownerKnown_18 ?_
  refine lv_iload_n hx hb dX4_ownerKnown_21 rfl (lv_at hl 1 rfl) ?_
  obtain ⟨h_3, hw⟩ := hw
  refine va_iald hx hb hK hP 4 0 (wg4 ca ad w_2) rfl h_3 dX4_ownerKnown_22 ?_
  refine lv_iload_n hx hb dX4_ownerKnown_23 rfl (lv_at hl 2 rfl) ?_
  refine va_calli (va_runV (As := [.int (w_2.1 4 (a0).toNatClampNeg), .int a1]) (rest := []) ⟨hx, hb, hml, hown, hts⟩ (mX2_ownerBy l D ca ad base hAd w_2 (w_2.1 4 (a0).toNatClampNeg) a1 _ hw) (cwV 2 hts gX4_ownerKnown_X2_ownerBy rfl rfl rfl (by decide +kernel) ⟨Nat.le_of_ble_eq_true rfl, Nat.le_of_ble_eq_true rfl⟩) (pv [.int (w_2.1 4 (a0).toNatClampNeg), .int a1] hK hP hbs hS rfl (wg7 ca ad w_2)) rfl rfl hl.1 rfl (lv_room (Nat.le_of_ble_eq_true rfl)) dX4_ownerKnown_24 ⟨Nat.le_of_ble_eq_true rfl, Nat.le_of_ble_eq_true rfl⟩) hS (fun q _ h => h) (fun q h => h) (fun r_5 w_4 t H locs ht hvm hw hP hz1 hk1 hS => ?_)
  have hP : PA D ca ad w_4 H := by rw [← ht]; exact hP
  refine lv_istore_n (lv' := [(3, .int r_5), (0, .ref (ad 0)), (1, .int a0), (2, .int a1)]) hx hb dX4_ownerKnown_27 rfl hl (by decide) rfl (fun ls hl => ?_)
  refine lv_iload_n hx hb dX4_ownerKnown_28 rfl (lv_at hl 0 rfl) ?_
  refine lv_iconst (v := (-1)) hx hb dX4_ownerKnown_29 (by decide) ?_
  refine lv_icmp_ne (tgt := 43) hx hb dX4_ownerKnown_30 (by decide) (fun c_6 => ?_) (fun c_6 => ?_)
  · have hw := hw.2 c_6
    refine lv_iload_n hx hb dX4_ownerKnown_43 rfl (lv_at hl 0 rfl) ?_
    refine W.widen (k := 3) (n := 18) (Nat.le_of_ble_eq_true rfl) (Nat.le_of_ble_eq_true rfl) ?_
    refine vx_ret ?_
    exact W.iret (v := r_5) hx hb hr (fun t ht hW => ⟨⟨r_5, w_4, rfl, hw, by show PA D ca ad w_4 t.heap; rw [ht]; exact hP⟩, hS.F ht⟩) hS.2.2 dX4_ownerKnown_44
  · have hw := hw.1 c_6
    obtain ⟨sa, hstr⟩ := hXP.2.2.2.1 (100, "no owner by what the member knows") (List.mem_of_getElem? (i := 4) rfl)
    exact nx_throwS (own := RX4) (cls := "java/util/NoSuchElementException") (names := ["java/lang/RuntimeException", "java/lang/Exception"]) hx hb hl9 hown (by decide +kernel) (by decide +kernel) (hts (.classLink RX4 85 "java/util/NoSuchElementException") (by decide +kernel)) (hts (.initialized "java/util/NoSuchElementException") (by decide +kernel)) hstr (vx_hat (L := nx_at RX4 89 "java/util/NoSuchElementException" ["java/lang/RuntimeException", "java/lang/Exception"]) (B := [.castable "java/util/NoSuchElementException" "java/util/NoSuchElementException", .declares ⟨"java/lang/RuntimeException", "<init>", "(Ljava/lang/String;)V"⟩, .declares ⟨"java/lang/Exception", "<init>", "(Ljava/lang/String;)V"⟩, .declares ⟨"java/lang/Throwable", "<init>", "(Ljava/lang/String;)V"⟩]) (fun w hw => hts w ((by decide +kernel : ∀ w ∈ (nx_at RX4 89 "java/util/NoSuchElementException" ["java/lang/RuntimeException", "java/lang/Exception"]).filter goodWord, w ∈ wsX4_ownerKnown) w hw)) (by decide +kernel) (vx_c (va_Nw.use rfl (hXP.2.2.1 (.castable "java/util/NoSuchElementException" "java/util/NoSuchElementException") (List.mem_of_getElem? (i := 3) rfl))) (vx_c (va_Nw.use rfl (hXP.2.2.1 (.declares ⟨"java/lang/RuntimeException", "<init>", "(Ljava/lang/String;)V"⟩) (List.mem_of_getElem? (i := 6) rfl))) (vx_c (va_Nw.use rfl (hXP.2.2.1 (.declares ⟨"java/lang/Exception", "<init>", "(Ljava/lang/String;)V"⟩) (List.mem_of_getElem? (i := 7) rfl))) (vx_c (va_Nw.use rfl (hXP.2.2.1 (.declares ⟨"java/lang/Throwable", "<init>", "(Ljava/lang/String;)V"⟩) (List.mem_of_getElem? (i := 8) rfl))) (vx_n)))))) (by decide +kernel) hXP.1 hXP.2.1 hS (hl.1.trans hml.symm) dX4_ownerKnown_33 dX4_ownerKnown_36 dX4_ownerKnown_37 dX4_ownerKnown_39 dX4_ownerKnown_42 (fun x hx => (hEx x hx).elim) (Nat.le_of_ble_eq_true rfl) (Nat.le_of_ble_eq_true rfl) (Nat.le_of_ble_eq_true rfl) (Nat.le_of_ble_eq_true rfl) hlocks (fun t ha hsz hk => ⟨("java/util/NoSuchElementException", w_4), hw, ⟨rfl, hP.kept (fun k q hq => hk q.1 (hP k q hq).lt)⟩, Nat.le_trans hS.1 hsz, fun q h1 h2 => (hk q (Nat.lt_of_lt_of_le h1 hS.1)).trans (hS.2.1 q h1 h2)⟩) hS.2.2 (Nat.le_of_ble_eq_true rfl) (Nat.le_of_ble_eq_true rfl)
set_option maxHeartbeats 4000000 in
set_option maxRecDepth 100000 in
def wpX4_addClient (w : St) (post : Int32 → St → Prop) (px : String → St → Prop) : Prop := ((w.1 66 0) < 6 → (∀ w_2 : St, w_2 = (uI w 66 ((w.1 66 0) + 1)) → post (w.1 66 0) w_2)) ∧ (¬ ((w.1 66 0) < 6) → (px "java/lang/IllegalStateException" w))
set_option maxHeartbeats 4000000 in
set_option maxRecDepth 100000 in
theorem mX4_addClient (l : Launch) (D : va_G) (ca : Nat → ClassId) (ad : Nat → Nat) (base : Nat) (hAd : okA base ad) (w : St) (post : Int32 → St → Prop) (px : String → St → Prop) (hw : wpX4_addClient w post px) (hl9 : l.stackTraces = false) : vx_Met l yX4_addClient wsX4_addClient ({ frames := 6, cells := 1, slots := 6, locals := 90 } : Room) (va_Pc [.ref (ad 0)] (BX D ca ad base w)) (va_Qi post (Bp D ca ad) (AB base)) (vx_X (fun q : String × St => px q.1 q.2) (Bx D ca ad) (AB base)) 1 6 (AB base) := by
  refine vx_ofW (cc := cX4_addClient) (maxL := 2) (ret := (some .int)) (by decide) rfl ?_
  intro p e s m args below meth c s₁ B hml hEx hv
  obtain ⟨rfl, ⟨hbs, hP, hK⟩, hXP⟩ := hv
  have hx := B.exec
  have hb := B.bytes
  have hr := B.returns
  have hts := atoms_spec (ws := wsX4_addClient) B.pre
  have hown : s.vm.findClass RX4 = some m.cls := findClass_of_methodNamed B.named
  have hlocks := B.notSynchronized
  have in_X0 : ∀ w ∈ wsX00, w ∈ wsX4_addClient := by decide +kernel
  have in_X4 : ∀ w ∈ wsX40, w ∈ wsX4_addClient := by decide +kernel
  have lk_33 := hts (.fieldLink RX4 33 "LockQuorum" "clients" "LLockQuorum$Clients;") (by decide +kernel)
  have lk_102 := hts (.fieldLink RX4 102 "LockQuorum$Clients" "count" "I") (by decide +kernel)
  have hS : va_S (AB base) s.heap s.heap [] := va_S.rf
  have hl := lv_entry ([.ref (ad 0)]) (n := 2) (Nat.le_of_ble_eq_true rfl)
  rw [lg_entry_eq]
  generalize (lg_sl ([.ref (ad 0)]) ++ List.replicate (2 - (lg_sl ([.ref (ad 0)])).length) Slot.unset).toArray = ls at hl ⊢
  have hl : lv_has ls 2 [(0, .ref (ad 0))] := hl
  refine lv_aload_n hx hb dX4_addClient_0 rfl (lv_at hl 0 rfl) ?_
  refine va_get (D := D) (ci := 6) (v := .ref (ad 24)) (C := RX4) (T := TX4) (N := 6) hx hb hts in_X4 hown hK hP 0 (wg0 ca ad w) rfl 3 (by decide) lk_33 (fun _ h9 => h9) rfl dX4_addClient_1 ?_
  refine va_get (D := D) (ci := 2) (v := .int (w.1 66 0)) (C := RX0) (T := TX0) (N := 9) hx hb hts in_X0 hown hK hP 24 (wg24 ca ad w) rfl 0 (by decide) lk_102 (fun _ h9 => h9) rfl dX4_addClient_4 ?_
  refine lv_bipush (v := 6) hx hb dX4_addClient_7 (by decide) ?_
  refine lv_icmp_lt (tgt := 22) hx hb dX4_addClient_9 (by decide) (fun c_1 => ?_) (fun c_1 => ?_)
  · have hw := hw.1 c_1
    refine lv_aload_n hx hb dX4_addClient_22 rfl (lv_at hl 0 rfl) ?_
    refine va_get (D := D) (ci := 6) (v := .ref (ad 24)) (C := RX4) (T := TX4) (N := 6) hx hb hts in_X4 hown hK hP 0 (wg0 ca ad w) rfl 3 (by decide) lk_33 (fun _ h9 => h9) rfl dX4_addClient_23 ?_
    refine va_get (D := D) (ci := 2) (v := .int (w.1 66 0)) (C := RX0) (T := TX0) (N := 9) hx hb hts in_X0 hown hK hP 24 (wg24 ca ad w) rfl 0 (by decide) lk_102 (fun _ h9 => h9) rfl dX4_addClient_26 ?_
    refine lv_istore_n (lv' := [(1, .int (w.1 66 0)), (0, .ref (ad 0))]) hx hb dX4_addClient_29 rfl hl (by decide) rfl (fun ls hl => ?_)
    refine lv_aload_n hx hb dX4_addClient_30 rfl (lv_at hl 1 rfl) ?_
    refine va_get (D := D) (ci := 6) (v := .ref (ad 24)) (C := RX4) (T := TX4) (N := 6) hx hb hts in_X4 hown hK hP 0 (wg0 ca ad w) rfl 3 (by decide) lk_33 (fun _ h9 => h9) rfl dX4_addClient_31 ?_
    refine lv_dup hx hb dX4_addClient_34 rfl ?_
    refine va_get (D := D) (ci := 2) (v := .int (w.1 66 0)) (C := RX0) (T := TX0) (N := 9) hx hb hts in_X0 hown hK hP 24 (wg24 ca ad w) rfl 0 (by decide) lk_102 (fun _ h9 => h9) rfl dX4_addClient_35 ?_
    refine lv_iconst (v := 1) hx hb dX4_addClient_38 (by decide) ?_
    refine lv_iadd hx hb dX4_addClient_39 ?_
    refine va_put (D := D) (ci := 2) (v := .int ((w.1 66 0) + 1)) (ty := .int) (C := RX0) (T := TX0) (N := 9) hx hb hts in_X0 tyX0 tyX0_ok nmX0 hown hK hP (DA hAd) hS 24 (wg24 ca ad w) rfl 0 (by decide) lk_102 (fun _ h9 => h9) rfl (by decide +kernel) rfl rfl (Nat.le_of_ble_eq_true rfl) dX4_addClient_40 (fun H locs hP hD hS => ?_)
    obtain ⟨w_2, e_3⟩ : ∃ z : St, z = (uI w 66 ((w.1 66 0) + 1)) := ⟨_, rfl⟩
    have hP : PA D ca ad w_2 H := by rw [e_3]; exact wf66 hP
    have hw := hw w_2 e_3
    refine lv_iload_n hx hb dX4_addClient_43 rfl (lv_at hl 0 rfl) ?_
    refine W.widen (k := 1) (n := 6) (Nat.le_of_ble_eq_true rfl) (Nat.le_of_ble_eq_true rfl) ?_
    refine vx_ret ?_
    exact W.iret (v := (w.1 66 0)) hx hb hr (fun t ht hW => ⟨⟨(w.1 66 0), w_2, rfl, hw, by show PA D ca ad w_2 t.heap; rw [ht]; exact hP⟩, hS.F ht⟩) hS.2.2 dX4_addClient_44
  · have hw := hw.2 c_1
    obtain ⟨sa, hstr⟩ := hXP.2.2.2.1 (105, "there are 6 clients") (List.mem_of_getElem? (i := 5) rfl)
    exact vx_throwS (own := RX4) (cls := "java/lang/IllegalStateException") (names := ["java/lang/RuntimeException", "java/lang/Exception"]) hx hb hl9 hown (by decide +kernel) (by decide +kernel) (hts (.classLink RX4 66 "java/lang/IllegalStateException") (by decide +kernel)) (hts (.initialized "java/lang/IllegalStateException") (by decide +kernel)) hstr (vx_hat (L := vx_atS RX4 70 "java/lang/IllegalStateException" ["java/lang/RuntimeException", "java/lang/Exception"]) (B := [.castable "java/lang/IllegalStateException" "java/lang/IllegalStateException", .declares ⟨"java/lang/RuntimeException", "<init>", "(Ljava/lang/String;)V"⟩, .declares ⟨"java/lang/Exception", "<init>", "(Ljava/lang/String;)V"⟩, .declares ⟨"java/lang/Throwable", "<init>", "(Ljava/lang/String;)V"⟩]) (fun w hw => hts w ((by decide +kernel : ∀ w ∈ (vx_atS RX4 70 "java/lang/IllegalStateException" ["java/lang/RuntimeException", "java/lang/Exception"]).filter goodWord, w ∈ wsX4_addClient) w hw)) (by decide +kernel) (vx_c (va_Nw.use rfl (hXP.2.2.1 (.castable "java/lang/IllegalStateException" "java/lang/IllegalStateException") (List.mem_of_getElem? (i := 2) rfl))) (vx_c (va_Nw.use rfl (hXP.2.2.1 (.declares ⟨"java/lang/RuntimeException", "<init>", "(Ljava/lang/String;)V"⟩) (List.mem_of_getElem? (i := 6) rfl))) (vx_c (va_Nw.use rfl (hXP.2.2.1 (.declares ⟨"java/lang/Exception", "<init>", "(Ljava/lang/String;)V"⟩) (List.mem_of_getElem? (i := 7) rfl))) (vx_c (va_Nw.use rfl (hXP.2.2.1 (.declares ⟨"java/lang/Throwable", "<init>", "(Ljava/lang/String;)V"⟩) (List.mem_of_getElem? (i := 8) rfl))) (vx_n)))))) (by decide +kernel) hXP.1 hXP.2.1 hS (hl.1.trans hml.symm) dX4_addClient_12 dX4_addClient_15 dX4_addClient_16 dX4_addClient_18 dX4_addClient_21 (fun x hx => (hEx x hx).elim) (Nat.le_of_ble_eq_true rfl) (Nat.le_of_ble_eq_true rfl) (Nat.le_of_ble_eq_true rfl) (Nat.le_of_ble_eq_true rfl) hlocks (fun t ha hsz hk => ⟨("java/lang/IllegalStateException", w), hw, ⟨rfl, hP.kept (fun k q hq => hk q.1 (hP k q hq).lt)⟩, Nat.le_trans hS.1 hsz, fun q h1 h2 => (hk q (Nat.lt_of_lt_of_le h1 hS.1)).trans (hS.2.1 q h1 h2)⟩) hS.2.2 (Nat.le_of_ble_eq_true rfl) (Nat.le_of_ble_eq_true rfl)
set_option maxHeartbeats 4000000 in
set_option maxRecDepth 100000 in
def wpX4_checkClient_B15 (a0 : Int32) (post : St → Prop) (px : String → St → Prop) (w : St) : Prop := px "java/util/NoSuchElementException" w
set_option maxHeartbeats 4000000 in
set_option maxRecDepth 100000 in
def wpX4_checkClient (a0 : Int32) (w : St) (post : St → Prop) (px : String → St → Prop) : Prop := (a0 < 0 → (wpX4_checkClient_B15 a0 post px w)) ∧ (¬ (a0 < 0) → ((a0 < (w.1 66 0) → (post w)) ∧ (¬ (a0 < (w.1 66 0)) → (wpX4_checkClient_B15 a0 post px w))))
set_option maxHeartbeats 4000000 in
set_option maxRecDepth 100000 in
theorem mX4_checkClient (l : Launch) (D : va_G) (ca : Nat → ClassId) (ad : Nat → Nat) (base : Nat) (hAd : okA base ad) (w : St) (a0 : Int32) (post : St → Prop) (px : String → St → Prop) (hw : wpX4_checkClient a0 w post px) (hl9 : l.stackTraces = false) : vx_Met l yX4_checkClient wsX4_checkClient ({ frames := 6, cells := 1, slots := 6, locals := 90 } : Room) (va_Pc [.ref (ad 0), .int a0] (BX D ca ad base w)) (va_Qv post (Bp D ca ad) (AB base)) (vx_X (fun q : String × St => px q.1 q.2) (Bx D ca ad) (AB base)) 1 6 (AB base) := by
  refine vx_ofW (cc := cX4_checkClient) (maxL := 2) (ret := none) (by decide) rfl ?_
  intro p e s m args below meth c s₁ B hml hEx hv
  obtain ⟨rfl, ⟨hbs, hP, hK⟩, hXP⟩ := hv
  have hx := B.exec
  have hb := B.bytes
  have hr := B.returns
  have hts := atoms_spec (ws := wsX4_checkClient) B.pre
  have hown : s.vm.findClass RX4 = some m.cls := findClass_of_methodNamed B.named
  have hlocks := B.notSynchronized
  have in_X0 : ∀ w ∈ wsX00, w ∈ wsX4_checkClient := by decide +kernel
  have in_X4 : ∀ w ∈ wsX40, w ∈ wsX4_checkClient := by decide +kernel
  have lk_33 := hts (.fieldLink RX4 33 "LockQuorum" "clients" "LLockQuorum$Clients;") (by decide +kernel)
  have lk_102 := hts (.fieldLink RX4 102 "LockQuorum$Clients" "count" "I") (by decide +kernel)
  have hS : va_S (AB base) s.heap s.heap [] := va_S.rf
  have hB15 : ∀ (w : St), wpX4_checkClient_B15 a0 post px w → ∀ (H : Heap) (locs : List Loc), PA D ca ad w H → va_S (AB base) s.heap H locs → ∀ ls : Array Slot, lv_has ls 2 [] → W p l e (headSpec wsX4_checkClient ({ frames := 6, cells := 1, slots := 6, locals := 90 } : Room)).room s m ([Value.ref (ad 0), Value.int a0].toArray) below meth c H locs 0 0 (vx_MQ below (va_Qv post (Bp D ca ad) (AB base)) (vx_X (fun q : String × St => px q.1 q.2) (Bx D ca ad) (AB base)) ([Value.ref (ad 0), Value.int a0].toArray) s 1 6 (AB base)) (F0 m 15 ls []) := by
    intro w hw H locs hP hS ls hl
    obtain ⟨sa, hstr⟩ := hXP.2.2.2.1 (275, "no such client") (List.mem_of_getElem? (i := 16) rfl)
    exact nx_throwSW (own := RX4) (cls := "java/util/NoSuchElementException") (names := ["java/lang/RuntimeException", "java/lang/Exception"]) hx hb hl9 hown (by decide +kernel) (by decide +kernel) (hts (.classLink RX4 85 "java/util/NoSuchElementException") (by decide +kernel)) (hts (.initialized "java/util/NoSuchElementException") (by decide +kernel)) hstr (vx_hat (L := nx_at RX4 89 "java/util/NoSuchElementException" ["java/lang/RuntimeException", "java/lang/Exception"]) (B := [.castable "java/util/NoSuchElementException" "java/util/NoSuchElementException", .declares ⟨"java/lang/RuntimeException", "<init>", "(Ljava/lang/String;)V"⟩, .declares ⟨"java/lang/Exception", "<init>", "(Ljava/lang/String;)V"⟩, .declares ⟨"java/lang/Throwable", "<init>", "(Ljava/lang/String;)V"⟩]) (fun w hw => hts w ((by decide +kernel : ∀ w ∈ (nx_at RX4 89 "java/util/NoSuchElementException" ["java/lang/RuntimeException", "java/lang/Exception"]).filter goodWord, w ∈ wsX4_checkClient) w hw)) (by decide +kernel) (vx_c (va_Nw.use rfl (hXP.2.2.1 (.castable "java/util/NoSuchElementException" "java/util/NoSuchElementException") (List.mem_of_getElem? (i := 3) rfl))) (vx_c (va_Nw.use rfl (hXP.2.2.1 (.declares ⟨"java/lang/RuntimeException", "<init>", "(Ljava/lang/String;)V"⟩) (List.mem_of_getElem? (i := 6) rfl))) (vx_c (va_Nw.use rfl (hXP.2.2.1 (.declares ⟨"java/lang/Exception", "<init>", "(Ljava/lang/String;)V"⟩) (List.mem_of_getElem? (i := 7) rfl))) (vx_c (va_Nw.use rfl (hXP.2.2.1 (.declares ⟨"java/lang/Throwable", "<init>", "(Ljava/lang/String;)V"⟩) (List.mem_of_getElem? (i := 8) rfl))) (vx_n)))))) (by decide +kernel) hXP.1 hXP.2.1 hS (hl.1.trans hml.symm) dX4_checkClient_15 dX4_checkClient_18 dX4_checkClient_19 dX4_checkClient_22 dX4_checkClient_25 (fun x hx => (hEx x hx).elim) (Nat.le_of_ble_eq_true rfl) (Nat.le_of_ble_eq_true rfl) (Nat.le_of_ble_eq_true rfl) (Nat.le_of_ble_eq_true rfl) hlocks (fun t ha hsz hk => ⟨("java/util/NoSuchElementException", w), hw, ⟨rfl, hP.kept (fun k q hq => hk q.1 (hP k q hq).lt)⟩, Nat.le_trans hS.1 hsz, fun q h1 h2 => (hk q (Nat.lt_of_lt_of_le h1 hS.1)).trans (hS.2.1 q h1 h2)⟩) hS.2.2 (Nat.le_of_ble_eq_true rfl) (Nat.le_of_ble_eq_true rfl)
  have hl := lv_entry ([.ref (ad 0), .int a0]) (n := 2) (Nat.le_of_ble_eq_true rfl)
  rw [lg_entry_eq]
  generalize (lg_sl ([.ref (ad 0), .int a0]) ++ List.replicate (2 - (lg_sl ([.ref (ad 0), .int a0])).length) Slot.unset).toArray = ls at hl ⊢
  have hl : lv_has ls 2 [(0, .ref (ad 0)), (1, .int a0)] := hl
  refine lv_iload_n hx hb dX4_checkClient_0 rfl (lv_at hl 1 rfl) ?_
  refine lv_if_lt (tgt := 15) hx hb dX4_checkClient_1 (by decide) (fun c_1 => ?_) (fun c_1 => ?_)
  · have hw := hw.1 c_1
    exact hB15 w hw _ _ hP hS ls (lv_sub hl [] rfl)
  · have hw := hw.2 c_1
    refine lv_iload_n hx hb dX4_checkClient_4 rfl (lv_at hl 1 rfl) ?_
    refine lv_aload_n hx hb dX4_checkClient_5 rfl (lv_at hl 0 rfl) ?_
    refine va_get (D := D) (ci := 6) (v := .ref (ad 24)) (C := RX4) (T := TX4) (N := 6) hx hb hts in_X4 hown hK hP 0 (wg0 ca ad w) rfl 3 (by decide) lk_33 (fun _ h9 => h9) rfl dX4_checkClient_6 ?_
    refine va_get (D := D) (ci := 2) (v := .int (w.1 66 0)) (C := RX0) (T := TX0) (N := 9) hx hb hts in_X0 hown hK hP 24 (wg24 ca ad w) rfl 0 (by decide) lk_102 (fun _ h9 => h9) rfl dX4_checkClient_9 ?_
    refine lv_icmp_lt (tgt := 26) hx hb dX4_checkClient_12 (by decide) (fun c_2 => ?_) (fun c_2 => ?_)
    · have hw := hw.1 c_2
      refine W.widen (k := 1) (n := 6) (Nat.le_of_ble_eq_true rfl) (Nat.le_of_ble_eq_true rfl) ?_
      refine vx_ret ?_
      exact W.vret hx hb hr (fun t ht hW => ⟨⟨w, rfl, hw, by show PA D ca ad w t.heap; rw [ht]; exact hP⟩, hS.F ht⟩) hS.2.2 dX4_checkClient_26
    · have hw := hw.2 c_2
      exact hB15 w hw _ _ hP hS ls (lv_sub hl [] rfl)
set_option maxHeartbeats 4000000 in
set_option maxRecDepth 100000 in
def wpX4_setOffset_B16 (a0 : Int32) (a1 : Int32) (post : Int32 → St → Prop) (px : String → St → Prop) (w : St) : Prop := px "java/lang/IllegalArgumentException" w
set_option maxHeartbeats 4000000 in
set_option maxRecDepth 100000 in
def wpX4_setOffset (a0 : Int32) (a1 : Int32) (w : St) (post : Int32 → St → Prop) (px : String → St → Prop) : Prop := wpX4_checkClient a0 w (fun w_1 => (a1 < (-2) → (wpX4_setOffset_B16 a0 a1 post px w_1)) ∧ (¬ (a1 < (-2)) → ((a1 ≤ 2 → ((vp_in a0 6) ∧ ((vp_in a0 6) ∧ (∀ w_6 : St, w_6 = (uA w_1 26 (upd (w_1.1 26) (a0).toNatClampNeg a1)) → post (w_1.1 26 (a0).toNatClampNeg) w_6)))) ∧ (¬ (a1 ≤ 2) → (wpX4_setOffset_B16 a0 a1 post px w_1))))) px
set_option maxHeartbeats 4000000 in
set_option maxRecDepth 100000 in
theorem mX4_setOffset (l : Launch) (D : va_G) (ca : Nat → ClassId) (ad : Nat → Nat) (base : Nat) (hAd : okA base ad) (w : St) (a0 : Int32) (a1 : Int32) (post : Int32 → St → Prop) (px : String → St → Prop) (hw : wpX4_setOffset a0 a1 w post px) (hl9 : l.stackTraces = false) : vx_Met l yX4_setOffset wsX4_setOffset ({ frames := 7, cells := 2, slots := 12, locals := 111 } : Room) (va_Pc [.ref (ad 0), .int a0, .int a1] (BX D ca ad base w)) (va_Qi post (Bp D ca ad) (AB base)) (vx_X (fun q : String × St => px q.1 q.2) (Bx D ca ad) (AB base)) 2 12 (AB base) := by
  refine vx_ofW (cc := cX4_setOffset) (maxL := 4) (ret := (some .int)) (by decide) rfl ?_
  intro p e s m args below meth c s₁ B hml hEx hv
  obtain ⟨rfl, ⟨hbs, hP, hK⟩, hXP⟩ := hv
  have hx := B.exec
  have hb := B.bytes
  have hr := B.returns
  have hts := atoms_spec (ws := wsX4_setOffset) B.pre
  have hown : s.vm.findClass RX4 = some m.cls := findClass_of_methodNamed B.named
  have hlocks := B.notSynchronized
  have in_X0 : ∀ w ∈ wsX00, w ∈ wsX4_setOffset := by decide +kernel
  have in_X4 : ∀ w ∈ wsX40, w ∈ wsX4_setOffset := by decide +kernel
  have lk_33 := hts (.fieldLink RX4 33 "LockQuorum" "clients" "LLockQuorum$Clients;") (by decide +kernel)
  have lk_112 := hts (.fieldLink RX4 112 "LockQuorum$Clients" "offset" "[I") (by decide +kernel)
  have hS : va_S (AB base) s.heap s.heap [] := va_S.rf
  have hB16 : ∀ (w : St), wpX4_setOffset_B16 a0 a1 post px w → ∀ (H : Heap) (locs : List Loc), PA D ca ad w H → va_S (AB base) s.heap H locs → ∀ ls : Array Slot, lv_has ls 4 [] → W p l e (headSpec wsX4_setOffset ({ frames := 7, cells := 2, slots := 12, locals := 111 } : Room)).room s m ([Value.ref (ad 0), Value.int a0, Value.int a1].toArray) below meth c H locs 1 6 (vx_MQ below (va_Qi post (Bp D ca ad) (AB base)) (vx_X (fun q : String × St => px q.1 q.2) (Bx D ca ad) (AB base)) ([Value.ref (ad 0), Value.int a0, Value.int a1].toArray) s 2 12 (AB base)) (F0 m 16 ls []) := by
    intro w hw H locs hP hS ls hl
    obtain ⟨sa, hstr⟩ := hXP.2.2.2.1 (110, "the offset must be -2 to 2") (List.mem_of_getElem? (i := 6) rfl)
    exact vx_throwS (own := RX4) (cls := "java/lang/IllegalArgumentException") (names := ["java/lang/RuntimeException", "java/lang/Exception"]) hx hb hl9 hown (by decide +kernel) (by decide +kernel) (hts (.classLink RX4 37 "java/lang/IllegalArgumentException") (by decide +kernel)) (hts (.initialized "java/lang/IllegalArgumentException") (by decide +kernel)) hstr (vx_hat (L := vx_atS RX4 41 "java/lang/IllegalArgumentException" ["java/lang/RuntimeException", "java/lang/Exception"]) (B := [.castable "java/lang/IllegalArgumentException" "java/lang/IllegalArgumentException", .declares ⟨"java/lang/RuntimeException", "<init>", "(Ljava/lang/String;)V"⟩, .declares ⟨"java/lang/Exception", "<init>", "(Ljava/lang/String;)V"⟩, .declares ⟨"java/lang/Throwable", "<init>", "(Ljava/lang/String;)V"⟩]) (fun w hw => hts w ((by decide +kernel : ∀ w ∈ (vx_atS RX4 41 "java/lang/IllegalArgumentException" ["java/lang/RuntimeException", "java/lang/Exception"]).filter goodWord, w ∈ wsX4_setOffset) w hw)) (by decide +kernel) (vx_c (va_Nw.use rfl (hXP.2.2.1 (.castable "java/lang/IllegalArgumentException" "java/lang/IllegalArgumentException") (List.mem_of_getElem? (i := 0) rfl))) (vx_c (va_Nw.use rfl (hXP.2.2.1 (.declares ⟨"java/lang/RuntimeException", "<init>", "(Ljava/lang/String;)V"⟩) (List.mem_of_getElem? (i := 6) rfl))) (vx_c (va_Nw.use rfl (hXP.2.2.1 (.declares ⟨"java/lang/Exception", "<init>", "(Ljava/lang/String;)V"⟩) (List.mem_of_getElem? (i := 7) rfl))) (vx_c (va_Nw.use rfl (hXP.2.2.1 (.declares ⟨"java/lang/Throwable", "<init>", "(Ljava/lang/String;)V"⟩) (List.mem_of_getElem? (i := 8) rfl))) (vx_n)))))) (by decide +kernel) hXP.1 hXP.2.1 hS (hl.1.trans hml.symm) dX4_setOffset_16 dX4_setOffset_19 dX4_setOffset_20 dX4_setOffset_22 dX4_setOffset_25 (fun x hx => (hEx x hx).elim) (Nat.le_of_ble_eq_true rfl) (Nat.le_of_ble_eq_true rfl) (Nat.le_of_ble_eq_true rfl) (Nat.le_of_ble_eq_true rfl) hlocks (fun t ha hsz hk => ⟨("java/lang/IllegalArgumentException", w), hw, ⟨rfl, hP.kept (fun k q hq => hk q.1 (hP k q hq).lt)⟩, Nat.le_trans hS.1 hsz, fun q h1 h2 => (hk q (Nat.lt_of_lt_of_le h1 hS.1)).trans (hS.2.1 q h1 h2)⟩) hS.2.2 (Nat.le_of_ble_eq_true rfl) (Nat.le_of_ble_eq_true rfl)
  have hl := lv_entry ([.ref (ad 0), .int a0, .int a1]) (n := 4) (Nat.le_of_ble_eq_true rfl)
  rw [lg_entry_eq]
  generalize (lg_sl ([.ref (ad 0), .int a0, .int a1]) ++ List.replicate (4 - (lg_sl ([.ref (ad 0), .int a0, .int a1])).length) Slot.unset).toArray = ls at hl ⊢
  have hl : lv_has ls 4 [(0, .ref (ad 0)), (1, .int a0), (2, .int a1)] := hl
  refine lv_aload_n hx hb dX4_setOffset_0 rfl (lv_at hl 0 rfl) ?_
  refine lv_iload_n hx hb dX4_setOffset_1 rfl (lv_at hl 1 rfl) ?_
  refine vx_callv (vx_runV (As := [.int a0]) (rest := []) ⟨hx, hb, hml, hown, hts⟩ (mX4_checkClient l D ca ad base hAd w a0 _ _ hw hl9) (cwV 1 hts gX4_setOffset_X4_checkClient rfl rfl rfl (by decide +kernel) ⟨Nat.le_of_ble_eq_true rfl, Nat.le_of_ble_eq_true rfl⟩) (pvx [.int a0] hK hXP hP hbs hS rfl (wg0 ca ad w)) rfl rfl hl.1 rfl (lv_room (Nat.le_of_ble_eq_true rfl)) dX4_setOffset_2 ⟨Nat.le_of_ble_eq_true rfl, Nat.le_of_ble_eq_true rfl⟩) hS (fun q _ h => h) (fun q h => h) (fun q _ h => h) (fun E ce q9 u t H locs ht hvm hw hB hz1 hk1 hS hce hcv hcl => ?_) (fun w_1 t H locs ht hvm hw hP hz1 hk1 hS => ?_)
  · exact vx_out (E := E) (fun x hx => (hEx x hx).elim) hlocks hce hcv hcl (fun t9 ht9 ha9 => ⟨u, hw, ⟨hB.1, by show PA D ca ad u.2 t9.heap; rw [ht9, ← ht]; exact hB.2⟩, hS.F ht9⟩) hS.2.2 (Nat.le_of_ble_eq_true rfl) (Nat.le_of_ble_eq_true rfl)
  have hP : PA D ca ad w_1 H := by rw [← ht]; exact hP
  refine lv_iload_n hx hb dX4_setOffset_5 rfl (lv_at hl 2 rfl) ?_
  refine lv_bipush (v := (-2)) hx hb dX4_setOffset_6 (by decide) ?_
  refine lv_icmp_lt (tgt := 16) hx hb dX4_setOffset_8 (by decide) (fun c_2 => ?_) (fun c_2 => ?_)
  · have hw := hw.1 c_2
    exact hB16 w_1 hw _ _ hP hS ls (lv_sub hl [] rfl)
  · have hw := hw.2 c_2
    refine lv_iload_n hx hb dX4_setOffset_11 rfl (lv_at hl 2 rfl) ?_
    refine lv_iconst (v := 2) hx hb dX4_setOffset_12 (by decide) ?_
    refine lv_icmp_le (tgt := 26) hx hb dX4_setOffset_13 (by decide) (fun c_3 => ?_) (fun c_3 => ?_)
    · have hw := hw.1 c_3
      refine lv_aload_n hx hb dX4_setOffset_26 rfl (lv_at hl 0 rfl) ?_
      refine va_get (D := D) (ci := 6) (v := .ref (ad 24)) (C := RX4) (T := TX4) (N := 6) hx hb hts in_X4 hown hK hP 0 (wg0 ca ad w_1) rfl 3 (by decide) lk_33 (fun _ h9 => h9) rfl dX4_setOffset_27 ?_
      refine va_get (D := D) (ci := 2) (v := .ref (ad 26)) (C := RX0) (T := TX0) (N := 9) hx hb hts in_X0 hown hK hP 24 (wg24 ca ad w_1) rfl 2 (by decide) lk_112 (fun _ h9 => h9) rfl dX4_setOffset_30 ?_
      refine lv_iload_n hx hb dX4_setOffset_33 rfl (lv_at hl 1 rfl) ?_
      obtain ⟨h_4, hw⟩ := hw
      refine va_iald hx hb hK hP 26 0 (wg26 ca ad w_1) rfl h_4 dX4_setOffset_34 ?_
      refine lv_istore_n (lv' := [(3, .int (w_1.1 26 (a0).toNatClampNeg)), (0, .ref (ad 0)), (1, .int a0), (2, .int a1)]) hx hb dX4_setOffset_35 rfl hl (by decide) rfl (fun ls hl => ?_)
      refine lv_aload_n hx hb dX4_setOffset_36 rfl (lv_at hl 1 rfl) ?_
      refine va_get (D := D) (ci := 6) (v := .ref (ad 24)) (C := RX4) (T := TX4) (N := 6) hx hb hts in_X4 hown hK hP 0 (wg0 ca ad w_1) rfl 3 (by decide) lk_33 (fun _ h9 => h9) rfl dX4_setOffset_37 ?_
      refine va_get (D := D) (ci := 2) (v := .ref (ad 26)) (C := RX0) (T := TX0) (N := 9) hx hb hts in_X0 hown hK hP 24 (wg24 ca ad w_1) rfl 2 (by decide) lk_112 (fun _ h9 => h9) rfl dX4_setOffset_40 ?_
      refine lv_iload_n hx hb dX4_setOffset_43 rfl (lv_at hl 2 rfl) ?_
      refine lv_iload_n hx hb dX4_setOffset_44 rfl (lv_at hl 3 rfl) ?_
      obtain ⟨h_5, hw⟩ := hw
      refine va_iast hx hb hK hP (DA hAd) hS 26 0 (wg26 ca ad w_1) rfl h_5 dX4_setOffset_45 (fun H locs hP hD hS => ?_)
      obtain ⟨w_6, e_7⟩ : ∃ z : St, z = (uA w_1 26 (upd (w_1.1 26) (a0).toNatClampNeg a1)) := ⟨_, rfl⟩
      have hP : PA D ca ad w_6 H := by rw [e_7]; exact wu26 hP
      have hw := hw w_6 e_7
      refine lv_iload_n hx hb dX4_setOffset_46 rfl (lv_at hl 0 rfl) ?_
      refine W.widen (k := 2) (n := 12) (Nat.le_of_ble_eq_true rfl) (Nat.le_of_ble_eq_true rfl) ?_
      refine vx_ret ?_
      exact W.iret (v := (w_1.1 26 (a0).toNatClampNeg)) hx hb hr (fun t ht hW => ⟨⟨(w_1.1 26 (a0).toNatClampNeg), w_6, rfl, hw, by show PA D ca ad w_6 t.heap; rw [ht]; exact hP⟩, hS.F ht⟩) hS.2.2 dX4_setOffset_47
    · have hw := hw.2 c_3
      exact hB16 w_1 hw _ _ hP hS ls (lv_sub hl [] rfl)
set_option maxHeartbeats 4000000 in
set_option maxRecDepth 100000 in
def wpX4_setPaused (a0 : Int32) (a1 : Int32) (w : St) (post : Int32 → St → Prop) (px : String → St → Prop) : Prop := wpX4_checkClient a0 w (fun w_1 => (vp_in a0 6) ∧ ((vp_in a0 6) ∧ (∀ w_4 : St, w_4 = (uA w_1 25 (upd (w_1.1 25) (a0).toNatClampNeg (vp_nar .boolean a1))) → (narrow .boolean (.int (w_1.1 25 (a0).toNatClampNeg)) = .int (w_1.1 25 (a0).toNatClampNeg)) ∧ post (w_1.1 25 (a0).toNatClampNeg) w_4))) px
set_option maxHeartbeats 4000000 in
set_option maxRecDepth 100000 in
theorem mX4_setPaused (l : Launch) (D : va_G) (ca : Nat → ClassId) (ad : Nat → Nat) (base : Nat) (hAd : okA base ad) (w : St) (a0 : Int32) (a1 : Int32) (post : Int32 → St → Prop) (px : String → St → Prop) (hw : wpX4_setPaused a0 a1 w post px) (hl9 : l.stackTraces = false) : vx_Met l yX4_setPaused wsX4_setPaused ({ frames := 7, cells := 1, slots := 6, locals := 111 } : Room) (va_Pc [.ref (ad 0), .int a0, .int a1] (BX D ca ad base w)) (va_Qi post (Bp D ca ad) (AB base)) (vx_X (fun q : String × St => px q.1 q.2) (Bx D ca ad) (AB base)) 1 6 (AB base) := by
  refine vx_ofW (cc := cX4_setPaused) (maxL := 4) (ret := (some .boolean)) (by decide) rfl ?_
  intro p e s m args below meth c s₁ B hml hEx hv
  obtain ⟨rfl, ⟨hbs, hP, hK⟩, hXP⟩ := hv
  have hx := B.exec
  have hb := B.bytes
  have hr := B.returns
  have hts := atoms_spec (ws := wsX4_setPaused) B.pre
  have hown : s.vm.findClass RX4 = some m.cls := findClass_of_methodNamed B.named
  have hlocks := B.notSynchronized
  have in_X0 : ∀ w ∈ wsX00, w ∈ wsX4_setPaused := by decide +kernel
  have in_X4 : ∀ w ∈ wsX40, w ∈ wsX4_setPaused := by decide +kernel
  have lk_33 := hts (.fieldLink RX4 33 "LockQuorum" "clients" "LLockQuorum$Clients;") (by decide +kernel)
  have lk_115 := hts (.fieldLink RX4 115 "LockQuorum$Clients" "paused" "[Z") (by decide +kernel)
  have hS : va_S (AB base) s.heap s.heap [] := va_S.rf
  have hl := lv_entry ([.ref (ad 0), .int a0, .int a1]) (n := 4) (Nat.le_of_ble_eq_true rfl)
  rw [lg_entry_eq]
  generalize (lg_sl ([.ref (ad 0), .int a0, .int a1]) ++ List.replicate (4 - (lg_sl ([.ref (ad 0), .int a0, .int a1])).length) Slot.unset).toArray = ls at hl ⊢
  have hl : lv_has ls 4 [(0, .ref (ad 0)), (1, .int a0), (2, .int a1)] := hl
  refine lv_aload_n hx hb dX4_setPaused_0 rfl (lv_at hl 0 rfl) ?_
  refine lv_iload_n hx hb dX4_setPaused_1 rfl (lv_at hl 1 rfl) ?_
  refine vx_callv (vx_runV (As := [.int a0]) (rest := []) ⟨hx, hb, hml, hown, hts⟩ (mX4_checkClient l D ca ad base hAd w a0 _ _ hw hl9) (cwV 1 hts gX4_setPaused_X4_checkClient rfl rfl rfl (by decide +kernel) ⟨Nat.le_of_ble_eq_true rfl, Nat.le_of_ble_eq_true rfl⟩) (pvx [.int a0] hK hXP hP hbs hS rfl (wg0 ca ad w)) rfl rfl hl.1 rfl (lv_room (Nat.le_of_ble_eq_true rfl)) dX4_setPaused_2 ⟨Nat.le_of_ble_eq_true rfl, Nat.le_of_ble_eq_true rfl⟩) hS (fun q _ h => h) (fun q h => h) (fun q _ h => h) (fun E ce q9 u t H locs ht hvm hw hB hz1 hk1 hS hce hcv hcl => ?_) (fun w_1 t H locs ht hvm hw hP hz1 hk1 hS => ?_)
  · exact vx_out (E := E) (fun x hx => (hEx x hx).elim) hlocks hce hcv hcl (fun t9 ht9 ha9 => ⟨u, hw, ⟨hB.1, by show PA D ca ad u.2 t9.heap; rw [ht9, ← ht]; exact hB.2⟩, hS.F ht9⟩) hS.2.2 (Nat.le_of_ble_eq_true rfl) (Nat.le_of_ble_eq_true rfl)
  have hP : PA D ca ad w_1 H := by rw [← ht]; exact hP
  refine lv_aload_n hx hb dX4_setPaused_5 rfl (lv_at hl 0 rfl) ?_
  refine va_get (D := D) (ci := 6) (v := .ref (ad 24)) (C := RX4) (T := TX4) (N := 6) hx hb hts in_X4 hown hK hP 0 (wg0 ca ad w_1) rfl 3 (by decide) lk_33 (fun _ h9 => h9) rfl dX4_setPaused_6 ?_
  refine va_get (D := D) (ci := 2) (v := .ref (ad 25)) (C := RX0) (T := TX0) (N := 9) hx hb hts in_X0 hown hK hP 24 (wg24 ca ad w_1) rfl 1 (by decide) lk_115 (fun _ h9 => h9) rfl dX4_setPaused_9 ?_
  refine lv_iload_n hx hb dX4_setPaused_12 rfl (lv_at hl 1 rfl) ?_
  obtain ⟨h_2, hw⟩ := hw
  refine va_zald hx hb hK hP 25 1 (wg25 ca ad w_1) rfl h_2 dX4_setPaused_13 ?_
  refine lv_istore_n (lv' := [(3, .int (w_1.1 25 (a0).toNatClampNeg)), (0, .ref (ad 0)), (1, .int a0), (2, .int a1)]) hx hb dX4_setPaused_14 rfl hl (by decide) rfl (fun ls hl => ?_)
  refine lv_aload_n hx hb dX4_setPaused_15 rfl (lv_at hl 1 rfl) ?_
  refine va_get (D := D) (ci := 6) (v := .ref (ad 24)) (C := RX4) (T := TX4) (N := 6) hx hb hts in_X4 hown hK hP 0 (wg0 ca ad w_1) rfl 3 (by decide) lk_33 (fun _ h9 => h9) rfl dX4_setPaused_16 ?_
  refine va_get (D := D) (ci := 2) (v := .ref (ad 25)) (C := RX0) (T := TX0) (N := 9) hx hb hts in_X0 hown hK hP 24 (wg24 ca ad w_1) rfl 1 (by decide) lk_115 (fun _ h9 => h9) rfl dX4_setPaused_19 ?_
  refine lv_iload_n hx hb dX4_setPaused_22 rfl (lv_at hl 2 rfl) ?_
  refine lv_iload_n hx hb dX4_setPaused_23 rfl (lv_at hl 3 rfl) ?_
  obtain ⟨h_3, hw⟩ := hw
  refine va_zast hx hb hK hP (DA hAd) hS 25 1 (wg25 ca ad w_1) rfl h_3 dX4_setPaused_24 (fun H locs hP hD hS => ?_)
  obtain ⟨w_4, e_5⟩ : ∃ z : St, z = (uA w_1 25 (upd (w_1.1 25) (a0).toNatClampNeg (vp_nar .boolean a1))) := ⟨_, rfl⟩
  have hP : PA D ca ad w_4 H := by rw [e_5]; exact wu25 hP
  have hw := hw w_4 e_5
  refine lv_iload_n hx hb dX4_setPaused_25 rfl (lv_at hl 0 rfl) ?_
  refine vx_ret ?_
  obtain ⟨hn9, hw⟩ := hw
  exact W.zret (v := (w_1.1 25 (a0).toNatClampNeg)) hx hb hr hn9 (fun t ht hW => ⟨⟨(w_1.1 25 (a0).toNatClampNeg), w_4, rfl, hw, by show PA D ca ad w_4 t.heap; rw [ht]; exact hP⟩, hS.F ht⟩) hS.2.2 dX4_setPaused_26
set_option maxHeartbeats 4000000 in
set_option maxRecDepth 100000 in
def wpX4_clockOf (a0 : Int32) (w : St) (post : Int32 → St → Prop) (px : String → St → Prop) : Prop := wpX4_checkClient a0 w (fun w_1 => wpX0_clockAt a0 (w_1.1 64 0) w_1 (fun r_3 w_2 => post r_3 w_2)) px
set_option maxHeartbeats 4000000 in
set_option maxRecDepth 100000 in
theorem mX4_clockOf (l : Launch) (D : va_G) (ca : Nat → ClassId) (ad : Nat → Nat) (base : Nat) (hAd : okA base ad) (w : St) (a0 : Int32) (post : Int32 → St → Prop) (px : String → St → Prop) (hw : wpX4_clockOf a0 w post px) (hl9 : l.stackTraces = false) : vx_Met l yX4_clockOf wsX4_clockOf ({ frames := 7, cells := 1, slots := 6, locals := 111 } : Room) (va_Pc [.ref (ad 0), .int a0] (BX D ca ad base w)) (va_Qi post (Bp D ca ad) (AB base)) (vx_X (fun q : String × St => px q.1 q.2) (Bx D ca ad) (AB base)) 1 6 (AB base) := by
  refine vx_ofW (cc := cX4_clockOf) (maxL := 2) (ret := (some .int)) (by decide) rfl ?_
  intro p e s m args below meth c s₁ B hml hEx hv
  obtain ⟨rfl, ⟨hbs, hP, hK⟩, hXP⟩ := hv
  have hx := B.exec
  have hb := B.bytes
  have hr := B.returns
  have hts := atoms_spec (ws := wsX4_clockOf) B.pre
  have hown : s.vm.findClass RX4 = some m.cls := findClass_of_methodNamed B.named
  have hlocks := B.notSynchronized
  have in_X4 : ∀ w ∈ wsX40, w ∈ wsX4_clockOf := by decide +kernel
  have lk_33 := hts (.fieldLink RX4 33 "LockQuorum" "clients" "LLockQuorum$Clients;") (by decide +kernel)
  have lk_44 := hts (.fieldLink RX4 44 "LockQuorum" "now" "I") (by decide +kernel)
  have hS : va_S (AB base) s.heap s.heap [] := va_S.rf
  have hl := lv_entry ([.ref (ad 0), .int a0]) (n := 2) (Nat.le_of_ble_eq_true rfl)
  rw [lg_entry_eq]
  generalize (lg_sl ([.ref (ad 0), .int a0]) ++ List.replicate (2 - (lg_sl ([.ref (ad 0), .int a0])).length) Slot.unset).toArray = ls at hl ⊢
  have hl : lv_has ls 2 [(0, .ref (ad 0)), (1, .int a0)] := hl
  refine lv_aload_n hx hb dX4_clockOf_0 rfl (lv_at hl 0 rfl) ?_
  refine lv_iload_n hx hb dX4_clockOf_1 rfl (lv_at hl 1 rfl) ?_
  refine vx_callv (vx_runV (As := [.int a0]) (rest := []) ⟨hx, hb, hml, hown, hts⟩ (mX4_checkClient l D ca ad base hAd w a0 _ _ hw hl9) (cwV 1 hts gX4_clockOf_X4_checkClient rfl rfl rfl (by decide +kernel) ⟨Nat.le_of_ble_eq_true rfl, Nat.le_of_ble_eq_true rfl⟩) (pvx [.int a0] hK hXP hP hbs hS rfl (wg0 ca ad w)) rfl rfl hl.1 rfl (lv_room (Nat.le_of_ble_eq_true rfl)) dX4_clockOf_2 ⟨Nat.le_of_ble_eq_true rfl, Nat.le_of_ble_eq_true rfl⟩) hS (fun q _ h => h) (fun q h => h) (fun q _ h => h) (fun E ce q9 u t H locs ht hvm hw hB hz1 hk1 hS hce hcv hcl => ?_) (fun w_1 t H locs ht hvm hw hP hz1 hk1 hS => ?_)
  · exact vx_out (E := E) (fun x hx => (hEx x hx).elim) hlocks hce hcv hcl (fun t9 ht9 ha9 => ⟨u, hw, ⟨hB.1, by show PA D ca ad u.2 t9.heap; rw [ht9, ← ht]; exact hB.2⟩, hS.F ht9⟩) hS.2.2 (Nat.le_of_ble_eq_true rfl) (Nat.le_of_ble_eq_true rfl)
  have hP : PA D ca ad w_1 H := by rw [← ht]; exact hP
  refine lv_aload_n hx hb dX4_clockOf_5 rfl (lv_at hl 0 rfl) ?_
  refine va_get (D := D) (ci := 6) (v := .ref (ad 24)) (C := RX4) (T := TX4) (N := 6) hx hb hts in_X4 hown hK hP 0 (wg0 ca ad w_1) rfl 3 (by decide) lk_33 (fun _ h9 => h9) rfl dX4_clockOf_6 ?_
  refine lv_iload_n hx hb dX4_clockOf_9 rfl (lv_at hl 1 rfl) ?_
  refine lv_aload_n hx hb dX4_clockOf_10 rfl (lv_at hl 0 rfl) ?_
  refine va_get (D := D) (ci := 6) (v := .int (w_1.1 64 0)) (C := RX4) (T := TX4) (N := 6) hx hb hts in_X4 hown hK hP 0 (wg0 ca ad w_1) rfl 4 (by decide) lk_44 (fun _ h9 => h9) rfl dX4_clockOf_11 ?_
  refine va_calli (va_runV (As := [.int a0, .int (w_1.1 64 0)]) (rest := []) ⟨hx, hb, hml, hown, hts⟩ (mX0_clockAt l D ca ad base hAd w_1 a0 (w_1.1 64 0) _ hw) (cwV 2 hts gX4_clockOf_X0_clockAt rfl rfl rfl (by decide +kernel) ⟨Nat.le_of_ble_eq_true rfl, Nat.le_of_ble_eq_true rfl⟩) (pv [.int a0, .int (w_1.1 64 0)] hK hP hbs hS rfl (wg24 ca ad w_1)) rfl rfl hl.1 rfl (lv_room (Nat.le_of_ble_eq_true rfl)) dX4_clockOf_14 ⟨Nat.le_of_ble_eq_true rfl, Nat.le_of_ble_eq_true rfl⟩) hS (fun q _ h => h) (fun q h => h) (fun r_3 w_2 t H locs ht hvm hw hP hz1 hk1 hS => ?_)
  have hP : PA D ca ad w_2 H := by rw [← ht]; exact hP
  refine vx_ret ?_
  exact W.iret (v := r_3) hx hb hr (fun t ht hW => ⟨⟨r_3, w_2, rfl, hw, by show PA D ca ad w_2 t.heap; rw [ht]; exact hP⟩, hS.F ht⟩) hS.2.2 dX4_clockOf_17
set_option maxHeartbeats 4000000 in
set_option maxRecDepth 100000 in
def wpX4_checkNumbers (a0 : Int32) (a1 : Int32) (a2 : Int32) (w : St) (post : St → Prop) (px : String → St → Prop) : Prop := wpX4_checkClient a0 w (fun w_1 => wpX4_checkLock a1 w_1 (fun w_2 => wpX4_checkMember a2 w_2 (fun w_3 => post w_3) px) px) px
set_option maxHeartbeats 4000000 in
set_option maxRecDepth 100000 in
theorem mX4_checkNumbers (l : Launch) (D : va_G) (ca : Nat → ClassId) (ad : Nat → Nat) (base : Nat) (hAd : okA base ad) (w : St) (a0 : Int32) (a1 : Int32) (a2 : Int32) (post : St → Prop) (px : String → St → Prop) (hw : wpX4_checkNumbers a0 a1 a2 w post px) (hl9 : l.stackTraces = false) : vx_Met l yX4_checkNumbers wsX4_checkNumbers ({ frames := 7, cells := 3, slots := 18, locals := 111 } : Room) (va_Pc [.ref (ad 0), .int a0, .int a1, .int a2] (BX D ca ad base w)) (va_Qv post (Bp D ca ad) (AB base)) (vx_X (fun q : String × St => px q.1 q.2) (Bx D ca ad) (AB base)) 3 18 (AB base) := by
  refine vx_ofW (cc := cX4_checkNumbers) (maxL := 4) (ret := none) (by decide) rfl ?_
  intro p e s m args below meth c s₁ B hml hEx hv
  obtain ⟨rfl, ⟨hbs, hP, hK⟩, hXP⟩ := hv
  have hx := B.exec
  have hb := B.bytes
  have hr := B.returns
  have hts := atoms_spec (ws := wsX4_checkNumbers) B.pre
  have hown : s.vm.findClass RX4 = some m.cls := findClass_of_methodNamed B.named
  have hlocks := B.notSynchronized
  have hS : va_S (AB base) s.heap s.heap [] := va_S.rf
  have hl := lv_entry ([.ref (ad 0), .int a0, .int a1, .int a2]) (n := 4) (Nat.le_of_ble_eq_true rfl)
  rw [lg_entry_eq]
  generalize (lg_sl ([.ref (ad 0), .int a0, .int a1, .int a2]) ++ List.replicate (4 - (lg_sl ([.ref (ad 0), .int a0, .int a1, .int a2])).length) Slot.unset).toArray = ls at hl ⊢
  have hl : lv_has ls 4 [(0, .ref (ad 0)), (1, .int a0), (2, .int a1), (3, .int a2)] := hl
  refine lv_aload_n hx hb dX4_checkNumbers_0 rfl (lv_at hl 0 rfl) ?_
  refine lv_iload_n hx hb dX4_checkNumbers_1 rfl (lv_at hl 1 rfl) ?_
  refine vx_callv (vx_runV (As := [.int a0]) (rest := []) ⟨hx, hb, hml, hown, hts⟩ (mX4_checkClient l D ca ad base hAd w a0 _ _ hw hl9) (cwV 1 hts gX4_checkNumbers_X4_checkClient rfl rfl rfl (by decide +kernel) ⟨Nat.le_of_ble_eq_true rfl, Nat.le_of_ble_eq_true rfl⟩) (pvx [.int a0] hK hXP hP hbs hS rfl (wg0 ca ad w)) rfl rfl hl.1 rfl (lv_room (Nat.le_of_ble_eq_true rfl)) dX4_checkNumbers_2 ⟨Nat.le_of_ble_eq_true rfl, Nat.le_of_ble_eq_true rfl⟩) hS (fun q _ h => h) (fun q h => h) (fun q _ h => h) (fun E ce q9 u t H locs ht hvm hw hB hz1 hk1 hS hce hcv hcl => ?_) (fun w_1 t H locs ht hvm hw hP hz1 hk1 hS => ?_)
  · exact vx_out (E := E) (fun x hx => (hEx x hx).elim) hlocks hce hcv hcl (fun t9 ht9 ha9 => ⟨u, hw, ⟨hB.1, by show PA D ca ad u.2 t9.heap; rw [ht9, ← ht]; exact hB.2⟩, hS.F ht9⟩) hS.2.2 (Nat.le_of_ble_eq_true rfl) (Nat.le_of_ble_eq_true rfl)
  have hP : PA D ca ad w_1 H := by rw [← ht]; exact hP
  refine lv_aload_n hx hb dX4_checkNumbers_5 rfl (lv_at hl 0 rfl) ?_
  refine lv_iload_n hx hb dX4_checkNumbers_6 rfl (lv_at hl 2 rfl) ?_
  refine vx_callv (vx_runV (As := [.int a1]) (rest := []) ⟨hx, hb, hml, hown, hts⟩ (mX4_checkLock l D ca ad base hAd w_1 a1 _ _ hw hl9) (cwV 1 hts gX4_checkNumbers_X4_checkLock rfl rfl rfl (by decide +kernel) ⟨Nat.le_of_ble_eq_true rfl, Nat.le_of_ble_eq_true rfl⟩) (pvx [.int a1] hK hXP hP hbs hS rfl (wg0 ca ad w_1)) rfl rfl hl.1 rfl (lv_room (Nat.le_of_ble_eq_true rfl)) dX4_checkNumbers_7 ⟨Nat.le_of_ble_eq_true rfl, Nat.le_of_ble_eq_true rfl⟩) hS (fun q _ h => h) (fun q h => h) (fun q _ h => h) (fun E ce q9 u t H locs ht hvm hw hB hz1 hk1 hS hce hcv hcl => ?_) (fun w_2 t H locs ht hvm hw hP hz1 hk1 hS => ?_)
  · exact vx_out (E := E) (fun x hx => (hEx x hx).elim) hlocks hce hcv hcl (fun t9 ht9 ha9 => ⟨u, hw, ⟨hB.1, by show PA D ca ad u.2 t9.heap; rw [ht9, ← ht]; exact hB.2⟩, hS.F ht9⟩) hS.2.2 (Nat.le_of_ble_eq_true rfl) (Nat.le_of_ble_eq_true rfl)
  have hP : PA D ca ad w_2 H := by rw [← ht]; exact hP
  refine lv_aload_n hx hb dX4_checkNumbers_10 rfl (lv_at hl 0 rfl) ?_
  refine lv_iload_n hx hb dX4_checkNumbers_11 rfl (lv_at hl 3 rfl) ?_
  refine vx_callv (vx_runV (As := [.int a2]) (rest := []) ⟨hx, hb, hml, hown, hts⟩ (mX4_checkMember l D ca ad base hAd w_2 a2 _ _ hw hl9) (cwV 1 hts gX4_checkNumbers_X4_checkMember rfl rfl rfl (by decide +kernel) ⟨Nat.le_of_ble_eq_true rfl, Nat.le_of_ble_eq_true rfl⟩) (pvx [.int a2] hK hXP hP hbs hS rfl (wg0 ca ad w_2)) rfl rfl hl.1 rfl (lv_room (Nat.le_of_ble_eq_true rfl)) dX4_checkNumbers_12 ⟨Nat.le_of_ble_eq_true rfl, Nat.le_of_ble_eq_true rfl⟩) hS (fun q _ h => h) (fun q h => h) (fun q _ h => h) (fun E ce q9 u t H locs ht hvm hw hB hz1 hk1 hS hce hcv hcl => ?_) (fun w_3 t H locs ht hvm hw hP hz1 hk1 hS => ?_)
  · exact vx_out (E := E) (fun x hx => (hEx x hx).elim) hlocks hce hcv hcl (fun t9 ht9 ha9 => ⟨u, hw, ⟨hB.1, by show PA D ca ad u.2 t9.heap; rw [ht9, ← ht]; exact hB.2⟩, hS.F ht9⟩) hS.2.2 (Nat.le_of_ble_eq_true rfl) (Nat.le_of_ble_eq_true rfl)
  have hP : PA D ca ad w_3 H := by rw [← ht]; exact hP
  refine vx_ret ?_
  exact W.vret hx hb hr (fun t ht hW => ⟨⟨w_3, rfl, hw, by show PA D ca ad w_3 t.heap; rw [ht]; exact hP⟩, hS.F ht⟩) hS.2.2 dX4_checkNumbers_15
set_option maxHeartbeats 4000000 in
set_option maxRecDepth 100000 in
def wpX4_checkCanAsk_B46 (a0 : Int32) (a1 : Int32) (post : St → Prop) (px : String → St → Prop) (w : St) : Prop := px "java/lang/IllegalStateException" w
set_option maxHeartbeats 4000000 in
set_option maxRecDepth 100000 in
def wpX4_checkCanAsk (a0 : Int32) (a1 : Int32) (w : St) (post : St → Prop) (px : String → St → Prop) : Prop := (vp_in a0 6) ∧ (((w.1 25 (a0).toNatClampNeg) = 0 → ((vp_in a1 5) ∧ (((w.1 2 (a1).toNatClampNeg) = 0 → (wpX3_leads a1 w (fun r_6 w_5 => (r_6 = 0 → (wpX4_checkCanAsk_B46 a0 a1 post px w_5)) ∧ (¬ (r_6 = 0) → (((w_5.1 65 0) < 250 → (post w_5)) ∧ (¬ ((w_5.1 65 0) < 250) → (px "java/lang/IllegalStateException" w_5))))))) ∧ (¬ ((w.1 2 (a1).toNatClampNeg) = 0) → (wpX4_checkCanAsk_B46 a0 a1 post px w))))) ∧ (¬ ((w.1 25 (a0).toNatClampNeg) = 0) → (px "java/lang/IllegalStateException" w)))
set_option maxHeartbeats 4000000 in
set_option maxRecDepth 100000 in
theorem mX4_checkCanAsk (l : Launch) (D : va_G) (ca : Nat → ClassId) (ad : Nat → Nat) (base : Nat) (hAd : okA base ad) (w : St) (a0 : Int32) (a1 : Int32) (post : St → Prop) (px : String → St → Prop) (hw : wpX4_checkCanAsk a0 a1 w post px) (hl9 : l.stackTraces = false) : vx_Met l yX4_checkCanAsk wsX4_checkCanAsk ({ frames := 6, cells := 1, slots := 6, locals := 90 } : Room) (va_Pc [.ref (ad 0), .int a0, .int a1] (BX D ca ad base w)) (va_Qv post (Bp D ca ad) (AB base)) (vx_X (fun q : String × St => px q.1 q.2) (Bx D ca ad) (AB base)) 1 6 (AB base) := by
  refine vx_ofW (cc := cX4_checkCanAsk) (maxL := 3) (ret := none) (by decide) rfl ?_
  intro p e s m args below meth c s₁ B hml hEx hv
  obtain ⟨rfl, ⟨hbs, hP, hK⟩, hXP⟩ := hv
  have hx := B.exec
  have hb := B.bytes
  have hr := B.returns
  have hts := atoms_spec (ws := wsX4_checkCanAsk) B.pre
  have hown : s.vm.findClass RX4 = some m.cls := findClass_of_methodNamed B.named
  have hlocks := B.notSynchronized
  have in_X0 : ∀ w ∈ wsX00, w ∈ wsX4_checkCanAsk := by decide +kernel
  have in_X2 : ∀ w ∈ wsX20, w ∈ wsX4_checkCanAsk := by decide +kernel
  have in_X3 : ∀ w ∈ wsX30, w ∈ wsX4_checkCanAsk := by decide +kernel
  have in_X4 : ∀ w ∈ wsX40, w ∈ wsX4_checkCanAsk := by decide +kernel
  have lk_10 := hts (.fieldLink RX4 10 "LockQuorum" "members" "LLockQuorum$Members;") (by decide +kernel)
  have lk_19 := hts (.fieldLink RX4 19 "LockQuorum" "log" "LLockQuorum$Log;") (by decide +kernel)
  have lk_33 := hts (.fieldLink RX4 33 "LockQuorum" "clients" "LLockQuorum$Clients;") (by decide +kernel)
  have lk_52 := hts (.fieldLink RX4 52 "LockQuorum$Members" "down" "[Z") (by decide +kernel)
  have lk_115 := hts (.fieldLink RX4 115 "LockQuorum$Clients" "paused" "[Z") (by decide +kernel)
  have lk_226 := hts (.fieldLink RX4 226 "LockQuorum$Log" "count" "I") (by decide +kernel)
  have hS : va_S (AB base) s.heap s.heap [] := va_S.rf
  have hB46 : ∀ (w : St), wpX4_checkCanAsk_B46 a0 a1 post px w → ∀ (H : Heap) (locs : List Loc), PA D ca ad w H → va_S (AB base) s.heap H locs → ∀ ls : Array Slot, lv_has ls 3 [] → W p l e (headSpec wsX4_checkCanAsk ({ frames := 6, cells := 1, slots := 6, locals := 90 } : Room)).room s m ([Value.ref (ad 0), Value.int a0, Value.int a1].toArray) below meth c H locs 0 0 (vx_MQ below (va_Qv post (Bp D ca ad) (AB base)) (vx_X (fun q : String × St => px q.1 q.2) (Bx D ca ad) (AB base)) ([Value.ref (ad 0), Value.int a0, Value.int a1].toArray) s 1 6 (AB base)) (F0 m 46 ls []) := by
    intro w hw H locs hP hS ls hl
    obtain ⟨sa, hstr⟩ := hXP.2.2.2.1 (284, "the member is down or no leader") (List.mem_of_getElem? (i := 19) rfl)
    exact vx_throwSW (own := RX4) (cls := "java/lang/IllegalStateException") (names := ["java/lang/RuntimeException", "java/lang/Exception"]) hx hb hl9 hown (by decide +kernel) (by decide +kernel) (hts (.classLink RX4 66 "java/lang/IllegalStateException") (by decide +kernel)) (hts (.initialized "java/lang/IllegalStateException") (by decide +kernel)) hstr (vx_hat (L := vx_atS RX4 70 "java/lang/IllegalStateException" ["java/lang/RuntimeException", "java/lang/Exception"]) (B := [.castable "java/lang/IllegalStateException" "java/lang/IllegalStateException", .declares ⟨"java/lang/RuntimeException", "<init>", "(Ljava/lang/String;)V"⟩, .declares ⟨"java/lang/Exception", "<init>", "(Ljava/lang/String;)V"⟩, .declares ⟨"java/lang/Throwable", "<init>", "(Ljava/lang/String;)V"⟩]) (fun w hw => hts w ((by decide +kernel : ∀ w ∈ (vx_atS RX4 70 "java/lang/IllegalStateException" ["java/lang/RuntimeException", "java/lang/Exception"]).filter goodWord, w ∈ wsX4_checkCanAsk) w hw)) (by decide +kernel) (vx_c (va_Nw.use rfl (hXP.2.2.1 (.castable "java/lang/IllegalStateException" "java/lang/IllegalStateException") (List.mem_of_getElem? (i := 2) rfl))) (vx_c (va_Nw.use rfl (hXP.2.2.1 (.declares ⟨"java/lang/RuntimeException", "<init>", "(Ljava/lang/String;)V"⟩) (List.mem_of_getElem? (i := 6) rfl))) (vx_c (va_Nw.use rfl (hXP.2.2.1 (.declares ⟨"java/lang/Exception", "<init>", "(Ljava/lang/String;)V"⟩) (List.mem_of_getElem? (i := 7) rfl))) (vx_c (va_Nw.use rfl (hXP.2.2.1 (.declares ⟨"java/lang/Throwable", "<init>", "(Ljava/lang/String;)V"⟩) (List.mem_of_getElem? (i := 8) rfl))) (vx_n)))))) (by decide +kernel) hXP.1 hXP.2.1 hS (hl.1.trans hml.symm) dX4_checkCanAsk_46 dX4_checkCanAsk_49 dX4_checkCanAsk_50 dX4_checkCanAsk_53 dX4_checkCanAsk_56 (fun x hx => (hEx x hx).elim) (Nat.le_of_ble_eq_true rfl) (Nat.le_of_ble_eq_true rfl) (Nat.le_of_ble_eq_true rfl) (Nat.le_of_ble_eq_true rfl) hlocks (fun t ha hsz hk => ⟨("java/lang/IllegalStateException", w), hw, ⟨rfl, hP.kept (fun k q hq => hk q.1 (hP k q hq).lt)⟩, Nat.le_trans hS.1 hsz, fun q h1 h2 => (hk q (Nat.lt_of_lt_of_le h1 hS.1)).trans (hS.2.1 q h1 h2)⟩) hS.2.2 (Nat.le_of_ble_eq_true rfl) (Nat.le_of_ble_eq_true rfl)
  have hl := lv_entry ([.ref (ad 0), .int a0, .int a1]) (n := 3) (Nat.le_of_ble_eq_true rfl)
  rw [lg_entry_eq]
  generalize (lg_sl ([.ref (ad 0), .int a0, .int a1]) ++ List.replicate (3 - (lg_sl ([.ref (ad 0), .int a0, .int a1])).length) Slot.unset).toArray = ls at hl ⊢
  have hl : lv_has ls 3 [(0, .ref (ad 0)), (1, .int a0), (2, .int a1)] := hl
  refine lv_aload_n hx hb dX4_checkCanAsk_0 rfl (lv_at hl 0 rfl) ?_
  refine va_get (D := D) (ci := 6) (v := .ref (ad 24)) (C := RX4) (T := TX4) (N := 6) hx hb hts in_X4 hown hK hP 0 (wg0 ca ad w) rfl 3 (by decide) lk_33 (fun _ h9 => h9) rfl dX4_checkCanAsk_1 ?_
  refine va_get (D := D) (ci := 2) (v := .ref (ad 25)) (C := RX0) (T := TX0) (N := 9) hx hb hts in_X0 hown hK hP 24 (wg24 ca ad w) rfl 1 (by decide) lk_115 (fun _ h9 => h9) rfl dX4_checkCanAsk_4 ?_
  refine lv_iload_n hx hb dX4_checkCanAsk_7 rfl (lv_at hl 1 rfl) ?_
  obtain ⟨h_1, hw⟩ := hw
  refine va_zald hx hb hK hP 25 1 (wg25 ca ad w) rfl h_1 dX4_checkCanAsk_8 ?_
  refine lv_if_eq (tgt := 23) hx hb dX4_checkCanAsk_9 (by decide) (fun c_2 => ?_) (fun c_2 => ?_)
  · have hw := hw.1 c_2
    refine lv_aload_n hx hb dX4_checkCanAsk_23 rfl (lv_at hl 0 rfl) ?_
    refine va_get (D := D) (ci := 6) (v := .ref (ad 1)) (C := RX4) (T := TX4) (N := 6) hx hb hts in_X4 hown hK hP 0 (wg0 ca ad w) rfl 0 (by decide) lk_10 (fun _ h9 => h9) rfl dX4_checkCanAsk_24 ?_
    refine va_get (D := D) (ci := 5) (v := .ref (ad 2)) (C := RX3) (T := TX3) (N := 5) hx hb hts in_X3 hown hK hP 1 (wg1 ca ad w) rfl 0 (by decide) lk_52 (fun _ h9 => h9) rfl dX4_checkCanAsk_27 ?_
    refine lv_iload_n hx hb dX4_checkCanAsk_30 rfl (lv_at hl 2 rfl) ?_
    obtain ⟨h_3, hw⟩ := hw
    refine va_zald hx hb hK hP 2 1 (wg2 ca ad w) rfl h_3 dX4_checkCanAsk_31 ?_
    refine lv_if_ne (tgt := 46) hx hb dX4_checkCanAsk_32 (by decide) (fun c_4 => ?_) (fun c_4 => ?_)
    · have hw := hw.2 c_4
      exact hB46 w hw _ _ hP hS ls (lv_sub hl [] rfl)
    · have hw := hw.1 c_4
      refine lv_aload_n hx hb dX4_checkCanAsk_35 rfl (lv_at hl 0 rfl) ?_
      refine va_get (D := D) (ci := 6) (v := .ref (ad 1)) (C := RX4) (T := TX4) (N := 6) hx hb hts in_X4 hown hK hP 0 (wg0 ca ad w) rfl 0 (by decide) lk_10 (fun _ h9 => h9) rfl dX4_checkCanAsk_36 ?_
      refine lv_iload_n hx hb dX4_checkCanAsk_39 rfl (lv_at hl 2 rfl) ?_
      refine va_calli (va_runV (As := [.int a1]) (rest := []) ⟨hx, hb, hml, hown, hts⟩ (mX3_leads l D ca ad base hAd w a1 _ hw) (cwV 1 hts gX4_checkCanAsk_X3_leads rfl rfl rfl (by decide +kernel) ⟨Nat.le_of_ble_eq_true rfl, Nat.le_of_ble_eq_true rfl⟩) (pv [.int a1] hK hP hbs hS rfl (wg1 ca ad w)) rfl rfl hl.1 rfl (lv_room (Nat.le_of_ble_eq_true rfl)) dX4_checkCanAsk_40 ⟨Nat.le_of_ble_eq_true rfl, Nat.le_of_ble_eq_true rfl⟩) hS (fun q _ h => h) (fun q h => h) (fun r_6 w_5 t H locs ht hvm hw hP hz1 hk1 hS => ?_)
      have hP : PA D ca ad w_5 H := by rw [← ht]; exact hP
      refine lv_if_ne (tgt := 57) hx hb dX4_checkCanAsk_43 (by decide) (fun c_7 => ?_) (fun c_7 => ?_)
      · have hw := hw.2 c_7
        refine lv_aload_n hx hb dX4_checkCanAsk_57 rfl (lv_at hl 0 rfl) ?_
        refine va_get (D := D) (ci := 6) (v := .ref (ad 7)) (C := RX4) (T := TX4) (N := 6) hx hb hts in_X4 hown hK hP 0 (wg0 ca ad w_5) rfl 1 (by decide) lk_19 (fun _ h9 => h9) rfl dX4_checkCanAsk_58 ?_
        refine va_get (D := D) (ci := 4) (v := .int (w_5.1 65 0)) (C := RX2) (T := TX2) (N := 6) hx hb hts in_X2 hown hK hP 7 (wg7 ca ad w_5) rfl 0 (by decide) lk_226 (fun _ h9 => h9) rfl dX4_checkCanAsk_61 ?_
        refine lv_sipush (v := 250) hx hb dX4_checkCanAsk_64 (by decide) ?_
        refine lv_icmp_lt (tgt := 81) hx hb dX4_checkCanAsk_67 (by decide) (fun c_8 => ?_) (fun c_8 => ?_)
        · have hw := hw.1 c_8
          refine W.widen (k := 1) (n := 6) (Nat.le_of_ble_eq_true rfl) (Nat.le_of_ble_eq_true rfl) ?_
          refine vx_ret ?_
          exact W.vret hx hb hr (fun t ht hW => ⟨⟨w_5, rfl, hw, by show PA D ca ad w_5 t.heap; rw [ht]; exact hP⟩, hS.F ht⟩) hS.2.2 dX4_checkCanAsk_81
        · have hw := hw.2 c_8
          obtain ⟨sa, hstr⟩ := hXP.2.2.2.1 (286, "there are 250 entries") (List.mem_of_getElem? (i := 20) rfl)
          exact vx_throwSW (own := RX4) (cls := "java/lang/IllegalStateException") (names := ["java/lang/RuntimeException", "java/lang/Exception"]) hx hb hl9 hown (by decide +kernel) (by decide +kernel) (hts (.classLink RX4 66 "java/lang/IllegalStateException") (by decide +kernel)) (hts (.initialized "java/lang/IllegalStateException") (by decide +kernel)) hstr (vx_hat (L := vx_atS RX4 70 "java/lang/IllegalStateException" ["java/lang/RuntimeException", "java/lang/Exception"]) (B := [.castable "java/lang/IllegalStateException" "java/lang/IllegalStateException", .declares ⟨"java/lang/RuntimeException", "<init>", "(Ljava/lang/String;)V"⟩, .declares ⟨"java/lang/Exception", "<init>", "(Ljava/lang/String;)V"⟩, .declares ⟨"java/lang/Throwable", "<init>", "(Ljava/lang/String;)V"⟩]) (fun w hw => hts w ((by decide +kernel : ∀ w ∈ (vx_atS RX4 70 "java/lang/IllegalStateException" ["java/lang/RuntimeException", "java/lang/Exception"]).filter goodWord, w ∈ wsX4_checkCanAsk) w hw)) (by decide +kernel) (vx_c (va_Nw.use rfl (hXP.2.2.1 (.castable "java/lang/IllegalStateException" "java/lang/IllegalStateException") (List.mem_of_getElem? (i := 2) rfl))) (vx_c (va_Nw.use rfl (hXP.2.2.1 (.declares ⟨"java/lang/RuntimeException", "<init>", "(Ljava/lang/String;)V"⟩) (List.mem_of_getElem? (i := 6) rfl))) (vx_c (va_Nw.use rfl (hXP.2.2.1 (.declares ⟨"java/lang/Exception", "<init>", "(Ljava/lang/String;)V"⟩) (List.mem_of_getElem? (i := 7) rfl))) (vx_c (va_Nw.use rfl (hXP.2.2.1 (.declares ⟨"java/lang/Throwable", "<init>", "(Ljava/lang/String;)V"⟩) (List.mem_of_getElem? (i := 8) rfl))) (vx_n)))))) (by decide +kernel) hXP.1 hXP.2.1 hS (hl.1.trans hml.symm) dX4_checkCanAsk_70 dX4_checkCanAsk_73 dX4_checkCanAsk_74 dX4_checkCanAsk_77 dX4_checkCanAsk_80 (fun x hx => (hEx x hx).elim) (Nat.le_of_ble_eq_true rfl) (Nat.le_of_ble_eq_true rfl) (Nat.le_of_ble_eq_true rfl) (Nat.le_of_ble_eq_true rfl) hlocks (fun t ha hsz hk => ⟨("java/lang/IllegalStateException", w_5), hw, ⟨rfl, hP.kept (fun k q hq => hk q.1 (hP k q hq).lt)⟩, Nat.le_trans hS.1 hsz, fun q h1 h2 => (hk q (Nat.lt_of_lt_of_le h1 hS.1)).trans (hS.2.1 q h1 h2)⟩) hS.2.2 (Nat.le_of_ble_eq_true rfl) (Nat.le_of_ble_eq_true rfl)
      · have hw := hw.1 c_7
        exact hB46 w_5 hw _ _ hP hS ls (lv_sub hl [] rfl)
  · have hw := hw.2 c_2
    obtain ⟨sa, hstr⟩ := hXP.2.2.2.1 (282, "the client is paused") (List.mem_of_getElem? (i := 18) rfl)
    exact vx_throwSW (own := RX4) (cls := "java/lang/IllegalStateException") (names := ["java/lang/RuntimeException", "java/lang/Exception"]) hx hb hl9 hown (by decide +kernel) (by decide +kernel) (hts (.classLink RX4 66 "java/lang/IllegalStateException") (by decide +kernel)) (hts (.initialized "java/lang/IllegalStateException") (by decide +kernel)) hstr (vx_hat (L := vx_atS RX4 70 "java/lang/IllegalStateException" ["java/lang/RuntimeException", "java/lang/Exception"]) (B := [.castable "java/lang/IllegalStateException" "java/lang/IllegalStateException", .declares ⟨"java/lang/RuntimeException", "<init>", "(Ljava/lang/String;)V"⟩, .declares ⟨"java/lang/Exception", "<init>", "(Ljava/lang/String;)V"⟩, .declares ⟨"java/lang/Throwable", "<init>", "(Ljava/lang/String;)V"⟩]) (fun w hw => hts w ((by decide +kernel : ∀ w ∈ (vx_atS RX4 70 "java/lang/IllegalStateException" ["java/lang/RuntimeException", "java/lang/Exception"]).filter goodWord, w ∈ wsX4_checkCanAsk) w hw)) (by decide +kernel) (vx_c (va_Nw.use rfl (hXP.2.2.1 (.castable "java/lang/IllegalStateException" "java/lang/IllegalStateException") (List.mem_of_getElem? (i := 2) rfl))) (vx_c (va_Nw.use rfl (hXP.2.2.1 (.declares ⟨"java/lang/RuntimeException", "<init>", "(Ljava/lang/String;)V"⟩) (List.mem_of_getElem? (i := 6) rfl))) (vx_c (va_Nw.use rfl (hXP.2.2.1 (.declares ⟨"java/lang/Exception", "<init>", "(Ljava/lang/String;)V"⟩) (List.mem_of_getElem? (i := 7) rfl))) (vx_c (va_Nw.use rfl (hXP.2.2.1 (.declares ⟨"java/lang/Throwable", "<init>", "(Ljava/lang/String;)V"⟩) (List.mem_of_getElem? (i := 8) rfl))) (vx_n)))))) (by decide +kernel) hXP.1 hXP.2.1 hS (hl.1.trans hml.symm) dX4_checkCanAsk_12 dX4_checkCanAsk_15 dX4_checkCanAsk_16 dX4_checkCanAsk_19 dX4_checkCanAsk_22 (fun x hx => (hEx x hx).elim) (Nat.le_of_ble_eq_true rfl) (Nat.le_of_ble_eq_true rfl) (Nat.le_of_ble_eq_true rfl) (Nat.le_of_ble_eq_true rfl) hlocks (fun t ha hsz hk => ⟨("java/lang/IllegalStateException", w), hw, ⟨rfl, hP.kept (fun k q hq => hk q.1 (hP k q hq).lt)⟩, Nat.le_trans hS.1 hsz, fun q h1 h2 => (hk q (Nat.lt_of_lt_of_le h1 hS.1)).trans (hS.2.1 q h1 h2)⟩) hS.2.2 (Nat.le_of_ble_eq_true rfl) (Nat.le_of_ble_eq_true rfl)
set_option maxHeartbeats 4000000 in
set_option maxRecDepth 100000 in
def wpX4_makeEntry (a0 : Int32) (a1 : Int32) (a2 : Int32) (a3 : Int32) (a4 : Int32) (w : St) (post : St → Prop) : Prop := (vp_in a0 5) ∧ (wpX2_add a1 (w.1 3 (a0).toNatClampNeg) a2 a3 a4 w (fun w_2 => wpX3_teach a0 (w_2.1 65 0) w_2 (fun w_3 => post w_3)))
set_option maxHeartbeats 4000000 in
set_option maxRecDepth 100000 in
theorem mX4_makeEntry (l : Launch) (D : va_G) (ca : Nat → ClassId) (ad : Nat → Nat) (base : Nat) (hAd : okA base ad) (w : St) (a0 : Int32) (a1 : Int32) (a2 : Int32) (a3 : Int32) (a4 : Int32) (post : St → Prop) (hw : wpX4_makeEntry a0 a1 a2 a3 a4 w post) : Met l yX4_makeEntry wsX4_makeEntry ({ frames := 2, cells := 0, slots := 0, locals := 45 } : Room) (va_Pc [.ref (ad 0), .int a0, .int a1, .int a2, .int a3, .int a4] (BU D ca ad base w)) (va_Qv post (Bp D ca ad) (AB base)) 0 0 (AB base) := by
  refine Met.ofW (cc := cX4_makeEntry) (maxL := 6) (ret := none) (by decide) rfl ?_
  intro p e s m args below meth c s₁ B hml hv
  obtain ⟨rfl, hbs, hP, hK⟩ := hv
  have hx := B.exec
  have hb := B.bytes
  have hr := B.returns
  have hts := atoms_spec (ws := wsX4_makeEntry) B.pre
  have hown : s.vm.findClass RX4 = some m.cls := findClass_of_methodNamed B.named
  have hlocks := B.notSynchronized
  have in_X2 : ∀ w ∈ wsX20, w ∈ wsX4_makeEntry := by decide +kernel
  have in_X3 : ∀ w ∈ wsX30, w ∈ wsX4_makeEntry := by decide +kernel
  have in_X4 : ∀ w ∈ wsX40, w ∈ wsX4_makeEntry := by decide +kernel
  have lk_10 := hts (.fieldLink RX4 10 "LockQuorum" "members" "LLockQuorum$Members;") (by decide +kernel)
  have lk_19 := hts (.fieldLink RX4 19 "LockQuorum" "log" "LLockQuorum$Log;") (by decide +kernel)
  have lk_74 := hts (.fieldLink RX4 74 "LockQuorum$Members" "term" "[I") (by decide +kernel)
  have lk_226 := hts (.fieldLink RX4 226 "LockQuorum$Log" "count" "I") (by decide +kernel)
  have hS : va_S (AB base) s.heap s.heap [] := va_S.rf
  have hl := lv_entry ([.ref (ad 0), .int a0, .int a1, .int a2, .int a3, .int a4]) (n := 6) (Nat.le_of_ble_eq_true rfl)
  rw [lg_entry_eq]
  generalize (lg_sl ([.ref (ad 0), .int a0, .int a1, .int a2, .int a3, .int a4]) ++ List.replicate (6 - (lg_sl ([.ref (ad 0), .int a0, .int a1, .int a2, .int a3, .int a4])).length) Slot.unset).toArray = ls at hl ⊢
  have hl : lv_has ls 6 [(0, .ref (ad 0)), (1, .int a0), (2, .int a1), (3, .int a2), (4, .int a3), (5, .int a4)] := hl
  refine lv_aload_n hx hb dX4_makeEntry_0 rfl (lv_at hl 0 rfl) ?_
  refine va_get (D := D) (ci := 6) (v := .ref (ad 7)) (C := RX4) (T := TX4) (N := 6) hx hb hts in_X4 hown hK hP 0 (wg0 ca ad w) rfl 1 (by decide) lk_19 (fun _ h9 => h9) rfl dX4_makeEntry_1 ?_
  refine lv_iload_n hx hb dX4_makeEntry_4 rfl (lv_at hl 2 rfl) ?_
  refine lv_aload_n hx hb dX4_makeEntry_5 rfl (lv_at hl 0 rfl) ?_
  refine va_get (D := D) (ci := 6) (v := .ref (ad 1)) (C := RX4) (T := TX4) (N := 6) hx hb hts in_X4 hown hK hP 0 (wg0 ca ad w) rfl 0 (by decide) lk_10 (fun _ h9 => h9) rfl dX4_makeEntry_6 ?_
  refine va_get (D := D) (ci := 5) (v := .ref (ad 3)) (C := RX3) (T := TX3) (N := 5) hx hb hts in_X3 hown hK hP 1 (wg1 ca ad w) rfl 1 (by decide) lk_74 (fun _ h9 => h9) rfl dX4_makeEntry_9 ?_
  refine lv_iload_n hx hb dX4_makeEntry_12 rfl (lv_at hl 1 rfl) ?_
  obtain ⟨h_1, hw⟩ := hw
  refine va_iald hx hb hK hP 3 0 (wg3 ca ad w) rfl h_1 dX4_makeEntry_13 ?_
  refine lv_iload_n hx hb dX4_makeEntry_14 rfl (lv_at hl 3 rfl) ?_
  refine lv_iload hx hb dX4_makeEntry_15 (lv_at hl 4 rfl) ?_
  refine lv_iload hx hb dX4_makeEntry_17 (lv_at hl 5 rfl) ?_
  refine va_callv (va_runV (As := [.int a1, .int (w.1 3 (a0).toNatClampNeg), .int a2, .int a3, .int a4]) (rest := []) ⟨hx, hb, hml, hown, hts⟩ (mX2_add l D ca ad base hAd w a1 (w.1 3 (a0).toNatClampNeg) a2 a3 a4 _ hw) (cwV 5 hts gX4_makeEntry_X2_add rfl rfl rfl (by decide +kernel) ⟨Nat.le_of_ble_eq_true rfl, Nat.le_of_ble_eq_true rfl⟩) (pv [.int a1, .int (w.1 3 (a0).toNatClampNeg), .int a2, .int a3, .int a4] hK hP hbs hS rfl (wg7 ca ad w)) rfl rfl hl.1 rfl (lv_room (Nat.le_of_ble_eq_true rfl)) dX4_makeEntry_19 ⟨Nat.le_of_ble_eq_true rfl, Nat.le_of_ble_eq_true rfl⟩) hS (fun q _ h => h) (fun q h => h) (fun w_2 t H locs ht hvm hw hP hz1 hk1 hS => ?_)
  have hP : PA D ca ad w_2 H := by rw [← ht]; exact hP
  refine lv_aload_n hx hb dX4_makeEntry_22 rfl (lv_at hl 0 rfl) ?_
  refine va_get (D := D) (ci := 6) (v := .ref (ad 1)) (C := RX4) (T := TX4) (N := 6) hx hb hts in_X4 hown hK hP 0 (wg0 ca ad w_2) rfl 0 (by decide) lk_10 (fun _ h9 => h9) rfl dX4_makeEntry_23 ?_
  refine lv_iload_n hx hb dX4_makeEntry_26 rfl (lv_at hl 1 rfl) ?_
  refine lv_aload_n hx hb dX4_makeEntry_27 rfl (lv_at hl 0 rfl) ?_
  refine va_get (D := D) (ci := 6) (v := .ref (ad 7)) (C := RX4) (T := TX4) (N := 6) hx hb hts in_X4 hown hK hP 0 (wg0 ca ad w_2) rfl 1 (by decide) lk_19 (fun _ h9 => h9) rfl dX4_makeEntry_28 ?_
  refine va_get (D := D) (ci := 4) (v := .int (w_2.1 65 0)) (C := RX2) (T := TX2) (N := 6) hx hb hts in_X2 hown hK hP 7 (wg7 ca ad w_2) rfl 0 (by decide) lk_226 (fun _ h9 => h9) rfl dX4_makeEntry_31 ?_
  refine va_callv (va_runV (As := [.int a0, .int (w_2.1 65 0)]) (rest := []) ⟨hx, hb, hml, hown, hts⟩ (mX3_teach l D ca ad base hAd w_2 a0 (w_2.1 65 0) _ hw) (cwV 2 hts gX4_makeEntry_X3_teach rfl rfl rfl (by decide +kernel) ⟨Nat.le_of_ble_eq_true rfl, Nat.le_of_ble_eq_true rfl⟩) (pv [.int a0, .int (w_2.1 65 0)] hK hP hbs hS rfl (wg1 ca ad w_2)) rfl rfl hl.1 rfl (lv_room (Nat.le_of_ble_eq_true rfl)) dX4_makeEntry_34 ⟨Nat.le_of_ble_eq_true rfl, Nat.le_of_ble_eq_true rfl⟩) hS (fun q _ h => h) (fun q h => h) (fun w_3 t H locs ht hvm hw hP hz1 hk1 hS => ?_)
  have hP : PA D ca ad w_3 H := by rw [← ht]; exact hP
  exact W.vret hx hb hr (fun t ht hW => ⟨⟨w_3, rfl, hw, by show PA D ca ad w_3 t.heap; rw [ht]; exact hP⟩, hS.F ht⟩) hS.2.2 dX4_makeEntry_37
set_option maxHeartbeats 4000000 in
set_option maxRecDepth 100000 in
def wpX4_startLease (a0 : Int32) (a1 : Int32) (a2 : Int32) (w : St) (post : St → Prop) : Prop := wpX1_takeOut a1 a0 w (fun w_1 => (vp_in a1 4) ∧ (∀ w_3 : St, w_3 = (uA w_1 16 (upd (w_1.1 16) (a1).toNatClampNeg (-1))) → (vp_in a1 4) ∧ (∀ w_6 : St, w_6 = (uA w_3 14 (upd (w_3.1 14) (a1).toNatClampNeg a0)) → (vp_in a1 4) ∧ (∀ w_9 : St, w_9 = (uA w_6 15 (upd (w_6.1 15) (a1).toNatClampNeg ((w_6.1 64 0) + 12))) → ∀ w_11 : St, w_11 = (uL w_9 0 ((w_9.2.1 0) + 12)) → wpX0_noteLease a0 a1 (w_11.1 64 0) w_11 (fun w_13 => (vp_in a1 4) ∧ (wpX4_makeEntry a2 108 a0 a1 (w_13.1 15 (a1).toNatClampNeg) w_13 (fun w_15 => post w_15)))))))
set_option maxHeartbeats 4000000 in
set_option maxRecDepth 100000 in
theorem mX4_startLease (l : Launch) (D : va_G) (ca : Nat → ClassId) (ad : Nat → Nat) (base : Nat) (hAd : okA base ad) (w : St) (a0 : Int32) (a1 : Int32) (a2 : Int32) (post : St → Prop) (hw : wpX4_startLease a0 a1 a2 w post) : Met l yX4_startLease wsX4_startLease ({ frames := 3, cells := 0, slots := 0, locals := 70 } : Room) (va_Pc [.ref (ad 0), .int a0, .int a1, .int a2] (BU D ca ad base w)) (va_Qv post (Bp D ca ad) (AB base)) 0 0 (AB base) := by
  refine Met.ofW (cc := cX4_startLease) (maxL := 4) (ret := none) (by decide) rfl ?_
  intro p e s m args below meth c s₁ B hml hv
  obtain ⟨rfl, hbs, hP, hK⟩ := hv
  have hx := B.exec
  have hb := B.bytes
  have hr := B.returns
  have hts := atoms_spec (ws := wsX4_startLease) B.pre
  have hown : s.vm.findClass RX4 = some m.cls := findClass_of_methodNamed B.named
  have hlocks := B.notSynchronized
  have in_X1 : ∀ w ∈ wsX10, w ∈ wsX4_startLease := by decide +kernel
  have in_X4 : ∀ w ∈ wsX40, w ∈ wsX4_startLease := by decide +kernel
  have lk_26 := hts (.fieldLink RX4 26 "LockQuorum" "locks" "LLockQuorum$Locks;") (by decide +kernel)
  have lk_33 := hts (.fieldLink RX4 33 "LockQuorum" "clients" "LLockQuorum$Clients;") (by decide +kernel)
  have lk_44 := hts (.fieldLink RX4 44 "LockQuorum" "now" "I") (by decide +kernel)
  have lk_129 := hts (.fieldLink RX4 129 "LockQuorum$Locks" "thief" "[I") (by decide +kernel)
  have lk_190 := hts (.fieldLink RX4 190 "LockQuorum$Locks" "owner" "[I") (by decide +kernel)
  have lk_198 := hts (.fieldLink RX4 198 "LockQuorum$Locks" "end" "[I") (by decide +kernel)
  have lk_238 := hts (.fieldLink RX4 238 "LockQuorum" "leasedTicks" "J") (by decide +kernel)
  have hS : va_S (AB base) s.heap s.heap [] := va_S.rf
  have hl := lv_entry ([.ref (ad 0), .int a0, .int a1, .int a2]) (n := 4) (Nat.le_of_ble_eq_true rfl)
  rw [lg_entry_eq]
  generalize (lg_sl ([.ref (ad 0), .int a0, .int a1, .int a2]) ++ List.replicate (4 - (lg_sl ([.ref (ad 0), .int a0, .int a1, .int a2])).length) Slot.unset).toArray = ls at hl ⊢
  have hl : lv_has ls 4 [(0, .ref (ad 0)), (1, .int a0), (2, .int a1), (3, .int a2)] := hl
  refine lv_aload_n hx hb dX4_startLease_0 rfl (lv_at hl 0 rfl) ?_
  refine va_get (D := D) (ci := 6) (v := .ref (ad 13)) (C := RX4) (T := TX4) (N := 6) hx hb hts in_X4 hown hK hP 0 (wg0 ca ad w) rfl 2 (by decide) lk_26 (fun _ h9 => h9) rfl dX4_startLease_1 ?_
  refine lv_iload_n hx hb dX4_startLease_4 rfl (lv_at hl 2 rfl) ?_
  refine lv_iload_n hx hb dX4_startLease_5 rfl (lv_at hl 1 rfl) ?_
  refine va_callv (va_runV (As := [.int a1, .int a0]) (rest := []) ⟨hx, hb, hml, hown, hts⟩ (mX1_takeOut l D ca ad base hAd w a1 a0 _ hw) (cwV 2 hts gX4_startLease_X1_takeOut rfl rfl rfl (by decide +kernel) ⟨Nat.le_of_ble_eq_true rfl, Nat.le_of_ble_eq_true rfl⟩) (pv [.int a1, .int a0] hK hP hbs hS rfl (wg13 ca ad w)) rfl rfl hl.1 rfl (lv_room (Nat.le_of_ble_eq_true rfl)) dX4_startLease_6 ⟨Nat.le_of_ble_eq_true rfl, Nat.le_of_ble_eq_true rfl⟩) hS (fun q _ h => h) (fun q h => h) (fun w_1 t H locs ht hvm hw hP hz1 hk1 hS => ?_)
  have hP : PA D ca ad w_1 H := by rw [← ht]; exact hP
  refine lv_aload_n hx hb dX4_startLease_9 rfl (lv_at hl 0 rfl) ?_
  refine va_get (D := D) (ci := 6) (v := .ref (ad 13)) (C := RX4) (T := TX4) (N := 6) hx hb hts in_X4 hown hK hP 0 (wg0 ca ad w_1) rfl 2 (by decide) lk_26 (fun _ h9 => h9) rfl dX4_startLease_10 ?_
  refine va_get (D := D) (ci := 3) (v := .ref (ad 16)) (C := RX1) (T := TX1) (N := 6) hx hb hts in_X1 hown hK hP 13 (wg13 ca ad w_1) rfl 2 (by decide) lk_129 (fun _ h9 => h9) rfl dX4_startLease_13 ?_
  refine lv_iload_n hx hb dX4_startLease_16 rfl (lv_at hl 2 rfl) ?_
  refine lv_iconst (v := (-1)) hx hb dX4_startLease_17 (by decide) ?_
  obtain ⟨h_2, hw⟩ := hw
  refine va_iast hx hb hK hP (DA hAd) hS 16 0 (wg16 ca ad w_1) rfl h_2 dX4_startLease_18 (fun H locs hP hD hS => ?_)
  obtain ⟨w_3, e_4⟩ : ∃ z : St, z = (uA w_1 16 (upd (w_1.1 16) (a1).toNatClampNeg (-1))) := ⟨_, rfl⟩
  have hP : PA D ca ad w_3 H := by rw [e_4]; exact wu16 hP
  have hw := hw w_3 e_4
  refine lv_aload_n hx hb dX4_startLease_19 rfl (lv_at hl 0 rfl) ?_
  refine va_get (D := D) (ci := 6) (v := .ref (ad 13)) (C := RX4) (T := TX4) (N := 6) hx hb hts in_X4 hown hK hP 0 (wg0 ca ad w_3) rfl 2 (by decide) lk_26 (fun _ h9 => h9) rfl dX4_startLease_20 ?_
  refine va_get (D := D) (ci := 3) (v := .ref (ad 14)) (C := RX1) (T := TX1) (N := 6) hx hb hts in_X1 hown hK hP 13 (wg13 ca ad w_3) rfl 0 (by decide) lk_190 (fun _ h9 => h9) rfl dX4_startLease_23 ?_
  refine lv_iload_n hx hb dX4_startLease_26 rfl (lv_at hl 2 rfl) ?_
  refine lv_iload_n hx hb dX4_startLease_27 rfl (lv_at hl 1 rfl) ?_
  obtain ⟨h_5, hw⟩ := hw
  refine va_iast hx hb hK hP (DA hAd) hS 14 0 (wg14 ca ad w_3) rfl h_5 dX4_startLease_28 (fun H locs hP hD hS => ?_)
  obtain ⟨w_6, e_7⟩ : ∃ z : St, z = (uA w_3 14 (upd (w_3.1 14) (a1).toNatClampNeg a0)) := ⟨_, rfl⟩
  have hP : PA D ca ad w_6 H := by rw [e_7]; exact wu14 hP
  have hw := hw w_6 e_7
  refine lv_aload_n hx hb dX4_startLease_29 rfl (lv_at hl 0 rfl) ?_
  refine va_get (D := D) (ci := 6) (v := .ref (ad 13)) (C := RX4) (T := TX4) (N := 6) hx hb hts in_X4 hown hK hP 0 (wg0 ca ad w_6) rfl 2 (by decide) lk_26 (fun _ h9 => h9) rfl dX4_startLease_30 ?_
  refine va_get (D := D) (ci := 3) (v := .ref (ad 15)) (C := RX1) (T := TX1) (N := 6) hx hb hts in_X1 hown hK hP 13 (wg13 ca ad w_6) rfl 1 (by decide) lk_198 (fun _ h9 => h9) rfl dX4_startLease_33 ?_
  refine lv_iload_n hx hb dX4_startLease_36 rfl (lv_at hl 2 rfl) ?_
  refine lv_aload_n hx hb dX4_startLease_37 rfl (lv_at hl 0 rfl) ?_
  refine va_get (D := D) (ci := 6) (v := .int (w_6.1 64 0)) (C := RX4) (T := TX4) (N := 6) hx hb hts in_X4 hown hK hP 0 (wg0 ca ad w_6) rfl 4 (by decide) lk_44 (fun _ h9 => h9) rfl dX4_startLease_38 ?_
  refine lv_bipush (v := 12) hx hb dX4_startLease_41 (by decide) ?_
  refine lv_iadd hx hb dX4_startLease_43 ?_
  obtain ⟨h_8, hw⟩ := hw
  refine va_iast hx hb hK hP (DA hAd) hS 15 0 (wg15 ca ad w_6) rfl h_8 dX4_startLease_44 (fun H locs hP hD hS => ?_)
  obtain ⟨w_9, e_10⟩ : ∃ z : St, z = (uA w_6 15 (upd (w_6.1 15) (a1).toNatClampNeg ((w_6.1 64 0) + 12))) := ⟨_, rfl⟩
  have hP : PA D ca ad w_9 H := by rw [e_10]; exact wu15 hP
  have hw := hw w_9 e_10
  refine lv_aload_n hx hb dX4_startLease_45 rfl (lv_at hl 0 rfl) ?_
  refine lv_dup hx hb dX4_startLease_46 rfl ?_
  refine va_get (D := D) (ci := 6) (v := .long (w_9.2.1 0)) (C := RX4) (T := TX4) (N := 6) hx hb hts in_X4 hown hK hP 0 (wg0 ca ad w_9) rfl 5 (by decide) lk_238 (fun _ h9 => h9) rfl dX4_startLease_47 ?_
  refine lv_ldc2 (own := RX4) (v := 12) hx hb hown (hts (.constantLong RX4 300 12) (by decide +kernel)) dX4_startLease_50 ?_
  refine lv_ladd hx hb dX4_startLease_53 ?_
  refine va_put (D := D) (ci := 6) (v := .long ((w_9.2.1 0) + 12)) (ty := .long) (C := RX4) (T := TX4) (N := 6) hx hb hts in_X4 tyX4 tyX4_ok nmX4 hown hK hP (DA hAd) hS 0 (wg0 ca ad w_9) rfl 5 (by decide) lk_238 (fun _ h9 => h9) rfl (by decide +kernel) rfl rfl (Nat.le_of_ble_eq_true rfl) dX4_startLease_54 (fun H locs hP hD hS => ?_)
  obtain ⟨w_11, e_12⟩ : ∃ z : St, z = (uL w_9 0 ((w_9.2.1 0) + 12)) := ⟨_, rfl⟩
  have hP : PA D ca ad w_11 H := by rw [e_12]; exact wl0 hP
  have hw := hw w_11 e_12
  refine lv_aload_n hx hb dX4_startLease_57 rfl (lv_at hl 0 rfl) ?_
  refine va_get (D := D) (ci := 6) (v := .ref (ad 24)) (C := RX4) (T := TX4) (N := 6) hx hb hts in_X4 hown hK hP 0 (wg0 ca ad w_11) rfl 3 (by decide) lk_33 (fun _ h9 => h9) rfl dX4_startLease_58 ?_
  refine lv_iload_n hx hb dX4_startLease_61 rfl (lv_at hl 1 rfl) ?_
  refine lv_iload_n hx hb dX4_startLease_62 rfl (lv_at hl 2 rfl) ?_
  refine lv_aload_n hx hb dX4_startLease_63 rfl (lv_at hl 0 rfl) ?_
  refine va_get (D := D) (ci := 6) (v := .int (w_11.1 64 0)) (C := RX4) (T := TX4) (N := 6) hx hb hts in_X4 hown hK hP 0 (wg0 ca ad w_11) rfl 4 (by decide) lk_44 (fun _ h9 => h9) rfl dX4_startLease_64 ?_
  refine va_callv (va_runV (As := [.int a0, .int a1, .int (w_11.1 64 0)]) (rest := []) ⟨hx, hb, hml, hown, hts⟩ (mX0_noteLease l D ca ad base hAd w_11 a0 a1 (w_11.1 64 0) _ hw) (cwV 3 hts gX4_startLease_X0_noteLease rfl rfl rfl (by decide +kernel) ⟨Nat.le_of_ble_eq_true rfl, Nat.le_of_ble_eq_true rfl⟩) (pv [.int a0, .int a1, .int (w_11.1 64 0)] hK hP hbs hS rfl (wg24 ca ad w_11)) rfl rfl hl.1 rfl (lv_room (Nat.le_of_ble_eq_true rfl)) dX4_startLease_67 ⟨Nat.le_of_ble_eq_true rfl, Nat.le_of_ble_eq_true rfl⟩) hS (fun q _ h => h) (fun q h => h) (fun w_13 t H locs ht hvm hw hP hz1 hk1 hS => ?_)
  have hP : PA D ca ad w_13 H := by rw [← ht]; exact hP
  refine lv_aload_n hx hb dX4_startLease_70 rfl (lv_at hl 0 rfl) ?_
  refine lv_iload_n hx hb dX4_startLease_71 rfl (lv_at hl 3 rfl) ?_
  refine lv_bipush (v := 108) hx hb dX4_startLease_72 (by decide) ?_
  refine lv_iload_n hx hb dX4_startLease_74 rfl (lv_at hl 1 rfl) ?_
  refine lv_iload_n hx hb dX4_startLease_75 rfl (lv_at hl 2 rfl) ?_
  refine lv_aload_n hx hb dX4_startLease_76 rfl (lv_at hl 0 rfl) ?_
  refine va_get (D := D) (ci := 6) (v := .ref (ad 13)) (C := RX4) (T := TX4) (N := 6) hx hb hts in_X4 hown hK hP 0 (wg0 ca ad w_13) rfl 2 (by decide) lk_26 (fun _ h9 => h9) rfl dX4_startLease_77 ?_
  refine va_get (D := D) (ci := 3) (v := .ref (ad 15)) (C := RX1) (T := TX1) (N := 6) hx hb hts in_X1 hown hK hP 13 (wg13 ca ad w_13) rfl 1 (by decide) lk_198 (fun _ h9 => h9) rfl dX4_startLease_80 ?_
  refine lv_iload_n hx hb dX4_startLease_83 rfl (lv_at hl 2 rfl) ?_
  obtain ⟨h_14, hw⟩ := hw
  refine va_iald hx hb hK hP 15 0 (wg15 ca ad w_13) rfl h_14 dX4_startLease_84 ?_
  refine va_callv (va_runV (As := [.int a2, .int 108, .int a0, .int a1, .int (w_13.1 15 (a1).toNatClampNeg)]) (rest := []) ⟨hx, hb, hml, hown, hts⟩ (mX4_makeEntry l D ca ad base hAd w_13 a2 108 a0 a1 (w_13.1 15 (a1).toNatClampNeg) _ hw) (cwV 5 hts gX4_startLease_X4_makeEntry rfl rfl rfl (by decide +kernel) ⟨Nat.le_of_ble_eq_true rfl, Nat.le_of_ble_eq_true rfl⟩) (pv [.int a2, .int 108, .int a0, .int a1, .int (w_13.1 15 (a1).toNatClampNeg)] hK hP hbs hS rfl (wg0 ca ad w_13)) rfl rfl hl.1 rfl (lv_room (Nat.le_of_ble_eq_true rfl)) dX4_startLease_85 ⟨Nat.le_of_ble_eq_true rfl, Nat.le_of_ble_eq_true rfl⟩) hS (fun q _ h => h) (fun q h => h) (fun w_15 t H locs ht hvm hw hP hz1 hk1 hS => ?_)
  have hP : PA D ca ad w_15 H := by rw [← ht]; exact hP
  exact W.vret hx hb hr (fun t ht hW => ⟨⟨w_15, rfl, hw, by show PA D ca ad w_15 t.heap; rw [ht]; exact hP⟩, hS.F ht⟩) hS.2.2 dX4_startLease_88
set_option maxHeartbeats 4000000 in
set_option maxRecDepth 100000 in
def wpX4_obtain_B89 (a0 : Int32) (a1 : Int32) (a2 : Int32) (a3 : Int32) (post : Int32 → St → Prop) (px : String → St → Prop) (w : St) : Prop := (a3 = 0 → (wpX1_putLast a1 a0 w (fun w_2 => post 119 w_2))) ∧ (¬ (a3 = 0) → (wpX1_putFirst a1 a0 w (fun w_3 => (vp_in a1 4) ∧ (∀ w_5 : St, w_5 = (uA w_3 16 (upd (w_3.1 16) (a1).toNatClampNeg a0)) → post 109 w_5))))
set_option maxHeartbeats 4000000 in
set_option maxRecDepth 100000 in
def wpX4_obtain (a0 : Int32) (a1 : Int32) (a2 : Int32) (a3 : Int32) (w : St) (post : Int32 → St → Prop) (px : String → St → Prop) : Prop := wpX4_checkNumbers a0 a1 a2 w (fun w_7 => wpX4_checkCanAsk a0 a2 w_7 (fun w_8 => wpX3_consult a2 w_8 (fun r_10 w_9 => (r_10 = 103 → (wpX1_isHeldBy a1 a0 (w_9.1 64 0) w_9 (fun r_13 w_12 => (r_13 = 0 → (wpX1_isFree a1 (w_12.1 64 0) w_12 (fun r_16 w_15 => (r_16 = 0 → (wpX4_obtain_B89 a0 a1 a2 a3 post px w_15)) ∧ (¬ (r_16 = 0) → (wpX1_isNext a1 a0 w_15 (fun r_19 w_18 => (r_19 = 0 → (wpX4_obtain_B89 a0 a1 a2 a3 post px w_18)) ∧ (¬ (r_19 = 0) → (wpX4_startLease a0 a1 a2 w_18 (fun w_21 => post 103 w_21))))))))) ∧ (¬ (r_13 = 0) → (post 104 w_12))))) ∧ (¬ (r_10 = 103) → ((narrow .char (.int r_10) = .int r_10) ∧ post r_10 w_9)))) px) px
set_option maxHeartbeats 4000000 in
set_option maxRecDepth 100000 in
theorem mX4_obtain (l : Launch) (D : va_G) (ca : Nat → ClassId) (ad : Nat → Nat) (base : Nat) (hAd : okA base ad) (w : St) (a0 : Int32) (a1 : Int32) (a2 : Int32) (a3 : Int32) (post : Int32 → St → Prop) (px : String → St → Prop) (hw : wpX4_obtain a0 a1 a2 a3 w post px) (hl9 : l.stackTraces = false) : vx_Met l yX4_obtain wsX4_obtain ({ frames := 8, cells := 4, slots := 24, locals := 134 } : Room) (va_Pc [.ref (ad 0), .int a0, .int a1, .int a2, .int a3] (BX D ca ad base w)) (va_Qi post (Bp D ca ad) (AB base)) (vx_X (fun q : String × St => px q.1 q.2) (Bx D ca ad) (AB base)) 4 24 (AB base) := by
  refine vx_ofW (cc := cX4_obtain) (maxL := 6) (ret := (some .char)) (by decide) rfl ?_
  intro p e s m args below meth c s₁ B hml hEx hv
  obtain ⟨rfl, ⟨hbs, hP, hK⟩, hXP⟩ := hv
  have hx := B.exec
  have hb := B.bytes
  have hr := B.returns
  have hts := atoms_spec (ws := wsX4_obtain) B.pre
  have hown : s.vm.findClass RX4 = some m.cls := findClass_of_methodNamed B.named
  have hlocks := B.notSynchronized
  have in_X1 : ∀ w ∈ wsX10, w ∈ wsX4_obtain := by decide +kernel
  have in_X4 : ∀ w ∈ wsX40, w ∈ wsX4_obtain := by decide +kernel
  have lk_10 := hts (.fieldLink RX4 10 "LockQuorum" "members" "LLockQuorum$Members;") (by decide +kernel)
  have lk_26 := hts (.fieldLink RX4 26 "LockQuorum" "locks" "LLockQuorum$Locks;") (by decide +kernel)
  have lk_44 := hts (.fieldLink RX4 44 "LockQuorum" "now" "I") (by decide +kernel)
  have lk_129 := hts (.fieldLink RX4 129 "LockQuorum$Locks" "thief" "[I") (by decide +kernel)
  have hS : va_S (AB base) s.heap s.heap [] := va_S.rf
  have hB89 : ∀ (w : St), wpX4_obtain_B89 a0 a1 a2 a3 post px w → ∀ (H : Heap) (locs : List Loc), PA D ca ad w H → va_S (AB base) s.heap H locs → ∀ ls : Array Slot, lv_has ls 6 [(0, .ref (ad 0)), (1, .int a0), (2, .int a1), (4, .int a3)] → W p l e (headSpec wsX4_obtain ({ frames := 8, cells := 4, slots := 24, locals := 134 } : Room)).room s m ([Value.ref (ad 0), Value.int a0, Value.int a1, Value.int a2, Value.int a3].toArray) below meth c H locs 4 24 (vx_MQ below (va_Qi post (Bp D ca ad) (AB base)) (vx_X (fun q : String × St => px q.1 q.2) (Bx D ca ad) (AB base)) ([Value.ref (ad 0), Value.int a0, Value.int a1, Value.int a2, Value.int a3].toArray) s 4 24 (AB base)) (F0 m 89 ls []) := by
    intro w hw H locs hP hS ls hl
    refine lv_iload hx hb dX4_obtain_89 (lv_at hl 3 rfl) ?_
    refine lv_if_eq (tgt := 116) hx hb dX4_obtain_91 (by decide) (fun c_1 => ?_) (fun c_1 => ?_)
    · have hw := hw.1 c_1
      refine lv_aload_n hx hb dX4_obtain_116 rfl (lv_at hl 0 rfl) ?_
      refine va_get (D := D) (ci := 6) (v := .ref (ad 13)) (C := RX4) (T := TX4) (N := 6) hx hb hts in_X4 hown hK hP 0 (wg0 ca ad w) rfl 2 (by decide) lk_26 (fun _ h9 => h9) rfl dX4_obtain_117 ?_
      refine lv_iload_n hx hb dX4_obtain_120 rfl (lv_at hl 2 rfl) ?_
      refine lv_iload_n hx hb dX4_obtain_121 rfl (lv_at hl 1 rfl) ?_
      refine va_callv (va_runV (As := [.int a1, .int a0]) (rest := []) ⟨hx, hb, hml, hown, hts⟩ (mX1_putLast l D ca ad base hAd w a1 a0 _ hw) (cwV 2 hts gX4_obtain_X1_putLast rfl rfl rfl (by decide +kernel) ⟨Nat.le_of_ble_eq_true rfl, Nat.le_of_ble_eq_true rfl⟩) (pv [.int a1, .int a0] hK hP hbs hS rfl (wg13 ca ad w)) rfl rfl hl.1 rfl (lv_room (Nat.le_of_ble_eq_true rfl)) dX4_obtain_122 ⟨Nat.le_of_ble_eq_true rfl, Nat.le_of_ble_eq_true rfl⟩) hS (fun q _ h => h) (fun q h => h) (fun w_2 t H locs ht hvm hw hP hz1 hk1 hS => ?_)
      have hP : PA D ca ad w_2 H := by rw [← ht]; exact hP
      refine lv_bipush (v := 119) hx hb dX4_obtain_125 (by decide) ?_
      refine vx_ret ?_
      exact W.zret (v := 119) hx hb hr (by decide) (fun t ht hW => ⟨⟨119, w_2, rfl, hw, by show PA D ca ad w_2 t.heap; rw [ht]; exact hP⟩, hS.F ht⟩) hS.2.2 dX4_obtain_127
    · have hw := hw.2 c_1
      refine lv_aload_n hx hb dX4_obtain_94 rfl (lv_at hl 0 rfl) ?_
      refine va_get (D := D) (ci := 6) (v := .ref (ad 13)) (C := RX4) (T := TX4) (N := 6) hx hb hts in_X4 hown hK hP 0 (wg0 ca ad w) rfl 2 (by decide) lk_26 (fun _ h9 => h9) rfl dX4_obtain_95 ?_
      refine lv_iload_n hx hb dX4_obtain_98 rfl (lv_at hl 2 rfl) ?_
      refine lv_iload_n hx hb dX4_obtain_99 rfl (lv_at hl 1 rfl) ?_
      refine va_callv (va_runV (As := [.int a1, .int a0]) (rest := []) ⟨hx, hb, hml, hown, hts⟩ (mX1_putFirst l D ca ad base hAd w a1 a0 _ hw) (cwV 2 hts gX4_obtain_X1_putFirst rfl rfl rfl (by decide +kernel) ⟨Nat.le_of_ble_eq_true rfl, Nat.le_of_ble_eq_true rfl⟩) (pv [.int a1, .int a0] hK hP hbs hS rfl (wg13 ca ad w)) rfl rfl hl.1 rfl (lv_room (Nat.le_of_ble_eq_true rfl)) dX4_obtain_100 ⟨Nat.le_of_ble_eq_true rfl, Nat.le_of_ble_eq_true rfl⟩) hS (fun q _ h => h) (fun q h => h) (fun w_3 t H locs ht hvm hw hP hz1 hk1 hS => ?_)
      have hP : PA D ca ad w_3 H := by rw [← ht]; exact hP
      refine lv_aload_n hx hb dX4_obtain_103 rfl (lv_at hl 0 rfl) ?_
      refine va_get (D := D) (ci := 6) (v := .ref (ad 13)) (C := RX4) (T := TX4) (N := 6) hx hb hts in_X4 hown hK hP 0 (wg0 ca ad w_3) rfl 2 (by decide) lk_26 (fun _ h9 => h9) rfl dX4_obtain_104 ?_
      refine va_get (D := D) (ci := 3) (v := .ref (ad 16)) (C := RX1) (T := TX1) (N := 6) hx hb hts in_X1 hown hK hP 13 (wg13 ca ad w_3) rfl 2 (by decide) lk_129 (fun _ h9 => h9) rfl dX4_obtain_107 ?_
      refine lv_iload_n hx hb dX4_obtain_110 rfl (lv_at hl 2 rfl) ?_
      refine lv_iload_n hx hb dX4_obtain_111 rfl (lv_at hl 1 rfl) ?_
      obtain ⟨h_4, hw⟩ := hw
      refine va_iast hx hb hK hP (DA hAd) hS 16 0 (wg16 ca ad w_3) rfl h_4 dX4_obtain_112 (fun H locs hP hD hS => ?_)
      obtain ⟨w_5, e_6⟩ : ∃ z : St, z = (uA w_3 16 (upd (w_3.1 16) (a1).toNatClampNeg a0)) := ⟨_, rfl⟩
      have hP : PA D ca ad w_5 H := by rw [e_6]; exact wu16 hP
      have hw := hw w_5 e_6
      refine lv_bipush (v := 109) hx hb dX4_obtain_113 (by decide) ?_
      refine vx_ret ?_
      exact W.zret (v := 109) hx hb hr (by decide) (fun t ht hW => ⟨⟨109, w_5, rfl, hw, by show PA D ca ad w_5 t.heap; rw [ht]; exact hP⟩, hS.F ht⟩) hS.2.2 dX4_obtain_115
  have hl := lv_entry ([.ref (ad 0), .int a0, .int a1, .int a2, .int a3]) (n := 6) (Nat.le_of_ble_eq_true rfl)
  rw [lg_entry_eq]
  generalize (lg_sl ([.ref (ad 0), .int a0, .int a1, .int a2, .int a3]) ++ List.replicate (6 - (lg_sl ([.ref (ad 0), .int a0, .int a1, .int a2, .int a3])).length) Slot.unset).toArray = ls at hl ⊢
  have hl : lv_has ls 6 [(0, .ref (ad 0)), (1, .int a0), (2, .int a1), (3, .int a2), (4, .int a3)] := hl
  refine lv_aload_n hx hb dX4_obtain_0 rfl (lv_at hl 0 rfl) ?_
  refine lv_iload_n hx hb dX4_obtain_1 rfl (lv_at hl 1 rfl) ?_
  refine lv_iload_n hx hb dX4_obtain_2 rfl (lv_at hl 2 rfl) ?_
  refine lv_iload_n hx hb dX4_obtain_3 rfl (lv_at hl 3 rfl) ?_
  refine vx_callv (vx_runV (As := [.int a0, .int a1, .int a2]) (rest := []) ⟨hx, hb, hml, hown, hts⟩ (mX4_checkNumbers l D ca ad base hAd w a0 a1 a2 _ _ hw hl9) (cwV 3 hts gX4_obtain_X4_checkNumbers rfl rfl rfl (by decide +kernel) ⟨Nat.le_of_ble_eq_true rfl, Nat.le_of_ble_eq_true rfl⟩) (pvx [.int a0, .int a1, .int a2] hK hXP hP hbs hS rfl (wg0 ca ad w)) rfl rfl hl.1 rfl (lv_room (Nat.le_of_ble_eq_true rfl)) dX4_obtain_4 ⟨Nat.le_of_ble_eq_true rfl, Nat.le_of_ble_eq_true rfl⟩) hS (fun q _ h => h) (fun q h => h) (fun q _ h => h) (fun E ce q9 u t H locs ht hvm hw hB hz1 hk1 hS hce hcv hcl => ?_) (fun w_7 t H locs ht hvm hw hP hz1 hk1 hS => ?_)
  · exact vx_out (E := E) (fun x hx => (hEx x hx).elim) hlocks hce hcv hcl (fun t9 ht9 ha9 => ⟨u, hw, ⟨hB.1, by show PA D ca ad u.2 t9.heap; rw [ht9, ← ht]; exact hB.2⟩, hS.F ht9⟩) hS.2.2 (Nat.le_of_ble_eq_true rfl) (Nat.le_of_ble_eq_true rfl)
  have hP : PA D ca ad w_7 H := by rw [← ht]; exact hP
  refine lv_aload_n hx hb dX4_obtain_7 rfl (lv_at hl 0 rfl) ?_
  refine lv_iload_n hx hb dX4_obtain_8 rfl (lv_at hl 1 rfl) ?_
  refine lv_iload_n hx hb dX4_obtain_9 rfl (lv_at hl 3 rfl) ?_
  refine vx_callv (vx_runV (As := [.int a0, .int a2]) (rest := []) ⟨hx, hb, hml, hown, hts⟩ (mX4_checkCanAsk l D ca ad base hAd w_7 a0 a2 _ _ hw hl9) (cwV 2 hts gX4_obtain_X4_checkCanAsk rfl rfl rfl (by decide +kernel) ⟨Nat.le_of_ble_eq_true rfl, Nat.le_of_ble_eq_true rfl⟩) (pvx [.int a0, .int a2] hK hXP hP hbs hS rfl (wg0 ca ad w_7)) rfl rfl hl.1 rfl (lv_room (Nat.le_of_ble_eq_true rfl)) dX4_obtain_10 ⟨Nat.le_of_ble_eq_true rfl, Nat.le_of_ble_eq_true rfl⟩) hS (fun q _ h => h) (fun q h => h) (fun q _ h => h) (fun E ce q9 u t H locs ht hvm hw hB hz1 hk1 hS hce hcv hcl => ?_) (fun w_8 t H locs ht hvm hw hP hz1 hk1 hS => ?_)
  · exact vx_out (E := E) (fun x hx => (hEx x hx).elim) hlocks hce hcv hcl (fun t9 ht9 ha9 => ⟨u, hw, ⟨hB.1, by show PA D ca ad u.2 t9.heap; rw [ht9, ← ht]; exact hB.2⟩, hS.F ht9⟩) hS.2.2 (Nat.le_of_ble_eq_true rfl) (Nat.le_of_ble_eq_true rfl)
  have hP : PA D ca ad w_8 H := by rw [← ht]; exact hP
  refine lv_aload_n hx hb dX4_obtain_13 rfl (lv_at hl 0 rfl) ?_
  refine va_get (D := D) (ci := 6) (v := .ref (ad 1)) (C := RX4) (T := TX4) (N := 6) hx hb hts in_X4 hown hK hP 0 (wg0 ca ad w_8) rfl 0 (by decide) lk_10 (fun _ h9 => h9) rfl dX4_obtain_14 ?_
  refine lv_iload_n hx hb dX4_obtain_17 rfl (lv_at hl 3 rfl) ?_
  refine va_calli (va_runV (As := [.int a2]) (rest := []) ⟨hx, hb, hml, hown, hts⟩ (mX3_consult l D ca ad base hAd w_8 a2 _ hw) (cwV 1 hts gX4_obtain_X3_consult rfl rfl rfl (by decide +kernel) ⟨Nat.le_of_ble_eq_true rfl, Nat.le_of_ble_eq_true rfl⟩) (pv [.int a2] hK hP hbs hS rfl (wg1 ca ad w_8)) rfl rfl hl.1 rfl (lv_room (Nat.le_of_ble_eq_true rfl)) dX4_obtain_18 ⟨Nat.le_of_ble_eq_true rfl, Nat.le_of_ble_eq_true rfl⟩) hS (fun q _ h => h) (fun q h => h) (fun r_10 w_9 t H locs ht hvm hw hP hz1 hk1 hS => ?_)
  have hP : PA D ca ad w_9 H := by rw [← ht]; exact hP
  refine lv_istore (lv' := [(5, .int r_10), (0, .ref (ad 0)), (1, .int a0), (2, .int a1), (3, .int a2), (4, .int a3)]) hx hb dX4_obtain_21 hl (by decide) rfl (fun ls hl => ?_)
  refine lv_iload hx hb dX4_obtain_23 (lv_at hl 0 rfl) ?_
  refine lv_bipush (v := 103) hx hb dX4_obtain_25 (by decide) ?_
  refine lv_icmp_eq (tgt := 33) hx hb dX4_obtain_27 (by decide) (fun c_11 => ?_) (fun c_11 => ?_)
  · have hw := hw.1 c_11
    refine lv_aload_n hx hb dX4_obtain_33 rfl (lv_at hl 1 rfl) ?_
    refine va_get (D := D) (ci := 6) (v := .ref (ad 13)) (C := RX4) (T := TX4) (N := 6) hx hb hts in_X4 hown hK hP 0 (wg0 ca ad w_9) rfl 2 (by decide) lk_26 (fun _ h9 => h9) rfl dX4_obtain_34 ?_
    refine lv_iload_n hx hb dX4_obtain_37 rfl (lv_at hl 3 rfl) ?_
    refine lv_iload_n hx hb dX4_obtain_38 rfl (lv_at hl 2 rfl) ?_
    refine lv_aload_n hx hb dX4_obtain_39 rfl (lv_at hl 1 rfl) ?_
    refine va_get (D := D) (ci := 6) (v := .int (w_9.1 64 0)) (C := RX4) (T := TX4) (N := 6) hx hb hts in_X4 hown hK hP 0 (wg0 ca ad w_9) rfl 4 (by decide) lk_44 (fun _ h9 => h9) rfl dX4_obtain_40 ?_
    refine va_calli (va_runV (As := [.int a1, .int a0, .int (w_9.1 64 0)]) (rest := []) ⟨hx, hb, hml, hown, hts⟩ (mX1_isHeldBy l D ca ad base hAd w_9 a1 a0 (w_9.1 64 0) _ hw) (cwV 3 hts gX4_obtain_X1_isHeldBy rfl rfl rfl (by decide +kernel) ⟨Nat.le_of_ble_eq_true rfl, Nat.le_of_ble_eq_true rfl⟩) (pv [.int a1, .int a0, .int (w_9.1 64 0)] hK hP hbs hS rfl (wg13 ca ad w_9)) rfl rfl hl.1 rfl (lv_room (Nat.le_of_ble_eq_true rfl)) dX4_obtain_43 ⟨Nat.le_of_ble_eq_true rfl, Nat.le_of_ble_eq_true rfl⟩) hS (fun q _ h => h) (fun q h => h) (fun r_13 w_12 t H locs ht hvm hw hP hz1 hk1 hS => ?_)
    have hP : PA D ca ad w_12 H := by rw [← ht]; exact hP
    refine lv_if_eq (tgt := 52) hx hb dX4_obtain_46 (by decide) (fun c_14 => ?_) (fun c_14 => ?_)
    · have hw := hw.1 c_14
      refine lv_aload_n hx hb dX4_obtain_52 rfl (lv_at hl 1 rfl) ?_
      refine va_get (D := D) (ci := 6) (v := .ref (ad 13)) (C := RX4) (T := TX4) (N := 6) hx hb hts in_X4 hown hK hP 0 (wg0 ca ad w_12) rfl 2 (by decide) lk_26 (fun _ h9 => h9) rfl dX4_obtain_53 ?_
      refine lv_iload_n hx hb dX4_obtain_56 rfl (lv_at hl 3 rfl) ?_
      refine lv_aload_n hx hb dX4_obtain_57 rfl (lv_at hl 1 rfl) ?_
      refine va_get (D := D) (ci := 6) (v := .int (w_12.1 64 0)) (C := RX4) (T := TX4) (N := 6) hx hb hts in_X4 hown hK hP 0 (wg0 ca ad w_12) rfl 4 (by decide) lk_44 (fun _ h9 => h9) rfl dX4_obtain_58 ?_
      refine va_calli (va_runV (As := [.int a1, .int (w_12.1 64 0)]) (rest := []) ⟨hx, hb, hml, hown, hts⟩ (mX1_isFree l D ca ad base hAd w_12 a1 (w_12.1 64 0) _ hw) (cwV 2 hts gX4_obtain_X1_isFree rfl rfl rfl (by decide +kernel) ⟨Nat.le_of_ble_eq_true rfl, Nat.le_of_ble_eq_true rfl⟩) (pv [.int a1, .int (w_12.1 64 0)] hK hP hbs hS rfl (wg13 ca ad w_12)) rfl rfl hl.1 rfl (lv_room (Nat.le_of_ble_eq_true rfl)) dX4_obtain_61 ⟨Nat.le_of_ble_eq_true rfl, Nat.le_of_ble_eq_true rfl⟩) hS (fun q _ h => h) (fun q h => h) (fun r_16 w_15 t H locs ht hvm hw hP hz1 hk1 hS => ?_)
      have hP : PA D ca ad w_15 H := by rw [← ht]; exact hP
      refine lv_if_eq (tgt := 89) hx hb dX4_obtain_64 (by decide) (fun c_17 => ?_) (fun c_17 => ?_)
      · have hw := hw.1 c_17
        exact hB89 w_15 hw _ _ hP hS ls (lv_sub hl [1, 2, 3, 5] rfl)
      · have hw := hw.2 c_17
        refine lv_aload_n hx hb dX4_obtain_67 rfl (lv_at hl 1 rfl) ?_
        refine va_get (D := D) (ci := 6) (v := .ref (ad 13)) (C := RX4) (T := TX4) (N := 6) hx hb hts in_X4 hown hK hP 0 (wg0 ca ad w_15) rfl 2 (by decide) lk_26 (fun _ h9 => h9) rfl dX4_obtain_68 ?_
        refine lv_iload_n hx hb dX4_obtain_71 rfl (lv_at hl 3 rfl) ?_
        refine lv_iload_n hx hb dX4_obtain_72 rfl (lv_at hl 2 rfl) ?_
        refine va_calli (va_runV (As := [.int a1, .int a0]) (rest := []) ⟨hx, hb, hml, hown, hts⟩ (mX1_isNext l D ca ad base hAd w_15 a1 a0 _ hw) (cwV 2 hts gX4_obtain_X1_isNext rfl rfl rfl (by decide +kernel) ⟨Nat.le_of_ble_eq_true rfl, Nat.le_of_ble_eq_true rfl⟩) (pv [.int a1, .int a0] hK hP hbs hS rfl (wg13 ca ad w_15)) rfl rfl hl.1 rfl (lv_room (Nat.le_of_ble_eq_true rfl)) dX4_obtain_73 ⟨Nat.le_of_ble_eq_true rfl, Nat.le_of_ble_eq_true rfl⟩) hS (fun q _ h => h) (fun q h => h) (fun r_19 w_18 t H locs ht hvm hw hP hz1 hk1 hS => ?_)
        have hP : PA D ca ad w_18 H := by rw [← ht]; exact hP
        refine lv_if_eq (tgt := 89) hx hb dX4_obtain_76 (by decide) (fun c_20 => ?_) (fun c_20 => ?_)
        · have hw := hw.1 c_20
          exact hB89 w_18 hw _ _ hP hS ls (lv_sub hl [1, 2, 3, 5] rfl)
        · have hw := hw.2 c_20
          refine lv_aload_n hx hb dX4_obtain_79 rfl (lv_at hl 1 rfl) ?_
          refine lv_iload_n hx hb dX4_obtain_80 rfl (lv_at hl 2 rfl) ?_
          refine lv_iload_n hx hb dX4_obtain_81 rfl (lv_at hl 3 rfl) ?_
          refine lv_iload_n hx hb dX4_obtain_82 rfl (lv_at hl 4 rfl) ?_
          refine va_callv (va_runV (As := [.int a0, .int a1, .int a2]) (rest := []) ⟨hx, hb, hml, hown, hts⟩ (mX4_startLease l D ca ad base hAd w_18 a0 a1 a2 _ hw) (cwV 3 hts gX4_obtain_X4_startLease rfl rfl rfl (by decide +kernel) ⟨Nat.le_of_ble_eq_true rfl, Nat.le_of_ble_eq_true rfl⟩) (pv [.int a0, .int a1, .int a2] hK hP hbs hS rfl (wg0 ca ad w_18)) rfl rfl hl.1 rfl (lv_room (Nat.le_of_ble_eq_true rfl)) dX4_obtain_83 ⟨Nat.le_of_ble_eq_true rfl, Nat.le_of_ble_eq_true rfl⟩) hS (fun q _ h => h) (fun q h => h) (fun w_21 t H locs ht hvm hw hP hz1 hk1 hS => ?_)
          have hP : PA D ca ad w_21 H := by rw [← ht]; exact hP
          refine lv_bipush (v := 103) hx hb dX4_obtain_86 (by decide) ?_
          refine vx_ret ?_
          exact W.zret (v := 103) hx hb hr (by decide) (fun t ht hW => ⟨⟨103, w_21, rfl, hw, by show PA D ca ad w_21 t.heap; rw [ht]; exact hP⟩, hS.F ht⟩) hS.2.2 dX4_obtain_88
    · have hw := hw.2 c_14
      refine lv_bipush (v := 104) hx hb dX4_obtain_49 (by decide) ?_
      refine vx_ret ?_
      exact W.zret (v := 104) hx hb hr (by decide) (fun t ht hW => ⟨⟨104, w_12, rfl, hw, by show PA D ca ad w_12 t.heap; rw [ht]; exact hP⟩, hS.F ht⟩) hS.2.2 dX4_obtain_51
  · have hw := hw.2 c_11
    refine lv_iload hx hb dX4_obtain_30 (lv_at hl 0 rfl) ?_
    refine vx_ret ?_
    obtain ⟨hn9, hw⟩ := hw
    exact W.zret (v := r_10) hx hb hr hn9 (fun t ht hW => ⟨⟨r_10, w_9, rfl, hw, by show PA D ca ad w_9 t.heap; rw [ht]; exact hP⟩, hS.F ht⟩) hS.2.2 dX4_obtain_32
set_option maxHeartbeats 4000000 in
set_option maxRecDepth 100000 in
def wpX4_request (a0 : Int32) (a1 : Int32) (a2 : Int32) (w : St) (post : Int32 → St → Prop) (px : String → St → Prop) : Prop := wpX4_obtain a0 a1 a2 0 w (fun r_2 w_1 => (narrow .char (.int r_2) = .int r_2) ∧ post r_2 w_1) px
set_option maxHeartbeats 4000000 in
set_option maxRecDepth 100000 in
theorem mX4_request (l : Launch) (D : va_G) (ca : Nat → ClassId) (ad : Nat → Nat) (base : Nat) (hAd : okA base ad) (w : St) (a0 : Int32) (a1 : Int32) (a2 : Int32) (post : Int32 → St → Prop) (px : String → St → Prop) (hw : wpX4_request a0 a1 a2 w post px) (hl9 : l.stackTraces = false) : vx_Met l yX4_request wsX4_request ({ frames := 9, cells := 4, slots := 24, locals := 159 } : Room) (va_Pc [.ref (ad 0), .int a0, .int a1, .int a2] (BX D ca ad base w)) (va_Qi post (Bp D ca ad) (AB base)) (vx_X (fun q : String × St => px q.1 q.2) (Bx D ca ad) (AB base)) 4 24 (AB base) := by
  refine vx_ofW (cc := cX4_request) (maxL := 4) (ret := (some .char)) (by decide) rfl ?_
  intro p e s m args below meth c s₁ B hml hEx hv
  obtain ⟨rfl, ⟨hbs, hP, hK⟩, hXP⟩ := hv
  have hx := B.exec
  have hb := B.bytes
  have hr := B.returns
  have hts := atoms_spec (ws := wsX4_request) B.pre
  have hown : s.vm.findClass RX4 = some m.cls := findClass_of_methodNamed B.named
  have hlocks := B.notSynchronized
  have hS : va_S (AB base) s.heap s.heap [] := va_S.rf
  have hl := lv_entry ([.ref (ad 0), .int a0, .int a1, .int a2]) (n := 4) (Nat.le_of_ble_eq_true rfl)
  rw [lg_entry_eq]
  generalize (lg_sl ([.ref (ad 0), .int a0, .int a1, .int a2]) ++ List.replicate (4 - (lg_sl ([.ref (ad 0), .int a0, .int a1, .int a2])).length) Slot.unset).toArray = ls at hl ⊢
  have hl : lv_has ls 4 [(0, .ref (ad 0)), (1, .int a0), (2, .int a1), (3, .int a2)] := hl
  refine lv_aload_n hx hb dX4_request_0 rfl (lv_at hl 0 rfl) ?_
  refine lv_iload_n hx hb dX4_request_1 rfl (lv_at hl 1 rfl) ?_
  refine lv_iload_n hx hb dX4_request_2 rfl (lv_at hl 2 rfl) ?_
  refine lv_iload_n hx hb dX4_request_3 rfl (lv_at hl 3 rfl) ?_
  refine lv_iconst (v := 0) hx hb dX4_request_4 (by decide) ?_
  refine vx_calli (vx_runV (As := [.int a0, .int a1, .int a2, .int 0]) (rest := []) ⟨hx, hb, hml, hown, hts⟩ (mX4_obtain l D ca ad base hAd w a0 a1 a2 0 _ _ hw hl9) (cwV 4 hts gX4_request_X4_obtain rfl rfl rfl (by decide +kernel) ⟨Nat.le_of_ble_eq_true rfl, Nat.le_of_ble_eq_true rfl⟩) (pvx [.int a0, .int a1, .int a2, .int 0] hK hXP hP hbs hS rfl (wg0 ca ad w)) rfl rfl hl.1 rfl (lv_room (Nat.le_of_ble_eq_true rfl)) dX4_request_5 ⟨Nat.le_of_ble_eq_true rfl, Nat.le_of_ble_eq_true rfl⟩) hS (fun q _ h => h) (fun q h => h) (fun q _ h => h) (fun E ce q9 u t H locs ht hvm hw hB hz1 hk1 hS hce hcv hcl => ?_) (fun r_2 w_1 t H locs ht hvm hw hP hz1 hk1 hS => ?_)
  · exact vx_out (E := E) (fun x hx => (hEx x hx).elim) hlocks hce hcv hcl (fun t9 ht9 ha9 => ⟨u, hw, ⟨hB.1, by show PA D ca ad u.2 t9.heap; rw [ht9, ← ht]; exact hB.2⟩, hS.F ht9⟩) hS.2.2 (Nat.le_of_ble_eq_true rfl) (Nat.le_of_ble_eq_true rfl)
  have hP : PA D ca ad w_1 H := by rw [← ht]; exact hP
  refine vx_ret ?_
  obtain ⟨hn9, hw⟩ := hw
  exact W.zret (v := r_2) hx hb hr hn9 (fun t ht hW => ⟨⟨r_2, w_1, rfl, hw, by show PA D ca ad w_1 t.heap; rw [ht]; exact hP⟩, hS.F ht⟩) hS.2.2 dX4_request_8
set_option maxHeartbeats 4000000 in
set_option maxRecDepth 100000 in
def wpX4_steal (a0 : Int32) (a1 : Int32) (a2 : Int32) (w : St) (post : Int32 → St → Prop) (px : String → St → Prop) : Prop := wpX4_obtain a0 a1 a2 1 w (fun r_2 w_1 => (narrow .char (.int r_2) = .int r_2) ∧ post r_2 w_1) px
set_option maxHeartbeats 4000000 in
set_option maxRecDepth 100000 in
theorem mX4_steal (l : Launch) (D : va_G) (ca : Nat → ClassId) (ad : Nat → Nat) (base : Nat) (hAd : okA base ad) (w : St) (a0 : Int32) (a1 : Int32) (a2 : Int32) (post : Int32 → St → Prop) (px : String → St → Prop) (hw : wpX4_steal a0 a1 a2 w post px) (hl9 : l.stackTraces = false) : vx_Met l yX4_steal wsX4_steal ({ frames := 9, cells := 4, slots := 24, locals := 159 } : Room) (va_Pc [.ref (ad 0), .int a0, .int a1, .int a2] (BX D ca ad base w)) (va_Qi post (Bp D ca ad) (AB base)) (vx_X (fun q : String × St => px q.1 q.2) (Bx D ca ad) (AB base)) 4 24 (AB base) := by
  refine vx_ofW (cc := cX4_steal) (maxL := 4) (ret := (some .char)) (by decide) rfl ?_
  intro p e s m args below meth c s₁ B hml hEx hv
  obtain ⟨rfl, ⟨hbs, hP, hK⟩, hXP⟩ := hv
  have hx := B.exec
  have hb := B.bytes
  have hr := B.returns
  have hts := atoms_spec (ws := wsX4_steal) B.pre
  have hown : s.vm.findClass RX4 = some m.cls := findClass_of_methodNamed B.named
  have hlocks := B.notSynchronized
  have hS : va_S (AB base) s.heap s.heap [] := va_S.rf
  have hl := lv_entry ([.ref (ad 0), .int a0, .int a1, .int a2]) (n := 4) (Nat.le_of_ble_eq_true rfl)
  rw [lg_entry_eq]
  generalize (lg_sl ([.ref (ad 0), .int a0, .int a1, .int a2]) ++ List.replicate (4 - (lg_sl ([.ref (ad 0), .int a0, .int a1, .int a2])).length) Slot.unset).toArray = ls at hl ⊢
  have hl : lv_has ls 4 [(0, .ref (ad 0)), (1, .int a0), (2, .int a1), (3, .int a2)] := hl
  refine lv_aload_n hx hb dX4_steal_0 rfl (lv_at hl 0 rfl) ?_
  refine lv_iload_n hx hb dX4_steal_1 rfl (lv_at hl 1 rfl) ?_
  refine lv_iload_n hx hb dX4_steal_2 rfl (lv_at hl 2 rfl) ?_
  refine lv_iload_n hx hb dX4_steal_3 rfl (lv_at hl 3 rfl) ?_
  refine lv_iconst (v := 1) hx hb dX4_steal_4 (by decide) ?_
  refine vx_calli (vx_runV (As := [.int a0, .int a1, .int a2, .int 1]) (rest := []) ⟨hx, hb, hml, hown, hts⟩ (mX4_obtain l D ca ad base hAd w a0 a1 a2 1 _ _ hw hl9) (cwV 4 hts gX4_steal_X4_obtain rfl rfl rfl (by decide +kernel) ⟨Nat.le_of_ble_eq_true rfl, Nat.le_of_ble_eq_true rfl⟩) (pvx [.int a0, .int a1, .int a2, .int 1] hK hXP hP hbs hS rfl (wg0 ca ad w)) rfl rfl hl.1 rfl (lv_room (Nat.le_of_ble_eq_true rfl)) dX4_steal_5 ⟨Nat.le_of_ble_eq_true rfl, Nat.le_of_ble_eq_true rfl⟩) hS (fun q _ h => h) (fun q h => h) (fun q _ h => h) (fun E ce q9 u t H locs ht hvm hw hB hz1 hk1 hS hce hcv hcl => ?_) (fun r_2 w_1 t H locs ht hvm hw hP hz1 hk1 hS => ?_)
  · exact vx_out (E := E) (fun x hx => (hEx x hx).elim) hlocks hce hcv hcl (fun t9 ht9 ha9 => ⟨u, hw, ⟨hB.1, by show PA D ca ad u.2 t9.heap; rw [ht9, ← ht]; exact hB.2⟩, hS.F ht9⟩) hS.2.2 (Nat.le_of_ble_eq_true rfl) (Nat.le_of_ble_eq_true rfl)
  have hP : PA D ca ad w_1 H := by rw [← ht]; exact hP
  refine vx_ret ?_
  obtain ⟨hn9, hw⟩ := hw
  exact W.zret (v := r_2) hx hb hr hn9 (fun t ht hW => ⟨⟨r_2, w_1, rfl, hw, by show PA D ca ad w_1 t.heap; rw [ht]; exact hP⟩, hS.F ht⟩) hS.2.2 dX4_steal_8
set_option maxHeartbeats 4000000 in
set_option maxRecDepth 100000 in
def wpX4_askAsOwner (a0 : Int32) (a1 : Int32) (a2 : Int32) (w : St) (post : Int32 → St → Prop) (px : String → St → Prop) : Prop := wpX4_checkNumbers a0 a1 a2 w (fun w_1 => wpX4_checkCanAsk a0 a2 w_1 (fun w_2 => wpX3_consult a2 w_2 (fun r_4 w_3 => (r_4 = 103 → (wpX1_isHeldBy a1 a0 (w_3.1 64 0) w_3 (fun r_7 w_6 => (r_7 = 0 → (post 111 w_6)) ∧ (¬ (r_7 = 0) → ((narrow .char (.int r_4) = .int r_4) ∧ post r_4 w_6))))) ∧ (¬ (r_4 = 103) → ((narrow .char (.int r_4) = .int r_4) ∧ post r_4 w_3)))) px) px
set_option maxHeartbeats 4000000 in
set_option maxRecDepth 100000 in
theorem mX4_askAsOwner (l : Launch) (D : va_G) (ca : Nat → ClassId) (ad : Nat → Nat) (base : Nat) (hAd : okA base ad) (w : St) (a0 : Int32) (a1 : Int32) (a2 : Int32) (post : Int32 → St → Prop) (px : String → St → Prop) (hw : wpX4_askAsOwner a0 a1 a2 w post px) (hl9 : l.stackTraces = false) : vx_Met l yX4_askAsOwner wsX4_askAsOwner ({ frames := 8, cells := 4, slots := 24, locals := 134 } : Room) (va_Pc [.ref (ad 0), .int a0, .int a1, .int a2] (BX D ca ad base w)) (va_Qi post (Bp D ca ad) (AB base)) (vx_X (fun q : String × St => px q.1 q.2) (Bx D ca ad) (AB base)) 4 24 (AB base) := by
  refine vx_ofW (cc := cX4_askAsOwner) (maxL := 5) (ret := (some .char)) (by decide) rfl ?_
  intro p e s m args below meth c s₁ B hml hEx hv
  obtain ⟨rfl, ⟨hbs, hP, hK⟩, hXP⟩ := hv
  have hx := B.exec
  have hb := B.bytes
  have hr := B.returns
  have hts := atoms_spec (ws := wsX4_askAsOwner) B.pre
  have hown : s.vm.findClass RX4 = some m.cls := findClass_of_methodNamed B.named
  have hlocks := B.notSynchronized
  have in_X4 : ∀ w ∈ wsX40, w ∈ wsX4_askAsOwner := by decide +kernel
  have lk_10 := hts (.fieldLink RX4 10 "LockQuorum" "members" "LLockQuorum$Members;") (by decide +kernel)
  have lk_26 := hts (.fieldLink RX4 26 "LockQuorum" "locks" "LLockQuorum$Locks;") (by decide +kernel)
  have lk_44 := hts (.fieldLink RX4 44 "LockQuorum" "now" "I") (by decide +kernel)
  have hS : va_S (AB base) s.heap s.heap [] := va_S.rf
  have hl := lv_entry ([.ref (ad 0), .int a0, .int a1, .int a2]) (n := 5) (Nat.le_of_ble_eq_true rfl)
  rw [lg_entry_eq]
  generalize (lg_sl ([.ref (ad 0), .int a0, .int a1, .int a2]) ++ List.replicate (5 - (lg_sl ([.ref (ad 0), .int a0, .int a1, .int a2])).length) Slot.unset).toArray = ls at hl ⊢
  have hl : lv_has ls 5 [(0, .ref (ad 0)), (1, .int a0), (2, .int a1), (3, .int a2)] := hl
  refine lv_aload_n hx hb dX4_askAsOwner_0 rfl (lv_at hl 0 rfl) ?_
  refine lv_iload_n hx hb dX4_askAsOwner_1 rfl (lv_at hl 1 rfl) ?_
  refine lv_iload_n hx hb dX4_askAsOwner_2 rfl (lv_at hl 2 rfl) ?_
  refine lv_iload_n hx hb dX4_askAsOwner_3 rfl (lv_at hl 3 rfl) ?_
  refine vx_callv (vx_runV (As := [.int a0, .int a1, .int a2]) (rest := []) ⟨hx, hb, hml, hown, hts⟩ (mX4_checkNumbers l D ca ad base hAd w a0 a1 a2 _ _ hw hl9) (cwV 3 hts gX4_askAsOwner_X4_checkNumbers rfl rfl rfl (by decide +kernel) ⟨Nat.le_of_ble_eq_true rfl, Nat.le_of_ble_eq_true rfl⟩) (pvx [.int a0, .int a1, .int a2] hK hXP hP hbs hS rfl (wg0 ca ad w)) rfl rfl hl.1 rfl (lv_room (Nat.le_of_ble_eq_true rfl)) dX4_askAsOwner_4 ⟨Nat.le_of_ble_eq_true rfl, Nat.le_of_ble_eq_true rfl⟩) hS (fun q _ h => h) (fun q h => h) (fun q _ h => h) (fun E ce q9 u t H locs ht hvm hw hB hz1 hk1 hS hce hcv hcl => ?_) (fun w_1 t H locs ht hvm hw hP hz1 hk1 hS => ?_)
  · exact vx_out (E := E) (fun x hx => (hEx x hx).elim) hlocks hce hcv hcl (fun t9 ht9 ha9 => ⟨u, hw, ⟨hB.1, by show PA D ca ad u.2 t9.heap; rw [ht9, ← ht]; exact hB.2⟩, hS.F ht9⟩) hS.2.2 (Nat.le_of_ble_eq_true rfl) (Nat.le_of_ble_eq_true rfl)
  have hP : PA D ca ad w_1 H := by rw [← ht]; exact hP
  refine lv_aload_n hx hb dX4_askAsOwner_7 rfl (lv_at hl 0 rfl) ?_
  refine lv_iload_n hx hb dX4_askAsOwner_8 rfl (lv_at hl 1 rfl) ?_
  refine lv_iload_n hx hb dX4_askAsOwner_9 rfl (lv_at hl 3 rfl) ?_
  refine vx_callv (vx_runV (As := [.int a0, .int a2]) (rest := []) ⟨hx, hb, hml, hown, hts⟩ (mX4_checkCanAsk l D ca ad base hAd w_1 a0 a2 _ _ hw hl9) (cwV 2 hts gX4_askAsOwner_X4_checkCanAsk rfl rfl rfl (by decide +kernel) ⟨Nat.le_of_ble_eq_true rfl, Nat.le_of_ble_eq_true rfl⟩) (pvx [.int a0, .int a2] hK hXP hP hbs hS rfl (wg0 ca ad w_1)) rfl rfl hl.1 rfl (lv_room (Nat.le_of_ble_eq_true rfl)) dX4_askAsOwner_10 ⟨Nat.le_of_ble_eq_true rfl, Nat.le_of_ble_eq_true rfl⟩) hS (fun q _ h => h) (fun q h => h) (fun q _ h => h) (fun E ce q9 u t H locs ht hvm hw hB hz1 hk1 hS hce hcv hcl => ?_) (fun w_2 t H locs ht hvm hw hP hz1 hk1 hS => ?_)
  · exact vx_out (E := E) (fun x hx => (hEx x hx).elim) hlocks hce hcv hcl (fun t9 ht9 ha9 => ⟨u, hw, ⟨hB.1, by show PA D ca ad u.2 t9.heap; rw [ht9, ← ht]; exact hB.2⟩, hS.F ht9⟩) hS.2.2 (Nat.le_of_ble_eq_true rfl) (Nat.le_of_ble_eq_true rfl)
  have hP : PA D ca ad w_2 H := by rw [← ht]; exact hP
  refine lv_aload_n hx hb dX4_askAsOwner_13 rfl (lv_at hl 0 rfl) ?_
  refine va_get (D := D) (ci := 6) (v := .ref (ad 1)) (C := RX4) (T := TX4) (N := 6) hx hb hts in_X4 hown hK hP 0 (wg0 ca ad w_2) rfl 0 (by decide) lk_10 (fun _ h9 => h9) rfl dX4_askAsOwner_14 ?_
  refine lv_iload_n hx hb dX4_askAsOwner_17 rfl (lv_at hl 3 rfl) ?_
  refine va_calli (va_runV (As := [.int a2]) (rest := []) ⟨hx, hb, hml, hown, hts⟩ (mX3_consult l D ca ad base hAd w_2 a2 _ hw) (cwV 1 hts gX4_askAsOwner_X3_consult rfl rfl rfl (by decide +kernel) ⟨Nat.le_of_ble_eq_true rfl, Nat.le_of_ble_eq_true rfl⟩) (pv [.int a2] hK hP hbs hS rfl (wg1 ca ad w_2)) rfl rfl hl.1 rfl (lv_room (Nat.le_of_ble_eq_true rfl)) dX4_askAsOwner_18 ⟨Nat.le_of_ble_eq_true rfl, Nat.le_of_ble_eq_true rfl⟩) hS (fun q _ h => h) (fun q h => h) (fun r_4 w_3 t H locs ht hvm hw hP hz1 hk1 hS => ?_)
  have hP : PA D ca ad w_3 H := by rw [← ht]; exact hP
  refine lv_istore (lv' := [(4, .int r_4), (0, .ref (ad 0)), (1, .int a0), (2, .int a1), (3, .int a2)]) hx hb dX4_askAsOwner_21 hl (by decide) rfl (fun ls hl => ?_)
  refine lv_iload hx hb dX4_askAsOwner_23 (lv_at hl 0 rfl) ?_
  refine lv_bipush (v := 103) hx hb dX4_askAsOwner_25 (by decide) ?_
  refine lv_icmp_ne (tgt := 51) hx hb dX4_askAsOwner_27 (by decide) (fun c_5 => ?_) (fun c_5 => ?_)
  · have hw := hw.2 c_5
    refine lv_iload hx hb dX4_askAsOwner_51 (lv_at hl 0 rfl) ?_
    refine vx_ret ?_
    obtain ⟨hn9, hw⟩ := hw
    exact W.zret (v := r_4) hx hb hr hn9 (fun t ht hW => ⟨⟨r_4, w_3, rfl, hw, by show PA D ca ad w_3 t.heap; rw [ht]; exact hP⟩, hS.F ht⟩) hS.2.2 dX4_askAsOwner_53
  · have hw := hw.1 c_5
    refine lv_aload_n hx hb dX4_askAsOwner_30 rfl (lv_at hl 1 rfl) ?_
    refine va_get (D := D) (ci := 6) (v := .ref (ad 13)) (C := RX4) (T := TX4) (N := 6) hx hb hts in_X4 hown hK hP 0 (wg0 ca ad w_3) rfl 2 (by decide) lk_26 (fun _ h9 => h9) rfl dX4_askAsOwner_31 ?_
    refine lv_iload_n hx hb dX4_askAsOwner_34 rfl (lv_at hl 3 rfl) ?_
    refine lv_iload_n hx hb dX4_askAsOwner_35 rfl (lv_at hl 2 rfl) ?_
    refine lv_aload_n hx hb dX4_askAsOwner_36 rfl (lv_at hl 1 rfl) ?_
    refine va_get (D := D) (ci := 6) (v := .int (w_3.1 64 0)) (C := RX4) (T := TX4) (N := 6) hx hb hts in_X4 hown hK hP 0 (wg0 ca ad w_3) rfl 4 (by decide) lk_44 (fun _ h9 => h9) rfl dX4_askAsOwner_37 ?_
    refine va_calli (va_runV (As := [.int a1, .int a0, .int (w_3.1 64 0)]) (rest := []) ⟨hx, hb, hml, hown, hts⟩ (mX1_isHeldBy l D ca ad base hAd w_3 a1 a0 (w_3.1 64 0) _ hw) (cwV 3 hts gX4_askAsOwner_X1_isHeldBy rfl rfl rfl (by decide +kernel) ⟨Nat.le_of_ble_eq_true rfl, Nat.le_of_ble_eq_true rfl⟩) (pv [.int a1, .int a0, .int (w_3.1 64 0)] hK hP hbs hS rfl (wg13 ca ad w_3)) rfl rfl hl.1 rfl (lv_room (Nat.le_of_ble_eq_true rfl)) dX4_askAsOwner_40 ⟨Nat.le_of_ble_eq_true rfl, Nat.le_of_ble_eq_true rfl⟩) hS (fun q _ h => h) (fun q h => h) (fun r_7 w_6 t H locs ht hvm hw hP hz1 hk1 hS => ?_)
    have hP : PA D ca ad w_6 H := by rw [← ht]; exact hP
    refine lv_if_ne (tgt := 51) hx hb dX4_askAsOwner_43 (by decide) (fun c_8 => ?_) (fun c_8 => ?_)
    · have hw := hw.2 c_8
      refine lv_iload hx hb dX4_askAsOwner_51 (lv_at hl 0 rfl) ?_
      refine vx_ret ?_
      obtain ⟨hn9, hw⟩ := hw
      exact W.zret (v := r_4) hx hb hr hn9 (fun t ht hW => ⟨⟨r_4, w_6, rfl, hw, by show PA D ca ad w_6 t.heap; rw [ht]; exact hP⟩, hS.F ht⟩) hS.2.2 dX4_askAsOwner_53
    · have hw := hw.1 c_8
      refine lv_bipush (v := 111) hx hb dX4_askAsOwner_46 (by decide) ?_
      refine lv_goto (tgt := 53) hx hb dX4_askAsOwner_48 (by decide) ?_
      refine vx_ret ?_
      exact W.zret (v := 111) hx hb hr (by decide) (fun t ht hW => ⟨⟨111, w_6, rfl, hw, by show PA D ca ad w_6 t.heap; rw [ht]; exact hP⟩, hS.F ht⟩) hS.2.2 dX4_askAsOwner_53
set_option maxHeartbeats 4000000 in
set_option maxRecDepth 100000 in
def wpX4_extendLease (a0 : Int32) (a1 : Int32) (a2 : Int32) (w : St) (post : St → Prop) : Prop := (vp_in a1 4) ∧ (∀ w_2 : St, w_2 = (uL w 0 ((w.2.1 0) + ((((w.1 64 0) + 12) - (w.1 15 (a1).toNatClampNeg))).toInt64)) → (vp_in a1 4) ∧ (∀ w_5 : St, w_5 = (uA w_2 15 (upd (w_2.1 15) (a1).toNatClampNeg ((w.1 64 0) + 12))) → wpX0_noteLease a0 a1 (w_5.1 64 0) w_5 (fun w_7 => wpX4_makeEntry a2 114 a0 a1 ((w.1 64 0) + 12) w_7 (fun w_8 => post w_8))))
set_option maxHeartbeats 4000000 in
set_option maxRecDepth 100000 in
theorem mX4_extendLease (l : Launch) (D : va_G) (ca : Nat → ClassId) (ad : Nat → Nat) (base : Nat) (hAd : okA base ad) (w : St) (a0 : Int32) (a1 : Int32) (a2 : Int32) (post : St → Prop) (hw : wpX4_extendLease a0 a1 a2 w post) : Met l yX4_extendLease wsX4_extendLease ({ frames := 3, cells := 0, slots := 0, locals := 70 } : Room) (va_Pc [.ref (ad 0), .int a0, .int a1, .int a2] (BU D ca ad base w)) (va_Qv post (Bp D ca ad) (AB base)) 0 0 (AB base) := by
  refine Met.ofW (cc := cX4_extendLease) (maxL := 5) (ret := none) (by decide) rfl ?_
  intro p e s m args below meth c s₁ B hml hv
  obtain ⟨rfl, hbs, hP, hK⟩ := hv
  have hx := B.exec
  have hb := B.bytes
  have hr := B.returns
  have hts := atoms_spec (ws := wsX4_extendLease) B.pre
  have hown : s.vm.findClass RX4 = some m.cls := findClass_of_methodNamed B.named
  have hlocks := B.notSynchronized
  have in_X1 : ∀ w ∈ wsX10, w ∈ wsX4_extendLease := by decide +kernel
  have in_X4 : ∀ w ∈ wsX40, w ∈ wsX4_extendLease := by decide +kernel
  have lk_26 := hts (.fieldLink RX4 26 "LockQuorum" "locks" "LLockQuorum$Locks;") (by decide +kernel)
  have lk_33 := hts (.fieldLink RX4 33 "LockQuorum" "clients" "LLockQuorum$Clients;") (by decide +kernel)
  have lk_44 := hts (.fieldLink RX4 44 "LockQuorum" "now" "I") (by decide +kernel)
  have lk_198 := hts (.fieldLink RX4 198 "LockQuorum$Locks" "end" "[I") (by decide +kernel)
  have lk_238 := hts (.fieldLink RX4 238 "LockQuorum" "leasedTicks" "J") (by decide +kernel)
  have hS : va_S (AB base) s.heap s.heap [] := va_S.rf
  have hl := lv_entry ([.ref (ad 0), .int a0, .int a1, .int a2]) (n := 5) (Nat.le_of_ble_eq_true rfl)
  rw [lg_entry_eq]
  generalize (lg_sl ([.ref (ad 0), .int a0, .int a1, .int a2]) ++ List.replicate (5 - (lg_sl ([.ref (ad 0), .int a0, .int a1, .int a2])).length) Slot.unset).toArray = ls at hl ⊢
  have hl : lv_has ls 5 [(0, .ref (ad 0)), (1, .int a0), (2, .int a1), (3, .int a2)] := hl
  refine lv_aload_n hx hb dX4_extendLease_0 rfl (lv_at hl 0 rfl) ?_
  refine va_get (D := D) (ci := 6) (v := .int (w.1 64 0)) (C := RX4) (T := TX4) (N := 6) hx hb hts in_X4 hown hK hP 0 (wg0 ca ad w) rfl 4 (by decide) lk_44 (fun _ h9 => h9) rfl dX4_extendLease_1 ?_
  refine lv_bipush (v := 12) hx hb dX4_extendLease_4 (by decide) ?_
  refine lv_iadd hx hb dX4_extendLease_6 ?_
  refine lv_istore (lv' := [(4, .int ((w.1 64 0) + 12)), (0, .ref (ad 0)), (1, .int a0), (2, .int a1), (3, .int a2)]) hx hb dX4_extendLease_7 hl (by decide) rfl (fun ls hl => ?_)
  refine lv_aload_n hx hb dX4_extendLease_9 rfl (lv_at hl 1 rfl) ?_
  refine lv_dup hx hb dX4_extendLease_10 rfl ?_
  refine va_get (D := D) (ci := 6) (v := .long (w.2.1 0)) (C := RX4) (T := TX4) (N := 6) hx hb hts in_X4 hown hK hP 0 (wg0 ca ad w) rfl 5 (by decide) lk_238 (fun _ h9 => h9) rfl dX4_extendLease_11 ?_
  refine lv_iload hx hb dX4_extendLease_14 (lv_at hl 0 rfl) ?_
  refine lv_aload_n hx hb dX4_extendLease_16 rfl (lv_at hl 1 rfl) ?_
  refine va_get (D := D) (ci := 6) (v := .ref (ad 13)) (C := RX4) (T := TX4) (N := 6) hx hb hts in_X4 hown hK hP 0 (wg0 ca ad w) rfl 2 (by decide) lk_26 (fun _ h9 => h9) rfl dX4_extendLease_17 ?_
  refine va_get (D := D) (ci := 3) (v := .ref (ad 15)) (C := RX1) (T := TX1) (N := 6) hx hb hts in_X1 hown hK hP 13 (wg13 ca ad w) rfl 1 (by decide) lk_198 (fun _ h9 => h9) rfl dX4_extendLease_20 ?_
  refine lv_iload_n hx hb dX4_extendLease_23 rfl (lv_at hl 3 rfl) ?_
  obtain ⟨h_1, hw⟩ := hw
  refine va_iald hx hb hK hP 15 0 (wg15 ca ad w) rfl h_1 dX4_extendLease_24 ?_
  refine lv_isub hx hb dX4_extendLease_25 ?_
  refine lv_i2l (v := ((((w.1 64 0) + 12) - (w.1 15 (a1).toNatClampNeg))).toInt64) hx hb dX4_extendLease_26 rfl ?_
  refine lv_ladd hx hb dX4_extendLease_27 ?_
  refine va_put (D := D) (ci := 6) (v := .long ((w.2.1 0) + ((((w.1 64 0) + 12) - (w.1 15 (a1).toNatClampNeg))).toInt64)) (ty := .long) (C := RX4) (T := TX4) (N := 6) hx hb hts in_X4 tyX4 tyX4_ok nmX4 hown hK hP (DA hAd) hS 0 (wg0 ca ad w) rfl 5 (by decide) lk_238 (fun _ h9 => h9) rfl (by decide +kernel) rfl rfl (Nat.le_of_ble_eq_true rfl) dX4_extendLease_28 (fun H locs hP hD hS => ?_)
  obtain ⟨w_2, e_3⟩ : ∃ z : St, z = (uL w 0 ((w.2.1 0) + ((((w.1 64 0) + 12) - (w.1 15 (a1).toNatClampNeg))).toInt64)) := ⟨_, rfl⟩
  have hP : PA D ca ad w_2 H := by rw [e_3]; exact wl0 hP
  have hw := hw w_2 e_3
  refine lv_aload_n hx hb dX4_extendLease_31 rfl (lv_at hl 1 rfl) ?_
  refine va_get (D := D) (ci := 6) (v := .ref (ad 13)) (C := RX4) (T := TX4) (N := 6) hx hb hts in_X4 hown hK hP 0 (wg0 ca ad w_2) rfl 2 (by decide) lk_26 (fun _ h9 => h9) rfl dX4_extendLease_32 ?_
  refine va_get (D := D) (ci := 3) (v := .ref (ad 15)) (C := RX1) (T := TX1) (N := 6) hx hb hts in_X1 hown hK hP 13 (wg13 ca ad w_2) rfl 1 (by decide) lk_198 (fun _ h9 => h9) rfl dX4_extendLease_35 ?_
  refine lv_iload_n hx hb dX4_extendLease_38 rfl (lv_at hl 3 rfl) ?_
  refine lv_iload hx hb dX4_extendLease_39 (lv_at hl 0 rfl) ?_
  obtain ⟨h_4, hw⟩ := hw
  refine va_iast hx hb hK hP (DA hAd) hS 15 0 (wg15 ca ad w_2) rfl h_4 dX4_extendLease_41 (fun H locs hP hD hS => ?_)
  obtain ⟨w_5, e_6⟩ : ∃ z : St, z = (uA w_2 15 (upd (w_2.1 15) (a1).toNatClampNeg ((w.1 64 0) + 12))) := ⟨_, rfl⟩
  have hP : PA D ca ad w_5 H := by rw [e_6]; exact wu15 hP
  have hw := hw w_5 e_6
  refine lv_aload_n hx hb dX4_extendLease_42 rfl (lv_at hl 1 rfl) ?_
  refine va_get (D := D) (ci := 6) (v := .ref (ad 24)) (C := RX4) (T := TX4) (N := 6) hx hb hts in_X4 hown hK hP 0 (wg0 ca ad w_5) rfl 3 (by decide) lk_33 (fun _ h9 => h9) rfl dX4_extendLease_43 ?_
  refine lv_iload_n hx hb dX4_extendLease_46 rfl (lv_at hl 2 rfl) ?_
  refine lv_iload_n hx hb dX4_extendLease_47 rfl (lv_at hl 3 rfl) ?_
  refine lv_aload_n hx hb dX4_extendLease_48 rfl (lv_at hl 1 rfl) ?_
  refine va_get (D := D) (ci := 6) (v := .int (w_5.1 64 0)) (C := RX4) (T := TX4) (N := 6) hx hb hts in_X4 hown hK hP 0 (wg0 ca ad w_5) rfl 4 (by decide) lk_44 (fun _ h9 => h9) rfl dX4_extendLease_49 ?_
  refine va_callv (va_runV (As := [.int a0, .int a1, .int (w_5.1 64 0)]) (rest := []) ⟨hx, hb, hml, hown, hts⟩ (mX0_noteLease l D ca ad base hAd w_5 a0 a1 (w_5.1 64 0) _ hw) (cwV 3 hts gX4_extendLease_X0_noteLease rfl rfl rfl (by decide +kernel) ⟨Nat.le_of_ble_eq_true rfl, Nat.le_of_ble_eq_true rfl⟩) (pv [.int a0, .int a1, .int (w_5.1 64 0)] hK hP hbs hS rfl (wg24 ca ad w_5)) rfl rfl hl.1 rfl (lv_room (Nat.le_of_ble_eq_true rfl)) dX4_extendLease_52 ⟨Nat.le_of_ble_eq_true rfl, Nat.le_of_ble_eq_true rfl⟩) hS (fun q _ h => h) (fun q h => h) (fun w_7 t H locs ht hvm hw hP hz1 hk1 hS => ?_)
  have hP : PA D ca ad w_7 H := by rw [← ht]; exact hP
  refine lv_aload_n hx hb dX4_extendLease_55 rfl (lv_at hl 1 rfl) ?_
  refine lv_iload_n hx hb dX4_extendLease_56 rfl (lv_at hl 4 rfl) ?_
  refine lv_bipush (v := 114) hx hb dX4_extendLease_57 (by decide) ?_
  refine lv_iload_n hx hb dX4_extendLease_59 rfl (lv_at hl 2 rfl) ?_
  refine lv_iload_n hx hb dX4_extendLease_60 rfl (lv_at hl 3 rfl) ?_
  refine lv_iload hx hb dX4_extendLease_61 (lv_at hl 0 rfl) ?_
  refine va_callv (va_runV (As := [.int a2, .int 114, .int a0, .int a1, .int ((w.1 64 0) + 12)]) (rest := []) ⟨hx, hb, hml, hown, hts⟩ (mX4_makeEntry l D ca ad base hAd w_7 a2 114 a0 a1 ((w.1 64 0) + 12) _ hw) (cwV 5 hts gX4_extendLease_X4_makeEntry rfl rfl rfl (by decide +kernel) ⟨Nat.le_of_ble_eq_true rfl, Nat.le_of_ble_eq_true rfl⟩) (pv [.int a2, .int 114, .int a0, .int a1, .int ((w.1 64 0) + 12)] hK hP hbs hS rfl (wg0 ca ad w_7)) rfl rfl hl.1 rfl (lv_room (Nat.le_of_ble_eq_true rfl)) dX4_extendLease_63 ⟨Nat.le_of_ble_eq_true rfl, Nat.le_of_ble_eq_true rfl⟩) hS (fun q _ h => h) (fun q h => h) (fun w_8 t H locs ht hvm hw hP hz1 hk1 hS => ?_)
  have hP : PA D ca ad w_8 H := by rw [← ht]; exact hP
  exact W.vret hx hb hr (fun t ht hW => ⟨⟨w_8, rfl, hw, by show PA D ca ad w_8 t.heap; rw [ht]; exact hP⟩, hS.F ht⟩) hS.2.2 dX4_extendLease_66
set_option maxHeartbeats 4000000 in
set_option maxRecDepth 100000 in
def wpX4_renew (a0 : Int32) (a1 : Int32) (a2 : Int32) (w : St) (post : Int32 → St → Prop) (px : String → St → Prop) : Prop := wpX4_askAsOwner a0 a1 a2 w (fun r_2 w_1 => (r_2 = 103 → ((vp_in a1 4) ∧ (((w_1.1 16 (a1).toNatClampNeg) = (-1) → (wpX4_extendLease a0 a1 a2 w_1 (fun w_6 => post 103 w_6))) ∧ (¬ ((w_1.1 16 (a1).toNatClampNeg) = (-1)) → (post 115 w_1))))) ∧ (¬ (r_2 = 103) → ((narrow .char (.int r_2) = .int r_2) ∧ post r_2 w_1))) px
set_option maxHeartbeats 4000000 in
set_option maxRecDepth 100000 in
theorem mX4_renew (l : Launch) (D : va_G) (ca : Nat → ClassId) (ad : Nat → Nat) (base : Nat) (hAd : okA base ad) (w : St) (a0 : Int32) (a1 : Int32) (a2 : Int32) (post : Int32 → St → Prop) (px : String → St → Prop) (hw : wpX4_renew a0 a1 a2 w post px) (hl9 : l.stackTraces = false) : vx_Met l yX4_renew wsX4_renew ({ frames := 9, cells := 4, slots := 24, locals := 158 } : Room) (va_Pc [.ref (ad 0), .int a0, .int a1, .int a2] (BX D ca ad base w)) (va_Qi post (Bp D ca ad) (AB base)) (vx_X (fun q : String × St => px q.1 q.2) (Bx D ca ad) (AB base)) 4 24 (AB base) := by
  refine vx_ofW (cc := cX4_renew) (maxL := 5) (ret := (some .char)) (by decide) rfl ?_
  intro p e s m args below meth c s₁ B hml hEx hv
  obtain ⟨rfl, ⟨hbs, hP, hK⟩, hXP⟩ := hv
  have hx := B.exec
  have hb := B.bytes
  have hr := B.returns
  have hts := atoms_spec (ws := wsX4_renew) B.pre
  have hown : s.vm.findClass RX4 = some m.cls := findClass_of_methodNamed B.named
  have hlocks := B.notSynchronized
  have in_X1 : ∀ w ∈ wsX10, w ∈ wsX4_renew := by decide +kernel
  have in_X4 : ∀ w ∈ wsX40, w ∈ wsX4_renew := by decide +kernel
  have lk_26 := hts (.fieldLink RX4 26 "LockQuorum" "locks" "LLockQuorum$Locks;") (by decide +kernel)
  have lk_129 := hts (.fieldLink RX4 129 "LockQuorum$Locks" "thief" "[I") (by decide +kernel)
  have hS : va_S (AB base) s.heap s.heap [] := va_S.rf
  have hl := lv_entry ([.ref (ad 0), .int a0, .int a1, .int a2]) (n := 5) (Nat.le_of_ble_eq_true rfl)
  rw [lg_entry_eq]
  generalize (lg_sl ([.ref (ad 0), .int a0, .int a1, .int a2]) ++ List.replicate (5 - (lg_sl ([.ref (ad 0), .int a0, .int a1, .int a2])).length) Slot.unset).toArray = ls at hl ⊢
  have hl : lv_has ls 5 [(0, .ref (ad 0)), (1, .int a0), (2, .int a1), (3, .int a2)] := hl
  refine lv_aload_n hx hb dX4_renew_0 rfl (lv_at hl 0 rfl) ?_
  refine lv_iload_n hx hb dX4_renew_1 rfl (lv_at hl 1 rfl) ?_
  refine lv_iload_n hx hb dX4_renew_2 rfl (lv_at hl 2 rfl) ?_
  refine lv_iload_n hx hb dX4_renew_3 rfl (lv_at hl 3 rfl) ?_
  refine vx_calli (vx_runV (As := [.int a0, .int a1, .int a2]) (rest := []) ⟨hx, hb, hml, hown, hts⟩ (mX4_askAsOwner l D ca ad base hAd w a0 a1 a2 _ _ hw hl9) (cwV 3 hts gX4_renew_X4_askAsOwner rfl rfl rfl (by decide +kernel) ⟨Nat.le_of_ble_eq_true rfl, Nat.le_of_ble_eq_true rfl⟩) (pvx [.int a0, .int a1, .int a2] hK hXP hP hbs hS rfl (wg0 ca ad w)) rfl rfl hl.1 rfl (lv_room (Nat.le_of_ble_eq_true rfl)) dX4_renew_4 ⟨Nat.le_of_ble_eq_true rfl, Nat.le_of_ble_eq_true rfl⟩) hS (fun q _ h => h) (fun q h => h) (fun q _ h => h) (fun E ce q9 u t H locs ht hvm hw hB hz1 hk1 hS hce hcv hcl => ?_) (fun r_2 w_1 t H locs ht hvm hw hP hz1 hk1 hS => ?_)
  · exact vx_out (E := E) (fun x hx => (hEx x hx).elim) hlocks hce hcv hcl (fun t9 ht9 ha9 => ⟨u, hw, ⟨hB.1, by show PA D ca ad u.2 t9.heap; rw [ht9, ← ht]; exact hB.2⟩, hS.F ht9⟩) hS.2.2 (Nat.le_of_ble_eq_true rfl) (Nat.le_of_ble_eq_true rfl)
  have hP : PA D ca ad w_1 H := by rw [← ht]; exact hP
  refine lv_istore (lv' := [(4, .int r_2), (0, .ref (ad 0)), (1, .int a0), (2, .int a1), (3, .int a2)]) hx hb dX4_renew_7 hl (by decide) rfl (fun ls hl => ?_)
  refine lv_iload hx hb dX4_renew_9 (lv_at hl 0 rfl) ?_
  refine lv_bipush (v := 103) hx hb dX4_renew_11 (by decide) ?_
  refine lv_icmp_eq (tgt := 19) hx hb dX4_renew_13 (by decide) (fun c_3 => ?_) (fun c_3 => ?_)
  · have hw := hw.1 c_3
    refine lv_aload_n hx hb dX4_renew_19 rfl (lv_at hl 1 rfl) ?_
    refine va_get (D := D) (ci := 6) (v := .ref (ad 13)) (C := RX4) (T := TX4) (N := 6) hx hb hts in_X4 hown hK hP 0 (wg0 ca ad w_1) rfl 2 (by decide) lk_26 (fun _ h9 => h9) rfl dX4_renew_20 ?_
    refine va_get (D := D) (ci := 3) (v := .ref (ad 16)) (C := RX1) (T := TX1) (N := 6) hx hb hts in_X1 hown hK hP 13 (wg13 ca ad w_1) rfl 2 (by decide) lk_129 (fun _ h9 => h9) rfl dX4_renew_23 ?_
    refine lv_iload_n hx hb dX4_renew_26 rfl (lv_at hl 3 rfl) ?_
    obtain ⟨h_4, hw⟩ := hw
    refine va_iald hx hb hK hP 16 0 (wg16 ca ad w_1) rfl h_4 dX4_renew_27 ?_
    refine lv_iconst (v := (-1)) hx hb dX4_renew_28 (by decide) ?_
    refine lv_icmp_eq (tgt := 35) hx hb dX4_renew_29 (by decide) (fun c_5 => ?_) (fun c_5 => ?_)
    · have hw := hw.1 c_5
      refine lv_aload_n hx hb dX4_renew_35 rfl (lv_at hl 1 rfl) ?_
      refine lv_iload_n hx hb dX4_renew_36 rfl (lv_at hl 2 rfl) ?_
      refine lv_iload_n hx hb dX4_renew_37 rfl (lv_at hl 3 rfl) ?_
      refine lv_iload_n hx hb dX4_renew_38 rfl (lv_at hl 4 rfl) ?_
      refine va_callv (va_runV (As := [.int a0, .int a1, .int a2]) (rest := []) ⟨hx, hb, hml, hown, hts⟩ (mX4_extendLease l D ca ad base hAd w_1 a0 a1 a2 _ hw) (cwV 3 hts gX4_renew_X4_extendLease rfl rfl rfl (by decide +kernel) ⟨Nat.le_of_ble_eq_true rfl, Nat.le_of_ble_eq_true rfl⟩) (pv [.int a0, .int a1, .int a2] hK hP hbs hS rfl (wg0 ca ad w_1)) rfl rfl hl.1 rfl (lv_room (Nat.le_of_ble_eq_true rfl)) dX4_renew_39 ⟨Nat.le_of_ble_eq_true rfl, Nat.le_of_ble_eq_true rfl⟩) hS (fun q _ h => h) (fun q h => h) (fun w_6 t H locs ht hvm hw hP hz1 hk1 hS => ?_)
      have hP : PA D ca ad w_6 H := by rw [← ht]; exact hP
      refine lv_bipush (v := 103) hx hb dX4_renew_42 (by decide) ?_
      refine vx_ret ?_
      exact W.zret (v := 103) hx hb hr (by decide) (fun t ht hW => ⟨⟨103, w_6, rfl, hw, by show PA D ca ad w_6 t.heap; rw [ht]; exact hP⟩, hS.F ht⟩) hS.2.2 dX4_renew_44
    · have hw := hw.2 c_5
      refine lv_bipush (v := 115) hx hb dX4_renew_32 (by decide) ?_
      refine vx_ret ?_
      exact W.zret (v := 115) hx hb hr (by decide) (fun t ht hW => ⟨⟨115, w_1, rfl, hw, by show PA D ca ad w_1 t.heap; rw [ht]; exact hP⟩, hS.F ht⟩) hS.2.2 dX4_renew_34
  · have hw := hw.2 c_3
    refine lv_iload hx hb dX4_renew_16 (lv_at hl 0 rfl) ?_
    refine vx_ret ?_
    obtain ⟨hn9, hw⟩ := hw
    exact W.zret (v := r_2) hx hb hr hn9 (fun t ht hW => ⟨⟨r_2, w_1, rfl, hw, by show PA D ca ad w_1 t.heap; rw [ht]; exact hP⟩, hS.F ht⟩) hS.2.2 dX4_renew_18
set_option maxHeartbeats 4000000 in
set_option maxRecDepth 100000 in
def wpX4_endLease (a0 : Int32) (a1 : Int32) (a2 : Int32) (w : St) (post : St → Prop) : Prop := (vp_in a1 4) ∧ (∀ w_2 : St, w_2 = (uL w 0 ((w.2.1 0) - (((w.1 15 (a1).toNatClampNeg) - (w.1 64 0))).toInt64)) → (vp_in a1 4) ∧ (∀ w_5 : St, w_5 = (uA w_2 14 (upd (w_2.1 14) (a1).toNatClampNeg (-1))) → wpX0_dropLease a0 a1 w_5 (fun w_7 => wpX4_makeEntry a2 117 a0 a1 0 w_7 (fun w_8 => post w_8))))
set_option maxHeartbeats 4000000 in
set_option maxRecDepth 100000 in
theorem mX4_endLease (l : Launch) (D : va_G) (ca : Nat → ClassId) (ad : Nat → Nat) (base : Nat) (hAd : okA base ad) (w : St) (a0 : Int32) (a1 : Int32) (a2 : Int32) (post : St → Prop) (hw : wpX4_endLease a0 a1 a2 w post) : Met l yX4_endLease wsX4_endLease ({ frames := 3, cells := 0, slots := 0, locals := 70 } : Room) (va_Pc [.ref (ad 0), .int a0, .int a1, .int a2] (BU D ca ad base w)) (va_Qv post (Bp D ca ad) (AB base)) 0 0 (AB base) := by
  refine Met.ofW (cc := cX4_endLease) (maxL := 4) (ret := none) (by decide) rfl ?_
  intro p e s m args below meth c s₁ B hml hv
  obtain ⟨rfl, hbs, hP, hK⟩ := hv
  have hx := B.exec
  have hb := B.bytes
  have hr := B.returns
  have hts := atoms_spec (ws := wsX4_endLease) B.pre
  have hown : s.vm.findClass RX4 = some m.cls := findClass_of_methodNamed B.named
  have hlocks := B.notSynchronized
  have in_X1 : ∀ w ∈ wsX10, w ∈ wsX4_endLease := by decide +kernel
  have in_X4 : ∀ w ∈ wsX40, w ∈ wsX4_endLease := by decide +kernel
  have lk_26 := hts (.fieldLink RX4 26 "LockQuorum" "locks" "LLockQuorum$Locks;") (by decide +kernel)
  have lk_33 := hts (.fieldLink RX4 33 "LockQuorum" "clients" "LLockQuorum$Clients;") (by decide +kernel)
  have lk_44 := hts (.fieldLink RX4 44 "LockQuorum" "now" "I") (by decide +kernel)
  have lk_190 := hts (.fieldLink RX4 190 "LockQuorum$Locks" "owner" "[I") (by decide +kernel)
  have lk_198 := hts (.fieldLink RX4 198 "LockQuorum$Locks" "end" "[I") (by decide +kernel)
  have lk_238 := hts (.fieldLink RX4 238 "LockQuorum" "leasedTicks" "J") (by decide +kernel)
  have hS : va_S (AB base) s.heap s.heap [] := va_S.rf
  have hl := lv_entry ([.ref (ad 0), .int a0, .int a1, .int a2]) (n := 4) (Nat.le_of_ble_eq_true rfl)
  rw [lg_entry_eq]
  generalize (lg_sl ([.ref (ad 0), .int a0, .int a1, .int a2]) ++ List.replicate (4 - (lg_sl ([.ref (ad 0), .int a0, .int a1, .int a2])).length) Slot.unset).toArray = ls at hl ⊢
  have hl : lv_has ls 4 [(0, .ref (ad 0)), (1, .int a0), (2, .int a1), (3, .int a2)] := hl
  refine lv_aload_n hx hb dX4_endLease_0 rfl (lv_at hl 0 rfl) ?_
  refine lv_dup hx hb dX4_endLease_1 rfl ?_
  refine va_get (D := D) (ci := 6) (v := .long (w.2.1 0)) (C := RX4) (T := TX4) (N := 6) hx hb hts in_X4 hown hK hP 0 (wg0 ca ad w) rfl 5 (by decide) lk_238 (fun _ h9 => h9) rfl dX4_endLease_2 ?_
  refine lv_aload_n hx hb dX4_endLease_5 rfl (lv_at hl 0 rfl) ?_
  refine va_get (D := D) (ci := 6) (v := .ref (ad 13)) (C := RX4) (T := TX4) (N := 6) hx hb hts in_X4 hown hK hP 0 (wg0 ca ad w) rfl 2 (by decide) lk_26 (fun _ h9 => h9) rfl dX4_endLease_6 ?_
  refine va_get (D := D) (ci := 3) (v := .ref (ad 15)) (C := RX1) (T := TX1) (N := 6) hx hb hts in_X1 hown hK hP 13 (wg13 ca ad w) rfl 1 (by decide) lk_198 (fun _ h9 => h9) rfl dX4_endLease_9 ?_
  refine lv_iload_n hx hb dX4_endLease_12 rfl (lv_at hl 2 rfl) ?_
  obtain ⟨h_1, hw⟩ := hw
  refine va_iald hx hb hK hP 15 0 (wg15 ca ad w) rfl h_1 dX4_endLease_13 ?_
  refine lv_aload_n hx hb dX4_endLease_14 rfl (lv_at hl 0 rfl) ?_
  refine va_get (D := D) (ci := 6) (v := .int (w.1 64 0)) (C := RX4) (T := TX4) (N := 6) hx hb hts in_X4 hown hK hP 0 (wg0 ca ad w) rfl 4 (by decide) lk_44 (fun _ h9 => h9) rfl dX4_endLease_15 ?_
  refine lv_isub hx hb dX4_endLease_18 ?_
  refine lv_i2l (v := (((w.1 15 (a1).toNatClampNeg) - (w.1 64 0))).toInt64) hx hb dX4_endLease_19 rfl ?_
  refine lv_lsub hx hb dX4_endLease_20 ?_
  refine va_put (D := D) (ci := 6) (v := .long ((w.2.1 0) - (((w.1 15 (a1).toNatClampNeg) - (w.1 64 0))).toInt64)) (ty := .long) (C := RX4) (T := TX4) (N := 6) hx hb hts in_X4 tyX4 tyX4_ok nmX4 hown hK hP (DA hAd) hS 0 (wg0 ca ad w) rfl 5 (by decide) lk_238 (fun _ h9 => h9) rfl (by decide +kernel) rfl rfl (Nat.le_of_ble_eq_true rfl) dX4_endLease_21 (fun H locs hP hD hS => ?_)
  obtain ⟨w_2, e_3⟩ : ∃ z : St, z = (uL w 0 ((w.2.1 0) - (((w.1 15 (a1).toNatClampNeg) - (w.1 64 0))).toInt64)) := ⟨_, rfl⟩
  have hP : PA D ca ad w_2 H := by rw [e_3]; exact wl0 hP
  have hw := hw w_2 e_3
  refine lv_aload_n hx hb dX4_endLease_24 rfl (lv_at hl 0 rfl) ?_
  refine va_get (D := D) (ci := 6) (v := .ref (ad 13)) (C := RX4) (T := TX4) (N := 6) hx hb hts in_X4 hown hK hP 0 (wg0 ca ad w_2) rfl 2 (by decide) lk_26 (fun _ h9 => h9) rfl dX4_endLease_25 ?_
  refine va_get (D := D) (ci := 3) (v := .ref (ad 14)) (C := RX1) (T := TX1) (N := 6) hx hb hts in_X1 hown hK hP 13 (wg13 ca ad w_2) rfl 0 (by decide) lk_190 (fun _ h9 => h9) rfl dX4_endLease_28 ?_
  refine lv_iload_n hx hb dX4_endLease_31 rfl (lv_at hl 2 rfl) ?_
  refine lv_iconst (v := (-1)) hx hb dX4_endLease_32 (by decide) ?_
  obtain ⟨h_4, hw⟩ := hw
  refine va_iast hx hb hK hP (DA hAd) hS 14 0 (wg14 ca ad w_2) rfl h_4 dX4_endLease_33 (fun H locs hP hD hS => ?_)
  obtain ⟨w_5, e_6⟩ : ∃ z : St, z = (uA w_2 14 (upd (w_2.1 14) (a1).toNatClampNeg (-1))) := ⟨_, rfl⟩
  have hP : PA D ca ad w_5 H := by rw [e_6]; exact wu14 hP
  have hw := hw w_5 e_6
  refine lv_aload_n hx hb dX4_endLease_34 rfl (lv_at hl 0 rfl) ?_
  refine va_get (D := D) (ci := 6) (v := .ref (ad 24)) (C := RX4) (T := TX4) (N := 6) hx hb hts in_X4 hown hK hP 0 (wg0 ca ad w_5) rfl 3 (by decide) lk_33 (fun _ h9 => h9) rfl dX4_endLease_35 ?_
  refine lv_iload_n hx hb dX4_endLease_38 rfl (lv_at hl 1 rfl) ?_
  refine lv_iload_n hx hb dX4_endLease_39 rfl (lv_at hl 2 rfl) ?_
  refine va_callv (va_runV (As := [.int a0, .int a1]) (rest := []) ⟨hx, hb, hml, hown, hts⟩ (mX0_dropLease l D ca ad base hAd w_5 a0 a1 _ hw) (cwV 2 hts gX4_endLease_X0_dropLease rfl rfl rfl (by decide +kernel) ⟨Nat.le_of_ble_eq_true rfl, Nat.le_of_ble_eq_true rfl⟩) (pv [.int a0, .int a1] hK hP hbs hS rfl (wg24 ca ad w_5)) rfl rfl hl.1 rfl (lv_room (Nat.le_of_ble_eq_true rfl)) dX4_endLease_40 ⟨Nat.le_of_ble_eq_true rfl, Nat.le_of_ble_eq_true rfl⟩) hS (fun q _ h => h) (fun q h => h) (fun w_7 t H locs ht hvm hw hP hz1 hk1 hS => ?_)
  have hP : PA D ca ad w_7 H := by rw [← ht]; exact hP
  refine lv_aload_n hx hb dX4_endLease_43 rfl (lv_at hl 0 rfl) ?_
  refine lv_iload_n hx hb dX4_endLease_44 rfl (lv_at hl 3 rfl) ?_
  refine lv_bipush (v := 117) hx hb dX4_endLease_45 (by decide) ?_
  refine lv_iload_n hx hb dX4_endLease_47 rfl (lv_at hl 1 rfl) ?_
  refine lv_iload_n hx hb dX4_endLease_48 rfl (lv_at hl 2 rfl) ?_
  refine lv_iconst (v := 0) hx hb dX4_endLease_49 (by decide) ?_
  refine va_callv (va_runV (As := [.int a2, .int 117, .int a0, .int a1, .int 0]) (rest := []) ⟨hx, hb, hml, hown, hts⟩ (mX4_makeEntry l D ca ad base hAd w_7 a2 117 a0 a1 0 _ hw) (cwV 5 hts gX4_endLease_X4_makeEntry rfl rfl rfl (by decide +kernel) ⟨Nat.le_of_ble_eq_true rfl, Nat.le_of_ble_eq_true rfl⟩) (pv [.int a2, .int 117, .int a0, .int a1, .int 0] hK hP hbs hS rfl (wg0 ca ad w_7)) rfl rfl hl.1 rfl (lv_room (Nat.le_of_ble_eq_true rfl)) dX4_endLease_50 ⟨Nat.le_of_ble_eq_true rfl, Nat.le_of_ble_eq_true rfl⟩) hS (fun q _ h => h) (fun q h => h) (fun w_8 t H locs ht hvm hw hP hz1 hk1 hS => ?_)
  have hP : PA D ca ad w_8 H := by rw [← ht]; exact hP
  exact W.vret hx hb hr (fun t ht hW => ⟨⟨w_8, rfl, hw, by show PA D ca ad w_8 t.heap; rw [ht]; exact hP⟩, hS.F ht⟩) hS.2.2 dX4_endLease_53
set_option maxHeartbeats 4000000 in
set_option maxRecDepth 100000 in
def wpX4_release (a0 : Int32) (a1 : Int32) (a2 : Int32) (w : St) (post : Int32 → St → Prop) (px : String → St → Prop) : Prop := wpX4_askAsOwner a0 a1 a2 w (fun r_2 w_1 => (r_2 = 103 → (wpX4_endLease a0 a1 a2 w_1 (fun w_4 => post 103 w_4))) ∧ (¬ (r_2 = 103) → ((narrow .char (.int r_2) = .int r_2) ∧ post r_2 w_1))) px
set_option maxHeartbeats 4000000 in
set_option maxRecDepth 100000 in
theorem mX4_release (l : Launch) (D : va_G) (ca : Nat → ClassId) (ad : Nat → Nat) (base : Nat) (hAd : okA base ad) (w : St) (a0 : Int32) (a1 : Int32) (a2 : Int32) (post : Int32 → St → Prop) (px : String → St → Prop) (hw : wpX4_release a0 a1 a2 w post px) (hl9 : l.stackTraces = false) : vx_Met l yX4_release wsX4_release ({ frames := 9, cells := 4, slots := 24, locals := 158 } : Room) (va_Pc [.ref (ad 0), .int a0, .int a1, .int a2] (BX D ca ad base w)) (va_Qi post (Bp D ca ad) (AB base)) (vx_X (fun q : String × St => px q.1 q.2) (Bx D ca ad) (AB base)) 4 24 (AB base) := by
  refine vx_ofW (cc := cX4_release) (maxL := 5) (ret := (some .char)) (by decide) rfl ?_
  intro p e s m args below meth c s₁ B hml hEx hv
  obtain ⟨rfl, ⟨hbs, hP, hK⟩, hXP⟩ := hv
  have hx := B.exec
  have hb := B.bytes
  have hr := B.returns
  have hts := atoms_spec (ws := wsX4_release) B.pre
  have hown : s.vm.findClass RX4 = some m.cls := findClass_of_methodNamed B.named
  have hlocks := B.notSynchronized
  have hS : va_S (AB base) s.heap s.heap [] := va_S.rf
  have hl := lv_entry ([.ref (ad 0), .int a0, .int a1, .int a2]) (n := 5) (Nat.le_of_ble_eq_true rfl)
  rw [lg_entry_eq]
  generalize (lg_sl ([.ref (ad 0), .int a0, .int a1, .int a2]) ++ List.replicate (5 - (lg_sl ([.ref (ad 0), .int a0, .int a1, .int a2])).length) Slot.unset).toArray = ls at hl ⊢
  have hl : lv_has ls 5 [(0, .ref (ad 0)), (1, .int a0), (2, .int a1), (3, .int a2)] := hl
  refine lv_aload_n hx hb dX4_release_0 rfl (lv_at hl 0 rfl) ?_
  refine lv_iload_n hx hb dX4_release_1 rfl (lv_at hl 1 rfl) ?_
  refine lv_iload_n hx hb dX4_release_2 rfl (lv_at hl 2 rfl) ?_
  refine lv_iload_n hx hb dX4_release_3 rfl (lv_at hl 3 rfl) ?_
  refine vx_calli (vx_runV (As := [.int a0, .int a1, .int a2]) (rest := []) ⟨hx, hb, hml, hown, hts⟩ (mX4_askAsOwner l D ca ad base hAd w a0 a1 a2 _ _ hw hl9) (cwV 3 hts gX4_release_X4_askAsOwner rfl rfl rfl (by decide +kernel) ⟨Nat.le_of_ble_eq_true rfl, Nat.le_of_ble_eq_true rfl⟩) (pvx [.int a0, .int a1, .int a2] hK hXP hP hbs hS rfl (wg0 ca ad w)) rfl rfl hl.1 rfl (lv_room (Nat.le_of_ble_eq_true rfl)) dX4_release_4 ⟨Nat.le_of_ble_eq_true rfl, Nat.le_of_ble_eq_true rfl⟩) hS (fun q _ h => h) (fun q h => h) (fun q _ h => h) (fun E ce q9 u t H locs ht hvm hw hB hz1 hk1 hS hce hcv hcl => ?_) (fun r_2 w_1 t H locs ht hvm hw hP hz1 hk1 hS => ?_)
  · exact vx_out (E := E) (fun x hx => (hEx x hx).elim) hlocks hce hcv hcl (fun t9 ht9 ha9 => ⟨u, hw, ⟨hB.1, by show PA D ca ad u.2 t9.heap; rw [ht9, ← ht]; exact hB.2⟩, hS.F ht9⟩) hS.2.2 (Nat.le_of_ble_eq_true rfl) (Nat.le_of_ble_eq_true rfl)
  have hP : PA D ca ad w_1 H := by rw [← ht]; exact hP
  refine lv_istore (lv' := [(4, .int r_2), (0, .ref (ad 0)), (1, .int a0), (2, .int a1), (3, .int a2)]) hx hb dX4_release_7 hl (by decide) rfl (fun ls hl => ?_)
  refine lv_iload hx hb dX4_release_9 (lv_at hl 0 rfl) ?_
  refine lv_bipush (v := 103) hx hb dX4_release_11 (by decide) ?_
  refine lv_icmp_eq (tgt := 19) hx hb dX4_release_13 (by decide) (fun c_3 => ?_) (fun c_3 => ?_)
  · have hw := hw.1 c_3
    refine lv_aload_n hx hb dX4_release_19 rfl (lv_at hl 1 rfl) ?_
    refine lv_iload_n hx hb dX4_release_20 rfl (lv_at hl 2 rfl) ?_
    refine lv_iload_n hx hb dX4_release_21 rfl (lv_at hl 3 rfl) ?_
    refine lv_iload_n hx hb dX4_release_22 rfl (lv_at hl 4 rfl) ?_
    refine va_callv (va_runV (As := [.int a0, .int a1, .int a2]) (rest := []) ⟨hx, hb, hml, hown, hts⟩ (mX4_endLease l D ca ad base hAd w_1 a0 a1 a2 _ hw) (cwV 3 hts gX4_release_X4_endLease rfl rfl rfl (by decide +kernel) ⟨Nat.le_of_ble_eq_true rfl, Nat.le_of_ble_eq_true rfl⟩) (pv [.int a0, .int a1, .int a2] hK hP hbs hS rfl (wg0 ca ad w_1)) rfl rfl hl.1 rfl (lv_room (Nat.le_of_ble_eq_true rfl)) dX4_release_23 ⟨Nat.le_of_ble_eq_true rfl, Nat.le_of_ble_eq_true rfl⟩) hS (fun q _ h => h) (fun q h => h) (fun w_4 t H locs ht hvm hw hP hz1 hk1 hS => ?_)
    have hP : PA D ca ad w_4 H := by rw [← ht]; exact hP
    refine lv_bipush (v := 103) hx hb dX4_release_26 (by decide) ?_
    refine vx_ret ?_
    exact W.zret (v := 103) hx hb hr (by decide) (fun t ht hW => ⟨⟨103, w_4, rfl, hw, by show PA D ca ad w_4 t.heap; rw [ht]; exact hP⟩, hS.F ht⟩) hS.2.2 dX4_release_28
  · have hw := hw.2 c_3
    refine lv_iload hx hb dX4_release_16 (lv_at hl 0 rfl) ?_
    refine vx_ret ?_
    obtain ⟨hn9, hw⟩ := hw
    exact W.zret (v := r_2) hx hb hr hn9 (fun t ht hW => ⟨⟨r_2, w_1, rfl, hw, by show PA D ca ad w_1 t.heap; rw [ht]; exact hP⟩, hS.F ht⟩) hS.2.2 dX4_release_18
set_option maxHeartbeats 4000000 in
set_option maxRecDepth 100000 in
def wpX4_quit_B65 (a0 : Int32) (a1 : Int32) (post : Int32 → St → Prop) (px : String → St → Prop) (w : St) : Prop := (vp_in a1 4) ∧ (post (w.1 18 (a1).toNatClampNeg) w)
set_option maxHeartbeats 4000000 in
set_option maxRecDepth 100000 in
def wpX4_quit (a0 : Int32) (a1 : Int32) (w : St) (post : Int32 → St → Prop) (px : String → St → Prop) : Prop := wpX4_checkClient a0 w (fun w_2 => wpX4_checkLock a1 w_2 (fun w_3 => wpX1_placeOf a1 a0 w_3 (fun r_5 w_4 => (r_5 = (-1) → (px "java/lang/UnsupportedOperationException" w_4)) ∧ (¬ (r_5 = (-1)) → (wpX1_takeOut a1 a0 w_4 (fun w_7 => (vp_in a1 4) ∧ (((w_7.1 16 (a1).toNatClampNeg) = a0 → ((vp_in a1 4) ∧ (∀ w_11 : St, w_11 = (uA w_7 16 (upd (w_7.1 16) (a1).toNatClampNeg (-1))) → wpX4_quit_B65 a0 a1 post px w_11))) ∧ (¬ ((w_7.1 16 (a1).toNatClampNeg) = a0) → (wpX4_quit_B65 a0 a1 post px w_7)))))))) px) px
set_option maxHeartbeats 4000000 in
set_option maxRecDepth 100000 in
theorem mX4_quit (l : Launch) (D : va_G) (ca : Nat → ClassId) (ad : Nat → Nat) (base : Nat) (hAd : okA base ad) (w : St) (a0 : Int32) (a1 : Int32) (post : Int32 → St → Prop) (px : String → St → Prop) (hw : wpX4_quit a0 a1 w post px) (hl9 : l.stackTraces = false) : vx_Met l yX4_quit wsX4_quit ({ frames := 7, cells := 3, slots := 18, locals := 111 } : Room) (va_Pc [.ref (ad 0), .int a0, .int a1] (BX D ca ad base w)) (va_Qi post (Bp D ca ad) (AB base)) (vx_X (fun q : String × St => px q.1 q.2) (Bx D ca ad) (AB base)) 3 18 (AB base) := by
  refine vx_ofW (cc := cX4_quit) (maxL := 3) (ret := (some .int)) (by decide) rfl ?_
  intro p e s m args below meth c s₁ B hml hEx hv
  obtain ⟨rfl, ⟨hbs, hP, hK⟩, hXP⟩ := hv
  have hx := B.exec
  have hb := B.bytes
  have hr := B.returns
  have hts := atoms_spec (ws := wsX4_quit) B.pre
  have hown : s.vm.findClass RX4 = some m.cls := findClass_of_methodNamed B.named
  have hlocks := B.notSynchronized
  have in_X1 : ∀ w ∈ wsX10, w ∈ wsX4_quit := by decide +kernel
  have in_X4 : ∀ w ∈ wsX40, w ∈ wsX4_quit := by decide +kernel
  have lk_26 := hts (.fieldLink RX4 26 "LockQuorum" "locks" "LLockQuorum$Locks;") (by decide +kernel)
  have lk_129 := hts (.fieldLink RX4 129 "LockQuorum$Locks" "thief" "[I") (by decide +kernel)
  have lk_151 := hts (.fieldLink RX4 151 "LockQuorum$Locks" "queued" "[I") (by decide +kernel)
  have hS : va_S (AB base) s.heap s.heap [] := va_S.rf
  have hB65 : ∀ (w : St), wpX4_quit_B65 a0 a1 post px w → ∀ (H : Heap) (locs : List Loc), PA D ca ad w H → va_S (AB base) s.heap H locs → ∀ ls : Array Slot, lv_has ls 3 [(0, .ref (ad 0)), (2, .int a1)] → W p l e (headSpec wsX4_quit ({ frames := 7, cells := 3, slots := 18, locals := 111 } : Room)).room s m ([Value.ref (ad 0), Value.int a0, Value.int a1].toArray) below meth c H locs 2 12 (vx_MQ below (va_Qi post (Bp D ca ad) (AB base)) (vx_X (fun q : String × St => px q.1 q.2) (Bx D ca ad) (AB base)) ([Value.ref (ad 0), Value.int a0, Value.int a1].toArray) s 3 18 (AB base)) (F0 m 65 ls []) := by
    intro w hw H locs hP hS ls hl
    refine lv_aload_n hx hb dX4_quit_65 rfl (lv_at hl 0 rfl) ?_
    refine va_get (D := D) (ci := 6) (v := .ref (ad 13)) (C := RX4) (T := TX4) (N := 6) hx hb hts in_X4 hown hK hP 0 (wg0 ca ad w) rfl 2 (by decide) lk_26 (fun _ h9 => h9) rfl dX4_quit_66 ?_
    refine va_get (D := D) (ci := 3) (v := .ref (ad 18)) (C := RX1) (T := TX1) (N := 6) hx hb hts in_X1 hown hK hP 13 (wg13 ca ad w) rfl 4 (by decide) lk_151 (fun _ h9 => h9) rfl dX4_quit_69 ?_
    refine lv_iload_n hx hb dX4_quit_72 rfl (lv_at hl 1 rfl) ?_
    obtain ⟨h_1, hw⟩ := hw
    refine va_iald hx hb hK hP 18 0 (wg18 ca ad w) rfl h_1 dX4_quit_73 ?_
    refine W.widen (k := 3) (n := 18) (Nat.le_of_ble_eq_true rfl) (Nat.le_of_ble_eq_true rfl) ?_
    refine vx_ret ?_
    exact W.iret (v := (w.1 18 (a1).toNatClampNeg)) hx hb hr (fun t ht hW => ⟨⟨(w.1 18 (a1).toNatClampNeg), w, rfl, hw, by show PA D ca ad w t.heap; rw [ht]; exact hP⟩, hS.F ht⟩) hS.2.2 dX4_quit_74
  have hl := lv_entry ([.ref (ad 0), .int a0, .int a1]) (n := 3) (Nat.le_of_ble_eq_true rfl)
  rw [lg_entry_eq]
  generalize (lg_sl ([.ref (ad 0), .int a0, .int a1]) ++ List.replicate (3 - (lg_sl ([.ref (ad 0), .int a0, .int a1])).length) Slot.unset).toArray = ls at hl ⊢
  have hl : lv_has ls 3 [(0, .ref (ad 0)), (1, .int a0), (2, .int a1)] := hl
  refine lv_aload_n hx hb dX4_quit_0 rfl (lv_at hl 0 rfl) ?_
  refine lv_iload_n hx hb dX4_quit_1 rfl (lv_at hl 1 rfl) ?_
  refine vx_callv (vx_runV (As := [.int a0]) (rest := []) ⟨hx, hb, hml, hown, hts⟩ (mX4_checkClient l D ca ad base hAd w a0 _ _ hw hl9) (cwV 1 hts gX4_quit_X4_checkClient rfl rfl rfl (by decide +kernel) ⟨Nat.le_of_ble_eq_true rfl, Nat.le_of_ble_eq_true rfl⟩) (pvx [.int a0] hK hXP hP hbs hS rfl (wg0 ca ad w)) rfl rfl hl.1 rfl (lv_room (Nat.le_of_ble_eq_true rfl)) dX4_quit_2 ⟨Nat.le_of_ble_eq_true rfl, Nat.le_of_ble_eq_true rfl⟩) hS (fun q _ h => h) (fun q h => h) (fun q _ h => h) (fun E ce q9 u t H locs ht hvm hw hB hz1 hk1 hS hce hcv hcl => ?_) (fun w_2 t H locs ht hvm hw hP hz1 hk1 hS => ?_)
  · exact vx_out (E := E) (fun x hx => (hEx x hx).elim) hlocks hce hcv hcl (fun t9 ht9 ha9 => ⟨u, hw, ⟨hB.1, by show PA D ca ad u.2 t9.heap; rw [ht9, ← ht]; exact hB.2⟩, hS.F ht9⟩) hS.2.2 (Nat.le_of_ble_eq_true rfl) (Nat.le_of_ble_eq_true rfl)
  have hP : PA D ca ad w_2 H := by rw [← ht]; exact hP
  refine lv_aload_n hx hb dX4_quit_5 rfl (lv_at hl 0 rfl) ?_
  refine lv_iload_n hx hb dX4_quit_6 rfl (lv_at hl 2 rfl) ?_
  refine vx_callv (vx_runV (As := [.int a1]) (rest := []) ⟨hx, hb, hml, hown, hts⟩ (mX4_checkLock l D ca ad base hAd w_2 a1 _ _ hw hl9) (cwV 1 hts gX4_quit_X4_checkLock rfl rfl rfl (by decide +kernel) ⟨Nat.le_of_ble_eq_true rfl, Nat.le_of_ble_eq_true rfl⟩) (pvx [.int a1] hK hXP hP hbs hS rfl (wg0 ca ad w_2)) rfl rfl hl.1 rfl (lv_room (Nat.le_of_ble_eq_true rfl)) dX4_quit_7 ⟨Nat.le_of_ble_eq_true rfl, Nat.le_of_ble_eq_true rfl⟩) hS (fun q _ h => h) (fun q h => h) (fun q _ h => h) (fun E ce q9 u t H locs ht hvm hw hB hz1 hk1 hS hce hcv hcl => ?_) (fun w_3 t H locs ht hvm hw hP hz1 hk1 hS => ?_)
  · exact vx_out (E := E) (fun x hx => (hEx x hx).elim) hlocks hce hcv hcl (fun t9 ht9 ha9 => ⟨u, hw, ⟨hB.1, by show PA D ca ad u.2 t9.heap; rw [ht9, ← ht]; exact hB.2⟩, hS.F ht9⟩) hS.2.2 (Nat.le_of_ble_eq_true rfl) (Nat.le_of_ble_eq_true rfl)
  have hP : PA D ca ad w_3 H := by rw [← ht]; exact hP
  refine lv_aload_n hx hb dX4_quit_10 rfl (lv_at hl 0 rfl) ?_
  refine va_get (D := D) (ci := 6) (v := .ref (ad 13)) (C := RX4) (T := TX4) (N := 6) hx hb hts in_X4 hown hK hP 0 (wg0 ca ad w_3) rfl 2 (by decide) lk_26 (fun _ h9 => h9) rfl dX4_quit_11 ?_
  refine lv_iload_n hx hb dX4_quit_14 rfl (lv_at hl 2 rfl) ?_
  refine lv_iload_n hx hb dX4_quit_15 rfl (lv_at hl 1 rfl) ?_
  refine va_calli (va_runV (As := [.int a1, .int a0]) (rest := []) ⟨hx, hb, hml, hown, hts⟩ (mX1_placeOf l D ca ad base hAd w_3 a1 a0 _ hw) (cwV 2 hts gX4_quit_X1_placeOf rfl rfl rfl (by decide +kernel) ⟨Nat.le_of_ble_eq_true rfl, Nat.le_of_ble_eq_true rfl⟩) (pv [.int a1, .int a0] hK hP hbs hS rfl (wg13 ca ad w_3)) rfl rfl hl.1 rfl (lv_room (Nat.le_of_ble_eq_true rfl)) dX4_quit_16 ⟨Nat.le_of_ble_eq_true rfl, Nat.le_of_ble_eq_true rfl⟩) hS (fun q _ h => h) (fun q h => h) (fun r_5 w_4 t H locs ht hvm hw hP hz1 hk1 hS => ?_)
  have hP : PA D ca ad w_4 H := by rw [← ht]; exact hP
  refine lv_iconst (v := (-1)) hx hb dX4_quit_19 (by decide) ?_
  refine lv_icmp_ne (tgt := 33) hx hb dX4_quit_20 (by decide) (fun c_6 => ?_) (fun c_6 => ?_)
  · have hw := hw.2 c_6
    refine lv_aload_n hx hb dX4_quit_33 rfl (lv_at hl 0 rfl) ?_
    refine va_get (D := D) (ci := 6) (v := .ref (ad 13)) (C := RX4) (T := TX4) (N := 6) hx hb hts in_X4 hown hK hP 0 (wg0 ca ad w_4) rfl 2 (by decide) lk_26 (fun _ h9 => h9) rfl dX4_quit_34 ?_
    refine lv_iload_n hx hb dX4_quit_37 rfl (lv_at hl 2 rfl) ?_
    refine lv_iload_n hx hb dX4_quit_38 rfl (lv_at hl 1 rfl) ?_
    refine va_callv (va_runV (As := [.int a1, .int a0]) (rest := []) ⟨hx, hb, hml, hown, hts⟩ (mX1_takeOut l D ca ad base hAd w_4 a1 a0 _ hw) (cwV 2 hts gX4_quit_X1_takeOut rfl rfl rfl (by decide +kernel) ⟨Nat.le_of_ble_eq_true rfl, Nat.le_of_ble_eq_true rfl⟩) (pv [.int a1, .int a0] hK hP hbs hS rfl (wg13 ca ad w_4)) rfl rfl hl.1 rfl (lv_room (Nat.le_of_ble_eq_true rfl)) dX4_quit_39 ⟨Nat.le_of_ble_eq_true rfl, Nat.le_of_ble_eq_true rfl⟩) hS (fun q _ h => h) (fun q h => h) (fun w_7 t H locs ht hvm hw hP hz1 hk1 hS => ?_)
    have hP : PA D ca ad w_7 H := by rw [← ht]; exact hP
    refine lv_aload_n hx hb dX4_quit_42 rfl (lv_at hl 0 rfl) ?_
    refine va_get (D := D) (ci := 6) (v := .ref (ad 13)) (C := RX4) (T := TX4) (N := 6) hx hb hts in_X4 hown hK hP 0 (wg0 ca ad w_7) rfl 2 (by decide) lk_26 (fun _ h9 => h9) rfl dX4_quit_43 ?_
    refine va_get (D := D) (ci := 3) (v := .ref (ad 16)) (C := RX1) (T := TX1) (N := 6) hx hb hts in_X1 hown hK hP 13 (wg13 ca ad w_7) rfl 2 (by decide) lk_129 (fun _ h9 => h9) rfl dX4_quit_46 ?_
    refine lv_iload_n hx hb dX4_quit_49 rfl (lv_at hl 2 rfl) ?_
    obtain ⟨h_8, hw⟩ := hw
    refine va_iald hx hb hK hP 16 0 (wg16 ca ad w_7) rfl h_8 dX4_quit_50 ?_
    refine lv_iload_n hx hb dX4_quit_51 rfl (lv_at hl 1 rfl) ?_
    refine lv_icmp_ne (tgt := 65) hx hb dX4_quit_52 (by decide) (fun c_9 => ?_) (fun c_9 => ?_)
    · have hw := hw.2 c_9
      exact hB65 w_7 hw _ _ hP hS ls (lv_sub hl [0, 2] rfl)
    · have hw := hw.1 c_9
      refine lv_aload_n hx hb dX4_quit_55 rfl (lv_at hl 0 rfl) ?_
      refine va_get (D := D) (ci := 6) (v := .ref (ad 13)) (C := RX4) (T := TX4) (N := 6) hx hb hts in_X4 hown hK hP 0 (wg0 ca ad w_7) rfl 2 (by decide) lk_26 (fun _ h9 => h9) rfl dX4_quit_56 ?_
      refine va_get (D := D) (ci := 3) (v := .ref (ad 16)) (C := RX1) (T := TX1) (N := 6) hx hb hts in_X1 hown hK hP 13 (wg13 ca ad w_7) rfl 2 (by decide) lk_129 (fun _ h9 => h9) rfl dX4_quit_59 ?_
      refine lv_iload_n hx hb dX4_quit_62 rfl (lv_at hl 2 rfl) ?_
      refine lv_iconst (v := (-1)) hx hb dX4_quit_63 (by decide) ?_
      obtain ⟨h_10, hw⟩ := hw
      refine va_iast hx hb hK hP (DA hAd) hS 16 0 (wg16 ca ad w_7) rfl h_10 dX4_quit_64 (fun H locs hP hD hS => ?_)
      obtain ⟨w_11, e_12⟩ : ∃ z : St, z = (uA w_7 16 (upd (w_7.1 16) (a1).toNatClampNeg (-1))) := ⟨_, rfl⟩
      have hP : PA D ca ad w_11 H := by rw [e_12]; exact wu16 hP
      have hw := hw w_11 e_12
      exact hB65 w_11 hw _ _ hP hS ls (lv_sub hl [0, 2] rfl)
  · have hw := hw.1 c_6
    obtain ⟨sa, hstr⟩ := hXP.2.2.2.1 (144, "the client is not in the queue") (List.mem_of_getElem? (i := 7) rfl)
    exact vx_throwS (own := RX4) (cls := "java/lang/UnsupportedOperationException") (names := ["java/lang/RuntimeException", "java/lang/Exception"]) hx hb hl9 hown (by decide +kernel) (by decide +kernel) (hts (.classLink RX4 142 "java/lang/UnsupportedOperationException") (by decide +kernel)) (hts (.initialized "java/lang/UnsupportedOperationException") (by decide +kernel)) hstr (vx_hat (L := vx_atS RX4 146 "java/lang/UnsupportedOperationException" ["java/lang/RuntimeException", "java/lang/Exception"]) (B := [.castable "java/lang/UnsupportedOperationException" "java/lang/UnsupportedOperationException", .declares ⟨"java/lang/RuntimeException", "<init>", "(Ljava/lang/String;)V"⟩, .declares ⟨"java/lang/Exception", "<init>", "(Ljava/lang/String;)V"⟩, .declares ⟨"java/lang/Throwable", "<init>", "(Ljava/lang/String;)V"⟩]) (fun w hw => hts w ((by decide +kernel : ∀ w ∈ (vx_atS RX4 146 "java/lang/UnsupportedOperationException" ["java/lang/RuntimeException", "java/lang/Exception"]).filter goodWord, w ∈ wsX4_quit) w hw)) (by decide +kernel) (vx_c (va_Nw.use rfl (hXP.2.2.1 (.castable "java/lang/UnsupportedOperationException" "java/lang/UnsupportedOperationException") (List.mem_of_getElem? (i := 4) rfl))) (vx_c (va_Nw.use rfl (hXP.2.2.1 (.declares ⟨"java/lang/RuntimeException", "<init>", "(Ljava/lang/String;)V"⟩) (List.mem_of_getElem? (i := 6) rfl))) (vx_c (va_Nw.use rfl (hXP.2.2.1 (.declares ⟨"java/lang/Exception", "<init>", "(Ljava/lang/String;)V"⟩) (List.mem_of_getElem? (i := 7) rfl))) (vx_c (va_Nw.use rfl (hXP.2.2.1 (.declares ⟨"java/lang/Throwable", "<init>", "(Ljava/lang/String;)V"⟩) (List.mem_of_getElem? (i := 8) rfl))) (vx_n)))))) (by decide +kernel) hXP.1 hXP.2.1 hS (hl.1.trans hml.symm) dX4_quit_23 dX4_quit_26 dX4_quit_27 dX4_quit_29 dX4_quit_32 (fun x hx => (hEx x hx).elim) (Nat.le_of_ble_eq_true rfl) (Nat.le_of_ble_eq_true rfl) (Nat.le_of_ble_eq_true rfl) (Nat.le_of_ble_eq_true rfl) hlocks (fun t ha hsz hk => ⟨("java/lang/UnsupportedOperationException", w_4), hw, ⟨rfl, hP.kept (fun k q hq => hk q.1 (hP k q hq).lt)⟩, Nat.le_trans hS.1 hsz, fun q h1 h2 => (hk q (Nat.lt_of_lt_of_le h1 hS.1)).trans (hS.2.1 q h1 h2)⟩) hS.2.2 (Nat.le_of_ble_eq_true rfl) (Nat.le_of_ble_eq_true rfl)
set_option maxHeartbeats 4000000 in
set_option maxRecDepth 100000 in
def wpX4_read (a0 : Int32) (a1 : Int32) (a2 : Int32) (w : St) (post : Int32 → St → Prop) (px : String → St → Prop) : Prop := wpX4_checkNumbers a0 a1 a2 w (fun w_1 => wpX4_checkCanAsk a0 a2 w_1 (fun w_2 => wpX3_consult a2 w_2 (fun r_4 w_3 => (r_4 = 103 → ((vp_in a1 4) ∧ (wpX0_keepValue a0 a1 (w_3.1 17 (a1).toNatClampNeg) (w_3.1 64 0) w_3 (fun w_7 => (narrow .char (.int r_4) = .int r_4) ∧ post r_4 w_7)))) ∧ (¬ (r_4 = 103) → ((narrow .char (.int r_4) = .int r_4) ∧ post r_4 w_3)))) px) px
set_option maxHeartbeats 4000000 in
set_option maxRecDepth 100000 in
theorem mX4_read (l : Launch) (D : va_G) (ca : Nat → ClassId) (ad : Nat → Nat) (base : Nat) (hAd : okA base ad) (w : St) (a0 : Int32) (a1 : Int32) (a2 : Int32) (post : Int32 → St → Prop) (px : String → St → Prop) (hw : wpX4_read a0 a1 a2 w post px) (hl9 : l.stackTraces = false) : vx_Met l yX4_read wsX4_read ({ frames := 8, cells := 4, slots := 24, locals := 134 } : Room) (va_Pc [.ref (ad 0), .int a0, .int a1, .int a2] (BX D ca ad base w)) (va_Qi post (Bp D ca ad) (AB base)) (vx_X (fun q : String × St => px q.1 q.2) (Bx D ca ad) (AB base)) 4 24 (AB base) := by
  refine vx_ofW (cc := cX4_read) (maxL := 5) (ret := (some .char)) (by decide) rfl ?_
  intro p e s m args below meth c s₁ B hml hEx hv
  obtain ⟨rfl, ⟨hbs, hP, hK⟩, hXP⟩ := hv
  have hx := B.exec
  have hb := B.bytes
  have hr := B.returns
  have hts := atoms_spec (ws := wsX4_read) B.pre
  have hown : s.vm.findClass RX4 = some m.cls := findClass_of_methodNamed B.named
  have hlocks := B.notSynchronized
  have in_X1 : ∀ w ∈ wsX10, w ∈ wsX4_read := by decide +kernel
  have in_X4 : ∀ w ∈ wsX40, w ∈ wsX4_read := by decide +kernel
  have lk_10 := hts (.fieldLink RX4 10 "LockQuorum" "members" "LLockQuorum$Members;") (by decide +kernel)
  have lk_26 := hts (.fieldLink RX4 26 "LockQuorum" "locks" "LLockQuorum$Locks;") (by decide +kernel)
  have lk_33 := hts (.fieldLink RX4 33 "LockQuorum" "clients" "LLockQuorum$Clients;") (by decide +kernel)
  have lk_44 := hts (.fieldLink RX4 44 "LockQuorum" "now" "I") (by decide +kernel)
  have lk_164 := hts (.fieldLink RX4 164 "LockQuorum$Locks" "value" "[I") (by decide +kernel)
  have hS : va_S (AB base) s.heap s.heap [] := va_S.rf
  have hl := lv_entry ([.ref (ad 0), .int a0, .int a1, .int a2]) (n := 5) (Nat.le_of_ble_eq_true rfl)
  rw [lg_entry_eq]
  generalize (lg_sl ([.ref (ad 0), .int a0, .int a1, .int a2]) ++ List.replicate (5 - (lg_sl ([.ref (ad 0), .int a0, .int a1, .int a2])).length) Slot.unset).toArray = ls at hl ⊢
  have hl : lv_has ls 5 [(0, .ref (ad 0)), (1, .int a0), (2, .int a1), (3, .int a2)] := hl
  refine lv_aload_n hx hb dX4_read_0 rfl (lv_at hl 0 rfl) ?_
  refine lv_iload_n hx hb dX4_read_1 rfl (lv_at hl 1 rfl) ?_
  refine lv_iload_n hx hb dX4_read_2 rfl (lv_at hl 2 rfl) ?_
  refine lv_iload_n hx hb dX4_read_3 rfl (lv_at hl 3 rfl) ?_
  refine vx_callv (vx_runV (As := [.int a0, .int a1, .int a2]) (rest := []) ⟨hx, hb, hml, hown, hts⟩ (mX4_checkNumbers l D ca ad base hAd w a0 a1 a2 _ _ hw hl9) (cwV 3 hts gX4_read_X4_checkNumbers rfl rfl rfl (by decide +kernel) ⟨Nat.le_of_ble_eq_true rfl, Nat.le_of_ble_eq_true rfl⟩) (pvx [.int a0, .int a1, .int a2] hK hXP hP hbs hS rfl (wg0 ca ad w)) rfl rfl hl.1 rfl (lv_room (Nat.le_of_ble_eq_true rfl)) dX4_read_4 ⟨Nat.le_of_ble_eq_true rfl, Nat.le_of_ble_eq_true rfl⟩) hS (fun q _ h => h) (fun q h => h) (fun q _ h => h) (fun E ce q9 u t H locs ht hvm hw hB hz1 hk1 hS hce hcv hcl => ?_) (fun w_1 t H locs ht hvm hw hP hz1 hk1 hS => ?_)
  · exact vx_out (E := E) (fun x hx => (hEx x hx).elim) hlocks hce hcv hcl (fun t9 ht9 ha9 => ⟨u, hw, ⟨hB.1, by show PA D ca ad u.2 t9.heap; rw [ht9, ← ht]; exact hB.2⟩, hS.F ht9⟩) hS.2.2 (Nat.le_of_ble_eq_true rfl) (Nat.le_of_ble_eq_true rfl)
  have hP : PA D ca ad w_1 H := by rw [← ht]; exact hP
  refine lv_aload_n hx hb dX4_read_7 rfl (lv_at hl 0 rfl) ?_
  refine lv_iload_n hx hb dX4_read_8 rfl (lv_at hl 1 rfl) ?_
  refine lv_iload_n hx hb dX4_read_9 rfl (lv_at hl 3 rfl) ?_
  refine vx_callv (vx_runV (As := [.int a0, .int a2]) (rest := []) ⟨hx, hb, hml, hown, hts⟩ (mX4_checkCanAsk l D ca ad base hAd w_1 a0 a2 _ _ hw hl9) (cwV 2 hts gX4_read_X4_checkCanAsk rfl rfl rfl (by decide +kernel) ⟨Nat.le_of_ble_eq_true rfl, Nat.le_of_ble_eq_true rfl⟩) (pvx [.int a0, .int a2] hK hXP hP hbs hS rfl (wg0 ca ad w_1)) rfl rfl hl.1 rfl (lv_room (Nat.le_of_ble_eq_true rfl)) dX4_read_10 ⟨Nat.le_of_ble_eq_true rfl, Nat.le_of_ble_eq_true rfl⟩) hS (fun q _ h => h) (fun q h => h) (fun q _ h => h) (fun E ce q9 u t H locs ht hvm hw hB hz1 hk1 hS hce hcv hcl => ?_) (fun w_2 t H locs ht hvm hw hP hz1 hk1 hS => ?_)
  · exact vx_out (E := E) (fun x hx => (hEx x hx).elim) hlocks hce hcv hcl (fun t9 ht9 ha9 => ⟨u, hw, ⟨hB.1, by show PA D ca ad u.2 t9.heap; rw [ht9, ← ht]; exact hB.2⟩, hS.F ht9⟩) hS.2.2 (Nat.le_of_ble_eq_true rfl) (Nat.le_of_ble_eq_true rfl)
  have hP : PA D ca ad w_2 H := by rw [← ht]; exact hP
  refine lv_aload_n hx hb dX4_read_13 rfl (lv_at hl 0 rfl) ?_
  refine va_get (D := D) (ci := 6) (v := .ref (ad 1)) (C := RX4) (T := TX4) (N := 6) hx hb hts in_X4 hown hK hP 0 (wg0 ca ad w_2) rfl 0 (by decide) lk_10 (fun _ h9 => h9) rfl dX4_read_14 ?_
  refine lv_iload_n hx hb dX4_read_17 rfl (lv_at hl 3 rfl) ?_
  refine va_calli (va_runV (As := [.int a2]) (rest := []) ⟨hx, hb, hml, hown, hts⟩ (mX3_consult l D ca ad base hAd w_2 a2 _ hw) (cwV 1 hts gX4_read_X3_consult rfl rfl rfl (by decide +kernel) ⟨Nat.le_of_ble_eq_true rfl, Nat.le_of_ble_eq_true rfl⟩) (pv [.int a2] hK hP hbs hS rfl (wg1 ca ad w_2)) rfl rfl hl.1 rfl (lv_room (Nat.le_of_ble_eq_true rfl)) dX4_read_18 ⟨Nat.le_of_ble_eq_true rfl, Nat.le_of_ble_eq_true rfl⟩) hS (fun q _ h => h) (fun q h => h) (fun r_4 w_3 t H locs ht hvm hw hP hz1 hk1 hS => ?_)
  have hP : PA D ca ad w_3 H := by rw [← ht]; exact hP
  refine lv_istore (lv' := [(4, .int r_4), (0, .ref (ad 0)), (1, .int a0), (2, .int a1), (3, .int a2)]) hx hb dX4_read_21 hl (by decide) rfl (fun ls hl => ?_)
  refine lv_iload hx hb dX4_read_23 (lv_at hl 0 rfl) ?_
  refine lv_bipush (v := 103) hx hb dX4_read_25 (by decide) ?_
  refine lv_icmp_ne (tgt := 52) hx hb dX4_read_27 (by decide) (fun c_5 => ?_) (fun c_5 => ?_)
  · have hw := hw.2 c_5
    refine lv_iload hx hb dX4_read_52 (lv_at hl 0 rfl) ?_
    refine vx_ret ?_
    obtain ⟨hn9, hw⟩ := hw
    exact W.zret (v := r_4) hx hb hr hn9 (fun t ht hW => ⟨⟨r_4, w_3, rfl, hw, by show PA D ca ad w_3 t.heap; rw [ht]; exact hP⟩, hS.F ht⟩) hS.2.2 dX4_read_54
  · have hw := hw.1 c_5
    refine lv_aload_n hx hb dX4_read_30 rfl (lv_at hl 1 rfl) ?_
    refine va_get (D := D) (ci := 6) (v := .ref (ad 24)) (C := RX4) (T := TX4) (N := 6) hx hb hts in_X4 hown hK hP 0 (wg0 ca ad w_3) rfl 3 (by decide) lk_33 (fun _ h9 => h9) rfl dX4_read_31 ?_
    refine lv_iload_n hx hb dX4_read_34 rfl (lv_at hl 2 rfl) ?_
    refine lv_iload_n hx hb dX4_read_35 rfl (lv_at hl 3 rfl) ?_
    refine lv_aload_n hx hb dX4_read_36 rfl (lv_at hl 1 rfl) ?_
    refine va_get (D := D) (ci := 6) (v := .ref (ad 13)) (C := RX4) (T := TX4) (N := 6) hx hb hts in_X4 hown hK hP 0 (wg0 ca ad w_3) rfl 2 (by decide) lk_26 (fun _ h9 => h9) rfl dX4_read_37 ?_
    refine va_get (D := D) (ci := 3) (v := .ref (ad 17)) (C := RX1) (T := TX1) (N := 6) hx hb hts in_X1 hown hK hP 13 (wg13 ca ad w_3) rfl 3 (by decide) lk_164 (fun _ h9 => h9) rfl dX4_read_40 ?_
    refine lv_iload_n hx hb dX4_read_43 rfl (lv_at hl 3 rfl) ?_
    obtain ⟨h_6, hw⟩ := hw
    refine va_iald hx hb hK hP 17 0 (wg17 ca ad w_3) rfl h_6 dX4_read_44 ?_
    refine lv_aload_n hx hb dX4_read_45 rfl (lv_at hl 1 rfl) ?_
    refine va_get (D := D) (ci := 6) (v := .int (w_3.1 64 0)) (C := RX4) (T := TX4) (N := 6) hx hb hts in_X4 hown hK hP 0 (wg0 ca ad w_3) rfl 4 (by decide) lk_44 (fun _ h9 => h9) rfl dX4_read_46 ?_
    refine va_callv (va_runV (As := [.int a0, .int a1, .int (w_3.1 17 (a1).toNatClampNeg), .int (w_3.1 64 0)]) (rest := []) ⟨hx, hb, hml, hown, hts⟩ (mX0_keepValue l D ca ad base hAd w_3 a0 a1 (w_3.1 17 (a1).toNatClampNeg) (w_3.1 64 0) _ hw) (cwV 4 hts gX4_read_X0_keepValue rfl rfl rfl (by decide +kernel) ⟨Nat.le_of_ble_eq_true rfl, Nat.le_of_ble_eq_true rfl⟩) (pv [.int a0, .int a1, .int (w_3.1 17 (a1).toNatClampNeg), .int (w_3.1 64 0)] hK hP hbs hS rfl (wg24 ca ad w_3)) rfl rfl hl.1 rfl (lv_room (Nat.le_of_ble_eq_true rfl)) dX4_read_49 ⟨Nat.le_of_ble_eq_true rfl, Nat.le_of_ble_eq_true rfl⟩) hS (fun q _ h => h) (fun q h => h) (fun w_7 t H locs ht hvm hw hP hz1 hk1 hS => ?_)
    have hP : PA D ca ad w_7 H := by rw [← ht]; exact hP
    refine lv_iload hx hb dX4_read_52 (lv_at hl 0 rfl) ?_
    refine vx_ret ?_
    obtain ⟨hn9, hw⟩ := hw
    exact W.zret (v := r_4) hx hb hr hn9 (fun t ht hW => ⟨⟨r_4, w_7, rfl, hw, by show PA D ca ad w_7 t.heap; rw [ht]; exact hP⟩, hS.F ht⟩) hS.2.2 dX4_read_54
set_option maxHeartbeats 4000000 in
set_option maxRecDepth 100000 in
def wpX4_changeValue (a0 : Int32) (a1 : Int32) (a2 : Int32) (a3 : Int32) (w : St) (post : St → Prop) : Prop := wpX0_dropValues a1 w (fun w_1 => (vp_in a1 4) ∧ (∀ w_3 : St, w_3 = (uA w_1 17 (upd (w_1.1 17) (a1).toNatClampNeg a3)) → wpX4_makeEntry a2 118 a0 a1 a3 w_3 (fun w_5 => post w_5)))
set_option maxHeartbeats 4000000 in
set_option maxRecDepth 100000 in
theorem mX4_changeValue (l : Launch) (D : va_G) (ca : Nat → ClassId) (ad : Nat → Nat) (base : Nat) (hAd : okA base ad) (w : St) (a0 : Int32) (a1 : Int32) (a2 : Int32) (a3 : Int32) (post : St → Prop) (hw : wpX4_changeValue a0 a1 a2 a3 w post) : Met l yX4_changeValue wsX4_changeValue ({ frames := 3, cells := 0, slots := 0, locals := 70 } : Room) (va_Pc [.ref (ad 0), .int a0, .int a1, .int a2, .int a3] (BU D ca ad base w)) (va_Qv post (Bp D ca ad) (AB base)) 0 0 (AB base) := by
  refine Met.ofW (cc := cX4_changeValue) (maxL := 5) (ret := none) (by decide) rfl ?_
  intro p e s m args below meth c s₁ B hml hv
  obtain ⟨rfl, hbs, hP, hK⟩ := hv
  have hx := B.exec
  have hb := B.bytes
  have hr := B.returns
  have hts := atoms_spec (ws := wsX4_changeValue) B.pre
  have hown : s.vm.findClass RX4 = some m.cls := findClass_of_methodNamed B.named
  have hlocks := B.notSynchronized
  have in_X1 : ∀ w ∈ wsX10, w ∈ wsX4_changeValue := by decide +kernel
  have in_X4 : ∀ w ∈ wsX40, w ∈ wsX4_changeValue := by decide +kernel
  have lk_26 := hts (.fieldLink RX4 26 "LockQuorum" "locks" "LLockQuorum$Locks;") (by decide +kernel)
  have lk_33 := hts (.fieldLink RX4 33 "LockQuorum" "clients" "LLockQuorum$Clients;") (by decide +kernel)
  have lk_164 := hts (.fieldLink RX4 164 "LockQuorum$Locks" "value" "[I") (by decide +kernel)
  have hS : va_S (AB base) s.heap s.heap [] := va_S.rf
  have hl := lv_entry ([.ref (ad 0), .int a0, .int a1, .int a2, .int a3]) (n := 5) (Nat.le_of_ble_eq_true rfl)
  rw [lg_entry_eq]
  generalize (lg_sl ([.ref (ad 0), .int a0, .int a1, .int a2, .int a3]) ++ List.replicate (5 - (lg_sl ([.ref (ad 0), .int a0, .int a1, .int a2, .int a3])).length) Slot.unset).toArray = ls at hl ⊢
  have hl : lv_has ls 5 [(0, .ref (ad 0)), (1, .int a0), (2, .int a1), (3, .int a2), (4, .int a3)] := hl
  refine lv_aload_n hx hb dX4_changeValue_0 rfl (lv_at hl 0 rfl) ?_
  refine va_get (D := D) (ci := 6) (v := .ref (ad 24)) (C := RX4) (T := TX4) (N := 6) hx hb hts in_X4 hown hK hP 0 (wg0 ca ad w) rfl 3 (by decide) lk_33 (fun _ h9 => h9) rfl dX4_changeValue_1 ?_
  refine lv_iload_n hx hb dX4_changeValue_4 rfl (lv_at hl 2 rfl) ?_
  refine va_callv (va_runV (As := [.int a1]) (rest := []) ⟨hx, hb, hml, hown, hts⟩ (mX0_dropValues l D ca ad base hAd w a1 _ hw) (cwV 1 hts gX4_changeValue_X0_dropValues rfl rfl rfl (by decide +kernel) ⟨Nat.le_of_ble_eq_true rfl, Nat.le_of_ble_eq_true rfl⟩) (pv [.int a1] hK hP hbs hS rfl (wg24 ca ad w)) rfl rfl hl.1 rfl (lv_room (Nat.le_of_ble_eq_true rfl)) dX4_changeValue_5 ⟨Nat.le_of_ble_eq_true rfl, Nat.le_of_ble_eq_true rfl⟩) hS (fun q _ h => h) (fun q h => h) (fun w_1 t H locs ht hvm hw hP hz1 hk1 hS => ?_)
  have hP : PA D ca ad w_1 H := by rw [← ht]; exact hP
  refine lv_aload_n hx hb dX4_changeValue_8 rfl (lv_at hl 0 rfl) ?_
  refine va_get (D := D) (ci := 6) (v := .ref (ad 13)) (C := RX4) (T := TX4) (N := 6) hx hb hts in_X4 hown hK hP 0 (wg0 ca ad w_1) rfl 2 (by decide) lk_26 (fun _ h9 => h9) rfl dX4_changeValue_9 ?_
  refine va_get (D := D) (ci := 3) (v := .ref (ad 17)) (C := RX1) (T := TX1) (N := 6) hx hb hts in_X1 hown hK hP 13 (wg13 ca ad w_1) rfl 3 (by decide) lk_164 (fun _ h9 => h9) rfl dX4_changeValue_12 ?_
  refine lv_iload_n hx hb dX4_changeValue_15 rfl (lv_at hl 2 rfl) ?_
  refine lv_iload hx hb dX4_changeValue_16 (lv_at hl 4 rfl) ?_
  obtain ⟨h_2, hw⟩ := hw
  refine va_iast hx hb hK hP (DA hAd) hS 17 0 (wg17 ca ad w_1) rfl h_2 dX4_changeValue_18 (fun H locs hP hD hS => ?_)
  obtain ⟨w_3, e_4⟩ : ∃ z : St, z = (uA w_1 17 (upd (w_1.1 17) (a1).toNatClampNeg a3)) := ⟨_, rfl⟩
  have hP : PA D ca ad w_3 H := by rw [e_4]; exact wu17 hP
  have hw := hw w_3 e_4
  refine lv_aload_n hx hb dX4_changeValue_19 rfl (lv_at hl 0 rfl) ?_
  refine lv_iload_n hx hb dX4_changeValue_20 rfl (lv_at hl 3 rfl) ?_
  refine lv_bipush (v := 118) hx hb dX4_changeValue_21 (by decide) ?_
  refine lv_iload_n hx hb dX4_changeValue_23 rfl (lv_at hl 1 rfl) ?_
  refine lv_iload_n hx hb dX4_changeValue_24 rfl (lv_at hl 2 rfl) ?_
  refine lv_iload hx hb dX4_changeValue_25 (lv_at hl 4 rfl) ?_
  refine va_callv (va_runV (As := [.int a2, .int 118, .int a0, .int a1, .int a3]) (rest := []) ⟨hx, hb, hml, hown, hts⟩ (mX4_makeEntry l D ca ad base hAd w_3 a2 118 a0 a1 a3 _ hw) (cwV 5 hts gX4_changeValue_X4_makeEntry rfl rfl rfl (by decide +kernel) ⟨Nat.le_of_ble_eq_true rfl, Nat.le_of_ble_eq_true rfl⟩) (pv [.int a2, .int 118, .int a0, .int a1, .int a3] hK hP hbs hS rfl (wg0 ca ad w_3)) rfl rfl hl.1 rfl (lv_room (Nat.le_of_ble_eq_true rfl)) dX4_changeValue_27 ⟨Nat.le_of_ble_eq_true rfl, Nat.le_of_ble_eq_true rfl⟩) hS (fun q _ h => h) (fun q h => h) (fun w_5 t H locs ht hvm hw hP hz1 hk1 hS => ?_)
  have hP : PA D ca ad w_5 H := by rw [← ht]; exact hP
  exact W.vret hx hb hr (fun t ht hW => ⟨⟨w_5, rfl, hw, by show PA D ca ad w_5 t.heap; rw [ht]; exact hP⟩, hS.F ht⟩) hS.2.2 dX4_changeValue_30
set_option maxHeartbeats 4000000 in
set_option maxRecDepth 100000 in
def wpX4_write_B20 (a0 : Int32) (a1 : Int32) (a2 : Int32) (a3 : Int32) (post : Int32 → St → Prop) (px : String → St → Prop) (w : St) : Prop := px "java/lang/IllegalArgumentException" w
set_option maxHeartbeats 4000000 in
set_option maxRecDepth 100000 in
def wpX4_write (a0 : Int32) (a1 : Int32) (a2 : Int32) (a3 : Int32) (w : St) (post : Int32 → St → Prop) (px : String → St → Prop) : Prop := wpX4_checkNumbers a0 a1 a2 w (fun w_1 => (a3 < 0 → (wpX4_write_B20 a0 a1 a2 a3 post px w_1)) ∧ (¬ (a3 < 0) → ((a3 ≤ 999 → (wpX4_checkCanAsk a0 a2 w_1 (fun w_4 => wpX3_consult a2 w_4 (fun r_6 w_5 => (r_6 = 103 → (wpX0_hasClaim a0 a1 (w_5.1 64 0) w_5 (fun r_9 w_8 => (r_9 = 0 → (post 111 w_8)) ∧ (¬ (r_9 = 0) → (wpX1_isHeldBy a1 a0 (w_8.1 64 0) w_8 (fun r_12 w_11 => (r_12 = 0 → (post 111 w_11)) ∧ (¬ (r_12 = 0) → (wpX0_isKeptByPaused a1 (w_11.1 64 0) w_11 (fun r_15 w_14 => (r_15 = 0 → (wpX4_changeValue a0 a1 a2 a3 w_14 (fun w_17 => post 103 w_17))) ∧ (¬ (r_15 = 0) → (post 98 w_14))))))))))) ∧ (¬ (r_6 = 103) → ((narrow .char (.int r_6) = .int r_6) ∧ post r_6 w_5)))) px)) ∧ (¬ (a3 ≤ 999) → (wpX4_write_B20 a0 a1 a2 a3 post px w_1))))) px
set_option maxHeartbeats 4000000 in
set_option maxRecDepth 100000 in
theorem mX4_write (l : Launch) (D : va_G) (ca : Nat → ClassId) (ad : Nat → Nat) (base : Nat) (hAd : okA base ad) (w : St) (a0 : Int32) (a1 : Int32) (a2 : Int32) (a3 : Int32) (post : Int32 → St → Prop) (px : String → St → Prop) (hw : wpX4_write a0 a1 a2 a3 w post px) (hl9 : l.stackTraces = false) : vx_Met l yX4_write wsX4_write ({ frames := 8, cells := 4, slots := 24, locals := 134 } : Room) (va_Pc [.ref (ad 0), .int a0, .int a1, .int a2, .int a3] (BX D ca ad base w)) (va_Qi post (Bp D ca ad) (AB base)) (vx_X (fun q : String × St => px q.1 q.2) (Bx D ca ad) (AB base)) 4 24 (AB base) := by
  refine vx_ofW (cc := cX4_write) (maxL := 6) (ret := (some .char)) (by decide) rfl ?_
  intro p e s m args below meth c s₁ B hml hEx hv
  obtain ⟨rfl, ⟨hbs, hP, hK⟩, hXP⟩ := hv
  have hx := B.exec
  have hb := B.bytes
  have hr := B.returns
  have hts := atoms_spec (ws := wsX4_write) B.pre
  have hown : s.vm.findClass RX4 = some m.cls := findClass_of_methodNamed B.named
  have hlocks := B.notSynchronized
  have in_X4 : ∀ w ∈ wsX40, w ∈ wsX4_write := by decide +kernel
  have lk_10 := hts (.fieldLink RX4 10 "LockQuorum" "members" "LLockQuorum$Members;") (by decide +kernel)
  have lk_26 := hts (.fieldLink RX4 26 "LockQuorum" "locks" "LLockQuorum$Locks;") (by decide +kernel)
  have lk_33 := hts (.fieldLink RX4 33 "LockQuorum" "clients" "LLockQuorum$Clients;") (by decide +kernel)
  have lk_44 := hts (.fieldLink RX4 44 "LockQuorum" "now" "I") (by decide +kernel)
  have hS : va_S (AB base) s.heap s.heap [] := va_S.rf
  have hB20 : ∀ (w : St), wpX4_write_B20 a0 a1 a2 a3 post px w → ∀ (H : Heap) (locs : List Loc), PA D ca ad w H → va_S (AB base) s.heap H locs → ∀ ls : Array Slot, lv_has ls 6 [] → W p l e (headSpec wsX4_write ({ frames := 8, cells := 4, slots := 24, locals := 134 } : Room)).room s m ([Value.ref (ad 0), Value.int a0, Value.int a1, Value.int a2, Value.int a3].toArray) below meth c H locs 3 18 (vx_MQ below (va_Qi post (Bp D ca ad) (AB base)) (vx_X (fun q : String × St => px q.1 q.2) (Bx D ca ad) (AB base)) ([Value.ref (ad 0), Value.int a0, Value.int a1, Value.int a2, Value.int a3].toArray) s 4 24 (AB base)) (F0 m 20 ls []) := by
    intro w hw H locs hP hS ls hl
    obtain ⟨sa, hstr⟩ := hXP.2.2.2.1 (171, "the value must be 0 to 999") (List.mem_of_getElem? (i := 8) rfl)
    exact vx_throwS (own := RX4) (cls := "java/lang/IllegalArgumentException") (names := ["java/lang/RuntimeException", "java/lang/Exception"]) hx hb hl9 hown (by decide +kernel) (by decide +kernel) (hts (.classLink RX4 37 "java/lang/IllegalArgumentException") (by decide +kernel)) (hts (.initialized "java/lang/IllegalArgumentException") (by decide +kernel)) hstr (vx_hat (L := vx_atS RX4 41 "java/lang/IllegalArgumentException" ["java/lang/RuntimeException", "java/lang/Exception"]) (B := [.castable "java/lang/IllegalArgumentException" "java/lang/IllegalArgumentException", .declares ⟨"java/lang/RuntimeException", "<init>", "(Ljava/lang/String;)V"⟩, .declares ⟨"java/lang/Exception", "<init>", "(Ljava/lang/String;)V"⟩, .declares ⟨"java/lang/Throwable", "<init>", "(Ljava/lang/String;)V"⟩]) (fun w hw => hts w ((by decide +kernel : ∀ w ∈ (vx_atS RX4 41 "java/lang/IllegalArgumentException" ["java/lang/RuntimeException", "java/lang/Exception"]).filter goodWord, w ∈ wsX4_write) w hw)) (by decide +kernel) (vx_c (va_Nw.use rfl (hXP.2.2.1 (.castable "java/lang/IllegalArgumentException" "java/lang/IllegalArgumentException") (List.mem_of_getElem? (i := 0) rfl))) (vx_c (va_Nw.use rfl (hXP.2.2.1 (.declares ⟨"java/lang/RuntimeException", "<init>", "(Ljava/lang/String;)V"⟩) (List.mem_of_getElem? (i := 6) rfl))) (vx_c (va_Nw.use rfl (hXP.2.2.1 (.declares ⟨"java/lang/Exception", "<init>", "(Ljava/lang/String;)V"⟩) (List.mem_of_getElem? (i := 7) rfl))) (vx_c (va_Nw.use rfl (hXP.2.2.1 (.declares ⟨"java/lang/Throwable", "<init>", "(Ljava/lang/String;)V"⟩) (List.mem_of_getElem? (i := 8) rfl))) (vx_n)))))) (by decide +kernel) hXP.1 hXP.2.1 hS (hl.1.trans hml.symm) dX4_write_20 dX4_write_23 dX4_write_24 dX4_write_26 dX4_write_29 (fun x hx => (hEx x hx).elim) (Nat.le_of_ble_eq_true rfl) (Nat.le_of_ble_eq_true rfl) (Nat.le_of_ble_eq_true rfl) (Nat.le_of_ble_eq_true rfl) hlocks (fun t ha hsz hk => ⟨("java/lang/IllegalArgumentException", w), hw, ⟨rfl, hP.kept (fun k q hq => hk q.1 (hP k q hq).lt)⟩, Nat.le_trans hS.1 hsz, fun q h1 h2 => (hk q (Nat.lt_of_lt_of_le h1 hS.1)).trans (hS.2.1 q h1 h2)⟩) hS.2.2 (Nat.le_of_ble_eq_true rfl) (Nat.le_of_ble_eq_true rfl)
  have hl := lv_entry ([.ref (ad 0), .int a0, .int a1, .int a2, .int a3]) (n := 6) (Nat.le_of_ble_eq_true rfl)
  rw [lg_entry_eq]
  generalize (lg_sl ([.ref (ad 0), .int a0, .int a1, .int a2, .int a3]) ++ List.replicate (6 - (lg_sl ([.ref (ad 0), .int a0, .int a1, .int a2, .int a3])).length) Slot.unset).toArray = ls at hl ⊢
  have hl : lv_has ls 6 [(0, .ref (ad 0)), (1, .int a0), (2, .int a1), (3, .int a2), (4, .int a3)] := hl
  refine lv_aload_n hx hb dX4_write_0 rfl (lv_at hl 0 rfl) ?_
  refine lv_iload_n hx hb dX4_write_1 rfl (lv_at hl 1 rfl) ?_
  refine lv_iload_n hx hb dX4_write_2 rfl (lv_at hl 2 rfl) ?_
  refine lv_iload_n hx hb dX4_write_3 rfl (lv_at hl 3 rfl) ?_
  refine vx_callv (vx_runV (As := [.int a0, .int a1, .int a2]) (rest := []) ⟨hx, hb, hml, hown, hts⟩ (mX4_checkNumbers l D ca ad base hAd w a0 a1 a2 _ _ hw hl9) (cwV 3 hts gX4_write_X4_checkNumbers rfl rfl rfl (by decide +kernel) ⟨Nat.le_of_ble_eq_true rfl, Nat.le_of_ble_eq_true rfl⟩) (pvx [.int a0, .int a1, .int a2] hK hXP hP hbs hS rfl (wg0 ca ad w)) rfl rfl hl.1 rfl (lv_room (Nat.le_of_ble_eq_true rfl)) dX4_write_4 ⟨Nat.le_of_ble_eq_true rfl, Nat.le_of_ble_eq_true rfl⟩) hS (fun q _ h => h) (fun q h => h) (fun q _ h => h) (fun E ce q9 u t H locs ht hvm hw hB hz1 hk1 hS hce hcv hcl => ?_) (fun w_1 t H locs ht hvm hw hP hz1 hk1 hS => ?_)
  · exact vx_out (E := E) (fun x hx => (hEx x hx).elim) hlocks hce hcv hcl (fun t9 ht9 ha9 => ⟨u, hw, ⟨hB.1, by show PA D ca ad u.2 t9.heap; rw [ht9, ← ht]; exact hB.2⟩, hS.F ht9⟩) hS.2.2 (Nat.le_of_ble_eq_true rfl) (Nat.le_of_ble_eq_true rfl)
  have hP : PA D ca ad w_1 H := by rw [← ht]; exact hP
  refine lv_iload hx hb dX4_write_7 (lv_at hl 4 rfl) ?_
  refine lv_if_lt (tgt := 20) hx hb dX4_write_9 (by decide) (fun c_2 => ?_) (fun c_2 => ?_)
  · have hw := hw.1 c_2
    exact hB20 w_1 hw _ _ hP hS ls (lv_sub hl [] rfl)
  · have hw := hw.2 c_2
    refine lv_iload hx hb dX4_write_12 (lv_at hl 4 rfl) ?_
    refine lv_sipush (v := 999) hx hb dX4_write_14 (by decide) ?_
    refine lv_icmp_le (tgt := 30) hx hb dX4_write_17 (by decide) (fun c_3 => ?_) (fun c_3 => ?_)
    · have hw := hw.1 c_3
      refine lv_aload_n hx hb dX4_write_30 rfl (lv_at hl 0 rfl) ?_
      refine lv_iload_n hx hb dX4_write_31 rfl (lv_at hl 1 rfl) ?_
      refine lv_iload_n hx hb dX4_write_32 rfl (lv_at hl 3 rfl) ?_
      refine vx_callv (vx_runV (As := [.int a0, .int a2]) (rest := []) ⟨hx, hb, hml, hown, hts⟩ (mX4_checkCanAsk l D ca ad base hAd w_1 a0 a2 _ _ hw hl9) (cwV 2 hts gX4_write_X4_checkCanAsk rfl rfl rfl (by decide +kernel) ⟨Nat.le_of_ble_eq_true rfl, Nat.le_of_ble_eq_true rfl⟩) (pvx [.int a0, .int a2] hK hXP hP hbs hS rfl (wg0 ca ad w_1)) rfl rfl hl.1 rfl (lv_room (Nat.le_of_ble_eq_true rfl)) dX4_write_33 ⟨Nat.le_of_ble_eq_true rfl, Nat.le_of_ble_eq_true rfl⟩) hS (fun q _ h => h) (fun q h => h) (fun q _ h => h) (fun E ce q9 u t H locs ht hvm hw hB hz1 hk1 hS hce hcv hcl => ?_) (fun w_4 t H locs ht hvm hw hP hz1 hk1 hS => ?_)
      · exact vx_out (E := E) (fun x hx => (hEx x hx).elim) hlocks hce hcv hcl (fun t9 ht9 ha9 => ⟨u, hw, ⟨hB.1, by show PA D ca ad u.2 t9.heap; rw [ht9, ← ht]; exact hB.2⟩, hS.F ht9⟩) hS.2.2 (Nat.le_of_ble_eq_true rfl) (Nat.le_of_ble_eq_true rfl)
      have hP : PA D ca ad w_4 H := by rw [← ht]; exact hP
      refine lv_aload_n hx hb dX4_write_36 rfl (lv_at hl 0 rfl) ?_
      refine va_get (D := D) (ci := 6) (v := .ref (ad 1)) (C := RX4) (T := TX4) (N := 6) hx hb hts in_X4 hown hK hP 0 (wg0 ca ad w_4) rfl 0 (by decide) lk_10 (fun _ h9 => h9) rfl dX4_write_37 ?_
      refine lv_iload_n hx hb dX4_write_40 rfl (lv_at hl 3 rfl) ?_
      refine va_calli (va_runV (As := [.int a2]) (rest := []) ⟨hx, hb, hml, hown, hts⟩ (mX3_consult l D ca ad base hAd w_4 a2 _ hw) (cwV 1 hts gX4_write_X3_consult rfl rfl rfl (by decide +kernel) ⟨Nat.le_of_ble_eq_true rfl, Nat.le_of_ble_eq_true rfl⟩) (pv [.int a2] hK hP hbs hS rfl (wg1 ca ad w_4)) rfl rfl hl.1 rfl (lv_room (Nat.le_of_ble_eq_true rfl)) dX4_write_41 ⟨Nat.le_of_ble_eq_true rfl, Nat.le_of_ble_eq_true rfl⟩) hS (fun q _ h => h) (fun q h => h) (fun r_6 w_5 t H locs ht hvm hw hP hz1 hk1 hS => ?_)
      have hP : PA D ca ad w_5 H := by rw [← ht]; exact hP
      refine lv_istore (lv' := [(5, .int r_6), (0, .ref (ad 0)), (1, .int a0), (2, .int a1), (3, .int a2), (4, .int a3)]) hx hb dX4_write_44 hl (by decide) rfl (fun ls hl => ?_)
      refine lv_iload hx hb dX4_write_46 (lv_at hl 0 rfl) ?_
      refine lv_bipush (v := 103) hx hb dX4_write_48 (by decide) ?_
      refine lv_icmp_eq (tgt := 56) hx hb dX4_write_50 (by decide) (fun c_7 => ?_) (fun c_7 => ?_)
      · have hw := hw.1 c_7
        refine lv_aload_n hx hb dX4_write_56 rfl (lv_at hl 1 rfl) ?_
        refine va_get (D := D) (ci := 6) (v := .ref (ad 24)) (C := RX4) (T := TX4) (N := 6) hx hb hts in_X4 hown hK hP 0 (wg0 ca ad w_5) rfl 3 (by decide) lk_33 (fun _ h9 => h9) rfl dX4_write_57 ?_
        refine lv_iload_n hx hb dX4_write_60 rfl (lv_at hl 2 rfl) ?_
        refine lv_iload_n hx hb dX4_write_61 rfl (lv_at hl 3 rfl) ?_
        refine lv_aload_n hx hb dX4_write_62 rfl (lv_at hl 1 rfl) ?_
        refine va_get (D := D) (ci := 6) (v := .int (w_5.1 64 0)) (C := RX4) (T := TX4) (N := 6) hx hb hts in_X4 hown hK hP 0 (wg0 ca ad w_5) rfl 4 (by decide) lk_44 (fun _ h9 => h9) rfl dX4_write_63 ?_
        refine va_calli (va_runV (As := [.int a0, .int a1, .int (w_5.1 64 0)]) (rest := []) ⟨hx, hb, hml, hown, hts⟩ (mX0_hasClaim l D ca ad base hAd w_5 a0 a1 (w_5.1 64 0) _ hw) (cwV 3 hts gX4_write_X0_hasClaim rfl rfl rfl (by decide +kernel) ⟨Nat.le_of_ble_eq_true rfl, Nat.le_of_ble_eq_true rfl⟩) (pv [.int a0, .int a1, .int (w_5.1 64 0)] hK hP hbs hS rfl (wg24 ca ad w_5)) rfl rfl hl.1 rfl (lv_room (Nat.le_of_ble_eq_true rfl)) dX4_write_66 ⟨Nat.le_of_ble_eq_true rfl, Nat.le_of_ble_eq_true rfl⟩) hS (fun q _ h => h) (fun q h => h) (fun r_9 w_8 t H locs ht hvm hw hP hz1 hk1 hS => ?_)
        have hP : PA D ca ad w_8 H := by rw [← ht]; exact hP
        refine lv_if_eq (tgt := 88) hx hb dX4_write_69 (by decide) (fun c_10 => ?_) (fun c_10 => ?_)
        · have hw := hw.1 c_10
          refine lv_bipush (v := 111) hx hb dX4_write_88 (by decide) ?_
          refine vx_ret ?_
          exact W.zret (v := 111) hx hb hr (by decide) (fun t ht hW => ⟨⟨111, w_8, rfl, hw, by show PA D ca ad w_8 t.heap; rw [ht]; exact hP⟩, hS.F ht⟩) hS.2.2 dX4_write_90
        · have hw := hw.2 c_10
          refine lv_aload_n hx hb dX4_write_72 rfl (lv_at hl 1 rfl) ?_
          refine va_get (D := D) (ci := 6) (v := .ref (ad 13)) (C := RX4) (T := TX4) (N := 6) hx hb hts in_X4 hown hK hP 0 (wg0 ca ad w_8) rfl 2 (by decide) lk_26 (fun _ h9 => h9) rfl dX4_write_73 ?_
          refine lv_iload_n hx hb dX4_write_76 rfl (lv_at hl 3 rfl) ?_
          refine lv_iload_n hx hb dX4_write_77 rfl (lv_at hl 2 rfl) ?_
          refine lv_aload_n hx hb dX4_write_78 rfl (lv_at hl 1 rfl) ?_
          refine va_get (D := D) (ci := 6) (v := .int (w_8.1 64 0)) (C := RX4) (T := TX4) (N := 6) hx hb hts in_X4 hown hK hP 0 (wg0 ca ad w_8) rfl 4 (by decide) lk_44 (fun _ h9 => h9) rfl dX4_write_79 ?_
          refine va_calli (va_runV (As := [.int a1, .int a0, .int (w_8.1 64 0)]) (rest := []) ⟨hx, hb, hml, hown, hts⟩ (mX1_isHeldBy l D ca ad base hAd w_8 a1 a0 (w_8.1 64 0) _ hw) (cwV 3 hts gX4_write_X1_isHeldBy rfl rfl rfl (by decide +kernel) ⟨Nat.le_of_ble_eq_true rfl, Nat.le_of_ble_eq_true rfl⟩) (pv [.int a1, .int a0, .int (w_8.1 64 0)] hK hP hbs hS rfl (wg13 ca ad w_8)) rfl rfl hl.1 rfl (lv_room (Nat.le_of_ble_eq_true rfl)) dX4_write_82 ⟨Nat.le_of_ble_eq_true rfl, Nat.le_of_ble_eq_true rfl⟩) hS (fun q _ h => h) (fun q h => h) (fun r_12 w_11 t H locs ht hvm hw hP hz1 hk1 hS => ?_)
          have hP : PA D ca ad w_11 H := by rw [← ht]; exact hP
          refine lv_if_ne (tgt := 91) hx hb dX4_write_85 (by decide) (fun c_13 => ?_) (fun c_13 => ?_)
          · have hw := hw.2 c_13
            refine lv_aload_n hx hb dX4_write_91 rfl (lv_at hl 1 rfl) ?_
            refine va_get (D := D) (ci := 6) (v := .ref (ad 24)) (C := RX4) (T := TX4) (N := 6) hx hb hts in_X4 hown hK hP 0 (wg0 ca ad w_11) rfl 3 (by decide) lk_33 (fun _ h9 => h9) rfl dX4_write_92 ?_
            refine lv_iload_n hx hb dX4_write_95 rfl (lv_at hl 3 rfl) ?_
            refine lv_aload_n hx hb dX4_write_96 rfl (lv_at hl 1 rfl) ?_
            refine va_get (D := D) (ci := 6) (v := .int (w_11.1 64 0)) (C := RX4) (T := TX4) (N := 6) hx hb hts in_X4 hown hK hP 0 (wg0 ca ad w_11) rfl 4 (by decide) lk_44 (fun _ h9 => h9) rfl dX4_write_97 ?_
            refine va_calli (va_runV (As := [.int a1, .int (w_11.1 64 0)]) (rest := []) ⟨hx, hb, hml, hown, hts⟩ (mX0_isKeptByPaused l D ca ad base hAd w_11 a1 (w_11.1 64 0) _ hw) (cwV 2 hts gX4_write_X0_isKeptByPaused rfl rfl rfl (by decide +kernel) ⟨Nat.le_of_ble_eq_true rfl, Nat.le_of_ble_eq_true rfl⟩) (pv [.int a1, .int (w_11.1 64 0)] hK hP hbs hS rfl (wg24 ca ad w_11)) rfl rfl hl.1 rfl (lv_room (Nat.le_of_ble_eq_true rfl)) dX4_write_100 ⟨Nat.le_of_ble_eq_true rfl, Nat.le_of_ble_eq_true rfl⟩) hS (fun q _ h => h) (fun q h => h) (fun r_15 w_14 t H locs ht hvm hw hP hz1 hk1 hS => ?_)
            have hP : PA D ca ad w_14 H := by rw [← ht]; exact hP
            refine lv_if_eq (tgt := 109) hx hb dX4_write_103 (by decide) (fun c_16 => ?_) (fun c_16 => ?_)
            · have hw := hw.1 c_16
              refine lv_aload_n hx hb dX4_write_109 rfl (lv_at hl 1 rfl) ?_
              refine lv_iload_n hx hb dX4_write_110 rfl (lv_at hl 2 rfl) ?_
              refine lv_iload_n hx hb dX4_write_111 rfl (lv_at hl 3 rfl) ?_
              refine lv_iload_n hx hb dX4_write_112 rfl (lv_at hl 4 rfl) ?_
              refine lv_iload hx hb dX4_write_113 (lv_at hl 5 rfl) ?_
              refine va_callv (va_runV (As := [.int a0, .int a1, .int a2, .int a3]) (rest := []) ⟨hx, hb, hml, hown, hts⟩ (mX4_changeValue l D ca ad base hAd w_14 a0 a1 a2 a3 _ hw) (cwV 4 hts gX4_write_X4_changeValue rfl rfl rfl (by decide +kernel) ⟨Nat.le_of_ble_eq_true rfl, Nat.le_of_ble_eq_true rfl⟩) (pv [.int a0, .int a1, .int a2, .int a3] hK hP hbs hS rfl (wg0 ca ad w_14)) rfl rfl hl.1 rfl (lv_room (Nat.le_of_ble_eq_true rfl)) dX4_write_115 ⟨Nat.le_of_ble_eq_true rfl, Nat.le_of_ble_eq_true rfl⟩) hS (fun q _ h => h) (fun q h => h) (fun w_17 t H locs ht hvm hw hP hz1 hk1 hS => ?_)
              have hP : PA D ca ad w_17 H := by rw [← ht]; exact hP
              refine lv_bipush (v := 103) hx hb dX4_write_118 (by decide) ?_
              refine vx_ret ?_
              exact W.zret (v := 103) hx hb hr (by decide) (fun t ht hW => ⟨⟨103, w_17, rfl, hw, by show PA D ca ad w_17 t.heap; rw [ht]; exact hP⟩, hS.F ht⟩) hS.2.2 dX4_write_120
            · have hw := hw.2 c_16
              refine lv_bipush (v := 98) hx hb dX4_write_106 (by decide) ?_
              refine vx_ret ?_
              exact W.zret (v := 98) hx hb hr (by decide) (fun t ht hW => ⟨⟨98, w_14, rfl, hw, by show PA D ca ad w_14 t.heap; rw [ht]; exact hP⟩, hS.F ht⟩) hS.2.2 dX4_write_108
          · have hw := hw.1 c_13
            refine lv_bipush (v := 111) hx hb dX4_write_88 (by decide) ?_
            refine vx_ret ?_
            exact W.zret (v := 111) hx hb hr (by decide) (fun t ht hW => ⟨⟨111, w_11, rfl, hw, by show PA D ca ad w_11 t.heap; rw [ht]; exact hP⟩, hS.F ht⟩) hS.2.2 dX4_write_90
      · have hw := hw.2 c_7
        refine lv_iload hx hb dX4_write_53 (lv_at hl 0 rfl) ?_
        refine vx_ret ?_
        obtain ⟨hn9, hw⟩ := hw
        exact W.zret (v := r_6) hx hb hr hn9 (fun t ht hW => ⟨⟨r_6, w_5, rfl, hw, by show PA D ca ad w_5 t.heap; rw [ht]; exact hP⟩, hS.F ht⟩) hS.2.2 dX4_write_55
    · have hw := hw.2 c_3
      exact hB20 w_1 hw _ _ hP hS ls (lv_sub hl [] rfl)
set_option maxHeartbeats 4000000 in
set_option maxRecDepth 100000 in
def wpX4_checkNotFree (a0 : Int32) (w : St) (post : St → Prop) (px : String → St → Prop) : Prop := wpX1_isFree a0 (w.1 64 0) w (fun r_2 w_1 => (r_2 = 0 → (post w_1)) ∧ (¬ (r_2 = 0) → (px "java/util/NoSuchElementException" w_1)))
set_option maxHeartbeats 4000000 in
set_option maxRecDepth 100000 in
theorem mX4_checkNotFree (l : Launch) (D : va_G) (ca : Nat → ClassId) (ad : Nat → Nat) (base : Nat) (hAd : okA base ad) (w : St) (a0 : Int32) (post : St → Prop) (px : String → St → Prop) (hw : wpX4_checkNotFree a0 w post px) (hl9 : l.stackTraces = false) : vx_Met l yX4_checkNotFree wsX4_checkNotFree ({ frames := 6, cells := 1, slots := 6, locals := 90 } : Room) (va_Pc [.ref (ad 0), .int a0] (BX D ca ad base w)) (va_Qv post (Bp D ca ad) (AB base)) (vx_X (fun q : String × St => px q.1 q.2) (Bx D ca ad) (AB base)) 1 6 (AB base) := by
  refine vx_ofW (cc := cX4_checkNotFree) (maxL := 2) (ret := none) (by decide) rfl ?_
  intro p e s m args below meth c s₁ B hml hEx hv
  obtain ⟨rfl, ⟨hbs, hP, hK⟩, hXP⟩ := hv
  have hx := B.exec
  have hb := B.bytes
  have hr := B.returns
  have hts := atoms_spec (ws := wsX4_checkNotFree) B.pre
  have hown : s.vm.findClass RX4 = some m.cls := findClass_of_methodNamed B.named
  have hlocks := B.notSynchronized
  have in_X4 : ∀ w ∈ wsX40, w ∈ wsX4_checkNotFree := by decide +kernel
  have lk_26 := hts (.fieldLink RX4 26 "LockQuorum" "locks" "LLockQuorum$Locks;") (by decide +kernel)
  have lk_44 := hts (.fieldLink RX4 44 "LockQuorum" "now" "I") (by decide +kernel)
  have hS : va_S (AB base) s.heap s.heap [] := va_S.rf
  have hl := lv_entry ([.ref (ad 0), .int a0]) (n := 2) (Nat.le_of_ble_eq_true rfl)
  rw [lg_entry_eq]
  generalize (lg_sl ([.ref (ad 0), .int a0]) ++ List.replicate (2 - (lg_sl ([.ref (ad 0), .int a0])).length) Slot.unset).toArray = ls at hl ⊢
  have hl : lv_has ls 2 [(0, .ref (ad 0)), (1, .int a0)] := hl
  refine lv_aload_n hx hb dX4_checkNotFree_0 rfl (lv_at hl 0 rfl) ?_
  refine va_get (D := D) (ci := 6) (v := .ref (ad 13)) (C := RX4) (T := TX4) (N := 6) hx hb hts in_X4 hown hK hP 0 (wg0 ca ad w) rfl 2 (by decide) lk_26 (fun _ h9 => h9) rfl dX4_checkNotFree_1 ?_
  refine lv_iload_n hx hb dX4_checkNotFree_4 rfl (lv_at hl 1 rfl) ?_
  refine lv_aload_n hx hb dX4_checkNotFree_5 rfl (lv_at hl 0 rfl) ?_
  refine va_get (D := D) (ci := 6) (v := .int (w.1 64 0)) (C := RX4) (T := TX4) (N := 6) hx hb hts in_X4 hown hK hP 0 (wg0 ca ad w) rfl 4 (by decide) lk_44 (fun _ h9 => h9) rfl dX4_checkNotFree_6 ?_
  refine va_calli (va_runV (As := [.int a0, .int (w.1 64 0)]) (rest := []) ⟨hx, hb, hml, hown, hts⟩ (mX1_isFree l D ca ad base hAd w a0 (w.1 64 0) _ hw) (cwV 2 hts gX4_checkNotFree_X1_isFree rfl rfl rfl (by decide +kernel) ⟨Nat.le_of_ble_eq_true rfl, Nat.le_of_ble_eq_true rfl⟩) (pv [.int a0, .int (w.1 64 0)] hK hP hbs hS rfl (wg13 ca ad w)) rfl rfl hl.1 rfl (lv_room (Nat.le_of_ble_eq_true rfl)) dX4_checkNotFree_9 ⟨Nat.le_of_ble_eq_true rfl, Nat.le_of_ble_eq_true rfl⟩) hS (fun q _ h => h) (fun q h => h) (fun r_2 w_1 t H locs ht hvm hw hP hz1 hk1 hS => ?_)
  have hP : PA D ca ad w_1 H := by rw [← ht]; exact hP
  refine lv_if_eq (tgt := 25) hx hb dX4_checkNotFree_12 (by decide) (fun c_3 => ?_) (fun c_3 => ?_)
  · have hw := hw.1 c_3
    refine W.widen (k := 1) (n := 6) (Nat.le_of_ble_eq_true rfl) (Nat.le_of_ble_eq_true rfl) ?_
    refine vx_ret ?_
    exact W.vret hx hb hr (fun t ht hW => ⟨⟨w_1, rfl, hw, by show PA D ca ad w_1 t.heap; rw [ht]; exact hP⟩, hS.F ht⟩) hS.2.2 dX4_checkNotFree_25
  · have hw := hw.2 c_3
    obtain ⟨sa, hstr⟩ := hXP.2.2.2.1 (196, "the lock is free") (List.mem_of_getElem? (i := 9) rfl)
    exact nx_throwS (own := RX4) (cls := "java/util/NoSuchElementException") (names := ["java/lang/RuntimeException", "java/lang/Exception"]) hx hb hl9 hown (by decide +kernel) (by decide +kernel) (hts (.classLink RX4 85 "java/util/NoSuchElementException") (by decide +kernel)) (hts (.initialized "java/util/NoSuchElementException") (by decide +kernel)) hstr (vx_hat (L := nx_at RX4 89 "java/util/NoSuchElementException" ["java/lang/RuntimeException", "java/lang/Exception"]) (B := [.castable "java/util/NoSuchElementException" "java/util/NoSuchElementException", .declares ⟨"java/lang/RuntimeException", "<init>", "(Ljava/lang/String;)V"⟩, .declares ⟨"java/lang/Exception", "<init>", "(Ljava/lang/String;)V"⟩, .declares ⟨"java/lang/Throwable", "<init>", "(Ljava/lang/String;)V"⟩]) (fun w hw => hts w ((by decide +kernel : ∀ w ∈ (nx_at RX4 89 "java/util/NoSuchElementException" ["java/lang/RuntimeException", "java/lang/Exception"]).filter goodWord, w ∈ wsX4_checkNotFree) w hw)) (by decide +kernel) (vx_c (va_Nw.use rfl (hXP.2.2.1 (.castable "java/util/NoSuchElementException" "java/util/NoSuchElementException") (List.mem_of_getElem? (i := 3) rfl))) (vx_c (va_Nw.use rfl (hXP.2.2.1 (.declares ⟨"java/lang/RuntimeException", "<init>", "(Ljava/lang/String;)V"⟩) (List.mem_of_getElem? (i := 6) rfl))) (vx_c (va_Nw.use rfl (hXP.2.2.1 (.declares ⟨"java/lang/Exception", "<init>", "(Ljava/lang/String;)V"⟩) (List.mem_of_getElem? (i := 7) rfl))) (vx_c (va_Nw.use rfl (hXP.2.2.1 (.declares ⟨"java/lang/Throwable", "<init>", "(Ljava/lang/String;)V"⟩) (List.mem_of_getElem? (i := 8) rfl))) (vx_n)))))) (by decide +kernel) hXP.1 hXP.2.1 hS (hl.1.trans hml.symm) dX4_checkNotFree_15 dX4_checkNotFree_18 dX4_checkNotFree_19 dX4_checkNotFree_21 dX4_checkNotFree_24 (fun x hx => (hEx x hx).elim) (Nat.le_of_ble_eq_true rfl) (Nat.le_of_ble_eq_true rfl) (Nat.le_of_ble_eq_true rfl) (Nat.le_of_ble_eq_true rfl) hlocks (fun t ha hsz hk => ⟨("java/util/NoSuchElementException", w_1), hw, ⟨rfl, hP.kept (fun k q hq => hk q.1 (hP k q hq).lt)⟩, Nat.le_trans hS.1 hsz, fun q h1 h2 => (hk q (Nat.lt_of_lt_of_le h1 hS.1)).trans (hS.2.1 q h1 h2)⟩) hS.2.2 (Nat.le_of_ble_eq_true rfl) (Nat.le_of_ble_eq_true rfl)
set_option maxHeartbeats 4000000 in
set_option maxRecDepth 100000 in
def wpX4_owner (a0 : Int32) (w : St) (post : Int32 → St → Prop) (px : String → St → Prop) : Prop := wpX4_checkLock a0 w (fun w_1 => wpX4_checkNotFree a0 w_1 (fun w_2 => (vp_in a0 4) ∧ (post (w_2.1 14 (a0).toNatClampNeg) w_2)) px) px
set_option maxHeartbeats 4000000 in
set_option maxRecDepth 100000 in
theorem mX4_owner (l : Launch) (D : va_G) (ca : Nat → ClassId) (ad : Nat → Nat) (base : Nat) (hAd : okA base ad) (w : St) (a0 : Int32) (post : Int32 → St → Prop) (px : String → St → Prop) (hw : wpX4_owner a0 w post px) (hl9 : l.stackTraces = false) : vx_Met l yX4_owner wsX4_owner ({ frames := 7, cells := 2, slots := 12, locals := 111 } : Room) (va_Pc [.ref (ad 0), .int a0] (BX D ca ad base w)) (va_Qi post (Bp D ca ad) (AB base)) (vx_X (fun q : String × St => px q.1 q.2) (Bx D ca ad) (AB base)) 2 12 (AB base) := by
  refine vx_ofW (cc := cX4_owner) (maxL := 2) (ret := (some .int)) (by decide) rfl ?_
  intro p e s m args below meth c s₁ B hml hEx hv
  obtain ⟨rfl, ⟨hbs, hP, hK⟩, hXP⟩ := hv
  have hx := B.exec
  have hb := B.bytes
  have hr := B.returns
  have hts := atoms_spec (ws := wsX4_owner) B.pre
  have hown : s.vm.findClass RX4 = some m.cls := findClass_of_methodNamed B.named
  have hlocks := B.notSynchronized
  have in_X1 : ∀ w ∈ wsX10, w ∈ wsX4_owner := by decide +kernel
  have in_X4 : ∀ w ∈ wsX40, w ∈ wsX4_owner := by decide +kernel
  have lk_26 := hts (.fieldLink RX4 26 "LockQuorum" "locks" "LLockQuorum$Locks;") (by decide +kernel)
  have lk_190 := hts (.fieldLink RX4 190 "LockQuorum$Locks" "owner" "[I") (by decide +kernel)
  have hS : va_S (AB base) s.heap s.heap [] := va_S.rf
  have hl := lv_entry ([.ref (ad 0), .int a0]) (n := 2) (Nat.le_of_ble_eq_true rfl)
  rw [lg_entry_eq]
  generalize (lg_sl ([.ref (ad 0), .int a0]) ++ List.replicate (2 - (lg_sl ([.ref (ad 0), .int a0])).length) Slot.unset).toArray = ls at hl ⊢
  have hl : lv_has ls 2 [(0, .ref (ad 0)), (1, .int a0)] := hl
  refine lv_aload_n hx hb dX4_owner_0 rfl (lv_at hl 0 rfl) ?_
  refine lv_iload_n hx hb dX4_owner_1 rfl (lv_at hl 1 rfl) ?_
  refine vx_callv (vx_runV (As := [.int a0]) (rest := []) ⟨hx, hb, hml, hown, hts⟩ (mX4_checkLock l D ca ad base hAd w a0 _ _ hw hl9) (cwV 1 hts gX4_owner_X4_checkLock rfl rfl rfl (by decide +kernel) ⟨Nat.le_of_ble_eq_true rfl, Nat.le_of_ble_eq_true rfl⟩) (pvx [.int a0] hK hXP hP hbs hS rfl (wg0 ca ad w)) rfl rfl hl.1 rfl (lv_room (Nat.le_of_ble_eq_true rfl)) dX4_owner_2 ⟨Nat.le_of_ble_eq_true rfl, Nat.le_of_ble_eq_true rfl⟩) hS (fun q _ h => h) (fun q h => h) (fun q _ h => h) (fun E ce q9 u t H locs ht hvm hw hB hz1 hk1 hS hce hcv hcl => ?_) (fun w_1 t H locs ht hvm hw hP hz1 hk1 hS => ?_)
  · exact vx_out (E := E) (fun x hx => (hEx x hx).elim) hlocks hce hcv hcl (fun t9 ht9 ha9 => ⟨u, hw, ⟨hB.1, by show PA D ca ad u.2 t9.heap; rw [ht9, ← ht]; exact hB.2⟩, hS.F ht9⟩) hS.2.2 (Nat.le_of_ble_eq_true rfl) (Nat.le_of_ble_eq_true rfl)
  have hP : PA D ca ad w_1 H := by rw [← ht]; exact hP
  refine lv_aload_n hx hb dX4_owner_5 rfl (lv_at hl 0 rfl) ?_
  refine lv_iload_n hx hb dX4_owner_6 rfl (lv_at hl 1 rfl) ?_
  refine vx_callv (vx_runV (As := [.int a0]) (rest := []) ⟨hx, hb, hml, hown, hts⟩ (mX4_checkNotFree l D ca ad base hAd w_1 a0 _ _ hw hl9) (cwV 1 hts gX4_owner_X4_checkNotFree rfl rfl rfl (by decide +kernel) ⟨Nat.le_of_ble_eq_true rfl, Nat.le_of_ble_eq_true rfl⟩) (pvx [.int a0] hK hXP hP hbs hS rfl (wg0 ca ad w_1)) rfl rfl hl.1 rfl (lv_room (Nat.le_of_ble_eq_true rfl)) dX4_owner_7 ⟨Nat.le_of_ble_eq_true rfl, Nat.le_of_ble_eq_true rfl⟩) hS (fun q _ h => h) (fun q h => h) (fun q _ h => h) (fun E ce q9 u t H locs ht hvm hw hB hz1 hk1 hS hce hcv hcl => ?_) (fun w_2 t H locs ht hvm hw hP hz1 hk1 hS => ?_)
  · exact vx_out (E := E) (fun x hx => (hEx x hx).elim) hlocks hce hcv hcl (fun t9 ht9 ha9 => ⟨u, hw, ⟨hB.1, by show PA D ca ad u.2 t9.heap; rw [ht9, ← ht]; exact hB.2⟩, hS.F ht9⟩) hS.2.2 (Nat.le_of_ble_eq_true rfl) (Nat.le_of_ble_eq_true rfl)
  have hP : PA D ca ad w_2 H := by rw [← ht]; exact hP
  refine lv_aload_n hx hb dX4_owner_10 rfl (lv_at hl 0 rfl) ?_
  refine va_get (D := D) (ci := 6) (v := .ref (ad 13)) (C := RX4) (T := TX4) (N := 6) hx hb hts in_X4 hown hK hP 0 (wg0 ca ad w_2) rfl 2 (by decide) lk_26 (fun _ h9 => h9) rfl dX4_owner_11 ?_
  refine va_get (D := D) (ci := 3) (v := .ref (ad 14)) (C := RX1) (T := TX1) (N := 6) hx hb hts in_X1 hown hK hP 13 (wg13 ca ad w_2) rfl 0 (by decide) lk_190 (fun _ h9 => h9) rfl dX4_owner_14 ?_
  refine lv_iload_n hx hb dX4_owner_17 rfl (lv_at hl 1 rfl) ?_
  obtain ⟨h_3, hw⟩ := hw
  refine va_iald hx hb hK hP 14 0 (wg14 ca ad w_2) rfl h_3 dX4_owner_18 ?_
  refine vx_ret ?_
  exact W.iret (v := (w_2.1 14 (a0).toNatClampNeg)) hx hb hr (fun t ht hW => ⟨⟨(w_2.1 14 (a0).toNatClampNeg), w_2, rfl, hw, by show PA D ca ad w_2 t.heap; rw [ht]; exact hP⟩, hS.F ht⟩) hS.2.2 dX4_owner_19
set_option maxHeartbeats 4000000 in
set_option maxRecDepth 100000 in
def wpX4_ownerByLog (a0 : Int32) (w : St) (post : Int32 → St → Prop) (px : String → St → Prop) : Prop := wpX4_checkLock a0 w (fun w_1 => wpX2_holderAt a0 (w_1.1 64 0) w_1 (fun r_3 w_2 => (r_3 = (-1) → (px "java/util/NoSuchElementException" w_2)) ∧ (¬ (r_3 = (-1)) → (post r_3 w_2)))) px
set_option maxHeartbeats 4000000 in
set_option maxRecDepth 100000 in
theorem mX4_ownerByLog (l : Launch) (D : va_G) (ca : Nat → ClassId) (ad : Nat → Nat) (base : Nat) (hAd : okA base ad) (w : St) (a0 : Int32) (post : Int32 → St → Prop) (px : String → St → Prop) (hw : wpX4_ownerByLog a0 w post px) (hl9 : l.stackTraces = false) : vx_Met l yX4_ownerByLog wsX4_ownerByLog ({ frames := 7, cells := 2, slots := 12, locals := 111 } : Room) (va_Pc [.ref (ad 0), .int a0] (BX D ca ad base w)) (va_Qi post (Bp D ca ad) (AB base)) (vx_X (fun q : String × St => px q.1 q.2) (Bx D ca ad) (AB base)) 2 12 (AB base) := by
  refine vx_ofW (cc := cX4_ownerByLog) (maxL := 3) (ret := (some .int)) (by decide) rfl ?_
  intro p e s m args below meth c s₁ B hml hEx hv
  obtain ⟨rfl, ⟨hbs, hP, hK⟩, hXP⟩ := hv
  have hx := B.exec
  have hb := B.bytes
  have hr := B.returns
  have hts := atoms_spec (ws := wsX4_ownerByLog) B.pre
  have hown : s.vm.findClass RX4 = some m.cls := findClass_of_methodNamed B.named
  have hlocks := B.notSynchronized
  have in_X4 : ∀ w ∈ wsX40, w ∈ wsX4_ownerByLog := by decide +kernel
  have lk_19 := hts (.fieldLink RX4 19 "LockQuorum" "log" "LLockQuorum$Log;") (by decide +kernel)
  have lk_44 := hts (.fieldLink RX4 44 "LockQuorum" "now" "I") (by decide +kernel)
  have hS : va_S (AB base) s.heap s.heap [] := va_S.rf
  have hl := lv_entry ([.ref (ad 0), .int a0]) (n := 3) (Nat.le_of_ble_eq_true rfl)
  rw [lg_entry_eq]
  generalize (lg_sl ([.ref (ad 0), .int a0]) ++ List.replicate (3 - (lg_sl ([.ref (ad 0), .int a0])).length) Slot.unset).toArray = ls at hl ⊢
  have hl : lv_has ls 3 [(0, .ref (ad 0)), (1, .int a0)] := hl
  refine lv_aload_n hx hb dX4_ownerByLog_0 rfl (lv_at hl 0 rfl) ?_
  refine lv_iload_n hx hb dX4_ownerByLog_1 rfl (lv_at hl 1 rfl) ?_
  refine vx_callv (vx_runV (As := [.int a0]) (rest := []) ⟨hx, hb, hml, hown, hts⟩ (mX4_checkLock l D ca ad base hAd w a0 _ _ hw hl9) (cwV 1 hts gX4_ownerByLog_X4_checkLock rfl rfl rfl (by decide +kernel) ⟨Nat.le_of_ble_eq_true rfl, Nat.le_of_ble_eq_true rfl⟩) (pvx [.int a0] hK hXP hP hbs hS rfl (wg0 ca ad w)) rfl rfl hl.1 rfl (lv_room (Nat.le_of_ble_eq_true rfl)) dX4_ownerByLog_2 ⟨Nat.le_of_ble_eq_true rfl, Nat.le_of_ble_eq_true rfl⟩) hS (fun q _ h => h) (fun q h => h) (fun q _ h => h) (fun E ce q9 u t H locs ht hvm hw hB hz1 hk1 hS hce hcv hcl => ?_) (fun w_1 t H locs ht hvm hw hP hz1 hk1 hS => ?_)
  · exact vx_out (E := E) (fun x hx => (hEx x hx).elim) hlocks hce hcv hcl (fun t9 ht9 ha9 => ⟨u, hw, ⟨hB.1, by show PA D ca ad u.2 t9.heap; rw [ht9, ← ht]; exact hB.2⟩, hS.F ht9⟩) hS.2.2 (Nat.le_of_ble_eq_true rfl) (Nat.le_of_ble_eq_true rfl)
  have hP : PA D ca ad w_1 H := by rw [← ht]; exact hP
  refine lv_aload_n hx hb dX4_ownerByLog_5 rfl (lv_at hl 0 rfl) ?_
  refine va_get (D := D) (ci := 6) (v := .ref (ad 7)) (C := RX4) (T := TX4) (N := 6) hx hb hts in_X4 hown hK hP 0 (wg0 ca ad w_1) rfl 1 (by decide) lk_19 (fun _ h9 => h9) rfl dX4_ownerByLog_6 ?_
  refine lv_iload_n hx hb dX4_ownerByLog_9 rfl (lv_at hl 1 rfl) ?_
  refine lv_aload_n hx hb dX4_ownerByLog_10 rfl (lv_at hl 0 rfl) ?_
  refine va_get (D := D) (ci := 6) (v := .int (w_1.1 64 0)) (C := RX4) (T := TX4) (N := 6) hx hb hts in_X4 hown hK hP 0 (wg0 ca ad w_1) rfl 4 (by decide) lk_44 (fun _ h9 => h9) rfl dX4_ownerByLog_11 ?_
  refine va_calli (va_runV (As := [.int a0, .int (w_1.1 64 0)]) (rest := []) ⟨hx, hb, hml, hown, hts⟩ (mX2_holderAt l D ca ad base hAd w_1 a0 (w_1.1 64 0) _ hw) (cwV 2 hts gX4_ownerByLog_X2_holderAt rfl rfl rfl (by decide +kernel) ⟨Nat.le_of_ble_eq_true rfl, Nat.le_of_ble_eq_true rfl⟩) (pv [.int a0, .int (w_1.1 64 0)] hK hP hbs hS rfl (wg7 ca ad w_1)) rfl rfl hl.1 rfl (lv_room (Nat.le_of_ble_eq_true rfl)) dX4_ownerByLog_14 ⟨Nat.le_of_ble_eq_true rfl, Nat.le_of_ble_eq_true rfl⟩) hS (fun q _ h => h) (fun q h => h) (fun r_3 w_2 t H locs ht hvm hw hP hz1 hk1 hS => ?_)
  have hP : PA D ca ad w_2 H := by rw [← ht]; exact hP
  refine lv_istore_n (lv' := [(2, .int r_3), (0, .ref (ad 0)), (1, .int a0)]) hx hb dX4_ownerByLog_17 rfl hl (by decide) rfl (fun ls hl => ?_)
  refine lv_iload_n hx hb dX4_ownerByLog_18 rfl (lv_at hl 0 rfl) ?_
  refine lv_iconst (v := (-1)) hx hb dX4_ownerByLog_19 (by decide) ?_
  refine lv_icmp_ne (tgt := 33) hx hb dX4_ownerByLog_20 (by decide) (fun c_4 => ?_) (fun c_4 => ?_)
  · have hw := hw.2 c_4
    refine lv_iload_n hx hb dX4_ownerByLog_33 rfl (lv_at hl 0 rfl) ?_
    refine W.widen (k := 2) (n := 12) (Nat.le_of_ble_eq_true rfl) (Nat.le_of_ble_eq_true rfl) ?_
    refine vx_ret ?_
    exact W.iret (v := r_3) hx hb hr (fun t ht hW => ⟨⟨r_3, w_2, rfl, hw, by show PA D ca ad w_2 t.heap; rw [ht]; exact hP⟩, hS.F ht⟩) hS.2.2 dX4_ownerByLog_34
  · have hw := hw.1 c_4
    obtain ⟨sa, hstr⟩ := hXP.2.2.2.1 (196, "the lock is free") (List.mem_of_getElem? (i := 9) rfl)
    exact nx_throwS (own := RX4) (cls := "java/util/NoSuchElementException") (names := ["java/lang/RuntimeException", "java/lang/Exception"]) hx hb hl9 hown (by decide +kernel) (by decide +kernel) (hts (.classLink RX4 85 "java/util/NoSuchElementException") (by decide +kernel)) (hts (.initialized "java/util/NoSuchElementException") (by decide +kernel)) hstr (vx_hat (L := nx_at RX4 89 "java/util/NoSuchElementException" ["java/lang/RuntimeException", "java/lang/Exception"]) (B := [.castable "java/util/NoSuchElementException" "java/util/NoSuchElementException", .declares ⟨"java/lang/RuntimeException", "<init>", "(Ljava/lang/String;)V"⟩, .declares ⟨"java/lang/Exception", "<init>", "(Ljava/lang/String;)V"⟩, .declares ⟨"java/lang/Throwable", "<init>", "(Ljava/lang/String;)V"⟩]) (fun w hw => hts w ((by decide +kernel : ∀ w ∈ (nx_at RX4 89 "java/util/NoSuchElementException" ["java/lang/RuntimeException", "java/lang/Exception"]).filter goodWord, w ∈ wsX4_ownerByLog) w hw)) (by decide +kernel) (vx_c (va_Nw.use rfl (hXP.2.2.1 (.castable "java/util/NoSuchElementException" "java/util/NoSuchElementException") (List.mem_of_getElem? (i := 3) rfl))) (vx_c (va_Nw.use rfl (hXP.2.2.1 (.declares ⟨"java/lang/RuntimeException", "<init>", "(Ljava/lang/String;)V"⟩) (List.mem_of_getElem? (i := 6) rfl))) (vx_c (va_Nw.use rfl (hXP.2.2.1 (.declares ⟨"java/lang/Exception", "<init>", "(Ljava/lang/String;)V"⟩) (List.mem_of_getElem? (i := 7) rfl))) (vx_c (va_Nw.use rfl (hXP.2.2.1 (.declares ⟨"java/lang/Throwable", "<init>", "(Ljava/lang/String;)V"⟩) (List.mem_of_getElem? (i := 8) rfl))) (vx_n)))))) (by decide +kernel) hXP.1 hXP.2.1 hS (hl.1.trans hml.symm) dX4_ownerByLog_23 dX4_ownerByLog_26 dX4_ownerByLog_27 dX4_ownerByLog_29 dX4_ownerByLog_32 (fun x hx => (hEx x hx).elim) (Nat.le_of_ble_eq_true rfl) (Nat.le_of_ble_eq_true rfl) (Nat.le_of_ble_eq_true rfl) (Nat.le_of_ble_eq_true rfl) hlocks (fun t ha hsz hk => ⟨("java/util/NoSuchElementException", w_2), hw, ⟨rfl, hP.kept (fun k q hq => hk q.1 (hP k q hq).lt)⟩, Nat.le_trans hS.1 hsz, fun q h1 h2 => (hk q (Nat.lt_of_lt_of_le h1 hS.1)).trans (hS.2.1 q h1 h2)⟩) hS.2.2 (Nat.le_of_ble_eq_true rfl) (Nat.le_of_ble_eq_true rfl)
set_option maxHeartbeats 4000000 in
set_option maxRecDepth 100000 in
def wpX4_endOf (a0 : Int32) (w : St) (post : Int32 → St → Prop) (px : String → St → Prop) : Prop := wpX4_checkLock a0 w (fun w_1 => wpX4_checkNotFree a0 w_1 (fun w_2 => (vp_in a0 4) ∧ (post (w_2.1 15 (a0).toNatClampNeg) w_2)) px) px
set_option maxHeartbeats 4000000 in
set_option maxRecDepth 100000 in
theorem mX4_endOf (l : Launch) (D : va_G) (ca : Nat → ClassId) (ad : Nat → Nat) (base : Nat) (hAd : okA base ad) (w : St) (a0 : Int32) (post : Int32 → St → Prop) (px : String → St → Prop) (hw : wpX4_endOf a0 w post px) (hl9 : l.stackTraces = false) : vx_Met l yX4_endOf wsX4_endOf ({ frames := 7, cells := 2, slots := 12, locals := 111 } : Room) (va_Pc [.ref (ad 0), .int a0] (BX D ca ad base w)) (va_Qi post (Bp D ca ad) (AB base)) (vx_X (fun q : String × St => px q.1 q.2) (Bx D ca ad) (AB base)) 2 12 (AB base) := by
  refine vx_ofW (cc := cX4_endOf) (maxL := 2) (ret := (some .int)) (by decide) rfl ?_
  intro p e s m args below meth c s₁ B hml hEx hv
  obtain ⟨rfl, ⟨hbs, hP, hK⟩, hXP⟩ := hv
  have hx := B.exec
  have hb := B.bytes
  have hr := B.returns
  have hts := atoms_spec (ws := wsX4_endOf) B.pre
  have hown : s.vm.findClass RX4 = some m.cls := findClass_of_methodNamed B.named
  have hlocks := B.notSynchronized
  have in_X1 : ∀ w ∈ wsX10, w ∈ wsX4_endOf := by decide +kernel
  have in_X4 : ∀ w ∈ wsX40, w ∈ wsX4_endOf := by decide +kernel
  have lk_26 := hts (.fieldLink RX4 26 "LockQuorum" "locks" "LLockQuorum$Locks;") (by decide +kernel)
  have lk_198 := hts (.fieldLink RX4 198 "LockQuorum$Locks" "end" "[I") (by decide +kernel)
  have hS : va_S (AB base) s.heap s.heap [] := va_S.rf
  have hl := lv_entry ([.ref (ad 0), .int a0]) (n := 2) (Nat.le_of_ble_eq_true rfl)
  rw [lg_entry_eq]
  generalize (lg_sl ([.ref (ad 0), .int a0]) ++ List.replicate (2 - (lg_sl ([.ref (ad 0), .int a0])).length) Slot.unset).toArray = ls at hl ⊢
  have hl : lv_has ls 2 [(0, .ref (ad 0)), (1, .int a0)] := hl
  refine lv_aload_n hx hb dX4_endOf_0 rfl (lv_at hl 0 rfl) ?_
  refine lv_iload_n hx hb dX4_endOf_1 rfl (lv_at hl 1 rfl) ?_
  refine vx_callv (vx_runV (As := [.int a0]) (rest := []) ⟨hx, hb, hml, hown, hts⟩ (mX4_checkLock l D ca ad base hAd w a0 _ _ hw hl9) (cwV 1 hts gX4_endOf_X4_checkLock rfl rfl rfl (by decide +kernel) ⟨Nat.le_of_ble_eq_true rfl, Nat.le_of_ble_eq_true rfl⟩) (pvx [.int a0] hK hXP hP hbs hS rfl (wg0 ca ad w)) rfl rfl hl.1 rfl (lv_room (Nat.le_of_ble_eq_true rfl)) dX4_endOf_2 ⟨Nat.le_of_ble_eq_true rfl, Nat.le_of_ble_eq_true rfl⟩) hS (fun q _ h => h) (fun q h => h) (fun q _ h => h) (fun E ce q9 u t H locs ht hvm hw hB hz1 hk1 hS hce hcv hcl => ?_) (fun w_1 t H locs ht hvm hw hP hz1 hk1 hS => ?_)
  · exact vx_out (E := E) (fun x hx => (hEx x hx).elim) hlocks hce hcv hcl (fun t9 ht9 ha9 => ⟨u, hw, ⟨hB.1, by show PA D ca ad u.2 t9.heap; rw [ht9, ← ht]; exact hB.2⟩, hS.F ht9⟩) hS.2.2 (Nat.le_of_ble_eq_true rfl) (Nat.le_of_ble_eq_true rfl)
  have hP : PA D ca ad w_1 H := by rw [← ht]; exact hP
  refine lv_aload_n hx hb dX4_endOf_5 rfl (lv_at hl 0 rfl) ?_
  refine lv_iload_n hx hb dX4_endOf_6 rfl (lv_at hl 1 rfl) ?_
  refine vx_callv (vx_runV (As := [.int a0]) (rest := []) ⟨hx, hb, hml, hown, hts⟩ (mX4_checkNotFree l D ca ad base hAd w_1 a0 _ _ hw hl9) (cwV 1 hts gX4_endOf_X4_checkNotFree rfl rfl rfl (by decide +kernel) ⟨Nat.le_of_ble_eq_true rfl, Nat.le_of_ble_eq_true rfl⟩) (pvx [.int a0] hK hXP hP hbs hS rfl (wg0 ca ad w_1)) rfl rfl hl.1 rfl (lv_room (Nat.le_of_ble_eq_true rfl)) dX4_endOf_7 ⟨Nat.le_of_ble_eq_true rfl, Nat.le_of_ble_eq_true rfl⟩) hS (fun q _ h => h) (fun q h => h) (fun q _ h => h) (fun E ce q9 u t H locs ht hvm hw hB hz1 hk1 hS hce hcv hcl => ?_) (fun w_2 t H locs ht hvm hw hP hz1 hk1 hS => ?_)
  · exact vx_out (E := E) (fun x hx => (hEx x hx).elim) hlocks hce hcv hcl (fun t9 ht9 ha9 => ⟨u, hw, ⟨hB.1, by show PA D ca ad u.2 t9.heap; rw [ht9, ← ht]; exact hB.2⟩, hS.F ht9⟩) hS.2.2 (Nat.le_of_ble_eq_true rfl) (Nat.le_of_ble_eq_true rfl)
  have hP : PA D ca ad w_2 H := by rw [← ht]; exact hP
  refine lv_aload_n hx hb dX4_endOf_10 rfl (lv_at hl 0 rfl) ?_
  refine va_get (D := D) (ci := 6) (v := .ref (ad 13)) (C := RX4) (T := TX4) (N := 6) hx hb hts in_X4 hown hK hP 0 (wg0 ca ad w_2) rfl 2 (by decide) lk_26 (fun _ h9 => h9) rfl dX4_endOf_11 ?_
  refine va_get (D := D) (ci := 3) (v := .ref (ad 15)) (C := RX1) (T := TX1) (N := 6) hx hb hts in_X1 hown hK hP 13 (wg13 ca ad w_2) rfl 1 (by decide) lk_198 (fun _ h9 => h9) rfl dX4_endOf_14 ?_
  refine lv_iload_n hx hb dX4_endOf_17 rfl (lv_at hl 1 rfl) ?_
  obtain ⟨h_3, hw⟩ := hw
  refine va_iald hx hb hK hP 15 0 (wg15 ca ad w_2) rfl h_3 dX4_endOf_18 ?_
  refine vx_ret ?_
  exact W.iret (v := (w_2.1 15 (a0).toNatClampNeg)) hx hb hr (fun t ht hW => ⟨⟨(w_2.1 15 (a0).toNatClampNeg), w_2, rfl, hw, by show PA D ca ad w_2 t.heap; rw [ht]; exact hP⟩, hS.F ht⟩) hS.2.2 dX4_endOf_19
set_option maxHeartbeats 4000000 in
set_option maxRecDepth 100000 in
def wpX4_thief (a0 : Int32) (w : St) (post : Int32 → St → Prop) (px : String → St → Prop) : Prop := wpX4_checkLock a0 w (fun w_1 => (vp_in a0 4) ∧ (((w_1.1 16 (a0).toNatClampNeg) = (-1) → (px "java/util/NoSuchElementException" w_1)) ∧ (¬ ((w_1.1 16 (a0).toNatClampNeg) = (-1)) → ((vp_in a0 4) ∧ (post (w_1.1 16 (a0).toNatClampNeg) w_1))))) px
set_option maxHeartbeats 4000000 in
set_option maxRecDepth 100000 in
theorem mX4_thief (l : Launch) (D : va_G) (ca : Nat → ClassId) (ad : Nat → Nat) (base : Nat) (hAd : okA base ad) (w : St) (a0 : Int32) (post : Int32 → St → Prop) (px : String → St → Prop) (hw : wpX4_thief a0 w post px) (hl9 : l.stackTraces = false) : vx_Met l yX4_thief wsX4_thief ({ frames := 7, cells := 2, slots := 12, locals := 111 } : Room) (va_Pc [.ref (ad 0), .int a0] (BX D ca ad base w)) (va_Qi post (Bp D ca ad) (AB base)) (vx_X (fun q : String × St => px q.1 q.2) (Bx D ca ad) (AB base)) 2 12 (AB base) := by
  refine vx_ofW (cc := cX4_thief) (maxL := 2) (ret := (some .int)) (by decide) rfl ?_
  intro p e s m args below meth c s₁ B hml hEx hv
  obtain ⟨rfl, ⟨hbs, hP, hK⟩, hXP⟩ := hv
  have hx := B.exec
  have hb := B.bytes
  have hr := B.returns
  have hts := atoms_spec (ws := wsX4_thief) B.pre
  have hown : s.vm.findClass RX4 = some m.cls := findClass_of_methodNamed B.named
  have hlocks := B.notSynchronized
  have in_X1 : ∀ w ∈ wsX10, w ∈ wsX4_thief := by decide +kernel
  have in_X4 : ∀ w ∈ wsX40, w ∈ wsX4_thief := by decide +kernel
  have lk_26 := hts (.fieldLink RX4 26 "LockQuorum" "locks" "LLockQuorum$Locks;") (by decide +kernel)
  have lk_129 := hts (.fieldLink RX4 129 "LockQuorum$Locks" "thief" "[I") (by decide +kernel)
  have hS : va_S (AB base) s.heap s.heap [] := va_S.rf
  have hl := lv_entry ([.ref (ad 0), .int a0]) (n := 2) (Nat.le_of_ble_eq_true rfl)
  rw [lg_entry_eq]
  generalize (lg_sl ([.ref (ad 0), .int a0]) ++ List.replicate (2 - (lg_sl ([.ref (ad 0), .int a0])).length) Slot.unset).toArray = ls at hl ⊢
  have hl : lv_has ls 2 [(0, .ref (ad 0)), (1, .int a0)] := hl
  refine lv_aload_n hx hb dX4_thief_0 rfl (lv_at hl 0 rfl) ?_
  refine lv_iload_n hx hb dX4_thief_1 rfl (lv_at hl 1 rfl) ?_
  refine vx_callv (vx_runV (As := [.int a0]) (rest := []) ⟨hx, hb, hml, hown, hts⟩ (mX4_checkLock l D ca ad base hAd w a0 _ _ hw hl9) (cwV 1 hts gX4_thief_X4_checkLock rfl rfl rfl (by decide +kernel) ⟨Nat.le_of_ble_eq_true rfl, Nat.le_of_ble_eq_true rfl⟩) (pvx [.int a0] hK hXP hP hbs hS rfl (wg0 ca ad w)) rfl rfl hl.1 rfl (lv_room (Nat.le_of_ble_eq_true rfl)) dX4_thief_2 ⟨Nat.le_of_ble_eq_true rfl, Nat.le_of_ble_eq_true rfl⟩) hS (fun q _ h => h) (fun q h => h) (fun q _ h => h) (fun E ce q9 u t H locs ht hvm hw hB hz1 hk1 hS hce hcv hcl => ?_) (fun w_1 t H locs ht hvm hw hP hz1 hk1 hS => ?_)
  · exact vx_out (E := E) (fun x hx => (hEx x hx).elim) hlocks hce hcv hcl (fun t9 ht9 ha9 => ⟨u, hw, ⟨hB.1, by show PA D ca ad u.2 t9.heap; rw [ht9, ← ht]; exact hB.2⟩, hS.F ht9⟩) hS.2.2 (Nat.le_of_ble_eq_true rfl) (Nat.le_of_ble_eq_true rfl)
  have hP : PA D ca ad w_1 H := by rw [← ht]; exact hP
  refine lv_aload_n hx hb dX4_thief_5 rfl (lv_at hl 0 rfl) ?_
  refine va_get (D := D) (ci := 6) (v := .ref (ad 13)) (C := RX4) (T := TX4) (N := 6) hx hb hts in_X4 hown hK hP 0 (wg0 ca ad w_1) rfl 2 (by decide) lk_26 (fun _ h9 => h9) rfl dX4_thief_6 ?_
  refine va_get (D := D) (ci := 3) (v := .ref (ad 16)) (C := RX1) (T := TX1) (N := 6) hx hb hts in_X1 hown hK hP 13 (wg13 ca ad w_1) rfl 2 (by decide) lk_129 (fun _ h9 => h9) rfl dX4_thief_9 ?_
  refine lv_iload_n hx hb dX4_thief_12 rfl (lv_at hl 1 rfl) ?_
  obtain ⟨h_2, hw⟩ := hw
  refine va_iald hx hb hK hP 16 0 (wg16 ca ad w_1) rfl h_2 dX4_thief_13 ?_
  refine lv_iconst (v := (-1)) hx hb dX4_thief_14 (by decide) ?_
  refine lv_icmp_ne (tgt := 28) hx hb dX4_thief_15 (by decide) (fun c_3 => ?_) (fun c_3 => ?_)
  · have hw := hw.2 c_3
    refine lv_aload_n hx hb dX4_thief_28 rfl (lv_at hl 0 rfl) ?_
    refine va_get (D := D) (ci := 6) (v := .ref (ad 13)) (C := RX4) (T := TX4) (N := 6) hx hb hts in_X4 hown hK hP 0 (wg0 ca ad w_1) rfl 2 (by decide) lk_26 (fun _ h9 => h9) rfl dX4_thief_29 ?_
    refine va_get (D := D) (ci := 3) (v := .ref (ad 16)) (C := RX1) (T := TX1) (N := 6) hx hb hts in_X1 hown hK hP 13 (wg13 ca ad w_1) rfl 2 (by decide) lk_129 (fun _ h9 => h9) rfl dX4_thief_32 ?_
    refine lv_iload_n hx hb dX4_thief_35 rfl (lv_at hl 1 rfl) ?_
    obtain ⟨h_4, hw⟩ := hw
    refine va_iald hx hb hK hP 16 0 (wg16 ca ad w_1) rfl h_4 dX4_thief_36 ?_
    refine W.widen (k := 2) (n := 12) (Nat.le_of_ble_eq_true rfl) (Nat.le_of_ble_eq_true rfl) ?_
    refine vx_ret ?_
    exact W.iret (v := (w_1.1 16 (a0).toNatClampNeg)) hx hb hr (fun t ht hW => ⟨⟨(w_1.1 16 (a0).toNatClampNeg), w_1, rfl, hw, by show PA D ca ad w_1 t.heap; rw [ht]; exact hP⟩, hS.F ht⟩) hS.2.2 dX4_thief_37
  · have hw := hw.1 c_3
    obtain ⟨sa, hstr⟩ := hXP.2.2.2.1 (201, "the lock has no thief") (List.mem_of_getElem? (i := 10) rfl)
    exact nx_throwS (own := RX4) (cls := "java/util/NoSuchElementException") (names := ["java/lang/RuntimeException", "java/lang/Exception"]) hx hb hl9 hown (by decide +kernel) (by decide +kernel) (hts (.classLink RX4 85 "java/util/NoSuchElementException") (by decide +kernel)) (hts (.initialized "java/util/NoSuchElementException") (by decide +kernel)) hstr (vx_hat (L := nx_at RX4 89 "java/util/NoSuchElementException" ["java/lang/RuntimeException", "java/lang/Exception"]) (B := [.castable "java/util/NoSuchElementException" "java/util/NoSuchElementException", .declares ⟨"java/lang/RuntimeException", "<init>", "(Ljava/lang/String;)V"⟩, .declares ⟨"java/lang/Exception", "<init>", "(Ljava/lang/String;)V"⟩, .declares ⟨"java/lang/Throwable", "<init>", "(Ljava/lang/String;)V"⟩]) (fun w hw => hts w ((by decide +kernel : ∀ w ∈ (nx_at RX4 89 "java/util/NoSuchElementException" ["java/lang/RuntimeException", "java/lang/Exception"]).filter goodWord, w ∈ wsX4_thief) w hw)) (by decide +kernel) (vx_c (va_Nw.use rfl (hXP.2.2.1 (.castable "java/util/NoSuchElementException" "java/util/NoSuchElementException") (List.mem_of_getElem? (i := 3) rfl))) (vx_c (va_Nw.use rfl (hXP.2.2.1 (.declares ⟨"java/lang/RuntimeException", "<init>", "(Ljava/lang/String;)V"⟩) (List.mem_of_getElem? (i := 6) rfl))) (vx_c (va_Nw.use rfl (hXP.2.2.1 (.declares ⟨"java/lang/Exception", "<init>", "(Ljava/lang/String;)V"⟩) (List.mem_of_getElem? (i := 7) rfl))) (vx_c (va_Nw.use rfl (hXP.2.2.1 (.declares ⟨"java/lang/Throwable", "<init>", "(Ljava/lang/String;)V"⟩) (List.mem_of_getElem? (i := 8) rfl))) (vx_n)))))) (by decide +kernel) hXP.1 hXP.2.1 hS (hl.1.trans hml.symm) dX4_thief_18 dX4_thief_21 dX4_thief_22 dX4_thief_24 dX4_thief_27 (fun x hx => (hEx x hx).elim) (Nat.le_of_ble_eq_true rfl) (Nat.le_of_ble_eq_true rfl) (Nat.le_of_ble_eq_true rfl) (Nat.le_of_ble_eq_true rfl) hlocks (fun t ha hsz hk => ⟨("java/util/NoSuchElementException", w_1), hw, ⟨rfl, hP.kept (fun k q hq => hk q.1 (hP k q hq).lt)⟩, Nat.le_trans hS.1 hsz, fun q h1 h2 => (hk q (Nat.lt_of_lt_of_le h1 hS.1)).trans (hS.2.1 q h1 h2)⟩) hS.2.2 (Nat.le_of_ble_eq_true rfl) (Nat.le_of_ble_eq_true rfl)
set_option maxHeartbeats 4000000 in
set_option maxRecDepth 100000 in
def wpX4_waiting (a0 : Int32) (w : St) (post : Int32 → St → Prop) (px : String → St → Prop) : Prop := wpX4_checkLock a0 w (fun w_1 => (vp_in a0 4) ∧ (post (w_1.1 18 (a0).toNatClampNeg) w_1)) px
set_option maxHeartbeats 4000000 in
set_option maxRecDepth 100000 in
theorem mX4_waiting (l : Launch) (D : va_G) (ca : Nat → ClassId) (ad : Nat → Nat) (base : Nat) (hAd : okA base ad) (w : St) (a0 : Int32) (post : Int32 → St → Prop) (px : String → St → Prop) (hw : wpX4_waiting a0 w post px) (hl9 : l.stackTraces = false) : vx_Met l yX4_waiting wsX4_waiting ({ frames := 7, cells := 1, slots := 6, locals := 111 } : Room) (va_Pc [.ref (ad 0), .int a0] (BX D ca ad base w)) (va_Qi post (Bp D ca ad) (AB base)) (vx_X (fun q : String × St => px q.1 q.2) (Bx D ca ad) (AB base)) 1 6 (AB base) := by
  refine vx_ofW (cc := cX4_waiting) (maxL := 2) (ret := (some .int)) (by decide) rfl ?_
  intro p e s m args below meth c s₁ B hml hEx hv
  obtain ⟨rfl, ⟨hbs, hP, hK⟩, hXP⟩ := hv
  have hx := B.exec
  have hb := B.bytes
  have hr := B.returns
  have hts := atoms_spec (ws := wsX4_waiting) B.pre
  have hown : s.vm.findClass RX4 = some m.cls := findClass_of_methodNamed B.named
  have hlocks := B.notSynchronized
  have in_X1 : ∀ w ∈ wsX10, w ∈ wsX4_waiting := by decide +kernel
  have in_X4 : ∀ w ∈ wsX40, w ∈ wsX4_waiting := by decide +kernel
  have lk_26 := hts (.fieldLink RX4 26 "LockQuorum" "locks" "LLockQuorum$Locks;") (by decide +kernel)
  have lk_151 := hts (.fieldLink RX4 151 "LockQuorum$Locks" "queued" "[I") (by decide +kernel)
  have hS : va_S (AB base) s.heap s.heap [] := va_S.rf
  have hl := lv_entry ([.ref (ad 0), .int a0]) (n := 2) (Nat.le_of_ble_eq_true rfl)
  rw [lg_entry_eq]
  generalize (lg_sl ([.ref (ad 0), .int a0]) ++ List.replicate (2 - (lg_sl ([.ref (ad 0), .int a0])).length) Slot.unset).toArray = ls at hl ⊢
  have hl : lv_has ls 2 [(0, .ref (ad 0)), (1, .int a0)] := hl
  refine lv_aload_n hx hb dX4_waiting_0 rfl (lv_at hl 0 rfl) ?_
  refine lv_iload_n hx hb dX4_waiting_1 rfl (lv_at hl 1 rfl) ?_
  refine vx_callv (vx_runV (As := [.int a0]) (rest := []) ⟨hx, hb, hml, hown, hts⟩ (mX4_checkLock l D ca ad base hAd w a0 _ _ hw hl9) (cwV 1 hts gX4_waiting_X4_checkLock rfl rfl rfl (by decide +kernel) ⟨Nat.le_of_ble_eq_true rfl, Nat.le_of_ble_eq_true rfl⟩) (pvx [.int a0] hK hXP hP hbs hS rfl (wg0 ca ad w)) rfl rfl hl.1 rfl (lv_room (Nat.le_of_ble_eq_true rfl)) dX4_waiting_2 ⟨Nat.le_of_ble_eq_true rfl, Nat.le_of_ble_eq_true rfl⟩) hS (fun q _ h => h) (fun q h => h) (fun q _ h => h) (fun E ce q9 u t H locs ht hvm hw hB hz1 hk1 hS hce hcv hcl => ?_) (fun w_1 t H locs ht hvm hw hP hz1 hk1 hS => ?_)
  · exact vx_out (E := E) (fun x hx => (hEx x hx).elim) hlocks hce hcv hcl (fun t9 ht9 ha9 => ⟨u, hw, ⟨hB.1, by show PA D ca ad u.2 t9.heap; rw [ht9, ← ht]; exact hB.2⟩, hS.F ht9⟩) hS.2.2 (Nat.le_of_ble_eq_true rfl) (Nat.le_of_ble_eq_true rfl)
  have hP : PA D ca ad w_1 H := by rw [← ht]; exact hP
  refine lv_aload_n hx hb dX4_waiting_5 rfl (lv_at hl 0 rfl) ?_
  refine va_get (D := D) (ci := 6) (v := .ref (ad 13)) (C := RX4) (T := TX4) (N := 6) hx hb hts in_X4 hown hK hP 0 (wg0 ca ad w_1) rfl 2 (by decide) lk_26 (fun _ h9 => h9) rfl dX4_waiting_6 ?_
  refine va_get (D := D) (ci := 3) (v := .ref (ad 18)) (C := RX1) (T := TX1) (N := 6) hx hb hts in_X1 hown hK hP 13 (wg13 ca ad w_1) rfl 4 (by decide) lk_151 (fun _ h9 => h9) rfl dX4_waiting_9 ?_
  refine lv_iload_n hx hb dX4_waiting_12 rfl (lv_at hl 1 rfl) ?_
  obtain ⟨h_2, hw⟩ := hw
  refine va_iald hx hb hK hP 18 0 (wg18 ca ad w_1) rfl h_2 dX4_waiting_13 ?_
  refine vx_ret ?_
  exact W.iret (v := (w_1.1 18 (a0).toNatClampNeg)) hx hb hr (fun t ht hW => ⟨⟨(w_1.1 18 (a0).toNatClampNeg), w_1, rfl, hw, by show PA D ca ad w_1 t.heap; rw [ht]; exact hP⟩, hS.F ht⟩) hS.2.2 dX4_waiting_14
set_option maxHeartbeats 4000000 in
set_option maxRecDepth 100000 in
def wpX4_waitingAt_B22 (a0 : Int32) (a1 : Int32) (post : Int32 → St → Prop) (px : String → St → Prop) (w : St) : Prop := px "java/util/NoSuchElementException" w
set_option maxHeartbeats 4000000 in
set_option maxRecDepth 100000 in
def wpX4_waitingAt (a0 : Int32) (a1 : Int32) (w : St) (post : Int32 → St → Prop) (px : String → St → Prop) : Prop := wpX4_checkLock a0 w (fun w_1 => (a1 < 0 → (wpX4_waitingAt_B22 a0 a1 post px w_1)) ∧ (¬ (a1 < 0) → ((vp_in a0 4) ∧ ((a1 < (w_1.1 18 (a0).toNatClampNeg) → ((vp_in a0 4) ∧ (((a0).toNatClampNeg < 4) ∧ ((vp_in a1 6) ∧ (post (w_1.1 (20 + (a0).toNatClampNeg) (a1).toNatClampNeg) w_1))))) ∧ (¬ (a1 < (w_1.1 18 (a0).toNatClampNeg)) → (wpX4_waitingAt_B22 a0 a1 post px w_1)))))) px
set_option maxHeartbeats 4000000 in
set_option maxRecDepth 100000 in
theorem mX4_waitingAt (l : Launch) (D : va_G) (ca : Nat → ClassId) (ad : Nat → Nat) (base : Nat) (hAd : okA base ad) (w : St) (a0 : Int32) (a1 : Int32) (post : Int32 → St → Prop) (px : String → St → Prop) (hw : wpX4_waitingAt a0 a1 w post px) (hl9 : l.stackTraces = false) : vx_Met l yX4_waitingAt wsX4_waitingAt ({ frames := 7, cells := 2, slots := 12, locals := 111 } : Room) (va_Pc [.ref (ad 0), .int a0, .int a1] (BX D ca ad base w)) (va_Qi post (Bp D ca ad) (AB base)) (vx_X (fun q : String × St => px q.1 q.2) (Bx D ca ad) (AB base)) 2 12 (AB base) := by
  refine vx_ofW (cc := cX4_waitingAt) (maxL := 3) (ret := (some .int)) (by decide) rfl ?_
  intro p e s m args below meth c s₁ B hml hEx hv
  obtain ⟨rfl, ⟨hbs, hP, hK⟩, hXP⟩ := hv
  have hx := B.exec
  have hb := B.bytes
  have hr := B.returns
  have hts := atoms_spec (ws := wsX4_waitingAt) B.pre
  have hown : s.vm.findClass RX4 = some m.cls := findClass_of_methodNamed B.named
  have hlocks := B.notSynchronized
  have in_X1 : ∀ w ∈ wsX10, w ∈ wsX4_waitingAt := by decide +kernel
  have in_X4 : ∀ w ∈ wsX40, w ∈ wsX4_waitingAt := by decide +kernel
  have lk_26 := hts (.fieldLink RX4 26 "LockQuorum" "locks" "LLockQuorum$Locks;") (by decide +kernel)
  have lk_151 := hts (.fieldLink RX4 151 "LockQuorum$Locks" "queued" "[I") (by decide +kernel)
  have lk_205 := hts (.fieldLink RX4 205 "LockQuorum$Locks" "queue" "[[I") (by decide +kernel)
  have hS : va_S (AB base) s.heap s.heap [] := va_S.rf
  have hB22 : ∀ (w : St), wpX4_waitingAt_B22 a0 a1 post px w → ∀ (H : Heap) (locs : List Loc), PA D ca ad w H → va_S (AB base) s.heap H locs → ∀ ls : Array Slot, lv_has ls 3 [] → W p l e (headSpec wsX4_waitingAt ({ frames := 7, cells := 2, slots := 12, locals := 111 } : Room)).room s m ([Value.ref (ad 0), Value.int a0, Value.int a1].toArray) below meth c H locs 1 6 (vx_MQ below (va_Qi post (Bp D ca ad) (AB base)) (vx_X (fun q : String × St => px q.1 q.2) (Bx D ca ad) (AB base)) ([Value.ref (ad 0), Value.int a0, Value.int a1].toArray) s 2 12 (AB base)) (F0 m 22 ls []) := by
    intro w hw H locs hP hS ls hl
    obtain ⟨sa, hstr⟩ := hXP.2.2.2.1 (203, "no such index in the queue") (List.mem_of_getElem? (i := 11) rfl)
    exact nx_throwS (own := RX4) (cls := "java/util/NoSuchElementException") (names := ["java/lang/RuntimeException", "java/lang/Exception"]) hx hb hl9 hown (by decide +kernel) (by decide +kernel) (hts (.classLink RX4 85 "java/util/NoSuchElementException") (by decide +kernel)) (hts (.initialized "java/util/NoSuchElementException") (by decide +kernel)) hstr (vx_hat (L := nx_at RX4 89 "java/util/NoSuchElementException" ["java/lang/RuntimeException", "java/lang/Exception"]) (B := [.castable "java/util/NoSuchElementException" "java/util/NoSuchElementException", .declares ⟨"java/lang/RuntimeException", "<init>", "(Ljava/lang/String;)V"⟩, .declares ⟨"java/lang/Exception", "<init>", "(Ljava/lang/String;)V"⟩, .declares ⟨"java/lang/Throwable", "<init>", "(Ljava/lang/String;)V"⟩]) (fun w hw => hts w ((by decide +kernel : ∀ w ∈ (nx_at RX4 89 "java/util/NoSuchElementException" ["java/lang/RuntimeException", "java/lang/Exception"]).filter goodWord, w ∈ wsX4_waitingAt) w hw)) (by decide +kernel) (vx_c (va_Nw.use rfl (hXP.2.2.1 (.castable "java/util/NoSuchElementException" "java/util/NoSuchElementException") (List.mem_of_getElem? (i := 3) rfl))) (vx_c (va_Nw.use rfl (hXP.2.2.1 (.declares ⟨"java/lang/RuntimeException", "<init>", "(Ljava/lang/String;)V"⟩) (List.mem_of_getElem? (i := 6) rfl))) (vx_c (va_Nw.use rfl (hXP.2.2.1 (.declares ⟨"java/lang/Exception", "<init>", "(Ljava/lang/String;)V"⟩) (List.mem_of_getElem? (i := 7) rfl))) (vx_c (va_Nw.use rfl (hXP.2.2.1 (.declares ⟨"java/lang/Throwable", "<init>", "(Ljava/lang/String;)V"⟩) (List.mem_of_getElem? (i := 8) rfl))) (vx_n)))))) (by decide +kernel) hXP.1 hXP.2.1 hS (hl.1.trans hml.symm) dX4_waitingAt_22 dX4_waitingAt_25 dX4_waitingAt_26 dX4_waitingAt_28 dX4_waitingAt_31 (fun x hx => (hEx x hx).elim) (Nat.le_of_ble_eq_true rfl) (Nat.le_of_ble_eq_true rfl) (Nat.le_of_ble_eq_true rfl) (Nat.le_of_ble_eq_true rfl) hlocks (fun t ha hsz hk => ⟨("java/util/NoSuchElementException", w), hw, ⟨rfl, hP.kept (fun k q hq => hk q.1 (hP k q hq).lt)⟩, Nat.le_trans hS.1 hsz, fun q h1 h2 => (hk q (Nat.lt_of_lt_of_le h1 hS.1)).trans (hS.2.1 q h1 h2)⟩) hS.2.2 (Nat.le_of_ble_eq_true rfl) (Nat.le_of_ble_eq_true rfl)
  have hl := lv_entry ([.ref (ad 0), .int a0, .int a1]) (n := 3) (Nat.le_of_ble_eq_true rfl)
  rw [lg_entry_eq]
  generalize (lg_sl ([.ref (ad 0), .int a0, .int a1]) ++ List.replicate (3 - (lg_sl ([.ref (ad 0), .int a0, .int a1])).length) Slot.unset).toArray = ls at hl ⊢
  have hl : lv_has ls 3 [(0, .ref (ad 0)), (1, .int a0), (2, .int a1)] := hl
  refine lv_aload_n hx hb dX4_waitingAt_0 rfl (lv_at hl 0 rfl) ?_
  refine lv_iload_n hx hb dX4_waitingAt_1 rfl (lv_at hl 1 rfl) ?_
  refine vx_callv (vx_runV (As := [.int a0]) (rest := []) ⟨hx, hb, hml, hown, hts⟩ (mX4_checkLock l D ca ad base hAd w a0 _ _ hw hl9) (cwV 1 hts gX4_waitingAt_X4_checkLock rfl rfl rfl (by decide +kernel) ⟨Nat.le_of_ble_eq_true rfl, Nat.le_of_ble_eq_true rfl⟩) (pvx [.int a0] hK hXP hP hbs hS rfl (wg0 ca ad w)) rfl rfl hl.1 rfl (lv_room (Nat.le_of_ble_eq_true rfl)) dX4_waitingAt_2 ⟨Nat.le_of_ble_eq_true rfl, Nat.le_of_ble_eq_true rfl⟩) hS (fun q _ h => h) (fun q h => h) (fun q _ h => h) (fun E ce q9 u t H locs ht hvm hw hB hz1 hk1 hS hce hcv hcl => ?_) (fun w_1 t H locs ht hvm hw hP hz1 hk1 hS => ?_)
  · exact vx_out (E := E) (fun x hx => (hEx x hx).elim) hlocks hce hcv hcl (fun t9 ht9 ha9 => ⟨u, hw, ⟨hB.1, by show PA D ca ad u.2 t9.heap; rw [ht9, ← ht]; exact hB.2⟩, hS.F ht9⟩) hS.2.2 (Nat.le_of_ble_eq_true rfl) (Nat.le_of_ble_eq_true rfl)
  have hP : PA D ca ad w_1 H := by rw [← ht]; exact hP
  refine lv_iload_n hx hb dX4_waitingAt_5 rfl (lv_at hl 2 rfl) ?_
  refine lv_if_lt (tgt := 22) hx hb dX4_waitingAt_6 (by decide) (fun c_2 => ?_) (fun c_2 => ?_)
  · have hw := hw.1 c_2
    exact hB22 w_1 hw _ _ hP hS ls (lv_sub hl [] rfl)
  · have hw := hw.2 c_2
    refine lv_iload_n hx hb dX4_waitingAt_9 rfl (lv_at hl 2 rfl) ?_
    refine lv_aload_n hx hb dX4_waitingAt_10 rfl (lv_at hl 0 rfl) ?_
    refine va_get (D := D) (ci := 6) (v := .ref (ad 13)) (C := RX4) (T := TX4) (N := 6) hx hb hts in_X4 hown hK hP 0 (wg0 ca ad w_1) rfl 2 (by decide) lk_26 (fun _ h9 => h9) rfl dX4_waitingAt_11 ?_
    refine va_get (D := D) (ci := 3) (v := .ref (ad 18)) (C := RX1) (T := TX1) (N := 6) hx hb hts in_X1 hown hK hP 13 (wg13 ca ad w_1) rfl 4 (by decide) lk_151 (fun _ h9 => h9) rfl dX4_waitingAt_14 ?_
    refine lv_iload_n hx hb dX4_waitingAt_17 rfl (lv_at hl 1 rfl) ?_
    obtain ⟨h_3, hw⟩ := hw
    refine va_iald hx hb hK hP 18 0 (wg18 ca ad w_1) rfl h_3 dX4_waitingAt_18 ?_
    refine lv_icmp_lt (tgt := 32) hx hb dX4_waitingAt_19 (by decide) (fun c_4 => ?_) (fun c_4 => ?_)
    · have hw := hw.1 c_4
      refine lv_aload_n hx hb dX4_waitingAt_32 rfl (lv_at hl 0 rfl) ?_
      refine va_get (D := D) (ci := 6) (v := .ref (ad 13)) (C := RX4) (T := TX4) (N := 6) hx hb hts in_X4 hown hK hP 0 (wg0 ca ad w_1) rfl 2 (by decide) lk_26 (fun _ h9 => h9) rfl dX4_waitingAt_33 ?_
      refine va_get (D := D) (ci := 3) (v := .ref (ad 19)) (C := RX1) (T := TX1) (N := 6) hx hb hts in_X1 hown hK hP 13 (wg13 ca ad w_1) rfl 5 (by decide) lk_205 (fun _ h9 => h9) rfl dX4_waitingAt_36 ?_
      refine lv_iload_n hx hb dX4_waitingAt_39 rfl (lv_at hl 1 rfl) ?_
      obtain ⟨h_5, hw⟩ := hw
      refine va_ldq4 hx hb hK hP h_5 dX4_waitingAt_40 ?_
      refine lv_iload_n hx hb dX4_waitingAt_41 rfl (lv_at hl 2 rfl) ?_
      obtain ⟨q_7, h_6, hw⟩ := hw
      refine va_iald hx hb hK hP (20 + (a0).toNatClampNeg) 0 (wgq ca ad w_1 q_7) rfl h_6 dX4_waitingAt_42 ?_
      refine W.widen (k := 2) (n := 12) (Nat.le_of_ble_eq_true rfl) (Nat.le_of_ble_eq_true rfl) ?_
      refine vx_ret ?_
      exact W.iret (v := (w_1.1 (20 + (a0).toNatClampNeg) (a1).toNatClampNeg)) hx hb hr (fun t ht hW => ⟨⟨(w_1.1 (20 + (a0).toNatClampNeg) (a1).toNatClampNeg), w_1, rfl, hw, by show PA D ca ad w_1 t.heap; rw [ht]; exact hP⟩, hS.F ht⟩) hS.2.2 dX4_waitingAt_43
    · have hw := hw.2 c_4
      exact hB22 w_1 hw _ _ hP hS ls (lv_sub hl [] rfl)
set_option maxHeartbeats 4000000 in
set_option maxRecDepth 100000 in
def wpX4_claims (a0 : Int32) (a1 : Int32) (w : St) (post : Int32 → St → Prop) (px : String → St → Prop) : Prop := wpX4_checkClient a0 w (fun w_1 => wpX4_checkLock a1 w_1 (fun w_2 => wpX0_hasClaim a0 a1 (w_2.1 64 0) w_2 (fun r_4 w_3 => (narrow .boolean (.int r_4) = .int r_4) ∧ post r_4 w_3)) px) px
set_option maxHeartbeats 4000000 in
set_option maxRecDepth 100000 in
theorem mX4_claims (l : Launch) (D : va_G) (ca : Nat → ClassId) (ad : Nat → Nat) (base : Nat) (hAd : okA base ad) (w : St) (a0 : Int32) (a1 : Int32) (post : Int32 → St → Prop) (px : String → St → Prop) (hw : wpX4_claims a0 a1 w post px) (hl9 : l.stackTraces = false) : vx_Met l yX4_claims wsX4_claims ({ frames := 7, cells := 2, slots := 12, locals := 111 } : Room) (va_Pc [.ref (ad 0), .int a0, .int a1] (BX D ca ad base w)) (va_Qi post (Bp D ca ad) (AB base)) (vx_X (fun q : String × St => px q.1 q.2) (Bx D ca ad) (AB base)) 2 12 (AB base) := by
  refine vx_ofW (cc := cX4_claims) (maxL := 3) (ret := (some .boolean)) (by decide) rfl ?_
  intro p e s m args below meth c s₁ B hml hEx hv
  obtain ⟨rfl, ⟨hbs, hP, hK⟩, hXP⟩ := hv
  have hx := B.exec
  have hb := B.bytes
  have hr := B.returns
  have hts := atoms_spec (ws := wsX4_claims) B.pre
  have hown : s.vm.findClass RX4 = some m.cls := findClass_of_methodNamed B.named
  have hlocks := B.notSynchronized
  have in_X4 : ∀ w ∈ wsX40, w ∈ wsX4_claims := by decide +kernel
  have lk_33 := hts (.fieldLink RX4 33 "LockQuorum" "clients" "LLockQuorum$Clients;") (by decide +kernel)
  have lk_44 := hts (.fieldLink RX4 44 "LockQuorum" "now" "I") (by decide +kernel)
  have hS : va_S (AB base) s.heap s.heap [] := va_S.rf
  have hl := lv_entry ([.ref (ad 0), .int a0, .int a1]) (n := 3) (Nat.le_of_ble_eq_true rfl)
  rw [lg_entry_eq]
  generalize (lg_sl ([.ref (ad 0), .int a0, .int a1]) ++ List.replicate (3 - (lg_sl ([.ref (ad 0), .int a0, .int a1])).length) Slot.unset).toArray = ls at hl ⊢
  have hl : lv_has ls 3 [(0, .ref (ad 0)), (1, .int a0), (2, .int a1)] := hl
  refine lv_aload_n hx hb dX4_claims_0 rfl (lv_at hl 0 rfl) ?_
  refine lv_iload_n hx hb dX4_claims_1 rfl (lv_at hl 1 rfl) ?_
  refine vx_callv (vx_runV (As := [.int a0]) (rest := []) ⟨hx, hb, hml, hown, hts⟩ (mX4_checkClient l D ca ad base hAd w a0 _ _ hw hl9) (cwV 1 hts gX4_claims_X4_checkClient rfl rfl rfl (by decide +kernel) ⟨Nat.le_of_ble_eq_true rfl, Nat.le_of_ble_eq_true rfl⟩) (pvx [.int a0] hK hXP hP hbs hS rfl (wg0 ca ad w)) rfl rfl hl.1 rfl (lv_room (Nat.le_of_ble_eq_true rfl)) dX4_claims_2 ⟨Nat.le_of_ble_eq_true rfl, Nat.le_of_ble_eq_true rfl⟩) hS (fun q _ h => h) (fun q h => h) (fun q _ h => h) (fun E ce q9 u t H locs ht hvm hw hB hz1 hk1 hS hce hcv hcl => ?_) (fun w_1 t H locs ht hvm hw hP hz1 hk1 hS => ?_)
  · exact vx_out (E := E) (fun x hx => (hEx x hx).elim) hlocks hce hcv hcl (fun t9 ht9 ha9 => ⟨u, hw, ⟨hB.1, by show PA D ca ad u.2 t9.heap; rw [ht9, ← ht]; exact hB.2⟩, hS.F ht9⟩) hS.2.2 (Nat.le_of_ble_eq_true rfl) (Nat.le_of_ble_eq_true rfl)
  have hP : PA D ca ad w_1 H := by rw [← ht]; exact hP
  refine lv_aload_n hx hb dX4_claims_5 rfl (lv_at hl 0 rfl) ?_
  refine lv_iload_n hx hb dX4_claims_6 rfl (lv_at hl 2 rfl) ?_
  refine vx_callv (vx_runV (As := [.int a1]) (rest := []) ⟨hx, hb, hml, hown, hts⟩ (mX4_checkLock l D ca ad base hAd w_1 a1 _ _ hw hl9) (cwV 1 hts gX4_claims_X4_checkLock rfl rfl rfl (by decide +kernel) ⟨Nat.le_of_ble_eq_true rfl, Nat.le_of_ble_eq_true rfl⟩) (pvx [.int a1] hK hXP hP hbs hS rfl (wg0 ca ad w_1)) rfl rfl hl.1 rfl (lv_room (Nat.le_of_ble_eq_true rfl)) dX4_claims_7 ⟨Nat.le_of_ble_eq_true rfl, Nat.le_of_ble_eq_true rfl⟩) hS (fun q _ h => h) (fun q h => h) (fun q _ h => h) (fun E ce q9 u t H locs ht hvm hw hB hz1 hk1 hS hce hcv hcl => ?_) (fun w_2 t H locs ht hvm hw hP hz1 hk1 hS => ?_)
  · exact vx_out (E := E) (fun x hx => (hEx x hx).elim) hlocks hce hcv hcl (fun t9 ht9 ha9 => ⟨u, hw, ⟨hB.1, by show PA D ca ad u.2 t9.heap; rw [ht9, ← ht]; exact hB.2⟩, hS.F ht9⟩) hS.2.2 (Nat.le_of_ble_eq_true rfl) (Nat.le_of_ble_eq_true rfl)
  have hP : PA D ca ad w_2 H := by rw [← ht]; exact hP
  refine lv_aload_n hx hb dX4_claims_10 rfl (lv_at hl 0 rfl) ?_
  refine va_get (D := D) (ci := 6) (v := .ref (ad 24)) (C := RX4) (T := TX4) (N := 6) hx hb hts in_X4 hown hK hP 0 (wg0 ca ad w_2) rfl 3 (by decide) lk_33 (fun _ h9 => h9) rfl dX4_claims_11 ?_
  refine lv_iload_n hx hb dX4_claims_14 rfl (lv_at hl 1 rfl) ?_
  refine lv_iload_n hx hb dX4_claims_15 rfl (lv_at hl 2 rfl) ?_
  refine lv_aload_n hx hb dX4_claims_16 rfl (lv_at hl 0 rfl) ?_
  refine va_get (D := D) (ci := 6) (v := .int (w_2.1 64 0)) (C := RX4) (T := TX4) (N := 6) hx hb hts in_X4 hown hK hP 0 (wg0 ca ad w_2) rfl 4 (by decide) lk_44 (fun _ h9 => h9) rfl dX4_claims_17 ?_
  refine va_calli (va_runV (As := [.int a0, .int a1, .int (w_2.1 64 0)]) (rest := []) ⟨hx, hb, hml, hown, hts⟩ (mX0_hasClaim l D ca ad base hAd w_2 a0 a1 (w_2.1 64 0) _ hw) (cwV 3 hts gX4_claims_X0_hasClaim rfl rfl rfl (by decide +kernel) ⟨Nat.le_of_ble_eq_true rfl, Nat.le_of_ble_eq_true rfl⟩) (pv [.int a0, .int a1, .int (w_2.1 64 0)] hK hP hbs hS rfl (wg24 ca ad w_2)) rfl rfl hl.1 rfl (lv_room (Nat.le_of_ble_eq_true rfl)) dX4_claims_20 ⟨Nat.le_of_ble_eq_true rfl, Nat.le_of_ble_eq_true rfl⟩) hS (fun q _ h => h) (fun q h => h) (fun r_4 w_3 t H locs ht hvm hw hP hz1 hk1 hS => ?_)
  have hP : PA D ca ad w_3 H := by rw [← ht]; exact hP
  refine vx_ret ?_
  obtain ⟨hn9, hw⟩ := hw
  exact W.zret (v := r_4) hx hb hr hn9 (fun t ht hW => ⟨⟨r_4, w_3, rfl, hw, by show PA D ca ad w_3 t.heap; rw [ht]; exact hP⟩, hS.F ht⟩) hS.2.2 dX4_claims_23
set_option maxHeartbeats 4000000 in
set_option maxRecDepth 100000 in
def wpX4_claimants (a0 : Int32) (w : St) (post : Int32 → St → Prop) (px : String → St → Prop) : Prop := wpX4_checkLock a0 w (fun w_1 => wpX0_countClaims a0 (w_1.1 64 0) w_1 (fun r_3 w_2 => post r_3 w_2)) px
set_option maxHeartbeats 4000000 in
set_option maxRecDepth 100000 in
theorem mX4_claimants (l : Launch) (D : va_G) (ca : Nat → ClassId) (ad : Nat → Nat) (base : Nat) (hAd : okA base ad) (w : St) (a0 : Int32) (post : Int32 → St → Prop) (px : String → St → Prop) (hw : wpX4_claimants a0 w post px) (hl9 : l.stackTraces = false) : vx_Met l yX4_claimants wsX4_claimants ({ frames := 7, cells := 1, slots := 6, locals := 111 } : Room) (va_Pc [.ref (ad 0), .int a0] (BX D ca ad base w)) (va_Qi post (Bp D ca ad) (AB base)) (vx_X (fun q : String × St => px q.1 q.2) (Bx D ca ad) (AB base)) 1 6 (AB base) := by
  refine vx_ofW (cc := cX4_claimants) (maxL := 2) (ret := (some .int)) (by decide) rfl ?_
  intro p e s m args below meth c s₁ B hml hEx hv
  obtain ⟨rfl, ⟨hbs, hP, hK⟩, hXP⟩ := hv
  have hx := B.exec
  have hb := B.bytes
  have hr := B.returns
  have hts := atoms_spec (ws := wsX4_claimants) B.pre
  have hown : s.vm.findClass RX4 = some m.cls := findClass_of_methodNamed B.named
  have hlocks := B.notSynchronized
  have in_X4 : ∀ w ∈ wsX40, w ∈ wsX4_claimants := by decide +kernel
  have lk_33 := hts (.fieldLink RX4 33 "LockQuorum" "clients" "LLockQuorum$Clients;") (by decide +kernel)
  have lk_44 := hts (.fieldLink RX4 44 "LockQuorum" "now" "I") (by decide +kernel)
  have hS : va_S (AB base) s.heap s.heap [] := va_S.rf
  have hl := lv_entry ([.ref (ad 0), .int a0]) (n := 2) (Nat.le_of_ble_eq_true rfl)
  rw [lg_entry_eq]
  generalize (lg_sl ([.ref (ad 0), .int a0]) ++ List.replicate (2 - (lg_sl ([.ref (ad 0), .int a0])).length) Slot.unset).toArray = ls at hl ⊢
  have hl : lv_has ls 2 [(0, .ref (ad 0)), (1, .int a0)] := hl
  refine lv_aload_n hx hb dX4_claimants_0 rfl (lv_at hl 0 rfl) ?_
  refine lv_iload_n hx hb dX4_claimants_1 rfl (lv_at hl 1 rfl) ?_
  refine vx_callv (vx_runV (As := [.int a0]) (rest := []) ⟨hx, hb, hml, hown, hts⟩ (mX4_checkLock l D ca ad base hAd w a0 _ _ hw hl9) (cwV 1 hts gX4_claimants_X4_checkLock rfl rfl rfl (by decide +kernel) ⟨Nat.le_of_ble_eq_true rfl, Nat.le_of_ble_eq_true rfl⟩) (pvx [.int a0] hK hXP hP hbs hS rfl (wg0 ca ad w)) rfl rfl hl.1 rfl (lv_room (Nat.le_of_ble_eq_true rfl)) dX4_claimants_2 ⟨Nat.le_of_ble_eq_true rfl, Nat.le_of_ble_eq_true rfl⟩) hS (fun q _ h => h) (fun q h => h) (fun q _ h => h) (fun E ce q9 u t H locs ht hvm hw hB hz1 hk1 hS hce hcv hcl => ?_) (fun w_1 t H locs ht hvm hw hP hz1 hk1 hS => ?_)
  · exact vx_out (E := E) (fun x hx => (hEx x hx).elim) hlocks hce hcv hcl (fun t9 ht9 ha9 => ⟨u, hw, ⟨hB.1, by show PA D ca ad u.2 t9.heap; rw [ht9, ← ht]; exact hB.2⟩, hS.F ht9⟩) hS.2.2 (Nat.le_of_ble_eq_true rfl) (Nat.le_of_ble_eq_true rfl)
  have hP : PA D ca ad w_1 H := by rw [← ht]; exact hP
  refine lv_aload_n hx hb dX4_claimants_5 rfl (lv_at hl 0 rfl) ?_
  refine va_get (D := D) (ci := 6) (v := .ref (ad 24)) (C := RX4) (T := TX4) (N := 6) hx hb hts in_X4 hown hK hP 0 (wg0 ca ad w_1) rfl 3 (by decide) lk_33 (fun _ h9 => h9) rfl dX4_claimants_6 ?_
  refine lv_iload_n hx hb dX4_claimants_9 rfl (lv_at hl 1 rfl) ?_
  refine lv_aload_n hx hb dX4_claimants_10 rfl (lv_at hl 0 rfl) ?_
  refine va_get (D := D) (ci := 6) (v := .int (w_1.1 64 0)) (C := RX4) (T := TX4) (N := 6) hx hb hts in_X4 hown hK hP 0 (wg0 ca ad w_1) rfl 4 (by decide) lk_44 (fun _ h9 => h9) rfl dX4_claimants_11 ?_
  refine va_calli (va_runV (As := [.int a0, .int (w_1.1 64 0)]) (rest := []) ⟨hx, hb, hml, hown, hts⟩ (mX0_countClaims l D ca ad base hAd w_1 a0 (w_1.1 64 0) _ hw) (cwV 2 hts gX4_claimants_X0_countClaims rfl rfl rfl (by decide +kernel) ⟨Nat.le_of_ble_eq_true rfl, Nat.le_of_ble_eq_true rfl⟩) (pv [.int a0, .int (w_1.1 64 0)] hK hP hbs hS rfl (wg24 ca ad w_1)) rfl rfl hl.1 rfl (lv_room (Nat.le_of_ble_eq_true rfl)) dX4_claimants_14 ⟨Nat.le_of_ble_eq_true rfl, Nat.le_of_ble_eq_true rfl⟩) hS (fun q _ h => h) (fun q h => h) (fun r_3 w_2 t H locs ht hvm hw hP hz1 hk1 hS => ?_)
  have hP : PA D ca ad w_2 H := by rw [← ht]; exact hP
  refine vx_ret ?_
  exact W.iret (v := r_3) hx hb hr (fun t ht hW => ⟨⟨r_3, w_2, rfl, hw, by show PA D ca ad w_2 t.heap; rw [ht]; exact hP⟩, hS.F ht⟩) hS.2.2 dX4_claimants_17
set_option maxHeartbeats 4000000 in
set_option maxRecDepth 100000 in
def wpX4_value (a0 : Int32) (w : St) (post : Int32 → St → Prop) (px : String → St → Prop) : Prop := wpX4_checkLock a0 w (fun w_1 => (vp_in a0 4) ∧ (post (w_1.1 17 (a0).toNatClampNeg) w_1)) px
set_option maxHeartbeats 4000000 in
set_option maxRecDepth 100000 in
theorem mX4_value (l : Launch) (D : va_G) (ca : Nat → ClassId) (ad : Nat → Nat) (base : Nat) (hAd : okA base ad) (w : St) (a0 : Int32) (post : Int32 → St → Prop) (px : String → St → Prop) (hw : wpX4_value a0 w post px) (hl9 : l.stackTraces = false) : vx_Met l yX4_value wsX4_value ({ frames := 7, cells := 1, slots := 6, locals := 111 } : Room) (va_Pc [.ref (ad 0), .int a0] (BX D ca ad base w)) (va_Qi post (Bp D ca ad) (AB base)) (vx_X (fun q : String × St => px q.1 q.2) (Bx D ca ad) (AB base)) 1 6 (AB base) := by
  refine vx_ofW (cc := cX4_value) (maxL := 2) (ret := (some .int)) (by decide) rfl ?_
  intro p e s m args below meth c s₁ B hml hEx hv
  obtain ⟨rfl, ⟨hbs, hP, hK⟩, hXP⟩ := hv
  have hx := B.exec
  have hb := B.bytes
  have hr := B.returns
  have hts := atoms_spec (ws := wsX4_value) B.pre
  have hown : s.vm.findClass RX4 = some m.cls := findClass_of_methodNamed B.named
  have hlocks := B.notSynchronized
  have in_X1 : ∀ w ∈ wsX10, w ∈ wsX4_value := by decide +kernel
  have in_X4 : ∀ w ∈ wsX40, w ∈ wsX4_value := by decide +kernel
  have lk_26 := hts (.fieldLink RX4 26 "LockQuorum" "locks" "LLockQuorum$Locks;") (by decide +kernel)
  have lk_164 := hts (.fieldLink RX4 164 "LockQuorum$Locks" "value" "[I") (by decide +kernel)
  have hS : va_S (AB base) s.heap s.heap [] := va_S.rf
  have hl := lv_entry ([.ref (ad 0), .int a0]) (n := 2) (Nat.le_of_ble_eq_true rfl)
  rw [lg_entry_eq]
  generalize (lg_sl ([.ref (ad 0), .int a0]) ++ List.replicate (2 - (lg_sl ([.ref (ad 0), .int a0])).length) Slot.unset).toArray = ls at hl ⊢
  have hl : lv_has ls 2 [(0, .ref (ad 0)), (1, .int a0)] := hl
  refine lv_aload_n hx hb dX4_value_0 rfl (lv_at hl 0 rfl) ?_
  refine lv_iload_n hx hb dX4_value_1 rfl (lv_at hl 1 rfl) ?_
  refine vx_callv (vx_runV (As := [.int a0]) (rest := []) ⟨hx, hb, hml, hown, hts⟩ (mX4_checkLock l D ca ad base hAd w a0 _ _ hw hl9) (cwV 1 hts gX4_value_X4_checkLock rfl rfl rfl (by decide +kernel) ⟨Nat.le_of_ble_eq_true rfl, Nat.le_of_ble_eq_true rfl⟩) (pvx [.int a0] hK hXP hP hbs hS rfl (wg0 ca ad w)) rfl rfl hl.1 rfl (lv_room (Nat.le_of_ble_eq_true rfl)) dX4_value_2 ⟨Nat.le_of_ble_eq_true rfl, Nat.le_of_ble_eq_true rfl⟩) hS (fun q _ h => h) (fun q h => h) (fun q _ h => h) (fun E ce q9 u t H locs ht hvm hw hB hz1 hk1 hS hce hcv hcl => ?_) (fun w_1 t H locs ht hvm hw hP hz1 hk1 hS => ?_)
  · exact vx_out (E := E) (fun x hx => (hEx x hx).elim) hlocks hce hcv hcl (fun t9 ht9 ha9 => ⟨u, hw, ⟨hB.1, by show PA D ca ad u.2 t9.heap; rw [ht9, ← ht]; exact hB.2⟩, hS.F ht9⟩) hS.2.2 (Nat.le_of_ble_eq_true rfl) (Nat.le_of_ble_eq_true rfl)
  have hP : PA D ca ad w_1 H := by rw [← ht]; exact hP
  refine lv_aload_n hx hb dX4_value_5 rfl (lv_at hl 0 rfl) ?_
  refine va_get (D := D) (ci := 6) (v := .ref (ad 13)) (C := RX4) (T := TX4) (N := 6) hx hb hts in_X4 hown hK hP 0 (wg0 ca ad w_1) rfl 2 (by decide) lk_26 (fun _ h9 => h9) rfl dX4_value_6 ?_
  refine va_get (D := D) (ci := 3) (v := .ref (ad 17)) (C := RX1) (T := TX1) (N := 6) hx hb hts in_X1 hown hK hP 13 (wg13 ca ad w_1) rfl 3 (by decide) lk_164 (fun _ h9 => h9) rfl dX4_value_9 ?_
  refine lv_iload_n hx hb dX4_value_12 rfl (lv_at hl 1 rfl) ?_
  obtain ⟨h_2, hw⟩ := hw
  refine va_iald hx hb hK hP 17 0 (wg17 ca ad w_1) rfl h_2 dX4_value_13 ?_
  refine vx_ret ?_
  exact W.iret (v := (w_1.1 17 (a0).toNatClampNeg)) hx hb hr (fun t ht hW => ⟨⟨(w_1.1 17 (a0).toNatClampNeg), w_1, rfl, hw, by show PA D ca ad w_1 t.heap; rw [ht]; exact hP⟩, hS.F ht⟩) hS.2.2 dX4_value_14
set_option maxHeartbeats 4000000 in
set_option maxRecDepth 100000 in
def wpX4_valueByLog (a0 : Int32) (w : St) (post : Int32 → St → Prop) (px : String → St → Prop) : Prop := wpX4_checkLock a0 w (fun w_1 => wpX2_lastValue a0 w_1 (fun r_3 w_2 => post r_3 w_2)) px
set_option maxHeartbeats 4000000 in
set_option maxRecDepth 100000 in
theorem mX4_valueByLog (l : Launch) (D : va_G) (ca : Nat → ClassId) (ad : Nat → Nat) (base : Nat) (hAd : okA base ad) (w : St) (a0 : Int32) (post : Int32 → St → Prop) (px : String → St → Prop) (hw : wpX4_valueByLog a0 w post px) (hl9 : l.stackTraces = false) : vx_Met l yX4_valueByLog wsX4_valueByLog ({ frames := 7, cells := 1, slots := 6, locals := 111 } : Room) (va_Pc [.ref (ad 0), .int a0] (BX D ca ad base w)) (va_Qi post (Bp D ca ad) (AB base)) (vx_X (fun q : String × St => px q.1 q.2) (Bx D ca ad) (AB base)) 1 6 (AB base) := by
  refine vx_ofW (cc := cX4_valueByLog) (maxL := 2) (ret := (some .int)) (by decide) rfl ?_
  intro p e s m args below meth c s₁ B hml hEx hv
  obtain ⟨rfl, ⟨hbs, hP, hK⟩, hXP⟩ := hv
  have hx := B.exec
  have hb := B.bytes
  have hr := B.returns
  have hts := atoms_spec (ws := wsX4_valueByLog) B.pre
  have hown : s.vm.findClass RX4 = some m.cls := findClass_of_methodNamed B.named
  have hlocks := B.notSynchronized
  have in_X4 : ∀ w ∈ wsX40, w ∈ wsX4_valueByLog := by decide +kernel
  have lk_19 := hts (.fieldLink RX4 19 "LockQuorum" "log" "LLockQuorum$Log;") (by decide +kernel)
  have hS : va_S (AB base) s.heap s.heap [] := va_S.rf
  have hl := lv_entry ([.ref (ad 0), .int a0]) (n := 2) (Nat.le_of_ble_eq_true rfl)
  rw [lg_entry_eq]
  generalize (lg_sl ([.ref (ad 0), .int a0]) ++ List.replicate (2 - (lg_sl ([.ref (ad 0), .int a0])).length) Slot.unset).toArray = ls at hl ⊢
  have hl : lv_has ls 2 [(0, .ref (ad 0)), (1, .int a0)] := hl
  refine lv_aload_n hx hb dX4_valueByLog_0 rfl (lv_at hl 0 rfl) ?_
  refine lv_iload_n hx hb dX4_valueByLog_1 rfl (lv_at hl 1 rfl) ?_
  refine vx_callv (vx_runV (As := [.int a0]) (rest := []) ⟨hx, hb, hml, hown, hts⟩ (mX4_checkLock l D ca ad base hAd w a0 _ _ hw hl9) (cwV 1 hts gX4_valueByLog_X4_checkLock rfl rfl rfl (by decide +kernel) ⟨Nat.le_of_ble_eq_true rfl, Nat.le_of_ble_eq_true rfl⟩) (pvx [.int a0] hK hXP hP hbs hS rfl (wg0 ca ad w)) rfl rfl hl.1 rfl (lv_room (Nat.le_of_ble_eq_true rfl)) dX4_valueByLog_2 ⟨Nat.le_of_ble_eq_true rfl, Nat.le_of_ble_eq_true rfl⟩) hS (fun q _ h => h) (fun q h => h) (fun q _ h => h) (fun E ce q9 u t H locs ht hvm hw hB hz1 hk1 hS hce hcv hcl => ?_) (fun w_1 t H locs ht hvm hw hP hz1 hk1 hS => ?_)
  · exact vx_out (E := E) (fun x hx => (hEx x hx).elim) hlocks hce hcv hcl (fun t9 ht9 ha9 => ⟨u, hw, ⟨hB.1, by show PA D ca ad u.2 t9.heap; rw [ht9, ← ht]; exact hB.2⟩, hS.F ht9⟩) hS.2.2 (Nat.le_of_ble_eq_true rfl) (Nat.le_of_ble_eq_true rfl)
  have hP : PA D ca ad w_1 H := by rw [← ht]; exact hP
  refine lv_aload_n hx hb dX4_valueByLog_5 rfl (lv_at hl 0 rfl) ?_
  refine va_get (D := D) (ci := 6) (v := .ref (ad 7)) (C := RX4) (T := TX4) (N := 6) hx hb hts in_X4 hown hK hP 0 (wg0 ca ad w_1) rfl 1 (by decide) lk_19 (fun _ h9 => h9) rfl dX4_valueByLog_6 ?_
  refine lv_iload_n hx hb dX4_valueByLog_9 rfl (lv_at hl 1 rfl) ?_
  refine va_calli (va_runV (As := [.int a0]) (rest := []) ⟨hx, hb, hml, hown, hts⟩ (mX2_lastValue l D ca ad base hAd w_1 a0 _ hw) (cwV 1 hts gX4_valueByLog_X2_lastValue rfl rfl rfl (by decide +kernel) ⟨Nat.le_of_ble_eq_true rfl, Nat.le_of_ble_eq_true rfl⟩) (pv [.int a0] hK hP hbs hS rfl (wg7 ca ad w_1)) rfl rfl hl.1 rfl (lv_room (Nat.le_of_ble_eq_true rfl)) dX4_valueByLog_10 ⟨Nat.le_of_ble_eq_true rfl, Nat.le_of_ble_eq_true rfl⟩) hS (fun q _ h => h) (fun q h => h) (fun r_3 w_2 t H locs ht hvm hw hP hz1 hk1 hS => ?_)
  have hP : PA D ca ad w_2 H := by rw [← ht]; exact hP
  refine vx_ret ?_
  exact W.iret (v := r_3) hx hb hr (fun t ht hW => ⟨⟨r_3, w_2, rfl, hw, by show PA D ca ad w_2 t.heap; rw [ht]; exact hP⟩, hS.F ht⟩) hS.2.2 dX4_valueByLog_13
set_option maxHeartbeats 4000000 in
set_option maxRecDepth 100000 in
def wpX4_kept (a0 : Int32) (a1 : Int32) (w : St) (post : Int32 → St → Prop) (px : String → St → Prop) : Prop := wpX4_checkClient a0 w (fun w_1 => wpX4_checkLock a1 w_1 (fun w_2 => wpX0_hasValue a0 a1 (w_2.1 64 0) w_2 (fun r_4 w_3 => (r_4 = 0 → (px "java/lang/IllegalStateException" w_3)) ∧ (¬ (r_4 = 0) → (wpX0_slot a0 a1 w_3 (fun r_7 w_6 => (vp_in r_7 24) ∧ (post (w_6.1 27 (r_7).toNatClampNeg) w_6)))))) px) px
set_option maxHeartbeats 4000000 in
set_option maxRecDepth 100000 in
theorem mX4_kept (l : Launch) (D : va_G) (ca : Nat → ClassId) (ad : Nat → Nat) (base : Nat) (hAd : okA base ad) (w : St) (a0 : Int32) (a1 : Int32) (post : Int32 → St → Prop) (px : String → St → Prop) (hw : wpX4_kept a0 a1 w post px) (hl9 : l.stackTraces = false) : vx_Met l yX4_kept wsX4_kept ({ frames := 7, cells := 3, slots := 18, locals := 111 } : Room) (va_Pc [.ref (ad 0), .int a0, .int a1] (BX D ca ad base w)) (va_Qi post (Bp D ca ad) (AB base)) (vx_X (fun q : String × St => px q.1 q.2) (Bx D ca ad) (AB base)) 3 18 (AB base) := by
  refine vx_ofW (cc := cX4_kept) (maxL := 3) (ret := (some .int)) (by decide) rfl ?_
  intro p e s m args below meth c s₁ B hml hEx hv
  obtain ⟨rfl, ⟨hbs, hP, hK⟩, hXP⟩ := hv
  have hx := B.exec
  have hb := B.bytes
  have hr := B.returns
  have hts := atoms_spec (ws := wsX4_kept) B.pre
  have hown : s.vm.findClass RX4 = some m.cls := findClass_of_methodNamed B.named
  have hlocks := B.notSynchronized
  have in_X0 : ∀ w ∈ wsX00, w ∈ wsX4_kept := by decide +kernel
  have in_X4 : ∀ w ∈ wsX40, w ∈ wsX4_kept := by decide +kernel
  have lk_33 := hts (.fieldLink RX4 33 "LockQuorum" "clients" "LLockQuorum$Clients;") (by decide +kernel)
  have lk_44 := hts (.fieldLink RX4 44 "LockQuorum" "now" "I") (by decide +kernel)
  have lk_220 := hts (.fieldLink RX4 220 "LockQuorum$Clients" "keptValue" "[I") (by decide +kernel)
  have hS : va_S (AB base) s.heap s.heap [] := va_S.rf
  have hl := lv_entry ([.ref (ad 0), .int a0, .int a1]) (n := 3) (Nat.le_of_ble_eq_true rfl)
  rw [lg_entry_eq]
  generalize (lg_sl ([.ref (ad 0), .int a0, .int a1]) ++ List.replicate (3 - (lg_sl ([.ref (ad 0), .int a0, .int a1])).length) Slot.unset).toArray = ls at hl ⊢
  have hl : lv_has ls 3 [(0, .ref (ad 0)), (1, .int a0), (2, .int a1)] := hl
  refine lv_aload_n hx hb dX4_kept_0 rfl (lv_at hl 0 rfl) ?_
  refine lv_iload_n hx hb dX4_kept_1 rfl (lv_at hl 1 rfl) ?_
  refine vx_callv (vx_runV (As := [.int a0]) (rest := []) ⟨hx, hb, hml, hown, hts⟩ (mX4_checkClient l D ca ad base hAd w a0 _ _ hw hl9) (cwV 1 hts gX4_kept_X4_checkClient rfl rfl rfl (by decide +kernel) ⟨Nat.le_of_ble_eq_true rfl, Nat.le_of_ble_eq_true rfl⟩) (pvx [.int a0] hK hXP hP hbs hS rfl (wg0 ca ad w)) rfl rfl hl.1 rfl (lv_room (Nat.le_of_ble_eq_true rfl)) dX4_kept_2 ⟨Nat.le_of_ble_eq_true rfl, Nat.le_of_ble_eq_true rfl⟩) hS (fun q _ h => h) (fun q h => h) (fun q _ h => h) (fun E ce q9 u t H locs ht hvm hw hB hz1 hk1 hS hce hcv hcl => ?_) (fun w_1 t H locs ht hvm hw hP hz1 hk1 hS => ?_)
  · exact vx_out (E := E) (fun x hx => (hEx x hx).elim) hlocks hce hcv hcl (fun t9 ht9 ha9 => ⟨u, hw, ⟨hB.1, by show PA D ca ad u.2 t9.heap; rw [ht9, ← ht]; exact hB.2⟩, hS.F ht9⟩) hS.2.2 (Nat.le_of_ble_eq_true rfl) (Nat.le_of_ble_eq_true rfl)
  have hP : PA D ca ad w_1 H := by rw [← ht]; exact hP
  refine lv_aload_n hx hb dX4_kept_5 rfl (lv_at hl 0 rfl) ?_
  refine lv_iload_n hx hb dX4_kept_6 rfl (lv_at hl 2 rfl) ?_
  refine vx_callv (vx_runV (As := [.int a1]) (rest := []) ⟨hx, hb, hml, hown, hts⟩ (mX4_checkLock l D ca ad base hAd w_1 a1 _ _ hw hl9) (cwV 1 hts gX4_kept_X4_checkLock rfl rfl rfl (by decide +kernel) ⟨Nat.le_of_ble_eq_true rfl, Nat.le_of_ble_eq_true rfl⟩) (pvx [.int a1] hK hXP hP hbs hS rfl (wg0 ca ad w_1)) rfl rfl hl.1 rfl (lv_room (Nat.le_of_ble_eq_true rfl)) dX4_kept_7 ⟨Nat.le_of_ble_eq_true rfl, Nat.le_of_ble_eq_true rfl⟩) hS (fun q _ h => h) (fun q h => h) (fun q _ h => h) (fun E ce q9 u t H locs ht hvm hw hB hz1 hk1 hS hce hcv hcl => ?_) (fun w_2 t H locs ht hvm hw hP hz1 hk1 hS => ?_)
  · exact vx_out (E := E) (fun x hx => (hEx x hx).elim) hlocks hce hcv hcl (fun t9 ht9 ha9 => ⟨u, hw, ⟨hB.1, by show PA D ca ad u.2 t9.heap; rw [ht9, ← ht]; exact hB.2⟩, hS.F ht9⟩) hS.2.2 (Nat.le_of_ble_eq_true rfl) (Nat.le_of_ble_eq_true rfl)
  have hP : PA D ca ad w_2 H := by rw [← ht]; exact hP
  refine lv_aload_n hx hb dX4_kept_10 rfl (lv_at hl 0 rfl) ?_
  refine va_get (D := D) (ci := 6) (v := .ref (ad 24)) (C := RX4) (T := TX4) (N := 6) hx hb hts in_X4 hown hK hP 0 (wg0 ca ad w_2) rfl 3 (by decide) lk_33 (fun _ h9 => h9) rfl dX4_kept_11 ?_
  refine lv_iload_n hx hb dX4_kept_14 rfl (lv_at hl 1 rfl) ?_
  refine lv_iload_n hx hb dX4_kept_15 rfl (lv_at hl 2 rfl) ?_
  refine lv_aload_n hx hb dX4_kept_16 rfl (lv_at hl 0 rfl) ?_
  refine va_get (D := D) (ci := 6) (v := .int (w_2.1 64 0)) (C := RX4) (T := TX4) (N := 6) hx hb hts in_X4 hown hK hP 0 (wg0 ca ad w_2) rfl 4 (by decide) lk_44 (fun _ h9 => h9) rfl dX4_kept_17 ?_
  refine va_calli (va_runV (As := [.int a0, .int a1, .int (w_2.1 64 0)]) (rest := []) ⟨hx, hb, hml, hown, hts⟩ (mX0_hasValue l D ca ad base hAd w_2 a0 a1 (w_2.1 64 0) _ hw) (cwV 3 hts gX4_kept_X0_hasValue rfl rfl rfl (by decide +kernel) ⟨Nat.le_of_ble_eq_true rfl, Nat.le_of_ble_eq_true rfl⟩) (pv [.int a0, .int a1, .int (w_2.1 64 0)] hK hP hbs hS rfl (wg24 ca ad w_2)) rfl rfl hl.1 rfl (lv_room (Nat.le_of_ble_eq_true rfl)) dX4_kept_20 ⟨Nat.le_of_ble_eq_true rfl, Nat.le_of_ble_eq_true rfl⟩) hS (fun q _ h => h) (fun q h => h) (fun r_4 w_3 t H locs ht hvm hw hP hz1 hk1 hS => ?_)
  have hP : PA D ca ad w_3 H := by rw [← ht]; exact hP
  refine lv_if_ne (tgt := 36) hx hb dX4_kept_23 (by decide) (fun c_5 => ?_) (fun c_5 => ?_)
  · have hw := hw.2 c_5
    refine lv_aload_n hx hb dX4_kept_36 rfl (lv_at hl 0 rfl) ?_
    refine va_get (D := D) (ci := 6) (v := .ref (ad 24)) (C := RX4) (T := TX4) (N := 6) hx hb hts in_X4 hown hK hP 0 (wg0 ca ad w_3) rfl 3 (by decide) lk_33 (fun _ h9 => h9) rfl dX4_kept_37 ?_
    refine va_get (D := D) (ci := 2) (v := .ref (ad 27)) (C := RX0) (T := TX0) (N := 9) hx hb hts in_X0 hown hK hP 24 (wg24 ca ad w_3) rfl 3 (by decide) lk_220 (fun _ h9 => h9) rfl dX4_kept_40 ?_
    refine lv_iload_n hx hb dX4_kept_43 rfl (lv_at hl 1 rfl) ?_
    refine lv_iload_n hx hb dX4_kept_44 rfl (lv_at hl 2 rfl) ?_
    refine va_calli (va_runS (As := [.int a0, .int a1]) (rest := [.ref (ad 27)]) ⟨hx, hb, hml, hown, hts⟩ (mX0_slot l D ca ad base hAd w_3 a0 a1 _ hw) (va_cwS 2 hts gX4_kept_X0_slot rfl rfl rfl (by decide +kernel) ⟨Nat.le_of_ble_eq_true rfl, Nat.le_of_ble_eq_true rfl⟩) (ps [.int a0, .int a1] hK hP hbs hS) rfl rfl hl.1 rfl (lv_room (Nat.le_of_ble_eq_true rfl)) dX4_kept_45 ⟨Nat.le_of_ble_eq_true rfl, Nat.le_of_ble_eq_true rfl⟩) hS (fun q _ h => h) (fun q h => h) (fun r_7 w_6 t H locs ht hvm hw hP hz1 hk1 hS => ?_)
    have hP : PA D ca ad w_6 H := by rw [← ht]; exact hP
    obtain ⟨h_8, hw⟩ := hw
    refine va_iald hx hb hK hP 27 0 (wg27 ca ad w_6) rfl h_8 dX4_kept_48 ?_
    refine W.widen (k := 3) (n := 18) (Nat.le_of_ble_eq_true rfl) (Nat.le_of_ble_eq_true rfl) ?_
    refine vx_ret ?_
    exact W.iret (v := (w_6.1 27 (r_7).toNatClampNeg)) hx hb hr (fun t ht hW => ⟨⟨(w_6.1 27 (r_7).toNatClampNeg), w_6, rfl, hw, by show PA D ca ad w_6 t.heap; rw [ht]; exact hP⟩, hS.F ht⟩) hS.2.2 dX4_kept_49
  · have hw := hw.1 c_5
    obtain ⟨sa, hstr⟩ := hXP.2.2.2.1 (218, "the client has no kept value now") (List.mem_of_getElem? (i := 12) rfl)
    exact vx_throwS (own := RX4) (cls := "java/lang/IllegalStateException") (names := ["java/lang/RuntimeException", "java/lang/Exception"]) hx hb hl9 hown (by decide +kernel) (by decide +kernel) (hts (.classLink RX4 66 "java/lang/IllegalStateException") (by decide +kernel)) (hts (.initialized "java/lang/IllegalStateException") (by decide +kernel)) hstr (vx_hat (L := vx_atS RX4 70 "java/lang/IllegalStateException" ["java/lang/RuntimeException", "java/lang/Exception"]) (B := [.castable "java/lang/IllegalStateException" "java/lang/IllegalStateException", .declares ⟨"java/lang/RuntimeException", "<init>", "(Ljava/lang/String;)V"⟩, .declares ⟨"java/lang/Exception", "<init>", "(Ljava/lang/String;)V"⟩, .declares ⟨"java/lang/Throwable", "<init>", "(Ljava/lang/String;)V"⟩]) (fun w hw => hts w ((by decide +kernel : ∀ w ∈ (vx_atS RX4 70 "java/lang/IllegalStateException" ["java/lang/RuntimeException", "java/lang/Exception"]).filter goodWord, w ∈ wsX4_kept) w hw)) (by decide +kernel) (vx_c (va_Nw.use rfl (hXP.2.2.1 (.castable "java/lang/IllegalStateException" "java/lang/IllegalStateException") (List.mem_of_getElem? (i := 2) rfl))) (vx_c (va_Nw.use rfl (hXP.2.2.1 (.declares ⟨"java/lang/RuntimeException", "<init>", "(Ljava/lang/String;)V"⟩) (List.mem_of_getElem? (i := 6) rfl))) (vx_c (va_Nw.use rfl (hXP.2.2.1 (.declares ⟨"java/lang/Exception", "<init>", "(Ljava/lang/String;)V"⟩) (List.mem_of_getElem? (i := 7) rfl))) (vx_c (va_Nw.use rfl (hXP.2.2.1 (.declares ⟨"java/lang/Throwable", "<init>", "(Ljava/lang/String;)V"⟩) (List.mem_of_getElem? (i := 8) rfl))) (vx_n)))))) (by decide +kernel) hXP.1 hXP.2.1 hS (hl.1.trans hml.symm) dX4_kept_26 dX4_kept_29 dX4_kept_30 dX4_kept_32 dX4_kept_35 (fun x hx => (hEx x hx).elim) (Nat.le_of_ble_eq_true rfl) (Nat.le_of_ble_eq_true rfl) (Nat.le_of_ble_eq_true rfl) (Nat.le_of_ble_eq_true rfl) hlocks (fun t ha hsz hk => ⟨("java/lang/IllegalStateException", w_3), hw, ⟨rfl, hP.kept (fun k q hq => hk q.1 (hP k q hq).lt)⟩, Nat.le_trans hS.1 hsz, fun q h1 h2 => (hk q (Nat.lt_of_lt_of_le h1 hS.1)).trans (hS.2.1 q h1 h2)⟩) hS.2.2 (Nat.le_of_ble_eq_true rfl) (Nat.le_of_ble_eq_true rfl)
set_option maxHeartbeats 4000000 in
set_option maxRecDepth 100000 in
def wpX4_entries (w : St) (post : Int32 → St → Prop) : Prop := post (w.1 65 0) w
set_option maxHeartbeats 4000000 in
set_option maxRecDepth 100000 in
theorem mX4_entries (l : Launch) (D : va_G) (ca : Nat → ClassId) (ad : Nat → Nat) (base : Nat) (hAd : okA base ad) (w : St) (post : Int32 → St → Prop) (hw : wpX4_entries w post) : Met l yX4_entries wsX4_entries ({ frames := 0, cells := 0, slots := 0, locals := 0 } : Room) (va_Pc [.ref (ad 0)] (BU D ca ad base w)) (va_Qi post (Bp D ca ad) (AB base)) 0 0 (AB base) := by
  refine Met.ofW (cc := cX4_entries) (maxL := 1) (ret := (some .int)) (by decide) rfl ?_
  intro p e s m args below meth c s₁ B hml hv
  obtain ⟨rfl, hbs, hP, hK⟩ := hv
  have hx := B.exec
  have hb := B.bytes
  have hr := B.returns
  have hts := atoms_spec (ws := wsX4_entries) B.pre
  have hown : s.vm.findClass RX4 = some m.cls := findClass_of_methodNamed B.named
  have hlocks := B.notSynchronized
  have in_X2 : ∀ w ∈ wsX20, w ∈ wsX4_entries := by decide +kernel
  have in_X4 : ∀ w ∈ wsX40, w ∈ wsX4_entries := by decide +kernel
  have lk_19 := hts (.fieldLink RX4 19 "LockQuorum" "log" "LLockQuorum$Log;") (by decide +kernel)
  have lk_226 := hts (.fieldLink RX4 226 "LockQuorum$Log" "count" "I") (by decide +kernel)
  have hS : va_S (AB base) s.heap s.heap [] := va_S.rf
  have hl := lv_entry ([.ref (ad 0)]) (n := 1) (Nat.le_of_ble_eq_true rfl)
  rw [lg_entry_eq]
  generalize (lg_sl ([.ref (ad 0)]) ++ List.replicate (1 - (lg_sl ([.ref (ad 0)])).length) Slot.unset).toArray = ls at hl ⊢
  have hl : lv_has ls 1 [(0, .ref (ad 0))] := hl
  refine lv_aload_n hx hb dX4_entries_0 rfl (lv_at hl 0 rfl) ?_
  refine va_get (D := D) (ci := 6) (v := .ref (ad 7)) (C := RX4) (T := TX4) (N := 6) hx hb hts in_X4 hown hK hP 0 (wg0 ca ad w) rfl 1 (by decide) lk_19 (fun _ h9 => h9) rfl dX4_entries_1 ?_
  refine va_get (D := D) (ci := 4) (v := .int (w.1 65 0)) (C := RX2) (T := TX2) (N := 6) hx hb hts in_X2 hown hK hP 7 (wg7 ca ad w) rfl 0 (by decide) lk_226 (fun _ h9 => h9) rfl dX4_entries_4 ?_
  exact W.iret (v := (w.1 65 0)) hx hb hr (fun t ht hW => ⟨⟨(w.1 65 0), w, rfl, hw, by show PA D ca ad w t.heap; rw [ht]; exact hP⟩, hS.F ht⟩) hS.2.2 dX4_entries_7
set_option maxHeartbeats 4000000 in
set_option maxRecDepth 100000 in
def wpX4_checkEntry_B15 (a0 : Int32) (post : St → Prop) (px : String → St → Prop) (w : St) : Prop := px "java/util/NoSuchElementException" w
set_option maxHeartbeats 4000000 in
set_option maxRecDepth 100000 in
def wpX4_checkEntry (a0 : Int32) (w : St) (post : St → Prop) (px : String → St → Prop) : Prop := (a0 < 0 → (wpX4_checkEntry_B15 a0 post px w)) ∧ (¬ (a0 < 0) → ((a0 < (w.1 65 0) → (post w)) ∧ (¬ (a0 < (w.1 65 0)) → (wpX4_checkEntry_B15 a0 post px w))))
set_option maxHeartbeats 4000000 in
set_option maxRecDepth 100000 in
theorem mX4_checkEntry (l : Launch) (D : va_G) (ca : Nat → ClassId) (ad : Nat → Nat) (base : Nat) (hAd : okA base ad) (w : St) (a0 : Int32) (post : St → Prop) (px : String → St → Prop) (hw : wpX4_checkEntry a0 w post px) (hl9 : l.stackTraces = false) : vx_Met l yX4_checkEntry wsX4_checkEntry ({ frames := 6, cells := 1, slots := 6, locals := 90 } : Room) (va_Pc [.ref (ad 0), .int a0] (BX D ca ad base w)) (va_Qv post (Bp D ca ad) (AB base)) (vx_X (fun q : String × St => px q.1 q.2) (Bx D ca ad) (AB base)) 1 6 (AB base) := by
  refine vx_ofW (cc := cX4_checkEntry) (maxL := 2) (ret := none) (by decide) rfl ?_
  intro p e s m args below meth c s₁ B hml hEx hv
  obtain ⟨rfl, ⟨hbs, hP, hK⟩, hXP⟩ := hv
  have hx := B.exec
  have hb := B.bytes
  have hr := B.returns
  have hts := atoms_spec (ws := wsX4_checkEntry) B.pre
  have hown : s.vm.findClass RX4 = some m.cls := findClass_of_methodNamed B.named
  have hlocks := B.notSynchronized
  have in_X2 : ∀ w ∈ wsX20, w ∈ wsX4_checkEntry := by decide +kernel
  have in_X4 : ∀ w ∈ wsX40, w ∈ wsX4_checkEntry := by decide +kernel
  have lk_19 := hts (.fieldLink RX4 19 "LockQuorum" "log" "LLockQuorum$Log;") (by decide +kernel)
  have lk_226 := hts (.fieldLink RX4 226 "LockQuorum$Log" "count" "I") (by decide +kernel)
  have hS : va_S (AB base) s.heap s.heap [] := va_S.rf
  have hB15 : ∀ (w : St), wpX4_checkEntry_B15 a0 post px w → ∀ (H : Heap) (locs : List Loc), PA D ca ad w H → va_S (AB base) s.heap H locs → ∀ ls : Array Slot, lv_has ls 2 [] → W p l e (headSpec wsX4_checkEntry ({ frames := 6, cells := 1, slots := 6, locals := 90 } : Room)).room s m ([Value.ref (ad 0), Value.int a0].toArray) below meth c H locs 0 0 (vx_MQ below (va_Qv post (Bp D ca ad) (AB base)) (vx_X (fun q : String × St => px q.1 q.2) (Bx D ca ad) (AB base)) ([Value.ref (ad 0), Value.int a0].toArray) s 1 6 (AB base)) (F0 m 15 ls []) := by
    intro w hw H locs hP hS ls hl
    obtain ⟨sa, hstr⟩ := hXP.2.2.2.1 (277, "no such entry") (List.mem_of_getElem? (i := 17) rfl)
    exact nx_throwSW (own := RX4) (cls := "java/util/NoSuchElementException") (names := ["java/lang/RuntimeException", "java/lang/Exception"]) hx hb hl9 hown (by decide +kernel) (by decide +kernel) (hts (.classLink RX4 85 "java/util/NoSuchElementException") (by decide +kernel)) (hts (.initialized "java/util/NoSuchElementException") (by decide +kernel)) hstr (vx_hat (L := nx_at RX4 89 "java/util/NoSuchElementException" ["java/lang/RuntimeException", "java/lang/Exception"]) (B := [.castable "java/util/NoSuchElementException" "java/util/NoSuchElementException", .declares ⟨"java/lang/RuntimeException", "<init>", "(Ljava/lang/String;)V"⟩, .declares ⟨"java/lang/Exception", "<init>", "(Ljava/lang/String;)V"⟩, .declares ⟨"java/lang/Throwable", "<init>", "(Ljava/lang/String;)V"⟩]) (fun w hw => hts w ((by decide +kernel : ∀ w ∈ (nx_at RX4 89 "java/util/NoSuchElementException" ["java/lang/RuntimeException", "java/lang/Exception"]).filter goodWord, w ∈ wsX4_checkEntry) w hw)) (by decide +kernel) (vx_c (va_Nw.use rfl (hXP.2.2.1 (.castable "java/util/NoSuchElementException" "java/util/NoSuchElementException") (List.mem_of_getElem? (i := 3) rfl))) (vx_c (va_Nw.use rfl (hXP.2.2.1 (.declares ⟨"java/lang/RuntimeException", "<init>", "(Ljava/lang/String;)V"⟩) (List.mem_of_getElem? (i := 6) rfl))) (vx_c (va_Nw.use rfl (hXP.2.2.1 (.declares ⟨"java/lang/Exception", "<init>", "(Ljava/lang/String;)V"⟩) (List.mem_of_getElem? (i := 7) rfl))) (vx_c (va_Nw.use rfl (hXP.2.2.1 (.declares ⟨"java/lang/Throwable", "<init>", "(Ljava/lang/String;)V"⟩) (List.mem_of_getElem? (i := 8) rfl))) (vx_n)))))) (by decide +kernel) hXP.1 hXP.2.1 hS (hl.1.trans hml.symm) dX4_checkEntry_15 dX4_checkEntry_18 dX4_checkEntry_19 dX4_checkEntry_22 dX4_checkEntry_25 (fun x hx => (hEx x hx).elim) (Nat.le_of_ble_eq_true rfl) (Nat.le_of_ble_eq_true rfl) (Nat.le_of_ble_eq_true rfl) (Nat.le_of_ble_eq_true rfl) hlocks (fun t ha hsz hk => ⟨("java/util/NoSuchElementException", w), hw, ⟨rfl, hP.kept (fun k q hq => hk q.1 (hP k q hq).lt)⟩, Nat.le_trans hS.1 hsz, fun q h1 h2 => (hk q (Nat.lt_of_lt_of_le h1 hS.1)).trans (hS.2.1 q h1 h2)⟩) hS.2.2 (Nat.le_of_ble_eq_true rfl) (Nat.le_of_ble_eq_true rfl)
  have hl := lv_entry ([.ref (ad 0), .int a0]) (n := 2) (Nat.le_of_ble_eq_true rfl)
  rw [lg_entry_eq]
  generalize (lg_sl ([.ref (ad 0), .int a0]) ++ List.replicate (2 - (lg_sl ([.ref (ad 0), .int a0])).length) Slot.unset).toArray = ls at hl ⊢
  have hl : lv_has ls 2 [(0, .ref (ad 0)), (1, .int a0)] := hl
  refine lv_iload_n hx hb dX4_checkEntry_0 rfl (lv_at hl 1 rfl) ?_
  refine lv_if_lt (tgt := 15) hx hb dX4_checkEntry_1 (by decide) (fun c_1 => ?_) (fun c_1 => ?_)
  · have hw := hw.1 c_1
    exact hB15 w hw _ _ hP hS ls (lv_sub hl [] rfl)
  · have hw := hw.2 c_1
    refine lv_iload_n hx hb dX4_checkEntry_4 rfl (lv_at hl 1 rfl) ?_
    refine lv_aload_n hx hb dX4_checkEntry_5 rfl (lv_at hl 0 rfl) ?_
    refine va_get (D := D) (ci := 6) (v := .ref (ad 7)) (C := RX4) (T := TX4) (N := 6) hx hb hts in_X4 hown hK hP 0 (wg0 ca ad w) rfl 1 (by decide) lk_19 (fun _ h9 => h9) rfl dX4_checkEntry_6 ?_
    refine va_get (D := D) (ci := 4) (v := .int (w.1 65 0)) (C := RX2) (T := TX2) (N := 6) hx hb hts in_X2 hown hK hP 7 (wg7 ca ad w) rfl 0 (by decide) lk_226 (fun _ h9 => h9) rfl dX4_checkEntry_9 ?_
    refine lv_icmp_lt (tgt := 26) hx hb dX4_checkEntry_12 (by decide) (fun c_2 => ?_) (fun c_2 => ?_)
    · have hw := hw.1 c_2
      refine W.widen (k := 1) (n := 6) (Nat.le_of_ble_eq_true rfl) (Nat.le_of_ble_eq_true rfl) ?_
      refine vx_ret ?_
      exact W.vret hx hb hr (fun t ht hW => ⟨⟨w, rfl, hw, by show PA D ca ad w t.heap; rw [ht]; exact hP⟩, hS.F ht⟩) hS.2.2 dX4_checkEntry_26
    · have hw := hw.2 c_2
      exact hB15 w hw _ _ hP hS ls (lv_sub hl [] rfl)
set_option maxHeartbeats 4000000 in
set_option maxRecDepth 100000 in
def wpX4_kindOf (a0 : Int32) (w : St) (post : Int32 → St → Prop) (px : String → St → Prop) : Prop := wpX4_checkEntry a0 w (fun w_1 => (vp_in a0 250) ∧ ((narrow .char (.int (w_1.1 8 (a0).toNatClampNeg)) = .int (w_1.1 8 (a0).toNatClampNeg)) ∧ post (w_1.1 8 (a0).toNatClampNeg) w_1)) px
set_option maxHeartbeats 4000000 in
set_option maxRecDepth 100000 in
theorem mX4_kindOf (l : Launch) (D : va_G) (ca : Nat → ClassId) (ad : Nat → Nat) (base : Nat) (hAd : okA base ad) (w : St) (a0 : Int32) (post : Int32 → St → Prop) (px : String → St → Prop) (hw : wpX4_kindOf a0 w post px) (hl9 : l.stackTraces = false) : vx_Met l yX4_kindOf wsX4_kindOf ({ frames := 7, cells := 1, slots := 6, locals := 111 } : Room) (va_Pc [.ref (ad 0), .int a0] (BX D ca ad base w)) (va_Qi post (Bp D ca ad) (AB base)) (vx_X (fun q : String × St => px q.1 q.2) (Bx D ca ad) (AB base)) 1 6 (AB base) := by
  refine vx_ofW (cc := cX4_kindOf) (maxL := 2) (ret := (some .char)) (by decide) rfl ?_
  intro p e s m args below meth c s₁ B hml hEx hv
  obtain ⟨rfl, ⟨hbs, hP, hK⟩, hXP⟩ := hv
  have hx := B.exec
  have hb := B.bytes
  have hr := B.returns
  have hts := atoms_spec (ws := wsX4_kindOf) B.pre
  have hown : s.vm.findClass RX4 = some m.cls := findClass_of_methodNamed B.named
  have hlocks := B.notSynchronized
  have in_X2 : ∀ w ∈ wsX20, w ∈ wsX4_kindOf := by decide +kernel
  have in_X4 : ∀ w ∈ wsX40, w ∈ wsX4_kindOf := by decide +kernel
  have lk_19 := hts (.fieldLink RX4 19 "LockQuorum" "log" "LLockQuorum$Log;") (by decide +kernel)
  have lk_230 := hts (.fieldLink RX4 230 "LockQuorum$Log" "kind" "[C") (by decide +kernel)
  have hS : va_S (AB base) s.heap s.heap [] := va_S.rf
  have hl := lv_entry ([.ref (ad 0), .int a0]) (n := 2) (Nat.le_of_ble_eq_true rfl)
  rw [lg_entry_eq]
  generalize (lg_sl ([.ref (ad 0), .int a0]) ++ List.replicate (2 - (lg_sl ([.ref (ad 0), .int a0])).length) Slot.unset).toArray = ls at hl ⊢
  have hl : lv_has ls 2 [(0, .ref (ad 0)), (1, .int a0)] := hl
  refine lv_aload_n hx hb dX4_kindOf_0 rfl (lv_at hl 0 rfl) ?_
  refine lv_iload_n hx hb dX4_kindOf_1 rfl (lv_at hl 1 rfl) ?_
  refine vx_callv (vx_runV (As := [.int a0]) (rest := []) ⟨hx, hb, hml, hown, hts⟩ (mX4_checkEntry l D ca ad base hAd w a0 _ _ hw hl9) (cwV 1 hts gX4_kindOf_X4_checkEntry rfl rfl rfl (by decide +kernel) ⟨Nat.le_of_ble_eq_true rfl, Nat.le_of_ble_eq_true rfl⟩) (pvx [.int a0] hK hXP hP hbs hS rfl (wg0 ca ad w)) rfl rfl hl.1 rfl (lv_room (Nat.le_of_ble_eq_true rfl)) dX4_kindOf_2 ⟨Nat.le_of_ble_eq_true rfl, Nat.le_of_ble_eq_true rfl⟩) hS (fun q _ h => h) (fun q h => h) (fun q _ h => h) (fun E ce q9 u t H locs ht hvm hw hB hz1 hk1 hS hce hcv hcl => ?_) (fun w_1 t H locs ht hvm hw hP hz1 hk1 hS => ?_)
  · exact vx_out (E := E) (fun x hx => (hEx x hx).elim) hlocks hce hcv hcl (fun t9 ht9 ha9 => ⟨u, hw, ⟨hB.1, by show PA D ca ad u.2 t9.heap; rw [ht9, ← ht]; exact hB.2⟩, hS.F ht9⟩) hS.2.2 (Nat.le_of_ble_eq_true rfl) (Nat.le_of_ble_eq_true rfl)
  have hP : PA D ca ad w_1 H := by rw [← ht]; exact hP
  refine lv_aload_n hx hb dX4_kindOf_5 rfl (lv_at hl 0 rfl) ?_
  refine va_get (D := D) (ci := 6) (v := .ref (ad 7)) (C := RX4) (T := TX4) (N := 6) hx hb hts in_X4 hown hK hP 0 (wg0 ca ad w_1) rfl 1 (by decide) lk_19 (fun _ h9 => h9) rfl dX4_kindOf_6 ?_
  refine va_get (D := D) (ci := 4) (v := .ref (ad 8)) (C := RX2) (T := TX2) (N := 6) hx hb hts in_X2 hown hK hP 7 (wg7 ca ad w_1) rfl 1 (by decide) lk_230 (fun _ h9 => h9) rfl dX4_kindOf_9 ?_
  refine lv_iload_n hx hb dX4_kindOf_12 rfl (lv_at hl 1 rfl) ?_
  obtain ⟨h_2, hw⟩ := hw
  refine va_cald hx hb hK hP 8 2 (wg8 ca ad w_1) rfl h_2 dX4_kindOf_13 ?_
  refine vx_ret ?_
  obtain ⟨hn9, hw⟩ := hw
  exact W.zret (v := (w_1.1 8 (a0).toNatClampNeg)) hx hb hr hn9 (fun t ht hW => ⟨⟨(w_1.1 8 (a0).toNatClampNeg), w_1, rfl, hw, by show PA D ca ad w_1 t.heap; rw [ht]; exact hP⟩, hS.F ht⟩) hS.2.2 dX4_kindOf_14
set_option maxHeartbeats 4000000 in
set_option maxRecDepth 100000 in
def wpX4_termOfEntry (a0 : Int32) (w : St) (post : Int32 → St → Prop) (px : String → St → Prop) : Prop := wpX4_checkEntry a0 w (fun w_1 => (vp_in a0 250) ∧ (post (w_1.1 9 (a0).toNatClampNeg) w_1)) px
set_option maxHeartbeats 4000000 in
set_option maxRecDepth 100000 in
theorem mX4_termOfEntry (l : Launch) (D : va_G) (ca : Nat → ClassId) (ad : Nat → Nat) (base : Nat) (hAd : okA base ad) (w : St) (a0 : Int32) (post : Int32 → St → Prop) (px : String → St → Prop) (hw : wpX4_termOfEntry a0 w post px) (hl9 : l.stackTraces = false) : vx_Met l yX4_termOfEntry wsX4_termOfEntry ({ frames := 7, cells := 1, slots := 6, locals := 111 } : Room) (va_Pc [.ref (ad 0), .int a0] (BX D ca ad base w)) (va_Qi post (Bp D ca ad) (AB base)) (vx_X (fun q : String × St => px q.1 q.2) (Bx D ca ad) (AB base)) 1 6 (AB base) := by
  refine vx_ofW (cc := cX4_termOfEntry) (maxL := 2) (ret := (some .int)) (by decide) rfl ?_
  intro p e s m args below meth c s₁ B hml hEx hv
  obtain ⟨rfl, ⟨hbs, hP, hK⟩, hXP⟩ := hv
  have hx := B.exec
  have hb := B.bytes
  have hr := B.returns
  have hts := atoms_spec (ws := wsX4_termOfEntry) B.pre
  have hown : s.vm.findClass RX4 = some m.cls := findClass_of_methodNamed B.named
  have hlocks := B.notSynchronized
  have in_X2 : ∀ w ∈ wsX20, w ∈ wsX4_termOfEntry := by decide +kernel
  have in_X4 : ∀ w ∈ wsX40, w ∈ wsX4_termOfEntry := by decide +kernel
  have lk_19 := hts (.fieldLink RX4 19 "LockQuorum" "log" "LLockQuorum$Log;") (by decide +kernel)
  have lk_234 := hts (.fieldLink RX4 234 "LockQuorum$Log" "term" "[I") (by decide +kernel)
  have hS : va_S (AB base) s.heap s.heap [] := va_S.rf
  have hl := lv_entry ([.ref (ad 0), .int a0]) (n := 2) (Nat.le_of_ble_eq_true rfl)
  rw [lg_entry_eq]
  generalize (lg_sl ([.ref (ad 0), .int a0]) ++ List.replicate (2 - (lg_sl ([.ref (ad 0), .int a0])).length) Slot.unset).toArray = ls at hl ⊢
  have hl : lv_has ls 2 [(0, .ref (ad 0)), (1, .int a0)] := hl
  refine lv_aload_n hx hb dX4_termOfEntry_0 rfl (lv_at hl 0 rfl) ?_
  refine lv_iload_n hx hb dX4_termOfEntry_1 rfl (lv_at hl 1 rfl) ?_
  refine vx_callv (vx_runV (As := [.int a0]) (rest := []) ⟨hx, hb, hml, hown, hts⟩ (mX4_checkEntry l D ca ad base hAd w a0 _ _ hw hl9) (cwV 1 hts gX4_termOfEntry_X4_checkEntry rfl rfl rfl (by decide +kernel) ⟨Nat.le_of_ble_eq_true rfl, Nat.le_of_ble_eq_true rfl⟩) (pvx [.int a0] hK hXP hP hbs hS rfl (wg0 ca ad w)) rfl rfl hl.1 rfl (lv_room (Nat.le_of_ble_eq_true rfl)) dX4_termOfEntry_2 ⟨Nat.le_of_ble_eq_true rfl, Nat.le_of_ble_eq_true rfl⟩) hS (fun q _ h => h) (fun q h => h) (fun q _ h => h) (fun E ce q9 u t H locs ht hvm hw hB hz1 hk1 hS hce hcv hcl => ?_) (fun w_1 t H locs ht hvm hw hP hz1 hk1 hS => ?_)
  · exact vx_out (E := E) (fun x hx => (hEx x hx).elim) hlocks hce hcv hcl (fun t9 ht9 ha9 => ⟨u, hw, ⟨hB.1, by show PA D ca ad u.2 t9.heap; rw [ht9, ← ht]; exact hB.2⟩, hS.F ht9⟩) hS.2.2 (Nat.le_of_ble_eq_true rfl) (Nat.le_of_ble_eq_true rfl)
  have hP : PA D ca ad w_1 H := by rw [← ht]; exact hP
  refine lv_aload_n hx hb dX4_termOfEntry_5 rfl (lv_at hl 0 rfl) ?_
  refine va_get (D := D) (ci := 6) (v := .ref (ad 7)) (C := RX4) (T := TX4) (N := 6) hx hb hts in_X4 hown hK hP 0 (wg0 ca ad w_1) rfl 1 (by decide) lk_19 (fun _ h9 => h9) rfl dX4_termOfEntry_6 ?_
  refine va_get (D := D) (ci := 4) (v := .ref (ad 9)) (C := RX2) (T := TX2) (N := 6) hx hb hts in_X2 hown hK hP 7 (wg7 ca ad w_1) rfl 2 (by decide) lk_234 (fun _ h9 => h9) rfl dX4_termOfEntry_9 ?_
  refine lv_iload_n hx hb dX4_termOfEntry_12 rfl (lv_at hl 1 rfl) ?_
  obtain ⟨h_2, hw⟩ := hw
  refine va_iald hx hb hK hP 9 0 (wg9 ca ad w_1) rfl h_2 dX4_termOfEntry_13 ?_
  refine vx_ret ?_
  exact W.iret (v := (w_1.1 9 (a0).toNatClampNeg)) hx hb hr (fun t ht hW => ⟨⟨(w_1.1 9 (a0).toNatClampNeg), w_1, rfl, hw, by show PA D ca ad w_1 t.heap; rw [ht]; exact hP⟩, hS.F ht⟩) hS.2.2 dX4_termOfEntry_14
set_option maxHeartbeats 4000000 in
set_option maxRecDepth 100000 in
def wpX4_knownBy (a0 : Int32) (w : St) (post : Int32 → St → Prop) (px : String → St → Prop) : Prop := wpX4_checkEntry a0 w (fun w_1 => wpX3_countKnowing a0 w_1 (fun r_3 w_2 => post r_3 w_2)) px
set_option maxHeartbeats 4000000 in
set_option maxRecDepth 100000 in
theorem mX4_knownBy (l : Launch) (D : va_G) (ca : Nat → ClassId) (ad : Nat → Nat) (base : Nat) (hAd : okA base ad) (w : St) (a0 : Int32) (post : Int32 → St → Prop) (px : String → St → Prop) (hw : wpX4_knownBy a0 w post px) (hl9 : l.stackTraces = false) : vx_Met l yX4_knownBy wsX4_knownBy ({ frames := 7, cells := 1, slots := 6, locals := 111 } : Room) (va_Pc [.ref (ad 0), .int a0] (BX D ca ad base w)) (va_Qi post (Bp D ca ad) (AB base)) (vx_X (fun q : String × St => px q.1 q.2) (Bx D ca ad) (AB base)) 1 6 (AB base) := by
  refine vx_ofW (cc := cX4_knownBy) (maxL := 2) (ret := (some .int)) (by decide) rfl ?_
  intro p e s m args below meth c s₁ B hml hEx hv
  obtain ⟨rfl, ⟨hbs, hP, hK⟩, hXP⟩ := hv
  have hx := B.exec
  have hb := B.bytes
  have hr := B.returns
  have hts := atoms_spec (ws := wsX4_knownBy) B.pre
  have hown : s.vm.findClass RX4 = some m.cls := findClass_of_methodNamed B.named
  have hlocks := B.notSynchronized
  have in_X4 : ∀ w ∈ wsX40, w ∈ wsX4_knownBy := by decide +kernel
  have lk_10 := hts (.fieldLink RX4 10 "LockQuorum" "members" "LLockQuorum$Members;") (by decide +kernel)
  have hS : va_S (AB base) s.heap s.heap [] := va_S.rf
  have hl := lv_entry ([.ref (ad 0), .int a0]) (n := 2) (Nat.le_of_ble_eq_true rfl)
  rw [lg_entry_eq]
  generalize (lg_sl ([.ref (ad 0), .int a0]) ++ List.replicate (2 - (lg_sl ([.ref (ad 0), .int a0])).length) Slot.unset).toArray = ls at hl ⊢
  have hl : lv_has ls 2 [(0, .ref (ad 0)), (1, .int a0)] := hl
  refine lv_aload_n hx hb dX4_knownBy_0 rfl (lv_at hl 0 rfl) ?_
  refine lv_iload_n hx hb dX4_knownBy_1 rfl (lv_at hl 1 rfl) ?_
  refine vx_callv (vx_runV (As := [.int a0]) (rest := []) ⟨hx, hb, hml, hown, hts⟩ (mX4_checkEntry l D ca ad base hAd w a0 _ _ hw hl9) (cwV 1 hts gX4_knownBy_X4_checkEntry rfl rfl rfl (by decide +kernel) ⟨Nat.le_of_ble_eq_true rfl, Nat.le_of_ble_eq_true rfl⟩) (pvx [.int a0] hK hXP hP hbs hS rfl (wg0 ca ad w)) rfl rfl hl.1 rfl (lv_room (Nat.le_of_ble_eq_true rfl)) dX4_knownBy_2 ⟨Nat.le_of_ble_eq_true rfl, Nat.le_of_ble_eq_true rfl⟩) hS (fun q _ h => h) (fun q h => h) (fun q _ h => h) (fun E ce q9 u t H locs ht hvm hw hB hz1 hk1 hS hce hcv hcl => ?_) (fun w_1 t H locs ht hvm hw hP hz1 hk1 hS => ?_)
  · exact vx_out (E := E) (fun x hx => (hEx x hx).elim) hlocks hce hcv hcl (fun t9 ht9 ha9 => ⟨u, hw, ⟨hB.1, by show PA D ca ad u.2 t9.heap; rw [ht9, ← ht]; exact hB.2⟩, hS.F ht9⟩) hS.2.2 (Nat.le_of_ble_eq_true rfl) (Nat.le_of_ble_eq_true rfl)
  have hP : PA D ca ad w_1 H := by rw [← ht]; exact hP
  refine lv_aload_n hx hb dX4_knownBy_5 rfl (lv_at hl 0 rfl) ?_
  refine va_get (D := D) (ci := 6) (v := .ref (ad 1)) (C := RX4) (T := TX4) (N := 6) hx hb hts in_X4 hown hK hP 0 (wg0 ca ad w_1) rfl 0 (by decide) lk_10 (fun _ h9 => h9) rfl dX4_knownBy_6 ?_
  refine lv_iload_n hx hb dX4_knownBy_9 rfl (lv_at hl 1 rfl) ?_
  refine va_calli (va_runV (As := [.int a0]) (rest := []) ⟨hx, hb, hml, hown, hts⟩ (mX3_countKnowing l D ca ad base hAd w_1 a0 _ hw) (cwV 1 hts gX4_knownBy_X3_countKnowing rfl rfl rfl (by decide +kernel) ⟨Nat.le_of_ble_eq_true rfl, Nat.le_of_ble_eq_true rfl⟩) (pv [.int a0] hK hP hbs hS rfl (wg1 ca ad w_1)) rfl rfl hl.1 rfl (lv_room (Nat.le_of_ble_eq_true rfl)) dX4_knownBy_10 ⟨Nat.le_of_ble_eq_true rfl, Nat.le_of_ble_eq_true rfl⟩) hS (fun q _ h => h) (fun q h => h) (fun r_3 w_2 t H locs ht hvm hw hP hz1 hk1 hS => ?_)
  have hP : PA D ca ad w_2 H := by rw [← ht]; exact hP
  refine vx_ret ?_
  exact W.iret (v := r_3) hx hb hr (fun t ht hW => ⟨⟨r_3, w_2, rfl, hw, by show PA D ca ad w_2 t.heap; rw [ht]; exact hP⟩, hS.F ht⟩) hS.2.2 dX4_knownBy_13
set_option maxHeartbeats 4000000 in
set_option maxRecDepth 100000 in
def wpX4_leased (w : St) (post : Int64 → St → Prop) : Prop := post (w.2.1 0) w
set_option maxHeartbeats 4000000 in
set_option maxRecDepth 100000 in
theorem mX4_leased (l : Launch) (D : va_G) (ca : Nat → ClassId) (ad : Nat → Nat) (base : Nat) (hAd : okA base ad) (w : St) (post : Int64 → St → Prop) (hw : wpX4_leased w post) : Met l yX4_leased wsX4_leased ({ frames := 0, cells := 0, slots := 0, locals := 0 } : Room) (va_Pc [.ref (ad 0)] (BU D ca ad base w)) (va_Ql post (Bp D ca ad) (AB base)) 0 0 (AB base) := by
  refine Met.ofW (cc := cX4_leased) (maxL := 1) (ret := (some .long)) (by decide) rfl ?_
  intro p e s m args below meth c s₁ B hml hv
  obtain ⟨rfl, hbs, hP, hK⟩ := hv
  have hx := B.exec
  have hb := B.bytes
  have hr := B.returns
  have hts := atoms_spec (ws := wsX4_leased) B.pre
  have hown : s.vm.findClass RX4 = some m.cls := findClass_of_methodNamed B.named
  have hlocks := B.notSynchronized
  have in_X4 : ∀ w ∈ wsX40, w ∈ wsX4_leased := by decide +kernel
  have lk_238 := hts (.fieldLink RX4 238 "LockQuorum" "leasedTicks" "J") (by decide +kernel)
  have hS : va_S (AB base) s.heap s.heap [] := va_S.rf
  have hl := lv_entry ([.ref (ad 0)]) (n := 1) (Nat.le_of_ble_eq_true rfl)
  rw [lg_entry_eq]
  generalize (lg_sl ([.ref (ad 0)]) ++ List.replicate (1 - (lg_sl ([.ref (ad 0)])).length) Slot.unset).toArray = ls at hl ⊢
  have hl : lv_has ls 1 [(0, .ref (ad 0))] := hl
  refine lv_aload_n hx hb dX4_leased_0 rfl (lv_at hl 0 rfl) ?_
  refine va_get (D := D) (ci := 6) (v := .long (w.2.1 0)) (C := RX4) (T := TX4) (N := 6) hx hb hts in_X4 hown hK hP 0 (wg0 ca ad w) rfl 5 (by decide) lk_238 (fun _ h9 => h9) rfl dX4_leased_1 ?_
  exact W.lret (v := (w.2.1 0)) hx hb hr (fun t ht hW => ⟨⟨(w.2.1 0), w, rfl, hw, by show PA D ca ad w t.heap; rw [ht]; exact hP⟩, hS.F ht⟩) hS.2.2 dX4_leased_4
set_option maxHeartbeats 4000000 in
set_option maxRecDepth 100000 in
def wpX4_upShare (w : St) (post : UInt32 → St → Prop) : Prop := wpX3_countUp w (fun r_2 w_1 => (vf_n32 (FP.fdiv (FP.i2f r_2) 1084227584)) ∧ (post (FP.fdiv (FP.i2f r_2) 1084227584) w_1))
set_option maxHeartbeats 4000000 in
set_option maxRecDepth 100000 in
theorem mX4_upShare (l : Launch) (D : va_G) (ca : Nat → ClassId) (ad : Nat → Nat) (base : Nat) (hAd : okA base ad) (w : St) (post : UInt32 → St → Prop) (hw : wpX4_upShare w post) : Met l yX4_upShare wsX4_upShare ({ frames := 1, cells := 0, slots := 0, locals := 22 } : Room) (va_Pc [.ref (ad 0)] (BU D ca ad base w)) (va_Qf post (Bp D ca ad) (AB base)) 0 0 (AB base) := by
  refine Met.ofW (cc := cX4_upShare) (maxL := 1) (ret := (some .float)) (by decide) rfl ?_
  intro p e s m args below meth c s₁ B hml hv
  obtain ⟨rfl, hbs, hP, hK⟩ := hv
  have hx := B.exec
  have hb := B.bytes
  have hr := B.returns
  have hts := atoms_spec (ws := wsX4_upShare) B.pre
  have hown : s.vm.findClass RX4 = some m.cls := findClass_of_methodNamed B.named
  have hlocks := B.notSynchronized
  have in_X4 : ∀ w ∈ wsX40, w ∈ wsX4_upShare := by decide +kernel
  have lk_10 := hts (.fieldLink RX4 10 "LockQuorum" "members" "LLockQuorum$Members;") (by decide +kernel)
  have hS : va_S (AB base) s.heap s.heap [] := va_S.rf
  have hl := lv_entry ([.ref (ad 0)]) (n := 1) (Nat.le_of_ble_eq_true rfl)
  rw [lg_entry_eq]
  generalize (lg_sl ([.ref (ad 0)]) ++ List.replicate (1 - (lg_sl ([.ref (ad 0)])).length) Slot.unset).toArray = ls at hl ⊢
  have hl : lv_has ls 1 [(0, .ref (ad 0))] := hl
  refine lv_aload_n hx hb dX4_upShare_0 rfl (lv_at hl 0 rfl) ?_
  refine va_get (D := D) (ci := 6) (v := .ref (ad 1)) (C := RX4) (T := TX4) (N := 6) hx hb hts in_X4 hown hK hP 0 (wg0 ca ad w) rfl 0 (by decide) lk_10 (fun _ h9 => h9) rfl dX4_upShare_1 ?_
  refine va_calli (va_runV (As := []) (rest := []) ⟨hx, hb, hml, hown, hts⟩ (mX3_countUp l D ca ad base hAd w _ hw) (cwV 0 hts gX4_upShare_X3_countUp rfl rfl rfl (by decide +kernel) ⟨Nat.le_of_ble_eq_true rfl, Nat.le_of_ble_eq_true rfl⟩) (pv [] hK hP hbs hS rfl (wg1 ca ad w)) rfl rfl hl.1 rfl (lv_room (Nat.le_of_ble_eq_true rfl)) dX4_upShare_4 ⟨Nat.le_of_ble_eq_true rfl, Nat.le_of_ble_eq_true rfl⟩) hS (fun q _ h => h) (fun q h => h) (fun r_2 w_1 t H locs ht hvm hw hP hz1 hk1 hS => ?_)
  have hP : PA D ca ad w_1 H := by rw [← ht]; exact hP
  refine lv_i2f hx hb dX4_upShare_7 ?_
  refine lv_ldcf (own := RX4) (v := 1084227584) hx hb hown (hts (.constantFloat RX4 246 1084227584) (by decide +kernel)) dX4_upShare_8 ?_
  obtain ⟨h_3, hw⟩ := hw
  refine lv_fdiv hx hb dX4_upShare_10 h_3 ?_
  exact W.fret (v := (FP.fdiv (FP.i2f r_2) 1084227584)) hx hb hr (fun t ht hW => ⟨⟨(FP.fdiv (FP.i2f r_2) 1084227584), w_1, rfl, hw, by show PA D ca ad w_1 t.heap; rw [ht]; exact hP⟩, hS.F ht⟩) hS.2.2 dX4_upShare_11
set_option maxHeartbeats 4000000 in
set_option maxRecDepth 100000 in
def wpX4_meanKnown (w : St) (post : UInt64 → St → Prop) (px : String → St → Prop) : Prop := ((w.1 65 0) = 0 → (px "java/lang/ArithmeticException" w)) ∧ (¬ ((w.1 65 0) = 0) → (wpX3_sumKnown w (fun r_3 w_2 => (vf_n64 (FP.ddiv (FP.i2d r_3) (FP.i2d (5 * (w_2.1 65 0))))) ∧ (post (FP.ddiv (FP.i2d r_3) (FP.i2d (5 * (w_2.1 65 0)))) w_2))))
set_option maxHeartbeats 4000000 in
set_option maxRecDepth 100000 in
theorem mX4_meanKnown (l : Launch) (D : va_G) (ca : Nat → ClassId) (ad : Nat → Nat) (base : Nat) (hAd : okA base ad) (w : St) (post : UInt64 → St → Prop) (px : String → St → Prop) (hw : wpX4_meanKnown w post px) (hl9 : l.stackTraces = false) : vx_Met l yX4_meanKnown wsX4_meanKnown ({ frames := 6, cells := 1, slots := 6, locals := 90 } : Room) (va_Pc [.ref (ad 0)] (BX D ca ad base w)) (va_Qd post (Bp D ca ad) (AB base)) (vx_X (fun q : String × St => px q.1 q.2) (Bx D ca ad) (AB base)) 1 6 (AB base) := by
  refine vx_ofW (cc := cX4_meanKnown) (maxL := 1) (ret := (some .double)) (by decide) rfl ?_
  intro p e s m args below meth c s₁ B hml hEx hv
  obtain ⟨rfl, ⟨hbs, hP, hK⟩, hXP⟩ := hv
  have hx := B.exec
  have hb := B.bytes
  have hr := B.returns
  have hts := atoms_spec (ws := wsX4_meanKnown) B.pre
  have hown : s.vm.findClass RX4 = some m.cls := findClass_of_methodNamed B.named
  have hlocks := B.notSynchronized
  have in_X2 : ∀ w ∈ wsX20, w ∈ wsX4_meanKnown := by decide +kernel
  have in_X4 : ∀ w ∈ wsX40, w ∈ wsX4_meanKnown := by decide +kernel
  have lk_10 := hts (.fieldLink RX4 10 "LockQuorum" "members" "LLockQuorum$Members;") (by decide +kernel)
  have lk_19 := hts (.fieldLink RX4 19 "LockQuorum" "log" "LLockQuorum$Log;") (by decide +kernel)
  have lk_226 := hts (.fieldLink RX4 226 "LockQuorum$Log" "count" "I") (by decide +kernel)
  have hS : va_S (AB base) s.heap s.heap [] := va_S.rf
  have hl := lv_entry ([.ref (ad 0)]) (n := 1) (Nat.le_of_ble_eq_true rfl)
  rw [lg_entry_eq]
  generalize (lg_sl ([.ref (ad 0)]) ++ List.replicate (1 - (lg_sl ([.ref (ad 0)])).length) Slot.unset).toArray = ls at hl ⊢
  have hl : lv_has ls 1 [(0, .ref (ad 0))] := hl
  refine lv_aload_n hx hb dX4_meanKnown_0 rfl (lv_at hl 0 rfl) ?_
  refine va_get (D := D) (ci := 6) (v := .ref (ad 7)) (C := RX4) (T := TX4) (N := 6) hx hb hts in_X4 hown hK hP 0 (wg0 ca ad w) rfl 1 (by decide) lk_19 (fun _ h9 => h9) rfl dX4_meanKnown_1 ?_
  refine va_get (D := D) (ci := 4) (v := .int (w.1 65 0)) (C := RX2) (T := TX2) (N := 6) hx hb hts in_X2 hown hK hP 7 (wg7 ca ad w) rfl 0 (by decide) lk_226 (fun _ h9 => h9) rfl dX4_meanKnown_4 ?_
  refine lv_if_ne (tgt := 20) hx hb dX4_meanKnown_7 (by decide) (fun c_1 => ?_) (fun c_1 => ?_)
  · have hw := hw.2 c_1
    refine lv_aload_n hx hb dX4_meanKnown_20 rfl (lv_at hl 0 rfl) ?_
    refine va_get (D := D) (ci := 6) (v := .ref (ad 1)) (C := RX4) (T := TX4) (N := 6) hx hb hts in_X4 hown hK hP 0 (wg0 ca ad w) rfl 0 (by decide) lk_10 (fun _ h9 => h9) rfl dX4_meanKnown_21 ?_
    refine va_calli (va_runV (As := []) (rest := []) ⟨hx, hb, hml, hown, hts⟩ (mX3_sumKnown l D ca ad base hAd w _ hw) (cwV 0 hts gX4_meanKnown_X3_sumKnown rfl rfl rfl (by decide +kernel) ⟨Nat.le_of_ble_eq_true rfl, Nat.le_of_ble_eq_true rfl⟩) (pv [] hK hP hbs hS rfl (wg1 ca ad w)) rfl rfl hl.1 rfl (lv_room (Nat.le_of_ble_eq_true rfl)) dX4_meanKnown_24 ⟨Nat.le_of_ble_eq_true rfl, Nat.le_of_ble_eq_true rfl⟩) hS (fun q _ h => h) (fun q h => h) (fun r_3 w_2 t H locs ht hvm hw hP hz1 hk1 hS => ?_)
    have hP : PA D ca ad w_2 H := by rw [← ht]; exact hP
    refine lv_i2d hx hb dX4_meanKnown_27 ?_
    refine lv_iconst (v := 5) hx hb dX4_meanKnown_28 (by decide) ?_
    refine lv_aload_n hx hb dX4_meanKnown_29 rfl (lv_at hl 0 rfl) ?_
    refine va_get (D := D) (ci := 6) (v := .ref (ad 7)) (C := RX4) (T := TX4) (N := 6) hx hb hts in_X4 hown hK hP 0 (wg0 ca ad w_2) rfl 1 (by decide) lk_19 (fun _ h9 => h9) rfl dX4_meanKnown_30 ?_
    refine va_get (D := D) (ci := 4) (v := .int (w_2.1 65 0)) (C := RX2) (T := TX2) (N := 6) hx hb hts in_X2 hown hK hP 7 (wg7 ca ad w_2) rfl 0 (by decide) lk_226 (fun _ h9 => h9) rfl dX4_meanKnown_33 ?_
    refine lv_imul hx hb dX4_meanKnown_36 ?_
    refine lv_i2d hx hb dX4_meanKnown_37 ?_
    obtain ⟨h_4, hw⟩ := hw
    refine lv_ddiv hx hb dX4_meanKnown_38 h_4 ?_
    refine W.widen (k := 1) (n := 6) (Nat.le_of_ble_eq_true rfl) (Nat.le_of_ble_eq_true rfl) ?_
    refine vx_ret ?_
    exact W.dret (v := (FP.ddiv (FP.i2d r_3) (FP.i2d (5 * (w_2.1 65 0))))) hx hb hr (fun t ht hW => ⟨⟨(FP.ddiv (FP.i2d r_3) (FP.i2d (5 * (w_2.1 65 0)))), w_2, rfl, hw, by show PA D ca ad w_2 t.heap; rw [ht]; exact hP⟩, hS.F ht⟩) hS.2.2 dX4_meanKnown_39
  · have hw := hw.1 c_1
    obtain ⟨sa, hstr⟩ := hXP.2.2.2.1 (249, "there are no entries") (List.mem_of_getElem? (i := 13) rfl)
    exact vx_throwS (own := RX4) (cls := "java/lang/ArithmeticException") (names := ["java/lang/RuntimeException", "java/lang/Exception"]) hx hb hl9 hown (by decide +kernel) (by decide +kernel) (hts (.classLink RX4 247 "java/lang/ArithmeticException") (by decide +kernel)) (hts (.initialized "java/lang/ArithmeticException") (by decide +kernel)) hstr (vx_hat (L := vx_atS RX4 251 "java/lang/ArithmeticException" ["java/lang/RuntimeException", "java/lang/Exception"]) (B := [.castable "java/lang/ArithmeticException" "java/lang/ArithmeticException", .declares ⟨"java/lang/RuntimeException", "<init>", "(Ljava/lang/String;)V"⟩, .declares ⟨"java/lang/Exception", "<init>", "(Ljava/lang/String;)V"⟩, .declares ⟨"java/lang/Throwable", "<init>", "(Ljava/lang/String;)V"⟩]) (fun w hw => hts w ((by decide +kernel : ∀ w ∈ (vx_atS RX4 251 "java/lang/ArithmeticException" ["java/lang/RuntimeException", "java/lang/Exception"]).filter goodWord, w ∈ wsX4_meanKnown) w hw)) (by decide +kernel) (vx_c (va_Nw.use rfl (hXP.2.2.1 (.castable "java/lang/ArithmeticException" "java/lang/ArithmeticException") (List.mem_of_getElem? (i := 5) rfl))) (vx_c (va_Nw.use rfl (hXP.2.2.1 (.declares ⟨"java/lang/RuntimeException", "<init>", "(Ljava/lang/String;)V"⟩) (List.mem_of_getElem? (i := 6) rfl))) (vx_c (va_Nw.use rfl (hXP.2.2.1 (.declares ⟨"java/lang/Exception", "<init>", "(Ljava/lang/String;)V"⟩) (List.mem_of_getElem? (i := 7) rfl))) (vx_c (va_Nw.use rfl (hXP.2.2.1 (.declares ⟨"java/lang/Throwable", "<init>", "(Ljava/lang/String;)V"⟩) (List.mem_of_getElem? (i := 8) rfl))) (vx_n)))))) (by decide +kernel) hXP.1 hXP.2.1 hS (hl.1.trans hml.symm) dX4_meanKnown_10 dX4_meanKnown_13 dX4_meanKnown_14 dX4_meanKnown_16 dX4_meanKnown_19 (fun x hx => (hEx x hx).elim) (Nat.le_of_ble_eq_true rfl) (Nat.le_of_ble_eq_true rfl) (Nat.le_of_ble_eq_true rfl) (Nat.le_of_ble_eq_true rfl) hlocks (fun t ha hsz hk => ⟨("java/lang/ArithmeticException", w), hw, ⟨rfl, hP.kept (fun k q hq => hk q.1 (hP k q hq).lt)⟩, Nat.le_trans hS.1 hsz, fun q h1 h2 => (hk q (Nat.lt_of_lt_of_le h1 hS.1)).trans (hS.2.1 q h1 h2)⟩) hS.2.2 (Nat.le_of_ble_eq_true rfl) (Nat.le_of_ble_eq_true rfl)
set_option maxHeartbeats 4000000 in
set_option maxRecDepth 100000 in
def wpX4_isKnownByMost_L2 (post : Int32 → St → Prop) : Nat → Int32 → St → Prop
  | 0, _, _ => False
  | n + 1, v1, w => ((w.1 65 0) ≤ v1 → (post 1 w)) ∧ (¬ ((w.1 65 0) ≤ v1) → (wpX3_countKnowing v1 w (fun r_3 w_2 => (3 ≤ r_3 → (wpX4_isKnownByMost_L2 post n (v1 + 1) w_2)) ∧ (¬ (3 ≤ r_3) → (post 0 w_2)))))
set_option maxHeartbeats 4000000 in
set_option maxRecDepth 100000 in
def wpX4_isKnownByMost (w : St) (post : Int32 → St → Prop) : Prop := ∃ n : Nat, wpX4_isKnownByMost_L2 post n 0 w
set_option maxHeartbeats 4000000 in
set_option maxRecDepth 100000 in
theorem mX4_isKnownByMost (l : Launch) (D : va_G) (ca : Nat → ClassId) (ad : Nat → Nat) (base : Nat) (hAd : okA base ad) (w : St) (post : Int32 → St → Prop) (hw : wpX4_isKnownByMost w post) : Met l yX4_isKnownByMost wsX4_isKnownByMost ({ frames := 1, cells := 0, slots := 0, locals := 23 } : Room) (va_Pc [.ref (ad 0)] (BU D ca ad base w)) (va_Qi post (Bp D ca ad) (AB base)) 0 0 (AB base) := by
  refine Met.ofW (cc := cX4_isKnownByMost) (maxL := 2) (ret := (some .boolean)) (by decide) rfl ?_
  intro p e s m args below meth c s₁ B hml hv
  obtain ⟨rfl, hbs, hP, hK⟩ := hv
  have hx := B.exec
  have hb := B.bytes
  have hr := B.returns
  have hts := atoms_spec (ws := wsX4_isKnownByMost) B.pre
  have hown : s.vm.findClass RX4 = some m.cls := findClass_of_methodNamed B.named
  have hlocks := B.notSynchronized
  have in_X2 : ∀ w ∈ wsX20, w ∈ wsX4_isKnownByMost := by decide +kernel
  have in_X4 : ∀ w ∈ wsX40, w ∈ wsX4_isKnownByMost := by decide +kernel
  have lk_10 := hts (.fieldLink RX4 10 "LockQuorum" "members" "LLockQuorum$Members;") (by decide +kernel)
  have lk_19 := hts (.fieldLink RX4 19 "LockQuorum" "log" "LLockQuorum$Log;") (by decide +kernel)
  have lk_226 := hts (.fieldLink RX4 226 "LockQuorum$Log" "count" "I") (by decide +kernel)
  have hS : va_S (AB base) s.heap s.heap [] := va_S.rf
  have hB2 : ∀ (n : Nat) (v1 : Int32) (w : St), wpX4_isKnownByMost_L2 post n v1 w → ∀ (H : Heap) (locs : List Loc), PA D ca ad w H → va_S (AB base) s.heap H locs → ∀ ls : Array Slot, lv_has ls 2 [(0, .ref (ad 0)), (1, .int v1)] → W p l e (headSpec wsX4_isKnownByMost ({ frames := 1, cells := 0, slots := 0, locals := 23 } : Room)).room s m ([Value.ref (ad 0)].toArray) below meth c H locs 0 0 (MQ below (va_Qi post (Bp D ca ad) (AB base)) ([Value.ref (ad 0)].toArray) s 0 0 (AB base)) (F0 m 2 ls []) := by
    intro n
    induction n with
    | zero => intro v1 w hw; exact hw.elim
    | succ n ih2 =>
      intro v1 w hw H locs hP hS ls hl
      refine lv_iload_n hx hb dX4_isKnownByMost_2 rfl (lv_at hl 1 rfl) ?_
      refine lv_aload_n hx hb dX4_isKnownByMost_3 rfl (lv_at hl 0 rfl) ?_
      refine va_get (D := D) (ci := 6) (v := .ref (ad 7)) (C := RX4) (T := TX4) (N := 6) hx hb hts in_X4 hown hK hP 0 (wg0 ca ad w) rfl 1 (by decide) lk_19 (fun _ h9 => h9) rfl dX4_isKnownByMost_4 ?_
      refine va_get (D := D) (ci := 4) (v := .int (w.1 65 0)) (C := RX2) (T := TX2) (N := 6) hx hb hts in_X2 hown hK hP 7 (wg7 ca ad w) rfl 0 (by decide) lk_226 (fun _ h9 => h9) rfl dX4_isKnownByMost_7 ?_
      refine lv_icmp_ge (tgt := 33) hx hb dX4_isKnownByMost_10 (by decide) (fun c_1 => ?_) (fun c_1 => ?_)
      · have hw := hw.1 c_1
        refine lv_iconst (v := 1) hx hb dX4_isKnownByMost_33 (by decide) ?_
        exact W.zret (v := 1) hx hb hr (by decide) (fun t ht hW => ⟨⟨1, w, rfl, hw, by show PA D ca ad w t.heap; rw [ht]; exact hP⟩, hS.F ht⟩) hS.2.2 dX4_isKnownByMost_34
      · have hw := hw.2 c_1
        refine lv_aload_n hx hb dX4_isKnownByMost_13 rfl (lv_at hl 0 rfl) ?_
        refine va_get (D := D) (ci := 6) (v := .ref (ad 1)) (C := RX4) (T := TX4) (N := 6) hx hb hts in_X4 hown hK hP 0 (wg0 ca ad w) rfl 0 (by decide) lk_10 (fun _ h9 => h9) rfl dX4_isKnownByMost_14 ?_
        refine lv_iload_n hx hb dX4_isKnownByMost_17 rfl (lv_at hl 1 rfl) ?_
        refine va_calli (va_runV (As := [.int v1]) (rest := []) ⟨hx, hb, hml, hown, hts⟩ (mX3_countKnowing l D ca ad base hAd w v1 _ hw) (cwV 1 hts gX4_isKnownByMost_X3_countKnowing rfl rfl rfl (by decide +kernel) ⟨Nat.le_of_ble_eq_true rfl, Nat.le_of_ble_eq_true rfl⟩) (pv [.int v1] hK hP hbs hS rfl (wg1 ca ad w)) rfl rfl hl.1 rfl (lv_room (Nat.le_of_ble_eq_true rfl)) dX4_isKnownByMost_18 ⟨Nat.le_of_ble_eq_true rfl, Nat.le_of_ble_eq_true rfl⟩) hS (fun q _ h => h) (fun q h => h) (fun r_3 w_2 t H locs ht hvm hw hP hz1 hk1 hS => ?_)
        have hP : PA D ca ad w_2 H := by rw [← ht]; exact hP
        refine lv_iconst (v := 3) hx hb dX4_isKnownByMost_21 (by decide) ?_
        refine lv_icmp_ge (tgt := 27) hx hb dX4_isKnownByMost_22 (by decide) (fun c_4 => ?_) (fun c_4 => ?_)
        · have hw := hw.1 c_4
          refine lv_iinc (v := (v1 + 1)) (lv' := [(1, .int (v1 + 1)), (0, .ref (ad 0))]) hx hb dX4_isKnownByMost_27 hl (k := 1) rfl rfl (by decide) rfl (fun ls hl => ?_)
          refine lv_goto (tgt := 2) hx hb dX4_isKnownByMost_30 (by decide) ?_
          exact ih2 (v1 + 1) w_2 hw _ _ hP hS ls (lv_sub hl [1, 0] rfl)
        · have hw := hw.2 c_4
          refine lv_iconst (v := 0) hx hb dX4_isKnownByMost_25 (by decide) ?_
          exact W.zret (v := 0) hx hb hr (by decide) (fun t ht hW => ⟨⟨0, w_2, rfl, hw, by show PA D ca ad w_2 t.heap; rw [ht]; exact hP⟩, hS.F ht⟩) hS.2.2 dX4_isKnownByMost_26
  have hl := lv_entry ([.ref (ad 0)]) (n := 2) (Nat.le_of_ble_eq_true rfl)
  rw [lg_entry_eq]
  generalize (lg_sl ([.ref (ad 0)]) ++ List.replicate (2 - (lg_sl ([.ref (ad 0)])).length) Slot.unset).toArray = ls at hl ⊢
  have hl : lv_has ls 2 [(0, .ref (ad 0))] := hl
  refine lv_iconst (v := 0) hx hb dX4_isKnownByMost_0 (by decide) ?_
  refine lv_istore_n (lv' := [(1, .int 0), (0, .ref (ad 0))]) hx hb dX4_isKnownByMost_1 rfl hl (by decide) rfl (fun ls hl => ?_)
  obtain ⟨n_2, hw⟩ := hw
  exact hB2 n_2 0 w hw _ _ hP hS ls (lv_sub hl [1, 0] rfl)
set_option maxHeartbeats 4000000 in
set_option maxRecDepth 100000 in
def wpX4_agreesWithLog_B35 (post : Int32 → St → Prop) (K2 : Int32 → St → Prop) (v1 : Int32) (s0 : Int32) (w : St) : Prop := wpX2_holderAt v1 (w.1 64 0) w (fun r_2 w_1 => (s0 = r_2 → ((vp_in v1 4) ∧ (wpX2_lastValue v1 w_1 (fun r_6 w_5 => ((w_1.1 17 (v1).toNatClampNeg) = r_6 → (K2 (v1 + 1) w_5)) ∧ (¬ ((w_1.1 17 (v1).toNatClampNeg) = r_6) → (post 0 w_5)))))) ∧ (¬ (s0 = r_2) → (post 0 w_1)))
set_option maxHeartbeats 4000000 in
set_option maxRecDepth 100000 in
def wpX4_agreesWithLog_L2 (post : Int32 → St → Prop) : Nat → Int32 → St → Prop
  | 0, _, _ => False
  | n + 1, v1, w => (4 ≤ v1 → (post 1 w)) ∧ (¬ (4 ≤ v1) → (wpX1_isFree v1 (w.1 64 0) w (fun r_10 w_9 => (r_10 = 0 → ((vp_in v1 4) ∧ (wpX4_agreesWithLog_B35 post (fun v1 w => wpX4_agreesWithLog_L2 post n v1 w) v1 (w_9.1 14 (v1).toNatClampNeg) w_9))) ∧ (¬ (r_10 = 0) → (wpX4_agreesWithLog_B35 post (fun v1 w => wpX4_agreesWithLog_L2 post n v1 w) v1 (-1) w_9)))))
set_option maxHeartbeats 4000000 in
set_option maxRecDepth 100000 in
def wpX4_agreesWithLog (w : St) (post : Int32 → St → Prop) : Prop := ∃ n : Nat, wpX4_agreesWithLog_L2 post n 0 w
set_option maxHeartbeats 4000000 in
set_option maxRecDepth 100000 in
theorem mX4_agreesWithLog (l : Launch) (D : va_G) (ca : Nat → ClassId) (ad : Nat → Nat) (base : Nat) (hAd : okA base ad) (w : St) (post : Int32 → St → Prop) (hw : wpX4_agreesWithLog w post) : Met l yX4_agreesWithLog wsX4_agreesWithLog ({ frames := 2, cells := 0, slots := 0, locals := 46 } : Room) (va_Pc [.ref (ad 0)] (BU D ca ad base w)) (va_Qi post (Bp D ca ad) (AB base)) 0 0 (AB base) := by
  refine Met.ofW (cc := cX4_agreesWithLog) (maxL := 3) (ret := (some .boolean)) (by decide) rfl ?_
  intro p e s m args below meth c s₁ B hml hv
  obtain ⟨rfl, hbs, hP, hK⟩ := hv
  have hx := B.exec
  have hb := B.bytes
  have hr := B.returns
  have hts := atoms_spec (ws := wsX4_agreesWithLog) B.pre
  have hown : s.vm.findClass RX4 = some m.cls := findClass_of_methodNamed B.named
  have hlocks := B.notSynchronized
  have in_X1 : ∀ w ∈ wsX10, w ∈ wsX4_agreesWithLog := by decide +kernel
  have in_X4 : ∀ w ∈ wsX40, w ∈ wsX4_agreesWithLog := by decide +kernel
  have lk_19 := hts (.fieldLink RX4 19 "LockQuorum" "log" "LLockQuorum$Log;") (by decide +kernel)
  have lk_26 := hts (.fieldLink RX4 26 "LockQuorum" "locks" "LLockQuorum$Locks;") (by decide +kernel)
  have lk_44 := hts (.fieldLink RX4 44 "LockQuorum" "now" "I") (by decide +kernel)
  have lk_164 := hts (.fieldLink RX4 164 "LockQuorum$Locks" "value" "[I") (by decide +kernel)
  have lk_190 := hts (.fieldLink RX4 190 "LockQuorum$Locks" "owner" "[I") (by decide +kernel)
  have hS : va_S (AB base) s.heap s.heap [] := va_S.rf
  have hB2 : ∀ (n : Nat) (v1 : Int32) (w : St), wpX4_agreesWithLog_L2 post n v1 w → ∀ (H : Heap) (locs : List Loc), PA D ca ad w H → va_S (AB base) s.heap H locs → ∀ ls : Array Slot, lv_has ls 3 [(0, .ref (ad 0)), (1, .int v1)] → W p l e (headSpec wsX4_agreesWithLog ({ frames := 2, cells := 0, slots := 0, locals := 46 } : Room)).room s m ([Value.ref (ad 0)].toArray) below meth c H locs 0 0 (MQ below (va_Qi post (Bp D ca ad) (AB base)) ([Value.ref (ad 0)].toArray) s 0 0 (AB base)) (F0 m 2 ls []) := by
    intro n
    induction n with
    | zero => intro v1 w hw; exact hw.elim
    | succ n ih2 =>
      have hB35 : ∀ (v1 : Int32) (s0 : Int32) (w : St), wpX4_agreesWithLog_B35 post (fun v1 w => wpX4_agreesWithLog_L2 post n v1 w) v1 s0 w → ∀ (H : Heap) (locs : List Loc), PA D ca ad w H → va_S (AB base) s.heap H locs → ∀ ls : Array Slot, lv_has ls 3 [(0, .ref (ad 0)), (1, .int v1)] → W p l e (headSpec wsX4_agreesWithLog ({ frames := 2, cells := 0, slots := 0, locals := 46 } : Room)).room s m ([Value.ref (ad 0)].toArray) below meth c H locs 0 0 (MQ below (va_Qi post (Bp D ca ad) (AB base)) ([Value.ref (ad 0)].toArray) s 0 0 (AB base)) (F0 m 35 ls [.int s0]) := by
        intro v1 s0 w hw H locs hP hS ls hl
        refine lv_istore_n (lv' := [(2, .int s0), (0, .ref (ad 0)), (1, .int v1)]) hx hb dX4_agreesWithLog_35 rfl hl (by decide) rfl (fun ls hl => ?_)
        refine lv_iload_n hx hb dX4_agreesWithLog_36 rfl (lv_at hl 0 rfl) ?_
        refine lv_aload_n hx hb dX4_agreesWithLog_37 rfl (lv_at hl 1 rfl) ?_
        refine va_get (D := D) (ci := 6) (v := .ref (ad 7)) (C := RX4) (T := TX4) (N := 6) hx hb hts in_X4 hown hK hP 0 (wg0 ca ad w) rfl 1 (by decide) lk_19 (fun _ h9 => h9) rfl dX4_agreesWithLog_38 ?_
        refine lv_iload_n hx hb dX4_agreesWithLog_41 rfl (lv_at hl 2 rfl) ?_
        refine lv_aload_n hx hb dX4_agreesWithLog_42 rfl (lv_at hl 1 rfl) ?_
        refine va_get (D := D) (ci := 6) (v := .int (w.1 64 0)) (C := RX4) (T := TX4) (N := 6) hx hb hts in_X4 hown hK hP 0 (wg0 ca ad w) rfl 4 (by decide) lk_44 (fun _ h9 => h9) rfl dX4_agreesWithLog_43 ?_
        refine va_calli (va_runV (As := [.int v1, .int (w.1 64 0)]) (rest := [.int s0]) ⟨hx, hb, hml, hown, hts⟩ (mX2_holderAt l D ca ad base hAd w v1 (w.1 64 0) _ hw) (cwV 2 hts gX4_agreesWithLog_X2_holderAt rfl rfl rfl (by decide +kernel) ⟨Nat.le_of_ble_eq_true rfl, Nat.le_of_ble_eq_true rfl⟩) (pv [.int v1, .int (w.1 64 0)] hK hP hbs hS rfl (wg7 ca ad w)) rfl rfl hl.1 rfl (lv_room (Nat.le_of_ble_eq_true rfl)) dX4_agreesWithLog_46 ⟨Nat.le_of_ble_eq_true rfl, Nat.le_of_ble_eq_true rfl⟩) hS (fun q _ h => h) (fun q h => h) (fun r_2 w_1 t H locs ht hvm hw hP hz1 hk1 hS => ?_)
        have hP : PA D ca ad w_1 H := by rw [← ht]; exact hP
        refine lv_icmp_ne (tgt := 72) hx hb dX4_agreesWithLog_49 (by decide) (fun c_3 => ?_) (fun c_3 => ?_)
        · have hw := hw.2 c_3
          refine lv_iconst (v := 0) hx hb dX4_agreesWithLog_72 (by decide) ?_
          exact W.zret (v := 0) hx hb hr (by decide) (fun t ht hW => ⟨⟨0, w_1, rfl, hw, by show PA D ca ad w_1 t.heap; rw [ht]; exact hP⟩, hS.F ht⟩) hS.2.2 dX4_agreesWithLog_73
        · have hw := hw.1 c_3
          refine lv_aload_n hx hb dX4_agreesWithLog_52 rfl (lv_at hl 1 rfl) ?_
          refine va_get (D := D) (ci := 6) (v := .ref (ad 13)) (C := RX4) (T := TX4) (N := 6) hx hb hts in_X4 hown hK hP 0 (wg0 ca ad w_1) rfl 2 (by decide) lk_26 (fun _ h9 => h9) rfl dX4_agreesWithLog_53 ?_
          refine va_get (D := D) (ci := 3) (v := .ref (ad 17)) (C := RX1) (T := TX1) (N := 6) hx hb hts in_X1 hown hK hP 13 (wg13 ca ad w_1) rfl 3 (by decide) lk_164 (fun _ h9 => h9) rfl dX4_agreesWithLog_56 ?_
          refine lv_iload_n hx hb dX4_agreesWithLog_59 rfl (lv_at hl 2 rfl) ?_
          obtain ⟨h_4, hw⟩ := hw
          refine va_iald hx hb hK hP 17 0 (wg17 ca ad w_1) rfl h_4 dX4_agreesWithLog_60 ?_
          refine lv_aload_n hx hb dX4_agreesWithLog_61 rfl (lv_at hl 1 rfl) ?_
          refine va_get (D := D) (ci := 6) (v := .ref (ad 7)) (C := RX4) (T := TX4) (N := 6) hx hb hts in_X4 hown hK hP 0 (wg0 ca ad w_1) rfl 1 (by decide) lk_19 (fun _ h9 => h9) rfl dX4_agreesWithLog_62 ?_
          refine lv_iload_n hx hb dX4_agreesWithLog_65 rfl (lv_at hl 2 rfl) ?_
          refine va_calli (va_runV (As := [.int v1]) (rest := [.int (w_1.1 17 (v1).toNatClampNeg)]) ⟨hx, hb, hml, hown, hts⟩ (mX2_lastValue l D ca ad base hAd w_1 v1 _ hw) (cwV 1 hts gX4_agreesWithLog_X2_lastValue rfl rfl rfl (by decide +kernel) ⟨Nat.le_of_ble_eq_true rfl, Nat.le_of_ble_eq_true rfl⟩) (pv [.int v1] hK hP hbs hS rfl (wg7 ca ad w_1)) rfl rfl hl.1 rfl (lv_room (Nat.le_of_ble_eq_true rfl)) dX4_agreesWithLog_66 ⟨Nat.le_of_ble_eq_true rfl, Nat.le_of_ble_eq_true rfl⟩) hS (fun q _ h => h) (fun q h => h) (fun r_6 w_5 t H locs ht hvm hw hP hz1 hk1 hS => ?_)
          have hP : PA D ca ad w_5 H := by rw [← ht]; exact hP
          refine lv_icmp_eq (tgt := 74) hx hb dX4_agreesWithLog_69 (by decide) (fun c_7 => ?_) (fun c_7 => ?_)
          · have hw := hw.1 c_7
            refine lv_iinc (v := (v1 + 1)) (lv' := [(1, .int (v1 + 1)), (2, .int s0), (0, .ref (ad 0))]) hx hb dX4_agreesWithLog_74 hl (k := 2) rfl rfl (by decide) rfl (fun ls hl => ?_)
            refine lv_goto (tgt := 2) hx hb dX4_agreesWithLog_77 (by decide) ?_
            exact ih2 (v1 + 1) w_5 hw _ _ hP hS ls (lv_sub hl [2, 0] rfl)
          · have hw := hw.2 c_7
            refine lv_iconst (v := 0) hx hb dX4_agreesWithLog_72 (by decide) ?_
            exact W.zret (v := 0) hx hb hr (by decide) (fun t ht hW => ⟨⟨0, w_5, rfl, hw, by show PA D ca ad w_5 t.heap; rw [ht]; exact hP⟩, hS.F ht⟩) hS.2.2 dX4_agreesWithLog_73
      intro v1 w hw H locs hP hS ls hl
      refine lv_iload_n hx hb dX4_agreesWithLog_2 rfl (lv_at hl 1 rfl) ?_
      refine lv_iconst (v := 4) hx hb dX4_agreesWithLog_3 (by decide) ?_
      refine lv_icmp_ge (tgt := 80) hx hb dX4_agreesWithLog_4 (by decide) (fun c_8 => ?_) (fun c_8 => ?_)
      · have hw := hw.1 c_8
        refine lv_iconst (v := 1) hx hb dX4_agreesWithLog_80 (by decide) ?_
        exact W.zret (v := 1) hx hb hr (by decide) (fun t ht hW => ⟨⟨1, w, rfl, hw, by show PA D ca ad w t.heap; rw [ht]; exact hP⟩, hS.F ht⟩) hS.2.2 dX4_agreesWithLog_81
      · have hw := hw.2 c_8
        refine lv_aload_n hx hb dX4_agreesWithLog_7 rfl (lv_at hl 0 rfl) ?_
        refine va_get (D := D) (ci := 6) (v := .ref (ad 13)) (C := RX4) (T := TX4) (N := 6) hx hb hts in_X4 hown hK hP 0 (wg0 ca ad w) rfl 2 (by decide) lk_26 (fun _ h9 => h9) rfl dX4_agreesWithLog_8 ?_
        refine lv_iload_n hx hb dX4_agreesWithLog_11 rfl (lv_at hl 1 rfl) ?_
        refine lv_aload_n hx hb dX4_agreesWithLog_12 rfl (lv_at hl 0 rfl) ?_
        refine va_get (D := D) (ci := 6) (v := .int (w.1 64 0)) (C := RX4) (T := TX4) (N := 6) hx hb hts in_X4 hown hK hP 0 (wg0 ca ad w) rfl 4 (by decide) lk_44 (fun _ h9 => h9) rfl dX4_agreesWithLog_13 ?_
        refine va_calli (va_runV (As := [.int v1, .int (w.1 64 0)]) (rest := []) ⟨hx, hb, hml, hown, hts⟩ (mX1_isFree l D ca ad base hAd w v1 (w.1 64 0) _ hw) (cwV 2 hts gX4_agreesWithLog_X1_isFree rfl rfl rfl (by decide +kernel) ⟨Nat.le_of_ble_eq_true rfl, Nat.le_of_ble_eq_true rfl⟩) (pv [.int v1, .int (w.1 64 0)] hK hP hbs hS rfl (wg13 ca ad w)) rfl rfl hl.1 rfl (lv_room (Nat.le_of_ble_eq_true rfl)) dX4_agreesWithLog_16 ⟨Nat.le_of_ble_eq_true rfl, Nat.le_of_ble_eq_true rfl⟩) hS (fun q _ h => h) (fun q h => h) (fun r_10 w_9 t H locs ht hvm hw hP hz1 hk1 hS => ?_)
        have hP : PA D ca ad w_9 H := by rw [← ht]; exact hP
        refine lv_if_eq (tgt := 26) hx hb dX4_agreesWithLog_19 (by decide) (fun c_11 => ?_) (fun c_11 => ?_)
        · have hw := hw.1 c_11
          refine lv_aload_n hx hb dX4_agreesWithLog_26 rfl (lv_at hl 0 rfl) ?_
          refine va_get (D := D) (ci := 6) (v := .ref (ad 13)) (C := RX4) (T := TX4) (N := 6) hx hb hts in_X4 hown hK hP 0 (wg0 ca ad w_9) rfl 2 (by decide) lk_26 (fun _ h9 => h9) rfl dX4_agreesWithLog_27 ?_
          refine va_get (D := D) (ci := 3) (v := .ref (ad 14)) (C := RX1) (T := TX1) (N := 6) hx hb hts in_X1 hown hK hP 13 (wg13 ca ad w_9) rfl 0 (by decide) lk_190 (fun _ h9 => h9) rfl dX4_agreesWithLog_30 ?_
          refine lv_iload_n hx hb dX4_agreesWithLog_33 rfl (lv_at hl 1 rfl) ?_
          obtain ⟨h_12, hw⟩ := hw
          refine va_iald hx hb hK hP 14 0 (wg14 ca ad w_9) rfl h_12 dX4_agreesWithLog_34 ?_
          exact hB35 v1 (w_9.1 14 (v1).toNatClampNeg) w_9 hw _ _ hP hS ls (lv_sub hl [0, 1] rfl)
        · have hw := hw.2 c_11
          refine lv_iconst (v := (-1)) hx hb dX4_agreesWithLog_22 (by decide) ?_
          refine lv_goto (tgt := 35) hx hb dX4_agreesWithLog_23 (by decide) ?_
          exact hB35 v1 (-1) w_9 hw _ _ hP hS ls (lv_sub hl [0, 1] rfl)
  have hl := lv_entry ([.ref (ad 0)]) (n := 3) (Nat.le_of_ble_eq_true rfl)
  rw [lg_entry_eq]
  generalize (lg_sl ([.ref (ad 0)]) ++ List.replicate (3 - (lg_sl ([.ref (ad 0)])).length) Slot.unset).toArray = ls at hl ⊢
  have hl : lv_has ls 3 [(0, .ref (ad 0))] := hl
  refine lv_iconst (v := 0) hx hb dX4_agreesWithLog_0 (by decide) ?_
  refine lv_istore_n (lv' := [(1, .int 0), (0, .ref (ad 0))]) hx hb dX4_agreesWithLog_1 rfl hl (by decide) rfl (fun ls hl => ?_)
  obtain ⟨n_2, hw⟩ := hw
  exact hB2 n_2 0 w hw _ _ hP hS ls (lv_sub hl [1, 0] rfl)
set_option maxHeartbeats 4000000 in
set_option maxRecDepth 100000 in
def wpX4_isClaimedOnce_L2 (post : Int32 → St → Prop) : Nat → Int32 → St → Prop
  | 0, _, _ => False
  | n + 1, v1, w => (4 ≤ v1 → (post 1 w)) ∧ (¬ (4 ≤ v1) → (wpX0_countClaims v1 (w.1 64 0) w (fun r_3 w_2 => (r_3 ≤ 1 → (wpX4_isClaimedOnce_L2 post n (v1 + 1) w_2)) ∧ (¬ (r_3 ≤ 1) → (post 0 w_2)))))
set_option maxHeartbeats 4000000 in
set_option maxRecDepth 100000 in
def wpX4_isClaimedOnce (w : St) (post : Int32 → St → Prop) : Prop := ∃ n : Nat, wpX4_isClaimedOnce_L2 post n 0 w
set_option maxHeartbeats 4000000 in
set_option maxRecDepth 100000 in
theorem mX4_isClaimedOnce (l : Launch) (D : va_G) (ca : Nat → ClassId) (ad : Nat → Nat) (base : Nat) (hAd : okA base ad) (w : St) (post : Int32 → St → Prop) (hw : wpX4_isClaimedOnce w post) : Met l yX4_isClaimedOnce wsX4_isClaimedOnce ({ frames := 3, cells := 0, slots := 0, locals := 70 } : Room) (va_Pc [.ref (ad 0)] (BU D ca ad base w)) (va_Qi post (Bp D ca ad) (AB base)) 0 0 (AB base) := by
  refine Met.ofW (cc := cX4_isClaimedOnce) (maxL := 2) (ret := (some .boolean)) (by decide) rfl ?_
  intro p e s m args below meth c s₁ B hml hv
  obtain ⟨rfl, hbs, hP, hK⟩ := hv
  have hx := B.exec
  have hb := B.bytes
  have hr := B.returns
  have hts := atoms_spec (ws := wsX4_isClaimedOnce) B.pre
  have hown : s.vm.findClass RX4 = some m.cls := findClass_of_methodNamed B.named
  have hlocks := B.notSynchronized
  have in_X4 : ∀ w ∈ wsX40, w ∈ wsX4_isClaimedOnce := by decide +kernel
  have lk_33 := hts (.fieldLink RX4 33 "LockQuorum" "clients" "LLockQuorum$Clients;") (by decide +kernel)
  have lk_44 := hts (.fieldLink RX4 44 "LockQuorum" "now" "I") (by decide +kernel)
  have hS : va_S (AB base) s.heap s.heap [] := va_S.rf
  have hB2 : ∀ (n : Nat) (v1 : Int32) (w : St), wpX4_isClaimedOnce_L2 post n v1 w → ∀ (H : Heap) (locs : List Loc), PA D ca ad w H → va_S (AB base) s.heap H locs → ∀ ls : Array Slot, lv_has ls 2 [(0, .ref (ad 0)), (1, .int v1)] → W p l e (headSpec wsX4_isClaimedOnce ({ frames := 3, cells := 0, slots := 0, locals := 70 } : Room)).room s m ([Value.ref (ad 0)].toArray) below meth c H locs 0 0 (MQ below (va_Qi post (Bp D ca ad) (AB base)) ([Value.ref (ad 0)].toArray) s 0 0 (AB base)) (F0 m 2 ls []) := by
    intro n
    induction n with
    | zero => intro v1 w hw; exact hw.elim
    | succ n ih2 =>
      intro v1 w hw H locs hP hS ls hl
      refine lv_iload_n hx hb dX4_isClaimedOnce_2 rfl (lv_at hl 1 rfl) ?_
      refine lv_iconst (v := 4) hx hb dX4_isClaimedOnce_3 (by decide) ?_
      refine lv_icmp_ge (tgt := 31) hx hb dX4_isClaimedOnce_4 (by decide) (fun c_1 => ?_) (fun c_1 => ?_)
      · have hw := hw.1 c_1
        refine lv_iconst (v := 1) hx hb dX4_isClaimedOnce_31 (by decide) ?_
        exact W.zret (v := 1) hx hb hr (by decide) (fun t ht hW => ⟨⟨1, w, rfl, hw, by show PA D ca ad w t.heap; rw [ht]; exact hP⟩, hS.F ht⟩) hS.2.2 dX4_isClaimedOnce_32
      · have hw := hw.2 c_1
        refine lv_aload_n hx hb dX4_isClaimedOnce_7 rfl (lv_at hl 0 rfl) ?_
        refine va_get (D := D) (ci := 6) (v := .ref (ad 24)) (C := RX4) (T := TX4) (N := 6) hx hb hts in_X4 hown hK hP 0 (wg0 ca ad w) rfl 3 (by decide) lk_33 (fun _ h9 => h9) rfl dX4_isClaimedOnce_8 ?_
        refine lv_iload_n hx hb dX4_isClaimedOnce_11 rfl (lv_at hl 1 rfl) ?_
        refine lv_aload_n hx hb dX4_isClaimedOnce_12 rfl (lv_at hl 0 rfl) ?_
        refine va_get (D := D) (ci := 6) (v := .int (w.1 64 0)) (C := RX4) (T := TX4) (N := 6) hx hb hts in_X4 hown hK hP 0 (wg0 ca ad w) rfl 4 (by decide) lk_44 (fun _ h9 => h9) rfl dX4_isClaimedOnce_13 ?_
        refine va_calli (va_runV (As := [.int v1, .int (w.1 64 0)]) (rest := []) ⟨hx, hb, hml, hown, hts⟩ (mX0_countClaims l D ca ad base hAd w v1 (w.1 64 0) _ hw) (cwV 2 hts gX4_isClaimedOnce_X0_countClaims rfl rfl rfl (by decide +kernel) ⟨Nat.le_of_ble_eq_true rfl, Nat.le_of_ble_eq_true rfl⟩) (pv [.int v1, .int (w.1 64 0)] hK hP hbs hS rfl (wg24 ca ad w)) rfl rfl hl.1 rfl (lv_room (Nat.le_of_ble_eq_true rfl)) dX4_isClaimedOnce_16 ⟨Nat.le_of_ble_eq_true rfl, Nat.le_of_ble_eq_true rfl⟩) hS (fun q _ h => h) (fun q h => h) (fun r_3 w_2 t H locs ht hvm hw hP hz1 hk1 hS => ?_)
        have hP : PA D ca ad w_2 H := by rw [← ht]; exact hP
        refine lv_iconst (v := 1) hx hb dX4_isClaimedOnce_19 (by decide) ?_
        refine lv_icmp_le (tgt := 25) hx hb dX4_isClaimedOnce_20 (by decide) (fun c_4 => ?_) (fun c_4 => ?_)
        · have hw := hw.1 c_4
          refine lv_iinc (v := (v1 + 1)) (lv' := [(1, .int (v1 + 1)), (0, .ref (ad 0))]) hx hb dX4_isClaimedOnce_25 hl (k := 1) rfl rfl (by decide) rfl (fun ls hl => ?_)
          refine lv_goto (tgt := 2) hx hb dX4_isClaimedOnce_28 (by decide) ?_
          exact ih2 (v1 + 1) w_2 hw _ _ hP hS ls (lv_sub hl [1, 0] rfl)
        · have hw := hw.2 c_4
          refine lv_iconst (v := 0) hx hb dX4_isClaimedOnce_23 (by decide) ?_
          exact W.zret (v := 0) hx hb hr (by decide) (fun t ht hW => ⟨⟨0, w_2, rfl, hw, by show PA D ca ad w_2 t.heap; rw [ht]; exact hP⟩, hS.F ht⟩) hS.2.2 dX4_isClaimedOnce_24
  have hl := lv_entry ([.ref (ad 0)]) (n := 2) (Nat.le_of_ble_eq_true rfl)
  rw [lg_entry_eq]
  generalize (lg_sl ([.ref (ad 0)]) ++ List.replicate (2 - (lg_sl ([.ref (ad 0)])).length) Slot.unset).toArray = ls at hl ⊢
  have hl : lv_has ls 2 [(0, .ref (ad 0))] := hl
  refine lv_iconst (v := 0) hx hb dX4_isClaimedOnce_0 (by decide) ?_
  refine lv_istore_n (lv' := [(1, .int 0), (0, .ref (ad 0))]) hx hb dX4_isClaimedOnce_1 rfl hl (by decide) rfl (fun ls hl => ?_)
  obtain ⟨n_2, hw⟩ := hw
  exact hB2 n_2 0 w hw _ _ hP hS ls (lv_sub hl [1, 0] rfl)
set_option maxHeartbeats 4000000 in
set_option maxRecDepth 100000 in
def wpX4_isOneOrder (w : St) (post : Int32 → St → Prop) : Prop := wpX2_isInTermOrder w (fun r_2 w_1 => (r_2 = 0 → (post 0 w_1)) ∧ (¬ (r_2 = 0) → (wpX4_isKnownByMost w_1 (fun r_5 w_4 => (r_5 = 0 → (post 0 w_4)) ∧ (¬ (r_5 = 0) → (wpX4_agreesWithLog w_4 (fun r_8 w_7 => (r_8 = 0 → (post 0 w_7)) ∧ (¬ (r_8 = 0) → (wpX4_isClaimedOnce w_7 (fun r_11 w_10 => (r_11 = 0 → (post 0 w_10)) ∧ (¬ (r_11 = 0) → (post 1 w_10))))))))))))
set_option maxHeartbeats 4000000 in
set_option maxRecDepth 100000 in
theorem mX4_isOneOrder (l : Launch) (D : va_G) (ca : Nat → ClassId) (ad : Nat → Nat) (base : Nat) (hAd : okA base ad) (w : St) (post : Int32 → St → Prop) (hw : wpX4_isOneOrder w post) : Met l yX4_isOneOrder wsX4_isOneOrder ({ frames := 4, cells := 0, slots := 0, locals := 91 } : Room) (va_Pc [.ref (ad 0)] (BU D ca ad base w)) (va_Qi post (Bp D ca ad) (AB base)) 0 0 (AB base) := by
  refine Met.ofW (cc := cX4_isOneOrder) (maxL := 1) (ret := (some .boolean)) (by decide) rfl ?_
  intro p e s m args below meth c s₁ B hml hv
  obtain ⟨rfl, hbs, hP, hK⟩ := hv
  have hx := B.exec
  have hb := B.bytes
  have hr := B.returns
  have hts := atoms_spec (ws := wsX4_isOneOrder) B.pre
  have hown : s.vm.findClass RX4 = some m.cls := findClass_of_methodNamed B.named
  have hlocks := B.notSynchronized
  have in_X4 : ∀ w ∈ wsX40, w ∈ wsX4_isOneOrder := by decide +kernel
  have lk_19 := hts (.fieldLink RX4 19 "LockQuorum" "log" "LLockQuorum$Log;") (by decide +kernel)
  have hS : va_S (AB base) s.heap s.heap [] := va_S.rf
  have hl := lv_entry ([.ref (ad 0)]) (n := 1) (Nat.le_of_ble_eq_true rfl)
  rw [lg_entry_eq]
  generalize (lg_sl ([.ref (ad 0)]) ++ List.replicate (1 - (lg_sl ([.ref (ad 0)])).length) Slot.unset).toArray = ls at hl ⊢
  have hl : lv_has ls 1 [(0, .ref (ad 0))] := hl
  refine lv_aload_n hx hb dX4_isOneOrder_0 rfl (lv_at hl 0 rfl) ?_
  refine va_get (D := D) (ci := 6) (v := .ref (ad 7)) (C := RX4) (T := TX4) (N := 6) hx hb hts in_X4 hown hK hP 0 (wg0 ca ad w) rfl 1 (by decide) lk_19 (fun _ h9 => h9) rfl dX4_isOneOrder_1 ?_
  refine va_calli (va_runV (As := []) (rest := []) ⟨hx, hb, hml, hown, hts⟩ (mX2_isInTermOrder l D ca ad base hAd w _ hw) (cwV 0 hts gX4_isOneOrder_X2_isInTermOrder rfl rfl rfl (by decide +kernel) ⟨Nat.le_of_ble_eq_true rfl, Nat.le_of_ble_eq_true rfl⟩) (pv [] hK hP hbs hS rfl (wg7 ca ad w)) rfl rfl hl.1 rfl (lv_room (Nat.le_of_ble_eq_true rfl)) dX4_isOneOrder_4 ⟨Nat.le_of_ble_eq_true rfl, Nat.le_of_ble_eq_true rfl⟩) hS (fun q _ h => h) (fun q h => h) (fun r_2 w_1 t H locs ht hvm hw hP hz1 hk1 hS => ?_)
  have hP : PA D ca ad w_1 H := by rw [← ht]; exact hP
  refine lv_if_eq (tgt := 35) hx hb dX4_isOneOrder_7 (by decide) (fun c_3 => ?_) (fun c_3 => ?_)
  · have hw := hw.1 c_3
    refine lv_iconst (v := 0) hx hb dX4_isOneOrder_35 (by decide) ?_
    exact W.zret (v := 0) hx hb hr (by decide) (fun t ht hW => ⟨⟨0, w_1, rfl, hw, by show PA D ca ad w_1 t.heap; rw [ht]; exact hP⟩, hS.F ht⟩) hS.2.2 dX4_isOneOrder_36
  · have hw := hw.2 c_3
    refine lv_aload_n hx hb dX4_isOneOrder_10 rfl (lv_at hl 0 rfl) ?_
    refine va_calli (va_runV (As := []) (rest := []) ⟨hx, hb, hml, hown, hts⟩ (mX4_isKnownByMost l D ca ad base hAd w_1 _ hw) (cwV 0 hts gX4_isOneOrder_X4_isKnownByMost rfl rfl rfl (by decide +kernel) ⟨Nat.le_of_ble_eq_true rfl, Nat.le_of_ble_eq_true rfl⟩) (pv [] hK hP hbs hS rfl (wg0 ca ad w_1)) rfl rfl hl.1 rfl (lv_room (Nat.le_of_ble_eq_true rfl)) dX4_isOneOrder_11 ⟨Nat.le_of_ble_eq_true rfl, Nat.le_of_ble_eq_true rfl⟩) hS (fun q _ h => h) (fun q h => h) (fun r_5 w_4 t H locs ht hvm hw hP hz1 hk1 hS => ?_)
    have hP : PA D ca ad w_4 H := by rw [← ht]; exact hP
    refine lv_if_eq (tgt := 35) hx hb dX4_isOneOrder_14 (by decide) (fun c_6 => ?_) (fun c_6 => ?_)
    · have hw := hw.1 c_6
      refine lv_iconst (v := 0) hx hb dX4_isOneOrder_35 (by decide) ?_
      exact W.zret (v := 0) hx hb hr (by decide) (fun t ht hW => ⟨⟨0, w_4, rfl, hw, by show PA D ca ad w_4 t.heap; rw [ht]; exact hP⟩, hS.F ht⟩) hS.2.2 dX4_isOneOrder_36
    · have hw := hw.2 c_6
      refine lv_aload_n hx hb dX4_isOneOrder_17 rfl (lv_at hl 0 rfl) ?_
      refine va_calli (va_runV (As := []) (rest := []) ⟨hx, hb, hml, hown, hts⟩ (mX4_agreesWithLog l D ca ad base hAd w_4 _ hw) (cwV 0 hts gX4_isOneOrder_X4_agreesWithLog rfl rfl rfl (by decide +kernel) ⟨Nat.le_of_ble_eq_true rfl, Nat.le_of_ble_eq_true rfl⟩) (pv [] hK hP hbs hS rfl (wg0 ca ad w_4)) rfl rfl hl.1 rfl (lv_room (Nat.le_of_ble_eq_true rfl)) dX4_isOneOrder_18 ⟨Nat.le_of_ble_eq_true rfl, Nat.le_of_ble_eq_true rfl⟩) hS (fun q _ h => h) (fun q h => h) (fun r_8 w_7 t H locs ht hvm hw hP hz1 hk1 hS => ?_)
      have hP : PA D ca ad w_7 H := by rw [← ht]; exact hP
      refine lv_if_eq (tgt := 35) hx hb dX4_isOneOrder_21 (by decide) (fun c_9 => ?_) (fun c_9 => ?_)
      · have hw := hw.1 c_9
        refine lv_iconst (v := 0) hx hb dX4_isOneOrder_35 (by decide) ?_
        exact W.zret (v := 0) hx hb hr (by decide) (fun t ht hW => ⟨⟨0, w_7, rfl, hw, by show PA D ca ad w_7 t.heap; rw [ht]; exact hP⟩, hS.F ht⟩) hS.2.2 dX4_isOneOrder_36
      · have hw := hw.2 c_9
        refine lv_aload_n hx hb dX4_isOneOrder_24 rfl (lv_at hl 0 rfl) ?_
        refine va_calli (va_runV (As := []) (rest := []) ⟨hx, hb, hml, hown, hts⟩ (mX4_isClaimedOnce l D ca ad base hAd w_7 _ hw) (cwV 0 hts gX4_isOneOrder_X4_isClaimedOnce rfl rfl rfl (by decide +kernel) ⟨Nat.le_of_ble_eq_true rfl, Nat.le_of_ble_eq_true rfl⟩) (pv [] hK hP hbs hS rfl (wg0 ca ad w_7)) rfl rfl hl.1 rfl (lv_room (Nat.le_of_ble_eq_true rfl)) dX4_isOneOrder_25 ⟨Nat.le_of_ble_eq_true rfl, Nat.le_of_ble_eq_true rfl⟩) hS (fun q _ h => h) (fun q h => h) (fun r_11 w_10 t H locs ht hvm hw hP hz1 hk1 hS => ?_)
        have hP : PA D ca ad w_10 H := by rw [← ht]; exact hP
        refine lv_if_eq (tgt := 35) hx hb dX4_isOneOrder_28 (by decide) (fun c_12 => ?_) (fun c_12 => ?_)
        · have hw := hw.1 c_12
          refine lv_iconst (v := 0) hx hb dX4_isOneOrder_35 (by decide) ?_
          exact W.zret (v := 0) hx hb hr (by decide) (fun t ht hW => ⟨⟨0, w_10, rfl, hw, by show PA D ca ad w_10 t.heap; rw [ht]; exact hP⟩, hS.F ht⟩) hS.2.2 dX4_isOneOrder_36
        · have hw := hw.2 c_12
          refine lv_iconst (v := 1) hx hb dX4_isOneOrder_31 (by decide) ?_
          refine lv_goto (tgt := 36) hx hb dX4_isOneOrder_32 (by decide) ?_
          exact W.zret (v := 1) hx hb hr (by decide) (fun t ht hW => ⟨⟨1, w_10, rfl, hw, by show PA D ca ad w_10 t.heap; rw [ht]; exact hP⟩, hS.F ht⟩) hS.2.2 dX4_isOneOrder_36
