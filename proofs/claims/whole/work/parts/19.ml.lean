set_option maxHeartbeats 4000000 in
set_option maxRecDepth 100000 in
def wpL_pass (a1 : Int32) (w : St) (post : Int32 → St → Prop) : Prop := wpX4_pass a1 w (fun r_2 w_1 => (vp_in 0 1) ∧ (∀ w_4 : St, w_4 = (uO w_1 (vp_updL w_1.2.2.1 (0 : Int32).toNatClampNeg ((r_2).toInt64))) → post 0 w_4)) (fun E w_x => (E = "java/lang/IllegalArgumentException" ∧ (post 1 w_x)))
set_option maxHeartbeats 4000000 in
set_option maxRecDepth 100000 in
theorem mL_pass (l : Launch) (D : va_G) (ca : Nat → ClassId) (ad : Nat → Nat) (base : Nat) (hAd : okA base ad) (w : St) (a1 : Int32) (post : Int32 → St → Prop) (hw : wpL_pass a1 w post) (hl9 : l.stackTraces = false) : Met l yL_pass wsL_pass ({ frames := 7, cells := 1, slots := 6, locals := 111 } : Room) (va_Pc [.ref (ad 0), .int a1, .ref (ad 59)] (BX D ca ad base w)) (va_Qi post (Bp D ca ad) (AB base)) 1 6 (AB base) := by
  refine va_MetW (cc := cL_pass) (maxL := 4) (ret := (some .int)) (by decide) rfl ?_
  intro p e s m args below meth c s₁ B hml hv
  obtain ⟨rfl, ⟨hbs, hP, hK⟩, hXP⟩ := hv
  have hx := B.exec
  have hb := B.bytes
  have hr := B.returns
  have hts := atoms_spec (ws := wsL_pass) B.pre
  have hown : s.vm.findClass RL = some m.cls := findClass_of_methodNamed B.named
  have hlocks := B.notSynchronized
  have hTab : c.exceptionTable.toList = tableOf [(0, 9, 12, 13)] := vx_table (x := yL_pass) B (hts (.codeWith yL_pass cL_pass 4 (some .int) [(0, 9, 12, 13)]) (by decide +kernel))
  have hS : va_S (AB base) s.heap s.heap [] := va_S.rf
  have hl := lv_entry ([.ref (ad 0), .int a1, .ref (ad 59)]) (n := 4) (Nat.le_of_ble_eq_true rfl)
  rw [lg_entry_eq]
  generalize (lg_sl ([.ref (ad 0), .int a1, .ref (ad 59)]) ++ List.replicate (4 - (lg_sl ([.ref (ad 0), .int a1, .ref (ad 59)])).length) Slot.unset).toArray = ls at hl ⊢
  have hl : lv_has ls 4 [(0, .ref (ad 0)), (1, .int a1), (2, .ref (ad 59))] := hl
  refine lv_aload_n hx hb dL_pass_0 rfl (lv_at hl 2 rfl) ?_
  refine lv_iconst (v := 0) hx hb dL_pass_1 (by decide) ?_
  refine lv_aload_n hx hb dL_pass_2 rfl (lv_at hl 0 rfl) ?_
  refine lv_iload_n hx hb dL_pass_3 rfl (lv_at hl 1 rfl) ?_
  refine vx_calli (vx_runV (As := [.int a1]) (rest := [.int 0, .ref (ad 59)]) ⟨hx, hb, hml, hown, hts⟩ (mX4_pass l D ca ad base hAd w a1 _ _ hw hl9) (cwV 1 hts gL_pass_X4_pass rfl rfl rfl (by decide +kernel) ⟨Nat.le_of_ble_eq_true rfl, Nat.le_of_ble_eq_true rfl⟩) (pvx [.int a1] hK hXP hP hbs hS rfl (wg0 ca ad w)) rfl rfl hl.1 rfl (lv_room (Nat.le_of_ble_eq_true rfl)) dL_pass_4 ⟨Nat.le_of_ble_eq_true rfl, Nat.le_of_ble_eq_true rfl⟩) hS (fun q _ h => h) (fun q h => h) (fun q _ h => h) (fun E ce q9 u t H locs ht hvm hw hB hz1 hk1 hS hce hcv hcl => ?_) (fun r_2 w_1 t H locs ht hvm hw hP hz1 hk1 hS => ?_)
  · obtain ⟨e1, hB⟩ := hB
    obtain ⟨w_x, ew⟩ : ∃ z, z = u.2 := ⟨_, rfl⟩
    have hP : PA D ca ad w_x H := by rw [ew, ← ht]; exact hB
    rw [← ew] at hw
    obtain ⟨e9, hw⟩ := hw
    obtain rfl : E = "java/lang/IllegalArgumentException" := e1.trans e9
    refine vx_catch (own := RL) (name := "java/lang/IllegalArgumentException") (E := "java/lang/IllegalArgumentException") hown [] ⟨0, 9, 12, 13⟩ [] (by rw [hTab]; rfl) (fun z hz => nomatch hz) (by decide) (by decide) (hts (.classLink RL 13 "java/lang/IllegalArgumentException") (by decide +kernel)) (va_Nw.use rfl (hXP.2.2.1 (.castable "java/lang/IllegalArgumentException" "java/lang/IllegalArgumentException") (List.mem_of_getElem? (i := 0) rfl))) hce hcv hcl ?_
    refine lv_astore_n (lv' := [(3, .ref q9), (0, .ref (ad 0)), (1, .int a1), (2, .ref (ad 59))]) hx hb dL_pass_12 rfl hl (by decide) rfl (fun ls hl => ?_)
    refine lv_iconst (v := 1) hx hb dL_pass_13 (by decide) ?_
    exact W.iret (v := 1) hx hb hr (fun t ht hW => ⟨⟨1, w_x, rfl, hw, by show PA D ca ad w_x t.heap; rw [ht]; exact hP⟩, hS.F ht⟩) hS.2.2 dL_pass_14
  have hP : PA D ca ad w_1 H := by rw [← ht]; exact hP
  refine lv_i2l (v := (r_2).toInt64) hx hb dL_pass_7 rfl ?_
  obtain ⟨h_3, hw⟩ := hw
  refine va_last hx hb hK hP (DA hAd) hS 59 3 (wg59 ca ad w_1) rfl h_3 dL_pass_8 (fun H locs hP hD hS => ?_)
  obtain ⟨w_4, e_5⟩ : ∃ z : St, z = (uO w_1 (vp_updL w_1.2.2.1 (0 : Int32).toNatClampNeg ((r_2).toInt64))) := ⟨_, rfl⟩
  have hP : PA D ca ad w_4 H := by rw [e_5]; exact wu59 hP
  have hw := hw w_4 e_5
  refine lv_goto (tgt := 15) hx hb dL_pass_9 (by decide) ?_
  refine lv_iconst (v := 0) hx hb dL_pass_15 (by decide) ?_
  exact W.iret (v := 0) hx hb hr (fun t ht hW => ⟨⟨0, w_4, rfl, hw, by show PA D ca ad w_4 t.heap; rw [ht]; exact hP⟩, hS.F ht⟩) hS.2.2 dL_pass_16
set_option maxHeartbeats 4000000 in
set_option maxRecDepth 100000 in
def wpL_setDown_B16 (a1 : Int32) (a2 : Int32) (post : Int32 → St → Prop) (s0 : Int64) (s1 : Int32) (w : St) : Prop := (vp_in s1 1) ∧ (∀ w_2 : St, w_2 = (uO w (vp_updL w.2.2.1 (s1).toNatClampNeg s0)) → post 0 w_2)
set_option maxHeartbeats 4000000 in
set_option maxRecDepth 100000 in
def wpL_setDown (a1 : Int32) (a2 : Int32) (w : St) (post : Int32 → St → Prop) : Prop := wpX4_setDown a1 a2 w (fun r_5 w_4 => (r_5 = 0 → (wpL_setDown_B16 a1 a2 post 0 0 w_4)) ∧ (¬ (r_5 = 0) → (wpL_setDown_B16 a1 a2 post 1 0 w_4))) (fun E w_x => (E = "java/lang/IndexOutOfBoundsException" ∧ (post 1 w_x)))
set_option maxHeartbeats 4000000 in
set_option maxRecDepth 100000 in
theorem mL_setDown (l : Launch) (D : va_G) (ca : Nat → ClassId) (ad : Nat → Nat) (base : Nat) (hAd : okA base ad) (w : St) (a1 : Int32) (a2 : Int32) (post : Int32 → St → Prop) (hw : wpL_setDown a1 a2 w post) (hl9 : l.stackTraces = false) : Met l yL_setDown wsL_setDown ({ frames := 8, cells := 1, slots := 6, locals := 134 } : Room) (va_Pc [.ref (ad 0), .int a1, .int a2, .ref (ad 59)] (BX D ca ad base w)) (va_Qi post (Bp D ca ad) (AB base)) 1 6 (AB base) := by
  refine va_MetW (cc := cL_setDown) (maxL := 5) (ret := (some .int)) (by decide) rfl ?_
  intro p e s m args below meth c s₁ B hml hv
  obtain ⟨rfl, ⟨hbs, hP, hK⟩, hXP⟩ := hv
  have hx := B.exec
  have hb := B.bytes
  have hr := B.returns
  have hts := atoms_spec (ws := wsL_setDown) B.pre
  have hown : s.vm.findClass RL = some m.cls := findClass_of_methodNamed B.named
  have hlocks := B.notSynchronized
  have hTab : c.exceptionTable.toList = tableOf [(0, 17, 20, 19)] := vx_table (x := yL_setDown) B (hts (.codeWith yL_setDown cL_setDown 5 (some .int) [(0, 17, 20, 19)]) (by decide +kernel))
  have hS : va_S (AB base) s.heap s.heap [] := va_S.rf
  have hB16 : ∀ (s0 : Int64) (s1 : Int32) (w : St), wpL_setDown_B16 a1 a2 post s0 s1 w → ∀ (H : Heap) (locs : List Loc), PA D ca ad w H → va_S (AB base) s.heap H locs → ∀ ls : Array Slot, lv_has ls 5 [] → W p l e (headSpec wsL_setDown ({ frames := 8, cells := 1, slots := 6, locals := 134 } : Room)).room s m ([Value.ref (ad 0), Value.int a1, Value.int a2, Value.ref (ad 59)].toArray) below meth c H locs 1 6 (MQ below (va_Qi post (Bp D ca ad) (AB base)) ([Value.ref (ad 0), Value.int a1, Value.int a2, Value.ref (ad 59)].toArray) s 1 6 (AB base)) (F0 m 16 ls [.long s0, .int s1, .ref (ad 59)]) := by
    intro s0 s1 w hw H locs hP hS ls hl
    obtain ⟨h_1, hw⟩ := hw
    refine va_last hx hb hK hP (DA hAd) hS 59 3 (wg59 ca ad w) rfl h_1 dL_setDown_16 (fun H locs hP hD hS => ?_)
    obtain ⟨w_2, e_3⟩ : ∃ z : St, z = (uO w (vp_updL w.2.2.1 (s1).toNatClampNeg s0)) := ⟨_, rfl⟩
    have hP : PA D ca ad w_2 H := by rw [e_3]; exact wu59 hP
    have hw := hw w_2 e_3
    refine lv_goto (tgt := 24) hx hb dL_setDown_17 (by decide) ?_
    refine lv_iconst (v := 0) hx hb dL_setDown_24 (by decide) ?_
    exact W.iret (v := 0) hx hb hr (fun t ht hW => ⟨⟨0, w_2, rfl, hw, by show PA D ca ad w_2 t.heap; rw [ht]; exact hP⟩, hS.F ht⟩) hS.2.2 dL_setDown_25
  have hl := lv_entry ([.ref (ad 0), .int a1, .int a2, .ref (ad 59)]) (n := 5) (Nat.le_of_ble_eq_true rfl)
  rw [lg_entry_eq]
  generalize (lg_sl ([.ref (ad 0), .int a1, .int a2, .ref (ad 59)]) ++ List.replicate (5 - (lg_sl ([.ref (ad 0), .int a1, .int a2, .ref (ad 59)])).length) Slot.unset).toArray = ls at hl ⊢
  have hl : lv_has ls 5 [(0, .ref (ad 0)), (1, .int a1), (2, .int a2), (3, .ref (ad 59))] := hl
  refine lv_aload_n hx hb dL_setDown_0 rfl (lv_at hl 3 rfl) ?_
  refine lv_iconst (v := 0) hx hb dL_setDown_1 (by decide) ?_
  refine lv_aload_n hx hb dL_setDown_2 rfl (lv_at hl 0 rfl) ?_
  refine lv_iload_n hx hb dL_setDown_3 rfl (lv_at hl 1 rfl) ?_
  refine lv_iload_n hx hb dL_setDown_4 rfl (lv_at hl 2 rfl) ?_
  refine vx_calli (vx_runV (As := [.int a1, .int a2]) (rest := [.int 0, .ref (ad 59)]) ⟨hx, hb, hml, hown, hts⟩ (mX4_setDown l D ca ad base hAd w a1 a2 _ _ hw hl9) (cwV 2 hts gL_setDown_X4_setDown rfl rfl rfl (by decide +kernel) ⟨Nat.le_of_ble_eq_true rfl, Nat.le_of_ble_eq_true rfl⟩) (pvx [.int a1, .int a2] hK hXP hP hbs hS rfl (wg0 ca ad w)) rfl rfl hl.1 rfl (lv_room (Nat.le_of_ble_eq_true rfl)) dL_setDown_5 ⟨Nat.le_of_ble_eq_true rfl, Nat.le_of_ble_eq_true rfl⟩) hS (fun q _ h => h) (fun q h => h) (fun q _ h => h) (fun E ce q9 u t H locs ht hvm hw hB hz1 hk1 hS hce hcv hcl => ?_) (fun r_5 w_4 t H locs ht hvm hw hP hz1 hk1 hS => ?_)
  · obtain ⟨e1, hB⟩ := hB
    obtain ⟨w_x, ew⟩ : ∃ z, z = u.2 := ⟨_, rfl⟩
    have hP : PA D ca ad w_x H := by rw [ew, ← ht]; exact hB
    rw [← ew] at hw
    obtain ⟨e9, hw⟩ := hw
    obtain rfl : E = "java/lang/IndexOutOfBoundsException" := e1.trans e9
    refine vx_catch (own := RL) (name := "java/lang/IndexOutOfBoundsException") (E := "java/lang/IndexOutOfBoundsException") hown [] ⟨0, 17, 20, 19⟩ [] (by rw [hTab]; rfl) (fun z hz => nomatch hz) (by decide) (by decide) (hts (.classLink RL 19 "java/lang/IndexOutOfBoundsException") (by decide +kernel)) (va_Nw.use rfl (hXP.2.2.1 (.castable "java/lang/IndexOutOfBoundsException" "java/lang/IndexOutOfBoundsException") (List.mem_of_getElem? (i := 1) rfl))) hce hcv hcl ?_
    refine lv_astore (lv' := [(4, .ref q9), (0, .ref (ad 0)), (1, .int a1), (2, .int a2), (3, .ref (ad 59))]) hx hb dL_setDown_20 hl (by decide) rfl (fun ls hl => ?_)
    refine lv_iconst (v := 1) hx hb dL_setDown_22 (by decide) ?_
    exact W.iret (v := 1) hx hb hr (fun t ht hW => ⟨⟨1, w_x, rfl, hw, by show PA D ca ad w_x t.heap; rw [ht]; exact hP⟩, hS.F ht⟩) hS.2.2 dL_setDown_23
  have hP : PA D ca ad w_4 H := by rw [← ht]; exact hP
  refine lv_if_eq (tgt := 15) hx hb dL_setDown_8 (by decide) (fun c_6 => ?_) (fun c_6 => ?_)
  · have hw := hw.1 c_6
    refine lv_lconst (v := 0) hx hb dL_setDown_15 (by decide) ?_
    exact hB16 0 0 w_4 hw _ _ hP hS ls (lv_sub hl [] rfl)
  · have hw := hw.2 c_6
    refine lv_lconst (v := 1) hx hb dL_setDown_11 (by decide) ?_
    refine lv_goto (tgt := 16) hx hb dL_setDown_12 (by decide) ?_
    exact hB16 1 0 w_4 hw _ _ hP hS ls (lv_sub hl [] rfl)
set_option maxHeartbeats 4000000 in
set_option maxRecDepth 100000 in
def wpL_setCut_B18 (a1 : Int32) (a2 : Int32) (a3 : Int32) (post : Int32 → St → Prop) (s0 : Int64) (s1 : Int32) (w : St) : Prop := (vp_in s1 1) ∧ (∀ w_2 : St, w_2 = (uO w (vp_updL w.2.2.1 (s1).toNatClampNeg s0)) → post 0 w_2)
set_option maxHeartbeats 4000000 in
set_option maxRecDepth 100000 in
def wpL_setCut (a1 : Int32) (a2 : Int32) (a3 : Int32) (w : St) (post : Int32 → St → Prop) : Prop := wpX4_setCut a1 a2 a3 w (fun r_5 w_4 => (r_5 = 0 → (wpL_setCut_B18 a1 a2 a3 post 0 0 w_4)) ∧ (¬ (r_5 = 0) → (wpL_setCut_B18 a1 a2 a3 post 1 0 w_4))) (fun E w_x => (E = "java/lang/IndexOutOfBoundsException" ∧ (post 1 w_x)) ∨ (E = "java/lang/IllegalArgumentException" ∧ (post 2 w_x)))
set_option maxHeartbeats 4000000 in
set_option maxRecDepth 100000 in
theorem mL_setCut (l : Launch) (D : va_G) (ca : Nat → ClassId) (ad : Nat → Nat) (base : Nat) (hAd : okA base ad) (w : St) (a1 : Int32) (a2 : Int32) (a3 : Int32) (post : Int32 → St → Prop) (hw : wpL_setCut a1 a2 a3 w post) (hl9 : l.stackTraces = false) : Met l yL_setCut wsL_setCut ({ frames := 8, cells := 3, slots := 18, locals := 134 } : Room) (va_Pc [.ref (ad 0), .int a1, .int a2, .int a3, .ref (ad 59)] (BX D ca ad base w)) (va_Qi post (Bp D ca ad) (AB base)) 3 18 (AB base) := by
  refine va_MetW (cc := cL_setCut) (maxL := 6) (ret := (some .int)) (by decide) rfl ?_
  intro p e s m args below meth c s₁ B hml hv
  obtain ⟨rfl, ⟨hbs, hP, hK⟩, hXP⟩ := hv
  have hx := B.exec
  have hb := B.bytes
  have hr := B.returns
  have hts := atoms_spec (ws := wsL_setCut) B.pre
  have hown : s.vm.findClass RL = some m.cls := findClass_of_methodNamed B.named
  have hlocks := B.notSynchronized
  have hTab : c.exceptionTable.toList = tableOf [(0, 19, 22, 19), (0, 19, 26, 13)] := vx_table (x := yL_setCut) B (hts (.codeWith yL_setCut cL_setCut 6 (some .int) [(0, 19, 22, 19), (0, 19, 26, 13)]) (by decide +kernel))
  have hS : va_S (AB base) s.heap s.heap [] := va_S.rf
  have hB18 : ∀ (s0 : Int64) (s1 : Int32) (w : St), wpL_setCut_B18 a1 a2 a3 post s0 s1 w → ∀ (H : Heap) (locs : List Loc), PA D ca ad w H → va_S (AB base) s.heap H locs → ∀ ls : Array Slot, lv_has ls 6 [] → W p l e (headSpec wsL_setCut ({ frames := 8, cells := 3, slots := 18, locals := 134 } : Room)).room s m ([Value.ref (ad 0), Value.int a1, Value.int a2, Value.int a3, Value.ref (ad 59)].toArray) below meth c H locs 3 18 (MQ below (va_Qi post (Bp D ca ad) (AB base)) ([Value.ref (ad 0), Value.int a1, Value.int a2, Value.int a3, Value.ref (ad 59)].toArray) s 3 18 (AB base)) (F0 m 18 ls [.long s0, .int s1, .ref (ad 59)]) := by
    intro s0 s1 w hw H locs hP hS ls hl
    obtain ⟨h_1, hw⟩ := hw
    refine va_last hx hb hK hP (DA hAd) hS 59 3 (wg59 ca ad w) rfl h_1 dL_setCut_18 (fun H locs hP hD hS => ?_)
    obtain ⟨w_2, e_3⟩ : ∃ z : St, z = (uO w (vp_updL w.2.2.1 (s1).toNatClampNeg s0)) := ⟨_, rfl⟩
    have hP : PA D ca ad w_2 H := by rw [e_3]; exact wu59 hP
    have hw := hw w_2 e_3
    refine lv_goto (tgt := 30) hx hb dL_setCut_19 (by decide) ?_
    refine lv_iconst (v := 0) hx hb dL_setCut_30 (by decide) ?_
    exact W.iret (v := 0) hx hb hr (fun t ht hW => ⟨⟨0, w_2, rfl, hw, by show PA D ca ad w_2 t.heap; rw [ht]; exact hP⟩, hS.F ht⟩) hS.2.2 dL_setCut_31
  have hl := lv_entry ([.ref (ad 0), .int a1, .int a2, .int a3, .ref (ad 59)]) (n := 6) (Nat.le_of_ble_eq_true rfl)
  rw [lg_entry_eq]
  generalize (lg_sl ([.ref (ad 0), .int a1, .int a2, .int a3, .ref (ad 59)]) ++ List.replicate (6 - (lg_sl ([.ref (ad 0), .int a1, .int a2, .int a3, .ref (ad 59)])).length) Slot.unset).toArray = ls at hl ⊢
  have hl : lv_has ls 6 [(0, .ref (ad 0)), (1, .int a1), (2, .int a2), (3, .int a3), (4, .ref (ad 59))] := hl
  refine lv_aload hx hb dL_setCut_0 (lv_at hl 4 rfl) ?_
  refine lv_iconst (v := 0) hx hb dL_setCut_2 (by decide) ?_
  refine lv_aload_n hx hb dL_setCut_3 rfl (lv_at hl 0 rfl) ?_
  refine lv_iload_n hx hb dL_setCut_4 rfl (lv_at hl 1 rfl) ?_
  refine lv_iload_n hx hb dL_setCut_5 rfl (lv_at hl 2 rfl) ?_
  refine lv_iload_n hx hb dL_setCut_6 rfl (lv_at hl 3 rfl) ?_
  refine vx_calli (vx_runV (As := [.int a1, .int a2, .int a3]) (rest := [.int 0, .ref (ad 59)]) ⟨hx, hb, hml, hown, hts⟩ (mX4_setCut l D ca ad base hAd w a1 a2 a3 _ _ hw hl9) (cwV 3 hts gL_setCut_X4_setCut rfl rfl rfl (by decide +kernel) ⟨Nat.le_of_ble_eq_true rfl, Nat.le_of_ble_eq_true rfl⟩) (pvx [.int a1, .int a2, .int a3] hK hXP hP hbs hS rfl (wg0 ca ad w)) rfl rfl hl.1 rfl (lv_room (Nat.le_of_ble_eq_true rfl)) dL_setCut_7 ⟨Nat.le_of_ble_eq_true rfl, Nat.le_of_ble_eq_true rfl⟩) hS (fun q _ h => h) (fun q h => h) (fun q _ h => h) (fun E ce q9 u t H locs ht hvm hw hB hz1 hk1 hS hce hcv hcl => ?_) (fun r_5 w_4 t H locs ht hvm hw hP hz1 hk1 hS => ?_)
  · obtain ⟨e1, hB⟩ := hB
    obtain ⟨w_x, ew⟩ : ∃ z, z = u.2 := ⟨_, rfl⟩
    have hP : PA D ca ad w_x H := by rw [ew, ← ht]; exact hB
    rw [← ew] at hw
    rcases hw with hw | hw
    · obtain ⟨e9, hw⟩ := hw
      obtain rfl : E = "java/lang/IndexOutOfBoundsException" := e1.trans e9
      refine vx_catch (own := RL) (name := "java/lang/IndexOutOfBoundsException") (E := "java/lang/IndexOutOfBoundsException") hown [] ⟨0, 19, 22, 19⟩ [⟨0, 19, 26, 13⟩] (by rw [hTab]; rfl) (fun z hz => nomatch hz) (by decide) (by decide) (hts (.classLink RL 19 "java/lang/IndexOutOfBoundsException") (by decide +kernel)) (va_Nw.use rfl (hXP.2.2.1 (.castable "java/lang/IndexOutOfBoundsException" "java/lang/IndexOutOfBoundsException") (List.mem_of_getElem? (i := 1) rfl))) hce hcv hcl ?_
      refine lv_astore (lv' := [(5, .ref q9), (0, .ref (ad 0)), (1, .int a1), (2, .int a2), (3, .int a3), (4, .ref (ad 59))]) hx hb dL_setCut_22 hl (by decide) rfl (fun ls hl => ?_)
      refine lv_iconst (v := 1) hx hb dL_setCut_24 (by decide) ?_
      exact W.iret (v := 1) hx hb hr (fun t ht hW => ⟨⟨1, w_x, rfl, hw, by show PA D ca ad w_x t.heap; rw [ht]; exact hP⟩, hS.F ht⟩) hS.2.2 dL_setCut_25
    · obtain ⟨e9, hw⟩ := hw
      obtain rfl : E = "java/lang/IllegalArgumentException" := e1.trans e9
      refine vx_catch (own := RL) (name := "java/lang/IllegalArgumentException") (E := "java/lang/IllegalArgumentException") hown [⟨0, 19, 22, 19⟩] ⟨0, 19, 26, 13⟩ [] (by rw [hTab]; rfl) (by intro z hz; rcases List.mem_cons.mp hz with rfl | hz; exact Or.inr ⟨by decide, "java/lang/IndexOutOfBoundsException", hts (.classLink RL 19 "java/lang/IndexOutOfBoundsException") (by decide +kernel), hXP.2.2.2.2 ("java/lang/IllegalArgumentException", "java/lang/IndexOutOfBoundsException") (List.mem_of_getElem? (i := 0) rfl)⟩; cases hz) (by decide) (by decide) (hts (.classLink RL 13 "java/lang/IllegalArgumentException") (by decide +kernel)) (va_Nw.use rfl (hXP.2.2.1 (.castable "java/lang/IllegalArgumentException" "java/lang/IllegalArgumentException") (List.mem_of_getElem? (i := 0) rfl))) hce hcv hcl ?_
      refine lv_astore (lv' := [(5, .ref q9), (0, .ref (ad 0)), (1, .int a1), (2, .int a2), (3, .int a3), (4, .ref (ad 59))]) hx hb dL_setCut_26 hl (by decide) rfl (fun ls hl => ?_)
      refine lv_iconst (v := 2) hx hb dL_setCut_28 (by decide) ?_
      exact W.iret (v := 2) hx hb hr (fun t ht hW => ⟨⟨2, w_x, rfl, hw, by show PA D ca ad w_x t.heap; rw [ht]; exact hP⟩, hS.F ht⟩) hS.2.2 dL_setCut_29
  have hP : PA D ca ad w_4 H := by rw [← ht]; exact hP
  refine lv_if_eq (tgt := 17) hx hb dL_setCut_10 (by decide) (fun c_6 => ?_) (fun c_6 => ?_)
  · have hw := hw.1 c_6
    refine lv_lconst (v := 0) hx hb dL_setCut_17 (by decide) ?_
    exact hB18 0 0 w_4 hw _ _ hP hS ls (lv_sub hl [] rfl)
  · have hw := hw.2 c_6
    refine lv_lconst (v := 1) hx hb dL_setCut_13 (by decide) ?_
    refine lv_goto (tgt := 18) hx hb dL_setCut_14 (by decide) ?_
    exact hB18 1 0 w_4 hw _ _ hP hS ls (lv_sub hl [] rfl)
set_option maxHeartbeats 4000000 in
set_option maxRecDepth 100000 in
def wpL_reached (a1 : Int32) (w : St) (post : Int32 → St → Prop) : Prop := wpX4_reached a1 w (fun r_2 w_1 => (vp_in 0 1) ∧ (∀ w_4 : St, w_4 = (uO w_1 (vp_updL w_1.2.2.1 (0 : Int32).toNatClampNeg ((r_2).toInt64))) → post 0 w_4)) (fun E w_x => (E = "java/lang/IndexOutOfBoundsException" ∧ (post 1 w_x)))
set_option maxHeartbeats 4000000 in
set_option maxRecDepth 100000 in
theorem mL_reached (l : Launch) (D : va_G) (ca : Nat → ClassId) (ad : Nat → Nat) (base : Nat) (hAd : okA base ad) (w : St) (a1 : Int32) (post : Int32 → St → Prop) (hw : wpL_reached a1 w post) (hl9 : l.stackTraces = false) : Met l yL_reached wsL_reached ({ frames := 8, cells := 1, slots := 6, locals := 132 } : Room) (va_Pc [.ref (ad 0), .int a1, .ref (ad 59)] (BX D ca ad base w)) (va_Qi post (Bp D ca ad) (AB base)) 1 6 (AB base) := by
  refine va_MetW (cc := cL_reached) (maxL := 4) (ret := (some .int)) (by decide) rfl ?_
  intro p e s m args below meth c s₁ B hml hv
  obtain ⟨rfl, ⟨hbs, hP, hK⟩, hXP⟩ := hv
  have hx := B.exec
  have hb := B.bytes
  have hr := B.returns
  have hts := atoms_spec (ws := wsL_reached) B.pre
  have hown : s.vm.findClass RL = some m.cls := findClass_of_methodNamed B.named
  have hlocks := B.notSynchronized
  have hTab : c.exceptionTable.toList = tableOf [(0, 9, 12, 19)] := vx_table (x := yL_reached) B (hts (.codeWith yL_reached cL_reached 4 (some .int) [(0, 9, 12, 19)]) (by decide +kernel))
  have hS : va_S (AB base) s.heap s.heap [] := va_S.rf
  have hl := lv_entry ([.ref (ad 0), .int a1, .ref (ad 59)]) (n := 4) (Nat.le_of_ble_eq_true rfl)
  rw [lg_entry_eq]
  generalize (lg_sl ([.ref (ad 0), .int a1, .ref (ad 59)]) ++ List.replicate (4 - (lg_sl ([.ref (ad 0), .int a1, .ref (ad 59)])).length) Slot.unset).toArray = ls at hl ⊢
  have hl : lv_has ls 4 [(0, .ref (ad 0)), (1, .int a1), (2, .ref (ad 59))] := hl
  refine lv_aload_n hx hb dL_reached_0 rfl (lv_at hl 2 rfl) ?_
  refine lv_iconst (v := 0) hx hb dL_reached_1 (by decide) ?_
  refine lv_aload_n hx hb dL_reached_2 rfl (lv_at hl 0 rfl) ?_
  refine lv_iload_n hx hb dL_reached_3 rfl (lv_at hl 1 rfl) ?_
  refine vx_calli (vx_runV (As := [.int a1]) (rest := [.int 0, .ref (ad 59)]) ⟨hx, hb, hml, hown, hts⟩ (mX4_reached l D ca ad base hAd w a1 _ _ hw hl9) (cwV 1 hts gL_reached_X4_reached rfl rfl rfl (by decide +kernel) ⟨Nat.le_of_ble_eq_true rfl, Nat.le_of_ble_eq_true rfl⟩) (pvx [.int a1] hK hXP hP hbs hS rfl (wg0 ca ad w)) rfl rfl hl.1 rfl (lv_room (Nat.le_of_ble_eq_true rfl)) dL_reached_4 ⟨Nat.le_of_ble_eq_true rfl, Nat.le_of_ble_eq_true rfl⟩) hS (fun q _ h => h) (fun q h => h) (fun q _ h => h) (fun E ce q9 u t H locs ht hvm hw hB hz1 hk1 hS hce hcv hcl => ?_) (fun r_2 w_1 t H locs ht hvm hw hP hz1 hk1 hS => ?_)
  · obtain ⟨e1, hB⟩ := hB
    obtain ⟨w_x, ew⟩ : ∃ z, z = u.2 := ⟨_, rfl⟩
    have hP : PA D ca ad w_x H := by rw [ew, ← ht]; exact hB
    rw [← ew] at hw
    obtain ⟨e9, hw⟩ := hw
    obtain rfl : E = "java/lang/IndexOutOfBoundsException" := e1.trans e9
    refine vx_catch (own := RL) (name := "java/lang/IndexOutOfBoundsException") (E := "java/lang/IndexOutOfBoundsException") hown [] ⟨0, 9, 12, 19⟩ [] (by rw [hTab]; rfl) (fun z hz => nomatch hz) (by decide) (by decide) (hts (.classLink RL 19 "java/lang/IndexOutOfBoundsException") (by decide +kernel)) (va_Nw.use rfl (hXP.2.2.1 (.castable "java/lang/IndexOutOfBoundsException" "java/lang/IndexOutOfBoundsException") (List.mem_of_getElem? (i := 1) rfl))) hce hcv hcl ?_
    refine lv_astore_n (lv' := [(3, .ref q9), (0, .ref (ad 0)), (1, .int a1), (2, .ref (ad 59))]) hx hb dL_reached_12 rfl hl (by decide) rfl (fun ls hl => ?_)
    refine lv_iconst (v := 1) hx hb dL_reached_13 (by decide) ?_
    exact W.iret (v := 1) hx hb hr (fun t ht hW => ⟨⟨1, w_x, rfl, hw, by show PA D ca ad w_x t.heap; rw [ht]; exact hP⟩, hS.F ht⟩) hS.2.2 dL_reached_14
  have hP : PA D ca ad w_1 H := by rw [← ht]; exact hP
  refine lv_i2l (v := (r_2).toInt64) hx hb dL_reached_7 rfl ?_
  obtain ⟨h_3, hw⟩ := hw
  refine va_last hx hb hK hP (DA hAd) hS 59 3 (wg59 ca ad w_1) rfl h_3 dL_reached_8 (fun H locs hP hD hS => ?_)
  obtain ⟨w_4, e_5⟩ : ∃ z : St, z = (uO w_1 (vp_updL w_1.2.2.1 (0 : Int32).toNatClampNeg ((r_2).toInt64))) := ⟨_, rfl⟩
  have hP : PA D ca ad w_4 H := by rw [e_5]; exact wu59 hP
  have hw := hw w_4 e_5
  refine lv_goto (tgt := 15) hx hb dL_reached_9 (by decide) ?_
  refine lv_iconst (v := 0) hx hb dL_reached_15 (by decide) ?_
  exact W.iret (v := 0) hx hb hr (fun t ht hW => ⟨⟨0, w_4, rfl, hw, by show PA D ca ad w_4 t.heap; rw [ht]; exact hP⟩, hS.F ht⟩) hS.2.2 dL_reached_16
set_option maxHeartbeats 4000000 in
set_option maxRecDepth 100000 in
def wpL_stand (a1 : Int32) (w : St) (post : Int32 → St → Prop) : Prop := wpX4_stand a1 w (fun r_2 w_1 => (vp_in 0 1) ∧ (∀ w_4 : St, w_4 = (uO w_1 (vp_updL w_1.2.2.1 (0 : Int32).toNatClampNeg ((r_2).toInt64))) → post 0 w_4)) (fun E w_x => (E = "java/lang/IndexOutOfBoundsException" ∧ (post 1 w_x)) ∨ (E = "java/lang/IllegalStateException" ∧ (post 2 w_x)))
set_option maxHeartbeats 4000000 in
set_option maxRecDepth 100000 in
theorem mL_stand (l : Launch) (D : va_G) (ca : Nat → ClassId) (ad : Nat → Nat) (base : Nat) (hAd : okA base ad) (w : St) (a1 : Int32) (post : Int32 → St → Prop) (hw : wpL_stand a1 w post) (hl9 : l.stackTraces = false) : Met l yL_stand wsL_stand ({ frames := 8, cells := 2, slots := 12, locals := 132 } : Room) (va_Pc [.ref (ad 0), .int a1, .ref (ad 59)] (BX D ca ad base w)) (va_Qi post (Bp D ca ad) (AB base)) 2 12 (AB base) := by
  refine va_MetW (cc := cL_stand) (maxL := 4) (ret := (some .int)) (by decide) rfl ?_
  intro p e s m args below meth c s₁ B hml hv
  obtain ⟨rfl, ⟨hbs, hP, hK⟩, hXP⟩ := hv
  have hx := B.exec
  have hb := B.bytes
  have hr := B.returns
  have hts := atoms_spec (ws := wsL_stand) B.pre
  have hown : s.vm.findClass RL = some m.cls := findClass_of_methodNamed B.named
  have hlocks := B.notSynchronized
  have hTab : c.exceptionTable.toList = tableOf [(0, 9, 12, 19), (0, 9, 15, 31)] := vx_table (x := yL_stand) B (hts (.codeWith yL_stand cL_stand 4 (some .int) [(0, 9, 12, 19), (0, 9, 15, 31)]) (by decide +kernel))
  have hS : va_S (AB base) s.heap s.heap [] := va_S.rf
  have hl := lv_entry ([.ref (ad 0), .int a1, .ref (ad 59)]) (n := 4) (Nat.le_of_ble_eq_true rfl)
  rw [lg_entry_eq]
  generalize (lg_sl ([.ref (ad 0), .int a1, .ref (ad 59)]) ++ List.replicate (4 - (lg_sl ([.ref (ad 0), .int a1, .ref (ad 59)])).length) Slot.unset).toArray = ls at hl ⊢
  have hl : lv_has ls 4 [(0, .ref (ad 0)), (1, .int a1), (2, .ref (ad 59))] := hl
  refine lv_aload_n hx hb dL_stand_0 rfl (lv_at hl 2 rfl) ?_
  refine lv_iconst (v := 0) hx hb dL_stand_1 (by decide) ?_
  refine lv_aload_n hx hb dL_stand_2 rfl (lv_at hl 0 rfl) ?_
  refine lv_iload_n hx hb dL_stand_3 rfl (lv_at hl 1 rfl) ?_
  refine vx_calli (vx_runV (As := [.int a1]) (rest := [.int 0, .ref (ad 59)]) ⟨hx, hb, hml, hown, hts⟩ (mX4_stand l D ca ad base hAd w a1 _ _ hw hl9) (cwV 1 hts gL_stand_X4_stand rfl rfl rfl (by decide +kernel) ⟨Nat.le_of_ble_eq_true rfl, Nat.le_of_ble_eq_true rfl⟩) (pvx [.int a1] hK hXP hP hbs hS rfl (wg0 ca ad w)) rfl rfl hl.1 rfl (lv_room (Nat.le_of_ble_eq_true rfl)) dL_stand_4 ⟨Nat.le_of_ble_eq_true rfl, Nat.le_of_ble_eq_true rfl⟩) hS (fun q _ h => h) (fun q h => h) (fun q _ h => h) (fun E ce q9 u t H locs ht hvm hw hB hz1 hk1 hS hce hcv hcl => ?_) (fun r_2 w_1 t H locs ht hvm hw hP hz1 hk1 hS => ?_)
  · obtain ⟨e1, hB⟩ := hB
    obtain ⟨w_x, ew⟩ : ∃ z, z = u.2 := ⟨_, rfl⟩
    have hP : PA D ca ad w_x H := by rw [ew, ← ht]; exact hB
    rw [← ew] at hw
    rcases hw with hw | hw
    · obtain ⟨e9, hw⟩ := hw
      obtain rfl : E = "java/lang/IndexOutOfBoundsException" := e1.trans e9
      refine vx_catch (own := RL) (name := "java/lang/IndexOutOfBoundsException") (E := "java/lang/IndexOutOfBoundsException") hown [] ⟨0, 9, 12, 19⟩ [⟨0, 9, 15, 31⟩] (by rw [hTab]; rfl) (fun z hz => nomatch hz) (by decide) (by decide) (hts (.classLink RL 19 "java/lang/IndexOutOfBoundsException") (by decide +kernel)) (va_Nw.use rfl (hXP.2.2.1 (.castable "java/lang/IndexOutOfBoundsException" "java/lang/IndexOutOfBoundsException") (List.mem_of_getElem? (i := 1) rfl))) hce hcv hcl ?_
      refine lv_astore_n (lv' := [(3, .ref q9), (0, .ref (ad 0)), (1, .int a1), (2, .ref (ad 59))]) hx hb dL_stand_12 rfl hl (by decide) rfl (fun ls hl => ?_)
      refine lv_iconst (v := 1) hx hb dL_stand_13 (by decide) ?_
      exact W.iret (v := 1) hx hb hr (fun t ht hW => ⟨⟨1, w_x, rfl, hw, by show PA D ca ad w_x t.heap; rw [ht]; exact hP⟩, hS.F ht⟩) hS.2.2 dL_stand_14
    · obtain ⟨e9, hw⟩ := hw
      obtain rfl : E = "java/lang/IllegalStateException" := e1.trans e9
      refine vx_catch (own := RL) (name := "java/lang/IllegalStateException") (E := "java/lang/IllegalStateException") hown [⟨0, 9, 12, 19⟩] ⟨0, 9, 15, 31⟩ [] (by rw [hTab]; rfl) (by intro z hz; rcases List.mem_cons.mp hz with rfl | hz; exact Or.inr ⟨by decide, "java/lang/IndexOutOfBoundsException", hts (.classLink RL 19 "java/lang/IndexOutOfBoundsException") (by decide +kernel), hXP.2.2.2.2 ("java/lang/IllegalStateException", "java/lang/IndexOutOfBoundsException") (List.mem_of_getElem? (i := 11) rfl)⟩; cases hz) (by decide) (by decide) (hts (.classLink RL 31 "java/lang/IllegalStateException") (by decide +kernel)) (va_Nw.use rfl (hXP.2.2.1 (.castable "java/lang/IllegalStateException" "java/lang/IllegalStateException") (List.mem_of_getElem? (i := 2) rfl))) hce hcv hcl ?_
      refine lv_astore_n (lv' := [(3, .ref q9), (0, .ref (ad 0)), (1, .int a1), (2, .ref (ad 59))]) hx hb dL_stand_15 rfl hl (by decide) rfl (fun ls hl => ?_)
      refine lv_iconst (v := 2) hx hb dL_stand_16 (by decide) ?_
      exact W.iret (v := 2) hx hb hr (fun t ht hW => ⟨⟨2, w_x, rfl, hw, by show PA D ca ad w_x t.heap; rw [ht]; exact hP⟩, hS.F ht⟩) hS.2.2 dL_stand_17
  have hP : PA D ca ad w_1 H := by rw [← ht]; exact hP
  refine lv_i2l (v := (r_2).toInt64) hx hb dL_stand_7 rfl ?_
  obtain ⟨h_3, hw⟩ := hw
  refine va_last hx hb hK hP (DA hAd) hS 59 3 (wg59 ca ad w_1) rfl h_3 dL_stand_8 (fun H locs hP hD hS => ?_)
  obtain ⟨w_4, e_5⟩ : ∃ z : St, z = (uO w_1 (vp_updL w_1.2.2.1 (0 : Int32).toNatClampNeg ((r_2).toInt64))) := ⟨_, rfl⟩
  have hP : PA D ca ad w_4 H := by rw [e_5]; exact wu59 hP
  have hw := hw w_4 e_5
  refine lv_goto (tgt := 18) hx hb dL_stand_9 (by decide) ?_
  refine lv_iconst (v := 0) hx hb dL_stand_18 (by decide) ?_
  exact W.iret (v := 0) hx hb hr (fun t ht hW => ⟨⟨0, w_4, rfl, hw, by show PA D ca ad w_4 t.heap; rw [ht]; exact hP⟩, hS.F ht⟩) hS.2.2 dL_stand_19
set_option maxHeartbeats 4000000 in
set_option maxRecDepth 100000 in
def wpL_termOf (a1 : Int32) (w : St) (post : Int32 → St → Prop) : Prop := wpX4_termOf a1 w (fun r_2 w_1 => (vp_in 0 1) ∧ (∀ w_4 : St, w_4 = (uO w_1 (vp_updL w_1.2.2.1 (0 : Int32).toNatClampNeg ((r_2).toInt64))) → post 0 w_4)) (fun E w_x => (E = "java/lang/IndexOutOfBoundsException" ∧ (post 1 w_x)))
set_option maxHeartbeats 4000000 in
set_option maxRecDepth 100000 in
theorem mL_termOf (l : Launch) (D : va_G) (ca : Nat → ClassId) (ad : Nat → Nat) (base : Nat) (hAd : okA base ad) (w : St) (a1 : Int32) (post : Int32 → St → Prop) (hw : wpL_termOf a1 w post) (hl9 : l.stackTraces = false) : Met l yL_termOf wsL_termOf ({ frames := 8, cells := 1, slots := 6, locals := 132 } : Room) (va_Pc [.ref (ad 0), .int a1, .ref (ad 59)] (BX D ca ad base w)) (va_Qi post (Bp D ca ad) (AB base)) 1 6 (AB base) := by
  refine va_MetW (cc := cL_termOf) (maxL := 4) (ret := (some .int)) (by decide) rfl ?_
  intro p e s m args below meth c s₁ B hml hv
  obtain ⟨rfl, ⟨hbs, hP, hK⟩, hXP⟩ := hv
  have hx := B.exec
  have hb := B.bytes
  have hr := B.returns
  have hts := atoms_spec (ws := wsL_termOf) B.pre
  have hown : s.vm.findClass RL = some m.cls := findClass_of_methodNamed B.named
  have hlocks := B.notSynchronized
  have hTab : c.exceptionTable.toList = tableOf [(0, 9, 12, 19)] := vx_table (x := yL_termOf) B (hts (.codeWith yL_termOf cL_termOf 4 (some .int) [(0, 9, 12, 19)]) (by decide +kernel))
  have hS : va_S (AB base) s.heap s.heap [] := va_S.rf
  have hl := lv_entry ([.ref (ad 0), .int a1, .ref (ad 59)]) (n := 4) (Nat.le_of_ble_eq_true rfl)
  rw [lg_entry_eq]
  generalize (lg_sl ([.ref (ad 0), .int a1, .ref (ad 59)]) ++ List.replicate (4 - (lg_sl ([.ref (ad 0), .int a1, .ref (ad 59)])).length) Slot.unset).toArray = ls at hl ⊢
  have hl : lv_has ls 4 [(0, .ref (ad 0)), (1, .int a1), (2, .ref (ad 59))] := hl
  refine lv_aload_n hx hb dL_termOf_0 rfl (lv_at hl 2 rfl) ?_
  refine lv_iconst (v := 0) hx hb dL_termOf_1 (by decide) ?_
  refine lv_aload_n hx hb dL_termOf_2 rfl (lv_at hl 0 rfl) ?_
  refine lv_iload_n hx hb dL_termOf_3 rfl (lv_at hl 1 rfl) ?_
  refine vx_calli (vx_runV (As := [.int a1]) (rest := [.int 0, .ref (ad 59)]) ⟨hx, hb, hml, hown, hts⟩ (mX4_termOf l D ca ad base hAd w a1 _ _ hw hl9) (cwV 1 hts gL_termOf_X4_termOf rfl rfl rfl (by decide +kernel) ⟨Nat.le_of_ble_eq_true rfl, Nat.le_of_ble_eq_true rfl⟩) (pvx [.int a1] hK hXP hP hbs hS rfl (wg0 ca ad w)) rfl rfl hl.1 rfl (lv_room (Nat.le_of_ble_eq_true rfl)) dL_termOf_4 ⟨Nat.le_of_ble_eq_true rfl, Nat.le_of_ble_eq_true rfl⟩) hS (fun q _ h => h) (fun q h => h) (fun q _ h => h) (fun E ce q9 u t H locs ht hvm hw hB hz1 hk1 hS hce hcv hcl => ?_) (fun r_2 w_1 t H locs ht hvm hw hP hz1 hk1 hS => ?_)
  · obtain ⟨e1, hB⟩ := hB
    obtain ⟨w_x, ew⟩ : ∃ z, z = u.2 := ⟨_, rfl⟩
    have hP : PA D ca ad w_x H := by rw [ew, ← ht]; exact hB
    rw [← ew] at hw
    obtain ⟨e9, hw⟩ := hw
    obtain rfl : E = "java/lang/IndexOutOfBoundsException" := e1.trans e9
    refine vx_catch (own := RL) (name := "java/lang/IndexOutOfBoundsException") (E := "java/lang/IndexOutOfBoundsException") hown [] ⟨0, 9, 12, 19⟩ [] (by rw [hTab]; rfl) (fun z hz => nomatch hz) (by decide) (by decide) (hts (.classLink RL 19 "java/lang/IndexOutOfBoundsException") (by decide +kernel)) (va_Nw.use rfl (hXP.2.2.1 (.castable "java/lang/IndexOutOfBoundsException" "java/lang/IndexOutOfBoundsException") (List.mem_of_getElem? (i := 1) rfl))) hce hcv hcl ?_
    refine lv_astore_n (lv' := [(3, .ref q9), (0, .ref (ad 0)), (1, .int a1), (2, .ref (ad 59))]) hx hb dL_termOf_12 rfl hl (by decide) rfl (fun ls hl => ?_)
    refine lv_iconst (v := 1) hx hb dL_termOf_13 (by decide) ?_
    exact W.iret (v := 1) hx hb hr (fun t ht hW => ⟨⟨1, w_x, rfl, hw, by show PA D ca ad w_x t.heap; rw [ht]; exact hP⟩, hS.F ht⟩) hS.2.2 dL_termOf_14
  have hP : PA D ca ad w_1 H := by rw [← ht]; exact hP
  refine lv_i2l (v := (r_2).toInt64) hx hb dL_termOf_7 rfl ?_
  obtain ⟨h_3, hw⟩ := hw
  refine va_last hx hb hK hP (DA hAd) hS 59 3 (wg59 ca ad w_1) rfl h_3 dL_termOf_8 (fun H locs hP hD hS => ?_)
  obtain ⟨w_4, e_5⟩ : ∃ z : St, z = (uO w_1 (vp_updL w_1.2.2.1 (0 : Int32).toNatClampNeg ((r_2).toInt64))) := ⟨_, rfl⟩
  have hP : PA D ca ad w_4 H := by rw [e_5]; exact wu59 hP
  have hw := hw w_4 e_5
  refine lv_goto (tgt := 15) hx hb dL_termOf_9 (by decide) ?_
  refine lv_iconst (v := 0) hx hb dL_termOf_15 (by decide) ?_
  exact W.iret (v := 0) hx hb hr (fun t ht hW => ⟨⟨0, w_4, rfl, hw, by show PA D ca ad w_4 t.heap; rw [ht]; exact hP⟩, hS.F ht⟩) hS.2.2 dL_termOf_16
set_option maxHeartbeats 4000000 in
set_option maxRecDepth 100000 in
def wpL_isLeader_B15 (a1 : Int32) (post : Int32 → St → Prop) (s0 : Int64) (s1 : Int32) (w : St) : Prop := (vp_in s1 1) ∧ (∀ w_2 : St, w_2 = (uO w (vp_updL w.2.2.1 (s1).toNatClampNeg s0)) → post 0 w_2)
set_option maxHeartbeats 4000000 in
set_option maxRecDepth 100000 in
def wpL_isLeader (a1 : Int32) (w : St) (post : Int32 → St → Prop) : Prop := wpX4_isLeader a1 w (fun r_5 w_4 => (r_5 = 0 → (wpL_isLeader_B15 a1 post 0 0 w_4)) ∧ (¬ (r_5 = 0) → (wpL_isLeader_B15 a1 post 1 0 w_4))) (fun E w_x => (E = "java/lang/IndexOutOfBoundsException" ∧ (post 1 w_x)))
set_option maxHeartbeats 4000000 in
set_option maxRecDepth 100000 in
theorem mL_isLeader (l : Launch) (D : va_G) (ca : Nat → ClassId) (ad : Nat → Nat) (base : Nat) (hAd : okA base ad) (w : St) (a1 : Int32) (post : Int32 → St → Prop) (hw : wpL_isLeader a1 w post) (hl9 : l.stackTraces = false) : Met l yL_isLeader wsL_isLeader ({ frames := 8, cells := 1, slots := 6, locals := 132 } : Room) (va_Pc [.ref (ad 0), .int a1, .ref (ad 59)] (BX D ca ad base w)) (va_Qi post (Bp D ca ad) (AB base)) 1 6 (AB base) := by
  refine va_MetW (cc := cL_isLeader) (maxL := 4) (ret := (some .int)) (by decide) rfl ?_
  intro p e s m args below meth c s₁ B hml hv
  obtain ⟨rfl, ⟨hbs, hP, hK⟩, hXP⟩ := hv
  have hx := B.exec
  have hb := B.bytes
  have hr := B.returns
  have hts := atoms_spec (ws := wsL_isLeader) B.pre
  have hown : s.vm.findClass RL = some m.cls := findClass_of_methodNamed B.named
  have hlocks := B.notSynchronized
  have hTab : c.exceptionTable.toList = tableOf [(0, 16, 19, 19)] := vx_table (x := yL_isLeader) B (hts (.codeWith yL_isLeader cL_isLeader 4 (some .int) [(0, 16, 19, 19)]) (by decide +kernel))
  have hS : va_S (AB base) s.heap s.heap [] := va_S.rf
  have hB15 : ∀ (s0 : Int64) (s1 : Int32) (w : St), wpL_isLeader_B15 a1 post s0 s1 w → ∀ (H : Heap) (locs : List Loc), PA D ca ad w H → va_S (AB base) s.heap H locs → ∀ ls : Array Slot, lv_has ls 4 [] → W p l e (headSpec wsL_isLeader ({ frames := 8, cells := 1, slots := 6, locals := 132 } : Room)).room s m ([Value.ref (ad 0), Value.int a1, Value.ref (ad 59)].toArray) below meth c H locs 1 6 (MQ below (va_Qi post (Bp D ca ad) (AB base)) ([Value.ref (ad 0), Value.int a1, Value.ref (ad 59)].toArray) s 1 6 (AB base)) (F0 m 15 ls [.long s0, .int s1, .ref (ad 59)]) := by
    intro s0 s1 w hw H locs hP hS ls hl
    obtain ⟨h_1, hw⟩ := hw
    refine va_last hx hb hK hP (DA hAd) hS 59 3 (wg59 ca ad w) rfl h_1 dL_isLeader_15 (fun H locs hP hD hS => ?_)
    obtain ⟨w_2, e_3⟩ : ∃ z : St, z = (uO w (vp_updL w.2.2.1 (s1).toNatClampNeg s0)) := ⟨_, rfl⟩
    have hP : PA D ca ad w_2 H := by rw [e_3]; exact wu59 hP
    have hw := hw w_2 e_3
    refine lv_goto (tgt := 22) hx hb dL_isLeader_16 (by decide) ?_
    refine lv_iconst (v := 0) hx hb dL_isLeader_22 (by decide) ?_
    exact W.iret (v := 0) hx hb hr (fun t ht hW => ⟨⟨0, w_2, rfl, hw, by show PA D ca ad w_2 t.heap; rw [ht]; exact hP⟩, hS.F ht⟩) hS.2.2 dL_isLeader_23
  have hl := lv_entry ([.ref (ad 0), .int a1, .ref (ad 59)]) (n := 4) (Nat.le_of_ble_eq_true rfl)
  rw [lg_entry_eq]
  generalize (lg_sl ([.ref (ad 0), .int a1, .ref (ad 59)]) ++ List.replicate (4 - (lg_sl ([.ref (ad 0), .int a1, .ref (ad 59)])).length) Slot.unset).toArray = ls at hl ⊢
  have hl : lv_has ls 4 [(0, .ref (ad 0)), (1, .int a1), (2, .ref (ad 59))] := hl
  refine lv_aload_n hx hb dL_isLeader_0 rfl (lv_at hl 2 rfl) ?_
  refine lv_iconst (v := 0) hx hb dL_isLeader_1 (by decide) ?_
  refine lv_aload_n hx hb dL_isLeader_2 rfl (lv_at hl 0 rfl) ?_
  refine lv_iload_n hx hb dL_isLeader_3 rfl (lv_at hl 1 rfl) ?_
  refine vx_calli (vx_runV (As := [.int a1]) (rest := [.int 0, .ref (ad 59)]) ⟨hx, hb, hml, hown, hts⟩ (mX4_isLeader l D ca ad base hAd w a1 _ _ hw hl9) (cwV 1 hts gL_isLeader_X4_isLeader rfl rfl rfl (by decide +kernel) ⟨Nat.le_of_ble_eq_true rfl, Nat.le_of_ble_eq_true rfl⟩) (pvx [.int a1] hK hXP hP hbs hS rfl (wg0 ca ad w)) rfl rfl hl.1 rfl (lv_room (Nat.le_of_ble_eq_true rfl)) dL_isLeader_4 ⟨Nat.le_of_ble_eq_true rfl, Nat.le_of_ble_eq_true rfl⟩) hS (fun q _ h => h) (fun q h => h) (fun q _ h => h) (fun E ce q9 u t H locs ht hvm hw hB hz1 hk1 hS hce hcv hcl => ?_) (fun r_5 w_4 t H locs ht hvm hw hP hz1 hk1 hS => ?_)
  · obtain ⟨e1, hB⟩ := hB
    obtain ⟨w_x, ew⟩ : ∃ z, z = u.2 := ⟨_, rfl⟩
    have hP : PA D ca ad w_x H := by rw [ew, ← ht]; exact hB
    rw [← ew] at hw
    obtain ⟨e9, hw⟩ := hw
    obtain rfl : E = "java/lang/IndexOutOfBoundsException" := e1.trans e9
    refine vx_catch (own := RL) (name := "java/lang/IndexOutOfBoundsException") (E := "java/lang/IndexOutOfBoundsException") hown [] ⟨0, 16, 19, 19⟩ [] (by rw [hTab]; rfl) (fun z hz => nomatch hz) (by decide) (by decide) (hts (.classLink RL 19 "java/lang/IndexOutOfBoundsException") (by decide +kernel)) (va_Nw.use rfl (hXP.2.2.1 (.castable "java/lang/IndexOutOfBoundsException" "java/lang/IndexOutOfBoundsException") (List.mem_of_getElem? (i := 1) rfl))) hce hcv hcl ?_
    refine lv_astore_n (lv' := [(3, .ref q9), (0, .ref (ad 0)), (1, .int a1), (2, .ref (ad 59))]) hx hb dL_isLeader_19 rfl hl (by decide) rfl (fun ls hl => ?_)
    refine lv_iconst (v := 1) hx hb dL_isLeader_20 (by decide) ?_
    exact W.iret (v := 1) hx hb hr (fun t ht hW => ⟨⟨1, w_x, rfl, hw, by show PA D ca ad w_x t.heap; rw [ht]; exact hP⟩, hS.F ht⟩) hS.2.2 dL_isLeader_21
  have hP : PA D ca ad w_4 H := by rw [← ht]; exact hP
  refine lv_if_eq (tgt := 14) hx hb dL_isLeader_7 (by decide) (fun c_6 => ?_) (fun c_6 => ?_)
  · have hw := hw.1 c_6
    refine lv_lconst (v := 0) hx hb dL_isLeader_14 (by decide) ?_
    exact hB15 0 0 w_4 hw _ _ hP hS ls (lv_sub hl [] rfl)
  · have hw := hw.2 c_6
    refine lv_lconst (v := 1) hx hb dL_isLeader_10 (by decide) ?_
    refine lv_goto (tgt := 15) hx hb dL_isLeader_11 (by decide) ?_
    exact hB15 1 0 w_4 hw _ _ hP hS ls (lv_sub hl [] rfl)
set_option maxHeartbeats 4000000 in
set_option maxRecDepth 100000 in
def wpL_leaderOf (a1 : Int32) (w : St) (post : Int32 → St → Prop) : Prop := wpX4_leaderOf a1 w (fun r_2 w_1 => (vp_in 0 1) ∧ (∀ w_4 : St, w_4 = (uO w_1 (vp_updL w_1.2.2.1 (0 : Int32).toNatClampNeg ((r_2).toInt64))) → post 0 w_4)) (fun E w_x => (E = "java/util/NoSuchElementException" ∧ (post 1 w_x)))
set_option maxHeartbeats 4000000 in
set_option maxRecDepth 100000 in
theorem mL_leaderOf (l : Launch) (D : va_G) (ca : Nat → ClassId) (ad : Nat → Nat) (base : Nat) (hAd : okA base ad) (w : St) (a1 : Int32) (post : Int32 → St → Prop) (hw : wpL_leaderOf a1 w post) (hl9 : l.stackTraces = false) : Met l yL_leaderOf wsL_leaderOf ({ frames := 7, cells := 1, slots := 6, locals := 112 } : Room) (va_Pc [.ref (ad 0), .int a1, .ref (ad 59)] (BX D ca ad base w)) (va_Qi post (Bp D ca ad) (AB base)) 1 6 (AB base) := by
  refine va_MetW (cc := cL_leaderOf) (maxL := 4) (ret := (some .int)) (by decide) rfl ?_
  intro p e s m args below meth c s₁ B hml hv
  obtain ⟨rfl, ⟨hbs, hP, hK⟩, hXP⟩ := hv
  have hx := B.exec
  have hb := B.bytes
  have hr := B.returns
  have hts := atoms_spec (ws := wsL_leaderOf) B.pre
  have hown : s.vm.findClass RL = some m.cls := findClass_of_methodNamed B.named
  have hlocks := B.notSynchronized
  have hTab : c.exceptionTable.toList = tableOf [(0, 9, 12, 43)] := vx_table (x := yL_leaderOf) B (hts (.codeWith yL_leaderOf cL_leaderOf 4 (some .int) [(0, 9, 12, 43)]) (by decide +kernel))
  have hS : va_S (AB base) s.heap s.heap [] := va_S.rf
  have hl := lv_entry ([.ref (ad 0), .int a1, .ref (ad 59)]) (n := 4) (Nat.le_of_ble_eq_true rfl)
  rw [lg_entry_eq]
  generalize (lg_sl ([.ref (ad 0), .int a1, .ref (ad 59)]) ++ List.replicate (4 - (lg_sl ([.ref (ad 0), .int a1, .ref (ad 59)])).length) Slot.unset).toArray = ls at hl ⊢
  have hl : lv_has ls 4 [(0, .ref (ad 0)), (1, .int a1), (2, .ref (ad 59))] := hl
  refine lv_aload_n hx hb dL_leaderOf_0 rfl (lv_at hl 2 rfl) ?_
  refine lv_iconst (v := 0) hx hb dL_leaderOf_1 (by decide) ?_
  refine lv_aload_n hx hb dL_leaderOf_2 rfl (lv_at hl 0 rfl) ?_
  refine lv_iload_n hx hb dL_leaderOf_3 rfl (lv_at hl 1 rfl) ?_
  refine vx_calli (vx_runV (As := [.int a1]) (rest := [.int 0, .ref (ad 59)]) ⟨hx, hb, hml, hown, hts⟩ (mX4_leaderOf l D ca ad base hAd w a1 _ _ hw hl9) (cwV 1 hts gL_leaderOf_X4_leaderOf rfl rfl rfl (by decide +kernel) ⟨Nat.le_of_ble_eq_true rfl, Nat.le_of_ble_eq_true rfl⟩) (pvx [.int a1] hK hXP hP hbs hS rfl (wg0 ca ad w)) rfl rfl hl.1 rfl (lv_room (Nat.le_of_ble_eq_true rfl)) dL_leaderOf_4 ⟨Nat.le_of_ble_eq_true rfl, Nat.le_of_ble_eq_true rfl⟩) hS (fun q _ h => h) (fun q h => h) (fun q _ h => h) (fun E ce q9 u t H locs ht hvm hw hB hz1 hk1 hS hce hcv hcl => ?_) (fun r_2 w_1 t H locs ht hvm hw hP hz1 hk1 hS => ?_)
  · obtain ⟨e1, hB⟩ := hB
    obtain ⟨w_x, ew⟩ : ∃ z, z = u.2 := ⟨_, rfl⟩
    have hP : PA D ca ad w_x H := by rw [ew, ← ht]; exact hB
    rw [← ew] at hw
    obtain ⟨e9, hw⟩ := hw
    obtain rfl : E = "java/util/NoSuchElementException" := e1.trans e9
    refine vx_catch (own := RL) (name := "java/util/NoSuchElementException") (E := "java/util/NoSuchElementException") hown [] ⟨0, 9, 12, 43⟩ [] (by rw [hTab]; rfl) (fun z hz => nomatch hz) (by decide) (by decide) (hts (.classLink RL 43 "java/util/NoSuchElementException") (by decide +kernel)) (va_Nw.use rfl (hXP.2.2.1 (.castable "java/util/NoSuchElementException" "java/util/NoSuchElementException") (List.mem_of_getElem? (i := 3) rfl))) hce hcv hcl ?_
    refine lv_astore_n (lv' := [(3, .ref q9), (0, .ref (ad 0)), (1, .int a1), (2, .ref (ad 59))]) hx hb dL_leaderOf_12 rfl hl (by decide) rfl (fun ls hl => ?_)
    refine lv_iconst (v := 1) hx hb dL_leaderOf_13 (by decide) ?_
    exact W.iret (v := 1) hx hb hr (fun t ht hW => ⟨⟨1, w_x, rfl, hw, by show PA D ca ad w_x t.heap; rw [ht]; exact hP⟩, hS.F ht⟩) hS.2.2 dL_leaderOf_14
  have hP : PA D ca ad w_1 H := by rw [← ht]; exact hP
  refine lv_i2l (v := (r_2).toInt64) hx hb dL_leaderOf_7 rfl ?_
  obtain ⟨h_3, hw⟩ := hw
  refine va_last hx hb hK hP (DA hAd) hS 59 3 (wg59 ca ad w_1) rfl h_3 dL_leaderOf_8 (fun H locs hP hD hS => ?_)
  obtain ⟨w_4, e_5⟩ : ∃ z : St, z = (uO w_1 (vp_updL w_1.2.2.1 (0 : Int32).toNatClampNeg ((r_2).toInt64))) := ⟨_, rfl⟩
  have hP : PA D ca ad w_4 H := by rw [e_5]; exact wu59 hP
  have hw := hw w_4 e_5
  refine lv_goto (tgt := 15) hx hb dL_leaderOf_9 (by decide) ?_
  refine lv_iconst (v := 0) hx hb dL_leaderOf_15 (by decide) ?_
  exact W.iret (v := 0) hx hb hr (fun t ht hW => ⟨⟨0, w_4, rfl, hw, by show PA D ca ad w_4 t.heap; rw [ht]; exact hP⟩, hS.F ht⟩) hS.2.2 dL_leaderOf_16
set_option maxHeartbeats 4000000 in
set_option maxRecDepth 100000 in
def wpL_known (a1 : Int32) (w : St) (post : Int32 → St → Prop) : Prop := wpX4_known a1 w (fun r_2 w_1 => (vp_in 0 1) ∧ (∀ w_4 : St, w_4 = (uO w_1 (vp_updL w_1.2.2.1 (0 : Int32).toNatClampNeg ((r_2).toInt64))) → post 0 w_4)) (fun E w_x => (E = "java/lang/IndexOutOfBoundsException" ∧ (post 1 w_x)))
set_option maxHeartbeats 4000000 in
set_option maxRecDepth 100000 in
theorem mL_known (l : Launch) (D : va_G) (ca : Nat → ClassId) (ad : Nat → Nat) (base : Nat) (hAd : okA base ad) (w : St) (a1 : Int32) (post : Int32 → St → Prop) (hw : wpL_known a1 w post) (hl9 : l.stackTraces = false) : Met l yL_known wsL_known ({ frames := 8, cells := 1, slots := 6, locals := 132 } : Room) (va_Pc [.ref (ad 0), .int a1, .ref (ad 59)] (BX D ca ad base w)) (va_Qi post (Bp D ca ad) (AB base)) 1 6 (AB base) := by
  refine va_MetW (cc := cL_known) (maxL := 4) (ret := (some .int)) (by decide) rfl ?_
  intro p e s m args below meth c s₁ B hml hv
  obtain ⟨rfl, ⟨hbs, hP, hK⟩, hXP⟩ := hv
  have hx := B.exec
  have hb := B.bytes
  have hr := B.returns
  have hts := atoms_spec (ws := wsL_known) B.pre
  have hown : s.vm.findClass RL = some m.cls := findClass_of_methodNamed B.named
  have hlocks := B.notSynchronized
  have hTab : c.exceptionTable.toList = tableOf [(0, 9, 12, 19)] := vx_table (x := yL_known) B (hts (.codeWith yL_known cL_known 4 (some .int) [(0, 9, 12, 19)]) (by decide +kernel))
  have hS : va_S (AB base) s.heap s.heap [] := va_S.rf
  have hl := lv_entry ([.ref (ad 0), .int a1, .ref (ad 59)]) (n := 4) (Nat.le_of_ble_eq_true rfl)
  rw [lg_entry_eq]
  generalize (lg_sl ([.ref (ad 0), .int a1, .ref (ad 59)]) ++ List.replicate (4 - (lg_sl ([.ref (ad 0), .int a1, .ref (ad 59)])).length) Slot.unset).toArray = ls at hl ⊢
  have hl : lv_has ls 4 [(0, .ref (ad 0)), (1, .int a1), (2, .ref (ad 59))] := hl
  refine lv_aload_n hx hb dL_known_0 rfl (lv_at hl 2 rfl) ?_
  refine lv_iconst (v := 0) hx hb dL_known_1 (by decide) ?_
  refine lv_aload_n hx hb dL_known_2 rfl (lv_at hl 0 rfl) ?_
  refine lv_iload_n hx hb dL_known_3 rfl (lv_at hl 1 rfl) ?_
  refine vx_calli (vx_runV (As := [.int a1]) (rest := [.int 0, .ref (ad 59)]) ⟨hx, hb, hml, hown, hts⟩ (mX4_known l D ca ad base hAd w a1 _ _ hw hl9) (cwV 1 hts gL_known_X4_known rfl rfl rfl (by decide +kernel) ⟨Nat.le_of_ble_eq_true rfl, Nat.le_of_ble_eq_true rfl⟩) (pvx [.int a1] hK hXP hP hbs hS rfl (wg0 ca ad w)) rfl rfl hl.1 rfl (lv_room (Nat.le_of_ble_eq_true rfl)) dL_known_4 ⟨Nat.le_of_ble_eq_true rfl, Nat.le_of_ble_eq_true rfl⟩) hS (fun q _ h => h) (fun q h => h) (fun q _ h => h) (fun E ce q9 u t H locs ht hvm hw hB hz1 hk1 hS hce hcv hcl => ?_) (fun r_2 w_1 t H locs ht hvm hw hP hz1 hk1 hS => ?_)
  · obtain ⟨e1, hB⟩ := hB
    obtain ⟨w_x, ew⟩ : ∃ z, z = u.2 := ⟨_, rfl⟩
    have hP : PA D ca ad w_x H := by rw [ew, ← ht]; exact hB
    rw [← ew] at hw
    obtain ⟨e9, hw⟩ := hw
    obtain rfl : E = "java/lang/IndexOutOfBoundsException" := e1.trans e9
    refine vx_catch (own := RL) (name := "java/lang/IndexOutOfBoundsException") (E := "java/lang/IndexOutOfBoundsException") hown [] ⟨0, 9, 12, 19⟩ [] (by rw [hTab]; rfl) (fun z hz => nomatch hz) (by decide) (by decide) (hts (.classLink RL 19 "java/lang/IndexOutOfBoundsException") (by decide +kernel)) (va_Nw.use rfl (hXP.2.2.1 (.castable "java/lang/IndexOutOfBoundsException" "java/lang/IndexOutOfBoundsException") (List.mem_of_getElem? (i := 1) rfl))) hce hcv hcl ?_
    refine lv_astore_n (lv' := [(3, .ref q9), (0, .ref (ad 0)), (1, .int a1), (2, .ref (ad 59))]) hx hb dL_known_12 rfl hl (by decide) rfl (fun ls hl => ?_)
    refine lv_iconst (v := 1) hx hb dL_known_13 (by decide) ?_
    exact W.iret (v := 1) hx hb hr (fun t ht hW => ⟨⟨1, w_x, rfl, hw, by show PA D ca ad w_x t.heap; rw [ht]; exact hP⟩, hS.F ht⟩) hS.2.2 dL_known_14
  have hP : PA D ca ad w_1 H := by rw [← ht]; exact hP
  refine lv_i2l (v := (r_2).toInt64) hx hb dL_known_7 rfl ?_
  obtain ⟨h_3, hw⟩ := hw
  refine va_last hx hb hK hP (DA hAd) hS 59 3 (wg59 ca ad w_1) rfl h_3 dL_known_8 (fun H locs hP hD hS => ?_)
  obtain ⟨w_4, e_5⟩ : ∃ z : St, z = (uO w_1 (vp_updL w_1.2.2.1 (0 : Int32).toNatClampNeg ((r_2).toInt64))) := ⟨_, rfl⟩
  have hP : PA D ca ad w_4 H := by rw [e_5]; exact wu59 hP
  have hw := hw w_4 e_5
  refine lv_goto (tgt := 15) hx hb dL_known_9 (by decide) ?_
  refine lv_iconst (v := 0) hx hb dL_known_15 (by decide) ?_
  exact W.iret (v := 0) hx hb hr (fun t ht hW => ⟨⟨0, w_4, rfl, hw, by show PA D ca ad w_4 t.heap; rw [ht]; exact hP⟩, hS.F ht⟩) hS.2.2 dL_known_16
set_option maxHeartbeats 4000000 in
set_option maxRecDepth 100000 in
def wpL_ownerKnown (a1 : Int32) (a2 : Int32) (w : St) (post : Int32 → St → Prop) : Prop := wpX4_ownerKnown a1 a2 w (fun r_2 w_1 => (vp_in 0 1) ∧ (∀ w_4 : St, w_4 = (uO w_1 (vp_updL w_1.2.2.1 (0 : Int32).toNatClampNeg ((r_2).toInt64))) → post 0 w_4)) (fun E w_x => (E = "java/lang/IndexOutOfBoundsException" ∧ (post 1 w_x)) ∨ (E = "java/util/NoSuchElementException" ∧ (post 2 w_x)))
set_option maxHeartbeats 4000000 in
set_option maxRecDepth 100000 in
theorem mL_ownerKnown (l : Launch) (D : va_G) (ca : Nat → ClassId) (ad : Nat → Nat) (base : Nat) (hAd : okA base ad) (w : St) (a1 : Int32) (a2 : Int32) (post : Int32 → St → Prop) (hw : wpL_ownerKnown a1 a2 w post) (hl9 : l.stackTraces = false) : Met l yL_ownerKnown wsL_ownerKnown ({ frames := 8, cells := 3, slots := 18, locals := 134 } : Room) (va_Pc [.ref (ad 0), .int a1, .int a2, .ref (ad 59)] (BX D ca ad base w)) (va_Qi post (Bp D ca ad) (AB base)) 3 18 (AB base) := by
  refine va_MetW (cc := cL_ownerKnown) (maxL := 5) (ret := (some .int)) (by decide) rfl ?_
  intro p e s m args below meth c s₁ B hml hv
  obtain ⟨rfl, ⟨hbs, hP, hK⟩, hXP⟩ := hv
  have hx := B.exec
  have hb := B.bytes
  have hr := B.returns
  have hts := atoms_spec (ws := wsL_ownerKnown) B.pre
  have hown : s.vm.findClass RL = some m.cls := findClass_of_methodNamed B.named
  have hlocks := B.notSynchronized
  have hTab : c.exceptionTable.toList = tableOf [(0, 10, 13, 19), (0, 10, 17, 43)] := vx_table (x := yL_ownerKnown) B (hts (.codeWith yL_ownerKnown cL_ownerKnown 5 (some .int) [(0, 10, 13, 19), (0, 10, 17, 43)]) (by decide +kernel))
  have hS : va_S (AB base) s.heap s.heap [] := va_S.rf
  have hl := lv_entry ([.ref (ad 0), .int a1, .int a2, .ref (ad 59)]) (n := 5) (Nat.le_of_ble_eq_true rfl)
  rw [lg_entry_eq]
  generalize (lg_sl ([.ref (ad 0), .int a1, .int a2, .ref (ad 59)]) ++ List.replicate (5 - (lg_sl ([.ref (ad 0), .int a1, .int a2, .ref (ad 59)])).length) Slot.unset).toArray = ls at hl ⊢
  have hl : lv_has ls 5 [(0, .ref (ad 0)), (1, .int a1), (2, .int a2), (3, .ref (ad 59))] := hl
  refine lv_aload_n hx hb dL_ownerKnown_0 rfl (lv_at hl 3 rfl) ?_
  refine lv_iconst (v := 0) hx hb dL_ownerKnown_1 (by decide) ?_
  refine lv_aload_n hx hb dL_ownerKnown_2 rfl (lv_at hl 0 rfl) ?_
  refine lv_iload_n hx hb dL_ownerKnown_3 rfl (lv_at hl 1 rfl) ?_
  refine lv_iload_n hx hb dL_ownerKnown_4 rfl (lv_at hl 2 rfl) ?_
  refine vx_calli (vx_runV (As := [.int a1, .int a2]) (rest := [.int 0, .ref (ad 59)]) ⟨hx, hb, hml, hown, hts⟩ (mX4_ownerKnown l D ca ad base hAd w a1 a2 _ _ hw hl9) (cwV 2 hts gL_ownerKnown_X4_ownerKnown rfl rfl rfl (by decide +kernel) ⟨Nat.le_of_ble_eq_true rfl, Nat.le_of_ble_eq_true rfl⟩) (pvx [.int a1, .int a2] hK hXP hP hbs hS rfl (wg0 ca ad w)) rfl rfl hl.1 rfl (lv_room (Nat.le_of_ble_eq_true rfl)) dL_ownerKnown_5 ⟨Nat.le_of_ble_eq_true rfl, Nat.le_of_ble_eq_true rfl⟩) hS (fun q _ h => h) (fun q h => h) (fun q _ h => h) (fun E ce q9 u t H locs ht hvm hw hB hz1 hk1 hS hce hcv hcl => ?_) (fun r_2 w_1 t H locs ht hvm hw hP hz1 hk1 hS => ?_)
  · obtain ⟨e1, hB⟩ := hB
    obtain ⟨w_x, ew⟩ : ∃ z, z = u.2 := ⟨_, rfl⟩
    have hP : PA D ca ad w_x H := by rw [ew, ← ht]; exact hB
    rw [← ew] at hw
    rcases hw with hw | hw
    · obtain ⟨e9, hw⟩ := hw
      obtain rfl : E = "java/lang/IndexOutOfBoundsException" := e1.trans e9
      refine vx_catch (own := RL) (name := "java/lang/IndexOutOfBoundsException") (E := "java/lang/IndexOutOfBoundsException") hown [] ⟨0, 10, 13, 19⟩ [⟨0, 10, 17, 43⟩] (by rw [hTab]; rfl) (fun z hz => nomatch hz) (by decide) (by decide) (hts (.classLink RL 19 "java/lang/IndexOutOfBoundsException") (by decide +kernel)) (va_Nw.use rfl (hXP.2.2.1 (.castable "java/lang/IndexOutOfBoundsException" "java/lang/IndexOutOfBoundsException") (List.mem_of_getElem? (i := 1) rfl))) hce hcv hcl ?_
      refine lv_astore (lv' := [(4, .ref q9), (0, .ref (ad 0)), (1, .int a1), (2, .int a2), (3, .ref (ad 59))]) hx hb dL_ownerKnown_13 hl (by decide) rfl (fun ls hl => ?_)
      refine lv_iconst (v := 1) hx hb dL_ownerKnown_15 (by decide) ?_
      exact W.iret (v := 1) hx hb hr (fun t ht hW => ⟨⟨1, w_x, rfl, hw, by show PA D ca ad w_x t.heap; rw [ht]; exact hP⟩, hS.F ht⟩) hS.2.2 dL_ownerKnown_16
    · obtain ⟨e9, hw⟩ := hw
      obtain rfl : E = "java/util/NoSuchElementException" := e1.trans e9
      refine vx_catch (own := RL) (name := "java/util/NoSuchElementException") (E := "java/util/NoSuchElementException") hown [⟨0, 10, 13, 19⟩] ⟨0, 10, 17, 43⟩ [] (by rw [hTab]; rfl) (by intro z hz; rcases List.mem_cons.mp hz with rfl | hz; exact Or.inr ⟨by decide, "java/lang/IndexOutOfBoundsException", hts (.classLink RL 19 "java/lang/IndexOutOfBoundsException") (by decide +kernel), hXP.2.2.2.2 ("java/util/NoSuchElementException", "java/lang/IndexOutOfBoundsException") (List.mem_of_getElem? (i := 16) rfl)⟩; cases hz) (by decide) (by decide) (hts (.classLink RL 43 "java/util/NoSuchElementException") (by decide +kernel)) (va_Nw.use rfl (hXP.2.2.1 (.castable "java/util/NoSuchElementException" "java/util/NoSuchElementException") (List.mem_of_getElem? (i := 3) rfl))) hce hcv hcl ?_
      refine lv_astore (lv' := [(4, .ref q9), (0, .ref (ad 0)), (1, .int a1), (2, .int a2), (3, .ref (ad 59))]) hx hb dL_ownerKnown_17 hl (by decide) rfl (fun ls hl => ?_)
      refine lv_iconst (v := 2) hx hb dL_ownerKnown_19 (by decide) ?_
      exact W.iret (v := 2) hx hb hr (fun t ht hW => ⟨⟨2, w_x, rfl, hw, by show PA D ca ad w_x t.heap; rw [ht]; exact hP⟩, hS.F ht⟩) hS.2.2 dL_ownerKnown_20
  have hP : PA D ca ad w_1 H := by rw [← ht]; exact hP
  refine lv_i2l (v := (r_2).toInt64) hx hb dL_ownerKnown_8 rfl ?_
  obtain ⟨h_3, hw⟩ := hw
  refine va_last hx hb hK hP (DA hAd) hS 59 3 (wg59 ca ad w_1) rfl h_3 dL_ownerKnown_9 (fun H locs hP hD hS => ?_)
  obtain ⟨w_4, e_5⟩ : ∃ z : St, z = (uO w_1 (vp_updL w_1.2.2.1 (0 : Int32).toNatClampNeg ((r_2).toInt64))) := ⟨_, rfl⟩
  have hP : PA D ca ad w_4 H := by rw [e_5]; exact wu59 hP
  have hw := hw w_4 e_5
  refine lv_goto (tgt := 21) hx hb dL_ownerKnown_10 (by decide) ?_
  refine lv_iconst (v := 0) hx hb dL_ownerKnown_21 (by decide) ?_
  exact W.iret (v := 0) hx hb hr (fun t ht hW => ⟨⟨0, w_4, rfl, hw, by show PA D ca ad w_4 t.heap; rw [ht]; exact hP⟩, hS.F ht⟩) hS.2.2 dL_ownerKnown_22
set_option maxHeartbeats 4000000 in
set_option maxRecDepth 100000 in
def wpL_addClient (w : St) (post : Int32 → St → Prop) : Prop := wpX4_addClient w (fun r_2 w_1 => (vp_in 0 1) ∧ (∀ w_4 : St, w_4 = (uO w_1 (vp_updL w_1.2.2.1 (0 : Int32).toNatClampNeg ((r_2).toInt64))) → post 0 w_4)) (fun E w_x => (E = "java/lang/IllegalStateException" ∧ (post 1 w_x)))
set_option maxHeartbeats 4000000 in
set_option maxRecDepth 100000 in
theorem mL_addClient (l : Launch) (D : va_G) (ca : Nat → ClassId) (ad : Nat → Nat) (base : Nat) (hAd : okA base ad) (w : St) (post : Int32 → St → Prop) (hw : wpL_addClient w post) (hl9 : l.stackTraces = false) : Met l yL_addClient wsL_addClient ({ frames := 7, cells := 1, slots := 6, locals := 111 } : Room) (va_Pc [.ref (ad 0), .ref (ad 59)] (BX D ca ad base w)) (va_Qi post (Bp D ca ad) (AB base)) 1 6 (AB base) := by
  refine va_MetW (cc := cL_addClient) (maxL := 3) (ret := (some .int)) (by decide) rfl ?_
  intro p e s m args below meth c s₁ B hml hv
  obtain ⟨rfl, ⟨hbs, hP, hK⟩, hXP⟩ := hv
  have hx := B.exec
  have hb := B.bytes
  have hr := B.returns
  have hts := atoms_spec (ws := wsL_addClient) B.pre
  have hown : s.vm.findClass RL = some m.cls := findClass_of_methodNamed B.named
  have hlocks := B.notSynchronized
  have hTab : c.exceptionTable.toList = tableOf [(0, 8, 11, 31)] := vx_table (x := yL_addClient) B (hts (.codeWith yL_addClient cL_addClient 3 (some .int) [(0, 8, 11, 31)]) (by decide +kernel))
  have hS : va_S (AB base) s.heap s.heap [] := va_S.rf
  have hl := lv_entry ([.ref (ad 0), .ref (ad 59)]) (n := 3) (Nat.le_of_ble_eq_true rfl)
  rw [lg_entry_eq]
  generalize (lg_sl ([.ref (ad 0), .ref (ad 59)]) ++ List.replicate (3 - (lg_sl ([.ref (ad 0), .ref (ad 59)])).length) Slot.unset).toArray = ls at hl ⊢
  have hl : lv_has ls 3 [(0, .ref (ad 0)), (1, .ref (ad 59))] := hl
  refine lv_aload_n hx hb dL_addClient_0 rfl (lv_at hl 1 rfl) ?_
  refine lv_iconst (v := 0) hx hb dL_addClient_1 (by decide) ?_
  refine lv_aload_n hx hb dL_addClient_2 rfl (lv_at hl 0 rfl) ?_
  refine vx_calli (vx_runV (As := []) (rest := [.int 0, .ref (ad 59)]) ⟨hx, hb, hml, hown, hts⟩ (mX4_addClient l D ca ad base hAd w _ _ hw hl9) (cwV 0 hts gL_addClient_X4_addClient rfl rfl rfl (by decide +kernel) ⟨Nat.le_of_ble_eq_true rfl, Nat.le_of_ble_eq_true rfl⟩) (pvx [] hK hXP hP hbs hS rfl (wg0 ca ad w)) rfl rfl hl.1 rfl (lv_room (Nat.le_of_ble_eq_true rfl)) dL_addClient_3 ⟨Nat.le_of_ble_eq_true rfl, Nat.le_of_ble_eq_true rfl⟩) hS (fun q _ h => h) (fun q h => h) (fun q _ h => h) (fun E ce q9 u t H locs ht hvm hw hB hz1 hk1 hS hce hcv hcl => ?_) (fun r_2 w_1 t H locs ht hvm hw hP hz1 hk1 hS => ?_)
  · obtain ⟨e1, hB⟩ := hB
    obtain ⟨w_x, ew⟩ : ∃ z, z = u.2 := ⟨_, rfl⟩
    have hP : PA D ca ad w_x H := by rw [ew, ← ht]; exact hB
    rw [← ew] at hw
    obtain ⟨e9, hw⟩ := hw
    obtain rfl : E = "java/lang/IllegalStateException" := e1.trans e9
    refine vx_catch (own := RL) (name := "java/lang/IllegalStateException") (E := "java/lang/IllegalStateException") hown [] ⟨0, 8, 11, 31⟩ [] (by rw [hTab]; rfl) (fun z hz => nomatch hz) (by decide) (by decide) (hts (.classLink RL 31 "java/lang/IllegalStateException") (by decide +kernel)) (va_Nw.use rfl (hXP.2.2.1 (.castable "java/lang/IllegalStateException" "java/lang/IllegalStateException") (List.mem_of_getElem? (i := 2) rfl))) hce hcv hcl ?_
    refine lv_astore_n (lv' := [(2, .ref q9), (0, .ref (ad 0)), (1, .ref (ad 59))]) hx hb dL_addClient_11 rfl hl (by decide) rfl (fun ls hl => ?_)
    refine lv_iconst (v := 1) hx hb dL_addClient_12 (by decide) ?_
    exact W.iret (v := 1) hx hb hr (fun t ht hW => ⟨⟨1, w_x, rfl, hw, by show PA D ca ad w_x t.heap; rw [ht]; exact hP⟩, hS.F ht⟩) hS.2.2 dL_addClient_13
  have hP : PA D ca ad w_1 H := by rw [← ht]; exact hP
  refine lv_i2l (v := (r_2).toInt64) hx hb dL_addClient_6 rfl ?_
  obtain ⟨h_3, hw⟩ := hw
  refine va_last hx hb hK hP (DA hAd) hS 59 3 (wg59 ca ad w_1) rfl h_3 dL_addClient_7 (fun H locs hP hD hS => ?_)
  obtain ⟨w_4, e_5⟩ : ∃ z : St, z = (uO w_1 (vp_updL w_1.2.2.1 (0 : Int32).toNatClampNeg ((r_2).toInt64))) := ⟨_, rfl⟩
  have hP : PA D ca ad w_4 H := by rw [e_5]; exact wu59 hP
  have hw := hw w_4 e_5
  refine lv_goto (tgt := 14) hx hb dL_addClient_8 (by decide) ?_
  refine lv_iconst (v := 0) hx hb dL_addClient_14 (by decide) ?_
  exact W.iret (v := 0) hx hb hr (fun t ht hW => ⟨⟨0, w_4, rfl, hw, by show PA D ca ad w_4 t.heap; rw [ht]; exact hP⟩, hS.F ht⟩) hS.2.2 dL_addClient_15
set_option maxHeartbeats 4000000 in
set_option maxRecDepth 100000 in
def wpL_setOffset (a1 : Int32) (a2 : Int32) (w : St) (post : Int32 → St → Prop) : Prop := wpX4_setOffset a1 a2 w (fun r_2 w_1 => (vp_in 0 1) ∧ (∀ w_4 : St, w_4 = (uO w_1 (vp_updL w_1.2.2.1 (0 : Int32).toNatClampNeg ((r_2).toInt64))) → post 0 w_4)) (fun E w_x => (E = "java/util/NoSuchElementException" ∧ (post 1 w_x)) ∨ (E = "java/lang/IllegalArgumentException" ∧ (post 2 w_x)))
set_option maxHeartbeats 4000000 in
set_option maxRecDepth 100000 in
theorem mL_setOffset (l : Launch) (D : va_G) (ca : Nat → ClassId) (ad : Nat → Nat) (base : Nat) (hAd : okA base ad) (w : St) (a1 : Int32) (a2 : Int32) (post : Int32 → St → Prop) (hw : wpL_setOffset a1 a2 w post) (hl9 : l.stackTraces = false) : Met l yL_setOffset wsL_setOffset ({ frames := 8, cells := 2, slots := 12, locals := 134 } : Room) (va_Pc [.ref (ad 0), .int a1, .int a2, .ref (ad 59)] (BX D ca ad base w)) (va_Qi post (Bp D ca ad) (AB base)) 2 12 (AB base) := by
  refine va_MetW (cc := cL_setOffset) (maxL := 5) (ret := (some .int)) (by decide) rfl ?_
  intro p e s m args below meth c s₁ B hml hv
  obtain ⟨rfl, ⟨hbs, hP, hK⟩, hXP⟩ := hv
  have hx := B.exec
  have hb := B.bytes
  have hr := B.returns
  have hts := atoms_spec (ws := wsL_setOffset) B.pre
  have hown : s.vm.findClass RL = some m.cls := findClass_of_methodNamed B.named
  have hlocks := B.notSynchronized
  have hTab : c.exceptionTable.toList = tableOf [(0, 10, 13, 43), (0, 10, 17, 13)] := vx_table (x := yL_setOffset) B (hts (.codeWith yL_setOffset cL_setOffset 5 (some .int) [(0, 10, 13, 43), (0, 10, 17, 13)]) (by decide +kernel))
  have hS : va_S (AB base) s.heap s.heap [] := va_S.rf
  have hl := lv_entry ([.ref (ad 0), .int a1, .int a2, .ref (ad 59)]) (n := 5) (Nat.le_of_ble_eq_true rfl)
  rw [lg_entry_eq]
  generalize (lg_sl ([.ref (ad 0), .int a1, .int a2, .ref (ad 59)]) ++ List.replicate (5 - (lg_sl ([.ref (ad 0), .int a1, .int a2, .ref (ad 59)])).length) Slot.unset).toArray = ls at hl ⊢
  have hl : lv_has ls 5 [(0, .ref (ad 0)), (1, .int a1), (2, .int a2), (3, .ref (ad 59))] := hl
  refine lv_aload_n hx hb dL_setOffset_0 rfl (lv_at hl 3 rfl) ?_
  refine lv_iconst (v := 0) hx hb dL_setOffset_1 (by decide) ?_
  refine lv_aload_n hx hb dL_setOffset_2 rfl (lv_at hl 0 rfl) ?_
  refine lv_iload_n hx hb dL_setOffset_3 rfl (lv_at hl 1 rfl) ?_
  refine lv_iload_n hx hb dL_setOffset_4 rfl (lv_at hl 2 rfl) ?_
  refine vx_calli (vx_runV (As := [.int a1, .int a2]) (rest := [.int 0, .ref (ad 59)]) ⟨hx, hb, hml, hown, hts⟩ (mX4_setOffset l D ca ad base hAd w a1 a2 _ _ hw hl9) (cwV 2 hts gL_setOffset_X4_setOffset rfl rfl rfl (by decide +kernel) ⟨Nat.le_of_ble_eq_true rfl, Nat.le_of_ble_eq_true rfl⟩) (pvx [.int a1, .int a2] hK hXP hP hbs hS rfl (wg0 ca ad w)) rfl rfl hl.1 rfl (lv_room (Nat.le_of_ble_eq_true rfl)) dL_setOffset_5 ⟨Nat.le_of_ble_eq_true rfl, Nat.le_of_ble_eq_true rfl⟩) hS (fun q _ h => h) (fun q h => h) (fun q _ h => h) (fun E ce q9 u t H locs ht hvm hw hB hz1 hk1 hS hce hcv hcl => ?_) (fun r_2 w_1 t H locs ht hvm hw hP hz1 hk1 hS => ?_)
  · obtain ⟨e1, hB⟩ := hB
    obtain ⟨w_x, ew⟩ : ∃ z, z = u.2 := ⟨_, rfl⟩
    have hP : PA D ca ad w_x H := by rw [ew, ← ht]; exact hB
    rw [← ew] at hw
    rcases hw with hw | hw
    · obtain ⟨e9, hw⟩ := hw
      obtain rfl : E = "java/util/NoSuchElementException" := e1.trans e9
      refine vx_catch (own := RL) (name := "java/util/NoSuchElementException") (E := "java/util/NoSuchElementException") hown [] ⟨0, 10, 13, 43⟩ [⟨0, 10, 17, 13⟩] (by rw [hTab]; rfl) (fun z hz => nomatch hz) (by decide) (by decide) (hts (.classLink RL 43 "java/util/NoSuchElementException") (by decide +kernel)) (va_Nw.use rfl (hXP.2.2.1 (.castable "java/util/NoSuchElementException" "java/util/NoSuchElementException") (List.mem_of_getElem? (i := 3) rfl))) hce hcv hcl ?_
      refine lv_astore (lv' := [(4, .ref q9), (0, .ref (ad 0)), (1, .int a1), (2, .int a2), (3, .ref (ad 59))]) hx hb dL_setOffset_13 hl (by decide) rfl (fun ls hl => ?_)
      refine lv_iconst (v := 1) hx hb dL_setOffset_15 (by decide) ?_
      exact W.iret (v := 1) hx hb hr (fun t ht hW => ⟨⟨1, w_x, rfl, hw, by show PA D ca ad w_x t.heap; rw [ht]; exact hP⟩, hS.F ht⟩) hS.2.2 dL_setOffset_16
    · obtain ⟨e9, hw⟩ := hw
      obtain rfl : E = "java/lang/IllegalArgumentException" := e1.trans e9
      refine vx_catch (own := RL) (name := "java/lang/IllegalArgumentException") (E := "java/lang/IllegalArgumentException") hown [⟨0, 10, 13, 43⟩] ⟨0, 10, 17, 13⟩ [] (by rw [hTab]; rfl) (by intro z hz; rcases List.mem_cons.mp hz with rfl | hz; exact Or.inr ⟨by decide, "java/util/NoSuchElementException", hts (.classLink RL 43 "java/util/NoSuchElementException") (by decide +kernel), hXP.2.2.2.2 ("java/lang/IllegalArgumentException", "java/util/NoSuchElementException") (List.mem_of_getElem? (i := 2) rfl)⟩; cases hz) (by decide) (by decide) (hts (.classLink RL 13 "java/lang/IllegalArgumentException") (by decide +kernel)) (va_Nw.use rfl (hXP.2.2.1 (.castable "java/lang/IllegalArgumentException" "java/lang/IllegalArgumentException") (List.mem_of_getElem? (i := 0) rfl))) hce hcv hcl ?_
      refine lv_astore (lv' := [(4, .ref q9), (0, .ref (ad 0)), (1, .int a1), (2, .int a2), (3, .ref (ad 59))]) hx hb dL_setOffset_17 hl (by decide) rfl (fun ls hl => ?_)
      refine lv_iconst (v := 2) hx hb dL_setOffset_19 (by decide) ?_
      exact W.iret (v := 2) hx hb hr (fun t ht hW => ⟨⟨2, w_x, rfl, hw, by show PA D ca ad w_x t.heap; rw [ht]; exact hP⟩, hS.F ht⟩) hS.2.2 dL_setOffset_20
  have hP : PA D ca ad w_1 H := by rw [← ht]; exact hP
  refine lv_i2l (v := (r_2).toInt64) hx hb dL_setOffset_8 rfl ?_
  obtain ⟨h_3, hw⟩ := hw
  refine va_last hx hb hK hP (DA hAd) hS 59 3 (wg59 ca ad w_1) rfl h_3 dL_setOffset_9 (fun H locs hP hD hS => ?_)
  obtain ⟨w_4, e_5⟩ : ∃ z : St, z = (uO w_1 (vp_updL w_1.2.2.1 (0 : Int32).toNatClampNeg ((r_2).toInt64))) := ⟨_, rfl⟩
  have hP : PA D ca ad w_4 H := by rw [e_5]; exact wu59 hP
  have hw := hw w_4 e_5
  refine lv_goto (tgt := 21) hx hb dL_setOffset_10 (by decide) ?_
  refine lv_iconst (v := 0) hx hb dL_setOffset_21 (by decide) ?_
  exact W.iret (v := 0) hx hb hr (fun t ht hW => ⟨⟨0, w_4, rfl, hw, by show PA D ca ad w_4 t.heap; rw [ht]; exact hP⟩, hS.F ht⟩) hS.2.2 dL_setOffset_22
set_option maxHeartbeats 4000000 in
set_option maxRecDepth 100000 in
def wpL_setPaused_B16 (a1 : Int32) (a2 : Int32) (post : Int32 → St → Prop) (s0 : Int64) (s1 : Int32) (w : St) : Prop := (vp_in s1 1) ∧ (∀ w_2 : St, w_2 = (uO w (vp_updL w.2.2.1 (s1).toNatClampNeg s0)) → post 0 w_2)
set_option maxHeartbeats 4000000 in
set_option maxRecDepth 100000 in
def wpL_setPaused (a1 : Int32) (a2 : Int32) (w : St) (post : Int32 → St → Prop) : Prop := wpX4_setPaused a1 a2 w (fun r_5 w_4 => (r_5 = 0 → (wpL_setPaused_B16 a1 a2 post 0 0 w_4)) ∧ (¬ (r_5 = 0) → (wpL_setPaused_B16 a1 a2 post 1 0 w_4))) (fun E w_x => (E = "java/util/NoSuchElementException" ∧ (post 1 w_x)))
set_option maxHeartbeats 4000000 in
set_option maxRecDepth 100000 in
theorem mL_setPaused (l : Launch) (D : va_G) (ca : Nat → ClassId) (ad : Nat → Nat) (base : Nat) (hAd : okA base ad) (w : St) (a1 : Int32) (a2 : Int32) (post : Int32 → St → Prop) (hw : wpL_setPaused a1 a2 w post) (hl9 : l.stackTraces = false) : Met l yL_setPaused wsL_setPaused ({ frames := 8, cells := 1, slots := 6, locals := 134 } : Room) (va_Pc [.ref (ad 0), .int a1, .int a2, .ref (ad 59)] (BX D ca ad base w)) (va_Qi post (Bp D ca ad) (AB base)) 1 6 (AB base) := by
  refine va_MetW (cc := cL_setPaused) (maxL := 5) (ret := (some .int)) (by decide) rfl ?_
  intro p e s m args below meth c s₁ B hml hv
  obtain ⟨rfl, ⟨hbs, hP, hK⟩, hXP⟩ := hv
  have hx := B.exec
  have hb := B.bytes
  have hr := B.returns
  have hts := atoms_spec (ws := wsL_setPaused) B.pre
  have hown : s.vm.findClass RL = some m.cls := findClass_of_methodNamed B.named
  have hlocks := B.notSynchronized
  have hTab : c.exceptionTable.toList = tableOf [(0, 17, 20, 43)] := vx_table (x := yL_setPaused) B (hts (.codeWith yL_setPaused cL_setPaused 5 (some .int) [(0, 17, 20, 43)]) (by decide +kernel))
  have hS : va_S (AB base) s.heap s.heap [] := va_S.rf
  have hB16 : ∀ (s0 : Int64) (s1 : Int32) (w : St), wpL_setPaused_B16 a1 a2 post s0 s1 w → ∀ (H : Heap) (locs : List Loc), PA D ca ad w H → va_S (AB base) s.heap H locs → ∀ ls : Array Slot, lv_has ls 5 [] → W p l e (headSpec wsL_setPaused ({ frames := 8, cells := 1, slots := 6, locals := 134 } : Room)).room s m ([Value.ref (ad 0), Value.int a1, Value.int a2, Value.ref (ad 59)].toArray) below meth c H locs 1 6 (MQ below (va_Qi post (Bp D ca ad) (AB base)) ([Value.ref (ad 0), Value.int a1, Value.int a2, Value.ref (ad 59)].toArray) s 1 6 (AB base)) (F0 m 16 ls [.long s0, .int s1, .ref (ad 59)]) := by
    intro s0 s1 w hw H locs hP hS ls hl
    obtain ⟨h_1, hw⟩ := hw
    refine va_last hx hb hK hP (DA hAd) hS 59 3 (wg59 ca ad w) rfl h_1 dL_setPaused_16 (fun H locs hP hD hS => ?_)
    obtain ⟨w_2, e_3⟩ : ∃ z : St, z = (uO w (vp_updL w.2.2.1 (s1).toNatClampNeg s0)) := ⟨_, rfl⟩
    have hP : PA D ca ad w_2 H := by rw [e_3]; exact wu59 hP
    have hw := hw w_2 e_3
    refine lv_goto (tgt := 24) hx hb dL_setPaused_17 (by decide) ?_
    refine lv_iconst (v := 0) hx hb dL_setPaused_24 (by decide) ?_
    exact W.iret (v := 0) hx hb hr (fun t ht hW => ⟨⟨0, w_2, rfl, hw, by show PA D ca ad w_2 t.heap; rw [ht]; exact hP⟩, hS.F ht⟩) hS.2.2 dL_setPaused_25
  have hl := lv_entry ([.ref (ad 0), .int a1, .int a2, .ref (ad 59)]) (n := 5) (Nat.le_of_ble_eq_true rfl)
  rw [lg_entry_eq]
  generalize (lg_sl ([.ref (ad 0), .int a1, .int a2, .ref (ad 59)]) ++ List.replicate (5 - (lg_sl ([.ref (ad 0), .int a1, .int a2, .ref (ad 59)])).length) Slot.unset).toArray = ls at hl ⊢
  have hl : lv_has ls 5 [(0, .ref (ad 0)), (1, .int a1), (2, .int a2), (3, .ref (ad 59))] := hl
  refine lv_aload_n hx hb dL_setPaused_0 rfl (lv_at hl 3 rfl) ?_
  refine lv_iconst (v := 0) hx hb dL_setPaused_1 (by decide) ?_
  refine lv_aload_n hx hb dL_setPaused_2 rfl (lv_at hl 0 rfl) ?_
  refine lv_iload_n hx hb dL_setPaused_3 rfl (lv_at hl 1 rfl) ?_
  refine lv_iload_n hx hb dL_setPaused_4 rfl (lv_at hl 2 rfl) ?_
  refine vx_calli (vx_runV (As := [.int a1, .int a2]) (rest := [.int 0, .ref (ad 59)]) ⟨hx, hb, hml, hown, hts⟩ (mX4_setPaused l D ca ad base hAd w a1 a2 _ _ hw hl9) (cwV 2 hts gL_setPaused_X4_setPaused rfl rfl rfl (by decide +kernel) ⟨Nat.le_of_ble_eq_true rfl, Nat.le_of_ble_eq_true rfl⟩) (pvx [.int a1, .int a2] hK hXP hP hbs hS rfl (wg0 ca ad w)) rfl rfl hl.1 rfl (lv_room (Nat.le_of_ble_eq_true rfl)) dL_setPaused_5 ⟨Nat.le_of_ble_eq_true rfl, Nat.le_of_ble_eq_true rfl⟩) hS (fun q _ h => h) (fun q h => h) (fun q _ h => h) (fun E ce q9 u t H locs ht hvm hw hB hz1 hk1 hS hce hcv hcl => ?_) (fun r_5 w_4 t H locs ht hvm hw hP hz1 hk1 hS => ?_)
  · obtain ⟨e1, hB⟩ := hB
    obtain ⟨w_x, ew⟩ : ∃ z, z = u.2 := ⟨_, rfl⟩
    have hP : PA D ca ad w_x H := by rw [ew, ← ht]; exact hB
    rw [← ew] at hw
    obtain ⟨e9, hw⟩ := hw
    obtain rfl : E = "java/util/NoSuchElementException" := e1.trans e9
    refine vx_catch (own := RL) (name := "java/util/NoSuchElementException") (E := "java/util/NoSuchElementException") hown [] ⟨0, 17, 20, 43⟩ [] (by rw [hTab]; rfl) (fun z hz => nomatch hz) (by decide) (by decide) (hts (.classLink RL 43 "java/util/NoSuchElementException") (by decide +kernel)) (va_Nw.use rfl (hXP.2.2.1 (.castable "java/util/NoSuchElementException" "java/util/NoSuchElementException") (List.mem_of_getElem? (i := 3) rfl))) hce hcv hcl ?_
    refine lv_astore (lv' := [(4, .ref q9), (0, .ref (ad 0)), (1, .int a1), (2, .int a2), (3, .ref (ad 59))]) hx hb dL_setPaused_20 hl (by decide) rfl (fun ls hl => ?_)
    refine lv_iconst (v := 1) hx hb dL_setPaused_22 (by decide) ?_
    exact W.iret (v := 1) hx hb hr (fun t ht hW => ⟨⟨1, w_x, rfl, hw, by show PA D ca ad w_x t.heap; rw [ht]; exact hP⟩, hS.F ht⟩) hS.2.2 dL_setPaused_23
  have hP : PA D ca ad w_4 H := by rw [← ht]; exact hP
  refine lv_if_eq (tgt := 15) hx hb dL_setPaused_8 (by decide) (fun c_6 => ?_) (fun c_6 => ?_)
  · have hw := hw.1 c_6
    refine lv_lconst (v := 0) hx hb dL_setPaused_15 (by decide) ?_
    exact hB16 0 0 w_4 hw _ _ hP hS ls (lv_sub hl [] rfl)
  · have hw := hw.2 c_6
    refine lv_lconst (v := 1) hx hb dL_setPaused_11 (by decide) ?_
    refine lv_goto (tgt := 16) hx hb dL_setPaused_12 (by decide) ?_
    exact hB16 1 0 w_4 hw _ _ hP hS ls (lv_sub hl [] rfl)
set_option maxHeartbeats 4000000 in
set_option maxRecDepth 100000 in
def wpL_clockOf (a1 : Int32) (w : St) (post : Int32 → St → Prop) : Prop := wpX4_clockOf a1 w (fun r_2 w_1 => (vp_in 0 1) ∧ (∀ w_4 : St, w_4 = (uO w_1 (vp_updL w_1.2.2.1 (0 : Int32).toNatClampNeg ((r_2).toInt64))) → post 0 w_4)) (fun E w_x => (E = "java/util/NoSuchElementException" ∧ (post 1 w_x)))
set_option maxHeartbeats 4000000 in
set_option maxRecDepth 100000 in
theorem mL_clockOf (l : Launch) (D : va_G) (ca : Nat → ClassId) (ad : Nat → Nat) (base : Nat) (hAd : okA base ad) (w : St) (a1 : Int32) (post : Int32 → St → Prop) (hw : wpL_clockOf a1 w post) (hl9 : l.stackTraces = false) : Met l yL_clockOf wsL_clockOf ({ frames := 8, cells := 1, slots := 6, locals := 132 } : Room) (va_Pc [.ref (ad 0), .int a1, .ref (ad 59)] (BX D ca ad base w)) (va_Qi post (Bp D ca ad) (AB base)) 1 6 (AB base) := by
  refine va_MetW (cc := cL_clockOf) (maxL := 4) (ret := (some .int)) (by decide) rfl ?_
  intro p e s m args below meth c s₁ B hml hv
  obtain ⟨rfl, ⟨hbs, hP, hK⟩, hXP⟩ := hv
  have hx := B.exec
  have hb := B.bytes
  have hr := B.returns
  have hts := atoms_spec (ws := wsL_clockOf) B.pre
  have hown : s.vm.findClass RL = some m.cls := findClass_of_methodNamed B.named
  have hlocks := B.notSynchronized
  have hTab : c.exceptionTable.toList = tableOf [(0, 9, 12, 43)] := vx_table (x := yL_clockOf) B (hts (.codeWith yL_clockOf cL_clockOf 4 (some .int) [(0, 9, 12, 43)]) (by decide +kernel))
  have hS : va_S (AB base) s.heap s.heap [] := va_S.rf
  have hl := lv_entry ([.ref (ad 0), .int a1, .ref (ad 59)]) (n := 4) (Nat.le_of_ble_eq_true rfl)
  rw [lg_entry_eq]
  generalize (lg_sl ([.ref (ad 0), .int a1, .ref (ad 59)]) ++ List.replicate (4 - (lg_sl ([.ref (ad 0), .int a1, .ref (ad 59)])).length) Slot.unset).toArray = ls at hl ⊢
  have hl : lv_has ls 4 [(0, .ref (ad 0)), (1, .int a1), (2, .ref (ad 59))] := hl
  refine lv_aload_n hx hb dL_clockOf_0 rfl (lv_at hl 2 rfl) ?_
  refine lv_iconst (v := 0) hx hb dL_clockOf_1 (by decide) ?_
  refine lv_aload_n hx hb dL_clockOf_2 rfl (lv_at hl 0 rfl) ?_
  refine lv_iload_n hx hb dL_clockOf_3 rfl (lv_at hl 1 rfl) ?_
  refine vx_calli (vx_runV (As := [.int a1]) (rest := [.int 0, .ref (ad 59)]) ⟨hx, hb, hml, hown, hts⟩ (mX4_clockOf l D ca ad base hAd w a1 _ _ hw hl9) (cwV 1 hts gL_clockOf_X4_clockOf rfl rfl rfl (by decide +kernel) ⟨Nat.le_of_ble_eq_true rfl, Nat.le_of_ble_eq_true rfl⟩) (pvx [.int a1] hK hXP hP hbs hS rfl (wg0 ca ad w)) rfl rfl hl.1 rfl (lv_room (Nat.le_of_ble_eq_true rfl)) dL_clockOf_4 ⟨Nat.le_of_ble_eq_true rfl, Nat.le_of_ble_eq_true rfl⟩) hS (fun q _ h => h) (fun q h => h) (fun q _ h => h) (fun E ce q9 u t H locs ht hvm hw hB hz1 hk1 hS hce hcv hcl => ?_) (fun r_2 w_1 t H locs ht hvm hw hP hz1 hk1 hS => ?_)
  · obtain ⟨e1, hB⟩ := hB
    obtain ⟨w_x, ew⟩ : ∃ z, z = u.2 := ⟨_, rfl⟩
    have hP : PA D ca ad w_x H := by rw [ew, ← ht]; exact hB
    rw [← ew] at hw
    obtain ⟨e9, hw⟩ := hw
    obtain rfl : E = "java/util/NoSuchElementException" := e1.trans e9
    refine vx_catch (own := RL) (name := "java/util/NoSuchElementException") (E := "java/util/NoSuchElementException") hown [] ⟨0, 9, 12, 43⟩ [] (by rw [hTab]; rfl) (fun z hz => nomatch hz) (by decide) (by decide) (hts (.classLink RL 43 "java/util/NoSuchElementException") (by decide +kernel)) (va_Nw.use rfl (hXP.2.2.1 (.castable "java/util/NoSuchElementException" "java/util/NoSuchElementException") (List.mem_of_getElem? (i := 3) rfl))) hce hcv hcl ?_
    refine lv_astore_n (lv' := [(3, .ref q9), (0, .ref (ad 0)), (1, .int a1), (2, .ref (ad 59))]) hx hb dL_clockOf_12 rfl hl (by decide) rfl (fun ls hl => ?_)
    refine lv_iconst (v := 1) hx hb dL_clockOf_13 (by decide) ?_
    exact W.iret (v := 1) hx hb hr (fun t ht hW => ⟨⟨1, w_x, rfl, hw, by show PA D ca ad w_x t.heap; rw [ht]; exact hP⟩, hS.F ht⟩) hS.2.2 dL_clockOf_14
  have hP : PA D ca ad w_1 H := by rw [← ht]; exact hP
  refine lv_i2l (v := (r_2).toInt64) hx hb dL_clockOf_7 rfl ?_
  obtain ⟨h_3, hw⟩ := hw
  refine va_last hx hb hK hP (DA hAd) hS 59 3 (wg59 ca ad w_1) rfl h_3 dL_clockOf_8 (fun H locs hP hD hS => ?_)
  obtain ⟨w_4, e_5⟩ : ∃ z : St, z = (uO w_1 (vp_updL w_1.2.2.1 (0 : Int32).toNatClampNeg ((r_2).toInt64))) := ⟨_, rfl⟩
  have hP : PA D ca ad w_4 H := by rw [e_5]; exact wu59 hP
  have hw := hw w_4 e_5
  refine lv_goto (tgt := 15) hx hb dL_clockOf_9 (by decide) ?_
  refine lv_iconst (v := 0) hx hb dL_clockOf_15 (by decide) ?_
  exact W.iret (v := 0) hx hb hr (fun t ht hW => ⟨⟨0, w_4, rfl, hw, by show PA D ca ad w_4 t.heap; rw [ht]; exact hP⟩, hS.F ht⟩) hS.2.2 dL_clockOf_16
set_option maxHeartbeats 4000000 in
set_option maxRecDepth 100000 in
def wpL_request (a1 : Int32) (a2 : Int32) (a3 : Int32) (w : St) (post : Int32 → St → Prop) : Prop := wpX4_request a1 a2 a3 w (fun r_2 w_1 => (vp_in 0 1) ∧ (∀ w_4 : St, w_4 = (uO w_1 (vp_updL w_1.2.2.1 (0 : Int32).toNatClampNeg ((r_2).toInt64))) → post 0 w_4)) (fun E w_x => (E = "java/util/NoSuchElementException" ∧ (post 1 w_x)) ∨ (E = "java/lang/IndexOutOfBoundsException" ∧ (post 2 w_x)) ∨ (E = "java/lang/IllegalStateException" ∧ (post 3 w_x)))
set_option maxHeartbeats 4000000 in
set_option maxRecDepth 100000 in
theorem mL_request (l : Launch) (D : va_G) (ca : Nat → ClassId) (ad : Nat → Nat) (base : Nat) (hAd : okA base ad) (w : St) (a1 : Int32) (a2 : Int32) (a3 : Int32) (post : Int32 → St → Prop) (hw : wpL_request a1 a2 a3 w post) (hl9 : l.stackTraces = false) : Met l yL_request wsL_request ({ frames := 10, cells := 4, slots := 24, locals := 182 } : Room) (va_Pc [.ref (ad 0), .int a1, .int a2, .int a3, .ref (ad 59)] (BX D ca ad base w)) (va_Qi post (Bp D ca ad) (AB base)) 4 24 (AB base) := by
  refine va_MetW (cc := cL_request) (maxL := 6) (ret := (some .int)) (by decide) rfl ?_
  intro p e s m args below meth c s₁ B hml hv
  obtain ⟨rfl, ⟨hbs, hP, hK⟩, hXP⟩ := hv
  have hx := B.exec
  have hb := B.bytes
  have hr := B.returns
  have hts := atoms_spec (ws := wsL_request) B.pre
  have hown : s.vm.findClass RL = some m.cls := findClass_of_methodNamed B.named
  have hlocks := B.notSynchronized
  have hTab : c.exceptionTable.toList = tableOf [(0, 12, 15, 43), (0, 12, 19, 19), (0, 12, 23, 31)] := vx_table (x := yL_request) B (hts (.codeWith yL_request cL_request 6 (some .int) [(0, 12, 15, 43), (0, 12, 19, 19), (0, 12, 23, 31)]) (by decide +kernel))
  have hS : va_S (AB base) s.heap s.heap [] := va_S.rf
  have hl := lv_entry ([.ref (ad 0), .int a1, .int a2, .int a3, .ref (ad 59)]) (n := 6) (Nat.le_of_ble_eq_true rfl)
  rw [lg_entry_eq]
  generalize (lg_sl ([.ref (ad 0), .int a1, .int a2, .int a3, .ref (ad 59)]) ++ List.replicate (6 - (lg_sl ([.ref (ad 0), .int a1, .int a2, .int a3, .ref (ad 59)])).length) Slot.unset).toArray = ls at hl ⊢
  have hl : lv_has ls 6 [(0, .ref (ad 0)), (1, .int a1), (2, .int a2), (3, .int a3), (4, .ref (ad 59))] := hl
  refine lv_aload hx hb dL_request_0 (lv_at hl 4 rfl) ?_
  refine lv_iconst (v := 0) hx hb dL_request_2 (by decide) ?_
  refine lv_aload_n hx hb dL_request_3 rfl (lv_at hl 0 rfl) ?_
  refine lv_iload_n hx hb dL_request_4 rfl (lv_at hl 1 rfl) ?_
  refine lv_iload_n hx hb dL_request_5 rfl (lv_at hl 2 rfl) ?_
  refine lv_iload_n hx hb dL_request_6 rfl (lv_at hl 3 rfl) ?_
  refine vx_calli (vx_runV (As := [.int a1, .int a2, .int a3]) (rest := [.int 0, .ref (ad 59)]) ⟨hx, hb, hml, hown, hts⟩ (mX4_request l D ca ad base hAd w a1 a2 a3 _ _ hw hl9) (cwV 3 hts gL_request_X4_request rfl rfl rfl (by decide +kernel) ⟨Nat.le_of_ble_eq_true rfl, Nat.le_of_ble_eq_true rfl⟩) (pvx [.int a1, .int a2, .int a3] hK hXP hP hbs hS rfl (wg0 ca ad w)) rfl rfl hl.1 rfl (lv_room (Nat.le_of_ble_eq_true rfl)) dL_request_7 ⟨Nat.le_of_ble_eq_true rfl, Nat.le_of_ble_eq_true rfl⟩) hS (fun q _ h => h) (fun q h => h) (fun q _ h => h) (fun E ce q9 u t H locs ht hvm hw hB hz1 hk1 hS hce hcv hcl => ?_) (fun r_2 w_1 t H locs ht hvm hw hP hz1 hk1 hS => ?_)
  · obtain ⟨e1, hB⟩ := hB
    obtain ⟨w_x, ew⟩ : ∃ z, z = u.2 := ⟨_, rfl⟩
    have hP : PA D ca ad w_x H := by rw [ew, ← ht]; exact hB
    rw [← ew] at hw
    rcases hw with hw | hw | hw
    · obtain ⟨e9, hw⟩ := hw
      obtain rfl : E = "java/util/NoSuchElementException" := e1.trans e9
      refine vx_catch (own := RL) (name := "java/util/NoSuchElementException") (E := "java/util/NoSuchElementException") hown [] ⟨0, 12, 15, 43⟩ [⟨0, 12, 19, 19⟩, ⟨0, 12, 23, 31⟩] (by rw [hTab]; rfl) (fun z hz => nomatch hz) (by decide) (by decide) (hts (.classLink RL 43 "java/util/NoSuchElementException") (by decide +kernel)) (va_Nw.use rfl (hXP.2.2.1 (.castable "java/util/NoSuchElementException" "java/util/NoSuchElementException") (List.mem_of_getElem? (i := 3) rfl))) hce hcv hcl ?_
      refine lv_astore (lv' := [(5, .ref q9), (0, .ref (ad 0)), (1, .int a1), (2, .int a2), (3, .int a3), (4, .ref (ad 59))]) hx hb dL_request_15 hl (by decide) rfl (fun ls hl => ?_)
      refine lv_iconst (v := 1) hx hb dL_request_17 (by decide) ?_
      exact W.iret (v := 1) hx hb hr (fun t ht hW => ⟨⟨1, w_x, rfl, hw, by show PA D ca ad w_x t.heap; rw [ht]; exact hP⟩, hS.F ht⟩) hS.2.2 dL_request_18
    · obtain ⟨e9, hw⟩ := hw
      obtain rfl : E = "java/lang/IndexOutOfBoundsException" := e1.trans e9
      refine vx_catch (own := RL) (name := "java/lang/IndexOutOfBoundsException") (E := "java/lang/IndexOutOfBoundsException") hown [⟨0, 12, 15, 43⟩] ⟨0, 12, 19, 19⟩ [⟨0, 12, 23, 31⟩] (by rw [hTab]; rfl) (by intro z hz; rcases List.mem_cons.mp hz with rfl | hz; exact Or.inr ⟨by decide, "java/util/NoSuchElementException", hts (.classLink RL 43 "java/util/NoSuchElementException") (by decide +kernel), hXP.2.2.2.2 ("java/lang/IndexOutOfBoundsException", "java/util/NoSuchElementException") (List.mem_of_getElem? (i := 7) rfl)⟩; cases hz) (by decide) (by decide) (hts (.classLink RL 19 "java/lang/IndexOutOfBoundsException") (by decide +kernel)) (va_Nw.use rfl (hXP.2.2.1 (.castable "java/lang/IndexOutOfBoundsException" "java/lang/IndexOutOfBoundsException") (List.mem_of_getElem? (i := 1) rfl))) hce hcv hcl ?_
      refine lv_astore (lv' := [(5, .ref q9), (0, .ref (ad 0)), (1, .int a1), (2, .int a2), (3, .int a3), (4, .ref (ad 59))]) hx hb dL_request_19 hl (by decide) rfl (fun ls hl => ?_)
      refine lv_iconst (v := 2) hx hb dL_request_21 (by decide) ?_
      exact W.iret (v := 2) hx hb hr (fun t ht hW => ⟨⟨2, w_x, rfl, hw, by show PA D ca ad w_x t.heap; rw [ht]; exact hP⟩, hS.F ht⟩) hS.2.2 dL_request_22
    · obtain ⟨e9, hw⟩ := hw
      obtain rfl : E = "java/lang/IllegalStateException" := e1.trans e9
      refine vx_catch (own := RL) (name := "java/lang/IllegalStateException") (E := "java/lang/IllegalStateException") hown [⟨0, 12, 15, 43⟩, ⟨0, 12, 19, 19⟩] ⟨0, 12, 23, 31⟩ [] (by rw [hTab]; rfl) (by intro z hz; rcases List.mem_cons.mp hz with rfl | hz; exact Or.inr ⟨by decide, "java/util/NoSuchElementException", hts (.classLink RL 43 "java/util/NoSuchElementException") (by decide +kernel), hXP.2.2.2.2 ("java/lang/IllegalStateException", "java/util/NoSuchElementException") (List.mem_of_getElem? (i := 12) rfl)⟩; rcases List.mem_cons.mp hz with rfl | hz; exact Or.inr ⟨by decide, "java/lang/IndexOutOfBoundsException", hts (.classLink RL 19 "java/lang/IndexOutOfBoundsException") (by decide +kernel), hXP.2.2.2.2 ("java/lang/IllegalStateException", "java/lang/IndexOutOfBoundsException") (List.mem_of_getElem? (i := 11) rfl)⟩; cases hz) (by decide) (by decide) (hts (.classLink RL 31 "java/lang/IllegalStateException") (by decide +kernel)) (va_Nw.use rfl (hXP.2.2.1 (.castable "java/lang/IllegalStateException" "java/lang/IllegalStateException") (List.mem_of_getElem? (i := 2) rfl))) hce hcv hcl ?_
      refine lv_astore (lv' := [(5, .ref q9), (0, .ref (ad 0)), (1, .int a1), (2, .int a2), (3, .int a3), (4, .ref (ad 59))]) hx hb dL_request_23 hl (by decide) rfl (fun ls hl => ?_)
      refine lv_iconst (v := 3) hx hb dL_request_25 (by decide) ?_
      exact W.iret (v := 3) hx hb hr (fun t ht hW => ⟨⟨3, w_x, rfl, hw, by show PA D ca ad w_x t.heap; rw [ht]; exact hP⟩, hS.F ht⟩) hS.2.2 dL_request_26
  have hP : PA D ca ad w_1 H := by rw [← ht]; exact hP
  refine lv_i2l (v := (r_2).toInt64) hx hb dL_request_10 rfl ?_
  obtain ⟨h_3, hw⟩ := hw
  refine va_last hx hb hK hP (DA hAd) hS 59 3 (wg59 ca ad w_1) rfl h_3 dL_request_11 (fun H locs hP hD hS => ?_)
  obtain ⟨w_4, e_5⟩ : ∃ z : St, z = (uO w_1 (vp_updL w_1.2.2.1 (0 : Int32).toNatClampNeg ((r_2).toInt64))) := ⟨_, rfl⟩
  have hP : PA D ca ad w_4 H := by rw [e_5]; exact wu59 hP
  have hw := hw w_4 e_5
  refine lv_goto (tgt := 27) hx hb dL_request_12 (by decide) ?_
  refine lv_iconst (v := 0) hx hb dL_request_27 (by decide) ?_
  exact W.iret (v := 0) hx hb hr (fun t ht hW => ⟨⟨0, w_4, rfl, hw, by show PA D ca ad w_4 t.heap; rw [ht]; exact hP⟩, hS.F ht⟩) hS.2.2 dL_request_28
set_option maxHeartbeats 4000000 in
set_option maxRecDepth 100000 in
def wpL_steal (a1 : Int32) (a2 : Int32) (a3 : Int32) (w : St) (post : Int32 → St → Prop) : Prop := wpX4_steal a1 a2 a3 w (fun r_2 w_1 => (vp_in 0 1) ∧ (∀ w_4 : St, w_4 = (uO w_1 (vp_updL w_1.2.2.1 (0 : Int32).toNatClampNeg ((r_2).toInt64))) → post 0 w_4)) (fun E w_x => (E = "java/util/NoSuchElementException" ∧ (post 1 w_x)) ∨ (E = "java/lang/IndexOutOfBoundsException" ∧ (post 2 w_x)) ∨ (E = "java/lang/IllegalStateException" ∧ (post 3 w_x)))
set_option maxHeartbeats 4000000 in
set_option maxRecDepth 100000 in
theorem mL_steal (l : Launch) (D : va_G) (ca : Nat → ClassId) (ad : Nat → Nat) (base : Nat) (hAd : okA base ad) (w : St) (a1 : Int32) (a2 : Int32) (a3 : Int32) (post : Int32 → St → Prop) (hw : wpL_steal a1 a2 a3 w post) (hl9 : l.stackTraces = false) : Met l yL_steal wsL_steal ({ frames := 10, cells := 4, slots := 24, locals := 182 } : Room) (va_Pc [.ref (ad 0), .int a1, .int a2, .int a3, .ref (ad 59)] (BX D ca ad base w)) (va_Qi post (Bp D ca ad) (AB base)) 4 24 (AB base) := by
  refine va_MetW (cc := cL_steal) (maxL := 6) (ret := (some .int)) (by decide) rfl ?_
  intro p e s m args below meth c s₁ B hml hv
  obtain ⟨rfl, ⟨hbs, hP, hK⟩, hXP⟩ := hv
  have hx := B.exec
  have hb := B.bytes
  have hr := B.returns
  have hts := atoms_spec (ws := wsL_steal) B.pre
  have hown : s.vm.findClass RL = some m.cls := findClass_of_methodNamed B.named
  have hlocks := B.notSynchronized
  have hTab : c.exceptionTable.toList = tableOf [(0, 12, 15, 43), (0, 12, 19, 19), (0, 12, 23, 31)] := vx_table (x := yL_steal) B (hts (.codeWith yL_steal cL_steal 6 (some .int) [(0, 12, 15, 43), (0, 12, 19, 19), (0, 12, 23, 31)]) (by decide +kernel))
  have hS : va_S (AB base) s.heap s.heap [] := va_S.rf
  have hl := lv_entry ([.ref (ad 0), .int a1, .int a2, .int a3, .ref (ad 59)]) (n := 6) (Nat.le_of_ble_eq_true rfl)
  rw [lg_entry_eq]
  generalize (lg_sl ([.ref (ad 0), .int a1, .int a2, .int a3, .ref (ad 59)]) ++ List.replicate (6 - (lg_sl ([.ref (ad 0), .int a1, .int a2, .int a3, .ref (ad 59)])).length) Slot.unset).toArray = ls at hl ⊢
  have hl : lv_has ls 6 [(0, .ref (ad 0)), (1, .int a1), (2, .int a2), (3, .int a3), (4, .ref (ad 59))] := hl
  refine lv_aload hx hb dL_steal_0 (lv_at hl 4 rfl) ?_
  refine lv_iconst (v := 0) hx hb dL_steal_2 (by decide) ?_
  refine lv_aload_n hx hb dL_steal_3 rfl (lv_at hl 0 rfl) ?_
  refine lv_iload_n hx hb dL_steal_4 rfl (lv_at hl 1 rfl) ?_
  refine lv_iload_n hx hb dL_steal_5 rfl (lv_at hl 2 rfl) ?_
  refine lv_iload_n hx hb dL_steal_6 rfl (lv_at hl 3 rfl) ?_
  refine vx_calli (vx_runV (As := [.int a1, .int a2, .int a3]) (rest := [.int 0, .ref (ad 59)]) ⟨hx, hb, hml, hown, hts⟩ (mX4_steal l D ca ad base hAd w a1 a2 a3 _ _ hw hl9) (cwV 3 hts gL_steal_X4_steal rfl rfl rfl (by decide +kernel) ⟨Nat.le_of_ble_eq_true rfl, Nat.le_of_ble_eq_true rfl⟩) (pvx [.int a1, .int a2, .int a3] hK hXP hP hbs hS rfl (wg0 ca ad w)) rfl rfl hl.1 rfl (lv_room (Nat.le_of_ble_eq_true rfl)) dL_steal_7 ⟨Nat.le_of_ble_eq_true rfl, Nat.le_of_ble_eq_true rfl⟩) hS (fun q _ h => h) (fun q h => h) (fun q _ h => h) (fun E ce q9 u t H locs ht hvm hw hB hz1 hk1 hS hce hcv hcl => ?_) (fun r_2 w_1 t H locs ht hvm hw hP hz1 hk1 hS => ?_)
  · obtain ⟨e1, hB⟩ := hB
    obtain ⟨w_x, ew⟩ : ∃ z, z = u.2 := ⟨_, rfl⟩
    have hP : PA D ca ad w_x H := by rw [ew, ← ht]; exact hB
    rw [← ew] at hw
    rcases hw with hw | hw | hw
    · obtain ⟨e9, hw⟩ := hw
      obtain rfl : E = "java/util/NoSuchElementException" := e1.trans e9
      refine vx_catch (own := RL) (name := "java/util/NoSuchElementException") (E := "java/util/NoSuchElementException") hown [] ⟨0, 12, 15, 43⟩ [⟨0, 12, 19, 19⟩, ⟨0, 12, 23, 31⟩] (by rw [hTab]; rfl) (fun z hz => nomatch hz) (by decide) (by decide) (hts (.classLink RL 43 "java/util/NoSuchElementException") (by decide +kernel)) (va_Nw.use rfl (hXP.2.2.1 (.castable "java/util/NoSuchElementException" "java/util/NoSuchElementException") (List.mem_of_getElem? (i := 3) rfl))) hce hcv hcl ?_
      refine lv_astore (lv' := [(5, .ref q9), (0, .ref (ad 0)), (1, .int a1), (2, .int a2), (3, .int a3), (4, .ref (ad 59))]) hx hb dL_steal_15 hl (by decide) rfl (fun ls hl => ?_)
      refine lv_iconst (v := 1) hx hb dL_steal_17 (by decide) ?_
      exact W.iret (v := 1) hx hb hr (fun t ht hW => ⟨⟨1, w_x, rfl, hw, by show PA D ca ad w_x t.heap; rw [ht]; exact hP⟩, hS.F ht⟩) hS.2.2 dL_steal_18
    · obtain ⟨e9, hw⟩ := hw
      obtain rfl : E = "java/lang/IndexOutOfBoundsException" := e1.trans e9
      refine vx_catch (own := RL) (name := "java/lang/IndexOutOfBoundsException") (E := "java/lang/IndexOutOfBoundsException") hown [⟨0, 12, 15, 43⟩] ⟨0, 12, 19, 19⟩ [⟨0, 12, 23, 31⟩] (by rw [hTab]; rfl) (by intro z hz; rcases List.mem_cons.mp hz with rfl | hz; exact Or.inr ⟨by decide, "java/util/NoSuchElementException", hts (.classLink RL 43 "java/util/NoSuchElementException") (by decide +kernel), hXP.2.2.2.2 ("java/lang/IndexOutOfBoundsException", "java/util/NoSuchElementException") (List.mem_of_getElem? (i := 7) rfl)⟩; cases hz) (by decide) (by decide) (hts (.classLink RL 19 "java/lang/IndexOutOfBoundsException") (by decide +kernel)) (va_Nw.use rfl (hXP.2.2.1 (.castable "java/lang/IndexOutOfBoundsException" "java/lang/IndexOutOfBoundsException") (List.mem_of_getElem? (i := 1) rfl))) hce hcv hcl ?_
      refine lv_astore (lv' := [(5, .ref q9), (0, .ref (ad 0)), (1, .int a1), (2, .int a2), (3, .int a3), (4, .ref (ad 59))]) hx hb dL_steal_19 hl (by decide) rfl (fun ls hl => ?_)
      refine lv_iconst (v := 2) hx hb dL_steal_21 (by decide) ?_
      exact W.iret (v := 2) hx hb hr (fun t ht hW => ⟨⟨2, w_x, rfl, hw, by show PA D ca ad w_x t.heap; rw [ht]; exact hP⟩, hS.F ht⟩) hS.2.2 dL_steal_22
    · obtain ⟨e9, hw⟩ := hw
      obtain rfl : E = "java/lang/IllegalStateException" := e1.trans e9
      refine vx_catch (own := RL) (name := "java/lang/IllegalStateException") (E := "java/lang/IllegalStateException") hown [⟨0, 12, 15, 43⟩, ⟨0, 12, 19, 19⟩] ⟨0, 12, 23, 31⟩ [] (by rw [hTab]; rfl) (by intro z hz; rcases List.mem_cons.mp hz with rfl | hz; exact Or.inr ⟨by decide, "java/util/NoSuchElementException", hts (.classLink RL 43 "java/util/NoSuchElementException") (by decide +kernel), hXP.2.2.2.2 ("java/lang/IllegalStateException", "java/util/NoSuchElementException") (List.mem_of_getElem? (i := 12) rfl)⟩; rcases List.mem_cons.mp hz with rfl | hz; exact Or.inr ⟨by decide, "java/lang/IndexOutOfBoundsException", hts (.classLink RL 19 "java/lang/IndexOutOfBoundsException") (by decide +kernel), hXP.2.2.2.2 ("java/lang/IllegalStateException", "java/lang/IndexOutOfBoundsException") (List.mem_of_getElem? (i := 11) rfl)⟩; cases hz) (by decide) (by decide) (hts (.classLink RL 31 "java/lang/IllegalStateException") (by decide +kernel)) (va_Nw.use rfl (hXP.2.2.1 (.castable "java/lang/IllegalStateException" "java/lang/IllegalStateException") (List.mem_of_getElem? (i := 2) rfl))) hce hcv hcl ?_
      refine lv_astore (lv' := [(5, .ref q9), (0, .ref (ad 0)), (1, .int a1), (2, .int a2), (3, .int a3), (4, .ref (ad 59))]) hx hb dL_steal_23 hl (by decide) rfl (fun ls hl => ?_)
      refine lv_iconst (v := 3) hx hb dL_steal_25 (by decide) ?_
      exact W.iret (v := 3) hx hb hr (fun t ht hW => ⟨⟨3, w_x, rfl, hw, by show PA D ca ad w_x t.heap; rw [ht]; exact hP⟩, hS.F ht⟩) hS.2.2 dL_steal_26
  have hP : PA D ca ad w_1 H := by rw [← ht]; exact hP
  refine lv_i2l (v := (r_2).toInt64) hx hb dL_steal_10 rfl ?_
  obtain ⟨h_3, hw⟩ := hw
  refine va_last hx hb hK hP (DA hAd) hS 59 3 (wg59 ca ad w_1) rfl h_3 dL_steal_11 (fun H locs hP hD hS => ?_)
  obtain ⟨w_4, e_5⟩ : ∃ z : St, z = (uO w_1 (vp_updL w_1.2.2.1 (0 : Int32).toNatClampNeg ((r_2).toInt64))) := ⟨_, rfl⟩
  have hP : PA D ca ad w_4 H := by rw [e_5]; exact wu59 hP
  have hw := hw w_4 e_5
  refine lv_goto (tgt := 27) hx hb dL_steal_12 (by decide) ?_
  refine lv_iconst (v := 0) hx hb dL_steal_27 (by decide) ?_
  exact W.iret (v := 0) hx hb hr (fun t ht hW => ⟨⟨0, w_4, rfl, hw, by show PA D ca ad w_4 t.heap; rw [ht]; exact hP⟩, hS.F ht⟩) hS.2.2 dL_steal_28
set_option maxHeartbeats 4000000 in
set_option maxRecDepth 100000 in
def wpL_renew (a1 : Int32) (a2 : Int32) (a3 : Int32) (w : St) (post : Int32 → St → Prop) : Prop := wpX4_renew a1 a2 a3 w (fun r_2 w_1 => (vp_in 0 1) ∧ (∀ w_4 : St, w_4 = (uO w_1 (vp_updL w_1.2.2.1 (0 : Int32).toNatClampNeg ((r_2).toInt64))) → post 0 w_4)) (fun E w_x => (E = "java/util/NoSuchElementException" ∧ (post 1 w_x)) ∨ (E = "java/lang/IndexOutOfBoundsException" ∧ (post 2 w_x)) ∨ (E = "java/lang/IllegalStateException" ∧ (post 3 w_x)))
set_option maxHeartbeats 4000000 in
set_option maxRecDepth 100000 in
theorem mL_renew (l : Launch) (D : va_G) (ca : Nat → ClassId) (ad : Nat → Nat) (base : Nat) (hAd : okA base ad) (w : St) (a1 : Int32) (a2 : Int32) (a3 : Int32) (post : Int32 → St → Prop) (hw : wpL_renew a1 a2 a3 w post) (hl9 : l.stackTraces = false) : Met l yL_renew wsL_renew ({ frames := 10, cells := 4, slots := 24, locals := 182 } : Room) (va_Pc [.ref (ad 0), .int a1, .int a2, .int a3, .ref (ad 59)] (BX D ca ad base w)) (va_Qi post (Bp D ca ad) (AB base)) 4 24 (AB base) := by
  refine va_MetW (cc := cL_renew) (maxL := 6) (ret := (some .int)) (by decide) rfl ?_
  intro p e s m args below meth c s₁ B hml hv
  obtain ⟨rfl, ⟨hbs, hP, hK⟩, hXP⟩ := hv
  have hx := B.exec
  have hb := B.bytes
  have hr := B.returns
  have hts := atoms_spec (ws := wsL_renew) B.pre
  have hown : s.vm.findClass RL = some m.cls := findClass_of_methodNamed B.named
  have hlocks := B.notSynchronized
  have hTab : c.exceptionTable.toList = tableOf [(0, 12, 15, 43), (0, 12, 19, 19), (0, 12, 23, 31)] := vx_table (x := yL_renew) B (hts (.codeWith yL_renew cL_renew 6 (some .int) [(0, 12, 15, 43), (0, 12, 19, 19), (0, 12, 23, 31)]) (by decide +kernel))
  have hS : va_S (AB base) s.heap s.heap [] := va_S.rf
  have hl := lv_entry ([.ref (ad 0), .int a1, .int a2, .int a3, .ref (ad 59)]) (n := 6) (Nat.le_of_ble_eq_true rfl)
  rw [lg_entry_eq]
  generalize (lg_sl ([.ref (ad 0), .int a1, .int a2, .int a3, .ref (ad 59)]) ++ List.replicate (6 - (lg_sl ([.ref (ad 0), .int a1, .int a2, .int a3, .ref (ad 59)])).length) Slot.unset).toArray = ls at hl ⊢
  have hl : lv_has ls 6 [(0, .ref (ad 0)), (1, .int a1), (2, .int a2), (3, .int a3), (4, .ref (ad 59))] := hl
  refine lv_aload hx hb dL_renew_0 (lv_at hl 4 rfl) ?_
  refine lv_iconst (v := 0) hx hb dL_renew_2 (by decide) ?_
  refine lv_aload_n hx hb dL_renew_3 rfl (lv_at hl 0 rfl) ?_
  refine lv_iload_n hx hb dL_renew_4 rfl (lv_at hl 1 rfl) ?_
  refine lv_iload_n hx hb dL_renew_5 rfl (lv_at hl 2 rfl) ?_
  refine lv_iload_n hx hb dL_renew_6 rfl (lv_at hl 3 rfl) ?_
  refine vx_calli (vx_runV (As := [.int a1, .int a2, .int a3]) (rest := [.int 0, .ref (ad 59)]) ⟨hx, hb, hml, hown, hts⟩ (mX4_renew l D ca ad base hAd w a1 a2 a3 _ _ hw hl9) (cwV 3 hts gL_renew_X4_renew rfl rfl rfl (by decide +kernel) ⟨Nat.le_of_ble_eq_true rfl, Nat.le_of_ble_eq_true rfl⟩) (pvx [.int a1, .int a2, .int a3] hK hXP hP hbs hS rfl (wg0 ca ad w)) rfl rfl hl.1 rfl (lv_room (Nat.le_of_ble_eq_true rfl)) dL_renew_7 ⟨Nat.le_of_ble_eq_true rfl, Nat.le_of_ble_eq_true rfl⟩) hS (fun q _ h => h) (fun q h => h) (fun q _ h => h) (fun E ce q9 u t H locs ht hvm hw hB hz1 hk1 hS hce hcv hcl => ?_) (fun r_2 w_1 t H locs ht hvm hw hP hz1 hk1 hS => ?_)
  · obtain ⟨e1, hB⟩ := hB
    obtain ⟨w_x, ew⟩ : ∃ z, z = u.2 := ⟨_, rfl⟩
    have hP : PA D ca ad w_x H := by rw [ew, ← ht]; exact hB
    rw [← ew] at hw
    rcases hw with hw | hw | hw
    · obtain ⟨e9, hw⟩ := hw
      obtain rfl : E = "java/util/NoSuchElementException" := e1.trans e9
      refine vx_catch (own := RL) (name := "java/util/NoSuchElementException") (E := "java/util/NoSuchElementException") hown [] ⟨0, 12, 15, 43⟩ [⟨0, 12, 19, 19⟩, ⟨0, 12, 23, 31⟩] (by rw [hTab]; rfl) (fun z hz => nomatch hz) (by decide) (by decide) (hts (.classLink RL 43 "java/util/NoSuchElementException") (by decide +kernel)) (va_Nw.use rfl (hXP.2.2.1 (.castable "java/util/NoSuchElementException" "java/util/NoSuchElementException") (List.mem_of_getElem? (i := 3) rfl))) hce hcv hcl ?_
      refine lv_astore (lv' := [(5, .ref q9), (0, .ref (ad 0)), (1, .int a1), (2, .int a2), (3, .int a3), (4, .ref (ad 59))]) hx hb dL_renew_15 hl (by decide) rfl (fun ls hl => ?_)
      refine lv_iconst (v := 1) hx hb dL_renew_17 (by decide) ?_
      exact W.iret (v := 1) hx hb hr (fun t ht hW => ⟨⟨1, w_x, rfl, hw, by show PA D ca ad w_x t.heap; rw [ht]; exact hP⟩, hS.F ht⟩) hS.2.2 dL_renew_18
    · obtain ⟨e9, hw⟩ := hw
      obtain rfl : E = "java/lang/IndexOutOfBoundsException" := e1.trans e9
      refine vx_catch (own := RL) (name := "java/lang/IndexOutOfBoundsException") (E := "java/lang/IndexOutOfBoundsException") hown [⟨0, 12, 15, 43⟩] ⟨0, 12, 19, 19⟩ [⟨0, 12, 23, 31⟩] (by rw [hTab]; rfl) (by intro z hz; rcases List.mem_cons.mp hz with rfl | hz; exact Or.inr ⟨by decide, "java/util/NoSuchElementException", hts (.classLink RL 43 "java/util/NoSuchElementException") (by decide +kernel), hXP.2.2.2.2 ("java/lang/IndexOutOfBoundsException", "java/util/NoSuchElementException") (List.mem_of_getElem? (i := 7) rfl)⟩; cases hz) (by decide) (by decide) (hts (.classLink RL 19 "java/lang/IndexOutOfBoundsException") (by decide +kernel)) (va_Nw.use rfl (hXP.2.2.1 (.castable "java/lang/IndexOutOfBoundsException" "java/lang/IndexOutOfBoundsException") (List.mem_of_getElem? (i := 1) rfl))) hce hcv hcl ?_
      refine lv_astore (lv' := [(5, .ref q9), (0, .ref (ad 0)), (1, .int a1), (2, .int a2), (3, .int a3), (4, .ref (ad 59))]) hx hb dL_renew_19 hl (by decide) rfl (fun ls hl => ?_)
      refine lv_iconst (v := 2) hx hb dL_renew_21 (by decide) ?_
      exact W.iret (v := 2) hx hb hr (fun t ht hW => ⟨⟨2, w_x, rfl, hw, by show PA D ca ad w_x t.heap; rw [ht]; exact hP⟩, hS.F ht⟩) hS.2.2 dL_renew_22
    · obtain ⟨e9, hw⟩ := hw
      obtain rfl : E = "java/lang/IllegalStateException" := e1.trans e9
      refine vx_catch (own := RL) (name := "java/lang/IllegalStateException") (E := "java/lang/IllegalStateException") hown [⟨0, 12, 15, 43⟩, ⟨0, 12, 19, 19⟩] ⟨0, 12, 23, 31⟩ [] (by rw [hTab]; rfl) (by intro z hz; rcases List.mem_cons.mp hz with rfl | hz; exact Or.inr ⟨by decide, "java/util/NoSuchElementException", hts (.classLink RL 43 "java/util/NoSuchElementException") (by decide +kernel), hXP.2.2.2.2 ("java/lang/IllegalStateException", "java/util/NoSuchElementException") (List.mem_of_getElem? (i := 12) rfl)⟩; rcases List.mem_cons.mp hz with rfl | hz; exact Or.inr ⟨by decide, "java/lang/IndexOutOfBoundsException", hts (.classLink RL 19 "java/lang/IndexOutOfBoundsException") (by decide +kernel), hXP.2.2.2.2 ("java/lang/IllegalStateException", "java/lang/IndexOutOfBoundsException") (List.mem_of_getElem? (i := 11) rfl)⟩; cases hz) (by decide) (by decide) (hts (.classLink RL 31 "java/lang/IllegalStateException") (by decide +kernel)) (va_Nw.use rfl (hXP.2.2.1 (.castable "java/lang/IllegalStateException" "java/lang/IllegalStateException") (List.mem_of_getElem? (i := 2) rfl))) hce hcv hcl ?_
      refine lv_astore (lv' := [(5, .ref q9), (0, .ref (ad 0)), (1, .int a1), (2, .int a2), (3, .int a3), (4, .ref (ad 59))]) hx hb dL_renew_23 hl (by decide) rfl (fun ls hl => ?_)
      refine lv_iconst (v := 3) hx hb dL_renew_25 (by decide) ?_
      exact W.iret (v := 3) hx hb hr (fun t ht hW => ⟨⟨3, w_x, rfl, hw, by show PA D ca ad w_x t.heap; rw [ht]; exact hP⟩, hS.F ht⟩) hS.2.2 dL_renew_26
  have hP : PA D ca ad w_1 H := by rw [← ht]; exact hP
  refine lv_i2l (v := (r_2).toInt64) hx hb dL_renew_10 rfl ?_
  obtain ⟨h_3, hw⟩ := hw
  refine va_last hx hb hK hP (DA hAd) hS 59 3 (wg59 ca ad w_1) rfl h_3 dL_renew_11 (fun H locs hP hD hS => ?_)
  obtain ⟨w_4, e_5⟩ : ∃ z : St, z = (uO w_1 (vp_updL w_1.2.2.1 (0 : Int32).toNatClampNeg ((r_2).toInt64))) := ⟨_, rfl⟩
  have hP : PA D ca ad w_4 H := by rw [e_5]; exact wu59 hP
  have hw := hw w_4 e_5
  refine lv_goto (tgt := 27) hx hb dL_renew_12 (by decide) ?_
  refine lv_iconst (v := 0) hx hb dL_renew_27 (by decide) ?_
  exact W.iret (v := 0) hx hb hr (fun t ht hW => ⟨⟨0, w_4, rfl, hw, by show PA D ca ad w_4 t.heap; rw [ht]; exact hP⟩, hS.F ht⟩) hS.2.2 dL_renew_28
set_option maxHeartbeats 4000000 in
set_option maxRecDepth 100000 in
def wpL_release (a1 : Int32) (a2 : Int32) (a3 : Int32) (w : St) (post : Int32 → St → Prop) : Prop := wpX4_release a1 a2 a3 w (fun r_2 w_1 => (vp_in 0 1) ∧ (∀ w_4 : St, w_4 = (uO w_1 (vp_updL w_1.2.2.1 (0 : Int32).toNatClampNeg ((r_2).toInt64))) → post 0 w_4)) (fun E w_x => (E = "java/util/NoSuchElementException" ∧ (post 1 w_x)) ∨ (E = "java/lang/IndexOutOfBoundsException" ∧ (post 2 w_x)) ∨ (E = "java/lang/IllegalStateException" ∧ (post 3 w_x)))
set_option maxHeartbeats 4000000 in
set_option maxRecDepth 100000 in
theorem mL_release (l : Launch) (D : va_G) (ca : Nat → ClassId) (ad : Nat → Nat) (base : Nat) (hAd : okA base ad) (w : St) (a1 : Int32) (a2 : Int32) (a3 : Int32) (post : Int32 → St → Prop) (hw : wpL_release a1 a2 a3 w post) (hl9 : l.stackTraces = false) : Met l yL_release wsL_release ({ frames := 10, cells := 4, slots := 24, locals := 182 } : Room) (va_Pc [.ref (ad 0), .int a1, .int a2, .int a3, .ref (ad 59)] (BX D ca ad base w)) (va_Qi post (Bp D ca ad) (AB base)) 4 24 (AB base) := by
  refine va_MetW (cc := cL_release) (maxL := 6) (ret := (some .int)) (by decide) rfl ?_
  intro p e s m args below meth c s₁ B hml hv
  obtain ⟨rfl, ⟨hbs, hP, hK⟩, hXP⟩ := hv
  have hx := B.exec
  have hb := B.bytes
  have hr := B.returns
  have hts := atoms_spec (ws := wsL_release) B.pre
  have hown : s.vm.findClass RL = some m.cls := findClass_of_methodNamed B.named
  have hlocks := B.notSynchronized
  have hTab : c.exceptionTable.toList = tableOf [(0, 12, 15, 43), (0, 12, 19, 19), (0, 12, 23, 31)] := vx_table (x := yL_release) B (hts (.codeWith yL_release cL_release 6 (some .int) [(0, 12, 15, 43), (0, 12, 19, 19), (0, 12, 23, 31)]) (by decide +kernel))
  have hS : va_S (AB base) s.heap s.heap [] := va_S.rf
  have hl := lv_entry ([.ref (ad 0), .int a1, .int a2, .int a3, .ref (ad 59)]) (n := 6) (Nat.le_of_ble_eq_true rfl)
  rw [lg_entry_eq]
  generalize (lg_sl ([.ref (ad 0), .int a1, .int a2, .int a3, .ref (ad 59)]) ++ List.replicate (6 - (lg_sl ([.ref (ad 0), .int a1, .int a2, .int a3, .ref (ad 59)])).length) Slot.unset).toArray = ls at hl ⊢
  have hl : lv_has ls 6 [(0, .ref (ad 0)), (1, .int a1), (2, .int a2), (3, .int a3), (4, .ref (ad 59))] := hl
  refine lv_aload hx hb dL_release_0 (lv_at hl 4 rfl) ?_
  refine lv_iconst (v := 0) hx hb dL_release_2 (by decide) ?_
  refine lv_aload_n hx hb dL_release_3 rfl (lv_at hl 0 rfl) ?_
  refine lv_iload_n hx hb dL_release_4 rfl (lv_at hl 1 rfl) ?_
  refine lv_iload_n hx hb dL_release_5 rfl (lv_at hl 2 rfl) ?_
  refine lv_iload_n hx hb dL_release_6 rfl (lv_at hl 3 rfl) ?_
  refine vx_calli (vx_runV (As := [.int a1, .int a2, .int a3]) (rest := [.int 0, .ref (ad 59)]) ⟨hx, hb, hml, hown, hts⟩ (mX4_release l D ca ad base hAd w a1 a2 a3 _ _ hw hl9) (cwV 3 hts gL_release_X4_release rfl rfl rfl (by decide +kernel) ⟨Nat.le_of_ble_eq_true rfl, Nat.le_of_ble_eq_true rfl⟩) (pvx [.int a1, .int a2, .int a3] hK hXP hP hbs hS rfl (wg0 ca ad w)) rfl rfl hl.1 rfl (lv_room (Nat.le_of_ble_eq_true rfl)) dL_release_7 ⟨Nat.le_of_ble_eq_true rfl, Nat.le_of_ble_eq_true rfl⟩) hS (fun q _ h => h) (fun q h => h) (fun q _ h => h) (fun E ce q9 u t H locs ht hvm hw hB hz1 hk1 hS hce hcv hcl => ?_) (fun r_2 w_1 t H locs ht hvm hw hP hz1 hk1 hS => ?_)
  · obtain ⟨e1, hB⟩ := hB
    obtain ⟨w_x, ew⟩ : ∃ z, z = u.2 := ⟨_, rfl⟩
    have hP : PA D ca ad w_x H := by rw [ew, ← ht]; exact hB
    rw [← ew] at hw
    rcases hw with hw | hw | hw
    · obtain ⟨e9, hw⟩ := hw
      obtain rfl : E = "java/util/NoSuchElementException" := e1.trans e9
      refine vx_catch (own := RL) (name := "java/util/NoSuchElementException") (E := "java/util/NoSuchElementException") hown [] ⟨0, 12, 15, 43⟩ [⟨0, 12, 19, 19⟩, ⟨0, 12, 23, 31⟩] (by rw [hTab]; rfl) (fun z hz => nomatch hz) (by decide) (by decide) (hts (.classLink RL 43 "java/util/NoSuchElementException") (by decide +kernel)) (va_Nw.use rfl (hXP.2.2.1 (.castable "java/util/NoSuchElementException" "java/util/NoSuchElementException") (List.mem_of_getElem? (i := 3) rfl))) hce hcv hcl ?_
      refine lv_astore (lv' := [(5, .ref q9), (0, .ref (ad 0)), (1, .int a1), (2, .int a2), (3, .int a3), (4, .ref (ad 59))]) hx hb dL_release_15 hl (by decide) rfl (fun ls hl => ?_)
      refine lv_iconst (v := 1) hx hb dL_release_17 (by decide) ?_
      exact W.iret (v := 1) hx hb hr (fun t ht hW => ⟨⟨1, w_x, rfl, hw, by show PA D ca ad w_x t.heap; rw [ht]; exact hP⟩, hS.F ht⟩) hS.2.2 dL_release_18
    · obtain ⟨e9, hw⟩ := hw
      obtain rfl : E = "java/lang/IndexOutOfBoundsException" := e1.trans e9
      refine vx_catch (own := RL) (name := "java/lang/IndexOutOfBoundsException") (E := "java/lang/IndexOutOfBoundsException") hown [⟨0, 12, 15, 43⟩] ⟨0, 12, 19, 19⟩ [⟨0, 12, 23, 31⟩] (by rw [hTab]; rfl) (by intro z hz; rcases List.mem_cons.mp hz with rfl | hz; exact Or.inr ⟨by decide, "java/util/NoSuchElementException", hts (.classLink RL 43 "java/util/NoSuchElementException") (by decide +kernel), hXP.2.2.2.2 ("java/lang/IndexOutOfBoundsException", "java/util/NoSuchElementException") (List.mem_of_getElem? (i := 7) rfl)⟩; cases hz) (by decide) (by decide) (hts (.classLink RL 19 "java/lang/IndexOutOfBoundsException") (by decide +kernel)) (va_Nw.use rfl (hXP.2.2.1 (.castable "java/lang/IndexOutOfBoundsException" "java/lang/IndexOutOfBoundsException") (List.mem_of_getElem? (i := 1) rfl))) hce hcv hcl ?_
      refine lv_astore (lv' := [(5, .ref q9), (0, .ref (ad 0)), (1, .int a1), (2, .int a2), (3, .int a3), (4, .ref (ad 59))]) hx hb dL_release_19 hl (by decide) rfl (fun ls hl => ?_)
      refine lv_iconst (v := 2) hx hb dL_release_21 (by decide) ?_
      exact W.iret (v := 2) hx hb hr (fun t ht hW => ⟨⟨2, w_x, rfl, hw, by show PA D ca ad w_x t.heap; rw [ht]; exact hP⟩, hS.F ht⟩) hS.2.2 dL_release_22
    · obtain ⟨e9, hw⟩ := hw
      obtain rfl : E = "java/lang/IllegalStateException" := e1.trans e9
      refine vx_catch (own := RL) (name := "java/lang/IllegalStateException") (E := "java/lang/IllegalStateException") hown [⟨0, 12, 15, 43⟩, ⟨0, 12, 19, 19⟩] ⟨0, 12, 23, 31⟩ [] (by rw [hTab]; rfl) (by intro z hz; rcases List.mem_cons.mp hz with rfl | hz; exact Or.inr ⟨by decide, "java/util/NoSuchElementException", hts (.classLink RL 43 "java/util/NoSuchElementException") (by decide +kernel), hXP.2.2.2.2 ("java/lang/IllegalStateException", "java/util/NoSuchElementException") (List.mem_of_getElem? (i := 12) rfl)⟩; rcases List.mem_cons.mp hz with rfl | hz; exact Or.inr ⟨by decide, "java/lang/IndexOutOfBoundsException", hts (.classLink RL 19 "java/lang/IndexOutOfBoundsException") (by decide +kernel), hXP.2.2.2.2 ("java/lang/IllegalStateException", "java/lang/IndexOutOfBoundsException") (List.mem_of_getElem? (i := 11) rfl)⟩; cases hz) (by decide) (by decide) (hts (.classLink RL 31 "java/lang/IllegalStateException") (by decide +kernel)) (va_Nw.use rfl (hXP.2.2.1 (.castable "java/lang/IllegalStateException" "java/lang/IllegalStateException") (List.mem_of_getElem? (i := 2) rfl))) hce hcv hcl ?_
      refine lv_astore (lv' := [(5, .ref q9), (0, .ref (ad 0)), (1, .int a1), (2, .int a2), (3, .int a3), (4, .ref (ad 59))]) hx hb dL_release_23 hl (by decide) rfl (fun ls hl => ?_)
      refine lv_iconst (v := 3) hx hb dL_release_25 (by decide) ?_
      exact W.iret (v := 3) hx hb hr (fun t ht hW => ⟨⟨3, w_x, rfl, hw, by show PA D ca ad w_x t.heap; rw [ht]; exact hP⟩, hS.F ht⟩) hS.2.2 dL_release_26
  have hP : PA D ca ad w_1 H := by rw [← ht]; exact hP
  refine lv_i2l (v := (r_2).toInt64) hx hb dL_release_10 rfl ?_
  obtain ⟨h_3, hw⟩ := hw
  refine va_last hx hb hK hP (DA hAd) hS 59 3 (wg59 ca ad w_1) rfl h_3 dL_release_11 (fun H locs hP hD hS => ?_)
  obtain ⟨w_4, e_5⟩ : ∃ z : St, z = (uO w_1 (vp_updL w_1.2.2.1 (0 : Int32).toNatClampNeg ((r_2).toInt64))) := ⟨_, rfl⟩
  have hP : PA D ca ad w_4 H := by rw [e_5]; exact wu59 hP
  have hw := hw w_4 e_5
  refine lv_goto (tgt := 27) hx hb dL_release_12 (by decide) ?_
  refine lv_iconst (v := 0) hx hb dL_release_27 (by decide) ?_
  exact W.iret (v := 0) hx hb hr (fun t ht hW => ⟨⟨0, w_4, rfl, hw, by show PA D ca ad w_4 t.heap; rw [ht]; exact hP⟩, hS.F ht⟩) hS.2.2 dL_release_28
set_option maxHeartbeats 4000000 in
set_option maxRecDepth 100000 in
def wpL_quit (a1 : Int32) (a2 : Int32) (w : St) (post : Int32 → St → Prop) : Prop := wpX4_quit a1 a2 w (fun r_2 w_1 => (vp_in 0 1) ∧ (∀ w_4 : St, w_4 = (uO w_1 (vp_updL w_1.2.2.1 (0 : Int32).toNatClampNeg ((r_2).toInt64))) → post 0 w_4)) (fun E w_x => (E = "java/util/NoSuchElementException" ∧ (post 1 w_x)) ∨ (E = "java/lang/IndexOutOfBoundsException" ∧ (post 2 w_x)) ∨ (E = "java/lang/UnsupportedOperationException" ∧ (post 3 w_x)))
set_option maxHeartbeats 4000000 in
set_option maxRecDepth 100000 in
theorem mL_quit (l : Launch) (D : va_G) (ca : Nat → ClassId) (ad : Nat → Nat) (base : Nat) (hAd : okA base ad) (w : St) (a1 : Int32) (a2 : Int32) (post : Int32 → St → Prop) (hw : wpL_quit a1 a2 w post) (hl9 : l.stackTraces = false) : Met l yL_quit wsL_quit ({ frames := 8, cells := 3, slots := 18, locals := 133 } : Room) (va_Pc [.ref (ad 0), .int a1, .int a2, .ref (ad 59)] (BX D ca ad base w)) (va_Qi post (Bp D ca ad) (AB base)) 3 18 (AB base) := by
  refine va_MetW (cc := cL_quit) (maxL := 5) (ret := (some .int)) (by decide) rfl ?_
  intro p e s m args below meth c s₁ B hml hv
  obtain ⟨rfl, ⟨hbs, hP, hK⟩, hXP⟩ := hv
  have hx := B.exec
  have hb := B.bytes
  have hr := B.returns
  have hts := atoms_spec (ws := wsL_quit) B.pre
  have hown : s.vm.findClass RL = some m.cls := findClass_of_methodNamed B.named
  have hlocks := B.notSynchronized
  have hTab : c.exceptionTable.toList = tableOf [(0, 10, 13, 43), (0, 10, 17, 19), (0, 10, 21, 81)] := vx_table (x := yL_quit) B (hts (.codeWith yL_quit cL_quit 5 (some .int) [(0, 10, 13, 43), (0, 10, 17, 19), (0, 10, 21, 81)]) (by decide +kernel))
  have hS : va_S (AB base) s.heap s.heap [] := va_S.rf
  have hl := lv_entry ([.ref (ad 0), .int a1, .int a2, .ref (ad 59)]) (n := 5) (Nat.le_of_ble_eq_true rfl)
  rw [lg_entry_eq]
  generalize (lg_sl ([.ref (ad 0), .int a1, .int a2, .ref (ad 59)]) ++ List.replicate (5 - (lg_sl ([.ref (ad 0), .int a1, .int a2, .ref (ad 59)])).length) Slot.unset).toArray = ls at hl ⊢
  have hl : lv_has ls 5 [(0, .ref (ad 0)), (1, .int a1), (2, .int a2), (3, .ref (ad 59))] := hl
  refine lv_aload_n hx hb dL_quit_0 rfl (lv_at hl 3 rfl) ?_
  refine lv_iconst (v := 0) hx hb dL_quit_1 (by decide) ?_
  refine lv_aload_n hx hb dL_quit_2 rfl (lv_at hl 0 rfl) ?_
  refine lv_iload_n hx hb dL_quit_3 rfl (lv_at hl 1 rfl) ?_
  refine lv_iload_n hx hb dL_quit_4 rfl (lv_at hl 2 rfl) ?_
  refine vx_calli (vx_runV (As := [.int a1, .int a2]) (rest := [.int 0, .ref (ad 59)]) ⟨hx, hb, hml, hown, hts⟩ (mX4_quit l D ca ad base hAd w a1 a2 _ _ hw hl9) (cwV 2 hts gL_quit_X4_quit rfl rfl rfl (by decide +kernel) ⟨Nat.le_of_ble_eq_true rfl, Nat.le_of_ble_eq_true rfl⟩) (pvx [.int a1, .int a2] hK hXP hP hbs hS rfl (wg0 ca ad w)) rfl rfl hl.1 rfl (lv_room (Nat.le_of_ble_eq_true rfl)) dL_quit_5 ⟨Nat.le_of_ble_eq_true rfl, Nat.le_of_ble_eq_true rfl⟩) hS (fun q _ h => h) (fun q h => h) (fun q _ h => h) (fun E ce q9 u t H locs ht hvm hw hB hz1 hk1 hS hce hcv hcl => ?_) (fun r_2 w_1 t H locs ht hvm hw hP hz1 hk1 hS => ?_)
  · obtain ⟨e1, hB⟩ := hB
    obtain ⟨w_x, ew⟩ : ∃ z, z = u.2 := ⟨_, rfl⟩
    have hP : PA D ca ad w_x H := by rw [ew, ← ht]; exact hB
    rw [← ew] at hw
    rcases hw with hw | hw | hw
    · obtain ⟨e9, hw⟩ := hw
      obtain rfl : E = "java/util/NoSuchElementException" := e1.trans e9
      refine vx_catch (own := RL) (name := "java/util/NoSuchElementException") (E := "java/util/NoSuchElementException") hown [] ⟨0, 10, 13, 43⟩ [⟨0, 10, 17, 19⟩, ⟨0, 10, 21, 81⟩] (by rw [hTab]; rfl) (fun z hz => nomatch hz) (by decide) (by decide) (hts (.classLink RL 43 "java/util/NoSuchElementException") (by decide +kernel)) (va_Nw.use rfl (hXP.2.2.1 (.castable "java/util/NoSuchElementException" "java/util/NoSuchElementException") (List.mem_of_getElem? (i := 3) rfl))) hce hcv hcl ?_
      refine lv_astore (lv' := [(4, .ref q9), (0, .ref (ad 0)), (1, .int a1), (2, .int a2), (3, .ref (ad 59))]) hx hb dL_quit_13 hl (by decide) rfl (fun ls hl => ?_)
      refine lv_iconst (v := 1) hx hb dL_quit_15 (by decide) ?_
      exact W.iret (v := 1) hx hb hr (fun t ht hW => ⟨⟨1, w_x, rfl, hw, by show PA D ca ad w_x t.heap; rw [ht]; exact hP⟩, hS.F ht⟩) hS.2.2 dL_quit_16
    · obtain ⟨e9, hw⟩ := hw
      obtain rfl : E = "java/lang/IndexOutOfBoundsException" := e1.trans e9
      refine vx_catch (own := RL) (name := "java/lang/IndexOutOfBoundsException") (E := "java/lang/IndexOutOfBoundsException") hown [⟨0, 10, 13, 43⟩] ⟨0, 10, 17, 19⟩ [⟨0, 10, 21, 81⟩] (by rw [hTab]; rfl) (by intro z hz; rcases List.mem_cons.mp hz with rfl | hz; exact Or.inr ⟨by decide, "java/util/NoSuchElementException", hts (.classLink RL 43 "java/util/NoSuchElementException") (by decide +kernel), hXP.2.2.2.2 ("java/lang/IndexOutOfBoundsException", "java/util/NoSuchElementException") (List.mem_of_getElem? (i := 7) rfl)⟩; cases hz) (by decide) (by decide) (hts (.classLink RL 19 "java/lang/IndexOutOfBoundsException") (by decide +kernel)) (va_Nw.use rfl (hXP.2.2.1 (.castable "java/lang/IndexOutOfBoundsException" "java/lang/IndexOutOfBoundsException") (List.mem_of_getElem? (i := 1) rfl))) hce hcv hcl ?_
      refine lv_astore (lv' := [(4, .ref q9), (0, .ref (ad 0)), (1, .int a1), (2, .int a2), (3, .ref (ad 59))]) hx hb dL_quit_17 hl (by decide) rfl (fun ls hl => ?_)
      refine lv_iconst (v := 2) hx hb dL_quit_19 (by decide) ?_
      exact W.iret (v := 2) hx hb hr (fun t ht hW => ⟨⟨2, w_x, rfl, hw, by show PA D ca ad w_x t.heap; rw [ht]; exact hP⟩, hS.F ht⟩) hS.2.2 dL_quit_20
    · obtain ⟨e9, hw⟩ := hw
      obtain rfl : E = "java/lang/UnsupportedOperationException" := e1.trans e9
      refine vx_catch (own := RL) (name := "java/lang/UnsupportedOperationException") (E := "java/lang/UnsupportedOperationException") hown [⟨0, 10, 13, 43⟩, ⟨0, 10, 17, 19⟩] ⟨0, 10, 21, 81⟩ [] (by rw [hTab]; rfl) (by intro z hz; rcases List.mem_cons.mp hz with rfl | hz; exact Or.inr ⟨by decide, "java/util/NoSuchElementException", hts (.classLink RL 43 "java/util/NoSuchElementException") (by decide +kernel), hXP.2.2.2.2 ("java/lang/UnsupportedOperationException", "java/util/NoSuchElementException") (List.mem_of_getElem? (i := 23) rfl)⟩; rcases List.mem_cons.mp hz with rfl | hz; exact Or.inr ⟨by decide, "java/lang/IndexOutOfBoundsException", hts (.classLink RL 19 "java/lang/IndexOutOfBoundsException") (by decide +kernel), hXP.2.2.2.2 ("java/lang/UnsupportedOperationException", "java/lang/IndexOutOfBoundsException") (List.mem_of_getElem? (i := 21) rfl)⟩; cases hz) (by decide) (by decide) (hts (.classLink RL 81 "java/lang/UnsupportedOperationException") (by decide +kernel)) (va_Nw.use rfl (hXP.2.2.1 (.castable "java/lang/UnsupportedOperationException" "java/lang/UnsupportedOperationException") (List.mem_of_getElem? (i := 4) rfl))) hce hcv hcl ?_
      refine lv_astore (lv' := [(4, .ref q9), (0, .ref (ad 0)), (1, .int a1), (2, .int a2), (3, .ref (ad 59))]) hx hb dL_quit_21 hl (by decide) rfl (fun ls hl => ?_)
      refine lv_iconst (v := 3) hx hb dL_quit_23 (by decide) ?_
      exact W.iret (v := 3) hx hb hr (fun t ht hW => ⟨⟨3, w_x, rfl, hw, by show PA D ca ad w_x t.heap; rw [ht]; exact hP⟩, hS.F ht⟩) hS.2.2 dL_quit_24
  have hP : PA D ca ad w_1 H := by rw [← ht]; exact hP
  refine lv_i2l (v := (r_2).toInt64) hx hb dL_quit_8 rfl ?_
  obtain ⟨h_3, hw⟩ := hw
  refine va_last hx hb hK hP (DA hAd) hS 59 3 (wg59 ca ad w_1) rfl h_3 dL_quit_9 (fun H locs hP hD hS => ?_)
  obtain ⟨w_4, e_5⟩ : ∃ z : St, z = (uO w_1 (vp_updL w_1.2.2.1 (0 : Int32).toNatClampNeg ((r_2).toInt64))) := ⟨_, rfl⟩
  have hP : PA D ca ad w_4 H := by rw [e_5]; exact wu59 hP
  have hw := hw w_4 e_5
  refine lv_goto (tgt := 25) hx hb dL_quit_10 (by decide) ?_
  refine lv_iconst (v := 0) hx hb dL_quit_25 (by decide) ?_
  exact W.iret (v := 0) hx hb hr (fun t ht hW => ⟨⟨0, w_4, rfl, hw, by show PA D ca ad w_4 t.heap; rw [ht]; exact hP⟩, hS.F ht⟩) hS.2.2 dL_quit_26
set_option maxHeartbeats 4000000 in
set_option maxRecDepth 100000 in
def wpL_read (a1 : Int32) (a2 : Int32) (a3 : Int32) (w : St) (post : Int32 → St → Prop) : Prop := wpX4_read a1 a2 a3 w (fun r_2 w_1 => (vp_in 0 1) ∧ (∀ w_4 : St, w_4 = (uO w_1 (vp_updL w_1.2.2.1 (0 : Int32).toNatClampNeg ((r_2).toInt64))) → post 0 w_4)) (fun E w_x => (E = "java/util/NoSuchElementException" ∧ (post 1 w_x)) ∨ (E = "java/lang/IndexOutOfBoundsException" ∧ (post 2 w_x)) ∨ (E = "java/lang/IllegalStateException" ∧ (post 3 w_x)))
set_option maxHeartbeats 4000000 in
set_option maxRecDepth 100000 in
theorem mL_read (l : Launch) (D : va_G) (ca : Nat → ClassId) (ad : Nat → Nat) (base : Nat) (hAd : okA base ad) (w : St) (a1 : Int32) (a2 : Int32) (a3 : Int32) (post : Int32 → St → Prop) (hw : wpL_read a1 a2 a3 w post) (hl9 : l.stackTraces = false) : Met l yL_read wsL_read ({ frames := 9, cells := 4, slots := 24, locals := 158 } : Room) (va_Pc [.ref (ad 0), .int a1, .int a2, .int a3, .ref (ad 59)] (BX D ca ad base w)) (va_Qi post (Bp D ca ad) (AB base)) 4 24 (AB base) := by
  refine va_MetW (cc := cL_read) (maxL := 6) (ret := (some .int)) (by decide) rfl ?_
  intro p e s m args below meth c s₁ B hml hv
  obtain ⟨rfl, ⟨hbs, hP, hK⟩, hXP⟩ := hv
  have hx := B.exec
  have hb := B.bytes
  have hr := B.returns
  have hts := atoms_spec (ws := wsL_read) B.pre
  have hown : s.vm.findClass RL = some m.cls := findClass_of_methodNamed B.named
  have hlocks := B.notSynchronized
  have hTab : c.exceptionTable.toList = tableOf [(0, 12, 15, 43), (0, 12, 19, 19), (0, 12, 23, 31)] := vx_table (x := yL_read) B (hts (.codeWith yL_read cL_read 6 (some .int) [(0, 12, 15, 43), (0, 12, 19, 19), (0, 12, 23, 31)]) (by decide +kernel))
  have hS : va_S (AB base) s.heap s.heap [] := va_S.rf
  have hl := lv_entry ([.ref (ad 0), .int a1, .int a2, .int a3, .ref (ad 59)]) (n := 6) (Nat.le_of_ble_eq_true rfl)
  rw [lg_entry_eq]
  generalize (lg_sl ([.ref (ad 0), .int a1, .int a2, .int a3, .ref (ad 59)]) ++ List.replicate (6 - (lg_sl ([.ref (ad 0), .int a1, .int a2, .int a3, .ref (ad 59)])).length) Slot.unset).toArray = ls at hl ⊢
  have hl : lv_has ls 6 [(0, .ref (ad 0)), (1, .int a1), (2, .int a2), (3, .int a3), (4, .ref (ad 59))] := hl
  refine lv_aload hx hb dL_read_0 (lv_at hl 4 rfl) ?_
  refine lv_iconst (v := 0) hx hb dL_read_2 (by decide) ?_
  refine lv_aload_n hx hb dL_read_3 rfl (lv_at hl 0 rfl) ?_
  refine lv_iload_n hx hb dL_read_4 rfl (lv_at hl 1 rfl) ?_
  refine lv_iload_n hx hb dL_read_5 rfl (lv_at hl 2 rfl) ?_
  refine lv_iload_n hx hb dL_read_6 rfl (lv_at hl 3 rfl) ?_
  refine vx_calli (vx_runV (As := [.int a1, .int a2, .int a3]) (rest := [.int 0, .ref (ad 59)]) ⟨hx, hb, hml, hown, hts⟩ (mX4_read l D ca ad base hAd w a1 a2 a3 _ _ hw hl9) (cwV 3 hts gL_read_X4_read rfl rfl rfl (by decide +kernel) ⟨Nat.le_of_ble_eq_true rfl, Nat.le_of_ble_eq_true rfl⟩) (pvx [.int a1, .int a2, .int a3] hK hXP hP hbs hS rfl (wg0 ca ad w)) rfl rfl hl.1 rfl (lv_room (Nat.le_of_ble_eq_true rfl)) dL_read_7 ⟨Nat.le_of_ble_eq_true rfl, Nat.le_of_ble_eq_true rfl⟩) hS (fun q _ h => h) (fun q h => h) (fun q _ h => h) (fun E ce q9 u t H locs ht hvm hw hB hz1 hk1 hS hce hcv hcl => ?_) (fun r_2 w_1 t H locs ht hvm hw hP hz1 hk1 hS => ?_)
  · obtain ⟨e1, hB⟩ := hB
    obtain ⟨w_x, ew⟩ : ∃ z, z = u.2 := ⟨_, rfl⟩
    have hP : PA D ca ad w_x H := by rw [ew, ← ht]; exact hB
    rw [← ew] at hw
    rcases hw with hw | hw | hw
    · obtain ⟨e9, hw⟩ := hw
      obtain rfl : E = "java/util/NoSuchElementException" := e1.trans e9
      refine vx_catch (own := RL) (name := "java/util/NoSuchElementException") (E := "java/util/NoSuchElementException") hown [] ⟨0, 12, 15, 43⟩ [⟨0, 12, 19, 19⟩, ⟨0, 12, 23, 31⟩] (by rw [hTab]; rfl) (fun z hz => nomatch hz) (by decide) (by decide) (hts (.classLink RL 43 "java/util/NoSuchElementException") (by decide +kernel)) (va_Nw.use rfl (hXP.2.2.1 (.castable "java/util/NoSuchElementException" "java/util/NoSuchElementException") (List.mem_of_getElem? (i := 3) rfl))) hce hcv hcl ?_
      refine lv_astore (lv' := [(5, .ref q9), (0, .ref (ad 0)), (1, .int a1), (2, .int a2), (3, .int a3), (4, .ref (ad 59))]) hx hb dL_read_15 hl (by decide) rfl (fun ls hl => ?_)
      refine lv_iconst (v := 1) hx hb dL_read_17 (by decide) ?_
      exact W.iret (v := 1) hx hb hr (fun t ht hW => ⟨⟨1, w_x, rfl, hw, by show PA D ca ad w_x t.heap; rw [ht]; exact hP⟩, hS.F ht⟩) hS.2.2 dL_read_18
    · obtain ⟨e9, hw⟩ := hw
      obtain rfl : E = "java/lang/IndexOutOfBoundsException" := e1.trans e9
      refine vx_catch (own := RL) (name := "java/lang/IndexOutOfBoundsException") (E := "java/lang/IndexOutOfBoundsException") hown [⟨0, 12, 15, 43⟩] ⟨0, 12, 19, 19⟩ [⟨0, 12, 23, 31⟩] (by rw [hTab]; rfl) (by intro z hz; rcases List.mem_cons.mp hz with rfl | hz; exact Or.inr ⟨by decide, "java/util/NoSuchElementException", hts (.classLink RL 43 "java/util/NoSuchElementException") (by decide +kernel), hXP.2.2.2.2 ("java/lang/IndexOutOfBoundsException", "java/util/NoSuchElementException") (List.mem_of_getElem? (i := 7) rfl)⟩; cases hz) (by decide) (by decide) (hts (.classLink RL 19 "java/lang/IndexOutOfBoundsException") (by decide +kernel)) (va_Nw.use rfl (hXP.2.2.1 (.castable "java/lang/IndexOutOfBoundsException" "java/lang/IndexOutOfBoundsException") (List.mem_of_getElem? (i := 1) rfl))) hce hcv hcl ?_
      refine lv_astore (lv' := [(5, .ref q9), (0, .ref (ad 0)), (1, .int a1), (2, .int a2), (3, .int a3), (4, .ref (ad 59))]) hx hb dL_read_19 hl (by decide) rfl (fun ls hl => ?_)
      refine lv_iconst (v := 2) hx hb dL_read_21 (by decide) ?_
      exact W.iret (v := 2) hx hb hr (fun t ht hW => ⟨⟨2, w_x, rfl, hw, by show PA D ca ad w_x t.heap; rw [ht]; exact hP⟩, hS.F ht⟩) hS.2.2 dL_read_22
    · obtain ⟨e9, hw⟩ := hw
      obtain rfl : E = "java/lang/IllegalStateException" := e1.trans e9
      refine vx_catch (own := RL) (name := "java/lang/IllegalStateException") (E := "java/lang/IllegalStateException") hown [⟨0, 12, 15, 43⟩, ⟨0, 12, 19, 19⟩] ⟨0, 12, 23, 31⟩ [] (by rw [hTab]; rfl) (by intro z hz; rcases List.mem_cons.mp hz with rfl | hz; exact Or.inr ⟨by decide, "java/util/NoSuchElementException", hts (.classLink RL 43 "java/util/NoSuchElementException") (by decide +kernel), hXP.2.2.2.2 ("java/lang/IllegalStateException", "java/util/NoSuchElementException") (List.mem_of_getElem? (i := 12) rfl)⟩; rcases List.mem_cons.mp hz with rfl | hz; exact Or.inr ⟨by decide, "java/lang/IndexOutOfBoundsException", hts (.classLink RL 19 "java/lang/IndexOutOfBoundsException") (by decide +kernel), hXP.2.2.2.2 ("java/lang/IllegalStateException", "java/lang/IndexOutOfBoundsException") (List.mem_of_getElem? (i := 11) rfl)⟩; cases hz) (by decide) (by decide) (hts (.classLink RL 31 "java/lang/IllegalStateException") (by decide +kernel)) (va_Nw.use rfl (hXP.2.2.1 (.castable "java/lang/IllegalStateException" "java/lang/IllegalStateException") (List.mem_of_getElem? (i := 2) rfl))) hce hcv hcl ?_
      refine lv_astore (lv' := [(5, .ref q9), (0, .ref (ad 0)), (1, .int a1), (2, .int a2), (3, .int a3), (4, .ref (ad 59))]) hx hb dL_read_23 hl (by decide) rfl (fun ls hl => ?_)
      refine lv_iconst (v := 3) hx hb dL_read_25 (by decide) ?_
      exact W.iret (v := 3) hx hb hr (fun t ht hW => ⟨⟨3, w_x, rfl, hw, by show PA D ca ad w_x t.heap; rw [ht]; exact hP⟩, hS.F ht⟩) hS.2.2 dL_read_26
  have hP : PA D ca ad w_1 H := by rw [← ht]; exact hP
  refine lv_i2l (v := (r_2).toInt64) hx hb dL_read_10 rfl ?_
  obtain ⟨h_3, hw⟩ := hw
  refine va_last hx hb hK hP (DA hAd) hS 59 3 (wg59 ca ad w_1) rfl h_3 dL_read_11 (fun H locs hP hD hS => ?_)
  obtain ⟨w_4, e_5⟩ : ∃ z : St, z = (uO w_1 (vp_updL w_1.2.2.1 (0 : Int32).toNatClampNeg ((r_2).toInt64))) := ⟨_, rfl⟩
  have hP : PA D ca ad w_4 H := by rw [e_5]; exact wu59 hP
  have hw := hw w_4 e_5
  refine lv_goto (tgt := 27) hx hb dL_read_12 (by decide) ?_
  refine lv_iconst (v := 0) hx hb dL_read_27 (by decide) ?_
  exact W.iret (v := 0) hx hb hr (fun t ht hW => ⟨⟨0, w_4, rfl, hw, by show PA D ca ad w_4 t.heap; rw [ht]; exact hP⟩, hS.F ht⟩) hS.2.2 dL_read_28
set_option maxHeartbeats 4000000 in
set_option maxRecDepth 100000 in
def wpL_write (a1 : Int32) (a2 : Int32) (a3 : Int32) (a4 : Int32) (w : St) (post : Int32 → St → Prop) : Prop := wpX4_write a1 a2 a3 a4 w (fun r_2 w_1 => (vp_in 0 1) ∧ (∀ w_4 : St, w_4 = (uO w_1 (vp_updL w_1.2.2.1 (0 : Int32).toNatClampNeg ((r_2).toInt64))) → post 0 w_4)) (fun E w_x => (E = "java/util/NoSuchElementException" ∧ (post 1 w_x)) ∨ (E = "java/lang/IndexOutOfBoundsException" ∧ (post 2 w_x)) ∨ (E = "java/lang/IllegalArgumentException" ∧ (post 3 w_x)) ∨ (E = "java/lang/IllegalStateException" ∧ (post 4 w_x)))
set_option maxHeartbeats 4000000 in
set_option maxRecDepth 100000 in
theorem mL_write (l : Launch) (D : va_G) (ca : Nat → ClassId) (ad : Nat → Nat) (base : Nat) (hAd : okA base ad) (w : St) (a1 : Int32) (a2 : Int32) (a3 : Int32) (a4 : Int32) (post : Int32 → St → Prop) (hw : wpL_write a1 a2 a3 a4 w post) (hl9 : l.stackTraces = false) : Met l yL_write wsL_write ({ frames := 9, cells := 4, slots := 24, locals := 159 } : Room) (va_Pc [.ref (ad 0), .int a1, .int a2, .int a3, .int a4, .ref (ad 59)] (BX D ca ad base w)) (va_Qi post (Bp D ca ad) (AB base)) 4 24 (AB base) := by
  refine va_MetW (cc := cL_write) (maxL := 7) (ret := (some .int)) (by decide) rfl ?_
  intro p e s m args below meth c s₁ B hml hv
  obtain ⟨rfl, ⟨hbs, hP, hK⟩, hXP⟩ := hv
  have hx := B.exec
  have hb := B.bytes
  have hr := B.returns
  have hts := atoms_spec (ws := wsL_write) B.pre
  have hown : s.vm.findClass RL = some m.cls := findClass_of_methodNamed B.named
  have hlocks := B.notSynchronized
  have hTab : c.exceptionTable.toList = tableOf [(0, 14, 17, 43), (0, 14, 21, 19), (0, 14, 25, 13), (0, 14, 29, 31)] := vx_table (x := yL_write) B (hts (.codeWith yL_write cL_write 7 (some .int) [(0, 14, 17, 43), (0, 14, 21, 19), (0, 14, 25, 13), (0, 14, 29, 31)]) (by decide +kernel))
  have hS : va_S (AB base) s.heap s.heap [] := va_S.rf
  have hl := lv_entry ([.ref (ad 0), .int a1, .int a2, .int a3, .int a4, .ref (ad 59)]) (n := 7) (Nat.le_of_ble_eq_true rfl)
  rw [lg_entry_eq]
  generalize (lg_sl ([.ref (ad 0), .int a1, .int a2, .int a3, .int a4, .ref (ad 59)]) ++ List.replicate (7 - (lg_sl ([.ref (ad 0), .int a1, .int a2, .int a3, .int a4, .ref (ad 59)])).length) Slot.unset).toArray = ls at hl ⊢
  have hl : lv_has ls 7 [(0, .ref (ad 0)), (1, .int a1), (2, .int a2), (3, .int a3), (4, .int a4), (5, .ref (ad 59))] := hl
  refine lv_aload hx hb dL_write_0 (lv_at hl 5 rfl) ?_
  refine lv_iconst (v := 0) hx hb dL_write_2 (by decide) ?_
  refine lv_aload_n hx hb dL_write_3 rfl (lv_at hl 0 rfl) ?_
  refine lv_iload_n hx hb dL_write_4 rfl (lv_at hl 1 rfl) ?_
  refine lv_iload_n hx hb dL_write_5 rfl (lv_at hl 2 rfl) ?_
  refine lv_iload_n hx hb dL_write_6 rfl (lv_at hl 3 rfl) ?_
  refine lv_iload hx hb dL_write_7 (lv_at hl 4 rfl) ?_
  refine vx_calli (vx_runV (As := [.int a1, .int a2, .int a3, .int a4]) (rest := [.int 0, .ref (ad 59)]) ⟨hx, hb, hml, hown, hts⟩ (mX4_write l D ca ad base hAd w a1 a2 a3 a4 _ _ hw hl9) (cwV 4 hts gL_write_X4_write rfl rfl rfl (by decide +kernel) ⟨Nat.le_of_ble_eq_true rfl, Nat.le_of_ble_eq_true rfl⟩) (pvx [.int a1, .int a2, .int a3, .int a4] hK hXP hP hbs hS rfl (wg0 ca ad w)) rfl rfl hl.1 rfl (lv_room (Nat.le_of_ble_eq_true rfl)) dL_write_9 ⟨Nat.le_of_ble_eq_true rfl, Nat.le_of_ble_eq_true rfl⟩) hS (fun q _ h => h) (fun q h => h) (fun q _ h => h) (fun E ce q9 u t H locs ht hvm hw hB hz1 hk1 hS hce hcv hcl => ?_) (fun r_2 w_1 t H locs ht hvm hw hP hz1 hk1 hS => ?_)
  · obtain ⟨e1, hB⟩ := hB
    obtain ⟨w_x, ew⟩ : ∃ z, z = u.2 := ⟨_, rfl⟩
    have hP : PA D ca ad w_x H := by rw [ew, ← ht]; exact hB
    rw [← ew] at hw
    rcases hw with hw | hw | hw | hw
    · obtain ⟨e9, hw⟩ := hw
      obtain rfl : E = "java/util/NoSuchElementException" := e1.trans e9
      refine vx_catch (own := RL) (name := "java/util/NoSuchElementException") (E := "java/util/NoSuchElementException") hown [] ⟨0, 14, 17, 43⟩ [⟨0, 14, 21, 19⟩, ⟨0, 14, 25, 13⟩, ⟨0, 14, 29, 31⟩] (by rw [hTab]; rfl) (fun z hz => nomatch hz) (by decide) (by decide) (hts (.classLink RL 43 "java/util/NoSuchElementException") (by decide +kernel)) (va_Nw.use rfl (hXP.2.2.1 (.castable "java/util/NoSuchElementException" "java/util/NoSuchElementException") (List.mem_of_getElem? (i := 3) rfl))) hce hcv hcl ?_
      refine lv_astore (lv' := [(6, .ref q9), (0, .ref (ad 0)), (1, .int a1), (2, .int a2), (3, .int a3), (4, .int a4), (5, .ref (ad 59))]) hx hb dL_write_17 hl (by decide) rfl (fun ls hl => ?_)
      refine lv_iconst (v := 1) hx hb dL_write_19 (by decide) ?_
      exact W.iret (v := 1) hx hb hr (fun t ht hW => ⟨⟨1, w_x, rfl, hw, by show PA D ca ad w_x t.heap; rw [ht]; exact hP⟩, hS.F ht⟩) hS.2.2 dL_write_20
    · obtain ⟨e9, hw⟩ := hw
      obtain rfl : E = "java/lang/IndexOutOfBoundsException" := e1.trans e9
      refine vx_catch (own := RL) (name := "java/lang/IndexOutOfBoundsException") (E := "java/lang/IndexOutOfBoundsException") hown [⟨0, 14, 17, 43⟩] ⟨0, 14, 21, 19⟩ [⟨0, 14, 25, 13⟩, ⟨0, 14, 29, 31⟩] (by rw [hTab]; rfl) (by intro z hz; rcases List.mem_cons.mp hz with rfl | hz; exact Or.inr ⟨by decide, "java/util/NoSuchElementException", hts (.classLink RL 43 "java/util/NoSuchElementException") (by decide +kernel), hXP.2.2.2.2 ("java/lang/IndexOutOfBoundsException", "java/util/NoSuchElementException") (List.mem_of_getElem? (i := 7) rfl)⟩; cases hz) (by decide) (by decide) (hts (.classLink RL 19 "java/lang/IndexOutOfBoundsException") (by decide +kernel)) (va_Nw.use rfl (hXP.2.2.1 (.castable "java/lang/IndexOutOfBoundsException" "java/lang/IndexOutOfBoundsException") (List.mem_of_getElem? (i := 1) rfl))) hce hcv hcl ?_
      refine lv_astore (lv' := [(6, .ref q9), (0, .ref (ad 0)), (1, .int a1), (2, .int a2), (3, .int a3), (4, .int a4), (5, .ref (ad 59))]) hx hb dL_write_21 hl (by decide) rfl (fun ls hl => ?_)
      refine lv_iconst (v := 2) hx hb dL_write_23 (by decide) ?_
      exact W.iret (v := 2) hx hb hr (fun t ht hW => ⟨⟨2, w_x, rfl, hw, by show PA D ca ad w_x t.heap; rw [ht]; exact hP⟩, hS.F ht⟩) hS.2.2 dL_write_24
    · obtain ⟨e9, hw⟩ := hw
      obtain rfl : E = "java/lang/IllegalArgumentException" := e1.trans e9
      refine vx_catch (own := RL) (name := "java/lang/IllegalArgumentException") (E := "java/lang/IllegalArgumentException") hown [⟨0, 14, 17, 43⟩, ⟨0, 14, 21, 19⟩] ⟨0, 14, 25, 13⟩ [⟨0, 14, 29, 31⟩] (by rw [hTab]; rfl) (by intro z hz; rcases List.mem_cons.mp hz with rfl | hz; exact Or.inr ⟨by decide, "java/util/NoSuchElementException", hts (.classLink RL 43 "java/util/NoSuchElementException") (by decide +kernel), hXP.2.2.2.2 ("java/lang/IllegalArgumentException", "java/util/NoSuchElementException") (List.mem_of_getElem? (i := 2) rfl)⟩; rcases List.mem_cons.mp hz with rfl | hz; exact Or.inr ⟨by decide, "java/lang/IndexOutOfBoundsException", hts (.classLink RL 19 "java/lang/IndexOutOfBoundsException") (by decide +kernel), hXP.2.2.2.2 ("java/lang/IllegalArgumentException", "java/lang/IndexOutOfBoundsException") (List.mem_of_getElem? (i := 0) rfl)⟩; cases hz) (by decide) (by decide) (hts (.classLink RL 13 "java/lang/IllegalArgumentException") (by decide +kernel)) (va_Nw.use rfl (hXP.2.2.1 (.castable "java/lang/IllegalArgumentException" "java/lang/IllegalArgumentException") (List.mem_of_getElem? (i := 0) rfl))) hce hcv hcl ?_
      refine lv_astore (lv' := [(6, .ref q9), (0, .ref (ad 0)), (1, .int a1), (2, .int a2), (3, .int a3), (4, .int a4), (5, .ref (ad 59))]) hx hb dL_write_25 hl (by decide) rfl (fun ls hl => ?_)
      refine lv_iconst (v := 3) hx hb dL_write_27 (by decide) ?_
      exact W.iret (v := 3) hx hb hr (fun t ht hW => ⟨⟨3, w_x, rfl, hw, by show PA D ca ad w_x t.heap; rw [ht]; exact hP⟩, hS.F ht⟩) hS.2.2 dL_write_28
    · obtain ⟨e9, hw⟩ := hw
      obtain rfl : E = "java/lang/IllegalStateException" := e1.trans e9
      refine vx_catch (own := RL) (name := "java/lang/IllegalStateException") (E := "java/lang/IllegalStateException") hown [⟨0, 14, 17, 43⟩, ⟨0, 14, 21, 19⟩, ⟨0, 14, 25, 13⟩] ⟨0, 14, 29, 31⟩ [] (by rw [hTab]; rfl) (by intro z hz; rcases List.mem_cons.mp hz with rfl | hz; exact Or.inr ⟨by decide, "java/util/NoSuchElementException", hts (.classLink RL 43 "java/util/NoSuchElementException") (by decide +kernel), hXP.2.2.2.2 ("java/lang/IllegalStateException", "java/util/NoSuchElementException") (List.mem_of_getElem? (i := 12) rfl)⟩; rcases List.mem_cons.mp hz with rfl | hz; exact Or.inr ⟨by decide, "java/lang/IndexOutOfBoundsException", hts (.classLink RL 19 "java/lang/IndexOutOfBoundsException") (by decide +kernel), hXP.2.2.2.2 ("java/lang/IllegalStateException", "java/lang/IndexOutOfBoundsException") (List.mem_of_getElem? (i := 11) rfl)⟩; rcases List.mem_cons.mp hz with rfl | hz; exact Or.inr ⟨by decide, "java/lang/IllegalArgumentException", hts (.classLink RL 13 "java/lang/IllegalArgumentException") (by decide +kernel), hXP.2.2.2.2 ("java/lang/IllegalStateException", "java/lang/IllegalArgumentException") (List.mem_of_getElem? (i := 10) rfl)⟩; cases hz) (by decide) (by decide) (hts (.classLink RL 31 "java/lang/IllegalStateException") (by decide +kernel)) (va_Nw.use rfl (hXP.2.2.1 (.castable "java/lang/IllegalStateException" "java/lang/IllegalStateException") (List.mem_of_getElem? (i := 2) rfl))) hce hcv hcl ?_
      refine lv_astore (lv' := [(6, .ref q9), (0, .ref (ad 0)), (1, .int a1), (2, .int a2), (3, .int a3), (4, .int a4), (5, .ref (ad 59))]) hx hb dL_write_29 hl (by decide) rfl (fun ls hl => ?_)
      refine lv_iconst (v := 4) hx hb dL_write_31 (by decide) ?_
      exact W.iret (v := 4) hx hb hr (fun t ht hW => ⟨⟨4, w_x, rfl, hw, by show PA D ca ad w_x t.heap; rw [ht]; exact hP⟩, hS.F ht⟩) hS.2.2 dL_write_32
  have hP : PA D ca ad w_1 H := by rw [← ht]; exact hP
  refine lv_i2l (v := (r_2).toInt64) hx hb dL_write_12 rfl ?_
  obtain ⟨h_3, hw⟩ := hw
  refine va_last hx hb hK hP (DA hAd) hS 59 3 (wg59 ca ad w_1) rfl h_3 dL_write_13 (fun H locs hP hD hS => ?_)
  obtain ⟨w_4, e_5⟩ : ∃ z : St, z = (uO w_1 (vp_updL w_1.2.2.1 (0 : Int32).toNatClampNeg ((r_2).toInt64))) := ⟨_, rfl⟩
  have hP : PA D ca ad w_4 H := by rw [e_5]; exact wu59 hP
  have hw := hw w_4 e_5
  refine lv_goto (tgt := 33) hx hb dL_write_14 (by decide) ?_
  refine lv_iconst (v := 0) hx hb dL_write_33 (by decide) ?_
  exact W.iret (v := 0) hx hb hr (fun t ht hW => ⟨⟨0, w_4, rfl, hw, by show PA D ca ad w_4 t.heap; rw [ht]; exact hP⟩, hS.F ht⟩) hS.2.2 dL_write_34
set_option maxHeartbeats 4000000 in
set_option maxRecDepth 100000 in
def wpL_owner (a1 : Int32) (w : St) (post : Int32 → St → Prop) : Prop := wpX4_owner a1 w (fun r_2 w_1 => (vp_in 0 1) ∧ (∀ w_4 : St, w_4 = (uO w_1 (vp_updL w_1.2.2.1 (0 : Int32).toNatClampNeg ((r_2).toInt64))) → post 0 w_4)) (fun E w_x => (E = "java/lang/IndexOutOfBoundsException" ∧ (post 1 w_x)) ∨ (E = "java/util/NoSuchElementException" ∧ (post 2 w_x)))
set_option maxHeartbeats 4000000 in
set_option maxRecDepth 100000 in
theorem mL_owner (l : Launch) (D : va_G) (ca : Nat → ClassId) (ad : Nat → Nat) (base : Nat) (hAd : okA base ad) (w : St) (a1 : Int32) (post : Int32 → St → Prop) (hw : wpL_owner a1 w post) (hl9 : l.stackTraces = false) : Met l yL_owner wsL_owner ({ frames := 8, cells := 2, slots := 12, locals := 132 } : Room) (va_Pc [.ref (ad 0), .int a1, .ref (ad 59)] (BX D ca ad base w)) (va_Qi post (Bp D ca ad) (AB base)) 2 12 (AB base) := by
  refine va_MetW (cc := cL_owner) (maxL := 4) (ret := (some .int)) (by decide) rfl ?_
  intro p e s m args below meth c s₁ B hml hv
  obtain ⟨rfl, ⟨hbs, hP, hK⟩, hXP⟩ := hv
  have hx := B.exec
  have hb := B.bytes
  have hr := B.returns
  have hts := atoms_spec (ws := wsL_owner) B.pre
  have hown : s.vm.findClass RL = some m.cls := findClass_of_methodNamed B.named
  have hlocks := B.notSynchronized
  have hTab : c.exceptionTable.toList = tableOf [(0, 9, 12, 19), (0, 9, 15, 43)] := vx_table (x := yL_owner) B (hts (.codeWith yL_owner cL_owner 4 (some .int) [(0, 9, 12, 19), (0, 9, 15, 43)]) (by decide +kernel))
  have hS : va_S (AB base) s.heap s.heap [] := va_S.rf
  have hl := lv_entry ([.ref (ad 0), .int a1, .ref (ad 59)]) (n := 4) (Nat.le_of_ble_eq_true rfl)
  rw [lg_entry_eq]
  generalize (lg_sl ([.ref (ad 0), .int a1, .ref (ad 59)]) ++ List.replicate (4 - (lg_sl ([.ref (ad 0), .int a1, .ref (ad 59)])).length) Slot.unset).toArray = ls at hl ⊢
  have hl : lv_has ls 4 [(0, .ref (ad 0)), (1, .int a1), (2, .ref (ad 59))] := hl
  refine lv_aload_n hx hb dL_owner_0 rfl (lv_at hl 2 rfl) ?_
  refine lv_iconst (v := 0) hx hb dL_owner_1 (by decide) ?_
  refine lv_aload_n hx hb dL_owner_2 rfl (lv_at hl 0 rfl) ?_
  refine lv_iload_n hx hb dL_owner_3 rfl (lv_at hl 1 rfl) ?_
  refine vx_calli (vx_runV (As := [.int a1]) (rest := [.int 0, .ref (ad 59)]) ⟨hx, hb, hml, hown, hts⟩ (mX4_owner l D ca ad base hAd w a1 _ _ hw hl9) (cwV 1 hts gL_owner_X4_owner rfl rfl rfl (by decide +kernel) ⟨Nat.le_of_ble_eq_true rfl, Nat.le_of_ble_eq_true rfl⟩) (pvx [.int a1] hK hXP hP hbs hS rfl (wg0 ca ad w)) rfl rfl hl.1 rfl (lv_room (Nat.le_of_ble_eq_true rfl)) dL_owner_4 ⟨Nat.le_of_ble_eq_true rfl, Nat.le_of_ble_eq_true rfl⟩) hS (fun q _ h => h) (fun q h => h) (fun q _ h => h) (fun E ce q9 u t H locs ht hvm hw hB hz1 hk1 hS hce hcv hcl => ?_) (fun r_2 w_1 t H locs ht hvm hw hP hz1 hk1 hS => ?_)
  · obtain ⟨e1, hB⟩ := hB
    obtain ⟨w_x, ew⟩ : ∃ z, z = u.2 := ⟨_, rfl⟩
    have hP : PA D ca ad w_x H := by rw [ew, ← ht]; exact hB
    rw [← ew] at hw
    rcases hw with hw | hw
    · obtain ⟨e9, hw⟩ := hw
      obtain rfl : E = "java/lang/IndexOutOfBoundsException" := e1.trans e9
      refine vx_catch (own := RL) (name := "java/lang/IndexOutOfBoundsException") (E := "java/lang/IndexOutOfBoundsException") hown [] ⟨0, 9, 12, 19⟩ [⟨0, 9, 15, 43⟩] (by rw [hTab]; rfl) (fun z hz => nomatch hz) (by decide) (by decide) (hts (.classLink RL 19 "java/lang/IndexOutOfBoundsException") (by decide +kernel)) (va_Nw.use rfl (hXP.2.2.1 (.castable "java/lang/IndexOutOfBoundsException" "java/lang/IndexOutOfBoundsException") (List.mem_of_getElem? (i := 1) rfl))) hce hcv hcl ?_
      refine lv_astore_n (lv' := [(3, .ref q9), (0, .ref (ad 0)), (1, .int a1), (2, .ref (ad 59))]) hx hb dL_owner_12 rfl hl (by decide) rfl (fun ls hl => ?_)
      refine lv_iconst (v := 1) hx hb dL_owner_13 (by decide) ?_
      exact W.iret (v := 1) hx hb hr (fun t ht hW => ⟨⟨1, w_x, rfl, hw, by show PA D ca ad w_x t.heap; rw [ht]; exact hP⟩, hS.F ht⟩) hS.2.2 dL_owner_14
    · obtain ⟨e9, hw⟩ := hw
      obtain rfl : E = "java/util/NoSuchElementException" := e1.trans e9
      refine vx_catch (own := RL) (name := "java/util/NoSuchElementException") (E := "java/util/NoSuchElementException") hown [⟨0, 9, 12, 19⟩] ⟨0, 9, 15, 43⟩ [] (by rw [hTab]; rfl) (by intro z hz; rcases List.mem_cons.mp hz with rfl | hz; exact Or.inr ⟨by decide, "java/lang/IndexOutOfBoundsException", hts (.classLink RL 19 "java/lang/IndexOutOfBoundsException") (by decide +kernel), hXP.2.2.2.2 ("java/util/NoSuchElementException", "java/lang/IndexOutOfBoundsException") (List.mem_of_getElem? (i := 16) rfl)⟩; cases hz) (by decide) (by decide) (hts (.classLink RL 43 "java/util/NoSuchElementException") (by decide +kernel)) (va_Nw.use rfl (hXP.2.2.1 (.castable "java/util/NoSuchElementException" "java/util/NoSuchElementException") (List.mem_of_getElem? (i := 3) rfl))) hce hcv hcl ?_
      refine lv_astore_n (lv' := [(3, .ref q9), (0, .ref (ad 0)), (1, .int a1), (2, .ref (ad 59))]) hx hb dL_owner_15 rfl hl (by decide) rfl (fun ls hl => ?_)
      refine lv_iconst (v := 2) hx hb dL_owner_16 (by decide) ?_
      exact W.iret (v := 2) hx hb hr (fun t ht hW => ⟨⟨2, w_x, rfl, hw, by show PA D ca ad w_x t.heap; rw [ht]; exact hP⟩, hS.F ht⟩) hS.2.2 dL_owner_17
  have hP : PA D ca ad w_1 H := by rw [← ht]; exact hP
  refine lv_i2l (v := (r_2).toInt64) hx hb dL_owner_7 rfl ?_
  obtain ⟨h_3, hw⟩ := hw
  refine va_last hx hb hK hP (DA hAd) hS 59 3 (wg59 ca ad w_1) rfl h_3 dL_owner_8 (fun H locs hP hD hS => ?_)
  obtain ⟨w_4, e_5⟩ : ∃ z : St, z = (uO w_1 (vp_updL w_1.2.2.1 (0 : Int32).toNatClampNeg ((r_2).toInt64))) := ⟨_, rfl⟩
  have hP : PA D ca ad w_4 H := by rw [e_5]; exact wu59 hP
  have hw := hw w_4 e_5
  refine lv_goto (tgt := 18) hx hb dL_owner_9 (by decide) ?_
  refine lv_iconst (v := 0) hx hb dL_owner_18 (by decide) ?_
  exact W.iret (v := 0) hx hb hr (fun t ht hW => ⟨⟨0, w_4, rfl, hw, by show PA D ca ad w_4 t.heap; rw [ht]; exact hP⟩, hS.F ht⟩) hS.2.2 dL_owner_19
set_option maxHeartbeats 4000000 in
set_option maxRecDepth 100000 in
def wpL_ownerByLog (a1 : Int32) (w : St) (post : Int32 → St → Prop) : Prop := wpX4_ownerByLog a1 w (fun r_2 w_1 => (vp_in 0 1) ∧ (∀ w_4 : St, w_4 = (uO w_1 (vp_updL w_1.2.2.1 (0 : Int32).toNatClampNeg ((r_2).toInt64))) → post 0 w_4)) (fun E w_x => (E = "java/lang/IndexOutOfBoundsException" ∧ (post 1 w_x)) ∨ (E = "java/util/NoSuchElementException" ∧ (post 2 w_x)))
set_option maxHeartbeats 4000000 in
set_option maxRecDepth 100000 in
theorem mL_ownerByLog (l : Launch) (D : va_G) (ca : Nat → ClassId) (ad : Nat → Nat) (base : Nat) (hAd : okA base ad) (w : St) (a1 : Int32) (post : Int32 → St → Prop) (hw : wpL_ownerByLog a1 w post) (hl9 : l.stackTraces = false) : Met l yL_ownerByLog wsL_ownerByLog ({ frames := 8, cells := 2, slots := 12, locals := 133 } : Room) (va_Pc [.ref (ad 0), .int a1, .ref (ad 59)] (BX D ca ad base w)) (va_Qi post (Bp D ca ad) (AB base)) 2 12 (AB base) := by
  refine va_MetW (cc := cL_ownerByLog) (maxL := 4) (ret := (some .int)) (by decide) rfl ?_
  intro p e s m args below meth c s₁ B hml hv
  obtain ⟨rfl, ⟨hbs, hP, hK⟩, hXP⟩ := hv
  have hx := B.exec
  have hb := B.bytes
  have hr := B.returns
  have hts := atoms_spec (ws := wsL_ownerByLog) B.pre
  have hown : s.vm.findClass RL = some m.cls := findClass_of_methodNamed B.named
  have hlocks := B.notSynchronized
  have hTab : c.exceptionTable.toList = tableOf [(0, 9, 12, 19), (0, 9, 15, 43)] := vx_table (x := yL_ownerByLog) B (hts (.codeWith yL_ownerByLog cL_ownerByLog 4 (some .int) [(0, 9, 12, 19), (0, 9, 15, 43)]) (by decide +kernel))
  have hS : va_S (AB base) s.heap s.heap [] := va_S.rf
  have hl := lv_entry ([.ref (ad 0), .int a1, .ref (ad 59)]) (n := 4) (Nat.le_of_ble_eq_true rfl)
  rw [lg_entry_eq]
  generalize (lg_sl ([.ref (ad 0), .int a1, .ref (ad 59)]) ++ List.replicate (4 - (lg_sl ([.ref (ad 0), .int a1, .ref (ad 59)])).length) Slot.unset).toArray = ls at hl ⊢
  have hl : lv_has ls 4 [(0, .ref (ad 0)), (1, .int a1), (2, .ref (ad 59))] := hl
  refine lv_aload_n hx hb dL_ownerByLog_0 rfl (lv_at hl 2 rfl) ?_
  refine lv_iconst (v := 0) hx hb dL_ownerByLog_1 (by decide) ?_
  refine lv_aload_n hx hb dL_ownerByLog_2 rfl (lv_at hl 0 rfl) ?_
  refine lv_iload_n hx hb dL_ownerByLog_3 rfl (lv_at hl 1 rfl) ?_
  refine vx_calli (vx_runV (As := [.int a1]) (rest := [.int 0, .ref (ad 59)]) ⟨hx, hb, hml, hown, hts⟩ (mX4_ownerByLog l D ca ad base hAd w a1 _ _ hw hl9) (cwV 1 hts gL_ownerByLog_X4_ownerByLog rfl rfl rfl (by decide +kernel) ⟨Nat.le_of_ble_eq_true rfl, Nat.le_of_ble_eq_true rfl⟩) (pvx [.int a1] hK hXP hP hbs hS rfl (wg0 ca ad w)) rfl rfl hl.1 rfl (lv_room (Nat.le_of_ble_eq_true rfl)) dL_ownerByLog_4 ⟨Nat.le_of_ble_eq_true rfl, Nat.le_of_ble_eq_true rfl⟩) hS (fun q _ h => h) (fun q h => h) (fun q _ h => h) (fun E ce q9 u t H locs ht hvm hw hB hz1 hk1 hS hce hcv hcl => ?_) (fun r_2 w_1 t H locs ht hvm hw hP hz1 hk1 hS => ?_)
  · obtain ⟨e1, hB⟩ := hB
    obtain ⟨w_x, ew⟩ : ∃ z, z = u.2 := ⟨_, rfl⟩
    have hP : PA D ca ad w_x H := by rw [ew, ← ht]; exact hB
    rw [← ew] at hw
    rcases hw with hw | hw
    · obtain ⟨e9, hw⟩ := hw
      obtain rfl : E = "java/lang/IndexOutOfBoundsException" := e1.trans e9
      refine vx_catch (own := RL) (name := "java/lang/IndexOutOfBoundsException") (E := "java/lang/IndexOutOfBoundsException") hown [] ⟨0, 9, 12, 19⟩ [⟨0, 9, 15, 43⟩] (by rw [hTab]; rfl) (fun z hz => nomatch hz) (by decide) (by decide) (hts (.classLink RL 19 "java/lang/IndexOutOfBoundsException") (by decide +kernel)) (va_Nw.use rfl (hXP.2.2.1 (.castable "java/lang/IndexOutOfBoundsException" "java/lang/IndexOutOfBoundsException") (List.mem_of_getElem? (i := 1) rfl))) hce hcv hcl ?_
      refine lv_astore_n (lv' := [(3, .ref q9), (0, .ref (ad 0)), (1, .int a1), (2, .ref (ad 59))]) hx hb dL_ownerByLog_12 rfl hl (by decide) rfl (fun ls hl => ?_)
      refine lv_iconst (v := 1) hx hb dL_ownerByLog_13 (by decide) ?_
      exact W.iret (v := 1) hx hb hr (fun t ht hW => ⟨⟨1, w_x, rfl, hw, by show PA D ca ad w_x t.heap; rw [ht]; exact hP⟩, hS.F ht⟩) hS.2.2 dL_ownerByLog_14
    · obtain ⟨e9, hw⟩ := hw
      obtain rfl : E = "java/util/NoSuchElementException" := e1.trans e9
      refine vx_catch (own := RL) (name := "java/util/NoSuchElementException") (E := "java/util/NoSuchElementException") hown [⟨0, 9, 12, 19⟩] ⟨0, 9, 15, 43⟩ [] (by rw [hTab]; rfl) (by intro z hz; rcases List.mem_cons.mp hz with rfl | hz; exact Or.inr ⟨by decide, "java/lang/IndexOutOfBoundsException", hts (.classLink RL 19 "java/lang/IndexOutOfBoundsException") (by decide +kernel), hXP.2.2.2.2 ("java/util/NoSuchElementException", "java/lang/IndexOutOfBoundsException") (List.mem_of_getElem? (i := 16) rfl)⟩; cases hz) (by decide) (by decide) (hts (.classLink RL 43 "java/util/NoSuchElementException") (by decide +kernel)) (va_Nw.use rfl (hXP.2.2.1 (.castable "java/util/NoSuchElementException" "java/util/NoSuchElementException") (List.mem_of_getElem? (i := 3) rfl))) hce hcv hcl ?_
      refine lv_astore_n (lv' := [(3, .ref q9), (0, .ref (ad 0)), (1, .int a1), (2, .ref (ad 59))]) hx hb dL_ownerByLog_15 rfl hl (by decide) rfl (fun ls hl => ?_)
      refine lv_iconst (v := 2) hx hb dL_ownerByLog_16 (by decide) ?_
      exact W.iret (v := 2) hx hb hr (fun t ht hW => ⟨⟨2, w_x, rfl, hw, by show PA D ca ad w_x t.heap; rw [ht]; exact hP⟩, hS.F ht⟩) hS.2.2 dL_ownerByLog_17
  have hP : PA D ca ad w_1 H := by rw [← ht]; exact hP
  refine lv_i2l (v := (r_2).toInt64) hx hb dL_ownerByLog_7 rfl ?_
  obtain ⟨h_3, hw⟩ := hw
  refine va_last hx hb hK hP (DA hAd) hS 59 3 (wg59 ca ad w_1) rfl h_3 dL_ownerByLog_8 (fun H locs hP hD hS => ?_)
  obtain ⟨w_4, e_5⟩ : ∃ z : St, z = (uO w_1 (vp_updL w_1.2.2.1 (0 : Int32).toNatClampNeg ((r_2).toInt64))) := ⟨_, rfl⟩
  have hP : PA D ca ad w_4 H := by rw [e_5]; exact wu59 hP
  have hw := hw w_4 e_5
  refine lv_goto (tgt := 18) hx hb dL_ownerByLog_9 (by decide) ?_
  refine lv_iconst (v := 0) hx hb dL_ownerByLog_18 (by decide) ?_
  exact W.iret (v := 0) hx hb hr (fun t ht hW => ⟨⟨0, w_4, rfl, hw, by show PA D ca ad w_4 t.heap; rw [ht]; exact hP⟩, hS.F ht⟩) hS.2.2 dL_ownerByLog_19
set_option maxHeartbeats 4000000 in
set_option maxRecDepth 100000 in
def wpL_endOf (a1 : Int32) (w : St) (post : Int32 → St → Prop) : Prop := wpX4_endOf a1 w (fun r_2 w_1 => (vp_in 0 1) ∧ (∀ w_4 : St, w_4 = (uO w_1 (vp_updL w_1.2.2.1 (0 : Int32).toNatClampNeg ((r_2).toInt64))) → post 0 w_4)) (fun E w_x => (E = "java/lang/IndexOutOfBoundsException" ∧ (post 1 w_x)) ∨ (E = "java/util/NoSuchElementException" ∧ (post 2 w_x)))
set_option maxHeartbeats 4000000 in
set_option maxRecDepth 100000 in
theorem mL_endOf (l : Launch) (D : va_G) (ca : Nat → ClassId) (ad : Nat → Nat) (base : Nat) (hAd : okA base ad) (w : St) (a1 : Int32) (post : Int32 → St → Prop) (hw : wpL_endOf a1 w post) (hl9 : l.stackTraces = false) : Met l yL_endOf wsL_endOf ({ frames := 8, cells := 2, slots := 12, locals := 132 } : Room) (va_Pc [.ref (ad 0), .int a1, .ref (ad 59)] (BX D ca ad base w)) (va_Qi post (Bp D ca ad) (AB base)) 2 12 (AB base) := by
  refine va_MetW (cc := cL_endOf) (maxL := 4) (ret := (some .int)) (by decide) rfl ?_
  intro p e s m args below meth c s₁ B hml hv
  obtain ⟨rfl, ⟨hbs, hP, hK⟩, hXP⟩ := hv
  have hx := B.exec
  have hb := B.bytes
  have hr := B.returns
  have hts := atoms_spec (ws := wsL_endOf) B.pre
  have hown : s.vm.findClass RL = some m.cls := findClass_of_methodNamed B.named
  have hlocks := B.notSynchronized
  have hTab : c.exceptionTable.toList = tableOf [(0, 9, 12, 19), (0, 9, 15, 43)] := vx_table (x := yL_endOf) B (hts (.codeWith yL_endOf cL_endOf 4 (some .int) [(0, 9, 12, 19), (0, 9, 15, 43)]) (by decide +kernel))
  have hS : va_S (AB base) s.heap s.heap [] := va_S.rf
  have hl := lv_entry ([.ref (ad 0), .int a1, .ref (ad 59)]) (n := 4) (Nat.le_of_ble_eq_true rfl)
  rw [lg_entry_eq]
  generalize (lg_sl ([.ref (ad 0), .int a1, .ref (ad 59)]) ++ List.replicate (4 - (lg_sl ([.ref (ad 0), .int a1, .ref (ad 59)])).length) Slot.unset).toArray = ls at hl ⊢
  have hl : lv_has ls 4 [(0, .ref (ad 0)), (1, .int a1), (2, .ref (ad 59))] := hl
  refine lv_aload_n hx hb dL_endOf_0 rfl (lv_at hl 2 rfl) ?_
  refine lv_iconst (v := 0) hx hb dL_endOf_1 (by decide) ?_
  refine lv_aload_n hx hb dL_endOf_2 rfl (lv_at hl 0 rfl) ?_
  refine lv_iload_n hx hb dL_endOf_3 rfl (lv_at hl 1 rfl) ?_
  refine vx_calli (vx_runV (As := [.int a1]) (rest := [.int 0, .ref (ad 59)]) ⟨hx, hb, hml, hown, hts⟩ (mX4_endOf l D ca ad base hAd w a1 _ _ hw hl9) (cwV 1 hts gL_endOf_X4_endOf rfl rfl rfl (by decide +kernel) ⟨Nat.le_of_ble_eq_true rfl, Nat.le_of_ble_eq_true rfl⟩) (pvx [.int a1] hK hXP hP hbs hS rfl (wg0 ca ad w)) rfl rfl hl.1 rfl (lv_room (Nat.le_of_ble_eq_true rfl)) dL_endOf_4 ⟨Nat.le_of_ble_eq_true rfl, Nat.le_of_ble_eq_true rfl⟩) hS (fun q _ h => h) (fun q h => h) (fun q _ h => h) (fun E ce q9 u t H locs ht hvm hw hB hz1 hk1 hS hce hcv hcl => ?_) (fun r_2 w_1 t H locs ht hvm hw hP hz1 hk1 hS => ?_)
  · obtain ⟨e1, hB⟩ := hB
    obtain ⟨w_x, ew⟩ : ∃ z, z = u.2 := ⟨_, rfl⟩
    have hP : PA D ca ad w_x H := by rw [ew, ← ht]; exact hB
    rw [← ew] at hw
    rcases hw with hw | hw
    · obtain ⟨e9, hw⟩ := hw
      obtain rfl : E = "java/lang/IndexOutOfBoundsException" := e1.trans e9
      refine vx_catch (own := RL) (name := "java/lang/IndexOutOfBoundsException") (E := "java/lang/IndexOutOfBoundsException") hown [] ⟨0, 9, 12, 19⟩ [⟨0, 9, 15, 43⟩] (by rw [hTab]; rfl) (fun z hz => nomatch hz) (by decide) (by decide) (hts (.classLink RL 19 "java/lang/IndexOutOfBoundsException") (by decide +kernel)) (va_Nw.use rfl (hXP.2.2.1 (.castable "java/lang/IndexOutOfBoundsException" "java/lang/IndexOutOfBoundsException") (List.mem_of_getElem? (i := 1) rfl))) hce hcv hcl ?_
      refine lv_astore_n (lv' := [(3, .ref q9), (0, .ref (ad 0)), (1, .int a1), (2, .ref (ad 59))]) hx hb dL_endOf_12 rfl hl (by decide) rfl (fun ls hl => ?_)
      refine lv_iconst (v := 1) hx hb dL_endOf_13 (by decide) ?_
      exact W.iret (v := 1) hx hb hr (fun t ht hW => ⟨⟨1, w_x, rfl, hw, by show PA D ca ad w_x t.heap; rw [ht]; exact hP⟩, hS.F ht⟩) hS.2.2 dL_endOf_14
    · obtain ⟨e9, hw⟩ := hw
      obtain rfl : E = "java/util/NoSuchElementException" := e1.trans e9
      refine vx_catch (own := RL) (name := "java/util/NoSuchElementException") (E := "java/util/NoSuchElementException") hown [⟨0, 9, 12, 19⟩] ⟨0, 9, 15, 43⟩ [] (by rw [hTab]; rfl) (by intro z hz; rcases List.mem_cons.mp hz with rfl | hz; exact Or.inr ⟨by decide, "java/lang/IndexOutOfBoundsException", hts (.classLink RL 19 "java/lang/IndexOutOfBoundsException") (by decide +kernel), hXP.2.2.2.2 ("java/util/NoSuchElementException", "java/lang/IndexOutOfBoundsException") (List.mem_of_getElem? (i := 16) rfl)⟩; cases hz) (by decide) (by decide) (hts (.classLink RL 43 "java/util/NoSuchElementException") (by decide +kernel)) (va_Nw.use rfl (hXP.2.2.1 (.castable "java/util/NoSuchElementException" "java/util/NoSuchElementException") (List.mem_of_getElem? (i := 3) rfl))) hce hcv hcl ?_
      refine lv_astore_n (lv' := [(3, .ref q9), (0, .ref (ad 0)), (1, .int a1), (2, .ref (ad 59))]) hx hb dL_endOf_15 rfl hl (by decide) rfl (fun ls hl => ?_)
      refine lv_iconst (v := 2) hx hb dL_endOf_16 (by decide) ?_
      exact W.iret (v := 2) hx hb hr (fun t ht hW => ⟨⟨2, w_x, rfl, hw, by show PA D ca ad w_x t.heap; rw [ht]; exact hP⟩, hS.F ht⟩) hS.2.2 dL_endOf_17
  have hP : PA D ca ad w_1 H := by rw [← ht]; exact hP
  refine lv_i2l (v := (r_2).toInt64) hx hb dL_endOf_7 rfl ?_
  obtain ⟨h_3, hw⟩ := hw
  refine va_last hx hb hK hP (DA hAd) hS 59 3 (wg59 ca ad w_1) rfl h_3 dL_endOf_8 (fun H locs hP hD hS => ?_)
  obtain ⟨w_4, e_5⟩ : ∃ z : St, z = (uO w_1 (vp_updL w_1.2.2.1 (0 : Int32).toNatClampNeg ((r_2).toInt64))) := ⟨_, rfl⟩
  have hP : PA D ca ad w_4 H := by rw [e_5]; exact wu59 hP
  have hw := hw w_4 e_5
  refine lv_goto (tgt := 18) hx hb dL_endOf_9 (by decide) ?_
  refine lv_iconst (v := 0) hx hb dL_endOf_18 (by decide) ?_
  exact W.iret (v := 0) hx hb hr (fun t ht hW => ⟨⟨0, w_4, rfl, hw, by show PA D ca ad w_4 t.heap; rw [ht]; exact hP⟩, hS.F ht⟩) hS.2.2 dL_endOf_19
set_option maxHeartbeats 4000000 in
set_option maxRecDepth 100000 in
def wpL_thief (a1 : Int32) (w : St) (post : Int32 → St → Prop) : Prop := wpX4_thief a1 w (fun r_2 w_1 => (vp_in 0 1) ∧ (∀ w_4 : St, w_4 = (uO w_1 (vp_updL w_1.2.2.1 (0 : Int32).toNatClampNeg ((r_2).toInt64))) → post 0 w_4)) (fun E w_x => (E = "java/lang/IndexOutOfBoundsException" ∧ (post 1 w_x)) ∨ (E = "java/util/NoSuchElementException" ∧ (post 2 w_x)))
set_option maxHeartbeats 4000000 in
set_option maxRecDepth 100000 in
theorem mL_thief (l : Launch) (D : va_G) (ca : Nat → ClassId) (ad : Nat → Nat) (base : Nat) (hAd : okA base ad) (w : St) (a1 : Int32) (post : Int32 → St → Prop) (hw : wpL_thief a1 w post) (hl9 : l.stackTraces = false) : Met l yL_thief wsL_thief ({ frames := 8, cells := 2, slots := 12, locals := 132 } : Room) (va_Pc [.ref (ad 0), .int a1, .ref (ad 59)] (BX D ca ad base w)) (va_Qi post (Bp D ca ad) (AB base)) 2 12 (AB base) := by
  refine va_MetW (cc := cL_thief) (maxL := 4) (ret := (some .int)) (by decide) rfl ?_
  intro p e s m args below meth c s₁ B hml hv
  obtain ⟨rfl, ⟨hbs, hP, hK⟩, hXP⟩ := hv
  have hx := B.exec
  have hb := B.bytes
  have hr := B.returns
  have hts := atoms_spec (ws := wsL_thief) B.pre
  have hown : s.vm.findClass RL = some m.cls := findClass_of_methodNamed B.named
  have hlocks := B.notSynchronized
  have hTab : c.exceptionTable.toList = tableOf [(0, 9, 12, 19), (0, 9, 15, 43)] := vx_table (x := yL_thief) B (hts (.codeWith yL_thief cL_thief 4 (some .int) [(0, 9, 12, 19), (0, 9, 15, 43)]) (by decide +kernel))
  have hS : va_S (AB base) s.heap s.heap [] := va_S.rf
  have hl := lv_entry ([.ref (ad 0), .int a1, .ref (ad 59)]) (n := 4) (Nat.le_of_ble_eq_true rfl)
  rw [lg_entry_eq]
  generalize (lg_sl ([.ref (ad 0), .int a1, .ref (ad 59)]) ++ List.replicate (4 - (lg_sl ([.ref (ad 0), .int a1, .ref (ad 59)])).length) Slot.unset).toArray = ls at hl ⊢
  have hl : lv_has ls 4 [(0, .ref (ad 0)), (1, .int a1), (2, .ref (ad 59))] := hl
  refine lv_aload_n hx hb dL_thief_0 rfl (lv_at hl 2 rfl) ?_
  refine lv_iconst (v := 0) hx hb dL_thief_1 (by decide) ?_
  refine lv_aload_n hx hb dL_thief_2 rfl (lv_at hl 0 rfl) ?_
  refine lv_iload_n hx hb dL_thief_3 rfl (lv_at hl 1 rfl) ?_
  refine vx_calli (vx_runV (As := [.int a1]) (rest := [.int 0, .ref (ad 59)]) ⟨hx, hb, hml, hown, hts⟩ (mX4_thief l D ca ad base hAd w a1 _ _ hw hl9) (cwV 1 hts gL_thief_X4_thief rfl rfl rfl (by decide +kernel) ⟨Nat.le_of_ble_eq_true rfl, Nat.le_of_ble_eq_true rfl⟩) (pvx [.int a1] hK hXP hP hbs hS rfl (wg0 ca ad w)) rfl rfl hl.1 rfl (lv_room (Nat.le_of_ble_eq_true rfl)) dL_thief_4 ⟨Nat.le_of_ble_eq_true rfl, Nat.le_of_ble_eq_true rfl⟩) hS (fun q _ h => h) (fun q h => h) (fun q _ h => h) (fun E ce q9 u t H locs ht hvm hw hB hz1 hk1 hS hce hcv hcl => ?_) (fun r_2 w_1 t H locs ht hvm hw hP hz1 hk1 hS => ?_)
  · obtain ⟨e1, hB⟩ := hB
    obtain ⟨w_x, ew⟩ : ∃ z, z = u.2 := ⟨_, rfl⟩
    have hP : PA D ca ad w_x H := by rw [ew, ← ht]; exact hB
    rw [← ew] at hw
    rcases hw with hw | hw
    · obtain ⟨e9, hw⟩ := hw
      obtain rfl : E = "java/lang/IndexOutOfBoundsException" := e1.trans e9
      refine vx_catch (own := RL) (name := "java/lang/IndexOutOfBoundsException") (E := "java/lang/IndexOutOfBoundsException") hown [] ⟨0, 9, 12, 19⟩ [⟨0, 9, 15, 43⟩] (by rw [hTab]; rfl) (fun z hz => nomatch hz) (by decide) (by decide) (hts (.classLink RL 19 "java/lang/IndexOutOfBoundsException") (by decide +kernel)) (va_Nw.use rfl (hXP.2.2.1 (.castable "java/lang/IndexOutOfBoundsException" "java/lang/IndexOutOfBoundsException") (List.mem_of_getElem? (i := 1) rfl))) hce hcv hcl ?_
      refine lv_astore_n (lv' := [(3, .ref q9), (0, .ref (ad 0)), (1, .int a1), (2, .ref (ad 59))]) hx hb dL_thief_12 rfl hl (by decide) rfl (fun ls hl => ?_)
      refine lv_iconst (v := 1) hx hb dL_thief_13 (by decide) ?_
      exact W.iret (v := 1) hx hb hr (fun t ht hW => ⟨⟨1, w_x, rfl, hw, by show PA D ca ad w_x t.heap; rw [ht]; exact hP⟩, hS.F ht⟩) hS.2.2 dL_thief_14
    · obtain ⟨e9, hw⟩ := hw
      obtain rfl : E = "java/util/NoSuchElementException" := e1.trans e9
      refine vx_catch (own := RL) (name := "java/util/NoSuchElementException") (E := "java/util/NoSuchElementException") hown [⟨0, 9, 12, 19⟩] ⟨0, 9, 15, 43⟩ [] (by rw [hTab]; rfl) (by intro z hz; rcases List.mem_cons.mp hz with rfl | hz; exact Or.inr ⟨by decide, "java/lang/IndexOutOfBoundsException", hts (.classLink RL 19 "java/lang/IndexOutOfBoundsException") (by decide +kernel), hXP.2.2.2.2 ("java/util/NoSuchElementException", "java/lang/IndexOutOfBoundsException") (List.mem_of_getElem? (i := 16) rfl)⟩; cases hz) (by decide) (by decide) (hts (.classLink RL 43 "java/util/NoSuchElementException") (by decide +kernel)) (va_Nw.use rfl (hXP.2.2.1 (.castable "java/util/NoSuchElementException" "java/util/NoSuchElementException") (List.mem_of_getElem? (i := 3) rfl))) hce hcv hcl ?_
      refine lv_astore_n (lv' := [(3, .ref q9), (0, .ref (ad 0)), (1, .int a1), (2, .ref (ad 59))]) hx hb dL_thief_15 rfl hl (by decide) rfl (fun ls hl => ?_)
      refine lv_iconst (v := 2) hx hb dL_thief_16 (by decide) ?_
      exact W.iret (v := 2) hx hb hr (fun t ht hW => ⟨⟨2, w_x, rfl, hw, by show PA D ca ad w_x t.heap; rw [ht]; exact hP⟩, hS.F ht⟩) hS.2.2 dL_thief_17
  have hP : PA D ca ad w_1 H := by rw [← ht]; exact hP
  refine lv_i2l (v := (r_2).toInt64) hx hb dL_thief_7 rfl ?_
  obtain ⟨h_3, hw⟩ := hw
  refine va_last hx hb hK hP (DA hAd) hS 59 3 (wg59 ca ad w_1) rfl h_3 dL_thief_8 (fun H locs hP hD hS => ?_)
  obtain ⟨w_4, e_5⟩ : ∃ z : St, z = (uO w_1 (vp_updL w_1.2.2.1 (0 : Int32).toNatClampNeg ((r_2).toInt64))) := ⟨_, rfl⟩
  have hP : PA D ca ad w_4 H := by rw [e_5]; exact wu59 hP
  have hw := hw w_4 e_5
  refine lv_goto (tgt := 18) hx hb dL_thief_9 (by decide) ?_
  refine lv_iconst (v := 0) hx hb dL_thief_18 (by decide) ?_
  exact W.iret (v := 0) hx hb hr (fun t ht hW => ⟨⟨0, w_4, rfl, hw, by show PA D ca ad w_4 t.heap; rw [ht]; exact hP⟩, hS.F ht⟩) hS.2.2 dL_thief_19
set_option maxHeartbeats 4000000 in
set_option maxRecDepth 100000 in
def wpL_waiting (a1 : Int32) (w : St) (post : Int32 → St → Prop) : Prop := wpX4_waiting a1 w (fun r_2 w_1 => (vp_in 0 1) ∧ (∀ w_4 : St, w_4 = (uO w_1 (vp_updL w_1.2.2.1 (0 : Int32).toNatClampNeg ((r_2).toInt64))) → post 0 w_4)) (fun E w_x => (E = "java/lang/IndexOutOfBoundsException" ∧ (post 1 w_x)))
set_option maxHeartbeats 4000000 in
set_option maxRecDepth 100000 in
theorem mL_waiting (l : Launch) (D : va_G) (ca : Nat → ClassId) (ad : Nat → Nat) (base : Nat) (hAd : okA base ad) (w : St) (a1 : Int32) (post : Int32 → St → Prop) (hw : wpL_waiting a1 w post) (hl9 : l.stackTraces = false) : Met l yL_waiting wsL_waiting ({ frames := 8, cells := 1, slots := 6, locals := 132 } : Room) (va_Pc [.ref (ad 0), .int a1, .ref (ad 59)] (BX D ca ad base w)) (va_Qi post (Bp D ca ad) (AB base)) 1 6 (AB base) := by
  refine va_MetW (cc := cL_waiting) (maxL := 4) (ret := (some .int)) (by decide) rfl ?_
  intro p e s m args below meth c s₁ B hml hv
  obtain ⟨rfl, ⟨hbs, hP, hK⟩, hXP⟩ := hv
  have hx := B.exec
  have hb := B.bytes
  have hr := B.returns
  have hts := atoms_spec (ws := wsL_waiting) B.pre
  have hown : s.vm.findClass RL = some m.cls := findClass_of_methodNamed B.named
  have hlocks := B.notSynchronized
  have hTab : c.exceptionTable.toList = tableOf [(0, 9, 12, 19)] := vx_table (x := yL_waiting) B (hts (.codeWith yL_waiting cL_waiting 4 (some .int) [(0, 9, 12, 19)]) (by decide +kernel))
  have hS : va_S (AB base) s.heap s.heap [] := va_S.rf
  have hl := lv_entry ([.ref (ad 0), .int a1, .ref (ad 59)]) (n := 4) (Nat.le_of_ble_eq_true rfl)
  rw [lg_entry_eq]
  generalize (lg_sl ([.ref (ad 0), .int a1, .ref (ad 59)]) ++ List.replicate (4 - (lg_sl ([.ref (ad 0), .int a1, .ref (ad 59)])).length) Slot.unset).toArray = ls at hl ⊢
  have hl : lv_has ls 4 [(0, .ref (ad 0)), (1, .int a1), (2, .ref (ad 59))] := hl
  refine lv_aload_n hx hb dL_waiting_0 rfl (lv_at hl 2 rfl) ?_
  refine lv_iconst (v := 0) hx hb dL_waiting_1 (by decide) ?_
  refine lv_aload_n hx hb dL_waiting_2 rfl (lv_at hl 0 rfl) ?_
  refine lv_iload_n hx hb dL_waiting_3 rfl (lv_at hl 1 rfl) ?_
  refine vx_calli (vx_runV (As := [.int a1]) (rest := [.int 0, .ref (ad 59)]) ⟨hx, hb, hml, hown, hts⟩ (mX4_waiting l D ca ad base hAd w a1 _ _ hw hl9) (cwV 1 hts gL_waiting_X4_waiting rfl rfl rfl (by decide +kernel) ⟨Nat.le_of_ble_eq_true rfl, Nat.le_of_ble_eq_true rfl⟩) (pvx [.int a1] hK hXP hP hbs hS rfl (wg0 ca ad w)) rfl rfl hl.1 rfl (lv_room (Nat.le_of_ble_eq_true rfl)) dL_waiting_4 ⟨Nat.le_of_ble_eq_true rfl, Nat.le_of_ble_eq_true rfl⟩) hS (fun q _ h => h) (fun q h => h) (fun q _ h => h) (fun E ce q9 u t H locs ht hvm hw hB hz1 hk1 hS hce hcv hcl => ?_) (fun r_2 w_1 t H locs ht hvm hw hP hz1 hk1 hS => ?_)
  · obtain ⟨e1, hB⟩ := hB
    obtain ⟨w_x, ew⟩ : ∃ z, z = u.2 := ⟨_, rfl⟩
    have hP : PA D ca ad w_x H := by rw [ew, ← ht]; exact hB
    rw [← ew] at hw
    obtain ⟨e9, hw⟩ := hw
    obtain rfl : E = "java/lang/IndexOutOfBoundsException" := e1.trans e9
    refine vx_catch (own := RL) (name := "java/lang/IndexOutOfBoundsException") (E := "java/lang/IndexOutOfBoundsException") hown [] ⟨0, 9, 12, 19⟩ [] (by rw [hTab]; rfl) (fun z hz => nomatch hz) (by decide) (by decide) (hts (.classLink RL 19 "java/lang/IndexOutOfBoundsException") (by decide +kernel)) (va_Nw.use rfl (hXP.2.2.1 (.castable "java/lang/IndexOutOfBoundsException" "java/lang/IndexOutOfBoundsException") (List.mem_of_getElem? (i := 1) rfl))) hce hcv hcl ?_
    refine lv_astore_n (lv' := [(3, .ref q9), (0, .ref (ad 0)), (1, .int a1), (2, .ref (ad 59))]) hx hb dL_waiting_12 rfl hl (by decide) rfl (fun ls hl => ?_)
    refine lv_iconst (v := 1) hx hb dL_waiting_13 (by decide) ?_
    exact W.iret (v := 1) hx hb hr (fun t ht hW => ⟨⟨1, w_x, rfl, hw, by show PA D ca ad w_x t.heap; rw [ht]; exact hP⟩, hS.F ht⟩) hS.2.2 dL_waiting_14
  have hP : PA D ca ad w_1 H := by rw [← ht]; exact hP
  refine lv_i2l (v := (r_2).toInt64) hx hb dL_waiting_7 rfl ?_
  obtain ⟨h_3, hw⟩ := hw
  refine va_last hx hb hK hP (DA hAd) hS 59 3 (wg59 ca ad w_1) rfl h_3 dL_waiting_8 (fun H locs hP hD hS => ?_)
  obtain ⟨w_4, e_5⟩ : ∃ z : St, z = (uO w_1 (vp_updL w_1.2.2.1 (0 : Int32).toNatClampNeg ((r_2).toInt64))) := ⟨_, rfl⟩
  have hP : PA D ca ad w_4 H := by rw [e_5]; exact wu59 hP
  have hw := hw w_4 e_5
  refine lv_goto (tgt := 15) hx hb dL_waiting_9 (by decide) ?_
  refine lv_iconst (v := 0) hx hb dL_waiting_15 (by decide) ?_
  exact W.iret (v := 0) hx hb hr (fun t ht hW => ⟨⟨0, w_4, rfl, hw, by show PA D ca ad w_4 t.heap; rw [ht]; exact hP⟩, hS.F ht⟩) hS.2.2 dL_waiting_16
set_option maxHeartbeats 4000000 in
set_option maxRecDepth 100000 in
def wpL_waitingAt (a1 : Int32) (a2 : Int32) (w : St) (post : Int32 → St → Prop) : Prop := wpX4_waitingAt a1 a2 w (fun r_2 w_1 => (vp_in 0 1) ∧ (∀ w_4 : St, w_4 = (uO w_1 (vp_updL w_1.2.2.1 (0 : Int32).toNatClampNeg ((r_2).toInt64))) → post 0 w_4)) (fun E w_x => (E = "java/lang/IndexOutOfBoundsException" ∧ (post 1 w_x)) ∨ (E = "java/util/NoSuchElementException" ∧ (post 2 w_x)))
set_option maxHeartbeats 4000000 in
set_option maxRecDepth 100000 in
theorem mL_waitingAt (l : Launch) (D : va_G) (ca : Nat → ClassId) (ad : Nat → Nat) (base : Nat) (hAd : okA base ad) (w : St) (a1 : Int32) (a2 : Int32) (post : Int32 → St → Prop) (hw : wpL_waitingAt a1 a2 w post) (hl9 : l.stackTraces = false) : Met l yL_waitingAt wsL_waitingAt ({ frames := 8, cells := 2, slots := 12, locals := 133 } : Room) (va_Pc [.ref (ad 0), .int a1, .int a2, .ref (ad 59)] (BX D ca ad base w)) (va_Qi post (Bp D ca ad) (AB base)) 2 12 (AB base) := by
  refine va_MetW (cc := cL_waitingAt) (maxL := 5) (ret := (some .int)) (by decide) rfl ?_
  intro p e s m args below meth c s₁ B hml hv
  obtain ⟨rfl, ⟨hbs, hP, hK⟩, hXP⟩ := hv
  have hx := B.exec
  have hb := B.bytes
  have hr := B.returns
  have hts := atoms_spec (ws := wsL_waitingAt) B.pre
  have hown : s.vm.findClass RL = some m.cls := findClass_of_methodNamed B.named
  have hlocks := B.notSynchronized
  have hTab : c.exceptionTable.toList = tableOf [(0, 10, 13, 19), (0, 10, 17, 43)] := vx_table (x := yL_waitingAt) B (hts (.codeWith yL_waitingAt cL_waitingAt 5 (some .int) [(0, 10, 13, 19), (0, 10, 17, 43)]) (by decide +kernel))
  have hS : va_S (AB base) s.heap s.heap [] := va_S.rf
  have hl := lv_entry ([.ref (ad 0), .int a1, .int a2, .ref (ad 59)]) (n := 5) (Nat.le_of_ble_eq_true rfl)
  rw [lg_entry_eq]
  generalize (lg_sl ([.ref (ad 0), .int a1, .int a2, .ref (ad 59)]) ++ List.replicate (5 - (lg_sl ([.ref (ad 0), .int a1, .int a2, .ref (ad 59)])).length) Slot.unset).toArray = ls at hl ⊢
  have hl : lv_has ls 5 [(0, .ref (ad 0)), (1, .int a1), (2, .int a2), (3, .ref (ad 59))] := hl
  refine lv_aload_n hx hb dL_waitingAt_0 rfl (lv_at hl 3 rfl) ?_
  refine lv_iconst (v := 0) hx hb dL_waitingAt_1 (by decide) ?_
  refine lv_aload_n hx hb dL_waitingAt_2 rfl (lv_at hl 0 rfl) ?_
  refine lv_iload_n hx hb dL_waitingAt_3 rfl (lv_at hl 1 rfl) ?_
  refine lv_iload_n hx hb dL_waitingAt_4 rfl (lv_at hl 2 rfl) ?_
  refine vx_calli (vx_runV (As := [.int a1, .int a2]) (rest := [.int 0, .ref (ad 59)]) ⟨hx, hb, hml, hown, hts⟩ (mX4_waitingAt l D ca ad base hAd w a1 a2 _ _ hw hl9) (cwV 2 hts gL_waitingAt_X4_waitingAt rfl rfl rfl (by decide +kernel) ⟨Nat.le_of_ble_eq_true rfl, Nat.le_of_ble_eq_true rfl⟩) (pvx [.int a1, .int a2] hK hXP hP hbs hS rfl (wg0 ca ad w)) rfl rfl hl.1 rfl (lv_room (Nat.le_of_ble_eq_true rfl)) dL_waitingAt_5 ⟨Nat.le_of_ble_eq_true rfl, Nat.le_of_ble_eq_true rfl⟩) hS (fun q _ h => h) (fun q h => h) (fun q _ h => h) (fun E ce q9 u t H locs ht hvm hw hB hz1 hk1 hS hce hcv hcl => ?_) (fun r_2 w_1 t H locs ht hvm hw hP hz1 hk1 hS => ?_)
  · obtain ⟨e1, hB⟩ := hB
    obtain ⟨w_x, ew⟩ : ∃ z, z = u.2 := ⟨_, rfl⟩
    have hP : PA D ca ad w_x H := by rw [ew, ← ht]; exact hB
    rw [← ew] at hw
    rcases hw with hw | hw
    · obtain ⟨e9, hw⟩ := hw
      obtain rfl : E = "java/lang/IndexOutOfBoundsException" := e1.trans e9
      refine vx_catch (own := RL) (name := "java/lang/IndexOutOfBoundsException") (E := "java/lang/IndexOutOfBoundsException") hown [] ⟨0, 10, 13, 19⟩ [⟨0, 10, 17, 43⟩] (by rw [hTab]; rfl) (fun z hz => nomatch hz) (by decide) (by decide) (hts (.classLink RL 19 "java/lang/IndexOutOfBoundsException") (by decide +kernel)) (va_Nw.use rfl (hXP.2.2.1 (.castable "java/lang/IndexOutOfBoundsException" "java/lang/IndexOutOfBoundsException") (List.mem_of_getElem? (i := 1) rfl))) hce hcv hcl ?_
      refine lv_astore (lv' := [(4, .ref q9), (0, .ref (ad 0)), (1, .int a1), (2, .int a2), (3, .ref (ad 59))]) hx hb dL_waitingAt_13 hl (by decide) rfl (fun ls hl => ?_)
      refine lv_iconst (v := 1) hx hb dL_waitingAt_15 (by decide) ?_
      exact W.iret (v := 1) hx hb hr (fun t ht hW => ⟨⟨1, w_x, rfl, hw, by show PA D ca ad w_x t.heap; rw [ht]; exact hP⟩, hS.F ht⟩) hS.2.2 dL_waitingAt_16
    · obtain ⟨e9, hw⟩ := hw
      obtain rfl : E = "java/util/NoSuchElementException" := e1.trans e9
      refine vx_catch (own := RL) (name := "java/util/NoSuchElementException") (E := "java/util/NoSuchElementException") hown [⟨0, 10, 13, 19⟩] ⟨0, 10, 17, 43⟩ [] (by rw [hTab]; rfl) (by intro z hz; rcases List.mem_cons.mp hz with rfl | hz; exact Or.inr ⟨by decide, "java/lang/IndexOutOfBoundsException", hts (.classLink RL 19 "java/lang/IndexOutOfBoundsException") (by decide +kernel), hXP.2.2.2.2 ("java/util/NoSuchElementException", "java/lang/IndexOutOfBoundsException") (List.mem_of_getElem? (i := 16) rfl)⟩; cases hz) (by decide) (by decide) (hts (.classLink RL 43 "java/util/NoSuchElementException") (by decide +kernel)) (va_Nw.use rfl (hXP.2.2.1 (.castable "java/util/NoSuchElementException" "java/util/NoSuchElementException") (List.mem_of_getElem? (i := 3) rfl))) hce hcv hcl ?_
      refine lv_astore (lv' := [(4, .ref q9), (0, .ref (ad 0)), (1, .int a1), (2, .int a2), (3, .ref (ad 59))]) hx hb dL_waitingAt_17 hl (by decide) rfl (fun ls hl => ?_)
      refine lv_iconst (v := 2) hx hb dL_waitingAt_19 (by decide) ?_
      exact W.iret (v := 2) hx hb hr (fun t ht hW => ⟨⟨2, w_x, rfl, hw, by show PA D ca ad w_x t.heap; rw [ht]; exact hP⟩, hS.F ht⟩) hS.2.2 dL_waitingAt_20
  have hP : PA D ca ad w_1 H := by rw [← ht]; exact hP
  refine lv_i2l (v := (r_2).toInt64) hx hb dL_waitingAt_8 rfl ?_
  obtain ⟨h_3, hw⟩ := hw
  refine va_last hx hb hK hP (DA hAd) hS 59 3 (wg59 ca ad w_1) rfl h_3 dL_waitingAt_9 (fun H locs hP hD hS => ?_)
  obtain ⟨w_4, e_5⟩ : ∃ z : St, z = (uO w_1 (vp_updL w_1.2.2.1 (0 : Int32).toNatClampNeg ((r_2).toInt64))) := ⟨_, rfl⟩
  have hP : PA D ca ad w_4 H := by rw [e_5]; exact wu59 hP
  have hw := hw w_4 e_5
  refine lv_goto (tgt := 21) hx hb dL_waitingAt_10 (by decide) ?_
  refine lv_iconst (v := 0) hx hb dL_waitingAt_21 (by decide) ?_
  exact W.iret (v := 0) hx hb hr (fun t ht hW => ⟨⟨0, w_4, rfl, hw, by show PA D ca ad w_4 t.heap; rw [ht]; exact hP⟩, hS.F ht⟩) hS.2.2 dL_waitingAt_22
set_option maxHeartbeats 4000000 in
set_option maxRecDepth 100000 in
def wpL_claims_B16 (a1 : Int32) (a2 : Int32) (post : Int32 → St → Prop) (s0 : Int64) (s1 : Int32) (w : St) : Prop := (vp_in s1 1) ∧ (∀ w_2 : St, w_2 = (uO w (vp_updL w.2.2.1 (s1).toNatClampNeg s0)) → post 0 w_2)
set_option maxHeartbeats 4000000 in
set_option maxRecDepth 100000 in
def wpL_claims (a1 : Int32) (a2 : Int32) (w : St) (post : Int32 → St → Prop) : Prop := wpX4_claims a1 a2 w (fun r_5 w_4 => (r_5 = 0 → (wpL_claims_B16 a1 a2 post 0 0 w_4)) ∧ (¬ (r_5 = 0) → (wpL_claims_B16 a1 a2 post 1 0 w_4))) (fun E w_x => (E = "java/util/NoSuchElementException" ∧ (post 1 w_x)) ∨ (E = "java/lang/IndexOutOfBoundsException" ∧ (post 2 w_x)))
set_option maxHeartbeats 4000000 in
set_option maxRecDepth 100000 in
theorem mL_claims (l : Launch) (D : va_G) (ca : Nat → ClassId) (ad : Nat → Nat) (base : Nat) (hAd : okA base ad) (w : St) (a1 : Int32) (a2 : Int32) (post : Int32 → St → Prop) (hw : wpL_claims a1 a2 w post) (hl9 : l.stackTraces = false) : Met l yL_claims wsL_claims ({ frames := 8, cells := 2, slots := 12, locals := 133 } : Room) (va_Pc [.ref (ad 0), .int a1, .int a2, .ref (ad 59)] (BX D ca ad base w)) (va_Qi post (Bp D ca ad) (AB base)) 2 12 (AB base) := by
  refine va_MetW (cc := cL_claims) (maxL := 5) (ret := (some .int)) (by decide) rfl ?_
  intro p e s m args below meth c s₁ B hml hv
  obtain ⟨rfl, ⟨hbs, hP, hK⟩, hXP⟩ := hv
  have hx := B.exec
  have hb := B.bytes
  have hr := B.returns
  have hts := atoms_spec (ws := wsL_claims) B.pre
  have hown : s.vm.findClass RL = some m.cls := findClass_of_methodNamed B.named
  have hlocks := B.notSynchronized
  have hTab : c.exceptionTable.toList = tableOf [(0, 17, 20, 43), (0, 17, 24, 19)] := vx_table (x := yL_claims) B (hts (.codeWith yL_claims cL_claims 5 (some .int) [(0, 17, 20, 43), (0, 17, 24, 19)]) (by decide +kernel))
  have hS : va_S (AB base) s.heap s.heap [] := va_S.rf
  have hB16 : ∀ (s0 : Int64) (s1 : Int32) (w : St), wpL_claims_B16 a1 a2 post s0 s1 w → ∀ (H : Heap) (locs : List Loc), PA D ca ad w H → va_S (AB base) s.heap H locs → ∀ ls : Array Slot, lv_has ls 5 [] → W p l e (headSpec wsL_claims ({ frames := 8, cells := 2, slots := 12, locals := 133 } : Room)).room s m ([Value.ref (ad 0), Value.int a1, Value.int a2, Value.ref (ad 59)].toArray) below meth c H locs 2 12 (MQ below (va_Qi post (Bp D ca ad) (AB base)) ([Value.ref (ad 0), Value.int a1, Value.int a2, Value.ref (ad 59)].toArray) s 2 12 (AB base)) (F0 m 16 ls [.long s0, .int s1, .ref (ad 59)]) := by
    intro s0 s1 w hw H locs hP hS ls hl
    obtain ⟨h_1, hw⟩ := hw
    refine va_last hx hb hK hP (DA hAd) hS 59 3 (wg59 ca ad w) rfl h_1 dL_claims_16 (fun H locs hP hD hS => ?_)
    obtain ⟨w_2, e_3⟩ : ∃ z : St, z = (uO w (vp_updL w.2.2.1 (s1).toNatClampNeg s0)) := ⟨_, rfl⟩
    have hP : PA D ca ad w_2 H := by rw [e_3]; exact wu59 hP
    have hw := hw w_2 e_3
    refine lv_goto (tgt := 28) hx hb dL_claims_17 (by decide) ?_
    refine lv_iconst (v := 0) hx hb dL_claims_28 (by decide) ?_
    exact W.iret (v := 0) hx hb hr (fun t ht hW => ⟨⟨0, w_2, rfl, hw, by show PA D ca ad w_2 t.heap; rw [ht]; exact hP⟩, hS.F ht⟩) hS.2.2 dL_claims_29
  have hl := lv_entry ([.ref (ad 0), .int a1, .int a2, .ref (ad 59)]) (n := 5) (Nat.le_of_ble_eq_true rfl)
  rw [lg_entry_eq]
  generalize (lg_sl ([.ref (ad 0), .int a1, .int a2, .ref (ad 59)]) ++ List.replicate (5 - (lg_sl ([.ref (ad 0), .int a1, .int a2, .ref (ad 59)])).length) Slot.unset).toArray = ls at hl ⊢
  have hl : lv_has ls 5 [(0, .ref (ad 0)), (1, .int a1), (2, .int a2), (3, .ref (ad 59))] := hl
  refine lv_aload_n hx hb dL_claims_0 rfl (lv_at hl 3 rfl) ?_
  refine lv_iconst (v := 0) hx hb dL_claims_1 (by decide) ?_
  refine lv_aload_n hx hb dL_claims_2 rfl (lv_at hl 0 rfl) ?_
  refine lv_iload_n hx hb dL_claims_3 rfl (lv_at hl 1 rfl) ?_
  refine lv_iload_n hx hb dL_claims_4 rfl (lv_at hl 2 rfl) ?_
  refine vx_calli (vx_runV (As := [.int a1, .int a2]) (rest := [.int 0, .ref (ad 59)]) ⟨hx, hb, hml, hown, hts⟩ (mX4_claims l D ca ad base hAd w a1 a2 _ _ hw hl9) (cwV 2 hts gL_claims_X4_claims rfl rfl rfl (by decide +kernel) ⟨Nat.le_of_ble_eq_true rfl, Nat.le_of_ble_eq_true rfl⟩) (pvx [.int a1, .int a2] hK hXP hP hbs hS rfl (wg0 ca ad w)) rfl rfl hl.1 rfl (lv_room (Nat.le_of_ble_eq_true rfl)) dL_claims_5 ⟨Nat.le_of_ble_eq_true rfl, Nat.le_of_ble_eq_true rfl⟩) hS (fun q _ h => h) (fun q h => h) (fun q _ h => h) (fun E ce q9 u t H locs ht hvm hw hB hz1 hk1 hS hce hcv hcl => ?_) (fun r_5 w_4 t H locs ht hvm hw hP hz1 hk1 hS => ?_)
  · obtain ⟨e1, hB⟩ := hB
    obtain ⟨w_x, ew⟩ : ∃ z, z = u.2 := ⟨_, rfl⟩
    have hP : PA D ca ad w_x H := by rw [ew, ← ht]; exact hB
    rw [← ew] at hw
    rcases hw with hw | hw
    · obtain ⟨e9, hw⟩ := hw
      obtain rfl : E = "java/util/NoSuchElementException" := e1.trans e9
      refine vx_catch (own := RL) (name := "java/util/NoSuchElementException") (E := "java/util/NoSuchElementException") hown [] ⟨0, 17, 20, 43⟩ [⟨0, 17, 24, 19⟩] (by rw [hTab]; rfl) (fun z hz => nomatch hz) (by decide) (by decide) (hts (.classLink RL 43 "java/util/NoSuchElementException") (by decide +kernel)) (va_Nw.use rfl (hXP.2.2.1 (.castable "java/util/NoSuchElementException" "java/util/NoSuchElementException") (List.mem_of_getElem? (i := 3) rfl))) hce hcv hcl ?_
      refine lv_astore (lv' := [(4, .ref q9), (0, .ref (ad 0)), (1, .int a1), (2, .int a2), (3, .ref (ad 59))]) hx hb dL_claims_20 hl (by decide) rfl (fun ls hl => ?_)
      refine lv_iconst (v := 1) hx hb dL_claims_22 (by decide) ?_
      exact W.iret (v := 1) hx hb hr (fun t ht hW => ⟨⟨1, w_x, rfl, hw, by show PA D ca ad w_x t.heap; rw [ht]; exact hP⟩, hS.F ht⟩) hS.2.2 dL_claims_23
    · obtain ⟨e9, hw⟩ := hw
      obtain rfl : E = "java/lang/IndexOutOfBoundsException" := e1.trans e9
      refine vx_catch (own := RL) (name := "java/lang/IndexOutOfBoundsException") (E := "java/lang/IndexOutOfBoundsException") hown [⟨0, 17, 20, 43⟩] ⟨0, 17, 24, 19⟩ [] (by rw [hTab]; rfl) (by intro z hz; rcases List.mem_cons.mp hz with rfl | hz; exact Or.inr ⟨by decide, "java/util/NoSuchElementException", hts (.classLink RL 43 "java/util/NoSuchElementException") (by decide +kernel), hXP.2.2.2.2 ("java/lang/IndexOutOfBoundsException", "java/util/NoSuchElementException") (List.mem_of_getElem? (i := 7) rfl)⟩; cases hz) (by decide) (by decide) (hts (.classLink RL 19 "java/lang/IndexOutOfBoundsException") (by decide +kernel)) (va_Nw.use rfl (hXP.2.2.1 (.castable "java/lang/IndexOutOfBoundsException" "java/lang/IndexOutOfBoundsException") (List.mem_of_getElem? (i := 1) rfl))) hce hcv hcl ?_
      refine lv_astore (lv' := [(4, .ref q9), (0, .ref (ad 0)), (1, .int a1), (2, .int a2), (3, .ref (ad 59))]) hx hb dL_claims_24 hl (by decide) rfl (fun ls hl => ?_)
      refine lv_iconst (v := 2) hx hb dL_claims_26 (by decide) ?_
      exact W.iret (v := 2) hx hb hr (fun t ht hW => ⟨⟨2, w_x, rfl, hw, by show PA D ca ad w_x t.heap; rw [ht]; exact hP⟩, hS.F ht⟩) hS.2.2 dL_claims_27
  have hP : PA D ca ad w_4 H := by rw [← ht]; exact hP
  refine lv_if_eq (tgt := 15) hx hb dL_claims_8 (by decide) (fun c_6 => ?_) (fun c_6 => ?_)
  · have hw := hw.1 c_6
    refine lv_lconst (v := 0) hx hb dL_claims_15 (by decide) ?_
    exact hB16 0 0 w_4 hw _ _ hP hS ls (lv_sub hl [] rfl)
  · have hw := hw.2 c_6
    refine lv_lconst (v := 1) hx hb dL_claims_11 (by decide) ?_
    refine lv_goto (tgt := 16) hx hb dL_claims_12 (by decide) ?_
    exact hB16 1 0 w_4 hw _ _ hP hS ls (lv_sub hl [] rfl)
set_option maxHeartbeats 4000000 in
set_option maxRecDepth 100000 in
def wpL_claimants (a1 : Int32) (w : St) (post : Int32 → St → Prop) : Prop := wpX4_claimants a1 w (fun r_2 w_1 => (vp_in 0 1) ∧ (∀ w_4 : St, w_4 = (uO w_1 (vp_updL w_1.2.2.1 (0 : Int32).toNatClampNeg ((r_2).toInt64))) → post 0 w_4)) (fun E w_x => (E = "java/lang/IndexOutOfBoundsException" ∧ (post 1 w_x)))
set_option maxHeartbeats 4000000 in
set_option maxRecDepth 100000 in
theorem mL_claimants (l : Launch) (D : va_G) (ca : Nat → ClassId) (ad : Nat → Nat) (base : Nat) (hAd : okA base ad) (w : St) (a1 : Int32) (post : Int32 → St → Prop) (hw : wpL_claimants a1 w post) (hl9 : l.stackTraces = false) : Met l yL_claimants wsL_claimants ({ frames := 8, cells := 1, slots := 6, locals := 132 } : Room) (va_Pc [.ref (ad 0), .int a1, .ref (ad 59)] (BX D ca ad base w)) (va_Qi post (Bp D ca ad) (AB base)) 1 6 (AB base) := by
  refine va_MetW (cc := cL_claimants) (maxL := 4) (ret := (some .int)) (by decide) rfl ?_
  intro p e s m args below meth c s₁ B hml hv
  obtain ⟨rfl, ⟨hbs, hP, hK⟩, hXP⟩ := hv
  have hx := B.exec
  have hb := B.bytes
  have hr := B.returns
  have hts := atoms_spec (ws := wsL_claimants) B.pre
  have hown : s.vm.findClass RL = some m.cls := findClass_of_methodNamed B.named
  have hlocks := B.notSynchronized
  have hTab : c.exceptionTable.toList = tableOf [(0, 9, 12, 19)] := vx_table (x := yL_claimants) B (hts (.codeWith yL_claimants cL_claimants 4 (some .int) [(0, 9, 12, 19)]) (by decide +kernel))
  have hS : va_S (AB base) s.heap s.heap [] := va_S.rf
  have hl := lv_entry ([.ref (ad 0), .int a1, .ref (ad 59)]) (n := 4) (Nat.le_of_ble_eq_true rfl)
  rw [lg_entry_eq]
  generalize (lg_sl ([.ref (ad 0), .int a1, .ref (ad 59)]) ++ List.replicate (4 - (lg_sl ([.ref (ad 0), .int a1, .ref (ad 59)])).length) Slot.unset).toArray = ls at hl ⊢
  have hl : lv_has ls 4 [(0, .ref (ad 0)), (1, .int a1), (2, .ref (ad 59))] := hl
  refine lv_aload_n hx hb dL_claimants_0 rfl (lv_at hl 2 rfl) ?_
  refine lv_iconst (v := 0) hx hb dL_claimants_1 (by decide) ?_
  refine lv_aload_n hx hb dL_claimants_2 rfl (lv_at hl 0 rfl) ?_
  refine lv_iload_n hx hb dL_claimants_3 rfl (lv_at hl 1 rfl) ?_
  refine vx_calli (vx_runV (As := [.int a1]) (rest := [.int 0, .ref (ad 59)]) ⟨hx, hb, hml, hown, hts⟩ (mX4_claimants l D ca ad base hAd w a1 _ _ hw hl9) (cwV 1 hts gL_claimants_X4_claimants rfl rfl rfl (by decide +kernel) ⟨Nat.le_of_ble_eq_true rfl, Nat.le_of_ble_eq_true rfl⟩) (pvx [.int a1] hK hXP hP hbs hS rfl (wg0 ca ad w)) rfl rfl hl.1 rfl (lv_room (Nat.le_of_ble_eq_true rfl)) dL_claimants_4 ⟨Nat.le_of_ble_eq_true rfl, Nat.le_of_ble_eq_true rfl⟩) hS (fun q _ h => h) (fun q h => h) (fun q _ h => h) (fun E ce q9 u t H locs ht hvm hw hB hz1 hk1 hS hce hcv hcl => ?_) (fun r_2 w_1 t H locs ht hvm hw hP hz1 hk1 hS => ?_)
  · obtain ⟨e1, hB⟩ := hB
    obtain ⟨w_x, ew⟩ : ∃ z, z = u.2 := ⟨_, rfl⟩
    have hP : PA D ca ad w_x H := by rw [ew, ← ht]; exact hB
    rw [← ew] at hw
    obtain ⟨e9, hw⟩ := hw
    obtain rfl : E = "java/lang/IndexOutOfBoundsException" := e1.trans e9
    refine vx_catch (own := RL) (name := "java/lang/IndexOutOfBoundsException") (E := "java/lang/IndexOutOfBoundsException") hown [] ⟨0, 9, 12, 19⟩ [] (by rw [hTab]; rfl) (fun z hz => nomatch hz) (by decide) (by decide) (hts (.classLink RL 19 "java/lang/IndexOutOfBoundsException") (by decide +kernel)) (va_Nw.use rfl (hXP.2.2.1 (.castable "java/lang/IndexOutOfBoundsException" "java/lang/IndexOutOfBoundsException") (List.mem_of_getElem? (i := 1) rfl))) hce hcv hcl ?_
    refine lv_astore_n (lv' := [(3, .ref q9), (0, .ref (ad 0)), (1, .int a1), (2, .ref (ad 59))]) hx hb dL_claimants_12 rfl hl (by decide) rfl (fun ls hl => ?_)
    refine lv_iconst (v := 1) hx hb dL_claimants_13 (by decide) ?_
    exact W.iret (v := 1) hx hb hr (fun t ht hW => ⟨⟨1, w_x, rfl, hw, by show PA D ca ad w_x t.heap; rw [ht]; exact hP⟩, hS.F ht⟩) hS.2.2 dL_claimants_14
  have hP : PA D ca ad w_1 H := by rw [← ht]; exact hP
  refine lv_i2l (v := (r_2).toInt64) hx hb dL_claimants_7 rfl ?_
  obtain ⟨h_3, hw⟩ := hw
  refine va_last hx hb hK hP (DA hAd) hS 59 3 (wg59 ca ad w_1) rfl h_3 dL_claimants_8 (fun H locs hP hD hS => ?_)
  obtain ⟨w_4, e_5⟩ : ∃ z : St, z = (uO w_1 (vp_updL w_1.2.2.1 (0 : Int32).toNatClampNeg ((r_2).toInt64))) := ⟨_, rfl⟩
  have hP : PA D ca ad w_4 H := by rw [e_5]; exact wu59 hP
  have hw := hw w_4 e_5
  refine lv_goto (tgt := 15) hx hb dL_claimants_9 (by decide) ?_
  refine lv_iconst (v := 0) hx hb dL_claimants_15 (by decide) ?_
  exact W.iret (v := 0) hx hb hr (fun t ht hW => ⟨⟨0, w_4, rfl, hw, by show PA D ca ad w_4 t.heap; rw [ht]; exact hP⟩, hS.F ht⟩) hS.2.2 dL_claimants_16
set_option maxHeartbeats 4000000 in
set_option maxRecDepth 100000 in
def wpL_value (a1 : Int32) (w : St) (post : Int32 → St → Prop) : Prop := wpX4_value a1 w (fun r_2 w_1 => (vp_in 0 1) ∧ (∀ w_4 : St, w_4 = (uO w_1 (vp_updL w_1.2.2.1 (0 : Int32).toNatClampNeg ((r_2).toInt64))) → post 0 w_4)) (fun E w_x => (E = "java/lang/IndexOutOfBoundsException" ∧ (post 1 w_x)))
set_option maxHeartbeats 4000000 in
set_option maxRecDepth 100000 in
theorem mL_value (l : Launch) (D : va_G) (ca : Nat → ClassId) (ad : Nat → Nat) (base : Nat) (hAd : okA base ad) (w : St) (a1 : Int32) (post : Int32 → St → Prop) (hw : wpL_value a1 w post) (hl9 : l.stackTraces = false) : Met l yL_value wsL_value ({ frames := 8, cells := 1, slots := 6, locals := 132 } : Room) (va_Pc [.ref (ad 0), .int a1, .ref (ad 59)] (BX D ca ad base w)) (va_Qi post (Bp D ca ad) (AB base)) 1 6 (AB base) := by
  refine va_MetW (cc := cL_value) (maxL := 4) (ret := (some .int)) (by decide) rfl ?_
  intro p e s m args below meth c s₁ B hml hv
  obtain ⟨rfl, ⟨hbs, hP, hK⟩, hXP⟩ := hv
  have hx := B.exec
  have hb := B.bytes
  have hr := B.returns
  have hts := atoms_spec (ws := wsL_value) B.pre
  have hown : s.vm.findClass RL = some m.cls := findClass_of_methodNamed B.named
  have hlocks := B.notSynchronized
  have hTab : c.exceptionTable.toList = tableOf [(0, 9, 12, 19)] := vx_table (x := yL_value) B (hts (.codeWith yL_value cL_value 4 (some .int) [(0, 9, 12, 19)]) (by decide +kernel))
  have hS : va_S (AB base) s.heap s.heap [] := va_S.rf
  have hl := lv_entry ([.ref (ad 0), .int a1, .ref (ad 59)]) (n := 4) (Nat.le_of_ble_eq_true rfl)
  rw [lg_entry_eq]
  generalize (lg_sl ([.ref (ad 0), .int a1, .ref (ad 59)]) ++ List.replicate (4 - (lg_sl ([.ref (ad 0), .int a1, .ref (ad 59)])).length) Slot.unset).toArray = ls at hl ⊢
  have hl : lv_has ls 4 [(0, .ref (ad 0)), (1, .int a1), (2, .ref (ad 59))] := hl
  refine lv_aload_n hx hb dL_value_0 rfl (lv_at hl 2 rfl) ?_
  refine lv_iconst (v := 0) hx hb dL_value_1 (by decide) ?_
  refine lv_aload_n hx hb dL_value_2 rfl (lv_at hl 0 rfl) ?_
  refine lv_iload_n hx hb dL_value_3 rfl (lv_at hl 1 rfl) ?_
  refine vx_calli (vx_runV (As := [.int a1]) (rest := [.int 0, .ref (ad 59)]) ⟨hx, hb, hml, hown, hts⟩ (mX4_value l D ca ad base hAd w a1 _ _ hw hl9) (cwV 1 hts gL_value_X4_value rfl rfl rfl (by decide +kernel) ⟨Nat.le_of_ble_eq_true rfl, Nat.le_of_ble_eq_true rfl⟩) (pvx [.int a1] hK hXP hP hbs hS rfl (wg0 ca ad w)) rfl rfl hl.1 rfl (lv_room (Nat.le_of_ble_eq_true rfl)) dL_value_4 ⟨Nat.le_of_ble_eq_true rfl, Nat.le_of_ble_eq_true rfl⟩) hS (fun q _ h => h) (fun q h => h) (fun q _ h => h) (fun E ce q9 u t H locs ht hvm hw hB hz1 hk1 hS hce hcv hcl => ?_) (fun r_2 w_1 t H locs ht hvm hw hP hz1 hk1 hS => ?_)
  · obtain ⟨e1, hB⟩ := hB
    obtain ⟨w_x, ew⟩ : ∃ z, z = u.2 := ⟨_, rfl⟩
    have hP : PA D ca ad w_x H := by rw [ew, ← ht]; exact hB
    rw [← ew] at hw
    obtain ⟨e9, hw⟩ := hw
    obtain rfl : E = "java/lang/IndexOutOfBoundsException" := e1.trans e9
    refine vx_catch (own := RL) (name := "java/lang/IndexOutOfBoundsException") (E := "java/lang/IndexOutOfBoundsException") hown [] ⟨0, 9, 12, 19⟩ [] (by rw [hTab]; rfl) (fun z hz => nomatch hz) (by decide) (by decide) (hts (.classLink RL 19 "java/lang/IndexOutOfBoundsException") (by decide +kernel)) (va_Nw.use rfl (hXP.2.2.1 (.castable "java/lang/IndexOutOfBoundsException" "java/lang/IndexOutOfBoundsException") (List.mem_of_getElem? (i := 1) rfl))) hce hcv hcl ?_
    refine lv_astore_n (lv' := [(3, .ref q9), (0, .ref (ad 0)), (1, .int a1), (2, .ref (ad 59))]) hx hb dL_value_12 rfl hl (by decide) rfl (fun ls hl => ?_)
    refine lv_iconst (v := 1) hx hb dL_value_13 (by decide) ?_
    exact W.iret (v := 1) hx hb hr (fun t ht hW => ⟨⟨1, w_x, rfl, hw, by show PA D ca ad w_x t.heap; rw [ht]; exact hP⟩, hS.F ht⟩) hS.2.2 dL_value_14
  have hP : PA D ca ad w_1 H := by rw [← ht]; exact hP
  refine lv_i2l (v := (r_2).toInt64) hx hb dL_value_7 rfl ?_
  obtain ⟨h_3, hw⟩ := hw
  refine va_last hx hb hK hP (DA hAd) hS 59 3 (wg59 ca ad w_1) rfl h_3 dL_value_8 (fun H locs hP hD hS => ?_)
  obtain ⟨w_4, e_5⟩ : ∃ z : St, z = (uO w_1 (vp_updL w_1.2.2.1 (0 : Int32).toNatClampNeg ((r_2).toInt64))) := ⟨_, rfl⟩
  have hP : PA D ca ad w_4 H := by rw [e_5]; exact wu59 hP
  have hw := hw w_4 e_5
  refine lv_goto (tgt := 15) hx hb dL_value_9 (by decide) ?_
  refine lv_iconst (v := 0) hx hb dL_value_15 (by decide) ?_
  exact W.iret (v := 0) hx hb hr (fun t ht hW => ⟨⟨0, w_4, rfl, hw, by show PA D ca ad w_4 t.heap; rw [ht]; exact hP⟩, hS.F ht⟩) hS.2.2 dL_value_16
set_option maxHeartbeats 4000000 in
set_option maxRecDepth 100000 in
def wpL_valueByLog (a1 : Int32) (w : St) (post : Int32 → St → Prop) : Prop := wpX4_valueByLog a1 w (fun r_2 w_1 => (vp_in 0 1) ∧ (∀ w_4 : St, w_4 = (uO w_1 (vp_updL w_1.2.2.1 (0 : Int32).toNatClampNeg ((r_2).toInt64))) → post 0 w_4)) (fun E w_x => (E = "java/lang/IndexOutOfBoundsException" ∧ (post 1 w_x)))
set_option maxHeartbeats 4000000 in
set_option maxRecDepth 100000 in
theorem mL_valueByLog (l : Launch) (D : va_G) (ca : Nat → ClassId) (ad : Nat → Nat) (base : Nat) (hAd : okA base ad) (w : St) (a1 : Int32) (post : Int32 → St → Prop) (hw : wpL_valueByLog a1 w post) (hl9 : l.stackTraces = false) : Met l yL_valueByLog wsL_valueByLog ({ frames := 8, cells := 1, slots := 6, locals := 132 } : Room) (va_Pc [.ref (ad 0), .int a1, .ref (ad 59)] (BX D ca ad base w)) (va_Qi post (Bp D ca ad) (AB base)) 1 6 (AB base) := by
  refine va_MetW (cc := cL_valueByLog) (maxL := 4) (ret := (some .int)) (by decide) rfl ?_
  intro p e s m args below meth c s₁ B hml hv
  obtain ⟨rfl, ⟨hbs, hP, hK⟩, hXP⟩ := hv
  have hx := B.exec
  have hb := B.bytes
  have hr := B.returns
  have hts := atoms_spec (ws := wsL_valueByLog) B.pre
  have hown : s.vm.findClass RL = some m.cls := findClass_of_methodNamed B.named
  have hlocks := B.notSynchronized
  have hTab : c.exceptionTable.toList = tableOf [(0, 9, 12, 19)] := vx_table (x := yL_valueByLog) B (hts (.codeWith yL_valueByLog cL_valueByLog 4 (some .int) [(0, 9, 12, 19)]) (by decide +kernel))
  have hS : va_S (AB base) s.heap s.heap [] := va_S.rf
  have hl := lv_entry ([.ref (ad 0), .int a1, .ref (ad 59)]) (n := 4) (Nat.le_of_ble_eq_true rfl)
  rw [lg_entry_eq]
  generalize (lg_sl ([.ref (ad 0), .int a1, .ref (ad 59)]) ++ List.replicate (4 - (lg_sl ([.ref (ad 0), .int a1, .ref (ad 59)])).length) Slot.unset).toArray = ls at hl ⊢
  have hl : lv_has ls 4 [(0, .ref (ad 0)), (1, .int a1), (2, .ref (ad 59))] := hl
  refine lv_aload_n hx hb dL_valueByLog_0 rfl (lv_at hl 2 rfl) ?_
  refine lv_iconst (v := 0) hx hb dL_valueByLog_1 (by decide) ?_
  refine lv_aload_n hx hb dL_valueByLog_2 rfl (lv_at hl 0 rfl) ?_
  refine lv_iload_n hx hb dL_valueByLog_3 rfl (lv_at hl 1 rfl) ?_
  refine vx_calli (vx_runV (As := [.int a1]) (rest := [.int 0, .ref (ad 59)]) ⟨hx, hb, hml, hown, hts⟩ (mX4_valueByLog l D ca ad base hAd w a1 _ _ hw hl9) (cwV 1 hts gL_valueByLog_X4_valueByLog rfl rfl rfl (by decide +kernel) ⟨Nat.le_of_ble_eq_true rfl, Nat.le_of_ble_eq_true rfl⟩) (pvx [.int a1] hK hXP hP hbs hS rfl (wg0 ca ad w)) rfl rfl hl.1 rfl (lv_room (Nat.le_of_ble_eq_true rfl)) dL_valueByLog_4 ⟨Nat.le_of_ble_eq_true rfl, Nat.le_of_ble_eq_true rfl⟩) hS (fun q _ h => h) (fun q h => h) (fun q _ h => h) (fun E ce q9 u t H locs ht hvm hw hB hz1 hk1 hS hce hcv hcl => ?_) (fun r_2 w_1 t H locs ht hvm hw hP hz1 hk1 hS => ?_)
  · obtain ⟨e1, hB⟩ := hB
    obtain ⟨w_x, ew⟩ : ∃ z, z = u.2 := ⟨_, rfl⟩
    have hP : PA D ca ad w_x H := by rw [ew, ← ht]; exact hB
    rw [← ew] at hw
    obtain ⟨e9, hw⟩ := hw
    obtain rfl : E = "java/lang/IndexOutOfBoundsException" := e1.trans e9
    refine vx_catch (own := RL) (name := "java/lang/IndexOutOfBoundsException") (E := "java/lang/IndexOutOfBoundsException") hown [] ⟨0, 9, 12, 19⟩ [] (by rw [hTab]; rfl) (fun z hz => nomatch hz) (by decide) (by decide) (hts (.classLink RL 19 "java/lang/IndexOutOfBoundsException") (by decide +kernel)) (va_Nw.use rfl (hXP.2.2.1 (.castable "java/lang/IndexOutOfBoundsException" "java/lang/IndexOutOfBoundsException") (List.mem_of_getElem? (i := 1) rfl))) hce hcv hcl ?_
    refine lv_astore_n (lv' := [(3, .ref q9), (0, .ref (ad 0)), (1, .int a1), (2, .ref (ad 59))]) hx hb dL_valueByLog_12 rfl hl (by decide) rfl (fun ls hl => ?_)
    refine lv_iconst (v := 1) hx hb dL_valueByLog_13 (by decide) ?_
    exact W.iret (v := 1) hx hb hr (fun t ht hW => ⟨⟨1, w_x, rfl, hw, by show PA D ca ad w_x t.heap; rw [ht]; exact hP⟩, hS.F ht⟩) hS.2.2 dL_valueByLog_14
  have hP : PA D ca ad w_1 H := by rw [← ht]; exact hP
  refine lv_i2l (v := (r_2).toInt64) hx hb dL_valueByLog_7 rfl ?_
  obtain ⟨h_3, hw⟩ := hw
  refine va_last hx hb hK hP (DA hAd) hS 59 3 (wg59 ca ad w_1) rfl h_3 dL_valueByLog_8 (fun H locs hP hD hS => ?_)
  obtain ⟨w_4, e_5⟩ : ∃ z : St, z = (uO w_1 (vp_updL w_1.2.2.1 (0 : Int32).toNatClampNeg ((r_2).toInt64))) := ⟨_, rfl⟩
  have hP : PA D ca ad w_4 H := by rw [e_5]; exact wu59 hP
  have hw := hw w_4 e_5
  refine lv_goto (tgt := 15) hx hb dL_valueByLog_9 (by decide) ?_
  refine lv_iconst (v := 0) hx hb dL_valueByLog_15 (by decide) ?_
  exact W.iret (v := 0) hx hb hr (fun t ht hW => ⟨⟨0, w_4, rfl, hw, by show PA D ca ad w_4 t.heap; rw [ht]; exact hP⟩, hS.F ht⟩) hS.2.2 dL_valueByLog_16
set_option maxHeartbeats 4000000 in
set_option maxRecDepth 100000 in
def wpL_kept (a1 : Int32) (a2 : Int32) (w : St) (post : Int32 → St → Prop) : Prop := wpX4_kept a1 a2 w (fun r_2 w_1 => (vp_in 0 1) ∧ (∀ w_4 : St, w_4 = (uO w_1 (vp_updL w_1.2.2.1 (0 : Int32).toNatClampNeg ((r_2).toInt64))) → post 0 w_4)) (fun E w_x => (E = "java/util/NoSuchElementException" ∧ (post 1 w_x)) ∨ (E = "java/lang/IndexOutOfBoundsException" ∧ (post 2 w_x)) ∨ (E = "java/lang/IllegalStateException" ∧ (post 3 w_x)))
set_option maxHeartbeats 4000000 in
set_option maxRecDepth 100000 in
theorem mL_kept (l : Launch) (D : va_G) (ca : Nat → ClassId) (ad : Nat → Nat) (base : Nat) (hAd : okA base ad) (w : St) (a1 : Int32) (a2 : Int32) (post : Int32 → St → Prop) (hw : wpL_kept a1 a2 w post) (hl9 : l.stackTraces = false) : Met l yL_kept wsL_kept ({ frames := 8, cells := 3, slots := 18, locals := 133 } : Room) (va_Pc [.ref (ad 0), .int a1, .int a2, .ref (ad 59)] (BX D ca ad base w)) (va_Qi post (Bp D ca ad) (AB base)) 3 18 (AB base) := by
  refine va_MetW (cc := cL_kept) (maxL := 5) (ret := (some .int)) (by decide) rfl ?_
  intro p e s m args below meth c s₁ B hml hv
  obtain ⟨rfl, ⟨hbs, hP, hK⟩, hXP⟩ := hv
  have hx := B.exec
  have hb := B.bytes
  have hr := B.returns
  have hts := atoms_spec (ws := wsL_kept) B.pre
  have hown : s.vm.findClass RL = some m.cls := findClass_of_methodNamed B.named
  have hlocks := B.notSynchronized
  have hTab : c.exceptionTable.toList = tableOf [(0, 10, 13, 43), (0, 10, 17, 19), (0, 10, 21, 31)] := vx_table (x := yL_kept) B (hts (.codeWith yL_kept cL_kept 5 (some .int) [(0, 10, 13, 43), (0, 10, 17, 19), (0, 10, 21, 31)]) (by decide +kernel))
  have hS : va_S (AB base) s.heap s.heap [] := va_S.rf
  have hl := lv_entry ([.ref (ad 0), .int a1, .int a2, .ref (ad 59)]) (n := 5) (Nat.le_of_ble_eq_true rfl)
  rw [lg_entry_eq]
  generalize (lg_sl ([.ref (ad 0), .int a1, .int a2, .ref (ad 59)]) ++ List.replicate (5 - (lg_sl ([.ref (ad 0), .int a1, .int a2, .ref (ad 59)])).length) Slot.unset).toArray = ls at hl ⊢
  have hl : lv_has ls 5 [(0, .ref (ad 0)), (1, .int a1), (2, .int a2), (3, .ref (ad 59))] := hl
  refine lv_aload_n hx hb dL_kept_0 rfl (lv_at hl 3 rfl) ?_
  refine lv_iconst (v := 0) hx hb dL_kept_1 (by decide) ?_
  refine lv_aload_n hx hb dL_kept_2 rfl (lv_at hl 0 rfl) ?_
  refine lv_iload_n hx hb dL_kept_3 rfl (lv_at hl 1 rfl) ?_
  refine lv_iload_n hx hb dL_kept_4 rfl (lv_at hl 2 rfl) ?_
  refine vx_calli (vx_runV (As := [.int a1, .int a2]) (rest := [.int 0, .ref (ad 59)]) ⟨hx, hb, hml, hown, hts⟩ (mX4_kept l D ca ad base hAd w a1 a2 _ _ hw hl9) (cwV 2 hts gL_kept_X4_kept rfl rfl rfl (by decide +kernel) ⟨Nat.le_of_ble_eq_true rfl, Nat.le_of_ble_eq_true rfl⟩) (pvx [.int a1, .int a2] hK hXP hP hbs hS rfl (wg0 ca ad w)) rfl rfl hl.1 rfl (lv_room (Nat.le_of_ble_eq_true rfl)) dL_kept_5 ⟨Nat.le_of_ble_eq_true rfl, Nat.le_of_ble_eq_true rfl⟩) hS (fun q _ h => h) (fun q h => h) (fun q _ h => h) (fun E ce q9 u t H locs ht hvm hw hB hz1 hk1 hS hce hcv hcl => ?_) (fun r_2 w_1 t H locs ht hvm hw hP hz1 hk1 hS => ?_)
  · obtain ⟨e1, hB⟩ := hB
    obtain ⟨w_x, ew⟩ : ∃ z, z = u.2 := ⟨_, rfl⟩
    have hP : PA D ca ad w_x H := by rw [ew, ← ht]; exact hB
    rw [← ew] at hw
    rcases hw with hw | hw | hw
    · obtain ⟨e9, hw⟩ := hw
      obtain rfl : E = "java/util/NoSuchElementException" := e1.trans e9
      refine vx_catch (own := RL) (name := "java/util/NoSuchElementException") (E := "java/util/NoSuchElementException") hown [] ⟨0, 10, 13, 43⟩ [⟨0, 10, 17, 19⟩, ⟨0, 10, 21, 31⟩] (by rw [hTab]; rfl) (fun z hz => nomatch hz) (by decide) (by decide) (hts (.classLink RL 43 "java/util/NoSuchElementException") (by decide +kernel)) (va_Nw.use rfl (hXP.2.2.1 (.castable "java/util/NoSuchElementException" "java/util/NoSuchElementException") (List.mem_of_getElem? (i := 3) rfl))) hce hcv hcl ?_
      refine lv_astore (lv' := [(4, .ref q9), (0, .ref (ad 0)), (1, .int a1), (2, .int a2), (3, .ref (ad 59))]) hx hb dL_kept_13 hl (by decide) rfl (fun ls hl => ?_)
      refine lv_iconst (v := 1) hx hb dL_kept_15 (by decide) ?_
      exact W.iret (v := 1) hx hb hr (fun t ht hW => ⟨⟨1, w_x, rfl, hw, by show PA D ca ad w_x t.heap; rw [ht]; exact hP⟩, hS.F ht⟩) hS.2.2 dL_kept_16
    · obtain ⟨e9, hw⟩ := hw
      obtain rfl : E = "java/lang/IndexOutOfBoundsException" := e1.trans e9
      refine vx_catch (own := RL) (name := "java/lang/IndexOutOfBoundsException") (E := "java/lang/IndexOutOfBoundsException") hown [⟨0, 10, 13, 43⟩] ⟨0, 10, 17, 19⟩ [⟨0, 10, 21, 31⟩] (by rw [hTab]; rfl) (by intro z hz; rcases List.mem_cons.mp hz with rfl | hz; exact Or.inr ⟨by decide, "java/util/NoSuchElementException", hts (.classLink RL 43 "java/util/NoSuchElementException") (by decide +kernel), hXP.2.2.2.2 ("java/lang/IndexOutOfBoundsException", "java/util/NoSuchElementException") (List.mem_of_getElem? (i := 7) rfl)⟩; cases hz) (by decide) (by decide) (hts (.classLink RL 19 "java/lang/IndexOutOfBoundsException") (by decide +kernel)) (va_Nw.use rfl (hXP.2.2.1 (.castable "java/lang/IndexOutOfBoundsException" "java/lang/IndexOutOfBoundsException") (List.mem_of_getElem? (i := 1) rfl))) hce hcv hcl ?_
      refine lv_astore (lv' := [(4, .ref q9), (0, .ref (ad 0)), (1, .int a1), (2, .int a2), (3, .ref (ad 59))]) hx hb dL_kept_17 hl (by decide) rfl (fun ls hl => ?_)
      refine lv_iconst (v := 2) hx hb dL_kept_19 (by decide) ?_
      exact W.iret (v := 2) hx hb hr (fun t ht hW => ⟨⟨2, w_x, rfl, hw, by show PA D ca ad w_x t.heap; rw [ht]; exact hP⟩, hS.F ht⟩) hS.2.2 dL_kept_20
    · obtain ⟨e9, hw⟩ := hw
      obtain rfl : E = "java/lang/IllegalStateException" := e1.trans e9
      refine vx_catch (own := RL) (name := "java/lang/IllegalStateException") (E := "java/lang/IllegalStateException") hown [⟨0, 10, 13, 43⟩, ⟨0, 10, 17, 19⟩] ⟨0, 10, 21, 31⟩ [] (by rw [hTab]; rfl) (by intro z hz; rcases List.mem_cons.mp hz with rfl | hz; exact Or.inr ⟨by decide, "java/util/NoSuchElementException", hts (.classLink RL 43 "java/util/NoSuchElementException") (by decide +kernel), hXP.2.2.2.2 ("java/lang/IllegalStateException", "java/util/NoSuchElementException") (List.mem_of_getElem? (i := 12) rfl)⟩; rcases List.mem_cons.mp hz with rfl | hz; exact Or.inr ⟨by decide, "java/lang/IndexOutOfBoundsException", hts (.classLink RL 19 "java/lang/IndexOutOfBoundsException") (by decide +kernel), hXP.2.2.2.2 ("java/lang/IllegalStateException", "java/lang/IndexOutOfBoundsException") (List.mem_of_getElem? (i := 11) rfl)⟩; cases hz) (by decide) (by decide) (hts (.classLink RL 31 "java/lang/IllegalStateException") (by decide +kernel)) (va_Nw.use rfl (hXP.2.2.1 (.castable "java/lang/IllegalStateException" "java/lang/IllegalStateException") (List.mem_of_getElem? (i := 2) rfl))) hce hcv hcl ?_
      refine lv_astore (lv' := [(4, .ref q9), (0, .ref (ad 0)), (1, .int a1), (2, .int a2), (3, .ref (ad 59))]) hx hb dL_kept_21 hl (by decide) rfl (fun ls hl => ?_)
      refine lv_iconst (v := 3) hx hb dL_kept_23 (by decide) ?_
      exact W.iret (v := 3) hx hb hr (fun t ht hW => ⟨⟨3, w_x, rfl, hw, by show PA D ca ad w_x t.heap; rw [ht]; exact hP⟩, hS.F ht⟩) hS.2.2 dL_kept_24
  have hP : PA D ca ad w_1 H := by rw [← ht]; exact hP
  refine lv_i2l (v := (r_2).toInt64) hx hb dL_kept_8 rfl ?_
  obtain ⟨h_3, hw⟩ := hw
  refine va_last hx hb hK hP (DA hAd) hS 59 3 (wg59 ca ad w_1) rfl h_3 dL_kept_9 (fun H locs hP hD hS => ?_)
  obtain ⟨w_4, e_5⟩ : ∃ z : St, z = (uO w_1 (vp_updL w_1.2.2.1 (0 : Int32).toNatClampNeg ((r_2).toInt64))) := ⟨_, rfl⟩
  have hP : PA D ca ad w_4 H := by rw [e_5]; exact wu59 hP
  have hw := hw w_4 e_5
  refine lv_goto (tgt := 25) hx hb dL_kept_10 (by decide) ?_
  refine lv_iconst (v := 0) hx hb dL_kept_25 (by decide) ?_
  exact W.iret (v := 0) hx hb hr (fun t ht hW => ⟨⟨0, w_4, rfl, hw, by show PA D ca ad w_4 t.heap; rw [ht]; exact hP⟩, hS.F ht⟩) hS.2.2 dL_kept_26
set_option maxHeartbeats 4000000 in
set_option maxRecDepth 100000 in
def wpL_kindOf (a1 : Int32) (w : St) (post : Int32 → St → Prop) : Prop := wpX4_kindOf a1 w (fun r_2 w_1 => (vp_in 0 1) ∧ (∀ w_4 : St, w_4 = (uO w_1 (vp_updL w_1.2.2.1 (0 : Int32).toNatClampNeg ((r_2).toInt64))) → post 0 w_4)) (fun E w_x => (E = "java/util/NoSuchElementException" ∧ (post 1 w_x)))
set_option maxHeartbeats 4000000 in
set_option maxRecDepth 100000 in
theorem mL_kindOf (l : Launch) (D : va_G) (ca : Nat → ClassId) (ad : Nat → Nat) (base : Nat) (hAd : okA base ad) (w : St) (a1 : Int32) (post : Int32 → St → Prop) (hw : wpL_kindOf a1 w post) (hl9 : l.stackTraces = false) : Met l yL_kindOf wsL_kindOf ({ frames := 8, cells := 1, slots := 6, locals := 132 } : Room) (va_Pc [.ref (ad 0), .int a1, .ref (ad 59)] (BX D ca ad base w)) (va_Qi post (Bp D ca ad) (AB base)) 1 6 (AB base) := by
  refine va_MetW (cc := cL_kindOf) (maxL := 4) (ret := (some .int)) (by decide) rfl ?_
  intro p e s m args below meth c s₁ B hml hv
  obtain ⟨rfl, ⟨hbs, hP, hK⟩, hXP⟩ := hv
  have hx := B.exec
  have hb := B.bytes
  have hr := B.returns
  have hts := atoms_spec (ws := wsL_kindOf) B.pre
  have hown : s.vm.findClass RL = some m.cls := findClass_of_methodNamed B.named
  have hlocks := B.notSynchronized
  have hTab : c.exceptionTable.toList = tableOf [(0, 9, 12, 43)] := vx_table (x := yL_kindOf) B (hts (.codeWith yL_kindOf cL_kindOf 4 (some .int) [(0, 9, 12, 43)]) (by decide +kernel))
  have hS : va_S (AB base) s.heap s.heap [] := va_S.rf
  have hl := lv_entry ([.ref (ad 0), .int a1, .ref (ad 59)]) (n := 4) (Nat.le_of_ble_eq_true rfl)
  rw [lg_entry_eq]
  generalize (lg_sl ([.ref (ad 0), .int a1, .ref (ad 59)]) ++ List.replicate (4 - (lg_sl ([.ref (ad 0), .int a1, .ref (ad 59)])).length) Slot.unset).toArray = ls at hl ⊢
  have hl : lv_has ls 4 [(0, .ref (ad 0)), (1, .int a1), (2, .ref (ad 59))] := hl
  refine lv_aload_n hx hb dL_kindOf_0 rfl (lv_at hl 2 rfl) ?_
  refine lv_iconst (v := 0) hx hb dL_kindOf_1 (by decide) ?_
  refine lv_aload_n hx hb dL_kindOf_2 rfl (lv_at hl 0 rfl) ?_
  refine lv_iload_n hx hb dL_kindOf_3 rfl (lv_at hl 1 rfl) ?_
  refine vx_calli (vx_runV (As := [.int a1]) (rest := [.int 0, .ref (ad 59)]) ⟨hx, hb, hml, hown, hts⟩ (mX4_kindOf l D ca ad base hAd w a1 _ _ hw hl9) (cwV 1 hts gL_kindOf_X4_kindOf rfl rfl rfl (by decide +kernel) ⟨Nat.le_of_ble_eq_true rfl, Nat.le_of_ble_eq_true rfl⟩) (pvx [.int a1] hK hXP hP hbs hS rfl (wg0 ca ad w)) rfl rfl hl.1 rfl (lv_room (Nat.le_of_ble_eq_true rfl)) dL_kindOf_4 ⟨Nat.le_of_ble_eq_true rfl, Nat.le_of_ble_eq_true rfl⟩) hS (fun q _ h => h) (fun q h => h) (fun q _ h => h) (fun E ce q9 u t H locs ht hvm hw hB hz1 hk1 hS hce hcv hcl => ?_) (fun r_2 w_1 t H locs ht hvm hw hP hz1 hk1 hS => ?_)
  · obtain ⟨e1, hB⟩ := hB
    obtain ⟨w_x, ew⟩ : ∃ z, z = u.2 := ⟨_, rfl⟩
    have hP : PA D ca ad w_x H := by rw [ew, ← ht]; exact hB
    rw [← ew] at hw
    obtain ⟨e9, hw⟩ := hw
    obtain rfl : E = "java/util/NoSuchElementException" := e1.trans e9
    refine vx_catch (own := RL) (name := "java/util/NoSuchElementException") (E := "java/util/NoSuchElementException") hown [] ⟨0, 9, 12, 43⟩ [] (by rw [hTab]; rfl) (fun z hz => nomatch hz) (by decide) (by decide) (hts (.classLink RL 43 "java/util/NoSuchElementException") (by decide +kernel)) (va_Nw.use rfl (hXP.2.2.1 (.castable "java/util/NoSuchElementException" "java/util/NoSuchElementException") (List.mem_of_getElem? (i := 3) rfl))) hce hcv hcl ?_
    refine lv_astore_n (lv' := [(3, .ref q9), (0, .ref (ad 0)), (1, .int a1), (2, .ref (ad 59))]) hx hb dL_kindOf_12 rfl hl (by decide) rfl (fun ls hl => ?_)
    refine lv_iconst (v := 1) hx hb dL_kindOf_13 (by decide) ?_
    exact W.iret (v := 1) hx hb hr (fun t ht hW => ⟨⟨1, w_x, rfl, hw, by show PA D ca ad w_x t.heap; rw [ht]; exact hP⟩, hS.F ht⟩) hS.2.2 dL_kindOf_14
  have hP : PA D ca ad w_1 H := by rw [← ht]; exact hP
  refine lv_i2l (v := (r_2).toInt64) hx hb dL_kindOf_7 rfl ?_
  obtain ⟨h_3, hw⟩ := hw
  refine va_last hx hb hK hP (DA hAd) hS 59 3 (wg59 ca ad w_1) rfl h_3 dL_kindOf_8 (fun H locs hP hD hS => ?_)
  obtain ⟨w_4, e_5⟩ : ∃ z : St, z = (uO w_1 (vp_updL w_1.2.2.1 (0 : Int32).toNatClampNeg ((r_2).toInt64))) := ⟨_, rfl⟩
  have hP : PA D ca ad w_4 H := by rw [e_5]; exact wu59 hP
  have hw := hw w_4 e_5
  refine lv_goto (tgt := 15) hx hb dL_kindOf_9 (by decide) ?_
  refine lv_iconst (v := 0) hx hb dL_kindOf_15 (by decide) ?_
  exact W.iret (v := 0) hx hb hr (fun t ht hW => ⟨⟨0, w_4, rfl, hw, by show PA D ca ad w_4 t.heap; rw [ht]; exact hP⟩, hS.F ht⟩) hS.2.2 dL_kindOf_16
set_option maxHeartbeats 4000000 in
set_option maxRecDepth 100000 in
def wpL_termOfEntry (a1 : Int32) (w : St) (post : Int32 → St → Prop) : Prop := wpX4_termOfEntry a1 w (fun r_2 w_1 => (vp_in 0 1) ∧ (∀ w_4 : St, w_4 = (uO w_1 (vp_updL w_1.2.2.1 (0 : Int32).toNatClampNeg ((r_2).toInt64))) → post 0 w_4)) (fun E w_x => (E = "java/util/NoSuchElementException" ∧ (post 1 w_x)))
set_option maxHeartbeats 4000000 in
set_option maxRecDepth 100000 in
theorem mL_termOfEntry (l : Launch) (D : va_G) (ca : Nat → ClassId) (ad : Nat → Nat) (base : Nat) (hAd : okA base ad) (w : St) (a1 : Int32) (post : Int32 → St → Prop) (hw : wpL_termOfEntry a1 w post) (hl9 : l.stackTraces = false) : Met l yL_termOfEntry wsL_termOfEntry ({ frames := 8, cells := 1, slots := 6, locals := 132 } : Room) (va_Pc [.ref (ad 0), .int a1, .ref (ad 59)] (BX D ca ad base w)) (va_Qi post (Bp D ca ad) (AB base)) 1 6 (AB base) := by
  refine va_MetW (cc := cL_termOfEntry) (maxL := 4) (ret := (some .int)) (by decide) rfl ?_
  intro p e s m args below meth c s₁ B hml hv
  obtain ⟨rfl, ⟨hbs, hP, hK⟩, hXP⟩ := hv
  have hx := B.exec
  have hb := B.bytes
  have hr := B.returns
  have hts := atoms_spec (ws := wsL_termOfEntry) B.pre
  have hown : s.vm.findClass RL = some m.cls := findClass_of_methodNamed B.named
  have hlocks := B.notSynchronized
  have hTab : c.exceptionTable.toList = tableOf [(0, 9, 12, 43)] := vx_table (x := yL_termOfEntry) B (hts (.codeWith yL_termOfEntry cL_termOfEntry 4 (some .int) [(0, 9, 12, 43)]) (by decide +kernel))
  have hS : va_S (AB base) s.heap s.heap [] := va_S.rf
  have hl := lv_entry ([.ref (ad 0), .int a1, .ref (ad 59)]) (n := 4) (Nat.le_of_ble_eq_true rfl)
  rw [lg_entry_eq]
  generalize (lg_sl ([.ref (ad 0), .int a1, .ref (ad 59)]) ++ List.replicate (4 - (lg_sl ([.ref (ad 0), .int a1, .ref (ad 59)])).length) Slot.unset).toArray = ls at hl ⊢
  have hl : lv_has ls 4 [(0, .ref (ad 0)), (1, .int a1), (2, .ref (ad 59))] := hl
  refine lv_aload_n hx hb dL_termOfEntry_0 rfl (lv_at hl 2 rfl) ?_
  refine lv_iconst (v := 0) hx hb dL_termOfEntry_1 (by decide) ?_
  refine lv_aload_n hx hb dL_termOfEntry_2 rfl (lv_at hl 0 rfl) ?_
  refine lv_iload_n hx hb dL_termOfEntry_3 rfl (lv_at hl 1 rfl) ?_
  refine vx_calli (vx_runV (As := [.int a1]) (rest := [.int 0, .ref (ad 59)]) ⟨hx, hb, hml, hown, hts⟩ (mX4_termOfEntry l D ca ad base hAd w a1 _ _ hw hl9) (cwV 1 hts gL_termOfEntry_X4_termOfEntry rfl rfl rfl (by decide +kernel) ⟨Nat.le_of_ble_eq_true rfl, Nat.le_of_ble_eq_true rfl⟩) (pvx [.int a1] hK hXP hP hbs hS rfl (wg0 ca ad w)) rfl rfl hl.1 rfl (lv_room (Nat.le_of_ble_eq_true rfl)) dL_termOfEntry_4 ⟨Nat.le_of_ble_eq_true rfl, Nat.le_of_ble_eq_true rfl⟩) hS (fun q _ h => h) (fun q h => h) (fun q _ h => h) (fun E ce q9 u t H locs ht hvm hw hB hz1 hk1 hS hce hcv hcl => ?_) (fun r_2 w_1 t H locs ht hvm hw hP hz1 hk1 hS => ?_)
  · obtain ⟨e1, hB⟩ := hB
    obtain ⟨w_x, ew⟩ : ∃ z, z = u.2 := ⟨_, rfl⟩
    have hP : PA D ca ad w_x H := by rw [ew, ← ht]; exact hB
    rw [← ew] at hw
    obtain ⟨e9, hw⟩ := hw
    obtain rfl : E = "java/util/NoSuchElementException" := e1.trans e9
    refine vx_catch (own := RL) (name := "java/util/NoSuchElementException") (E := "java/util/NoSuchElementException") hown [] ⟨0, 9, 12, 43⟩ [] (by rw [hTab]; rfl) (fun z hz => nomatch hz) (by decide) (by decide) (hts (.classLink RL 43 "java/util/NoSuchElementException") (by decide +kernel)) (va_Nw.use rfl (hXP.2.2.1 (.castable "java/util/NoSuchElementException" "java/util/NoSuchElementException") (List.mem_of_getElem? (i := 3) rfl))) hce hcv hcl ?_
    refine lv_astore_n (lv' := [(3, .ref q9), (0, .ref (ad 0)), (1, .int a1), (2, .ref (ad 59))]) hx hb dL_termOfEntry_12 rfl hl (by decide) rfl (fun ls hl => ?_)
    refine lv_iconst (v := 1) hx hb dL_termOfEntry_13 (by decide) ?_
    exact W.iret (v := 1) hx hb hr (fun t ht hW => ⟨⟨1, w_x, rfl, hw, by show PA D ca ad w_x t.heap; rw [ht]; exact hP⟩, hS.F ht⟩) hS.2.2 dL_termOfEntry_14
  have hP : PA D ca ad w_1 H := by rw [← ht]; exact hP
  refine lv_i2l (v := (r_2).toInt64) hx hb dL_termOfEntry_7 rfl ?_
  obtain ⟨h_3, hw⟩ := hw
  refine va_last hx hb hK hP (DA hAd) hS 59 3 (wg59 ca ad w_1) rfl h_3 dL_termOfEntry_8 (fun H locs hP hD hS => ?_)
  obtain ⟨w_4, e_5⟩ : ∃ z : St, z = (uO w_1 (vp_updL w_1.2.2.1 (0 : Int32).toNatClampNeg ((r_2).toInt64))) := ⟨_, rfl⟩
  have hP : PA D ca ad w_4 H := by rw [e_5]; exact wu59 hP
  have hw := hw w_4 e_5
  refine lv_goto (tgt := 15) hx hb dL_termOfEntry_9 (by decide) ?_
  refine lv_iconst (v := 0) hx hb dL_termOfEntry_15 (by decide) ?_
  exact W.iret (v := 0) hx hb hr (fun t ht hW => ⟨⟨0, w_4, rfl, hw, by show PA D ca ad w_4 t.heap; rw [ht]; exact hP⟩, hS.F ht⟩) hS.2.2 dL_termOfEntry_16
set_option maxHeartbeats 4000000 in
set_option maxRecDepth 100000 in
def wpL_knownBy (a1 : Int32) (w : St) (post : Int32 → St → Prop) : Prop := wpX4_knownBy a1 w (fun r_2 w_1 => (vp_in 0 1) ∧ (∀ w_4 : St, w_4 = (uO w_1 (vp_updL w_1.2.2.1 (0 : Int32).toNatClampNeg ((r_2).toInt64))) → post 0 w_4)) (fun E w_x => (E = "java/util/NoSuchElementException" ∧ (post 1 w_x)))
set_option maxHeartbeats 4000000 in
set_option maxRecDepth 100000 in
theorem mL_knownBy (l : Launch) (D : va_G) (ca : Nat → ClassId) (ad : Nat → Nat) (base : Nat) (hAd : okA base ad) (w : St) (a1 : Int32) (post : Int32 → St → Prop) (hw : wpL_knownBy a1 w post) (hl9 : l.stackTraces = false) : Met l yL_knownBy wsL_knownBy ({ frames := 8, cells := 1, slots := 6, locals := 132 } : Room) (va_Pc [.ref (ad 0), .int a1, .ref (ad 59)] (BX D ca ad base w)) (va_Qi post (Bp D ca ad) (AB base)) 1 6 (AB base) := by
  refine va_MetW (cc := cL_knownBy) (maxL := 4) (ret := (some .int)) (by decide) rfl ?_
  intro p e s m args below meth c s₁ B hml hv
  obtain ⟨rfl, ⟨hbs, hP, hK⟩, hXP⟩ := hv
  have hx := B.exec
  have hb := B.bytes
  have hr := B.returns
  have hts := atoms_spec (ws := wsL_knownBy) B.pre
  have hown : s.vm.findClass RL = some m.cls := findClass_of_methodNamed B.named
  have hlocks := B.notSynchronized
  have hTab : c.exceptionTable.toList = tableOf [(0, 9, 12, 43)] := vx_table (x := yL_knownBy) B (hts (.codeWith yL_knownBy cL_knownBy 4 (some .int) [(0, 9, 12, 43)]) (by decide +kernel))
  have hS : va_S (AB base) s.heap s.heap [] := va_S.rf
  have hl := lv_entry ([.ref (ad 0), .int a1, .ref (ad 59)]) (n := 4) (Nat.le_of_ble_eq_true rfl)
  rw [lg_entry_eq]
  generalize (lg_sl ([.ref (ad 0), .int a1, .ref (ad 59)]) ++ List.replicate (4 - (lg_sl ([.ref (ad 0), .int a1, .ref (ad 59)])).length) Slot.unset).toArray = ls at hl ⊢
  have hl : lv_has ls 4 [(0, .ref (ad 0)), (1, .int a1), (2, .ref (ad 59))] := hl
  refine lv_aload_n hx hb dL_knownBy_0 rfl (lv_at hl 2 rfl) ?_
  refine lv_iconst (v := 0) hx hb dL_knownBy_1 (by decide) ?_
  refine lv_aload_n hx hb dL_knownBy_2 rfl (lv_at hl 0 rfl) ?_
  refine lv_iload_n hx hb dL_knownBy_3 rfl (lv_at hl 1 rfl) ?_
  refine vx_calli (vx_runV (As := [.int a1]) (rest := [.int 0, .ref (ad 59)]) ⟨hx, hb, hml, hown, hts⟩ (mX4_knownBy l D ca ad base hAd w a1 _ _ hw hl9) (cwV 1 hts gL_knownBy_X4_knownBy rfl rfl rfl (by decide +kernel) ⟨Nat.le_of_ble_eq_true rfl, Nat.le_of_ble_eq_true rfl⟩) (pvx [.int a1] hK hXP hP hbs hS rfl (wg0 ca ad w)) rfl rfl hl.1 rfl (lv_room (Nat.le_of_ble_eq_true rfl)) dL_knownBy_4 ⟨Nat.le_of_ble_eq_true rfl, Nat.le_of_ble_eq_true rfl⟩) hS (fun q _ h => h) (fun q h => h) (fun q _ h => h) (fun E ce q9 u t H locs ht hvm hw hB hz1 hk1 hS hce hcv hcl => ?_) (fun r_2 w_1 t H locs ht hvm hw hP hz1 hk1 hS => ?_)
  · obtain ⟨e1, hB⟩ := hB
    obtain ⟨w_x, ew⟩ : ∃ z, z = u.2 := ⟨_, rfl⟩
    have hP : PA D ca ad w_x H := by rw [ew, ← ht]; exact hB
    rw [← ew] at hw
    obtain ⟨e9, hw⟩ := hw
    obtain rfl : E = "java/util/NoSuchElementException" := e1.trans e9
    refine vx_catch (own := RL) (name := "java/util/NoSuchElementException") (E := "java/util/NoSuchElementException") hown [] ⟨0, 9, 12, 43⟩ [] (by rw [hTab]; rfl) (fun z hz => nomatch hz) (by decide) (by decide) (hts (.classLink RL 43 "java/util/NoSuchElementException") (by decide +kernel)) (va_Nw.use rfl (hXP.2.2.1 (.castable "java/util/NoSuchElementException" "java/util/NoSuchElementException") (List.mem_of_getElem? (i := 3) rfl))) hce hcv hcl ?_
    refine lv_astore_n (lv' := [(3, .ref q9), (0, .ref (ad 0)), (1, .int a1), (2, .ref (ad 59))]) hx hb dL_knownBy_12 rfl hl (by decide) rfl (fun ls hl => ?_)
    refine lv_iconst (v := 1) hx hb dL_knownBy_13 (by decide) ?_
    exact W.iret (v := 1) hx hb hr (fun t ht hW => ⟨⟨1, w_x, rfl, hw, by show PA D ca ad w_x t.heap; rw [ht]; exact hP⟩, hS.F ht⟩) hS.2.2 dL_knownBy_14
  have hP : PA D ca ad w_1 H := by rw [← ht]; exact hP
  refine lv_i2l (v := (r_2).toInt64) hx hb dL_knownBy_7 rfl ?_
  obtain ⟨h_3, hw⟩ := hw
  refine va_last hx hb hK hP (DA hAd) hS 59 3 (wg59 ca ad w_1) rfl h_3 dL_knownBy_8 (fun H locs hP hD hS => ?_)
  obtain ⟨w_4, e_5⟩ : ∃ z : St, z = (uO w_1 (vp_updL w_1.2.2.1 (0 : Int32).toNatClampNeg ((r_2).toInt64))) := ⟨_, rfl⟩
  have hP : PA D ca ad w_4 H := by rw [e_5]; exact wu59 hP
  have hw := hw w_4 e_5
  refine lv_goto (tgt := 15) hx hb dL_knownBy_9 (by decide) ?_
  refine lv_iconst (v := 0) hx hb dL_knownBy_15 (by decide) ?_
  exact W.iret (v := 0) hx hb hr (fun t ht hW => ⟨⟨0, w_4, rfl, hw, by show PA D ca ad w_4 t.heap; rw [ht]; exact hP⟩, hS.F ht⟩) hS.2.2 dL_knownBy_16
set_option maxHeartbeats 4000000 in
set_option maxRecDepth 100000 in
def wpL_meanKnown (w : St) (post : Int32 → St → Prop) : Prop := wpX4_meanKnown w (fun r_2 w_1 => (vp_in 0 1) ∧ (∀ w_4 : St, w_4 = (uD w_1 (vf_upd w_1.2.2.2 (0 : Int32).toNatClampNeg r_2)) → post 0 w_4)) (fun E w_x => (E = "java/lang/ArithmeticException" ∧ (post 1 w_x)))
set_option maxHeartbeats 4000000 in
set_option maxRecDepth 100000 in
theorem mL_meanKnown (l : Launch) (D : va_G) (ca : Nat → ClassId) (ad : Nat → Nat) (base : Nat) (hAd : okA base ad) (w : St) (post : Int32 → St → Prop) (hw : wpL_meanKnown w post) (hl9 : l.stackTraces = false) : Met l yL_meanKnown wsL_meanKnown ({ frames := 7, cells := 1, slots := 6, locals := 110 } : Room) (va_Pc [.ref (ad 0), .ref (ad 60)] (BX D ca ad base w)) (va_Qi post (Bp D ca ad) (AB base)) 1 6 (AB base) := by
  refine va_MetW (cc := cL_meanKnown) (maxL := 3) (ret := (some .int)) (by decide) rfl ?_
  intro p e s m args below meth c s₁ B hml hv
  obtain ⟨rfl, ⟨hbs, hP, hK⟩, hXP⟩ := hv
  have hx := B.exec
  have hb := B.bytes
  have hr := B.returns
  have hts := atoms_spec (ws := wsL_meanKnown) B.pre
  have hown : s.vm.findClass RL = some m.cls := findClass_of_methodNamed B.named
  have hlocks := B.notSynchronized
  have hTab : c.exceptionTable.toList = tableOf [(0, 7, 10, 138)] := vx_table (x := yL_meanKnown) B (hts (.codeWith yL_meanKnown cL_meanKnown 3 (some .int) [(0, 7, 10, 138)]) (by decide +kernel))
  have hS : va_S (AB base) s.heap s.heap [] := va_S.rf
  have hl := lv_entry ([.ref (ad 0), .ref (ad 60)]) (n := 3) (Nat.le_of_ble_eq_true rfl)
  rw [lg_entry_eq]
  generalize (lg_sl ([.ref (ad 0), .ref (ad 60)]) ++ List.replicate (3 - (lg_sl ([.ref (ad 0), .ref (ad 60)])).length) Slot.unset).toArray = ls at hl ⊢
  have hl : lv_has ls 3 [(0, .ref (ad 0)), (1, .ref (ad 60))] := hl
  refine lv_aload_n hx hb dL_meanKnown_0 rfl (lv_at hl 1 rfl) ?_
  refine lv_iconst (v := 0) hx hb dL_meanKnown_1 (by decide) ?_
  refine lv_aload_n hx hb dL_meanKnown_2 rfl (lv_at hl 0 rfl) ?_
  refine vx_calld (vx_runV (As := []) (rest := [.int 0, .ref (ad 60)]) ⟨hx, hb, hml, hown, hts⟩ (mX4_meanKnown l D ca ad base hAd w _ _ hw hl9) (cwV 0 hts gL_meanKnown_X4_meanKnown rfl rfl rfl (by decide +kernel) ⟨Nat.le_of_ble_eq_true rfl, Nat.le_of_ble_eq_true rfl⟩) (pvx [] hK hXP hP hbs hS rfl (wg0 ca ad w)) rfl rfl hl.1 rfl (lv_room (Nat.le_of_ble_eq_true rfl)) dL_meanKnown_3 ⟨Nat.le_of_ble_eq_true rfl, Nat.le_of_ble_eq_true rfl⟩) hS (fun q _ h => h) (fun q h => h) (fun q _ h => h) (fun E ce q9 u t H locs ht hvm hw hB hz1 hk1 hS hce hcv hcl => ?_) (fun r_2 w_1 t H locs ht hvm hw hP hz1 hk1 hS => ?_)
  · obtain ⟨e1, hB⟩ := hB
    obtain ⟨w_x, ew⟩ : ∃ z, z = u.2 := ⟨_, rfl⟩
    have hP : PA D ca ad w_x H := by rw [ew, ← ht]; exact hB
    rw [← ew] at hw
    obtain ⟨e9, hw⟩ := hw
    obtain rfl : E = "java/lang/ArithmeticException" := e1.trans e9
    refine vx_catch (own := RL) (name := "java/lang/ArithmeticException") (E := "java/lang/ArithmeticException") hown [] ⟨0, 7, 10, 138⟩ [] (by rw [hTab]; rfl) (fun z hz => nomatch hz) (by decide) (by decide) (hts (.classLink RL 138 "java/lang/ArithmeticException") (by decide +kernel)) (va_Nw.use rfl (hXP.2.2.1 (.castable "java/lang/ArithmeticException" "java/lang/ArithmeticException") (List.mem_of_getElem? (i := 5) rfl))) hce hcv hcl ?_
    refine lv_astore_n (lv' := [(2, .ref q9), (0, .ref (ad 0)), (1, .ref (ad 60))]) hx hb dL_meanKnown_10 rfl hl (by decide) rfl (fun ls hl => ?_)
    refine lv_iconst (v := 1) hx hb dL_meanKnown_11 (by decide) ?_
    exact W.iret (v := 1) hx hb hr (fun t ht hW => ⟨⟨1, w_x, rfl, hw, by show PA D ca ad w_x t.heap; rw [ht]; exact hP⟩, hS.F ht⟩) hS.2.2 dL_meanKnown_12
  have hP : PA D ca ad w_1 H := by rw [← ht]; exact hP
  obtain ⟨h_3, hw⟩ := hw
  refine va_dast hx hb hK hP (DA hAd) hS 60 4 (wg60 ca ad w_1) rfl h_3 dL_meanKnown_6 (fun H locs hP hD hS => ?_)
  obtain ⟨w_4, e_5⟩ : ∃ z : St, z = (uD w_1 (vf_upd w_1.2.2.2 (0 : Int32).toNatClampNeg r_2)) := ⟨_, rfl⟩
  have hP : PA D ca ad w_4 H := by rw [e_5]; exact wu60 hP
  have hw := hw w_4 e_5
  refine lv_goto (tgt := 13) hx hb dL_meanKnown_7 (by decide) ?_
  refine lv_iconst (v := 0) hx hb dL_meanKnown_13 (by decide) ?_
  exact W.iret (v := 0) hx hb hr (fun t ht hW => ⟨⟨0, w_4, rfl, hw, by show PA D ca ad w_4 t.heap; rw [ht]; exact hP⟩, hS.F ht⟩) hS.2.2 dL_meanKnown_14
