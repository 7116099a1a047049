/-! ACTS: leases, values, queues -/
/-- the view, one entry longer (class; model) -/
def V.eC (v : V) (m : Nat) (k c l d : Int32) : V := (V.s_kn (V.s_ne (V.s_de (V.s_el (V.s_ec (V.s_et (V.s_ki v (upd v.ki v.ne k)) (upd v.et v.ne (v.tm m))) (upd v.ec v.ne c)) (upd v.el v.ne l)) (upd v.de v.ne d)) (v.ne + 1)) (tch v.dn v.cu m (nI (v.ne + 1)) v.kn 5))
def V.eM (u : V) (m : Nat) (k c l : Int32) : V := (V.s_kn (V.s_ne (V.s_el (V.s_ec (V.s_et (V.s_ki u (upd u.ki u.ne k)) (upd u.et u.ne (u.tm m))) (upd u.ec u.ne c)) (upd u.el u.ne l)) (u.ne + 1)) (tch u.dn u.cu m (nI (u.ne + 1)) u.kn 5))
def V.tk (v : V) (l : Nat) (c : Int32) (N : Nat) : V := (V.s_q (V.s_wt v (upd v.wt l (nI (tkN (v.q l) c N)))) (updq v.q l (tkQ (v.q l) c N)))
def V.note (v : V) (c l : Nat) : V := (V.s_lc (V.s_ls v (upd v.ls (c * 4 + l) 1)) (upd v.lc (c * 4 + l) (nI v.now + v.of c)))
theorem nw12 (n : Nat) : nI n + 12 = nI (n + 12) := nI_add n 12
theorem RC_note {v u : V} {w : St} (h : R v u w) {c l : Nat} (hc : c < 6) (hl : l < 4) {P : St → Prop} (hp : ∀ w', R (v.note c l) u w' → P w') : wpX0_noteLease (nI c) (nI l) (nI v.now) w P := by
  have e1 := clN (n := c * 4 + l) (by omega)
  have i1 := inN (show c * 4 + l < 24 by omega) (show 24 < 2147483648 by decide)
  unfold wpX0_noteLease wpX0_slot wpX0_clockAt
  simp only [ix4, e1, i1, true_and, nar1, clN (n := c) (show c < 2147483648 by omega), inN hc (show 6 < 2147483648 by decide)]
  intro w4 e4 w11 e11
  rw [h.cls] at e4
  have h4 : R (V.s_ls v (upd v.ls (c * 4 + l) 1)) u w4 := by rw [e4]; exact h.sc_ls _
  rw [h4.clc, h4.cof] at e11
  refine hp _ ?_
  rw [e11]
  exact h4.sc_lc _
theorem RM_note {v u : V} {w0 w : St} (h : R v u w) (hk : Keep w0 w) {c l : Nat} (hc : c < 6) (hl : l < 4) {P : St → Prop} (hp : ∀ w', R v (u.note c l) w' → Keep w0 w' → P w') : wpX5_notesClaim (nI c) (nI l) w P := by
  have e1 := clN (n := c * 4 + l) (by omega)
  have i1 := inN (show c * 4 + l < 24 by omega) (show 24 < 2147483648 by decide)
  unfold wpX5_notesClaim wpX5_at wpX5_clock
  simp only [ix4', e1, i1, true_and, nar1, clN (n := c) (show c < 2147483648 by omega), inN hc (show 6 < 2147483648 by decide)]
  intro w4 e4 w11 e11
  rw [h.mls] at e4
  have h4 : R v (V.s_ls u (upd u.ls (c * 4 + l) 1)) w4 := by rw [e4]; exact h.sm_ls _
  have k4 : Keep w0 w4 := by rw [e4]; exact hk.a (by decide) _
  rw [h4.mlc, h4.mof, h4.mnow] at e11
  refine hp _ ?_ (by rw [e11]; exact k4.a (by decide) _)
  rw [e11]
  exact h4.sm_lc _
/-- granting, in the class -/
def V.gC (v : V) (c l m N : Nat) : V := (((V.s_lt (V.s_en (V.s_ow (V.s_th (V.s_q (V.s_wt v (upd v.wt l (nI (tkN (v.q l) (nI c) N)))) (updq v.q l (tkQ (v.q l) (nI c) N))) (upd v.th l (-1))) (upd v.ow l (nI c))) (upd v.en l (nI (v.now + 12)))) (v.lt + 12)) : V).note c l).eC m 108 (nI c) (nI l) (nI (v.now + 12))
theorem RC_grant {v u : V} {w : St} (h : R v u w) {c l m N : Nat} (hc : c < 6) (hl : l < 4) (hm : m < 5) (hN : N ≤ 6) (hw : v.wt l = nI N) (hne : v.ne < 250) {P : St → Prop} (hp : ∀ w', R (v.gC c l m N) u w' → P w') : wpX4_startLease (nI c) (nI l) (nI m) w P := by
  have cl := clN (n := l) (by omega)
  have il := inN hl (show 4 < 2147483648 by decide)
  unfold wpX4_startLease
  refine RC_take h hl hN hw (fun w1 h1 => ⟨il, fun w3 e3 => ⟨il, fun w6 e6 => ⟨il, fun w9 e9 w11 e11 => ?_⟩⟩⟩)
  rw [h1.cth, cl] at e3
  have h3 := h1.sc_th (upd v.th l (-1))
  rw [show uA w1 16 (upd v.th l (-1)) = w3 from e3.symm] at h3
  rw [h3.cow, cl] at e6
  have h6 := h3.sc_ow (upd v.ow l (nI c))
  rw [show uA w3 14 (upd v.ow l (nI c)) = w6 from e6.symm] at h6
  rw [h6.cen, h6.cnow, cl, nw12] at e9
  have h9 := h6.sc_en (upd v.en l (nI (v.now + 12)))
  rw [show uA w6 15 (upd v.en l (nI (v.now + 12))) = w9 from e9.symm] at h9
  rw [h9.clt] at e11
  have h11 := h9.sc_lt (v.lt + 12)
  rw [show uL w9 0 (v.lt + 12) = w11 from e11.symm] at h11
  rw [h11.cnow]
  refine RC_note h11 hc hl (fun w13 h13 => ⟨il, ?_⟩)
  rw [h13.cen, cl]
  show wpX4_makeEntry (nI m) 108 (nI c) (nI l) (upd v.en l (nI (v.now + 12)) l) w13 _
  rw [upd_eq v.en l (nI (v.now + 12))]
  exact RC_entry h13 hm hne (.inl rfl) (fun w15 h15 => hp _ h15)
/-- granting, in the model -/
def V.gM (u : V) (c l N : Nat) : V := ((V.s_th (V.s_en (V.s_gr (V.s_ow (V.s_lm (V.s_q (V.s_wt u (upd u.wt l (nI (tkN (u.q l) (nI c) N)))) (updq u.q l (tkQ (u.q l) (nI c) N))) (if u.ow l < 0 then u.lm else u.lm + (u.en l - u.gr l).toInt64)) (upd u.ow l (nI c))) (upd u.gr l (nI u.now))) (upd u.en l (nI (u.now + 12)))) (upd u.th l (-1))) : V).note c l
theorem RM_grants {v u : V} {w0 w : St} (h : R v u w) (hk : Keep w0 w) {c l N : Nat} (hc : c < 6) (hl : l < 4) (hN : N ≤ 6) (hw : u.wt l = nI N) {P : St → Prop} (hp : ∀ w', R v (u.gM c l N) w' → Keep w0 w' → P w') : wpX5_grants (nI c) (nI l) w P := by
  have cl := clN (n := l) (by omega)
  have il := inN hl (show 4 < 2147483648 by decide)
  unfold wpX5_grants
  refine RM_take h hk hl hN hw (fun w1 h1 k1 => ⟨il, ?_⟩)
  have tail : ∀ (w2 : St) (lm' : Int64), R v (V.s_lm (V.s_q (V.s_wt u (upd u.wt l (nI (tkN (u.q l) (nI c) N)))) (updq u.q l (tkQ (u.q l) (nI c) N))) (lm')) w2 → Keep w0 w2 → lm' = (if u.ow l < 0 then u.lm else u.lm + (u.en l - u.gr l).toInt64) → wpX5_grants_B38 (nI c) (nI l) P w2 := by
    intro w2 lm' h2 k2 elm
    subst elm
    unfold wpX5_grants_B38
    refine ⟨il, fun w3 e3 => ⟨il, fun w6 e6 => ⟨il, fun w9 e9 => ⟨il, fun w11 e11 => ?_⟩⟩⟩⟩
    rw [h2.mow, cl] at e3
    have h3 := h2.sm_ow (upd u.ow l (nI c))
    rw [show uA w2 48 (upd u.ow l (nI c)) = w3 from e3.symm] at h3
    have k3 : Keep w0 w3 := by rw [e3]; exact k2.a (by decide) _
    rw [h3.mgr, h3.mnow, cl] at e6
    have h6 := h3.sm_gr (upd u.gr l (nI u.now))
    rw [show uA w3 50 (upd u.gr l (nI u.now)) = w6 from e6.symm] at h6
    have k6 : Keep w0 w6 := by rw [e6]; exact k3.a (by decide) _
    rw [h6.men, h6.mnow, cl, nw12] at e9
    have h9 := h6.sm_en (upd u.en l (nI (u.now + 12)))
    rw [show uA w6 49 (upd u.en l (nI (u.now + 12))) = w9 from e9.symm] at h9
    have k9 : Keep w0 w9 := by rw [e9]; exact k6.a (by decide) _
    rw [h9.mth, cl] at e11
    have h11 := h9.sm_th (upd u.th l (-1))
    rw [show uA w9 51 (upd u.th l (-1)) = w11 from e11.symm] at h11
    have k11 : Keep w0 w11 := by rw [e11]; exact k9.a (by decide) _
    exact RM_note h11 k11 hc hl (fun w13 h13 k13 => hp _ h13 k13)
  rw [h1.mow, cl]
  show (u.ow l < 0 → _) ∧ (¬ u.ow l < 0 → _)
  refine ⟨fun q => tail w1 u.lm h1 k1 (by rw [if_pos q]), fun q => ⟨il, il, fun w19 e19 => ?_⟩⟩
  rw [h1.men, h1.mgr, h1.mlm] at e19
  have h19 := h1.sm_lm (u.lm + (u.en l - u.gr l).toInt64)
  rw [show uL w1 1 (u.lm + (u.en l - u.gr l).toInt64) = w19 from e19.symm] at h19
  exact tail w19 _ h19 (by rw [e19]; exact k1.l _ _) (by rw [if_neg q])
/-- a lease made longer -/
def V.xC (v : V) (c l m : Nat) : V := (((V.s_en (V.s_lt v (v.lt + (nI (v.now + 12) - v.en l).toInt64)) (upd v.en l (nI (v.now + 12)))) : V).note c l).eC m 114 (nI c) (nI l) (nI (v.now + 12))
theorem RC_extend {v u : V} {w : St} (h : R v u w) {c l m : Nat} (hc : c < 6) (hl : l < 4) (hm : m < 5) (hne : v.ne < 250) {P : St → Prop} (hp : ∀ w', R (v.xC c l m) u w' → P w') : wpX4_extendLease (nI c) (nI l) (nI m) w P := by
  have cl := clN (n := l) (by omega)
  have il := inN hl (show 4 < 2147483648 by decide)
  unfold wpX4_extendLease
  rw [h.clt, h.cnow, h.cen, cl, nw12]
  refine ⟨il, fun w2 e2 => ⟨il, fun w5 e5 => ?_⟩⟩
  have h2 := h.sc_lt (v.lt + (nI (v.now + 12) - v.en l).toInt64)
  rw [← e2] at h2
  rw [h2.cen] at e5
  have h5 := h2.sc_en (upd v.en l (nI (v.now + 12)))
  rw [show uA w2 15 (upd v.en l (nI (v.now + 12))) = w5 from e5.symm] at h5
  rw [h5.cnow]
  exact RC_note h5 hc hl (fun w7 h7 => RC_entry h7 hm hne (.inr (.inl rfl)) (fun w8 h8 => hp _ h8))
/-- a lease ended -/
def V.rC (v : V) (c l m : Nat) : V := ((V.s_ls (V.s_ow (V.s_lt v (v.lt - (v.en l - nI v.now).toInt64)) (upd v.ow l (-1))) (upd v.ls (c * 4 + l) 0)) : V).eC m 117 (nI c) (nI l) 0
theorem RC_end {v u : V} {w : St} (h : R v u w) {c l m : Nat} (hc : c < 6) (hl : l < 4) (hm : m < 5) (hne : v.ne < 250) {P : St → Prop} (hp : ∀ w', R (v.rC c l m) u w' → P w') : wpX4_endLease (nI c) (nI l) (nI m) w P := by
  have cl := clN (n := l) (by omega)
  have il := inN hl (show 4 < 2147483648 by decide)
  have e1 := clN (n := c * 4 + l) (by omega)
  have i1 := inN (show c * 4 + l < 24 by omega) (show 24 < 2147483648 by decide)
  unfold wpX4_endLease wpX0_dropLease wpX0_slot
  rw [h.clt, h.cnow, h.cen, cl]
  refine ⟨il, fun w2 e2 => ⟨il, fun w5 e5 => ?_⟩⟩
  have h2 := h.sc_lt (v.lt - (v.en l - nI v.now).toInt64)
  rw [← e2] at h2
  rw [h2.cow] at e5
  have h5 := h2.sc_ow (upd v.ow l (-1))
  rw [show uA w2 14 (upd v.ow l (-1)) = w5 from e5.symm] at h5
  simp only [ix4, e1, i1, true_and, nar0]
  intro w7 e7
  rw [h5.cls] at e7
  have h7 := h5.sc_ls (upd v.ls (c * 4 + l) 0)
  rw [show uA w5 28 (upd v.ls (c * 4 + l) 0) = w7 from e7.symm] at h7
  exact RC_entry h7 hm hne (.inr (.inr (.inl rfl))) (fun w8 h8 => hp _ h8)
/-- a value changed -/
def V.wC (v : V) (c l m : Nat) (x : Int32) : V := ((V.s_va (V.s_ku (V.s_ks v (dv v.ks l v.nc)) (dv v.ku l v.nc)) (upd v.va l x)) : V).eC m 118 (nI c) (nI l) x
theorem RC_change {v u : V} {w : St} (h : R v u w) {c l m : Nat} {x : Int32} (hl : l < 4) (hm : m < 5) (hnc : v.nc ≤ 6) (hne : v.ne < 250) {P : St → Prop} (hp : ∀ w', R (v.wC c l m x) u w' → P w') : wpX4_changeValue (nI c) (nI l) (nI m) x w P := by
  have cl := clN (n := l) (by omega)
  have il := inN hl (show 4 < 2147483648 by decide)
  unfold wpX4_changeValue
  refine sp_X0_dropValues hnc hl h.cnc ?_
  rw [h.cks, h.cku]
  refine ⟨il, fun w3 e3 => ?_⟩
  have h2 := (h.sc_ks (dv v.ks l v.nc)).sc_ku (dv v.ku l v.nc)
  rw [h2.cva, cl] at e3
  have h3 := h2.sc_va (upd v.va l x)
  rw [show uA _ 17 (upd v.va l x) = w3 from e3.symm] at h3
  exact RC_entry h3 hm hne (.inr (.inr (.inr rfl))) (fun w5 h5 => hp _ h5)
