/-! ACTS, read over the views -/
theorem narK {k : Int32} (hk : k = 108 ∨ k = 114 ∨ k = 117 ∨ k = 118) : vp_nar .char k = k := by
  rcases hk with h | h | h | h <;> subst h <;> decide
theorem RC_entry {v u : V} {w : St} (h : R v u w) {m : Nat} (hm : m < 5) (hne : v.ne < 250) {k c l d : Int32} (hk : k = 108 ∨ k = 114 ∨ k = 117 ∨ k = 118) {P : St → Prop}
    (hp : ∀ w', R (V.s_kn (V.s_ne (V.s_de (V.s_el (V.s_ec (V.s_et (V.s_ki v (upd v.ki v.ne k)) (upd v.et v.ne (v.tm m))) (upd v.ec v.ne c)) (upd v.el v.ne l)) (upd v.de v.ne d)) (v.ne + 1)) (tch v.dn v.cu m (nI (v.ne + 1)) v.kn 5)) u w' → P w') : wpX4_makeEntry (nI m) k c l d w P := by
  unfold wpX4_makeEntry wpX2_add
  have cn := clN (n := v.ne) (by omega)
  have iN := inN hne (show 250 < 2147483648 by decide)
  rw [h.cne, h.ctm, clN (n := m) (by omega), cn]
  refine ⟨inN hm (by decide), fun _ => ⟨iN, fun w3 e3 => ?_⟩, fun q => absurd ((ltN (b := 250) (by omega) (by decide)).mpr hne) q⟩
  have h3 : R (V.s_ki v (upd v.ki v.ne k)) u w3 := by rw [e3, h.cki, narK hk]; exact h.sc_ki _
  rw [h3.cne]
  show vp_in (nI v.ne) 250 ∧ _
  refine ⟨iN, fun w6 e6 => ?_⟩
  have h6 : R (V.s_et (V.s_ki v (upd v.ki v.ne k)) (upd v.et v.ne (v.tm m))) u w6 := by rw [e6, h3.cet, show (nI _).toNatClampNeg = v.ne from cn]; exact h3.sc_et _
  rw [h6.cne]
  show vp_in (nI v.ne) 250 ∧ _
  refine ⟨iN, fun w9 e9 => ?_⟩
  have h9 : R (V.s_ec (V.s_et (V.s_ki v (upd v.ki v.ne k)) (upd v.et v.ne (v.tm m))) (upd v.ec v.ne c)) u w9 := by rw [e9, h6.cec, show (nI _).toNatClampNeg = v.ne from cn]; exact h6.sc_ec _
  rw [h9.cne]
  show vp_in (nI v.ne) 250 ∧ _
  refine ⟨iN, fun w12 e12 => ?_⟩
  have h12 : R (V.s_el (V.s_ec (V.s_et (V.s_ki v (upd v.ki v.ne k)) (upd v.et v.ne (v.tm m))) (upd v.ec v.ne c)) (upd v.el v.ne l)) u w12 := by rw [e12, h9.cel, show (nI _).toNatClampNeg = v.ne from cn]; exact h9.sc_el _
  rw [h12.cne]
  show vp_in (nI v.ne) 250 ∧ _
  refine ⟨iN, fun w15 e15 w17 e17 => ?_⟩
  have h15 : R (V.s_de (V.s_el (V.s_ec (V.s_et (V.s_ki v (upd v.ki v.ne k)) (upd v.et v.ne (v.tm m))) (upd v.ec v.ne c)) (upd v.el v.ne l)) (upd v.de v.ne d)) u w15 := by rw [e15, h12.cde, show (nI _).toNatClampNeg = v.ne from cn]; exact h12.sc_de _
  have h17 : R (V.s_ne (V.s_de (V.s_el (V.s_ec (V.s_et (V.s_ki v (upd v.ki v.ne k)) (upd v.et v.ne (v.tm m))) (upd v.ec v.ne c)) (upd v.el v.ne l)) (upd v.de v.ne d)) (v.ne + 1)) u w17 := by rw [e17, h15.cne]; show R _ _ (uI w15 65 (nI v.ne + 1)); rw [nI_1]; exact h15.sc_ne (v.ne + 1)
  show wpX3_teach (nI m) (w17.1 65 0) w17 _
  rw [h17.cne]
  refine sp_X3_teach hm ?_
  rw [h17.cdn, h17.ccu, h17.ckn]
  exact hp _ (h17.sc_kn _)
def Keep (w w' : St) : Prop := w'.1 67 0 = w.1 67 0 ∧ w'.2.2.1 = w.2.2.1
theorem Keep.a {w w' : St} (h : Keep w w') {k : Nat} (hk : k ≠ 67) (f : Nat → Int32) : Keep w (uA w' k f) := ⟨by rw [uA_ne _ _ (Ne.symm hk)]; exact h.1, h.2⟩
theorem Keep.i {w w' : St} (h : Keep w w') {k : Nat} (hk : k ≠ 67) (x : Int32) : Keep w (uI w' k x) := ⟨by rw [uI_ne _ _ (Ne.symm hk)]; exact h.1, h.2⟩
theorem Keep.l {w w' : St} (h : Keep w w') (k : Nat) (x : Int64) : Keep w (uL w' k x) := ⟨h.1, h.2⟩
theorem Keep.r (w : St) : Keep w w := ⟨rfl, rfl⟩
theorem RM_entry {v u : V} {w0 w : St} (h : R v u w) (hk0 : Keep w0 w) {m : Nat} (hm : m < 5) (hne : u.ne < 250) {k c l : Int32} (hk : k = 108 ∨ k = 114 ∨ k = 117 ∨ k = 118) {P : Int32 → St → Prop}
    (hp : ∀ w', R v (V.s_kn (V.s_ne (V.s_el (V.s_ec (V.s_et (V.s_ki u (upd u.ki u.ne k)) (upd u.et u.ne (u.tm m))) (upd u.ec u.ne c)) (upd u.el u.ne l)) (u.ne + 1)) (tch u.dn u.cu m (nI (u.ne + 1)) u.kn 5)) w' → Keep w0 w' → P 103 w') : wpX5_enters k c l (nI m) w P := by
  unfold wpX5_enters
  have cn := clN (n := u.ne) (by omega)
  have iN := inN hne (show 250 < 2147483648 by decide)
  rw [h.mne, cn]
  refine ⟨iN, fun w9 e9 => ⟨inN hm (by decide), ?_⟩⟩
  have h9 : R v (V.s_ki u (upd u.ki u.ne k)) w9 := by rw [e9, h.mki, narK hk]; exact h.sm_ki _
  have k9 : Keep w0 w9 := by rw [e9]; exact hk0.a (by decide) _
  rw [h9.mne]
  show vp_in (nI u.ne) 250 ∧ _
  refine ⟨iN, fun w13 e13 => ?_⟩
  have h13 : R v (V.s_et (V.s_ki u (upd u.ki u.ne k)) (upd u.et u.ne (u.tm m))) w13 := by rw [e13, h9.met, h9.mtm, clN (n := m) (by omega), show (nI _).toNatClampNeg = u.ne from cn]; exact h9.sm_et _
  have k13 : Keep w0 w13 := by rw [e13]; exact k9.a (by decide) _
  rw [h13.mne]
  show vp_in (nI u.ne) 250 ∧ _
  refine ⟨iN, fun w16 e16 => ?_⟩
  have h16 : R v (V.s_el (V.s_et (V.s_ki u (upd u.ki u.ne k)) (upd u.et u.ne (u.tm m))) (upd u.el u.ne l)) w16 := by rw [e16, h13.mel, show (nI _).toNatClampNeg = u.ne from cn]; exact h13.sm_el _
  have k16 : Keep w0 w16 := by rw [e16]; exact k13.a (by decide) _
  rw [h16.mne]
  show vp_in (nI u.ne) 250 ∧ _
  refine ⟨iN, fun w19 e19 w21 e21 => ?_⟩
  have h19 : R v (V.s_ec (V.s_el (V.s_et (V.s_ki u (upd u.ki u.ne k)) (upd u.et u.ne (u.tm m))) (upd u.el u.ne l)) (upd u.ec u.ne c)) w19 := by rw [e19, h16.mec, show (nI _).toNatClampNeg = u.ne from cn]; exact h16.sm_ec _
  have k19 : Keep w0 w19 := by rw [e19]; exact k16.a (by decide) _
  have h21 : R v (V.s_ne (V.s_ec (V.s_el (V.s_et (V.s_ki u (upd u.ki u.ne k)) (upd u.et u.ne (u.tm m))) (upd u.el u.ne l)) (upd u.ec u.ne c)) (u.ne + 1)) w21 := by rw [e21, h19.mne]; show R _ _ (uI w19 70 (nI u.ne + 1)); rw [nI_1]; exact h19.sm_ne (u.ne + 1)
  have k21 : Keep w0 w21 := by rw [e21]; exact k19.i (by decide) _
  refine sp_X5_teachL hm ?_
  rw [h21.mdn, h21.mcu, h21.mkn, h21.mne]
  exact hp _ (h21.sm_kn _) (k21.a (by decide) _)
/-! queues -/
def tkN (q : Nat → Int32) (c : Int32) (N : Nat) : Nat := if plc q c 0 N = -1 then N else N - 1
def tkQ (q : Nat → Int32) (c : Int32) (N : Nat) : Nat → Int32 := if plc q c 0 N = -1 then q else shl q (plc q c 0 N).toNatClampNeg (N - 1)
theorem upd_id (f : Nat → Int32) {k : Nat} {x : Int32} (h : f k = x) : upd f k x = f := by
  funext j
  rw [upd_e]
  split
  · rename_i e
    rw [e, h]
  · rfl
theorem updq_id (q : Nat → Nat → Int32) (l : Nat) : updq q l (q l) = q := by
  funext j
  unfold updq
  split
  · rename_i e
    rw [e]
  · rfl
theorem plc_ne1 {p : Nat} (hp : p < 6) : ¬ nI p = -1 := fun q => absurd (q ▸ nlt0 (p := p) (by omega) : ¬ (-1 : Int32) < 0) (by decide)
theorem RC_take {v u : V} {w : St} (h : R v u w) {l N : Nat} (hl : l < 4) (hN : N ≤ 6) (hw : v.wt l = nI N) {c : Int32} {P : St → Prop}
    (hp : ∀ w', R (V.s_q (V.s_wt v (upd v.wt l (nI (tkN (v.q l) c N)))) (updq v.q l (tkQ (v.q l) c N))) u w' → P w') : wpX1_takeOut (nI l) c w P := by
  refine sp_X1_takeOut hN hl (by rw [h.cwt]; exact hw) (fun e => ?_) (fun p hpN e => ?_)
  · rw [h.cq l hl] at e
    refine hp _ ?_
    unfold tkN tkQ
    rw [if_pos e, if_pos e, upd_id v.wt hw, updq_id]
    exact h
  · rw [h.cq l hl] at e
    have n1 : ¬ plc (v.q l) c 0 N = -1 := by rw [e]; exact plc_ne1 (by omega)
    rw [h.cwt, h.cq l hl]
    have hh := hp (uA (uA w 18 (upd v.wt l (nI (N - 1)))) (20 + l) (shl (v.q l) p (N - 1)))
    unfold tkN tkQ at hh
    rw [if_neg n1, if_neg n1, e, clN (by omega)] at hh
    exact hh ((h.sc_wt (upd v.wt l (nI (N - 1)))).sc_q hl (shl (v.q l) p (N - 1)))
theorem mrow {u : V} {w : St} {v : V} (h : R v u w) {l N : Nat} (hl : l < 4) (hN : N ≤ 6) (c : Int32) : plc (fun j => w.1 53 (6 * l + j)) c 0 N = plc (u.q l) c 0 N := plc_cong N 0 (fun i _ hi => h.mq l i hl (by omega))
theorem RM_take {v u : V} {w0 w : St} (h : R v u w) (hk0 : Keep w0 w) {l N : Nat} (hl : l < 4) (hN : N ≤ 6) (hw : u.wt l = nI N) {c : Int32} {P : St → Prop}
    (hp : ∀ w', R v (V.s_q (V.s_wt u (upd u.wt l (nI (tkN (u.q l) c N)))) (updq u.q l (tkQ (u.q l) c N))) w' → Keep w0 w' → P w') : wpX5_leaves c (nI l) w P := by
  refine sp_X5_leaves hN hl (by rw [h.mwt]; exact hw) (fun e => ?_) (fun p hpN e => ?_)
  · rw [mrow h hl hN] at e
    refine hp _ ?_ hk0
    unfold tkN tkQ
    rw [if_pos e, if_pos e, upd_id u.wt hw, updq_id]
    exact h
  · rw [mrow h hl hN] at e
    have n1 : ¬ plc (u.q l) c 0 N = -1 := by rw [e]; exact plc_ne1 (by omega)
    rw [h.mwt]
    have hh := hp (uA (uA w 54 (upd u.wt l (nI (N - 1)))) 53 (shl (w.1 53) (6 * l + p) (6 * l + (N - 1))))
    unfold tkN tkQ at hh
    rw [if_neg n1, if_neg n1, e, clN (by omega)] at hh
    refine hh ((h.sm_wt (upd u.wt l (nI (N - 1)))).sm_q (shl (w.1 53) (6 * l + p) (6 * l + (N - 1))) (updq u.q l (shl (u.q l) p (N - 1))) ?_) ((hk0.a (by decide) _).a (by decide) _)
    intro l' j hl' hj
    show shl (w.1 53) (6 * l + p) (6 * l + (N - 1)) (6 * l' + j) = updq u.q l (shl (u.q l) p (N - 1)) l' j
    unfold updq
    by_cases e : l' = l
    · subst e
      rw [if_pos rfl]
      unfold shl
      by_cases g : p ≤ j ∧ j < N - 1
      · rw [if_pos (by omega), if_pos g]
        exact h.mq l' (j + 1) hl' (by omega)
      · rw [if_neg (by omega), if_neg g]
        exact h.mq l' j hl' hj
    · rw [if_neg e]
      unfold shl
      rw [if_neg (by omega)]
      exact h.mq l' j hl' hj
