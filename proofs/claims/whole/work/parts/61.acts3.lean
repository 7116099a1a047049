/-! ACTS: queues, kept values -/
def V.pl (v : V) (l : Nat) (c : Int32) (N : Nat) : V := (V.s_wt (V.s_q v (updq v.q l (upd (v.q l) N c))) (upd v.wt l (nI (N + 1))))
theorem updq_same (q : Nat → Nat → Int32) (l : Nat) (f : Nat → Int32) : updq q l f l = f := by unfold updq; rw [if_pos rfl]
theorem RC_last {v u : V} {w : St} (h : R v u w) {l N : Nat} (hl : l < 4) (hN : N ≤ 6) (hw : v.wt l = nI N) {c : Int32} {P : St → Prop}
    (h0 : plc (v.q l) c 0 N = -1 → N < 6 ∧ ∀ w', R (v.pl l c N) u w' → P w') (h1 : ¬ plc (v.q l) c 0 N = -1 → P w) : wpX1_putLast (nI l) c w P := by
  have cl := clN (n := l) (by omega)
  have il := inN hl (show 4 < 2147483648 by decide)
  unfold wpX1_putLast
  refine sp_X1_placeOf hN hl (by rw [h.cwt]; exact hw) ?_
  rw [h.cq l hl]
  refine ⟨fun e => ?_, fun e => h1 e⟩
  obtain ⟨hN6, hp⟩ := h0 e
  have cN := clN (n := N) (by omega)
  rw [h.cwt, cl, hw, cN, h.cq l hl]
  refine ⟨il, fun q => absurd q (notN (N := 6) hN6 (by decide)), fun _ => ⟨il, il, hl, inN hN6 (by decide), fun w9 e9 => ⟨il, il, fun w14 e14 => ?_⟩⟩⟩
  have h9 := h.sc_q hl (upd (v.q l) N c)
  rw [← e9] at h9
  rw [h9.cwt] at e14
  have e15 : w14 = uA w9 18 (upd v.wt l (nI (N + 1))) := by rw [e14, ← nI_1 N, ← hw]
  rw [e15]
  exact hp _ (h9.sc_wt _)
theorem RM_last {v u : V} {w0 w : St} (h : R v u w) (hk : Keep w0 w) {l N : Nat} (hl : l < 4) (hw : u.wt l = nI N) {c : Int32} {P : St → Prop} (hN6 : N < 6)
    (hp : ∀ w', R v (u.pl l c N) w' → Keep w0 w' → P w') :
    (vp_in (nI l) 4) ∧ ((vp_in ((6 * nI l) + (w.1 54 (nI l).toNatClampNeg)) 24) ∧ (∀ w_24 : St, w_24 = (uA w 53 (upd (w.1 53) (((6 * nI l) + (w.1 54 (nI l).toNatClampNeg))).toNatClampNeg c)) → (vp_in (nI l) 4) ∧ ((vp_in (nI l) 4) ∧ (∀ w_28 : St, w_28 = (uA w_24 54 (upd (w_24.1 54) (nI l).toNatClampNeg ((w_24.1 54 (nI l).toNatClampNeg) + 1))) → P w_28)))) := by
  have cl := clN (n := l) (by omega)
  have il := inN hl (show 4 < 2147483648 by decide)
  rw [h.mwt, cl, hw, ix6b, clN (n := 6 * l + N) (by omega)]
  refine ⟨il, inN (by omega) (by decide), fun w24 e24 => ⟨il, il, fun w28 e28 => ?_⟩⟩
  have h24 : R v (V.s_q u (updq u.q l (upd (u.q l) N c))) w24 := by
    rw [e24]
    refine h.sm_q _ _ ?_
    intro l' j hl' hj
    unfold updq
    by_cases e : l' = l
    · subst e
      rw [if_pos rfl, upd_e, upd_e]
      by_cases g : j = N
      · rw [if_pos (by omega), if_pos g]
      · rw [if_neg (by omega), if_neg g]
        exact h.mq l' j hl' hj
    · rw [if_neg e, upd_e, if_neg (by omega)]
      exact h.mq l' j hl' hj
  rw [h24.mwt] at e28
  have e29 : w28 = uA w24 54 (upd u.wt l (nI (N + 1))) := by rw [e28, ← nI_1 N, ← hw]
  rw [e29]
  refine hp _ (h24.sm_wt _) ?_
  rw [e24]
  exact (hk.a (by decide) _).a (by decide) _
def V.pf (v : V) (l : Nat) (c : Int32) (N : Nat) : V := (V.s_q (V.s_wt v (upd (upd v.wt l (nI (tkN (v.q l) c N))) l (nI (tkN (v.q l) c N + 1)))) (updq (updq v.q l (tkQ (v.q l) c N)) l (upd (shr (tkQ (v.q l) c N) (tkN (v.q l) c N) 0) 0 c)))
theorem RC_first {v u : V} {w : St} (h : R v u w) {l N : Nat} (hl : l < 4) (hN : N ≤ 6) (hw : v.wt l = nI N) {c : Int32} {P : St → Prop} (h6 : tkN (v.q l) c N < 6)
    (hp : ∀ w', R (v.pf l c N) u w' → P w') : wpX1_putFirst (nI l) c w P := by
  have cl := clN (n := l) (by omega)
  have il := inN hl (show 4 < 2147483648 by decide)
  unfold wpX1_putFirst
  refine RC_take h hl hN hw (fun w1 h1 => ⟨il, il, by rw [cl]; exact hl, fun _ => ⟨il, ?_⟩, fun q => ?_⟩)
  · rw [cl]
    refine sp_X1_upL h6 hl (by rw [h1.cwt]; exact upd_eq _ _ _) ?_
    have eq1 : w1.1 (20 + l) = tkQ (v.q l) c N := by rw [h1.cq l hl]; exact updq_same _ _ _
    rw [eq1, h1.cwt]
    exact hp _ ((h1.sc_q hl _).sc_wt _)
  · rw [h1.cwt, cl] at q
    change ¬ upd v.wt l (nI (tkN (v.q l) c N)) l < 6 at q
    rw [upd_eq] at q
    exact absurd ((ltN (b := 6) (by omega) (by decide)).mpr h6) q
theorem RM_first {v u : V} {w0 w : St} (h : R v u w) (hk : Keep w0 w) {l N : Nat} {c m s : Int32} (hl : l < 4) (hN : N ≤ 6) (hw : u.wt l = nI N) {P : Int32 → St → Prop} (h6 : tkN (u.q l) c N < 6)
    (hp : ∀ w', R v (V.s_th (u.pf l c N) (upd u.th l c)) w' → Keep w0 w' → P 109 w') :
    wpX5_leaves c (nI l) w (fun w_17 => (vp_in (nI l) 4) ∧ (∃ n : Nat, wpX5_requests_L121 c (nI l) m s P n (w_17.1 54 (nI l).toNatClampNeg) w_17)) := by
  have cl := clN (n := l) (by omega)
  have il := inN hl (show 4 < 2147483648 by decide)
  refine RM_take h hk hl hN hw (fun w1 h1 k1 => ⟨il, ?_⟩)
  rw [cl]
  refine sp_X5_shrL h6 hl (by rw [h1.mwt]; exact upd_eq _ _ _) ?_
  rw [h1.mwt, h1.mth]
  have h2 : R v (V.s_q (((V.s_q (V.s_wt u (upd u.wt l (nI (tkN (u.q l) c N)))) (updq u.q l (tkQ (u.q l) c N))) : V)) (updq (updq u.q l (tkQ (u.q l) c N)) l (upd (shr (tkQ (u.q l) c N) (tkN (u.q l) c N) 0) 0 c))) (uA w1 53 (upd (shr (w1.1 53) (6 * l + tkN (u.q l) c N) (6 * l)) (6 * l) c)) := by
    refine h1.sm_q _ _ ?_
    intro l' j hl' hj
    have hm : ∀ j, j < 6 → w1.1 53 (6 * l' + j) = updq u.q l (tkQ (u.q l) c N) l' j := fun j hj => h1.mq l' j hl' hj
    by_cases e : l' = l
    · subst e
      rw [updq_same]
      rw [updq_same] at hm
      rw [upd_e, upd_e]
      by_cases g : j = 0
      · rw [if_pos (by omega), if_pos g]
      · rw [if_neg (by omega), if_neg g]
        unfold shr
        by_cases g2 : 0 < j ∧ j ≤ tkN (u.q l') c N
        · rw [if_pos (by omega), if_pos g2, ← hm (j - 1) (by omega)]
          rw [show 6 * l' + j - 1 = 6 * l' + (j - 1) by omega]
        · rw [if_neg (by omega), if_neg g2]
          exact hm j hj
    · rw [upd_e, if_neg (by omega)]
      unfold shr
      rw [if_neg (by omega), hm j hj]
      show _ = (if l' = l then _ else updq u.q l (tkQ (u.q l) c N) l') j
      rw [if_neg e]
  exact hp _ ((h2.sm_wt _).sm_th _) (((k1.a (by decide) _).a (by decide) _).a (by decide) _)
def V.kpv (v : V) (c l : Nat) : V := (V.s_ku (V.s_kc (V.s_kv (V.s_ks v (upd v.ks (c * 4 + l) 1)) (upd v.kv (c * 4 + l) (v.va l))) (upd v.kc (c * 4 + l) (nI v.now + v.of c))) (upd v.ku (c * 4 + l) (nI (v.now + 10))))
theorem RC_keep {v u : V} {w : St} (h : R v u w) {c l : Nat} (hc : c < 6) (hl : l < 4) {P : St → Prop} (hp : ∀ w', R (v.kpv c l) u w' → P w') : wpX0_keepValue (nI c) (nI l) (v.va l) (nI v.now) w P := by
  have e1 := clN (n := c * 4 + l) (by omega)
  have i1 := inN (show c * 4 + l < 24 by omega) (show 24 < 2147483648 by decide)
  unfold wpX0_keepValue wpX0_slot wpX0_clockAt
  simp only [ix4, e1, i1, true_and, nar1, clN (n := c) (show c < 2147483648 by omega), inN hc (show 6 < 2147483648 by decide)]
  intro w4 e4 w7 e7 w12 e12 w15 e15
  rw [h.cks] at e4
  have h4 := h.sc_ks (upd v.ks (c * 4 + l) 1)
  rw [← e4] at h4
  rw [h4.ckv] at e7
  have h7 := h4.sc_kv (upd v.kv (c * 4 + l) (v.va l))
  rw [show uA w4 27 (upd v.kv (c * 4 + l) (v.va l)) = w7 from e7.symm] at h7
  rw [h7.ckc, h7.cof] at e12
  have h12 := h7.sc_kc (upd v.kc (c * 4 + l) (nI v.now + v.of c))
  rw [show uA w7 31 (upd v.kc (c * 4 + l) (nI v.now + v.of c)) = w12 from e12.symm] at h12
  rw [h12.cku, show nI v.now + 10 = nI (v.now + 10) from nI_add v.now 10] at e15
  rw [e15]
  exact hp _ (h12.sc_ku _)
