/-! THE INVARIANT AFTER EACH ACT THAT ENTERS -/
theorem slot_eq {c l c' l' : Nat} (hl : l < 4) (hl' : l' < 4) (h : c' * 4 + l' = c * 4 + l) : c' = c ∧ l' = l := by omega
theorem nI_ne1 {c : Nat} (h : c < 2147483648) : ¬ nI c = -1 := fun q => absurd (q ▸ nlt0 h : ¬ (-1 : Int32) < 0) (by decide)
theorem clock_in {t : Nat} {v : V} (h : J t v) (ht : t < 513) {c : Nat} (hc : c < 6) : -2 ≤ (nI v.now + v.of c).toInt ∧ (nI v.now + v.of c).toInt ≤ (v.now : Int) + 2 := by
  have hb := h.nowb
  obtain ⟨o1, o2⟩ := h.ofb c hc
  have e : (nI v.now).toInt = (v.now : Int) := nI_toInt (by omega)
  rw [add_toInt (by omega) (by omega), e]
  omega
theorem J.grant {t : Nat} {v : V} (h : J t v) (ht : t < 513) (hne : v.ne < 250) {m c l N : Nat} (hm : m < 5) (hc : c < v.nc) (hl : l < 4)
    (hq : 3 ≤ ct (rch v.dn v.cu m) 5) (hT : ∀ i, i < 5 → rch v.dn v.cu m i = true → v.tm i = v.tm m)
    (hf : fre (v.ow l) (v.en l) (nI v.now) = true) (hw : v.wt l = nI N) (hN : N ≤ 6) :
    J t (V.s_lm (V.s_gr (v.gC c l m N) (upd v.gr l (nI v.now))) (if v.ow l < 0 then v.lm else v.lm + (v.en l - v.gr l).toInt64)) := by
  have hn6 := h.nc6
  have hnb := h.nowb
  have hcl : ∀ c' l', c' < 6 → l' < 4 → upd v.ls (c * 4 + l) 1 (c' * 4 + l') = 0 ∨ ∃ τ, τ ≤ v.now ∧ -2 ≤ (upd v.lc (c * 4 + l) (nI v.now + v.of c) (c' * 4 + l')).toInt ∧ (upd v.lc (c * 4 + l) (nI v.now + v.of c) (c' * 4 + l')).toInt ≤ τ + 2 ∧ (τ + 12 ≤ v.now ∨ (upd v.ow l (nI c) l' = nI c' ∧ ∃ e, τ + 12 ≤ e ∧ e ≤ v.now + 12 ∧ upd v.en l (nI (v.now + 12)) l' = nI e)) := by
    intro c' l' hc' hl'
    by_cases e : c' * 4 + l' = c * 4 + l
    · obtain ⟨e1, e2⟩ := slot_eq hl hl' e
      subst e1
      subst e2
      obtain ⟨o1, o2⟩ := clock_in h ht hc'
      rw [upd_eq, upd_eq, upd_eq, upd_eq]
      exact .inr ⟨v.now, Nat.le_refl _, o1, o2, .inr ⟨rfl, v.now + 12, by omega, by omega, rfl⟩⟩
    · rw [upd_ne _ _ e, upd_ne _ _ e]
      rcases h.cl c' l' hc' hl' with g | ⟨τ, g1, g2, g3, g4⟩
      · exact .inl g
      · refine .inr ⟨τ, g1, g2, g3, ?_⟩
        rcases g4 with g4 | ⟨g4, e', g5, g6, g7⟩
        · exact .inl g4
        · by_cases el : l' = l
          · subst el
            left
            simp only [fre, nb, Bool.or_eq_true, decide_eq_true_eq, Bool.not_eq_true', decide_eq_false_iff_not] at hf
            rcases hf with hf | hf
            · rw [hf] at g4
              exact absurd g4.symm (nI_ne1 (by omega))
            · rw [g7, Int32.not_lt, le_nI (by omega) (by omega)] at hf
              omega
          · right
            rw [upd_ne _ _ el, upd_ne _ _ el]
            exact ⟨g4, e', g5, g6, g7⟩
  have hlse : v.lt + 12 = sL (upd v.ow l (nI c)) (upd v.en l (nI (v.now + 12))) (upd v.gr l (nI v.now)) (if v.ow l < 0 then v.lm else v.lm + (v.en l - v.gr l).toInt64) 4 := by
    rw [sL_upd (ow := v.ow) (en := v.en) (gr := v.gr) (L := v.lm) hl (fun i hi e => by unfold gL; rw [upd_ne _ _ e, upd_ne _ _ e, upd_ne _ _ e]), ← h.lse]
    have g1 : gL (upd v.ow l (nI c)) (upd v.en l (nI (v.now + 12))) (upd v.gr l (nI v.now)) l = 12 := by
      unfold gL
      rw [upd_eq, upd_eq, upd_eq, if_neg (nlt0 (by omega)), sub64 (by omega) (by omega), Int.natCast_add, Int64.ofInt_add]
      show Int64.ofInt _ + 12 - Int64.ofInt _ = 12
      grind
    rw [g1]
    unfold gL
    split <;> grind
  exact J.entry h hne (by omega) hm hc hl (k := 108) (d := nI (v.now + 12)) (.inl rfl) hq hT (ow' := upd v.ow l (nI c)) (en' := upd v.en l (nI (v.now + 12))) (va' := v.va) (th' := upd v.th l (-1)) (wt' := upd v.wt l (nI (tkN (v.q l) (nI c) N))) (gr' := upd v.gr l (nI v.now)) (ls' := upd v.ls (c * 4 + l) 1) (lc' := upd v.lc (c * 4 + l) (nI v.now + v.of c)) (ks' := v.ks) (kv' := v.kv) (kc' := v.kc) (ku' := v.ku) (q' := updq v.q l (tkQ (v.q l) (nI c) N)) (lt' := v.lt + 12)
    (fun k _ => by rw [upd_e]; split <;> simp) (fun q => absurd q (by decide)) (fun k _ => by rw [upd_e]; by_cases e : k = l <;> simp [e]) (fun _ => rfl) (fun k _ => by simp) (thU h.thv (.inl rfl)) (wtU h.wtq (qOK_take (h.wtq l hl) hw hN (nI c)))
    (fun k hk => by
      rw [upd_e]
      split
      · exact ⟨v.now, Nat.le_refl _, rfl⟩
      · exact h.grN k hk) hcl hlse
theorem J.renew {t : Nat} {v : V} (h : J t v) (ht : t < 513) (hne : v.ne < 250) {m c l : Nat} (hm : m < 5) (hc : c < v.nc) (hl : l < 4)
    (hq : 3 ≤ ct (rch v.dn v.cu m) 5) (hT : ∀ i, i < 5 → rch v.dn v.cu m i = true → v.tm i = v.tm m) (ho : v.ow l = nI c) : J t (v.xC c l m) := by
  have hn6 := h.nc6
  have hnb := h.nowb
  have hcl : ∀ c' l', c' < 6 → l' < 4 → upd v.ls (c * 4 + l) 1 (c' * 4 + l') = 0 ∨ ∃ τ, τ ≤ v.now ∧ -2 ≤ (upd v.lc (c * 4 + l) (nI v.now + v.of c) (c' * 4 + l')).toInt ∧ (upd v.lc (c * 4 + l) (nI v.now + v.of c) (c' * 4 + l')).toInt ≤ τ + 2 ∧ (τ + 12 ≤ v.now ∨ (v.ow l' = nI c' ∧ ∃ e, τ + 12 ≤ e ∧ e ≤ v.now + 12 ∧ upd v.en l (nI (v.now + 12)) l' = nI e)) := by
    intro c' l' hc' hl'
    by_cases e : c' * 4 + l' = c * 4 + l
    · obtain ⟨e1, e2⟩ := slot_eq hl hl' e
      subst e1
      subst e2
      obtain ⟨o1, o2⟩ := clock_in h ht hc'
      rw [upd_eq, upd_eq, upd_eq]
      exact .inr ⟨v.now, Nat.le_refl _, o1, o2, .inr ⟨ho, v.now + 12, by omega, by omega, rfl⟩⟩
    · rw [upd_ne _ _ e, upd_ne _ _ e]
      rcases h.cl c' l' hc' hl' with g | ⟨τ, g1, g2, g3, g4⟩
      · exact .inl g
      · refine .inr ⟨τ, g1, g2, g3, ?_⟩
        rcases g4 with g4 | ⟨g4, e', g5, g6, g7⟩
        · exact .inl g4
        · by_cases el : l' = l
          · subst el
            rw [ho] at g4
            have := nI_inj (by omega) (by omega) g4
            exact absurd (by rw [this]) e
          · right
            rw [upd_ne _ _ el]
            exact ⟨g4, e', g5, g6, g7⟩
  have hlse : v.lt + (nI (v.now + 12) - v.en l).toInt64 = sL v.ow (upd v.en l (nI (v.now + 12))) v.gr v.lm 4 := by
    obtain ⟨e, he, ee⟩ := h.enN l hl
    obtain ⟨g, hg, eg⟩ := h.grN l hl
    rw [sL_upd (ow := v.ow) (en := v.en) (gr := v.gr) (L := v.lm) hl (fun i hi e => by unfold gL; rw [upd_ne _ _ e]), ← h.lse]
    unfold gL
    rw [upd_eq, ho, if_neg (nlt0 (by omega)), if_neg (nlt0 (by omega)), ee, eg, sub64 (by omega) (by omega), sub64 (by omega) (by omega), sub64 (by omega) (by omega)]
    grind
  exact J.entry h hne (by omega) hm hc hl (k := 114) (d := nI (v.now + 12)) (.inr (.inl rfl)) hq hT (ow' := v.ow) (en' := upd v.en l (nI (v.now + 12))) (va' := v.va) (th' := v.th) (wt' := v.wt) (gr' := v.gr) (ls' := upd v.ls (c * 4 + l) 1) (lc' := upd v.lc (c * 4 + l) (nI v.now + v.of c)) (ks' := v.ks) (kv' := v.kv) (kc' := v.kc) (ku' := v.ku) (q' := v.q) (lt' := v.lt + (nI (v.now + 12) - v.en l).toInt64) (lm' := v.lm)
    (fun k _ => by simp) (fun _ => ho) (fun k _ => by rw [upd_e]; by_cases e : k = l <;> simp [e]) (fun _ => rfl) (fun k _ => by simp) h.thv h.wtq h.grN hcl hlse
theorem J.ends {t : Nat} {v : V} (h : J t v) (ht : t < 513) (hne : v.ne < 250) {m c l : Nat} (hm : m < 5) (hc : c < v.nc) (hl : l < 4)
    (hq : 3 ≤ ct (rch v.dn v.cu m) 5) (hT : ∀ i, i < 5 → rch v.dn v.cu m i = true → v.tm i = v.tm m) (ho : v.ow l = nI c) :
    J t (V.s_lm (v.rC c l m) (v.lm + (nI v.now - v.gr l).toInt64)) := by
  have hn6 := h.nc6
  have hnb := h.nowb
  have hcl : ∀ c' l', c' < 6 → l' < 4 → upd v.ls (c * 4 + l) 0 (c' * 4 + l') = 0 ∨ ∃ τ, τ ≤ v.now ∧ -2 ≤ (v.lc (c' * 4 + l')).toInt ∧ (v.lc (c' * 4 + l')).toInt ≤ τ + 2 ∧ (τ + 12 ≤ v.now ∨ (upd v.ow l (-1) l' = nI c' ∧ ∃ e, τ + 12 ≤ e ∧ e ≤ v.now + 12 ∧ v.en l' = nI e)) := by
    intro c' l' hc' hl'
    by_cases e : c' * 4 + l' = c * 4 + l
    · exact .inl (by rw [upd_e, if_pos e])
    · rw [upd_ne _ _ e]
      rcases h.cl c' l' hc' hl' with g | ⟨τ, g1, g2, g3, g4⟩
      · exact .inl g
      · refine .inr ⟨τ, g1, g2, g3, ?_⟩
        rcases g4 with g4 | ⟨g4, e', g5, g6, g7⟩
        · exact .inl g4
        · by_cases el : l' = l
          · subst el
            rw [ho] at g4
            have := nI_inj (by omega) (by omega) g4
            exact absurd (by rw [this]) e
          · right
            rw [upd_ne _ _ el]
            exact ⟨g4, e', g5, g6, g7⟩
  have hlse : v.lt - (v.en l - nI v.now).toInt64 = sL (upd v.ow l (-1)) v.en v.gr (v.lm + (nI v.now - v.gr l).toInt64) 4 := by
    obtain ⟨e, he, ee⟩ := h.enN l hl
    obtain ⟨g, hg, eg⟩ := h.grN l hl
    rw [sL_upd (ow := v.ow) (en := v.en) (gr := v.gr) (L := v.lm) hl (fun i hi e => by unfold gL; rw [upd_ne _ _ e]), ← h.lse]
    unfold gL
    rw [upd_eq, ho, if_neg (nlt0 (by omega)), if_pos (by decide), ee, eg, sub64 (by omega) (by omega), sub64 (by omega) (by omega), sub64 (by omega) (by omega)]
    grind
  exact J.entry h hne (by omega) hm hc hl (k := 117) (d := 0) (.inr (.inr (.inl rfl))) hq hT (ow' := upd v.ow l (-1)) (en' := v.en) (va' := v.va) (th' := v.th) (wt' := v.wt) (gr' := v.gr) (ls' := upd v.ls (c * 4 + l) 0) (lc' := v.lc) (ks' := v.ks) (kv' := v.kv) (kc' := v.kc) (ku' := v.ku) (q' := v.q) (lt' := v.lt - (v.en l - nI v.now).toInt64) (lm' := v.lm + (nI v.now - v.gr l).toInt64)
    (fun k _ => by rw [upd_e]; split <;> simp) (fun q => absurd q (by decide)) (fun k _ => by simp) (fun q => absurd q (by decide)) (fun k _ => by simp) h.thv h.wtq h.grN hcl hlse
theorem J.wr {t : Nat} {v : V} (h : J t v) (ht : t < 513) (hne : v.ne < 250) {m c l : Nat} {x : Int32} (hm : m < 5) (hc : c < v.nc) (hl : l < 4)
    (hq : 3 ≤ ct (rch v.dn v.cu m) 5) (hT : ∀ i, i < 5 → rch v.dn v.cu m i = true → v.tm i = v.tm m) : J t (v.wC c l m x) := by
  exact J.entry h hne (by omega) hm hc hl (k := 118) (d := x) (.inr (.inr (.inr rfl))) hq hT (ow' := v.ow) (en' := v.en) (va' := upd v.va l x) (th' := v.th) (wt' := v.wt) (gr' := v.gr) (ls' := v.ls) (lc' := v.lc) (ks' := dv v.ks l v.nc) (kv' := v.kv) (kc' := v.kc) (ku' := dv v.ku l v.nc) (q' := v.q) (lt' := v.lt) (lm' := v.lm)
    (fun k _ => by simp) (fun q => absurd q (by decide)) (fun k _ => by simp) (fun q => absurd q (by decide)) (fun k _ => by rw [upd_e]; split <;> simp_all) h.thv h.wtq h.grN h.cl h.lse
theorem nk103 : (narrow .char (.int 103) = .int 103) = True := eq_true (by decide)
theorem nk104 : (narrow .char (.int 104) = .int 104) = True := eq_true (by decide)
theorem nk109 : (narrow .char (.int 109) = .int 109) = True := eq_true (by decide)
theorem nk119 : (narrow .char (.int 119) = .int 119) = True := eq_true (by decide)
theorem nk111 : (narrow .char (.int 111) = .int 111) = True := eq_true (by decide)
theorem nk115 : (narrow .char (.int 115) = .int 115) = True := eq_true (by decide)
theorem nk98 : (narrow .char (.int 98) = .int 98) = True := eq_true (by decide)
theorem d111 : ((111 : Int32) = 103) = False := by simp
theorem d115 : ((115 : Int32) = 103) = False := by simp
theorem d103 : ((103 : Int32) = 45) = False := by simp
theorem nw10 (n : Nat) : nI n + 10 = nI (n + 10) := nI_add n 10
theorem uL_1 (w : St) (k : Nat) (x : Int64) : (uL w k x).1 = w.1 := rfl
theorem uL_o (w : St) (k : Nat) (x : Int64) : (uL w k x).2.2 = w.2.2 := rfl
/-- held by the asker -/
def heldB (o e n c : Int32) : Bool := !fre o e n && decide (o = c)
theorem held_own {o e n c : Int32} (h : heldB o e n c = true) : o = c := by
  unfold heldB at h
  rw [Bool.and_eq_true, decide_eq_true_eq] at h
  exact h.2
theorem hB_C {l : Nat} (hl : l < 4) {c n : Int32} {w : St} {P : Int32 → St → Prop} : wpX1_isHeldBy (nI l) c n w P ↔ P (bI (heldB (w.1 14 l) (w.1 15 l) n c)) w := sp_X1_isHeldBy hl
theorem hB_M {t : Nat} {v : V} (hJ : J t v) {l : Nat} (hl : l < 4) {c : Int32} {w : St} (h1 : w.1 48 = v.ow) (h2 : w.1 49 = v.en) {P : Int32 → St → Prop} : wpX5_owns c (nI l) w P ↔ P (bI (heldB (v.ow l) (v.en l) (w.1 68 0) c)) w := by
  rw [sp_X5_owns hl, h1, h2, hJ.frm hl]
  rfl
theorem fB_M {t : Nat} {v : V} (hJ : J t v) {l : Nat} (hl : l < 4) {w : St} (h1 : w.1 48 = v.ow) (h2 : w.1 49 = v.en) {P : Int32 → St → Prop} : wpX5_isFree (nI l) w P ↔ P (bI (fre (v.ow l) (v.en l) (w.1 68 0))) w := by
  rw [sp_X5_isFree hl, h1, h2, hJ.frm hl]
abbrev claimB (v : V) (c l : Nat) : Bool := hc v.pa v.ls v.of v.lc (nI v.now) l c
theorem e40 : ((4 : Int32) = 0) = False := by simp
theorem le40 : ((4 : Int32) ≤ 0) = False := by simp
theorem plc_no {q : Nat → Int32} {c : Int32} {N : Nat} (h : plc q c 0 N = -1) (hN : N ≤ 6) : ∀ j, j < N → q j ≠ c := by
  rcases plc_cases q c N 0 with ⟨_, g⟩ | ⟨p, _, h2, h3, _, _⟩
  · exact fun j hj => g j (Nat.zero_le _) (by omega)
  · rw [h] at h3
    exact absurd h3.symm (plc_ne1 (by omega))
theorem plc_yes {q : Nat → Int32} {c : Int32} {N : Nat} (h : ¬ plc q c 0 N = -1) (hN : N ≤ 6) : ∃ p, p < 6 ∧ plc q c 0 N = nI p := by
  rcases plc_cases q c N 0 with ⟨g, _⟩ | ⟨p, _, h2, h3, _, _⟩
  · exact absurd g h
  · exact ⟨p, by omega, h3⟩
theorem plc_0 {q : Nat → Int32} {c : Int32} {N : Nat} (hN : N ≤ 6) (h0 : ¬ N = 0) : (plc q c 0 N = 0) = (q 0 = c) := by
  obtain ⟨M, rfl⟩ : ∃ M, N = M + 1 := ⟨N - 1, by omega⟩
  apply propext
  show (if q 0 = c then nI 0 else plc q c 1 M) = 0 ↔ q 0 = c
  constructor
  · intro h
    by_cases e : q 0 = c
    · exact e
    · rw [if_neg e] at h
      rcases plc_cases q c M 1 with ⟨g, _⟩ | ⟨p, h1, h2, h3, _, _⟩
      · rw [g] at h
        exact absurd h (by decide)
      · rw [h3] at h
        have := nI_inj (b := 0) (by omega) (by decide) h
        omega
  · intro e
    rw [if_pos e]
    rfl
theorem nk32 : (narrow .char (.int 32) = .int 32) = True := eq_true (by decide)
