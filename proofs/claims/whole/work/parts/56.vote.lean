/-! VOTES: what standing keeps -/
theorem le_nI {a b : Nat} (ha : a < 2147483648) (hb : b < 2147483648) : nI a ≤ nI b ↔ a ≤ b := leN ha hb
theorem ct_inter {p q : Nat → Bool} (hp : 3 ≤ ct p 5) (hq : 3 ≤ ct q 5) : ∃ i, i < 5 ∧ p i = true ∧ q i = true := by
  have h : ∀ n, ct p n + ct q n ≤ n ∨ ∃ i, i < n ∧ p i = true ∧ q i = true := by
    intro n
    induction n with
    | zero => exact .inl (by simp [ct])
    | succ n ih =>
      rcases ih with ih | ⟨i, a, b⟩
      · unfold ct
        cases e1 : p n <;> cases e2 : q n
        · left; simp; omega
        · left; simp; omega
        · left; simp; omega
        · exact .inr ⟨n, by omega, e1, e2⟩
      · exact .inr ⟨i, by omega, b⟩
  rcases h 5 with h | ⟨i, a⟩
  · omega
  · exact ⟨i, a⟩
theorem ct_not (p : Nat → Bool) : ∀ n, ct p n + ct (fun i => !p i) n = n
  | 0 => rfl
  | n + 1 => by
    have ih := ct_not p n
    unfold ct
    cases e : p n <;> simp <;> omega
theorem int_le_of_lt_trans {a b c : Int32} (h1 : a ≤ b) (h2 : ¬ a < c) : ¬ b < c := by
  rw [Int32.not_lt] at *
  exact Int32.le_trans h2 h1
/-- terms only rise -/
theorem J.term_up {t s : Nat} {v : V} (h : J t v) (hs : t ≤ s) (T : Nat → Int32) (hT : ∀ i, i < 5 → ∃ n, n ≤ s ∧ T i = nI n ∧ v.tm i ≤ T i) (hb : s < 2147483648) : J s (V.s_tm v (T)) := by
  have cmono : ∀ x : Int32, ct (fun i => nb (v.tm i < x)) 5 ≤ ct (fun i => nb (T i < x)) 5 := fun x => ct_mono 5 (fun i hi q => by
    obtain ⟨n, _, _, g⟩ := hT i hi
    simp only [nb, Bool.not_eq_true', decide_eq_false_iff_not] at q ⊢
    exact int_le_of_lt_trans g q)
  have hb' : v.now ≤ 60 * s := by have := h.nowb; omega
  exact J.mk (nc6 := h.nc6) (ne250 := h.ne250) (nowb := hb') (bdn := h.bdn) (bcu := h.bcu) (bpa := h.bpa) (ofb := h.ofb) (tmN := fun i hi => by obtain ⟨n, a, b, _⟩ := hT i hi; exact ⟨n, a, b⟩) (knN := h.knN) (owv := h.owv) (thv := h.thv) (enN := h.enN) (grN := h.grN) (wtq := h.wtq) (wiN := h.wiN) (leN := h.leN) (le0 := h.le0) (wi0 := h.wi0) (ldN := fun i hi => by
      rcases h.ldN i hi with e | ⟨n, m, a, b, c, d, e⟩
      · exact .inl e
      · obtain ⟨n', a', b', g⟩ := hT i hi
        refine .inr ⟨n, n', ?_, a', c, d, b'⟩
        rw [e, b', le_nI (by omega) (by omega)] at g
        omega) (ldM := fun i n hi hn e => by obtain ⟨m, a, b, c⟩ := h.ldM i n hi hn e; exact ⟨m, a, by omega, c⟩) (wi3 := fun n hn e => Nat.le_trans (h.wi3 n hn e) (cmono _)) (elN := h.elN) (ecN := h.ecN) (kiN := h.kiN) (obE := h.obE) (owE := h.owE) (enE := h.enE) (vaE := h.vaE) (etS := h.etS) (et3 := fun hn => Nat.le_trans (h.et3 hn) (cmono _)) (kn3 := h.kn3) (cl := h.cl) (lse := h.lse)
theorem vtT_val (dn cu : Nat → Int32) (a : Nat) (nx : Int32) (T0 : Nat → Int32) (i : Nat) : ∀ j, vtT dn cu a nx T0 j i = T0 i ∨ (vtT dn cu a nx T0 j i = nx ∧ T0 i < nx)
  | 0 => .inl rfl
  | j + 1 => by
    have ih := vtT_val dn cu a nx T0 i j
    unfold vtT
    split
    · rename_i c
      rw [upd_e]
      split
      · rename_i e
        subst e
        rcases ih with ih | ⟨ih, g⟩
        · exact .inr ⟨rfl, by rw [← ih]; exact c.2⟩
        · exact .inr ⟨rfl, g⟩
      · exact ih
    · exact ih
theorem vtT_stay (dn cu : Nat → Int32) (a : Nat) (nx : Int32) (T0 : Nat → Int32) (i k : Nat) (h : vtT dn cu a nx T0 k i = nx) : ∀ j, vtT dn cu a nx T0 (k + j) i = nx
  | 0 => h
  | j + 1 => by
    have g := vtT_stay dn cu a nx T0 i k h j
    show vtT dn cu a nx T0 (k + j + 1) i = nx
    unfold vtT
    split
    · rw [upd_e]
      split
      · rfl
      · exact g
    · exact g
/-- who voted: their terms were lower, and are the new one -/
theorem vtN_ct (dn cu kn tm : Nat → Int32) {a : Nat} (ha : a < 5) (nx : Int32) (h : tm a < nx) : vtN dn cu kn a nx (upd tm a nx) 5 ≤ ct (fun i => decide (tm i < nx) && nb (vtT dn cu a nx (upd tm a nx) 5 i < nx)) 5 := by
  have hA : ∀ j, vtT dn cu a nx (upd tm a nx) j a = nx := vtT_a dn cu a nx (upd tm a nx) (by rw [upd_e, if_pos rfl])
  have key : ∀ j, j ≤ 5 → vtN dn cu kn a nx (upd tm a nx) j ≤ ct (fun i => decide (tm i < nx) && nb (vtT dn cu a nx (upd tm a nx) 5 i < nx)) j + (if a < j then 0 else 1) := by
    intro j
    induction j with
    | zero => intro _; simp [vtN]
    | succ j ih =>
      intro hj
      have ih := ih (by omega)
      by_cases ej : j = a
      · subst ej
        have c : (decide (tm j < nx) && nb (vtT dn cu j nx (upd tm j nx) 5 j < nx)) = true := by rw [hA]; simp [h, nb, Int32.lt_irrefl]
        have n1 : vtN dn cu kn j nx (upd tm j nx) (j + 1) = vtN dn cu kn j nx (upd tm j nx) j := by
          have : ¬ vtT dn cu j nx (upd tm j nx) j j < nx := by rw [hA]; exact Int32.lt_irrefl
          simp [vtN, this]
        rw [n1]
        rw [if_neg (Nat.lt_irrefl _)] at ih
        unfold ct
        rw [if_pos c, if_pos (Nat.lt_succ_self _)]
        exact ih
      · have e2 : (if a < j + 1 then 0 else 1) = (if a < j then 0 else 1 : Nat) := by
          by_cases g : a < j
          · rw [if_pos g, if_pos (by omega)]
          · rw [if_neg g, if_neg (by omega)]
        rw [e2]
        unfold vtN
        split
        · rename_i q
          obtain ⟨⟨q1, q2⟩, q3⟩ := q
          have t0 : tm j < nx := by
            rcases vtT_val dn cu a nx (upd tm a nx) j j with g | ⟨g, _⟩
            · rw [g, upd_e, if_neg ej] at q2
              exact q2
            · rw [g] at q2
              exact absurd q2 Int32.lt_irrefl
          have t1 : vtT dn cu a nx (upd tm a nx) (j + 1) j = nx := by
            unfold vtT
            rw [if_pos ⟨q1, q2⟩, upd_e, if_pos rfl]
          have t2 : vtT dn cu a nx (upd tm a nx) 5 j = nx := by
            have := vtT_stay dn cu a nx (upd tm a nx) j (j + 1) t1 (5 - (j + 1))
            rw [show j + 1 + (5 - (j + 1)) = 5 by omega] at this
            exact this
          have c : (decide (tm j < nx) && nb (vtT dn cu a nx (upd tm a nx) 5 j < nx)) = true := by rw [t2]; simp [t0, nb, Int32.lt_irrefl]
          unfold ct
          rw [if_pos c]
          omega
        · unfold ct
          omega
  have := key 5 (Nat.le_refl _)
  rw [if_pos ha] at this
  exact this
theorem J.standT {t : Nat} {v : V} (h : J t v) (ht : t < 512) {a n : Nat} (ha : a < 5) (hn : n ≤ t) (e : v.tm a = nI n) : ∀ i, i < 5 → ∃ m, m ≤ t + 1 ∧ vtT v.dn v.cu a (nI (n + 1)) (upd v.tm a (nI (n + 1))) 5 i = nI m ∧ v.tm i ≤ vtT v.dn v.cu a (nI (n + 1)) (upd v.tm a (nI (n + 1))) 5 i := by
  intro i hi
  rcases vtT_val v.dn v.cu a (nI (n + 1)) (upd v.tm a (nI (n + 1))) i 5 with g | ⟨g, g'⟩
  · by_cases ei : i = a
    · subst ei
      rw [upd_e, if_pos rfl] at g
      refine ⟨n + 1, by omega, g, ?_⟩
      rw [g, e, le_nI (by omega) (by omega)]
      omega
    · rw [upd_e, if_neg ei] at g
      obtain ⟨m, hm, em⟩ := h.tmN i hi
      refine ⟨m, by omega, by rw [g, em], ?_⟩
      rw [g]
      exact Int32.le_refl _
  · refine ⟨n + 1, by omega, g, ?_⟩
    by_cases ei : i = a
    · subst ei
      rw [g, e, le_nI (by omega) (by omega)]
      omega
    · rw [upd_e, if_neg ei] at g'
      rw [g]
      exact Int32.le_of_lt g'
theorem J.stand1 {t : Nat} {v : V} (h : J t v) (ht : t < 512) {a n : Nat} (ha : a < 5) (hn : n ≤ t) (e : v.tm a = nI n) (hv : 3 ≤ vtN v.dn v.cu v.kn a (nI (n + 1)) (upd v.tm a (nI (n + 1))) 5) :
    J (t + 1) (V.s_le (V.s_ld (V.s_wi (V.s_tm v (vtT v.dn v.cu a (nI (n + 1)) (upd v.tm a (nI (n + 1))) 5)) (upd v.wi (n + 1) (nI a))) (upd v.ld a (nI (n + 1)))) (upd v.le (n + 1) (nI (a + 1)))) := by
  have hT := h.standT ht ha hn e
  have h1 := h.term_up (s := t + 1) (by omega) _ hT (by omega)
  have hc := Nat.le_trans hv (vtN_ct v.dn v.cu v.kn v.tm ha (nI (n + 1)) (by rw [e, ltN (by omega) (by omega)]; omega))
  have hA : vtT v.dn v.cu a (nI (n + 1)) (upd v.tm a (nI (n + 1))) 5 a = nI (n + 1) := vtT_a v.dn v.cu a _ _ (by rw [upd_e, if_pos rfl]) 5
  have c1 : 3 ≤ ct (fun i => decide (v.tm i < nI (n + 1))) 5 := Nat.le_trans hc (ct_mono 5 (fun i _ q => by rw [Bool.and_eq_true] at q; exact q.1))
  have c2 : 3 ≤ ct (fun i => nb (vtT v.dn v.cu a (nI (n + 1)) (upd v.tm a (nI (n + 1))) 5 i < nI (n + 1))) 5 := Nat.le_trans hc (ct_mono 5 (fun i _ q => by rw [Bool.and_eq_true] at q; exact q.2))
  have hw : v.wi (n + 1) = -1 := by
    refine Classical.byContradiction (fun q => ?_)
    have c3 := h.wi3 (n + 1) (by omega) q
    obtain ⟨i, _, q1, q2⟩ := ct_inter c1 c3
    rw [decide_eq_true_eq] at q1
    simp only [nb, Bool.not_eq_true', decide_eq_false_iff_not] at q2
    exact q2 q1
  have ne1 : ∀ i, i < 5 → nI i ≠ -1 := fun i hi q => absurd (q ▸ nlt0 (p := i) (by omega) : ¬ (-1 : Int32) < 0) (by decide)
  exact J.mk (nc6 := h1.nc6) (ne250 := h1.ne250) (nowb := h1.nowb) (bdn := h1.bdn) (bcu := h1.bcu) (bpa := h1.bpa) (ofb := h1.ofb) (tmN := h1.tmN) (knN := h1.knN) (owv := h1.owv) (thv := h1.thv) (enN := h1.enN) (grN := h1.grN) (wtq := h1.wtq) (wiN := fun k hk => by
      show upd v.wi (n + 1) (nI a) k = -1 ∨ ∃ i, i < 5 ∧ upd v.wi (n + 1) (nI a) k = nI i
      rw [upd_e]
      split
      · exact .inr ⟨a, ha, rfl⟩
      · exact h.wiN k hk) (leN := fun k hk => by
      show upd v.le (n + 1) (nI (a + 1)) k = upd v.wi (n + 1) (nI a) k + 1
      rw [upd_e, upd_e]
      split
      · exact (nI_1 a).symm
      · exact h.leN k hk) (le0 := fun k h1 h2 => by
      show upd v.le (n + 1) (nI (a + 1)) k = 0
      rw [upd_e, if_neg (by omega)]
      exact h.le0 k h1 h2) (wi0 := by
      show upd v.wi (n + 1) (nI a) 0 = -1
      rw [upd_e, if_neg (by omega)]
      exact h.wi0) (ldN := fun i hi => by
      show upd v.ld a (nI (n + 1)) i = -1 ∨ ∃ k m, k ≤ m ∧ m ≤ t + 1 ∧ upd v.ld a (nI (n + 1)) i = nI k ∧ upd v.wi (n + 1) (nI a) k = nI i ∧ _ = nI m
      by_cases ei : i = a
      · subst ei
        refine .inr ⟨n + 1, n + 1, Nat.le_refl _, by omega, ?_, ?_, hA⟩
        · rw [upd_e, if_pos rfl]
        · rw [upd_e, if_pos rfl]
      · rcases h1.ldN i hi with g | ⟨k, m, g1, g2, g3, g4, g5⟩
        · exact .inl (by rw [upd_e, if_neg ei]; exact g)
        · refine .inr ⟨k, m, g1, g2, ?_, ?_, g5⟩
          · rw [upd_e, if_neg ei]
            exact g3
          · have ek : k ≠ n + 1 := fun q => by
              subst q
              exact ne1 i hi (g4.symm.trans hw)
            rw [upd_e, if_neg ek]
            exact g4) (ldM := fun i k hi hk => by
      show upd v.wi (n + 1) (nI a) k = nI i → ∃ m, k ≤ m ∧ m ≤ t + 1 ∧ upd v.ld a (nI (n + 1)) i = nI m
      intro g
      rw [upd_e] at g
      by_cases ek : k = n + 1
      · rw [if_pos ek] at g
        have ei : i = a := (nI_inj (by omega) (by omega) g).symm
        exact ⟨n + 1, by omega, by omega, by rw [upd_e, if_pos ei]⟩
      · rw [if_neg ek] at g
        obtain ⟨m, g1, g2, g3⟩ := h.ldM i k hi hk g
        by_cases ei : i = a
        · subst ei
          refine ⟨n + 1, ?_, by omega, by rw [upd_e, if_pos rfl]⟩
          rcases h.ldN i hi with x | ⟨k', m', x1, x2, x3, x4, x5⟩
          · rw [x] at g3
            exact absurd (g3 ▸ nlt0 (p := m) (by omega) : ¬ (-1 : Int32) < 0) (by decide)
          · rw [x3] at g3
            have y1 := nI_inj (by omega) (by omega) g3
            rw [e] at x5
            have y2 := nI_inj (by omega) (by omega) x5
            omega
        · exact ⟨m, g1, by omega, by rw [upd_e, if_neg ei]; exact g3⟩) (wi3 := fun k hk => by
      show upd v.wi (n + 1) (nI a) k ≠ -1 → _
      intro g
      rw [upd_e] at g
      by_cases ek : k = n + 1
      · subst ek
        exact c2
      · rw [if_neg ek] at g
        exact h1.wi3 k hk g) (elN := h1.elN) (ecN := h1.ecN) (kiN := h1.kiN) (obE := h1.obE) (owE := h1.owE) (enE := h1.enE) (vaE := h1.vaE) (etS := h1.etS) (et3 := h1.et3) (kn3 := h1.kn3) (cl := h1.cl) (lse := h1.lse)
