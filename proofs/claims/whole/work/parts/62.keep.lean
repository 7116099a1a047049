/-! WHAT EACH ACT KEEPS -/
theorem ct_cong {p q : Nat → Bool} : ∀ n, (∀ i, i < n → p i = q i) → ct p n = ct q n
  | 0, _ => rfl
  | n + 1, h => by
    unfold ct
    rw [ct_cong n (fun i hi => h i (by omega)), h n (by omega)]
theorem ct_or1 {p p' : Nat → Bool} {c : Nat} (hc : p c = false) : ∀ n, c < n → (∀ x, x < n → p' x = (p x || decide (x = c))) → ct p' n = ct p n + 1
  | 0, h, _ => by omega
  | n + 1, h, hp => by
    unfold ct
    by_cases e : c = n
    · subst e
      have e1 : ct p' c = ct p c := ct_cong c (fun i hi => by
        rw [hp i (by omega)]
        have : ¬ i = c := by omega
        simp [this])
      rw [e1, hp c (by omega), hc]
      simp
    · rw [ct_or1 hc n (by omega) (fun x hx => hp x (by omega)), hp n (by omega)]
      have : ¬ n = c := fun q => e q.symm
      simp [this]
      omega
theorem ct_lt {p : Nat → Bool} {c : Nat} (hc : p c = false) : ∀ n, c < n → ct p n < n
  | 0, h => by omega
  | n + 1, h => by
    unfold ct
    by_cases e : c = n
    · subst e
      rw [hc]
      have := ct_le p c
      simp
      omega
    · have := ct_lt hc n (by omega)
      split <;> omega
def inq (q : Nat → Int32) : Nat → Nat → Bool
  | 0, _ => false
  | n + 1, x => inq q n x || decide (q n = nI x)
theorem inq_iff (q : Nat → Int32) (x : Nat) : ∀ n, inq q n x = true ↔ ∃ j, j < n ∧ q j = nI x
  | 0 => by simp [inq]
  | n + 1 => by
    unfold inq
    rw [Bool.or_eq_true, inq_iff q x n, decide_eq_true_eq]
    constructor
    · rintro (⟨j, a, b⟩ | h)
      · exact ⟨j, by omega, b⟩
      · exact ⟨n, by omega, h⟩
    · rintro ⟨j, a, b⟩
      by_cases e : j = n
      · subst e; exact .inr b
      · exact .inl ⟨j, by omega, b⟩
theorem inq_ct (q : Nat → Int32) {nc : Nat} (hn : nc ≤ 6) : ∀ N, (∀ j, j < N → ∃ c, c < nc ∧ q j = nI c) → (∀ i j, i < j → j < N → q i ≠ q j) → ct (inq q N) nc = N
  | 0, _, _ => by
    have : ∀ n, ct (inq q 0) n = 0 := by
      intro n
      induction n with
      | zero => rfl
      | succ n ih => unfold ct; rw [ih]; rfl
    exact this nc
  | N + 1, hv, hd => by
    have ih := inq_ct q hn N (fun j hj => hv j (by omega)) (fun i j a b => hd i j a (by omega))
    obtain ⟨c, hc, ec⟩ := hv N (by omega)
    rw [ct_or1 (p := inq q N) (p' := inq q (N + 1)) (c := c) ?_ nc hc ?_, ih]
    · cases e : inq q N c with
      | false => rfl
      | true =>
        obtain ⟨j, a, b⟩ := (inq_iff q c N).mp e
        exact absurd (b.trans ec.symm) (hd j N a (by omega))
    · intro x hx
      show (inq q N x || decide (q N = nI x)) = _
      rw [ec]
      congr 1
      have : (nI c = nI x) = (x = c) := propext ⟨fun g => (nI_inj (by omega) (by omega) g).symm, fun g => by rw [g]⟩
      simp only [this]
/-- who does not wait finds room -/
theorem room {q : Nat → Int32} {nc N c : Nat} (hn : nc ≤ 6) (hv : ∀ j, j < N → ∃ c, c < nc ∧ q j = nI c) (hd : ∀ i j, i < j → j < N → q i ≠ q j) (hc : c < nc) (h : ∀ j, j < N → q j ≠ nI c) : N < 6 := by
  have e := inq_ct q hn N hv hd
  have f : inq q N c = false := by
    cases g : inq q N c with
    | false => rfl
    | true =>
      obtain ⟨j, a, b⟩ := (inq_iff q c N).mp g
      exact absurd b (h j a)
  have := ct_lt f nc hc
  omega
/-- taking out: what is left waits, no one twice, and not the one taken out -/
theorem take_ok {q : Nat → Int32} {nc N : Nat} {c : Int32} (hN : N ≤ 6) (hv : ∀ j, j < N → ∃ c, c < nc ∧ q j = nI c) (hd : ∀ i j, i < j → j < N → q i ≠ q j) :
    tkN q c N ≤ N ∧ (∀ j, j < tkN q c N → ∃ d, d < nc ∧ tkQ q c N j = nI d) ∧ (∀ i j, i < j → j < tkN q c N → tkQ q c N i ≠ tkQ q c N j) ∧ ∀ j, j < tkN q c N → tkQ q c N j ≠ c := by
  unfold tkN tkQ
  rcases plc_cases q c N 0 with ⟨e, h⟩ | ⟨p, _, h2, h3, h4, h5⟩
  · rw [if_pos e, if_pos e]
    exact ⟨Nat.le_refl _, hv, hd, fun j hj => h j (Nat.zero_le _) (by omega)⟩
  · have n1 : ¬ plc q c 0 N = -1 := by rw [h3]; exact plc_ne1 (by omega)
    rw [if_neg n1, if_neg n1, h3, clN (by omega)]
    have hs : ∀ j, j < N - 1 → ∃ k, k < N ∧ k ≠ p ∧ shl q p (N - 1) j = q k ∧ (k = if p ≤ j then j + 1 else j) := by
      intro j hj
      unfold shl
      by_cases g : p ≤ j
      · exact ⟨j + 1, by omega, by omega, by rw [if_pos ⟨g, hj⟩], by rw [if_pos g]⟩
      · exact ⟨j, by omega, by omega, by rw [if_neg (fun x => g x.1)], by rw [if_neg g]⟩
    refine ⟨by omega, fun j hj => ?_, fun i j hij hj => ?_, fun j hj => ?_⟩
    · obtain ⟨k, a, _, b, _⟩ := hs j hj
      rw [b]
      exact hv k a
    · obtain ⟨k, a, _, b, e⟩ := hs i (by omega)
      obtain ⟨k', a', _, b', e'⟩ := hs j hj
      rw [b, b']
      refine hd k k' ?_ a'
      rw [e, e']
      split <;> split <;> omega
    · obtain ⟨k, a, kp, b, _⟩ := hs j hj
      rw [b]
      rcases Nat.lt_or_ge k p with g | g
      · exact h5 k (Nat.zero_le _) g
      · intro x
        exact hd p k (by omega) a (h4.trans x.symm)
theorem qOK_take {n : Int32} {q : Nat → Int32} {nc N : Nat} (h : qOK n q nc) (hn : n = nI N) (hN : N ≤ 6) (c : Int32) : qOK (nI (tkN q c N)) (tkQ q c N) nc := by
  obtain ⟨N', a1, a2, a3, a4⟩ := h
  have e : N' = N := nI_inj (by omega) (by omega) (a2.symm.trans hn)
  subst e
  obtain ⟨b1, b2, b3, _⟩ := take_ok (c := c) hN a3 a4
  exact ⟨_, by omega, rfl, b2, b3⟩
theorem qOK_last {q : Nat → Int32} {nc N c : Nat} (hN : N < 6) (hv : ∀ j, j < N → ∃ c, c < nc ∧ q j = nI c) (hd : ∀ i j, i < j → j < N → q i ≠ q j) (hc : c < nc) (h : ∀ j, j < N → q j ≠ nI c) : qOK (nI (N + 1)) (upd q N (nI c)) nc := by
  refine ⟨N + 1, by omega, rfl, fun j hj => ?_, fun i j hij hj => ?_⟩
  · rw [upd_e]
    split
    · exact ⟨c, hc, rfl⟩
    · exact hv j (by omega)
  · rw [upd_lt _ _ (by omega : i < N), upd_e]
    split
    · exact h i (by omega)
    · exact hd i j hij (by omega)
theorem qOK_first {q : Nat → Int32} {nc N c : Nat} (hN : N < 6) (hv : ∀ j, j < N → ∃ c, c < nc ∧ q j = nI c) (hd : ∀ i j, i < j → j < N → q i ≠ q j) (hc : c < nc) (h : ∀ j, j < N → q j ≠ nI c) : qOK (nI (N + 1)) (upd (shr q N 0) 0 (nI c)) nc := by
  have hs : ∀ j, 0 < j → j < N + 1 → shr q N 0 j = q (j - 1) := by
    intro j h0 hj
    unfold shr
    rw [if_pos ⟨h0, by omega⟩]
  refine ⟨N + 1, by omega, rfl, fun j hj => ?_, fun i j hij hj => ?_⟩
  · rw [upd_e]
    split
    · exact ⟨c, hc, rfl⟩
    · rw [hs j (by omega) hj]
      exact hv _ (by omega)
  · rw [upd_ne _ _ (by omega : j ≠ 0), hs j (by omega) hj, upd_e]
    split
    · exact fun x => h (j - 1) (by omega) x.symm
    · rw [hs i (by omega) (by omega)]
      exact hd _ _ (by omega) (by omega)
theorem J.queue {t : Nat} {v : V} (h : J t v) {th' wt' : Nat → Int32} {q' : Nat → Nat → Int32} (hth : ∀ l, l < 4 → th' l = -1 ∨ ∃ c, c < v.nc ∧ th' l = nI c) (hwt : ∀ l, l < 4 → qOK (wt' l) (q' l) v.nc) : J t (V.s_q (V.s_wt (V.s_th v (th')) (wt')) (q')) := J.mk (nc6 := h.nc6) (ne250 := h.ne250) (nowb := h.nowb) (bdn := h.bdn) (bcu := h.bcu) (bpa := h.bpa) (ofb := h.ofb) (tmN := h.tmN) (knN := h.knN) (owv := h.owv) (thv := hth) (enN := h.enN) (grN := h.grN) (wtq := hwt) (wiN := h.wiN) (leN := h.leN) (le0 := h.le0) (wi0 := h.wi0) (ldN := h.ldN) (ldM := h.ldM) (wi3 := h.wi3) (elN := h.elN) (ecN := h.ecN) (kiN := h.kiN) (obE := h.obE) (owE := h.owE) (enE := h.enE) (vaE := h.vaE) (etS := h.etS) (et3 := h.et3) (kn3 := h.kn3) (cl := h.cl) (lse := h.lse)
theorem J.kpv {t : Nat} {v : V} (h : J t v) (c l : Nat) : J t (v.kpv c l) := J.mk (nc6 := h.nc6) (ne250 := h.ne250) (nowb := h.nowb) (bdn := h.bdn) (bcu := h.bcu) (bpa := h.bpa) (ofb := h.ofb) (tmN := h.tmN) (knN := h.knN) (owv := h.owv) (thv := h.thv) (enN := h.enN) (grN := h.grN) (wtq := h.wtq) (wiN := h.wiN) (leN := h.leN) (le0 := h.le0) (wi0 := h.wi0) (ldN := h.ldN) (ldM := h.ldM) (wi3 := h.wi3) (elN := h.elN) (ecN := h.ecN) (kiN := h.kiN) (obE := h.obE) (owE := h.owE) (enE := h.enE) (vaE := h.vaE) (etS := h.etS) (et3 := h.et3) (kn3 := h.kn3) (cl := h.cl) (lse := h.lse)
theorem thU {th : Nat → Int32} {nc l : Nat} {x : Int32} (h : ∀ l, l < 4 → th l = -1 ∨ ∃ c, c < nc ∧ th l = nI c) (hx : x = -1 ∨ ∃ c, c < nc ∧ x = nI c) : ∀ k, k < 4 → upd th l x k = -1 ∨ ∃ c, c < nc ∧ upd th l x k = nI c := by
  intro k hk
  rw [upd_e]
  split
  · exact hx
  · exact h k hk
theorem wtU {wt : Nat → Int32} {q : Nat → Nat → Int32} {nc l : Nat} {n : Int32} {f : Nat → Int32} (h : ∀ l, l < 4 → qOK (wt l) (q l) nc) (hx : qOK n f nc) : ∀ k, k < 4 → qOK (upd wt l n k) (updq q l f k) nc := by
  intro k hk
  rw [upd_e]
  unfold updq
  split
  · exact hx
  · exact h k hk
/-! leases, summed -/
theorem sub64 {a b : Nat} (ha : a < 1073741824) (hb : b < 1073741824) : (nI a - nI b).toInt64 = Int64.ofInt a - Int64.ofInt b := by
  rw [← Int64.ofInt_int32ToInt, sub_toInt (by rw [nI_toInt (by omega), nI_toInt (by omega)]; omega) (by rw [nI_toInt (by omega), nI_toInt (by omega)]; omega), nI_toInt (by omega), nI_toInt (by omega), Int64.ofInt_sub]
def gL (ow en gr : Nat → Int32) (i : Nat) : Int64 := if ow i < 0 then 0 else (en i - gr i).toInt64
theorem sL_upd {ow en gr ow' en' gr' : Nat → Int32} {L L' : Int64} {l : Nat} (hl : l < 4) (h : ∀ i, i < 4 → i ≠ l → gL ow' en' gr' i = gL ow en gr i) : sL ow' en' gr' L' 4 = sL ow en gr L 4 + (L' - L) + (gL ow' en' gr' l - gL ow en gr l) := by
  have e : ∀ (a b c : Nat → Int32) (x : Int64), sL a b c x 4 = x + gL a b c 0 + gL a b c 1 + gL a b c 2 + gL a b c 3 := fun _ _ _ _ => rfl
  rw [e, e]
  have : l = 0 ∨ l = 1 ∨ l = 2 ∨ l = 3 := by omega
  rcases this with g | g | g | g <;> subst g
  · rw [h 1 (by decide) (by decide), h 2 (by decide) (by decide), h 3 (by decide) (by decide)]; grind
  · rw [h 0 (by decide) (by decide), h 2 (by decide) (by decide), h 3 (by decide) (by decide)]; grind
  · rw [h 0 (by decide) (by decide), h 1 (by decide) (by decide), h 3 (by decide) (by decide)]; grind
  · rw [h 0 (by decide) (by decide), h 1 (by decide) (by decide), h 2 (by decide) (by decide)]; grind
