/-! THE INVARIANT -/
def isB (x : Int32) : Prop := x = 0 ∨ x = 1
/-- a queue: its length, its row; all clients, no one twice -/
def qOK (n : Int32) (q : Nat → Int32) (nc : Nat) : Prop := ∃ N, N ≤ 6 ∧ n = nI N ∧ (∀ j, j < N → ∃ c, c < nc ∧ q j = nI c) ∧ ∀ i j, i < j → j < N → q i ≠ q j
/-- what holds before turn t, of the view v -/
def J (t : Nat) (v : V) : Prop := ∀ P : Prop, ((v.nc ≤ 6) → (v.ne ≤ 250) → (v.now ≤ 60 * t) → (∀ a, a < 5 → isB (v.dn a)) → (∀ a, a < 25 → isB (v.cu a)) → (∀ a, a < 6 → isB (v.pa a)) → (∀ c, c < 6 → -2 ≤ (v.of c).toInt ∧ (v.of c).toInt ≤ 2) → (∀ a, a < 5 → ∃ n, n ≤ t ∧ v.tm a = nI n) → (∀ a, a < 5 → ∃ k, k ≤ v.ne ∧ v.kn a = nI k) → (∀ l, l < 4 → v.ow l = -1 ∨ ∃ c, c < v.nc ∧ v.ow l = nI c) → (∀ l, l < 4 → v.th l = -1 ∨ ∃ c, c < v.nc ∧ v.th l = nI c) → (∀ l, l < 4 → ∃ e, e ≤ v.now + 12 ∧ v.en l = nI e) → (∀ l, l < 4 → ∃ g, g ≤ v.now ∧ v.gr l = nI g) → (∀ l, l < 4 → qOK (v.wt l) (v.q l) v.nc) → (∀ n, n < 513 → v.wi n = -1 ∨ ∃ i, i < 5 ∧ v.wi n = nI i) → (∀ n, n < 513 → v.le n = v.wi n + 1) → (∀ n, 513 ≤ n → n < 600 → v.le n = 0) → (v.wi 0 = -1) → (∀ i, i < 5 → v.ld i = -1 ∨ ∃ n m, n ≤ m ∧ m ≤ t ∧ v.ld i = nI n ∧ v.wi n = nI i ∧ v.tm i = nI m) → (∀ i n, i < 5 → n < 513 → v.wi n = nI i → ∃ m, n ≤ m ∧ m ≤ t ∧ v.ld i = nI m) → (∀ n, n < 513 → v.wi n ≠ -1 → 3 ≤ ct (fun i => nb (v.tm i < nI n)) 5) → (∀ k, k < v.ne → ∃ l, l < 4 ∧ v.el k = nI l) → (∀ k, k < v.ne → ∃ c, c < v.nc ∧ v.ec k = nI c) → (∀ k, k < v.ne → v.ki k = 108 ∨ v.ki k = 114 ∨ v.ki k = 117 ∨ v.ki k = 118) → (∀ l k, l < 4 → k ≤ v.ne → obC v.ki v.ec v.el (nI l) k = obM v.ki v.ec v.el (nI l) k) → (∀ l, l < 4 → v.ow l = obC v.ki v.ec v.el (nI l) v.ne) → (∀ l, l < 4 → v.en l = leL v.ki v.el v.de (nI l) v.ne) → (∀ l, l < 4 → v.va l = lvL v.ki v.el v.de (nI l) v.ne) → (∀ k, 0 < k → k < v.ne → v.et (k - 1) ≤ v.et k) → (0 < v.ne → 3 ≤ ct (fun i => nb (v.tm i < v.et (v.ne - 1))) 5) → (0 < v.ne → 3 ≤ ct (fun i => decide (v.kn i = nI v.ne)) 5) → (∀ c l, c < 6 → l < 4 → v.ls (c * 4 + l) = 0 ∨ ∃ τ, τ ≤ v.now ∧ -2 ≤ (v.lc (c * 4 + l)).toInt ∧ (v.lc (c * 4 + l)).toInt ≤ τ + 2 ∧ (τ + 12 ≤ v.now ∨ (v.ow l = nI c ∧ ∃ e, τ + 12 ≤ e ∧ e ≤ v.now + 12 ∧ v.en l = nI e))) → (v.lt = sL v.ow v.en v.gr v.lm 4) → P) → P
theorem J.mk {t : Nat} {v : V} (nc6 : v.nc ≤ 6) (ne250 : v.ne ≤ 250) (nowb : v.now ≤ 60 * t) (bdn : ∀ a, a < 5 → isB (v.dn a)) (bcu : ∀ a, a < 25 → isB (v.cu a)) (bpa : ∀ a, a < 6 → isB (v.pa a)) (ofb : ∀ c, c < 6 → -2 ≤ (v.of c).toInt ∧ (v.of c).toInt ≤ 2) (tmN : ∀ a, a < 5 → ∃ n, n ≤ t ∧ v.tm a = nI n) (knN : ∀ a, a < 5 → ∃ k, k ≤ v.ne ∧ v.kn a = nI k) (owv : ∀ l, l < 4 → v.ow l = -1 ∨ ∃ c, c < v.nc ∧ v.ow l = nI c) (thv : ∀ l, l < 4 → v.th l = -1 ∨ ∃ c, c < v.nc ∧ v.th l = nI c) (enN : ∀ l, l < 4 → ∃ e, e ≤ v.now + 12 ∧ v.en l = nI e) (grN : ∀ l, l < 4 → ∃ g, g ≤ v.now ∧ v.gr l = nI g) (wtq : ∀ l, l < 4 → qOK (v.wt l) (v.q l) v.nc) (wiN : ∀ n, n < 513 → v.wi n = -1 ∨ ∃ i, i < 5 ∧ v.wi n = nI i) (leN : ∀ n, n < 513 → v.le n = v.wi n + 1) (le0 : ∀ n, 513 ≤ n → n < 600 → v.le n = 0) (wi0 : v.wi 0 = -1) (ldN : ∀ i, i < 5 → v.ld i = -1 ∨ ∃ n m, n ≤ m ∧ m ≤ t ∧ v.ld i = nI n ∧ v.wi n = nI i ∧ v.tm i = nI m) (ldM : ∀ i n, i < 5 → n < 513 → v.wi n = nI i → ∃ m, n ≤ m ∧ m ≤ t ∧ v.ld i = nI m) (wi3 : ∀ n, n < 513 → v.wi n ≠ -1 → 3 ≤ ct (fun i => nb (v.tm i < nI n)) 5) (elN : ∀ k, k < v.ne → ∃ l, l < 4 ∧ v.el k = nI l) (ecN : ∀ k, k < v.ne → ∃ c, c < v.nc ∧ v.ec k = nI c) (kiN : ∀ k, k < v.ne → v.ki k = 108 ∨ v.ki k = 114 ∨ v.ki k = 117 ∨ v.ki k = 118) (obE : ∀ l k, l < 4 → k ≤ v.ne → obC v.ki v.ec v.el (nI l) k = obM v.ki v.ec v.el (nI l) k) (owE : ∀ l, l < 4 → v.ow l = obC v.ki v.ec v.el (nI l) v.ne) (enE : ∀ l, l < 4 → v.en l = leL v.ki v.el v.de (nI l) v.ne) (vaE : ∀ l, l < 4 → v.va l = lvL v.ki v.el v.de (nI l) v.ne) (etS : ∀ k, 0 < k → k < v.ne → v.et (k - 1) ≤ v.et k) (et3 : 0 < v.ne → 3 ≤ ct (fun i => nb (v.tm i < v.et (v.ne - 1))) 5) (kn3 : 0 < v.ne → 3 ≤ ct (fun i => decide (v.kn i = nI v.ne)) 5) (cl : ∀ c l, c < 6 → l < 4 → v.ls (c * 4 + l) = 0 ∨ ∃ τ, τ ≤ v.now ∧ -2 ≤ (v.lc (c * 4 + l)).toInt ∧ (v.lc (c * 4 + l)).toInt ≤ τ + 2 ∧ (τ + 12 ≤ v.now ∨ (v.ow l = nI c ∧ ∃ e, τ + 12 ≤ e ∧ e ≤ v.now + 12 ∧ v.en l = nI e))) (lse : v.lt = sL v.ow v.en v.gr v.lm 4) : J t v := fun P k => k nc6 ne250 nowb bdn bcu bpa ofb tmN knN owv thv enN grN wtq wiN leN le0 wi0 ldN ldM wi3 elN ecN kiN obE owE enE vaE etS et3 kn3 cl lse
theorem J.nc6 {t : Nat} {v : V} (h : J t v) : v.nc ≤ 6 := h _ (fun x _ _ _ _ _ _ _ _ _ _ _ _ _ _ _ _ _ _ _ _ _ _ _ _ _ _ _ _ _ _ _ _ => x)
theorem J.ne250 {t : Nat} {v : V} (h : J t v) : v.ne ≤ 250 := h _ (fun _ x _ _ _ _ _ _ _ _ _ _ _ _ _ _ _ _ _ _ _ _ _ _ _ _ _ _ _ _ _ _ _ => x)
theorem J.nowb {t : Nat} {v : V} (h : J t v) : v.now ≤ 60 * t := h _ (fun _ _ x _ _ _ _ _ _ _ _ _ _ _ _ _ _ _ _ _ _ _ _ _ _ _ _ _ _ _ _ _ _ => x)
theorem J.bdn {t : Nat} {v : V} (h : J t v) : ∀ a, a < 5 → isB (v.dn a) := h _ (fun _ _ _ x _ _ _ _ _ _ _ _ _ _ _ _ _ _ _ _ _ _ _ _ _ _ _ _ _ _ _ _ _ => x)
theorem J.bcu {t : Nat} {v : V} (h : J t v) : ∀ a, a < 25 → isB (v.cu a) := h _ (fun _ _ _ _ x _ _ _ _ _ _ _ _ _ _ _ _ _ _ _ _ _ _ _ _ _ _ _ _ _ _ _ _ => x)
theorem J.bpa {t : Nat} {v : V} (h : J t v) : ∀ a, a < 6 → isB (v.pa a) := h _ (fun _ _ _ _ _ x _ _ _ _ _ _ _ _ _ _ _ _ _ _ _ _ _ _ _ _ _ _ _ _ _ _ _ => x)
theorem J.ofb {t : Nat} {v : V} (h : J t v) : ∀ c, c < 6 → -2 ≤ (v.of c).toInt ∧ (v.of c).toInt ≤ 2 := h _ (fun _ _ _ _ _ _ x _ _ _ _ _ _ _ _ _ _ _ _ _ _ _ _ _ _ _ _ _ _ _ _ _ _ => x)
theorem J.tmN {t : Nat} {v : V} (h : J t v) : ∀ a, a < 5 → ∃ n, n ≤ t ∧ v.tm a = nI n := h _ (fun _ _ _ _ _ _ _ x _ _ _ _ _ _ _ _ _ _ _ _ _ _ _ _ _ _ _ _ _ _ _ _ _ => x)
theorem J.knN {t : Nat} {v : V} (h : J t v) : ∀ a, a < 5 → ∃ k, k ≤ v.ne ∧ v.kn a = nI k := h _ (fun _ _ _ _ _ _ _ _ x _ _ _ _ _ _ _ _ _ _ _ _ _ _ _ _ _ _ _ _ _ _ _ _ => x)
theorem J.owv {t : Nat} {v : V} (h : J t v) : ∀ l, l < 4 → v.ow l = -1 ∨ ∃ c, c < v.nc ∧ v.ow l = nI c := h _ (fun _ _ _ _ _ _ _ _ _ x _ _ _ _ _ _ _ _ _ _ _ _ _ _ _ _ _ _ _ _ _ _ _ => x)
theorem J.thv {t : Nat} {v : V} (h : J t v) : ∀ l, l < 4 → v.th l = -1 ∨ ∃ c, c < v.nc ∧ v.th l = nI c := h _ (fun _ _ _ _ _ _ _ _ _ _ x _ _ _ _ _ _ _ _ _ _ _ _ _ _ _ _ _ _ _ _ _ _ => x)
theorem J.enN {t : Nat} {v : V} (h : J t v) : ∀ l, l < 4 → ∃ e, e ≤ v.now + 12 ∧ v.en l = nI e := h _ (fun _ _ _ _ _ _ _ _ _ _ _ x _ _ _ _ _ _ _ _ _ _ _ _ _ _ _ _ _ _ _ _ _ => x)
theorem J.grN {t : Nat} {v : V} (h : J t v) : ∀ l, l < 4 → ∃ g, g ≤ v.now ∧ v.gr l = nI g := h _ (fun _ _ _ _ _ _ _ _ _ _ _ _ x _ _ _ _ _ _ _ _ _ _ _ _ _ _ _ _ _ _ _ _ => x)
theorem J.wtq {t : Nat} {v : V} (h : J t v) : ∀ l, l < 4 → qOK (v.wt l) (v.q l) v.nc := h _ (fun _ _ _ _ _ _ _ _ _ _ _ _ _ x _ _ _ _ _ _ _ _ _ _ _ _ _ _ _ _ _ _ _ => x)
theorem J.wiN {t : Nat} {v : V} (h : J t v) : ∀ n, n < 513 → v.wi n = -1 ∨ ∃ i, i < 5 ∧ v.wi n = nI i := h _ (fun _ _ _ _ _ _ _ _ _ _ _ _ _ _ x _ _ _ _ _ _ _ _ _ _ _ _ _ _ _ _ _ _ => x)
theorem J.leN {t : Nat} {v : V} (h : J t v) : ∀ n, n < 513 → v.le n = v.wi n + 1 := h _ (fun _ _ _ _ _ _ _ _ _ _ _ _ _ _ _ x _ _ _ _ _ _ _ _ _ _ _ _ _ _ _ _ _ => x)
theorem J.le0 {t : Nat} {v : V} (h : J t v) : ∀ n, 513 ≤ n → n < 600 → v.le n = 0 := h _ (fun _ _ _ _ _ _ _ _ _ _ _ _ _ _ _ _ x _ _ _ _ _ _ _ _ _ _ _ _ _ _ _ _ => x)
theorem J.wi0 {t : Nat} {v : V} (h : J t v) : v.wi 0 = -1 := h _ (fun _ _ _ _ _ _ _ _ _ _ _ _ _ _ _ _ _ x _ _ _ _ _ _ _ _ _ _ _ _ _ _ _ => x)
theorem J.ldN {t : Nat} {v : V} (h : J t v) : ∀ i, i < 5 → v.ld i = -1 ∨ ∃ n m, n ≤ m ∧ m ≤ t ∧ v.ld i = nI n ∧ v.wi n = nI i ∧ v.tm i = nI m := h _ (fun _ _ _ _ _ _ _ _ _ _ _ _ _ _ _ _ _ _ x _ _ _ _ _ _ _ _ _ _ _ _ _ _ => x)
theorem J.ldM {t : Nat} {v : V} (h : J t v) : ∀ i n, i < 5 → n < 513 → v.wi n = nI i → ∃ m, n ≤ m ∧ m ≤ t ∧ v.ld i = nI m := h _ (fun _ _ _ _ _ _ _ _ _ _ _ _ _ _ _ _ _ _ _ x _ _ _ _ _ _ _ _ _ _ _ _ _ => x)
theorem J.wi3 {t : Nat} {v : V} (h : J t v) : ∀ n, n < 513 → v.wi n ≠ -1 → 3 ≤ ct (fun i => nb (v.tm i < nI n)) 5 := h _ (fun _ _ _ _ _ _ _ _ _ _ _ _ _ _ _ _ _ _ _ _ x _ _ _ _ _ _ _ _ _ _ _ _ => x)
theorem J.elN {t : Nat} {v : V} (h : J t v) : ∀ k, k < v.ne → ∃ l, l < 4 ∧ v.el k = nI l := h _ (fun _ _ _ _ _ _ _ _ _ _ _ _ _ _ _ _ _ _ _ _ _ x _ _ _ _ _ _ _ _ _ _ _ => x)
theorem J.ecN {t : Nat} {v : V} (h : J t v) : ∀ k, k < v.ne → ∃ c, c < v.nc ∧ v.ec k = nI c := h _ (fun _ _ _ _ _ _ _ _ _ _ _ _ _ _ _ _ _ _ _ _ _ _ x _ _ _ _ _ _ _ _ _ _ => x)
theorem J.kiN {t : Nat} {v : V} (h : J t v) : ∀ k, k < v.ne → v.ki k = 108 ∨ v.ki k = 114 ∨ v.ki k = 117 ∨ v.ki k = 118 := h _ (fun _ _ _ _ _ _ _ _ _ _ _ _ _ _ _ _ _ _ _ _ _ _ _ x _ _ _ _ _ _ _ _ _ => x)
theorem J.obE {t : Nat} {v : V} (h : J t v) : ∀ l k, l < 4 → k ≤ v.ne → obC v.ki v.ec v.el (nI l) k = obM v.ki v.ec v.el (nI l) k := h _ (fun _ _ _ _ _ _ _ _ _ _ _ _ _ _ _ _ _ _ _ _ _ _ _ _ x _ _ _ _ _ _ _ _ => x)
theorem J.owE {t : Nat} {v : V} (h : J t v) : ∀ l, l < 4 → v.ow l = obC v.ki v.ec v.el (nI l) v.ne := h _ (fun _ _ _ _ _ _ _ _ _ _ _ _ _ _ _ _ _ _ _ _ _ _ _ _ _ x _ _ _ _ _ _ _ => x)
theorem J.enE {t : Nat} {v : V} (h : J t v) : ∀ l, l < 4 → v.en l = leL v.ki v.el v.de (nI l) v.ne := h _ (fun _ _ _ _ _ _ _ _ _ _ _ _ _ _ _ _ _ _ _ _ _ _ _ _ _ _ x _ _ _ _ _ _ => x)
theorem J.vaE {t : Nat} {v : V} (h : J t v) : ∀ l, l < 4 → v.va l = lvL v.ki v.el v.de (nI l) v.ne := h _ (fun _ _ _ _ _ _ _ _ _ _ _ _ _ _ _ _ _ _ _ _ _ _ _ _ _ _ _ x _ _ _ _ _ => x)
theorem J.etS {t : Nat} {v : V} (h : J t v) : ∀ k, 0 < k → k < v.ne → v.et (k - 1) ≤ v.et k := h _ (fun _ _ _ _ _ _ _ _ _ _ _ _ _ _ _ _ _ _ _ _ _ _ _ _ _ _ _ _ x _ _ _ _ => x)
theorem J.et3 {t : Nat} {v : V} (h : J t v) : 0 < v.ne → 3 ≤ ct (fun i => nb (v.tm i < v.et (v.ne - 1))) 5 := h _ (fun _ _ _ _ _ _ _ _ _ _ _ _ _ _ _ _ _ _ _ _ _ _ _ _ _ _ _ _ _ x _ _ _ => x)
theorem J.kn3 {t : Nat} {v : V} (h : J t v) : 0 < v.ne → 3 ≤ ct (fun i => decide (v.kn i = nI v.ne)) 5 := h _ (fun _ _ _ _ _ _ _ _ _ _ _ _ _ _ _ _ _ _ _ _ _ _ _ _ _ _ _ _ _ _ x _ _ => x)
theorem J.cl {t : Nat} {v : V} (h : J t v) : ∀ c l, c < 6 → l < 4 → v.ls (c * 4 + l) = 0 ∨ ∃ τ, τ ≤ v.now ∧ -2 ≤ (v.lc (c * 4 + l)).toInt ∧ (v.lc (c * 4 + l)).toInt ≤ τ + 2 ∧ (τ + 12 ≤ v.now ∨ (v.ow l = nI c ∧ ∃ e, τ + 12 ≤ e ∧ e ≤ v.now + 12 ∧ v.en l = nI e)) := h _ (fun _ _ _ _ _ _ _ _ _ _ _ _ _ _ _ _ _ _ _ _ _ _ _ _ _ _ _ _ _ _ _ x _ => x)
theorem J.lse {t : Nat} {v : V} (h : J t v) : v.lt = sL v.ow v.en v.gr v.lm 4 := h _ (fun _ _ _ _ _ _ _ _ _ _ _ _ _ _ _ _ _ _ _ _ _ _ _ _ _ _ _ _ _ _ _ _ x => x)
def Inv (t : Nat) (w : St) : Prop := ∃ v, R v v w ∧ J t v
theorem J.mono {t : Nat} {v : V} (h : J t v) : J (t + 1) v :=
  J.mk (nc6 := h.nc6) (ne250 := h.ne250) (nowb := by have := h.nowb; omega) (bdn := h.bdn) (bcu := h.bcu) (bpa := h.bpa) (ofb := h.ofb) (tmN := fun a ha => by obtain ⟨n, g, e⟩ := h.tmN a ha; exact ⟨n, by omega, e⟩) (knN := h.knN) (owv := h.owv) (thv := h.thv) (enN := h.enN) (grN := h.grN) (wtq := h.wtq) (wiN := h.wiN) (leN := h.leN) (le0 := h.le0) (wi0 := h.wi0) (ldN := fun i hi => by
      rcases h.ldN i hi with e | ⟨n, m, a, b, c⟩
      · exact .inl e
      · exact .inr ⟨n, m, a, by omega, c⟩) (ldM := fun i n hi hn e => by obtain ⟨m, a, b, c⟩ := h.ldM i n hi hn e; exact ⟨m, a, by omega, c⟩) (wi3 := h.wi3) (elN := h.elN) (ecN := h.ecN) (kiN := h.kiN) (obE := h.obE) (owE := h.owE) (enE := h.enE) (vaE := h.vaE) (etS := h.etS) (et3 := h.et3) (kn3 := h.kn3) (cl := h.cl) (lse := h.lse)
theorem Inv.mono {t : Nat} {w : St} (h : Inv t w) : Inv (t + 1) w := by obtain ⟨v, a, b⟩ := h; exact ⟨v, a, b.mono⟩
/-! arguments -/
theorem ncase (p : Int32) (N : Nat) (hN : N < 2147483648) : (∃ a, a < N ∧ p = nI a) ∨ p < 0 ∨ (¬ p < 0 ∧ nI N ≤ p) := by
  by_cases h0 : p < 0
  · exact .inr (.inl h0)
  · by_cases h1 : nI N ≤ p
    · exact .inr (.inr ⟨h0, h1⟩)
    · have a := Int32.not_lt.mp h0
      have b := Int32.not_le.mp h1
      rw [Int32.le_iff_toInt_le] at a
      rw [Int32.lt_iff_toInt_lt, nI_toInt hN] at b
      have z : (0 : Int32).toInt = 0 := rfl
      rw [z] at a
      refine .inl ⟨p.toInt.toNat, by omega, ?_⟩
      apply Int32.toInt_inj.mp
      rw [nI_toInt (by omega)]
      omega
/-- a number that is no index: the tests of both sides -/
theorem bad_t {p : Int32} {N : Nat} (hN : N + 1 < 2147483648) (h : p < 0 ∨ (¬ p < 0 ∧ nI (N + 1) ≤ p)) (A B : Prop) : ((p < 0 → A) ∧ (¬ p < 0 → (p < nI (N + 1) → B) ∧ (¬ p < nI (N + 1) → A))) ↔ A := by
  rcases h with h | ⟨h, g⟩
  · simp [h]
  · have g' : ¬ p < nI (N + 1) := Int32.not_lt.mpr g
    simp [h, g']
theorem bad_m {p : Int32} {N : Nat} (hN : N + 1 < 2147483648) (h : p < 0 ∨ (¬ p < 0 ∧ nI (N + 1) ≤ p)) (A B : Prop) : ((p < 0 → A) ∧ (¬ p < 0 → (nI N < p → A) ∧ (¬ nI N < p → B))) ↔ A := by
  rcases h with h | ⟨h, g⟩
  · simp [h]
  · have g' : nI N < p := by
      refine Int32.lt_of_lt_of_le ?_ g
      rw [ltN (by omega) (by omega)]
      omega
    simp [h, g']
theorem ok_t {a N : Nat} (hN : N < 2147483648) (h : a < N) (A B : Prop) : ((nI a < 0 → A) ∧ (¬ nI a < 0 → (nI a < nI N → B) ∧ (¬ nI a < nI N → A))) ↔ B := by
  have h0 := nlt0 (p := a) (by omega)
  have h1 : nI a < nI N := (ltN (by omega) hN).mpr h
  simp [h0, h1]
theorem ok_m {a N : Nat} (hN : N + 1 < 2147483648) (h : a < N + 1) (A B : Prop) : ((nI a < 0 → A) ∧ (¬ nI a < 0 → (nI N < nI a → A) ∧ (¬ nI N < nI a → B))) ↔ B := by
  have h0 := nlt0 (p := a) (by omega)
  have h1 : ¬ nI N < nI a := by rw [ltN (by omega) (by omega)]; omega
  simp [h0, h1]
/-- no index below N -/
def noix (p : Int32) (N : Nat) : Prop := p < 0 ∨ (¬ p < 0 ∧ nI N ≤ p)
theorem ixc (p : Int32) (N : Nat) (hN : N < 2147483648) : (∃ a, a < N ∧ p = nI a) ∨ noix p N := ncase p N hN
/-! the class's checks -/
theorem ckM {a : Nat} (h : a < 5) {w : St} {P : St → Prop} {px} : wpX4_checkMember (nI a) w P px ↔ P w := ok_t (N := 5) (by decide) h _ _
theorem ckM' {p : Int32} (h : noix p 5) {w : St} {P : St → Prop} {px} : wpX4_checkMember p w P px ↔ px "java/lang/IndexOutOfBoundsException" w := bad_t (N := 4) (by decide) h _ _
theorem ckL {a : Nat} (h : a < 4) {w : St} {P : St → Prop} {px} : wpX4_checkLock (nI a) w P px ↔ P w := ok_t (N := 4) (by decide) h _ _
theorem ckL' {p : Int32} (h : noix p 4) {w : St} {P : St → Prop} {px} : wpX4_checkLock p w P px ↔ px "java/lang/IndexOutOfBoundsException" w := bad_t (N := 3) (by decide) h _ _
theorem ckC {a N : Nat} (hN : N ≤ 6) {w : St} (hn : w.1 66 0 = nI N) (h : a < N) {P : St → Prop} {px} : wpX4_checkClient (nI a) w P px ↔ P w := by
  unfold wpX4_checkClient
  rw [hn]
  exact ok_t (N := N) (by omega) h _ _
theorem noix_t {p : Int32} {N : Nat} (h : noix p N) (A B : Prop) : ((p < 0 → A) ∧ (¬ p < 0 → (p < nI N → B) ∧ (¬ p < nI N → A))) ↔ A := by
  rcases h with h | ⟨h, g⟩
  · simp [h]
  · have g' : ¬ p < nI N := Int32.not_lt.mpr g
    simp [h, g']
theorem ckC' {p : Int32} {N : Nat} {w : St} (hn : w.1 66 0 = nI N) (h : noix p N) {P : St → Prop} {px} : wpX4_checkClient p w P px ↔ px "java/util/NoSuchElementException" w := by
  unfold wpX4_checkClient
  rw [hn]
  exact noix_t h _ _
theorem ckE {a N : Nat} (hN : N ≤ 250) {w : St} (hn : w.1 65 0 = nI N) (h : a < N) {P : St → Prop} {px} : wpX4_checkEntry (nI a) w P px ↔ P w := by
  unfold wpX4_checkEntry
  rw [hn]
  exact ok_t (N := N) (by omega) h _ _
theorem ckE' {p : Int32} {N : Nat} {w : St} (hn : w.1 65 0 = nI N) (h : noix p N) {P : St → Prop} {px} : wpX4_checkEntry p w P px ↔ px "java/util/NoSuchElementException" w := by
  unfold wpX4_checkEntry
  rw [hn]
  exact noix_t h _ _
/-! the model's checks -/
theorem nb0 : (narrow .boolean (.int 0) = .int 0) := by decide
theorem nb1 : (narrow .boolean (.int 1) = .int 1) := by decide
theorem imM {a : Nat} (h : a < 5) {w : St} {P : Int32 → St → Prop} : wpX5_isMember (nI a) w P ↔ P 1 w := by
  unfold wpX5_isMember wpX5_in
  rw [show (4 : Int32) = nI 4 from rfl, ok_m (N := 4) (by decide) h]
  exact ⟨fun h => h.2, fun h => ⟨nb1, h⟩⟩
theorem imM' {p : Int32} (h : noix p 5) {w : St} {P : Int32 → St → Prop} : wpX5_isMember p w P ↔ P 0 w := by
  unfold wpX5_isMember wpX5_in
  rw [show (4 : Int32) = nI 4 from rfl, bad_m (N := 4) (by decide) h]
  exact ⟨fun h => h.2, fun h => ⟨nb0, h⟩⟩
theorem imL {a : Nat} (h : a < 4) {w : St} {P : Int32 → St → Prop} : wpX5_isLock (nI a) w P ↔ P 1 w := by
  unfold wpX5_isLock wpX5_in
  rw [show (3 : Int32) = nI 3 from rfl, ok_m (N := 3) (by decide) h]
  exact ⟨fun h => h.2, fun h => ⟨nb1, h⟩⟩
theorem imL' {p : Int32} (h : noix p 4) {w : St} {P : Int32 → St → Prop} : wpX5_isLock p w P ↔ P 0 w := by
  unfold wpX5_isLock wpX5_in
  rw [show (3 : Int32) = nI 3 from rfl, bad_m (N := 3) (by decide) h]
  exact ⟨fun h => h.2, fun h => ⟨nb0, h⟩⟩
theorem in_ok {a N : Nat} (hN : N < 2147483648) (h : a < N) {w : St} {P : Int32 → St → Prop} : wpX5_in (nI a) 0 (nI N - 1) w P ↔ P 1 w := by
  unfold wpX5_in
  obtain ⟨M, rfl⟩ : ∃ M, N = M + 1 := ⟨N - 1, by omega⟩
  rw [sub1 (by omega) hN, Nat.add_sub_cancel, ok_m (by omega) h]
theorem in_no {p : Int32} {N : Nat} (hN : N < 2147483648) (h : noix p N) {w : St} {P : Int32 → St → Prop} : wpX5_in p 0 (nI N - 1) w P ↔ P 0 w := by
  unfold wpX5_in
  rcases Nat.eq_zero_or_pos N with e | e
  · subst e
    rcases h with h | ⟨h, g⟩
    · simp [h]
    · have g' : nI 0 - 1 < p := Int32.lt_of_lt_of_le (by decide) g
      simp [h, g']
  · obtain ⟨M, rfl⟩ : ∃ M, N = M + 1 := ⟨N - 1, by omega⟩
    rw [sub1 (by omega) hN, Nat.add_sub_cancel, bad_m (by omega) h]
theorem imC {a N : Nat} (hN : N ≤ 6) {w : St} (hn : w.1 69 0 = nI N) (h : a < N) {P : Int32 → St → Prop} : wpX5_isClient (nI a) w P ↔ P 1 w := by
  unfold wpX5_isClient
  rw [hn, in_ok (by omega) h]
  exact ⟨fun h => h.2, fun h => ⟨nb1, h⟩⟩
theorem imC' {p : Int32} {N : Nat} (hN : N ≤ 6) {w : St} (hn : w.1 69 0 = nI N) (h : noix p N) {P : Int32 → St → Prop} : wpX5_isClient p w P ↔ P 0 w := by
  unfold wpX5_isClient
  rw [hn, in_no (by omega) h]
  exact ⟨fun h => h.2, fun h => ⟨nb0, h⟩⟩
theorem imE {a N : Nat} (hN : N ≤ 250) {w : St} (hn : w.1 70 0 = nI N) (h : a < N) {P : Int32 → St → Prop} : wpX5_isEntry (nI a) w P ↔ P 1 w := by
  unfold wpX5_isEntry
  rw [hn, in_ok (by omega) h]
  exact ⟨fun h => h.2, fun h => ⟨nb1, h⟩⟩
theorem imE' {p : Int32} {N : Nat} (hN : N ≤ 250) {w : St} (hn : w.1 70 0 = nI N) (h : noix p N) {P : Int32 → St → Prop} : wpX5_isEntry p w P ↔ P 0 w := by
  unfold wpX5_isEntry
  rw [hn, in_no (by omega) h]
  exact ⟨fun h => h.2, fun h => ⟨nb0, h⟩⟩
theorem ck1 {w : St} {P : Int32 → St → Prop} : wpX5_checked 1 w P ↔ P 0 (uI w 67 0) := by
  unfold wpX5_checked wpX5_checked_B10
  exact ⟨fun h => h.2 (by decide) _ rfl, fun h => ⟨fun q => absurd q (by decide), fun _ w' e => by rw [e]; exact h⟩⟩
theorem ck0 {w : St} {P : Int32 → St → Prop} : wpX5_checked 0 w P ↔ P 1 (uI w 67 1) := by
  unfold wpX5_checked wpX5_checked_B10
  exact ⟨fun h => h.1 rfl _ rfl, fun h => ⟨fun _ w' e => by rw [e]; exact h, fun q => absurd rfl q⟩⟩
