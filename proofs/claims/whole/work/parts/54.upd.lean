/-! SETTERS: the invariant after each -/
theorem upd_e (f : Nat → Int32) (k : Nat) (x : Int32) (j : Nat) : upd f k x j = if j = k then x else f j := rfl
theorem updB {f : Nat → Int32} {N k : Nat} {x : Int32} (h : ∀ a, a < N → isB (f a)) (hx : isB x) : ∀ a, a < N → isB (upd f k x a) := by
  intro a ha
  rw [upd_e]
  split
  · exact hx
  · exact h a ha
theorem J.pass {t : Nat} {v : V} (h : J t v) {a : Nat} (ha : a ≤ 60) : J (t + 1) (V.s_now v (v.now + a)) :=
  J.mk (nc6 := h.mono.nc6) (ne250 := h.mono.ne250) (nowb := by have := h.nowb; show v.now + a ≤ _; omega) (bdn := h.mono.bdn) (bcu := h.mono.bcu) (bpa := h.mono.bpa) (ofb := h.mono.ofb) (tmN := h.mono.tmN) (knN := h.mono.knN) (owv := h.mono.owv) (thv := h.mono.thv) (enN := fun l hl => by obtain ⟨e, g, r⟩ := h.enN l hl; exact ⟨e, by show e ≤ v.now + a + 12; omega, r⟩) (grN := fun l hl => by obtain ⟨e, g, r⟩ := h.grN l hl; exact ⟨e, by show e ≤ v.now + a; omega, r⟩) (wtq := h.mono.wtq) (wiN := h.mono.wiN) (leN := h.mono.leN) (le0 := h.mono.le0) (wi0 := h.mono.wi0) (ldN := h.mono.ldN) (ldM := h.mono.ldM) (wi3 := h.mono.wi3) (elN := h.mono.elN) (ecN := h.mono.ecN) (kiN := h.mono.kiN) (obE := h.mono.obE) (owE := h.mono.owE) (enE := h.mono.enE) (vaE := h.mono.vaE) (etS := h.mono.etS) (et3 := h.mono.et3) (kn3 := h.mono.kn3) (cl := fun c l hc hl => by
      rcases h.cl c l hc hl with g | ⟨τ, g1, g2, g3, g4⟩
      · exact .inl g
      · refine .inr ⟨τ, by show τ ≤ v.now + a; omega, g2, g3, ?_⟩
        rcases g4 with g4 | ⟨g4, e, g5, g6, g7⟩
        · exact .inl (by show τ + 12 ≤ v.now + a; omega)
        · exact .inr ⟨g4, e, g5, by show e ≤ v.now + a + 12; omega, g7⟩) (lse := h.mono.lse)
theorem J.setDown {t : Nat} {v : V} (h : J t v) {a : Nat} {x : Int32} (hx : isB x) : J (t + 1) (V.s_dn v (upd v.dn a x)) := J.mk (nc6 := h.mono.nc6) (ne250 := h.mono.ne250) (nowb := h.mono.nowb) (bdn := updB h.bdn hx) (bcu := h.mono.bcu) (bpa := h.mono.bpa) (ofb := h.mono.ofb) (tmN := h.mono.tmN) (knN := h.mono.knN) (owv := h.mono.owv) (thv := h.mono.thv) (enN := h.mono.enN) (grN := h.mono.grN) (wtq := h.mono.wtq) (wiN := h.mono.wiN) (leN := h.mono.leN) (le0 := h.mono.le0) (wi0 := h.mono.wi0) (ldN := h.mono.ldN) (ldM := h.mono.ldM) (wi3 := h.mono.wi3) (elN := h.mono.elN) (ecN := h.mono.ecN) (kiN := h.mono.kiN) (obE := h.mono.obE) (owE := h.mono.owE) (enE := h.mono.enE) (vaE := h.mono.vaE) (etS := h.mono.etS) (et3 := h.mono.et3) (kn3 := h.mono.kn3) (cl := h.mono.cl) (lse := h.mono.lse)
theorem J.setCut {t : Nat} {v : V} (h : J t v) {a b : Nat} {x : Int32} (hx : isB x) : J (t + 1) (V.s_cu v (upd (upd v.cu a x) b x)) := J.mk (nc6 := h.mono.nc6) (ne250 := h.mono.ne250) (nowb := h.mono.nowb) (bdn := h.mono.bdn) (bcu := updB (updB h.bcu hx) hx) (bpa := h.mono.bpa) (ofb := h.mono.ofb) (tmN := h.mono.tmN) (knN := h.mono.knN) (owv := h.mono.owv) (thv := h.mono.thv) (enN := h.mono.enN) (grN := h.mono.grN) (wtq := h.mono.wtq) (wiN := h.mono.wiN) (leN := h.mono.leN) (le0 := h.mono.le0) (wi0 := h.mono.wi0) (ldN := h.mono.ldN) (ldM := h.mono.ldM) (wi3 := h.mono.wi3) (elN := h.mono.elN) (ecN := h.mono.ecN) (kiN := h.mono.kiN) (obE := h.mono.obE) (owE := h.mono.owE) (enE := h.mono.enE) (vaE := h.mono.vaE) (etS := h.mono.etS) (et3 := h.mono.et3) (kn3 := h.mono.kn3) (cl := h.mono.cl) (lse := h.mono.lse)
theorem J.setPaused {t : Nat} {v : V} (h : J t v) {a : Nat} {x : Int32} (hx : isB x) : J (t + 1) (V.s_pa v (upd v.pa a x)) := J.mk (nc6 := h.mono.nc6) (ne250 := h.mono.ne250) (nowb := h.mono.nowb) (bdn := h.mono.bdn) (bcu := h.mono.bcu) (bpa := updB h.bpa hx) (ofb := h.mono.ofb) (tmN := h.mono.tmN) (knN := h.mono.knN) (owv := h.mono.owv) (thv := h.mono.thv) (enN := h.mono.enN) (grN := h.mono.grN) (wtq := h.mono.wtq) (wiN := h.mono.wiN) (leN := h.mono.leN) (le0 := h.mono.le0) (wi0 := h.mono.wi0) (ldN := h.mono.ldN) (ldM := h.mono.ldM) (wi3 := h.mono.wi3) (elN := h.mono.elN) (ecN := h.mono.ecN) (kiN := h.mono.kiN) (obE := h.mono.obE) (owE := h.mono.owE) (enE := h.mono.enE) (vaE := h.mono.vaE) (etS := h.mono.etS) (et3 := h.mono.et3) (kn3 := h.mono.kn3) (cl := h.mono.cl) (lse := h.mono.lse)
theorem J.setOffset {t : Nat} {v : V} (h : J t v) {a : Nat} {x : Int32} (h1 : -2 ≤ x.toInt) (h2 : x.toInt ≤ 2) : J (t + 1) (V.s_of v (upd v.of a x)) :=
  J.mk (nc6 := h.mono.nc6) (ne250 := h.mono.ne250) (nowb := h.mono.nowb) (bdn := h.mono.bdn) (bcu := h.mono.bcu) (bpa := h.mono.bpa) (ofb := fun c hc => by
      show -2 ≤ (upd v.of a x c).toInt ∧ (upd v.of a x c).toInt ≤ 2
      rw [upd_e]
      split
      · exact ⟨h1, h2⟩
      · exact h.ofb c hc) (tmN := h.mono.tmN) (knN := h.mono.knN) (owv := h.mono.owv) (thv := h.mono.thv) (enN := h.mono.enN) (grN := h.mono.grN) (wtq := h.mono.wtq) (wiN := h.mono.wiN) (leN := h.mono.leN) (le0 := h.mono.le0) (wi0 := h.mono.wi0) (ldN := h.mono.ldN) (ldM := h.mono.ldM) (wi3 := h.mono.wi3) (elN := h.mono.elN) (ecN := h.mono.ecN) (kiN := h.mono.kiN) (obE := h.mono.obE) (owE := h.mono.owE) (enE := h.mono.enE) (vaE := h.mono.vaE) (etS := h.mono.etS) (et3 := h.mono.et3) (kn3 := h.mono.kn3) (cl := h.mono.cl) (lse := h.mono.lse)
theorem J.addClient {t : Nat} {v : V} (h : J t v) (hn : v.nc < 6) : J (t + 1) (V.s_nc v (v.nc + 1)) :=
  J.mk (nc6 := hn) (ne250 := h.mono.ne250) (nowb := h.mono.nowb) (bdn := h.mono.bdn) (bcu := h.mono.bcu) (bpa := h.mono.bpa) (ofb := h.mono.ofb) (tmN := h.mono.tmN) (knN := h.mono.knN) (owv := fun l hl => by
      rcases h.owv l hl with g | ⟨c, g, e⟩
      · exact .inl g
      · exact .inr ⟨c, by show c < v.nc + 1; omega, e⟩) (thv := fun l hl => by
      rcases h.thv l hl with g | ⟨c, g, e⟩
      · exact .inl g
      · exact .inr ⟨c, by show c < v.nc + 1; omega, e⟩) (enN := h.mono.enN) (grN := h.mono.grN) (wtq := fun l hl => by
      obtain ⟨N, a, b, c, d⟩ := h.wtq l hl
      exact ⟨N, a, b, fun j hj => by obtain ⟨c', e, r⟩ := c j hj; exact ⟨c', by show c' < v.nc + 1; omega, r⟩, d⟩) (wiN := h.mono.wiN) (leN := h.mono.leN) (le0 := h.mono.le0) (wi0 := h.mono.wi0) (ldN := h.mono.ldN) (ldM := h.mono.ldM) (wi3 := h.mono.wi3) (elN := h.mono.elN) (ecN := fun k hk => by obtain ⟨c, e, r⟩ := h.ecN k hk; exact ⟨c, by show c < v.nc + 1; omega, r⟩) (kiN := h.mono.kiN) (obE := h.mono.obE) (owE := h.mono.owE) (enE := h.mono.enE) (vaE := h.mono.vaE) (etS := h.mono.etS) (et3 := h.mono.et3) (kn3 := h.mono.kn3) (cl := h.mono.cl) (lse := h.mono.lse)
theorem isB0 : isB 0 := .inl rfl
theorem isB1 : isB 1 := .inr rfl
