/-! the class's members -/
theorem lp_up {N : Nat} (Q : Nat → Nat → Prop) (h0 : Q 1 N) (hs : ∀ n j, j < N → Q (n + 1) (j + 1) → Q (n + 2) j) : Q (N + 1) 0 := by
  have h : ∀ n j : Nat, j + n = N → Q (n + 1) j := by
    intro n
    induction n with
    | zero =>
      intro j hj
      have e : j = N := by omega
      subst e
      exact h0
    | succ n ih =>
      intro j hj
      exact hs n j (by omega) (ih (j + 1) (by omega))
  exact h N 0 (by omega)
theorem not5 {j : Nat} (h : j < 5) : ¬ (5 : Int32) ≤ nI j := nI_ge (a := j) (b := 5) h (by decide)
theorem yes5 : (5 : Int32) ≤ nI 5 := by decide
theorem sp_X3_reaches {a b : Nat} (ha : a < 5) (hb : b < 5) {w : St} {P : Int32 → St → Prop} (h : P (bI (rch (w.1 2) (w.1 5) a b)) w) : wpX3_reaches (nI a) (nI b) w P := by
  have ea := clN (n := a) (by omega)
  have eb := clN (n := b) (by omega)
  have eab := clN (n := a * 5 + b) (by omega)
  unfold wpX3_reaches
  simp only [ix5, ea, eb, eab]
  refine ⟨inN ha (by decide), fun h1 => ⟨inN hb (by decide), fun h2 => ⟨inN (by omega) (by decide), fun h3 => ?_, fun h3 => ?_⟩, fun h2 => ?_⟩, fun h1 => ?_⟩
  · simpa [rch, bI, h1, h2, h3] using h
  · simpa [rch, bI, h1, h2, h3] using h
  · simpa [rch, bI, h1, h2] using h
  · simpa [rch, bI, h1] using h
/-- the answer of reaches, split -/
theorem sp_X3_reaches2 {a b : Nat} (ha : a < 5) (hb : b < 5) {w : St} {A B : St → Prop} (h0 : rch (w.1 2) (w.1 5) a b = false → A w) (h1 : rch (w.1 2) (w.1 5) a b = true → B w) : wpX3_reaches (nI a) (nI b) w (fun r w => (r = 0 → A w) ∧ (¬ r = 0 → B w)) := by
  refine sp_X3_reaches ha hb ⟨fun q => h0 ((bI_0 _).mp q), fun q => h1 ?_⟩
  rw [bI_0, Bool.not_eq_false] at q
  exact q
theorem sp_X3_countReached {a : Nat} (ha : a < 5) {w : St} {P : Int32 → St → Prop} (h : P (nI (ct (rch (w.1 2) (w.1 5) a) 5)) w) : wpX3_countReached (nI a) w P := by
  refine ⟨6, lp_up (N := 5) (fun n j => wpX3_countReached_L4 (nI a) P n (nI (ct (rch (w.1 2) (w.1 5) a) j)) (nI j) w) ⟨fun _ => h, fun q => absurd yes5 q⟩ (fun n j hj ih => ⟨fun q => absurd q (not5 hj), fun _ => sp_X3_reaches2 ha hj (fun q => ?_) (fun q => ?_)⟩)⟩
  · simp only [ct, q, ← nI_1] at ih
    exact ih
  · simp only [ct, q, if_true, ← nI_1] at ih
    exact ih
theorem sp_X3_greatestTermReached {a : Nat} (ha : a < 5) {w : St} {P : Int32 → St → Prop} (h : P (gtr (w.1 2) (w.1 5) (w.1 3) a 5) w) : wpX3_greatestTermReached (nI a) w P := by
  refine ⟨inN ha (by decide), 6, ?_⟩
  rw [clN (by omega)]
  refine lp_up (N := 5) (fun n j => wpX3_greatestTermReached_L9 (nI a) P n (gtr (w.1 2) (w.1 5) (w.1 3) a j) (nI j) w) ⟨fun _ => h, fun q => absurd yes5 q⟩ (fun n j hj ih => ⟨fun q => absurd q (not5 hj), fun _ => sp_X3_reaches2 ha hj (fun q => ?_) (fun q => ⟨inN hj (by decide), ?_⟩)⟩)
  · simp only [gtr, q, Bool.false_eq_true, false_and, and_false, if_false, ← nI_1] at ih
    exact ih
  · rw [clN (by omega)]
    refine ⟨fun c => ?_, fun c => ⟨inN hj (by decide), ?_⟩⟩
    · have c' : ¬ gtr (w.1 2) (w.1 5) (w.1 3) a j < w.1 3 j := Int32.not_lt.mpr c
      simp only [gtr, q, c', Bool.false_eq_true, false_and, and_false, if_false, ← nI_1] at ih
      exact ih
    · have c' : gtr (w.1 2) (w.1 5) (w.1 3) a j < w.1 3 j := Int32.not_le.mp c
      simp only [gtr, q, c', and_self, if_true, ← nI_1] at ih
      exact ih
theorem sp_X3_teach {a : Nat} (ha : a < 5) {c : Int32} {w : St} {P : St → Prop} (h : P (uA w 4 (tch (w.1 2) (w.1 5) a c (w.1 4) 5))) : wpX3_teach (nI a) c w P := by
  refine ⟨6, ?_⟩
  have e0 : wpX3_teach_L2 (nI a) c P 6 0 w = wpX3_teach_L2 (nI a) c P (5 + 1) (nI 0) (uA w 4 (tch (w.1 2) (w.1 5) a c (w.1 4) 0)) := by rw [show tch (w.1 2) (w.1 5) a c (w.1 4) 0 = w.1 4 from rfl, uA_self]; rfl
  rw [e0]
  refine lp_up (N := 5) (fun n j => wpX3_teach_L2 (nI a) c P n (nI j) (uA w 4 (tch (w.1 2) (w.1 5) a c (w.1 4) j))) ⟨fun _ => h, fun q => absurd yes5 q⟩ (fun n j hj ih => ⟨fun q => absurd q (not5 hj), fun _ => sp_X3_reaches2 ha hj (fun q => ?_) (fun q => ⟨inN hj (by decide), fun w6 e6 => ?_⟩)⟩)
  · rw [uA_ne _ _ (by decide), uA_ne _ _ (by decide)] at q
    simp only [tch, q, Bool.false_eq_true, false_and, and_false, if_false, ← nI_1] at ih
    exact ih
  · rw [uA_ne _ _ (by decide), uA_ne _ _ (by decide)] at q
    rw [clN (by omega), uA_same, uA_uA] at e6
    simp only [tch, q, if_true, ← nI_1] at ih
    rw [e6]
    exact ih
theorem sp_X3_consult {a : Nat} (ha : a < 5) {w : St} {P : Int32 → St → Prop} (h : P (csR (w.1 2) (w.1 5) (w.1 3) a) (uA w 3 (csT (w.1 2) (w.1 5) (w.1 3) a))) : wpX3_consult (nI a) w P := by
  refine sp_X3_greatestTermReached ha ⟨inN ha (by decide), ?_⟩
  rw [clN (by omega)]
  refine ⟨fun c => sp_X3_countReached ha ?_, fun c => ⟨inN ha (by decide), fun w17 e17 => ?_⟩⟩
  · have c' : ¬ w.1 3 a < gtr (w.1 2) (w.1 5) (w.1 3) a 5 := Int32.not_lt.mpr c
    have hc := ct_le (rch (w.1 2) (w.1 5) a) 5
    refine ⟨fun c2 => ?_, fun c2 => ?_⟩
    · rw [i3, leN (by decide) (by omega)] at c2
      have c3 : ¬ ct (rch (w.1 2) (w.1 5) a) 5 < 3 := by omega
      simp only [csR, csT, c', c3, if_false] at h
      refine ⟨6, ?_⟩
      have e0 : wpX3_consult_L40 (nI a) P 6 0 w = wpX3_consult_L40 (nI a) P (5 + 1) (nI 0) (uA w 3 (spr (w.1 2) (w.1 5) a (w.1 3) 0)) := by rw [show spr (w.1 2) (w.1 5) a (w.1 3) 0 = w.1 3 from rfl, uA_self]; rfl
      rw [e0]
      refine lp_up (N := 5) (fun n j => wpX3_consult_L40 (nI a) P n (nI j) (uA w 3 (spr (w.1 2) (w.1 5) a (w.1 3) j))) ⟨fun _ => h, fun q => absurd yes5 q⟩ (fun n j hj ih => ⟨fun q => absurd q (not5 hj), fun _ => sp_X3_reaches2 ha hj (fun q => ?_) (fun q => ⟨inN ha (by decide), inN hj (by decide), fun w7 e7 => ?_⟩)⟩)
      · rw [uA_ne _ _ (by decide), uA_ne _ _ (by decide)] at q
        simp only [spr, q, Bool.false_eq_true, false_and, and_false, if_false, ← nI_1] at ih
        exact ih
      · rw [uA_ne _ _ (by decide), uA_ne _ _ (by decide)] at q
        rw [clN (by omega), clN (by omega), uA_same, uA_uA] at e7
        simp only [spr, q, if_true, ← nI_1] at ih
        rw [e7]
        exact ih
    · rw [i3, leN (by decide) (by omega)] at c2
      have c3 : ct (rch (w.1 2) (w.1 5) a) 5 < 3 := by omega
      simp only [csR, csT, c', c3, if_false, if_true, uA_self] at h
      exact h
  · have c' : w.1 3 a < gtr (w.1 2) (w.1 5) (w.1 3) a 5 := Int32.not_le.mp c
    simp only [csR, csT, c', if_true] at h
    rw [e17]
    exact h
