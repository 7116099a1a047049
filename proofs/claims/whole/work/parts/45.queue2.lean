/-! QUEUES: moving up; LEADERS: asking, teaching, standing -/
theorem lp_dn {N : Nat} (Q : Nat → Nat → Prop) (h0 : Q 1 0) (hs : ∀ n k, k < N → Q (n + 1) k → Q (n + 2) (k + 1)) : Q (N + 1) N := by
  have h : ∀ k : Nat, k ≤ N → Q (k + 1) k := by
    intro k
    induction k with
    | zero => intro _; exact h0
    | succ k ih => intro hk; exact hs k k (by omega) (ih (by omega))
  exact h N (Nat.le_refl _)
theorem pm1 {k : Nat} (h : k + 1 < 2147483648) : nI (k + 1) + (-1) = nI k := by
  have e := sub1 (a := k + 1) (by omega) h
  rw [Nat.add_sub_cancel] at e
  rw [← e, Int32.sub_eq_add_neg]
theorem nle0 {k : Nat} (h : k + 1 < 2147483648) : ¬ nI (k + 1) ≤ (0 : Int32) := notN (j := 0) (N := k + 1) (by omega) h
theorem sp_X1_upL {N l : Nat} {c : Int32} (hN : N < 6) (hl : l < 4) {w : St} {P : St → Prop} (hq : w.1 18 l = nI N) (h : P (uA (uA w (20 + l) (upd (shr (w.1 (20 + l)) N 0) 0 c)) 18 (upd (w.1 18) l (nI (N + 1))))) : ∃ n, wpX1_putFirst_L33 (nI l) c P n (w.1 18 l) w := by
  rw [hq]
  refine ⟨N + 1, ?_⟩
  have key := lp_dn (N := N) (fun n k => wpX1_putFirst_L33 (nI l) c P n (nI k) (uA w (20 + l) (shr (w.1 (20 + l)) N k))) ?_ ?_
  · rw [shr_0, uA_self] at key
    exact key
  · refine ⟨fun _ => ⟨by rw [clN (by omega)]; exact hl, inN (a := 0) (by decide) (by decide), fun w3 e3 => ⟨inN hl (by decide), inN hl (by decide), fun w8 e8 => ?_⟩⟩, fun q => absurd (yesN 0) q⟩
    rw [clN (n := l) (by omega), show (0 : Int32).toNatClampNeg = 0 from rfl, uA_same, uA_uA] at e3
    rw [clN (n := l) (by omega), e3, uA_ne _ _ (by omega), hq, ← e3] at e8
    rw [show nI N + 1 = nI (N + 1) from nI_1 N, e3, ← e3] at e8
    rw [e8, e3]
    exact h
  · intro n k hk ih
    refine ⟨fun q => absurd q (nle0 (by omega)), fun _ => ?_⟩
    rw [sub1 (by omega) (by omega), Nat.add_sub_cancel, clN (n := k) (by omega), clN (n := k + 1) (by omega), clN (n := l) (by omega)]
    refine ⟨hl, inN (by omega) (by decide), hl, inN (by omega) (by decide), fun w13 e13 => ?_⟩
    have es := shr_s (w.1 (20 + l)) (show k + 1 ≤ N by omega)
    rw [uA_same, uA_uA, es] at e13
    rw [e13, pm1 (by omega)]
    exact ih
theorem sp_X5_shrL {N l : Nat} {c m s : Int32} (hN : N < 6) (hl : l < 4) {w : St} {P : Int32 → St → Prop} (hq : w.1 54 l = nI N) (h : P 109 (uA (uA (uA w 53 (upd (shr (w.1 53) (6 * l + N) (6 * l)) (6 * l) c)) 54 (upd (w.1 54) l (nI (N + 1)))) 51 (upd (w.1 51) l c))) : ∃ n, wpX5_requests_L121 c (nI l) m s P n (w.1 54 l) w := by
  rw [hq]
  refine ⟨N + 1, ?_⟩
  have e6 : 6 * nI l = nI (6 * l) := by have e := ix6b l 0; rw [show nI 0 = (0 : Int32) from rfl, Int32.add_zero] at e; exact e
  have key := lp_dn (N := N) (fun n k => wpX5_requests_L121 c (nI l) m s P n (nI k) (uA w 53 (shr (w.1 53) (6 * l + N) (6 * l + k)))) ?_ ?_
  · rw [shr_0, uA_self] at key
    exact key
  · refine ⟨fun _ => ?_, fun q => absurd (yesN 0) q⟩
    rw [e6, clN (n := 6 * l) (by omega)]
    refine ⟨inN (by omega) (by decide), fun w3 e3 => ⟨inN hl (by decide), inN hl (by decide), fun w8 e8 => ⟨inN hl (by decide), fun w10 e10 => ?_⟩⟩⟩
    rw [uA_same, uA_uA] at e3
    rw [clN (n := l) (by omega)] at e8 e10
    have e4 : w3.1 54 = w.1 54 := by rw [e3, uA_ne _ _ (by decide)]
    have e5 : w8.1 51 = w.1 51 := by rw [e8, uA_ne _ _ (by decide), e3, uA_ne _ _ (by decide)]
    rw [e4, hq, show nI N + 1 = nI (N + 1) from nI_1 N] at e8
    rw [e10, e5, e8, e3]
    exact h
  · intro n k hk ih
    refine ⟨fun q => absurd q (nle0 (by omega)), fun _ => ?_⟩
    rw [ix6b, sub1 (by omega) (by omega), clN (n := 6 * l + (k + 1) - 1) (by omega), clN (n := 6 * l + (k + 1)) (by omega)]
    refine ⟨inN (by omega) (by decide), inN (by omega) (by decide), fun w13 e13 => ?_⟩
    have es := shr_s (w.1 53) (show (6 * l + k) + 1 ≤ 6 * l + N by omega)
    rw [uA_same, uA_uA] at e13
    rw [show 6 * l + (k + 1) = 6 * l + k + 1 from rfl, Nat.add_sub_cancel, es] at e13
    rw [e13, pm1 (by omega)]
    exact ih
/-! asking a leader, in the model -/
theorem csR_cases (dn cu tm : Nat → Int32) (a : Nat) : csR dn cu tm a = 116 ∨ csR dn cu tm a = 110 ∨ csR dn cu tm a = 103 := by
  unfold csR
  split
  · exact .inl rfl
  · split
    · exact .inr (.inl rfl)
    · exact .inr (.inr rfl)
theorem sp_X5_looks {a : Nat} (ha : a < 5) {w : St} {P : Int32 → St → Prop} (h : P (if csR (w.1 34) (w.1 35) (w.1 39) a = 103 then 45 else csR (w.1 34) (w.1 35) (w.1 39) a) (uA w 39 (csT (w.1 34) (w.1 35) (w.1 39) a))) : wpX5_looks (nI a) w P := by
  refine ⟨inN ha (by decide), 6, ?_⟩
  rw [clN (by omega)]
  refine lp_up (N := 5) (fun n j => wpX5_looks_L9 (nI a) P n (gtr (w.1 34) (w.1 35) (w.1 39) a j) (nI j) w) ⟨fun _ => ⟨inN ha (by decide), ?_⟩, fun q => absurd yes5 q⟩ (fun n j hj ih => ⟨fun q => absurd q (not5 hj), fun _ => sp_X5_reaches2 ha hj (fun q => ?_) (fun q => ⟨inN hj (by decide), ?_⟩)⟩)
  · rw [clN (by omega)]
    refine ⟨fun c => sp_X5_reachedBy ha ?_, fun c => ⟨inN ha (by decide), fun w17 e17 => ?_⟩⟩
    · have c' : ¬ w.1 39 a < gtr (w.1 34) (w.1 35) (w.1 39) a 5 := Int32.not_lt.mpr c
      have hc := ct_le (rch (w.1 34) (w.1 35) a) 5
      refine ⟨fun c2 => ?_, fun c2 => ?_⟩
      · rw [i3, leN (by decide) (by omega)] at c2
        have c3 : ¬ ct (rch (w.1 34) (w.1 35) a) 5 < 3 := by omega
        simp only [csR, csT, c', c3, if_false, if_true] at h
        refine ⟨6, ?_⟩
        have e0 : wpX5_looks_L80 (nI a) P 6 0 w = wpX5_looks_L80 (nI a) P (5 + 1) (nI 0) (uA w 39 (spr (w.1 34) (w.1 35) a (w.1 39) 0)) := by rw [show spr (w.1 34) (w.1 35) a (w.1 39) 0 = w.1 39 from rfl, uA_self]; rfl
        rw [e0]
        refine lp_up (N := 5) (fun n j => wpX5_looks_L80 (nI a) P n (nI j) (uA w 39 (spr (w.1 34) (w.1 35) a (w.1 39) j))) ⟨fun _ => h, fun q => absurd yes5 q⟩ (fun n j hj ih => ⟨fun q => absurd q (not5 hj), fun _ => sp_X5_reaches2 ha hj (fun q => ?_) (fun q => ⟨inN ha (by decide), inN hj (by decide), fun w7 e7 => ?_⟩)⟩)
        · rw [uA_ne _ _ (by decide), uA_ne _ _ (by decide)] at q
          simp only [spr, q, Bool.false_eq_true, if_false, ← nI_1] at ih
          exact ih
        · rw [uA_ne _ _ (by decide), uA_ne _ _ (by decide)] at q
          rw [clN (by omega), clN (by omega), uA_same, uA_uA] at e7
          simp only [spr, q, if_true, ← nI_1] at ih
          rw [e7]
          exact ih
      · rw [i3, leN (by decide) (by omega)] at c2
        have c3 : ct (rch (w.1 34) (w.1 35) a) 5 < 3 := by omega
        simp only [csR, csT, c', c3, if_false, if_true, uA_self] at h
        exact h
    · have c' : w.1 39 a < gtr (w.1 34) (w.1 35) (w.1 39) a 5 := Int32.not_le.mp c
      simp only [csR, csT, c', if_true] at h
      rw [e17]
      exact h
  · simp only [gtr, q, Bool.false_eq_true, false_and, if_false, ← nI_1] at ih
    exact ih
  · rw [clN (by omega)]
    refine ⟨fun c => ?_, fun c => ⟨inN hj (by decide), ?_⟩⟩
    · have c' : ¬ gtr (w.1 34) (w.1 35) (w.1 39) a j < w.1 39 j := Int32.not_lt.mpr c
      simp only [gtr, q, c', and_false, if_false, ← nI_1] at ih
      exact ih
    · have c' : gtr (w.1 34) (w.1 35) (w.1 39) a j < w.1 39 j := Int32.not_le.mp c
      simp only [gtr, q, c', and_self, if_true, ← nI_1] at ih
      exact ih
theorem sp_X5_teachL {a : Nat} {k c l : Int32} (ha : a < 5) {w : St} {P : Int32 → St → Prop} (h : P 103 (uA w 41 (tch (w.1 34) (w.1 35) a (w.1 70 0) (w.1 41) 5))) : ∃ n, wpX5_enters_L59 k c l (nI a) P n 0 w := by
  refine ⟨6, ?_⟩
  have e0 : wpX5_enters_L59 k c l (nI a) P 6 0 w = wpX5_enters_L59 k c l (nI a) P (5 + 1) (nI 0) (uA w 41 (tch (w.1 34) (w.1 35) a (w.1 70 0) (w.1 41) 0)) := by rw [show tch (w.1 34) (w.1 35) a (w.1 70 0) (w.1 41) 0 = w.1 41 from rfl, uA_self]; rfl
  rw [e0]
  refine lp_up (N := 5) (fun n j => wpX5_enters_L59 k c l (nI a) P n (nI j) (uA w 41 (tch (w.1 34) (w.1 35) a (w.1 70 0) (w.1 41) j))) ⟨fun _ => h, fun q => absurd yes5 q⟩ (fun n j hj ih => ⟨fun q => absurd q (not5 hj), fun _ => sp_X5_reaches2 ha hj (fun q => ?_) (fun q => ⟨inN hj (by decide), fun w6 e6 => ?_⟩)⟩)
  · rw [uA_ne _ _ (by decide), uA_ne _ _ (by decide)] at q
    simp only [tch, q, Bool.false_eq_true, if_false, ← nI_1] at ih
    exact ih
  · rw [uA_ne _ _ (by decide), uA_ne _ _ (by decide)] at q
    rw [clN (by omega), uA_same, uA_uA, uA_ne _ _ (show (70 : Nat) ≠ 41 by decide)] at e6
    simp only [tch, q, if_true, ← nI_1] at ih
    rw [e6]
    exact ih
