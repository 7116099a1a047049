/-! STANDING -/
theorem vtN_le (dn cu kn : Nat → Int32) (a : Nat) (nx : Int32) (tm : Nat → Int32) : ∀ j, vtN dn cu kn a nx tm j ≤ j + 1
  | 0 => Nat.le_refl 1
  | j + 1 => by
    have h := vtN_le dn cu kn a nx tm j
    unfold vtN
    split <;> omega
theorem vtT_a (dn cu : Nat → Int32) (a : Nat) (nx : Int32) (tm : Nat → Int32) (h : tm a = nx) : ∀ j, vtT dn cu a nx tm j a = nx
  | 0 => h
  | j + 1 => by
    have g := vtT_a dn cu a nx tm h j
    unfold vtT
    split
    · simp only [upd]
      split
      · rfl
      · exact g
    · exact g
theorem sp_X3_holdVote {a n : Nat} (ha : a < 5) (hn : n < 512) {w : St} {P : Int32 → St → Prop} (ht : w.1 3 a = nI n)
    (h0 : vtN (w.1 2) (w.1 5) (w.1 4) a (nI (n + 1)) (upd (w.1 3) a (nI (n + 1))) 5 < 3 → P (nI (vtN (w.1 2) (w.1 5) (w.1 4) a (nI (n + 1)) (upd (w.1 3) a (nI (n + 1))) 5)) (uA w 3 (vtT (w.1 2) (w.1 5) a (nI (n + 1)) (upd (w.1 3) a (nI (n + 1))) 5)))
    (h1 : 3 ≤ vtN (w.1 2) (w.1 5) (w.1 4) a (nI (n + 1)) (upd (w.1 3) a (nI (n + 1))) 5 → P (nI (vtN (w.1 2) (w.1 5) (w.1 4) a (nI (n + 1)) (upd (w.1 3) a (nI (n + 1))) 5)) (uA (uA w 3 (vtT (w.1 2) (w.1 5) a (nI (n + 1)) (upd (w.1 3) a (nI (n + 1))) 5)) 6 (upd (w.1 6) (n + 1) (nI a)))) : wpX3_holdVote (nI a) w P := by
  refine ⟨inN ha (by decide), inN ha (by decide), fun w21 e21 => ⟨6, ?_⟩⟩
  rw [clN (n := a) (by omega), ht, show nI n + 1 = nI (n + 1) from nI_1 n] at e21 ⊢
  have e0 : wpX3_holdVote_L21 (nI a) P 6 (nI (n + 1)) 1 0 w21 = wpX3_holdVote_L21 (nI a) P (5 + 1) (nI (n + 1)) (nI (vtN (w.1 2) (w.1 5) (w.1 4) a (nI (n + 1)) (upd (w.1 3) a (nI (n + 1))) 0)) (nI 0) (uA w 3 (vtT (w.1 2) (w.1 5) a (nI (n + 1)) (upd (w.1 3) a (nI (n + 1))) 0)) := by rw [e21]; rfl
  rw [e0]
  have hV := vtN_le (w.1 2) (w.1 5) (w.1 4) a (nI (n + 1)) (upd (w.1 3) a (nI (n + 1))) 5
  refine lp_up (N := 5) (fun m j => wpX3_holdVote_L21 (nI a) P m (nI (n + 1)) (nI (vtN (w.1 2) (w.1 5) (w.1 4) a (nI (n + 1)) (upd (w.1 3) a (nI (n + 1))) j)) (nI j) (uA w 3 (vtT (w.1 2) (w.1 5) a (nI (n + 1)) (upd (w.1 3) a (nI (n + 1))) j))) ⟨fun _ => ⟨fun c => ?_, fun c => ⟨fun q => absurd q (nlt0 (by omega)), fun _ => ⟨fun q => absurd q (notN (N := 513) (by omega) (by decide)), fun _ => ⟨inN (by omega) (by decide), fun w6 e6 => ?_⟩⟩⟩⟩, fun q => absurd yes5 q⟩ (fun m j hj ih => ⟨fun q => absurd q (not5 hj), fun _ => sp_X3_reaches2 ha hj (fun q => ?_) (fun q => ⟨inN hj (by decide), ?_⟩)⟩)
  · rw [i3, ltN (by omega) (by decide)] at c
    exact h0 c
  · rw [i3, ltN (by omega) (by decide)] at c
    rw [clN (by omega), uA_ne _ _ (by decide)] at e6
    rw [e6]
    exact h1 (by omega)
  · rw [uA_ne _ _ (by decide), uA_ne _ _ (by decide)] at q
    simp only [vtN, vtT, q, Bool.false_eq_true, false_and, if_false] at ih
    rw [← nI_1 j] at ih
    exact ih
  · rw [uA_ne _ _ (by decide), uA_ne _ _ (by decide)] at q
    rw [clN (n := j) (by omega), uA_same]
    refine ⟨fun c => ?_, fun c => ⟨inN hj (by decide), fun w14 e14 => ⟨inN hj (by decide), inN ha (by decide), ?_⟩⟩⟩
    · have c' : ¬ vtT (w.1 2) (w.1 5) a (nI (n + 1)) (upd (w.1 3) a (nI (n + 1))) j j < nI (n + 1) := Int32.not_lt.mpr c
      simp only [vtN, vtT, q, c', and_false, false_and, if_false] at ih
      rw [← nI_1 j] at ih
      exact ih
    · have c' : vtT (w.1 2) (w.1 5) a (nI (n + 1)) (upd (w.1 3) a (nI (n + 1))) j j < nI (n + 1) := Int32.not_le.mp c
      rw [uA_uA] at e14
      rw [e14, uA_ne _ _ (show (4 : Nat) ≠ 3 by decide), clN (n := a) (by omega)]
      refine ⟨fun c2 => ?_, fun c2 => ?_⟩
      · have c3 : ¬ w.1 4 j ≤ w.1 4 a := Int32.not_le.mpr c2
        simp only [vtN, vtT, q, c', c3, and_self, and_false, if_true, if_false] at ih
        rw [← nI_1 j] at ih
        exact ih
      · have c3 : w.1 4 j ≤ w.1 4 a := Int32.not_lt.mp c2
        simp only [vtN, vtT, q, c', c3, and_self, if_true] at ih
        rw [← nI_1 j, ← nI_1 (vtN _ _ _ _ _ _ _)] at ih
        exact ih
theorem sp_X5_standL {a n : Nat} (ha : a < 5) (hn : n < 512) {w : St} {P : Int32 → St → Prop} (T : Nat → Int32) (hT : T a = nI (n + 1)) (ht : w.1 39 = T)
    (h0 : vtN (w.1 34) (w.1 35) (w.1 41) a (nI (n + 1)) T 5 < 3 → P (nI (vtN (w.1 34) (w.1 35) (w.1 41) a (nI (n + 1)) T 5)) (uA w 39 (vtT (w.1 34) (w.1 35) a (nI (n + 1)) T 5)))
    (h1 : 3 ≤ vtN (w.1 34) (w.1 35) (w.1 41) a (nI (n + 1)) T 5 → P (nI (vtN (w.1 34) (w.1 35) (w.1 41) a (nI (n + 1)) T 5)) (uA (uA (uA w 39 (vtT (w.1 34) (w.1 35) a (nI (n + 1)) T 5)) 40 (upd (w.1 40) a (nI (n + 1)))) 42 (upd (w.1 42) (n + 1) (nI (a + 1))))) : ∃ m, wpX5_stand_L52 (nI a) P m 1 0 w := by
  refine ⟨6, ?_⟩
  have e0 : wpX5_stand_L52 (nI a) P 6 1 0 w = wpX5_stand_L52 (nI a) P (5 + 1) (nI (vtN (w.1 34) (w.1 35) (w.1 41) a (nI (n + 1)) T 0)) (nI 0) (uA w 39 (vtT (w.1 34) (w.1 35) a (nI (n + 1)) T 0)) := by rw [show vtT (w.1 34) (w.1 35) a (nI (n + 1)) T 0 = w.1 39 from ht.symm, uA_self]; rfl
  rw [e0]
  have hV := vtN_le (w.1 34) (w.1 35) (w.1 41) a (nI (n + 1)) T 5
  have hA := vtT_a (w.1 34) (w.1 35) a (nI (n + 1)) T hT
  refine lp_up (N := 5) (fun m j => wpX5_stand_L52 (nI a) P m (nI (vtN (w.1 34) (w.1 35) (w.1 41) a (nI (n + 1)) T j)) (nI j) (uA w 39 (vtT (w.1 34) (w.1 35) a (nI (n + 1)) T j))) ⟨fun _ => ⟨fun c => ?_, fun c => ⟨inN ha (by decide), inN ha (by decide), fun w5 e5 => ⟨inN ha (by decide), ?_⟩⟩⟩, fun q => absurd yes5 q⟩ (fun m j hj ih => ⟨fun q => absurd q (not5 hj), fun _ => ⟨fun q => ?_, fun q0 => sp_X5_reaches2 ha hj (fun q => ?_) (fun q => ⟨inN hj (by decide), inN ha (by decide), ?_⟩)⟩⟩)
  · rw [i3, ltN (by omega) (by decide)] at c
    exact h0 c
  · rw [i3, ltN (by omega) (by decide)] at c
    rw [clN (by omega), uA_same, hA, uA_ne _ _ (show (40 : Nat) ≠ 39 by decide)] at e5
    have e6 : w5.1 39 a = nI (n + 1) := by rw [e5, uA_ne _ _ (by decide), uA_same, hA]
    have e7 : w5.1 42 = w.1 42 := by rw [e5, uA_ne _ _ (by decide), uA_ne _ _ (by decide)]
    rw [clN (n := a) (by omega), e6, clN (n := n + 1) (by omega), e7]
    refine ⟨inN (by omega) (by decide), fun w9 e9 => ?_⟩
    rw [nI_1] at e9
    rw [e9, e5]
    exact h1 (by omega)
  · rw [eqN (by omega) (by omega)] at q
    subst q
    have c' : ¬ vtT (w.1 34) (w.1 35) j (nI (n + 1)) T j j < nI (n + 1) := by rw [hA]; exact Int32.lt_irrefl
    simp only [vtN, vtT, c', and_false, false_and, if_false] at ih
    rw [← nI_1 j] at ih
    exact ih
  · rw [uA_ne _ _ (by decide), uA_ne _ _ (by decide)] at q
    simp only [vtN, vtT, q, Bool.false_eq_true, false_and, if_false] at ih
    rw [← nI_1 j] at ih
    exact ih
  · rw [uA_ne _ _ (by decide), uA_ne _ _ (by decide)] at q
    rw [clN (n := j) (by omega), clN (n := a) (by omega), uA_same, hA]
    refine ⟨fun c' => ⟨inN ha (by decide), inN hj (by decide), fun w14 e14 => ⟨inN hj (by decide), inN ha (by decide), ?_⟩⟩, fun c' => ?_⟩
    · rw [uA_uA] at e14
      rw [e14, uA_ne _ _ (show (41 : Nat) ≠ 39 by decide)]
      refine ⟨fun c3 => ?_, fun c3 => ?_⟩
      · simp only [vtN, vtT, q, c', c3, and_self, if_true] at ih
        rw [← nI_1 j, ← nI_1 (vtN _ _ _ _ _ _ _)] at ih
        exact ih
      · simp only [vtN, vtT, q, c', c3, and_self, and_false, if_true, if_false] at ih
        rw [← nI_1 j] at ih
        show wpX5_stand_L52 (nI a) P (m + 1) (nI _ + 0) (nI j + 1) _
        rw [ad0]
        exact ih
    · simp only [vtN, vtT, q, c', and_false, false_and, if_false] at ih
      rw [← nI_1 j] at ih
      exact ih
