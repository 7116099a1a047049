/-! QUEUES -/
theorem ge0 {p : Nat} (h : p < 2147483648) : (0 : Int32) ≤ nI p := (leN (a := 0) (b := p) (by decide) h).mpr (Nat.zero_le _)
theorem nlt0 {p : Nat} (h : p < 2147483648) : ¬ nI p < (0 : Int32) := Int32.not_lt.mpr (ge0 h)
def plc (q : Nat → Int32) (c : Int32) : Nat → Nat → Int32
  | _, 0 => -1
  | j, k + 1 => if q j = c then nI j else plc q c (j + 1) k
theorem plc_cong {q q' : Nat → Int32} {c : Int32} : ∀ k j, (∀ i, j ≤ i → i < j + k → q i = q' i) → plc q c j k = plc q' c j k := by
  intro k
  induction k with
  | zero => intro j _; rfl
  | succ k ih =>
    intro j h
    unfold plc
    rw [h j (Nat.le_refl _) (by omega), ih (j + 1) (fun i a b => h i (by omega) (by omega))]
theorem plc_cases (q : Nat → Int32) (c : Int32) : ∀ k j, (plc q c j k = -1 ∧ ∀ i, j ≤ i → i < j + k → q i ≠ c) ∨ (∃ i, j ≤ i ∧ i < j + k ∧ plc q c j k = nI i ∧ q i = c ∧ ∀ i', j ≤ i' → i' < i → q i' ≠ c) := by
  intro k
  induction k with
  | zero => intro j; exact .inl ⟨rfl, fun i a b => by omega⟩
  | succ k ih =>
    intro j
    by_cases e : q j = c
    · refine .inr ⟨j, Nat.le_refl _, by omega, ?_, e, fun i' a b => by omega⟩
      simp [plc, e]
    · have e1 : plc q c j (k + 1) = plc q c (j + 1) k := by simp [plc, e]
      rw [e1]
      rcases ih (j + 1) with ⟨h1, h2⟩ | ⟨i, h1, h2, h3, h4, h5⟩
      · refine .inl ⟨h1, fun i a b => ?_⟩
        rcases Nat.lt_or_ge j i with g | g
        · exact h2 i g (by omega)
        · have : i = j := by omega
          rw [this]; exact e
      · refine .inr ⟨i, by omega, by omega, h3, h4, fun i' a b => ?_⟩
        rcases Nat.lt_or_ge j i' with g | g
        · exact h5 i' g b
        · have : i' = j := by omega
          rw [this]; exact e
theorem lp_plc {N : Nat} (q : Nat → Int32) (c : Int32) (Q : Nat → Nat → Prop) {P : Int32 → Prop} (h : P (plc q c 0 N)) (h0 : ∀ n, P (-1) → Q (n + 1) N) (hy : ∀ n j, j < N → q j = c → P (nI j) → Q (n + 1) j) (hn : ∀ n j, j < N → ¬ q j = c → Q n (j + 1) → Q (n + 1) j) : Q (N + 1) 0 := by
  have g : ∀ k j, j + k = N → P (plc q c j k) → Q (k + 1) j := by
    intro k
    induction k with
    | zero =>
      intro j e h'
      have e' : N = j := by omega
      rw [← e']
      exact h0 0 h'
    | succ k ih =>
      intro j e h'
      by_cases hp : q j = c
      · simp only [plc, hp, if_true] at h'
        exact hy _ j (by omega) hp h'
      · simp only [plc, hp, if_false] at h'
        exact hn _ j (by omega) hp (ih (j + 1) (by omega) h')
  exact g N 0 (by omega) h
theorem sp_X1_placeOf {N l : Nat} {c : Int32} (hN : N ≤ 6) (hl : l < 4) {w : St} {P : Int32 → St → Prop} (hq : w.1 18 l = nI N) (h : P (plc (w.1 (20 + l)) c 0 N) w) : wpX1_placeOf (nI l) c w P := by
  refine ⟨N + 1, lp_plc (w.1 (20 + l)) c (fun n j => wpX1_placeOf_L2 (nI l) c P n (nI j) w) (P := fun r => P r w) h (fun n h => ?_) (fun n j hj hp h => ?_) (fun n j hj hp h => ?_)⟩
  all_goals refine ⟨inN hl (by decide), ?_⟩
  all_goals rw [clN (n := l) (by omega), hq]
  · exact ⟨fun _ => h, fun q => absurd (yesN _) q⟩
  · exact ⟨fun q => absurd q (notN hj (by omega)), fun _ => ⟨inN hl (by decide), hl, inN (by omega) (by decide), fun _ => h, fun q => absurd (by rw [clN (by omega)]; exact hp) q⟩⟩
  · refine ⟨fun q => absurd q (notN hj (by omega)), fun _ => ⟨inN hl (by decide), hl, inN (by omega) (by decide), fun q => absurd (by rw [clN (by omega)] at q; exact q) hp, fun _ => ?_⟩⟩
    rw [← nI_1] at h
    exact h
theorem ix6b (l j : Nat) : 6 * nI l + nI j = nI (6 * l + j) := ix6' l j
theorem sp_X5_placeIn {N l : Nat} {c : Int32} (hN : N ≤ 6) (hl : l < 4) {w : St} {P : Int32 → St → Prop} (hq : w.1 54 l = nI N) (h : P (plc (fun j => w.1 53 (6 * l + j)) c 0 N) w) : wpX5_placeIn c (nI l) w P := by
  refine ⟨N + 1, lp_plc (fun j => w.1 53 (6 * l + j)) c (fun n j => wpX5_placeIn_L2 c (nI l) P n (nI j) w) (P := fun r => P r w) h (fun n h => ?_) (fun n j hj hp h => ?_) (fun n j hj hp h => ?_)⟩
  all_goals refine ⟨inN hl (by decide), ?_⟩
  all_goals rw [clN (n := l) (by omega), hq]
  · exact ⟨fun _ => h, fun q => absurd (yesN _) q⟩
  · rw [ix6b, clN (by omega)]
    exact ⟨fun q => absurd q (notN hj (by omega)), fun _ => ⟨inN (by omega) (by decide), fun _ => h, fun q => absurd hp q⟩⟩
  · rw [ix6b, clN (by omega)]
    refine ⟨fun q => absurd q (notN hj (by omega)), fun _ => ⟨inN (by omega) (by decide), fun q => absurd q hp, fun _ => ?_⟩⟩
    rw [← nI_1] at h
    exact h
/-- a row from p, moved one down, up to n -/
def shl (q : Nat → Int32) (p n : Nat) : Nat → Int32 := fun i => if p ≤ i ∧ i < n then q (i + 1) else q i
theorem shl_0 (q : Nat → Int32) (p : Nat) : shl q p p = q := by
  funext i
  simp only [shl]
  rw [if_neg (by omega)]
theorem shl_s (q : Nat → Int32) {p j : Nat} (h : p ≤ j) : upd (shl q p j) j (shl q p j (j + 1)) = shl q p (j + 1) := by
  funext i
  simp only [upd, shl]
  by_cases e : i = j
  · subst e
    rw [if_pos rfl, if_neg (by omega), if_pos (by omega)]
  · rw [if_neg e]
    by_cases g : p ≤ i ∧ i < j
    · rw [if_pos g, if_pos (by omega)]
    · rw [if_neg g, if_neg (by omega)]
/-- a row moved one up, from n down to k -/
def shr (q : Nat → Int32) (n k : Nat) : Nat → Int32 := fun i => if k < i ∧ i ≤ n then q (i - 1) else q i
theorem shr_0 (q : Nat → Int32) (n : Nat) : shr q n n = q := by
  funext i
  simp only [shr]
  rw [if_neg (by omega)]
theorem shr_s (q : Nat → Int32) {n k : Nat} (h : k + 1 ≤ n) : upd (shr q n (k + 1)) (k + 1) (shr q n (k + 1) k) = shr q n k := by
  funext i
  simp only [upd, shr]
  by_cases e : i = k + 1
  · subst e
    rw [if_pos rfl, if_neg (by omega), if_pos (by omega)]
    rfl
  · rw [if_neg e]
    by_cases g : k + 1 < i ∧ i ≤ n
    · rw [if_pos g, if_pos (by omega)]
    · rw [if_neg g, if_neg (by omega)]
/-- what taking out leaves: lengths, row -/
theorem sp_X1_takeOut {N l : Nat} {c : Int32} (hN : N ≤ 6) (hl : l < 4) {w : St} {P : St → Prop} (hq : w.1 18 l = nI N) (h0 : plc (w.1 (20 + l)) c 0 N = -1 → P w) (h1 : ∀ p, p < N → plc (w.1 (20 + l)) c 0 N = nI p → P (uA (uA w 18 (upd (w.1 18) l (nI (N - 1)))) (20 + l) (shl (w.1 (20 + l)) p (N - 1)))) : wpX1_takeOut (nI l) c w P := by
  refine sp_X1_placeOf hN hl hq ⟨fun q => h0 q, fun q => ?_⟩
  rcases plc_cases (w.1 (20 + l)) c N 0 with ⟨g, _⟩ | ⟨p, _, g2, g3, g4, g5⟩
  · exact absurd g q
  · refine ⟨inN hl (by decide), inN hl (by decide), inN hl (by decide), fun w17 e17 => ?_⟩
    rw [clN (n := l) (by omega), hq, sub1 (by omega) (by omega)] at e17
    have hP := h1 p (by omega) g3
    rw [← e17] at hP
    have r1 : w17.1 (20 + l) = w.1 (20 + l) := by rw [e17, uA_ne _ _ (by omega)]
    have r2 : ∀ f, (uA w17 (20 + l) f).1 18 l = nI (N - 1) := by intro f; rw [uA_ne _ _ (by omega), e17, uA_same]; simp [upd]
    rw [g3]
    refine ⟨(N - 1) - p + 1, ?_⟩
    have key := lp_fr (N := N - 1) (s := p) (by omega) (fun n j => wpX1_takeOut_L34 (nI l) c P n (nI j) (uA w17 (20 + l) (shl (w.1 (20 + l)) p j))) ?_ ?_
    · rw [shl_0, ← r1, uA_self] at key
      exact key
    · refine ⟨inN hl (by decide), ?_⟩
      rw [clN (n := l) (by omega), r2]
      exact ⟨fun _ => hP, fun q => absurd (yesN _) q⟩
    · intro n j hs hj ih
      refine ⟨inN hl (by decide), ?_⟩
      rw [clN (n := l) (by omega), r2, nI_1]
      refine ⟨fun q => absurd q (notN hj (by omega)), fun _ => ⟨hl, fun q => absurd q (notN (N := 6) (by omega) (by decide)), fun _ => ⟨hl, inN (by omega) (by decide), hl, inN (by omega) (by decide), fun w8 e8 => ?_⟩⟩⟩
      rw [clN (n := j) (by omega), clN (n := j + 1) (by omega), uA_same, uA_uA, shl_s _ hs] at e8
      rw [e8]
      exact ih
theorem sp_X5_leaves {N l : Nat} {c : Int32} (hN : N ≤ 6) (hl : l < 4) {w : St} {P : St → Prop} (hq : w.1 54 l = nI N) (h0 : plc (fun j => w.1 53 (6 * l + j)) c 0 N = -1 → P w) (h1 : ∀ p, p < N → plc (fun j => w.1 53 (6 * l + j)) c 0 N = nI p → P (uA (uA w 54 (upd (w.1 54) l (nI (N - 1)))) 53 (shl (w.1 53) (6 * l + p) (6 * l + (N - 1))))) : wpX5_leaves c (nI l) w P := by
  refine sp_X5_placeIn hN hl hq ?_
  rcases plc_cases (fun j => w.1 53 (6 * l + j)) c N 0 with ⟨g, _⟩ | ⟨p, _, g2, g3, g4, g5⟩
  · rw [g]
    exact ⟨fun q => absurd q (by decide), fun _ => h0 g⟩
  · rw [g3]
    refine ⟨fun _ => ⟨inN hl (by decide), inN hl (by decide), fun w17 e17 => ?_⟩, fun q => absurd (ge0 (show p < 2147483648 by omega)) q⟩
    rw [clN (n := l) (by omega), hq, sub1 (by omega) (by omega)] at e17
    have hP := h1 p (by omega) g3
    rw [← e17] at hP
    have r1 : w17.1 53 = w.1 53 := by rw [e17, uA_ne _ _ (by omega)]
    have r2 : ∀ f, (uA w17 53 f).1 54 l = nI (N - 1) := by intro f; rw [uA_ne _ _ (by omega), e17, uA_same]; simp [upd]
    refine ⟨(N - 1) - p + 1, ?_⟩
    have key := lp_fr (N := N - 1) (s := p) (by omega) (fun n j => wpX5_leaves_L25 c (nI l) P n (nI j) (uA w17 53 (shl (w.1 53) (6 * l + p) (6 * l + j)))) ?_ ?_
    · rw [shl_0, ← r1, uA_self] at key
      exact key
    · refine ⟨inN hl (by decide), ?_⟩
      rw [clN (n := l) (by omega), r2]
      exact ⟨fun _ => hP, fun q => absurd (yesN _) q⟩
    · intro n j hs hj ih
      refine ⟨inN hl (by decide), ?_⟩
      rw [clN (n := l) (by omega), r2, ix6b, nI_1]
      refine ⟨fun q => absurd q (notN hj (by omega)), fun _ => ⟨inN (by omega) (by decide), inN (by omega) (by decide), fun w8 e8 => ?_⟩⟩
      rw [clN (n := 6 * l + j + 1) (by omega), clN (n := 6 * l + j) (by omega), uA_same, uA_uA] at e8
      have es := shl_s (w.1 53) (show 6 * l + p ≤ 6 * l + j by omega)
      rw [es] at e8
      rw [← nI_1] at ih
      rw [e8]
      exact ih
