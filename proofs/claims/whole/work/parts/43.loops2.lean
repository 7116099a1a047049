/-! CLIENTS, LOCKS, QUEUES -/
theorem bI_tf {p : Bool} {A B : St → Prop} {w : St} (h0 : p = false → A w) (h1 : p = true → B w) : (bI p = 0 → A w) ∧ (¬ bI p = 0 → B w) := by
  refine ⟨fun q => h0 ((bI_0 _).mp q), fun q => h1 ?_⟩
  rw [bI_0, Bool.not_eq_false] at q
  exact q
/-- a claim: not paused, noted, and within its ticks by the client's own clock -/
def hc (pa ls of lc : Nat → Int32) (now : Int32) (l c : Nat) : Bool := decide (pa c = 0) && (nb (ls (c * 4 + l) = 0) && nb (8 ≤ (now + of c) - lc (c * 4 + l)))
def hv (pa ks of kc : Nat → Int32) (now : Int32) (l c : Nat) : Bool := decide (pa c = 0) && (nb (ks (c * 4 + l) = 0) && nb (6 ≤ (now + of c) - kc (c * 4 + l)))
theorem sp_X0_hasClaim {c l : Nat} (hcl : c < 6) (hl : l < 4) {now : Int32} {w : St} {P : Int32 → St → Prop} (h : P (bI (hc (w.1 25) (w.1 28) (w.1 26) (w.1 29) now l c)) w) : wpX0_hasClaim (nI c) (nI l) now w P := by
  have e1 := clN (n := c) (by omega)
  have e2 := clN (n := c * 4 + l) (by omega)
  show wpX0_slot _ _ w _
  unfold wpX0_slot wpX0_clockAt
  simp only [ix4, e1, e2]
  refine ⟨inN hcl (by decide), fun h1 => ⟨inN (by omega) (by decide), fun h2 => ?_, fun h2 => ⟨inN hcl (by decide), inN (by omega) (by decide), fun h3 => ?_, fun h3 => ?_⟩⟩, fun h1 => ?_⟩
  · simpa [hc, nb, bI, h1, h2] using h
  · simpa only [hc, nb, bI, h1, h2, h3, decide_true, decide_false, Bool.not_true, Bool.not_false, Bool.and_false, Bool.and_true, Bool.false_eq_true, if_false, if_true] using h
  · simpa only [hc, nb, bI, h1, h2, h3, decide_true, decide_false, Bool.not_true, Bool.not_false, Bool.and_false, Bool.and_true, Bool.false_eq_true, if_false, if_true] using h
  · simpa [hc, nb, bI, h1] using h
theorem sp_X0_hasValue {c l : Nat} (hcl : c < 6) (hl : l < 4) {now : Int32} {w : St} {P : Int32 → St → Prop} (h : P (bI (hv (w.1 25) (w.1 30) (w.1 26) (w.1 31) now l c)) w) : wpX0_hasValue (nI c) (nI l) now w P := by
  have e1 := clN (n := c) (by omega)
  have e2 := clN (n := c * 4 + l) (by omega)
  show wpX0_slot _ _ w _
  unfold wpX0_slot wpX0_clockAt
  simp only [ix4, e1, e2]
  refine ⟨inN hcl (by decide), fun h1 => ⟨inN (by omega) (by decide), fun h2 => ?_, fun h2 => ⟨inN hcl (by decide), inN (by omega) (by decide), fun h3 => ?_, fun h3 => ?_⟩⟩, fun h1 => ?_⟩
  · simpa [hv, nb, bI, h1, h2] using h
  · simpa only [hv, nb, bI, h1, h2, h3, decide_true, decide_false, Bool.not_true, Bool.not_false, Bool.and_false, Bool.and_true, Bool.false_eq_true, if_false, if_true] using h
  · simpa only [hv, nb, bI, h1, h2, h3, decide_true, decide_false, Bool.not_true, Bool.not_false, Bool.and_false, Bool.and_true, Bool.false_eq_true, if_false, if_true] using h
  · simpa [hv, nb, bI, h1] using h
theorem sp_X5_isClaimed {c l : Nat} (hcl : c < 6) (hl : l < 4) {w : St} {P : Int32 → St → Prop} (h : P (bI (hc (w.1 36) (w.1 37) (w.1 43) (w.1 44) (w.1 68 0) l c)) w) : wpX5_isClaimed (nI c) (nI l) w P := by
  have e1 := clN (n := c) (by omega)
  have e2 := clN (n := c * 4 + l) (by omega)
  unfold wpX5_isClaimed wpX5_at wpX5_clock
  simp only [ix4', e1, e2]
  refine ⟨inN hcl (by decide), fun h1 => ⟨inN (by omega) (by decide), fun h2 => ?_, fun h2 => ⟨inN hcl (by decide), inN (by omega) (by decide), fun h3 => ?_, fun h3 => ?_⟩⟩, fun h1 => ?_⟩
  · simpa [hc, nb, bI, h1, h2] using h
  · simpa only [hc, nb, bI, h1, h2, h3, decide_true, decide_false, Bool.not_true, Bool.not_false, Bool.and_false, Bool.and_true, Bool.false_eq_true, if_false, if_true] using h
  · simpa only [hc, nb, bI, h1, h2, h3, decide_true, decide_false, Bool.not_true, Bool.not_false, Bool.and_false, Bool.and_true, Bool.false_eq_true, if_false, if_true] using h
  · simpa [hc, nb, bI, h1] using h
theorem sp_X0_countClaims {N l : Nat} (hN : N ≤ 6) (hl : l < 4) {now : Int32} {w : St} {P : Int32 → St → Prop} (hcn : w.1 66 0 = nI N) (h : P (nI (ct (hc (w.1 25) (w.1 28) (w.1 26) (w.1 29) now l) N)) w) : wpX0_countClaims (nI l) now w P := by
  refine ⟨N + 1, lp_up (N := N) (fun n j => wpX0_countClaims_L5 (nI l) now P n (nI (ct (hc (w.1 25) (w.1 28) (w.1 26) (w.1 29) now l) j)) (nI j) w) ⟨fun _ => h, fun q => absurd (by rw [hcn]; exact yesN _) q⟩ (fun n j hj ih => ⟨fun q => absurd (by rw [hcn] at q; exact q) (notN hj (by omega)), fun _ => sp_X0_hasClaim (by omega) hl (bI_tf (fun q => ?_) (fun q => ?_))⟩)⟩
  · simp only [ct, q, Bool.false_eq_true, if_false, Nat.add_zero, ← nI_1] at ih
    exact ih
  · simp only [ct, q, if_true, ← nI_1] at ih
    exact ih
theorem sp_X5_claimantsL {N l : Nat} (hN : N ≤ 6) (hl : l < 4) {w : St} {P : Int32 → St → Prop} (hcn : w.1 69 0 = nI N) (h : P (nI (ct (hc (w.1 36) (w.1 37) (w.1 43) (w.1 44) (w.1 68 0) l) N)) w) : ∃ n, wpX5_claimants_L17 (nI l) P n 0 0 w := by
  refine ⟨N + 1, lp_up (N := N) (fun n j => wpX5_claimants_L17 (nI l) P n (nI (ct (hc (w.1 36) (w.1 37) (w.1 43) (w.1 44) (w.1 68 0) l) j)) (nI j) w) ⟨fun _ => h, fun q => absurd (by rw [hcn]; exact yesN _) q⟩ (fun n j hj ih => ⟨fun q => absurd (by rw [hcn] at q; exact q) (notN hj (by omega)), fun _ => sp_X5_isClaimed (by omega) hl (bI_tf (fun q => ?_) (fun q => ?_))⟩)⟩
  · simp only [ct, q, Bool.false_eq_true, if_false, Nat.add_zero, ← nI_1] at ih
    show wpX5_claimants_L17 (nI l) P (n + 1) (nI _ + 0) (nI j + 1) w
    rw [ad0]
    exact ih
  · simp only [ct, q, if_true, ← nI_1] at ih
    exact ih
/-- whether a paused client's value is still noted -/
def kp (pa ku : Nat → Int32) (now : Int32) (l : Nat) (c : Nat) : Bool := nb (pa c = 0) && nb (ku (c * 4 + l) ≤ now)
def fr (p : Nat → Bool) : Nat → Nat → Bool
  | _, 0 => false
  | j, k + 1 => if p j = true then true else fr p (j + 1) k
theorem lp_fr2 {N : Nat} (p : Nat → Bool) (Q : Nat → Nat → Prop) {P : Int32 → Prop} (h : P (bI (fr p 0 N))) (h0 : ∀ n, P 0 → Q (n + 1) N) (hy : ∀ n j, j < N → p j = true → P 1 → Q (n + 1) j) (hn : ∀ n j, j < N → p j = false → Q n (j + 1) → Q (n + 1) j) : Q (N + 1) 0 := by
  have g : ∀ k j, j + k = N → P (bI (fr p j k)) → Q (k + 1) j := by
    intro k
    induction k with
    | zero =>
      intro j e h'
      have e' : N = j := by omega
      rw [← e']
      exact h0 0 h'
    | succ k ih =>
      intro j e h
      cases hp : p j with
      | true =>
        simp only [fr, hp, if_true] at h
        exact hy _ j (by omega) hp h
      | false =>
        simp only [fr, hp, Bool.false_eq_true, if_false] at h
        exact hn _ j (by omega) hp (ih (j + 1) (by omega) h)
  exact g N 0 (by omega) h
theorem nb_t {p : Prop} [Decidable p] (h : ¬ p) : nb p = true := by simp [nb, h]
theorem nb_f {p : Prop} [Decidable p] (h : p) : nb p = false := by simp [nb, h]
theorem sp_X0_isKeptByPaused {N l : Nat} (hN : N ≤ 6) (hl : l < 4) {now : Int32} {w : St} {P : Int32 → St → Prop} (hcn : w.1 66 0 = nI N) (h : P (bI (fr (kp (w.1 25) (w.1 32) now l) 0 N)) w) : wpX0_isKeptByPaused (nI l) now w P := by
  refine ⟨N + 1, lp_fr2 (kp (w.1 25) (w.1 32) now l) (fun n j => wpX0_isKeptByPaused_L2 (nI l) now P n (nI j) w) (P := fun r => P r w) h (fun n h => ⟨fun _ => h, fun q => absurd (by rw [hcn]; exact yesN _) q⟩) (fun n j hj hp h => ?_) (fun n j hj hp h => ?_)⟩
  all_goals refine ⟨fun q => absurd (by rw [hcn] at q; exact q) (notN hj (by omega)), fun _ => ⟨inN (by omega) (by decide), ?_⟩⟩
  all_goals simp only [wpX0_slot, ix4, clN (n := j) (by omega), clN (n := j * 4 + l) (by omega)]
  · simp only [kp, Bool.and_eq_true, nb, Bool.not_eq_true', decide_eq_false_iff_not] at hp
    exact ⟨fun q => absurd q hp.1, fun _ => ⟨inN (by omega) (by decide), fun q => absurd q hp.2, fun _ => h⟩⟩
  · rw [← nI_1] at h
    refine ⟨fun q => h, fun q1 => ⟨inN (by omega) (by decide), fun q => h, fun q2 => ?_⟩⟩
    simp [kp, nb_t q1, nb_t q2] at hp
theorem sp_X5_isBlocked {N l : Nat} (hN : N ≤ 6) (hl : l < 4) {w : St} {P : Int32 → St → Prop} (hcn : w.1 69 0 = nI N) (h : P (bI (fr (kp (w.1 36) (w.1 47) (w.1 68 0) l) 0 N)) w) : wpX5_isBlocked (nI l) w P := by
  refine ⟨N + 1, lp_fr2 (kp (w.1 36) (w.1 47) (w.1 68 0) l) (fun n j => wpX5_isBlocked_L2 (nI l) P n (nI j) w) (P := fun r => P r w) h (fun n h => ⟨fun _ => h, fun q => absurd (by rw [hcn]; exact yesN _) q⟩) (fun n j hj hp h => ?_) (fun n j hj hp h => ?_)⟩
  all_goals refine ⟨fun q => absurd (by rw [hcn] at q; exact q) (notN hj (by omega)), fun _ => ⟨inN (by omega) (by decide), ?_⟩⟩
  all_goals simp only [wpX5_at, ix4', clN (n := j) (by omega), clN (n := j * 4 + l) (by omega)]
  · simp only [kp, Bool.and_eq_true, nb, Bool.not_eq_true', decide_eq_false_iff_not] at hp
    exact ⟨fun q => absurd q hp.1, fun _ => ⟨inN (by omega) (by decide), fun q => absurd q hp.2, fun _ => h⟩⟩
  · rw [← nI_1] at h
    refine ⟨fun q => h, fun q1 => ⟨inN (by omega) (by decide), fun q => h, fun q2 => ?_⟩⟩
    simp [kp, nb_t q1, nb_t q2] at hp
/-- a lock's column, made one value for the first clients -/
def dv (f : Nat → Int32) (l : Nat) : Nat → (Nat → Int32)
  | 0 => f
  | n + 1 => upd (dv f l n) (n * 4 + l) 0
theorem uA_cm (w : St) {k j : Nat} (f g : Nat → Int32) (h : k ≠ j) : uA (uA w k f) j g = uA (uA w j g) k f := by
  unfold uA
  refine Prod.ext ?_ rfl
  funext i
  by_cases h1 : i = k
  · subst h1
    simp [h]
  · by_cases h2 : i = j
    · have h3 : ¬ j = k := fun q => h q.symm
      simp [h2, h3]
    · simp [h1, h2]
theorem nar0 : vp_nar .boolean 0 = 0 := by decide
theorem nar1 : vp_nar .boolean 1 = 1 := by decide
theorem sp_X0_dropValues {N l : Nat} (hN : N ≤ 6) (hl : l < 4) {w : St} {P : St → Prop} (hcn : w.1 66 0 = nI N) (h : P (uA (uA w 30 (dv (w.1 30) l N)) 32 (dv (w.1 32) l N))) : wpX0_dropValues (nI l) w P := by
  have e0 : uA (uA w 30 (dv (w.1 30) l 0)) 32 (dv (w.1 32) l 0) = w := by
    simp only [dv]
    rw [uA_self]
    exact uA_self w 32
  refine ⟨N + 1, ?_⟩
  have key := lp_up (N := N) (fun n j => wpX0_dropValues_L2 (nI l) P n (nI j) (uA (uA w 30 (dv (w.1 30) l j)) 32 (dv (w.1 32) l j))) ⟨fun _ => h, fun q => absurd (by rw [uA_ne _ _ (by decide), uA_ne _ _ (by decide), hcn]; exact yesN _) q⟩ (fun n j hj ih => ⟨fun q => absurd (by rw [uA_ne _ _ (by decide), uA_ne _ _ (by decide), hcn] at q; exact q) (notN hj (by omega)), fun _ => ?_⟩)
  · rw [e0] at key
    exact key
  · simp only [wpX0_slot, ix4, clN (n := j * 4 + l) (show j * 4 + l < 2147483648 by omega), nar0, uA_ne _ _ (show (30 : Nat) ≠ 32 by decide), uA_same]
    refine ⟨inN (by omega) (by decide), fun w5 e5 => ⟨inN (by omega) (by decide), fun w10 e10 => ?_⟩⟩
    subst e5
    subst e10
    rw [uA_ne _ _ (show (32 : Nat) ≠ 30 by decide), uA_same, uA_cm _ _ _ (show (32 : Nat) ≠ 30 by decide), uA_uA, uA_uA]
    rw [← nI_1] at ih
    exact ih
theorem sp_X5_dropL {N l : Nat} {c m v : Int32} (hN : N ≤ 6) (hl : l < 4) {w : St} {P : Int32 → St → Prop} (hcn : w.1 69 0 = nI N) (h : ∀ w', w' = uA (uA (uA w 38 (dv (w.1 38) l N)) 47 (dv (w.1 47) l N)) 52 (upd (w.1 52) l v) → wpX5_enters 118 c (nI l) m w' (fun r w => (narrow .char (.int r) = .int r) ∧ P r w)) : ∃ n, wpX5_write_L118 c (nI l) m v P n 0 w := by
  have e0 : uA (uA w 38 (dv (w.1 38) l 0)) 47 (dv (w.1 47) l 0) = w := by
    simp only [dv]
    rw [uA_self]
    exact uA_self w 47
  refine ⟨N + 1, ?_⟩
  have key := lp_up (N := N) (fun n j => wpX5_write_L118 c (nI l) m v P n (nI j) (uA (uA w 38 (dv (w.1 38) l j)) 47 (dv (w.1 47) l j))) ⟨fun _ => ⟨inN hl (by decide), fun w3 e3 => ?_⟩, fun q => absurd (by rw [uA_ne _ _ (by decide), uA_ne _ _ (by decide), hcn]; exact yesN _) q⟩ (fun n j hj ih => ⟨fun q => absurd (by rw [uA_ne _ _ (by decide), uA_ne _ _ (by decide), hcn] at q; exact q) (notN hj (by omega)), fun _ => ?_⟩)
  · rw [e0] at key
    exact key
  · rw [uA_ne _ _ (by decide), uA_ne _ _ (by decide), clN (by omega)] at e3
    exact h w3 e3
  · simp only [wpX5_at, ix4', clN (n := j * 4 + l) (show j * 4 + l < 2147483648 by omega), nar0, uA_ne _ _ (show (38 : Nat) ≠ 47 by decide), uA_same]
    refine ⟨inN (by omega) (by decide), fun w5 e5 => ⟨inN (by omega) (by decide), fun w10 e10 => ?_⟩⟩
    subst e5
    subst e10
    rw [uA_ne _ _ (show (47 : Nat) ≠ 38 by decide), uA_same, uA_cm _ _ _ (show (47 : Nat) ≠ 38 by decide), uA_uA, uA_uA]
    rw [← nI_1] at ih
    exact ih
