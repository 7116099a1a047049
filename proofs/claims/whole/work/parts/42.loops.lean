/-! LOOPS OF THE CLASS AND OF THE MODEL -/
theorem notN {j N : Nat} (h : j < N) (hN : N < 2147483648) : ¬ nI N ≤ nI j := nI_ge h hN
theorem yesN (N : Nat) : nI N ≤ nI N := Int32.le_refl _
theorem lp_fr {N s : Nat} (hs : s ≤ N) (Q : Nat → Nat → Prop) (h0 : Q 1 N) (st : ∀ n j, s ≤ j → j < N → Q (n + 1) (j + 1) → Q (n + 2) j) : Q (N - s + 1) s := by
  have h : ∀ n j : Nat, s ≤ j → j + n = N → Q (n + 1) j := by
    intro n
    induction n with
    | zero =>
      intro j _ hj
      have e : j = N := by omega
      subst e
      exact h0
    | succ n ih =>
      intro j hs hj
      exact st n j hs (by omega) (ih (j + 1) (by omega) (by omega))
  exact h (N - s) s (Nat.le_refl _) (by omega)
def nb (p : Prop) [Decidable p] : Bool := !decide p
/-! X3 -/
theorem sp_X3_countKnowing {e : Int32} {w : St} {P : Int32 → St → Prop} (h : P (nI (ct (fun j => nb (w.1 4 j ≤ e)) 5)) w) : wpX3_countKnowing e w P := by
  refine ⟨6, lp_up (N := 5) (fun n j => wpX3_countKnowing_L4 e P n (nI (ct (fun j => nb (w.1 4 j ≤ e)) j)) (nI j) w) ⟨fun _ => h, fun q => absurd yes5 q⟩ (fun n j hj ih => ⟨fun q => absurd q (not5 hj), fun _ => ⟨inN hj (by decide), ?_⟩⟩)⟩
  rw [clN (by omega)]
  refine ⟨fun q => ?_, fun q => ?_⟩
  · simp only [ct, nb, q, decide_true, Bool.not_true, Bool.false_eq_true, if_false, ← nI_1] at ih
    exact ih
  · simp only [ct, nb, q, decide_false, Bool.not_false, if_true, ← nI_1] at ih
    exact ih
def sm (f : Nat → Int32) : Nat → Int32
  | 0 => 0
  | n + 1 => sm f n + f n
theorem sp_X3_sumKnown {w : St} {P : Int32 → St → Prop} (h : P (sm (w.1 4) 5) w) : wpX3_sumKnown w P := by
  refine ⟨6, lp_up (N := 5) (fun n j => wpX3_sumKnown_L4 P n (sm (w.1 4) j) (nI j) w) ⟨fun _ => h, fun q => absurd yes5 q⟩ (fun n j hj ih => ⟨fun q => absurd q (not5 hj), fun _ => ⟨inN hj (by decide), ?_⟩⟩)⟩
  rw [clN (by omega)]
  simp only [sm, ← nI_1] at ih
  exact ih
theorem sp_X3_countUp {w : St} {P : Int32 → St → Prop} (h : P (nI (ct (fun j => decide (w.1 2 j = 0)) 5)) w) : wpX3_countUp w P := by
  refine ⟨6, lp_up (N := 5) (fun n j => wpX3_countUp_L4 P n (nI (ct (fun j => decide (w.1 2 j = 0)) j)) (nI j) w) ⟨fun _ => h, fun q => absurd yes5 q⟩ (fun n j hj ih => ⟨fun q => absurd q (not5 hj), fun _ => ⟨inN hj (by decide), ?_⟩⟩)⟩
  rw [clN (by omega)]
  refine ⟨fun q => ?_, fun q => ?_⟩
  · simp only [ct, q, decide_true, if_true, ← nI_1] at ih
    exact ih
  · simp only [ct, q, decide_false, Bool.false_eq_true, if_false, ← nI_1] at ih
    exact ih
/-! X5: the same members -/
theorem sp_X5_reaches {a b : Nat} (ha : a < 5) (hb : b < 5) {w : St} {P : Int32 → St → Prop} (h : P (bI (rch (w.1 34) (w.1 35) a b)) w) : wpX5_reaches (nI a) (nI b) w P := by
  have ea := clN (n := a) (by omega)
  have eb := clN (n := b) (by omega)
  have eab := clN (n := a * 5 + b) (by omega)
  unfold wpX5_reaches
  simp only [ix5', ea, eb, eab]
  refine ⟨inN ha (by decide), fun h1 => ⟨inN hb (by decide), fun h2 => ⟨inN (by omega) (by decide), fun h3 => ?_, fun h3 => ?_⟩, fun h2 => ?_⟩, fun h1 => ?_⟩
  · simpa [rch, bI, h1, h2, h3] using h
  · simpa [rch, bI, h1, h2, h3] using h
  · simpa [rch, bI, h1, h2] using h
  · simpa [rch, bI, h1] using h
theorem sp_X5_reaches2 {a b : Nat} (ha : a < 5) (hb : b < 5) {w : St} {A B : St → Prop} (h0 : rch (w.1 34) (w.1 35) a b = false → A w) (h1 : rch (w.1 34) (w.1 35) a b = true → B w) : wpX5_reaches (nI a) (nI b) w (fun r w => (r = 0 → A w) ∧ (¬ r = 0 → B w)) := by
  refine sp_X5_reaches ha hb ⟨fun q => h0 ((bI_0 _).mp q), fun q => h1 ?_⟩
  rw [bI_0, Bool.not_eq_false] at q
  exact q
theorem ad0 (n : Nat) : nI n + 0 = nI n := Int32.add_zero _
theorem sp_X5_reachedBy {a : Nat} (ha : a < 5) {w : St} {P : Int32 → St → Prop} (h : P (nI (ct (rch (w.1 34) (w.1 35) a) 5)) w) : wpX5_reachedBy (nI a) w P := by
  refine ⟨6, lp_up (N := 5) (fun n j => wpX5_reachedBy_L4 (nI a) P n (nI (ct (rch (w.1 34) (w.1 35) a) j)) (nI j) w) ⟨fun _ => h, fun q => absurd yes5 q⟩ (fun n j hj ih => ⟨fun q => absurd q (not5 hj), fun _ => sp_X5_reaches2 ha hj (fun q => ?_) (fun q => ?_)⟩)⟩
  · simp only [ct, q, Bool.false_eq_true, if_false, Nat.add_zero, ← nI_1] at ih
    show wpX5_reachedBy_L4 (nI a) P (n + 1) (nI _ + 0) (nI j + 1) w
    rw [ad0]
    exact ih
  · simp only [ct, q, if_true, ← nI_1] at ih
    exact ih
theorem sp_X5_knownL {e : Int32} {w : St} {P : Int32 → St → Prop} (h : P (nI (ct (fun j => nb (w.1 41 j ≤ e)) 5)) w) : ∃ n, wpX5_knownBy_L18 e P n 0 0 w := by
  refine ⟨6, lp_up (N := 5) (fun n j => wpX5_knownBy_L18 e P n (nI (ct (fun j => nb (w.1 41 j ≤ e)) j)) (nI j) w) ⟨fun _ => h, fun q => absurd yes5 q⟩ (fun n j hj ih => ⟨fun q => absurd q (not5 hj), fun _ => ⟨inN hj (by decide), ?_⟩⟩)⟩
  rw [clN (by omega)]
  refine ⟨fun q => ?_, fun q => ?_⟩
  · simp only [ct, nb, q, decide_true, Bool.not_true, Bool.false_eq_true, if_false, Nat.add_zero, ← nI_1] at ih
    show wpX5_knownBy_L18 e P (n + 1) (nI _ + 0) (nI j + 1) w
    rw [ad0]
    exact ih
  · simp only [ct, nb, q, decide_false, Bool.not_false, if_true, ← nI_1] at ih
    exact ih
theorem sp_X5_upL {w : St} {P : UInt32 → St → Prop} (hn : vf_n32 (FP.fdiv (FP.i2f (nI (ct (fun j => decide (w.1 34 j = 0)) 5))) 1084227584)) (h : P (FP.fdiv (FP.i2f (nI (ct (fun j => decide (w.1 34 j = 0)) 5))) 1084227584) w) : ∃ n, wpX5_upShare_L9 P n 0 0 w := by
  refine ⟨6, lp_up (N := 5) (fun n j => wpX5_upShare_L9 P n (nI (ct (fun j => decide (w.1 34 j = 0)) j)) (nI j) w) ⟨fun _ => ⟨hn, h⟩, fun q => absurd yes5 q⟩ (fun n j hj ih => ⟨fun q => absurd q (not5 hj), fun _ => ⟨inN hj (by decide), ?_⟩⟩)⟩
  rw [clN (by omega)]
  refine ⟨fun q => ?_, fun q => ?_⟩
  · simp only [ct, q, decide_true, if_true, ← nI_1] at ih
    exact ih
  · simp only [ct, q, decide_false, Bool.false_eq_true, if_false, Nat.add_zero, ← nI_1] at ih
    show wpX5_upShare_L9 P (n + 1) (nI _ + 0) (nI j + 1) w
    rw [ad0]
    exact ih
theorem sp_X5_meanL {w : St} {P : UInt64 → St → Prop} (hn : vf_n64 (FP.ddiv (FP.i2d (sm (w.1 41) 5)) (FP.i2d (5 * (w.1 70 0))))) (h : P (FP.ddiv (FP.i2d (sm (w.1 41) 5)) (FP.i2d (5 * (w.1 70 0)))) w) : ∃ n, wpX5_meanKnown_L25 P n 0 0 w := by
  refine ⟨6, lp_up (N := 5) (fun n j => wpX5_meanKnown_L25 P n (sm (w.1 41) j) (nI j) w) ⟨fun _ => ⟨hn, h⟩, fun q => absurd yes5 q⟩ (fun n j hj ih => ⟨fun q => absurd q (not5 hj), fun _ => ⟨inN hj (by decide), ?_⟩⟩)⟩
  rw [clN (by omega)]
  simp only [sm, ← nI_1] at ih
  exact ih
/-- the leases that still run, and what went before -/
def sL (ow en gr : Nat → Int32) (L0 : Int64) : Nat → Int64
  | 0 => L0
  | n + 1 => sL ow en gr L0 n + (if ow n < 0 then 0 else (en n - gr n).toInt64)
theorem sp_X5_leasedL {w : St} {L0 : Int64} {P : Int64 → St → Prop} (h : P (sL (w.1 48) (w.1 49) (w.1 50) L0 4) w) : ∃ n, wpX5_leased_L12 P n L0 0 w := by
  refine ⟨5, lp_up (N := 4) (fun n j => wpX5_leased_L12 P n (sL (w.1 48) (w.1 49) (w.1 50) L0 j) (nI j) w) ⟨fun _ => h, fun q => absurd (yesN 4) q⟩ (fun n j hj ih => ⟨fun q => absurd q (notN hj (by decide)), fun _ => ⟨inN hj (by decide), ?_⟩⟩)⟩
  rw [clN (by omega)]
  refine ⟨fun q => ?_, fun q => ⟨inN hj (by decide), inN hj (by decide), ?_⟩⟩
  · simp only [sL, q, if_true, ← nI_1] at ih
    exact ih
  · simp only [sL, q, if_false, ← nI_1] at ih
    exact ih
/-! the log -/
def obC (ki ec el : Nat → Int32) (l : Int32) : Nat → Int32
  | 0 => -1
  | n + 1 => if el n = l then (if ki n = 108 then ec n else if ki n = 117 then -1 else obC ki ec el l n) else obC ki ec el l n
def obM (ki ec el : Nat → Int32) (l : Int32) : Nat → Int32
  | 0 => -1
  | n + 1 => if el n = l then (if ki n = 118 then obM ki ec el l n else if ki n = 117 then -1 else ec n) else obM ki ec el l n
def leL (ki el de : Nat → Int32) (l : Int32) : Nat → Int32
  | 0 => 0
  | n + 1 => if el n = l ∧ (ki n = 108 ∨ ki n = 114) then de n else leL ki el de l n
def lvL (ki el de : Nat → Int32) (l : Int32) : Nat → Int32
  | 0 => 0
  | n + 1 => if el n = l ∧ ki n = 118 then de n else lvL ki el de l n
theorem sp_X2_ownerBy {K N : Nat} {l : Int32} {w : St} {P : Int32 → St → Prop} (hN : N ≤ 250) (hK : K ≤ N) (hc : w.1 65 0 = nI N) (h : P (obC (w.1 8) (w.1 10) (w.1 11) l K) w) : wpX2_ownerBy (nI K) l w P := by
  refine ⟨K + 1, lp_up (N := K) (fun n j => wpX2_ownerBy_L5 (nI K) l P n (obC (w.1 8) (w.1 10) (w.1 11) l j) (nI j) w) ⟨fun _ => h, fun q => absurd (yesN _) q⟩ (fun n j hj ih => ⟨fun q => absurd q (notN hj (by omega)), fun _ => ⟨fun q => ?_, fun _ => ⟨inN (by omega) (by decide), ?_⟩⟩⟩)⟩
  · rw [hc] at q
    exact absurd q (notN (by omega) (by omega))
  · rw [clN (by omega)]
    refine ⟨fun q1 => ⟨inN (by omega) (by decide), fun q2 => ⟨inN (by omega) (by decide), ?_⟩, fun q2 => ⟨inN (by omega) (by decide), fun q3 => ?_, fun q3 => ?_⟩⟩, fun q1 => ?_⟩
    · simp only [obC, q1, q2, if_true, ← nI_1] at ih
      exact ih
    · simp only [obC, q1, q3, if_true, ← nI_1] at ih
      exact ih
    · simp only [obC, q1, q2, q3, if_true, if_false, ← nI_1] at ih
      exact ih
    · simp only [obC, q1, if_false, ← nI_1] at ih
      exact ih
theorem sp_X5_ownerBy {K : Nat} {l : Int32} {w : St} {P : Int32 → St → Prop} (hK : K ≤ 250) (h : P (obM (w.1 55) (w.1 58) (w.1 57) l K) w) : wpX5_ownerBy l (nI K) w P := by
  refine ⟨K + 1, lp_up (N := K) (fun n j => wpX5_ownerBy_L5 l (nI K) P n (obM (w.1 55) (w.1 58) (w.1 57) l j) (nI j) w) ⟨fun _ => h, fun q => absurd (yesN _) q⟩ (fun n j hj ih => ⟨fun q => absurd q (notN hj (by omega)), fun _ => ⟨inN (by omega) (by decide), ?_⟩⟩)⟩
  rw [clN (by omega)]
  refine ⟨fun q1 => ⟨inN (by omega) (by decide), fun q2 => ?_, fun q2 => ⟨inN (by omega) (by decide), fun q3 => ?_, fun q3 => ⟨inN (by omega) (by decide), ?_⟩⟩⟩, fun q1 => ?_⟩
  · simp only [obM, q1, q2, if_true, ← nI_1] at ih
    exact ih
  · simp only [obM, q1, q3, if_true, ← nI_1] at ih
    exact ih
  · simp only [obM, q1, q2, q3, if_true, if_false, ← nI_1] at ih
    exact ih
  · simp only [obM, q1, if_false, ← nI_1] at ih
    exact ih
theorem sp_X2_lastEnd {N : Nat} {l : Int32} {w : St} {P : Int32 → St → Prop} (hN : N ≤ 250) (hc : w.1 65 0 = nI N) (h : P (leL (w.1 8) (w.1 11) (w.1 12) l N) w) : wpX2_lastEnd l w P := by
  refine ⟨N + 1, lp_up (N := N) (fun n j => wpX2_lastEnd_L4 l P n (leL (w.1 8) (w.1 11) (w.1 12) l j) (nI j) w) ⟨fun _ => h, fun q => absurd (by rw [hc]; exact yesN _) q⟩ (fun n j hj ih => ⟨fun q => absurd (by rw [hc] at q; exact q) (notN hj (by omega)), fun _ => ⟨inN (by omega) (by decide), ?_⟩⟩)⟩
  rw [clN (by omega)]
  refine ⟨fun q1 => ⟨inN (by omega) (by decide), fun q2 => ⟨inN (by omega) (by decide), ?_⟩, fun q2 => ⟨inN (by omega) (by decide), fun q3 => ⟨inN (by omega) (by decide), ?_⟩, fun q3 => ?_⟩⟩, fun q1 => ?_⟩
  · rw [clN (by omega)]
    simp only [leL, q1, q2, true_or, and_self, if_true, ← nI_1] at ih
    exact ih
  · rw [clN (by omega)]
    simp only [leL, q1, q3, or_true, and_self, if_true, ← nI_1] at ih
    exact ih
  · simp only [leL, q1, q2, q3, or_self, and_false, if_false, ← nI_1] at ih
    exact ih
  · simp only [leL, q1, false_and, if_false, ← nI_1] at ih
    exact ih
theorem sp_X2_lastValue {N : Nat} {l : Int32} {w : St} {P : Int32 → St → Prop} (hN : N ≤ 250) (hc : w.1 65 0 = nI N) (h : P (lvL (w.1 8) (w.1 11) (w.1 12) l N) w) : wpX2_lastValue l w P := by
  refine ⟨N + 1, lp_up (N := N) (fun n j => wpX2_lastValue_L4 l P n (lvL (w.1 8) (w.1 11) (w.1 12) l j) (nI j) w) ⟨fun _ => h, fun q => absurd (by rw [hc]; exact yesN _) q⟩ (fun n j hj ih => ⟨fun q => absurd (by rw [hc] at q; exact q) (notN hj (by omega)), fun _ => ⟨inN (by omega) (by decide), ?_⟩⟩)⟩
  rw [clN (by omega)]
  refine ⟨fun q1 => ⟨inN (by omega) (by decide), fun q2 => ⟨inN (by omega) (by decide), ?_⟩, fun q2 => ?_⟩, fun q1 => ?_⟩
  · simp only [lvL, q1, q2, and_self, if_true, ← nI_1] at ih
    exact ih
  · simp only [lvL, q1, q2, and_false, if_false, ← nI_1] at ih
    exact ih
  · simp only [lvL, q1, false_and, if_false, ← nI_1] at ih
    exact ih
theorem subN {a b : Nat} (h : b ≤ a) (ha : a < 2147483648) : nI a - nI b = nI (a - b) := by
  have e : nI a = nI (a - b) + nI b := by rw [nI_add]; congr 1; omega
  rw [e, Int32.add_sub_cancel]
theorem sub1 {a : Nat} (h : 0 < a) (ha : a < 2147483648) : nI a - 1 = nI (a - 1) := subN (b := 1) h ha
theorem sp_X2_isInTermOrder {N : Nat} {w : St} {P : Int32 → St → Prop} (hN : N ≤ 250) (hc : w.1 65 0 = nI N) (hs : ∀ j, 0 < j → j < N → w.1 9 (j - 1) ≤ w.1 9 j) (h : P 1 w) : wpX2_isInTermOrder w P := by
  rcases Nat.eq_zero_or_pos N with e | e
  · subst e
    refine ⟨1, fun _ => h, fun q => absurd ?_ q⟩
    rw [hc]
    decide
  · refine ⟨_, lp_fr (N := N) (s := 1) e (fun n j => wpX2_isInTermOrder_L2 P n (nI j) w) ⟨fun _ => h, fun q => absurd (by rw [hc]; exact yesN _) q⟩ (fun n j h1 hj ih => ⟨fun q => absurd (by rw [hc] at q; exact q) (notN hj (by omega)), fun _ => ⟨inN (by omega) (by decide), ?_, ?_⟩⟩)⟩
    · rw [sub1 (by omega) (by omega)]
      exact inN (by omega) (by decide)
    · rw [sub1 (by omega) (by omega), clN (by omega), clN (by omega)]
      refine ⟨fun _ => ?_, fun q => absurd (hs j (by omega) hj) q⟩
      rw [← nI_1] at ih
      exact ih
