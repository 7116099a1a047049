/-! MORE FACTS OF THE INVARIANT -/
theorem obC_val {t : Nat} {v : V} (hJ : J t v) (l : Int32) : ∀ k, k ≤ v.ne → obC v.ki v.ec v.el l k = -1 ∨ ∃ c, c < v.nc ∧ obC v.ki v.ec v.el l k = nI c
  | 0, _ => .inl rfl
  | k + 1, h => by
    have ih := obC_val hJ l k (by omega)
    unfold obC
    split
    · split
      · exact .inr (hJ.ecN k (by omega))
      · split
        · exact .inl rfl
        · exact ih
    · exact ih
theorem ct_mono {p q : Nat → Bool} : ∀ n, (∀ i, i < n → p i = true → q i = true) → ct p n ≤ ct q n
  | 0, _ => Nat.le_refl 0
  | n + 1, h => by
    have ih := ct_mono n (fun i hi => h i (by omega))
    have hn := h n (by omega)
    unfold ct
    cases e : p n with
    | false => simp; omega
    | true => simp [hn e]; exact ih
theorem ct_le1 {p : Nat → Bool} : ∀ n, (∀ i j, i < n → j < n → p i = true → p j = true → i = j) → ct p n ≤ 1
  | 0, _ => by simp [ct]
  | n + 1, h => by
    unfold ct
    cases e : p n with
    | false =>
      have ih := ct_le1 n (fun i j hi hj => h i j (by omega) (by omega))
      simp; exact ih
    | true =>
      have z : ct p n = 0 := by
        have : ∀ m, m ≤ n → ct p m = 0 := by
          intro m
          induction m with
          | zero => intro _; rfl
          | succ m ih =>
            intro hm
            unfold ct
            rw [ih (by omega)]
            cases e2 : p m with
            | false => rfl
            | true => exact absurd (h m n (by omega) (by omega) e2 e) (by omega)
        exact this n (Nat.le_refl _)
      simp [z]
theorem add_toInt {a b : Int32} (h1 : -2147483648 ≤ a.toInt + b.toInt) (h2 : a.toInt + b.toInt < 2147483648) : (a + b).toInt = a.toInt + b.toInt := by
  rw [Int32.toInt_add]
  exact Int.bmod_eq_of_le (by omega) (by omega)
theorem sub_toInt {a b : Int32} (h1 : -2147483648 ≤ a.toInt - b.toInt) (h2 : a.toInt - b.toInt < 2147483648) : (a - b).toInt = a.toInt - b.toInt := by
  rw [Int32.toInt_sub]
  exact Int.bmod_eq_of_le (by omega) (by omega)
theorem nI_inj {a b : Nat} (ha : a < 2147483648) (hb : b < 2147483648) (h : nI a = nI b) : a = b := (eqN ha hb).mp h
/-- who claims, owns -/
theorem claim_own {t : Nat} {v : V} (hJ : J t v) (ht : t < 513) {c l : Nat} (hcn : c < 6) (hl : l < 4) (h : hc v.pa v.ls v.of v.lc (nI v.now) l c = true) : v.ow l = nI c := by
  simp only [hc, nb, Bool.and_eq_true, decide_eq_true_eq, Bool.not_eq_true', decide_eq_false_iff_not] at h
  obtain ⟨h1, h2, h3⟩ := h
  rcases hJ.cl c l hcn hl with g | ⟨τ, g1, g2, g3, g4⟩
  · exact absurd g h2
  · rcases g4 with g4 | ⟨g4, _⟩
    · exfalso
      apply h3
      have hb := hJ.nowb
      obtain ⟨o1, o2⟩ := hJ.ofb c hcn
      have en : (nI v.now).toInt = (v.now : Int) := nI_toInt (by omega)
      have e1 : (nI v.now + v.of c).toInt = (v.now : Int) + (v.of c).toInt := by rw [add_toInt (by omega) (by omega), en]
      have e2 : (nI v.now + v.of c - v.lc (c * 4 + l)).toInt = (v.now : Int) + (v.of c).toInt - (v.lc (c * 4 + l)).toInt := by rw [sub_toInt (by omega) (by omega), e1]
      rw [Int32.le_iff_toInt_le, e2]
      show (8 : Int) ≤ _
      omega
    · exact g4
theorem sp_X4_isKnownByMost {N : Nat} {w : St} {P : Int32 → St → Prop} (hN : N ≤ 250) (hcn : w.1 65 0 = nI N) (hs : ∀ j, j < N → 3 ≤ ct (fun i => nb (w.1 4 i ≤ nI j)) 5) (h : P 1 w) : wpX4_isKnownByMost w P := by
  refine ⟨N + 1, lp_up (N := N) (fun n j => wpX4_isKnownByMost_L2 P n (nI j) w) ⟨fun _ => h, fun q => absurd (by rw [hcn]; exact yesN _) q⟩ (fun n j hj ih => ⟨fun q => absurd (by rw [hcn] at q; exact q) (notN hj (by omega)), fun _ => sp_X3_countKnowing ⟨fun _ => ?_, fun q => ?_⟩⟩)⟩
  · rw [← nI_1] at ih
    exact ih
  · have a := hs j hj
    have b := ct_le (fun i => nb (w.1 4 i ≤ nI j)) 5
    exact absurd ((leN (a := 3) (by decide) (by omega)).mpr a) q
theorem sp_X4_isClaimedOnce {N : Nat} {w : St} {P : Int32 → St → Prop} (hN : N ≤ 6) (hcn : w.1 66 0 = nI N) (hs : ∀ l, l < 4 → ct (hc (w.1 25) (w.1 28) (w.1 26) (w.1 29) (w.1 64 0) l) N ≤ 1) (h : P 1 w) : wpX4_isClaimedOnce w P := by
  refine ⟨5, lp_up (N := 4) (fun n j => wpX4_isClaimedOnce_L2 P n (nI j) w) ⟨fun _ => h, fun q => absurd (yesN 4) q⟩ (fun n j hj ih => ⟨fun q => absurd q (notN (N := 4) hj (by decide)), fun _ => sp_X0_countClaims hN hj hcn ⟨fun _ => ?_, fun q => ?_⟩⟩)⟩
  · rw [← nI_1] at ih
    exact ih
  · have a := hs j hj
    exact absurd ((leN (b := 1) (by omega) (by decide)).mpr a) q
theorem sp_X4_agrees {N : Nat} {w : St} {P : Int32 → St → Prop} (hN : N ≤ 250) (hcn : w.1 65 0 = nI N)
    (ho : ∀ l, l < 4 → w.1 14 l = obC (w.1 8) (w.1 10) (w.1 11) (nI l) N) (he : ∀ l, l < 4 → w.1 15 l = leL (w.1 8) (w.1 11) (w.1 12) (nI l) N) (hv : ∀ l, l < 4 → w.1 17 l = lvL (w.1 8) (w.1 11) (w.1 12) (nI l) N) (h : P 1 w) : wpX4_agreesWithLog w P := by
  refine ⟨5, lp_up (N := 4) (fun n j => wpX4_agreesWithLog_L2 P n (nI j) w) ⟨fun _ => h, fun q => absurd (yesN 4) q⟩ (fun n j hj ih => ⟨fun q => absurd q (notN (N := 4) hj (by decide)), fun _ => ?_⟩)⟩
  rw [← nI_1] at ih
  have f1 := inN hj (show 4 < 2147483648 by decide)
  have f2 := clN (n := j) (by omega)
  have hv' : wpX2_lastValue (nI j) w (fun r_6 w_5 => (w.1 17 j = r_6 → wpX4_agreesWithLog_L2 P (n + 1) (nI j + 1) w_5) ∧ (¬ w.1 17 j = r_6 → P 0 w_5)) := sp_X2_lastValue hN hcn (by rw [← hv j hj]; exact ⟨fun _ => ih, fun q => absurd rfl q⟩)
  rw [sp_X1_isFree hj]
  cases hf : fre (w.1 14 j) (w.1 15 j) (w.1 64 0) with
  | true =>
    refine ⟨fun q => absurd q (by decide), fun _ => sp_X2_lastEnd hN hcn ⟨fun q => ?_, fun q => ?_⟩⟩
    · rw [f2]
      exact ⟨fun _ => ⟨f1, hv'⟩, fun q => absurd rfl q⟩
    · rw [hcn, f2]
      refine sp_X2_ownerBy hN (Nat.le_refl _) hcn ?_
      rw [← ho j hj]
      rw [← he j hj] at q
      simp only [fre, nb, Bool.or_eq_true, decide_eq_true_eq, Bool.not_eq_true', decide_eq_false_iff_not] at hf
      rcases hf with hf | hf
      · rw [hf]
        exact ⟨fun _ => ⟨f1, hv'⟩, fun q => absurd rfl q⟩
      · exact absurd (Int32.not_lt.mp hf) q
  | false =>
    refine ⟨fun _ => ⟨f1, sp_X2_lastEnd hN hcn ⟨fun q => ?_, fun q => ?_⟩⟩, fun q => absurd rfl q⟩
    · rw [← he j hj] at q
      simp [fre, nb, Int32.not_lt.mpr q] at hf
    · rw [hcn, f2]
      refine sp_X2_ownerBy hN (Nat.le_refl _) hcn ?_
      rw [← ho j hj]
      exact ⟨fun _ => ⟨f1, hv'⟩, fun q => absurd rfl q⟩
