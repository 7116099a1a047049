/-! SIMPLE TURNS: the rewriting rows -/
theorem le00 : ((0 : Int32) ≤ 0) = True := by simp
theorem le10 : ((1 : Int32) ≤ 0) = False := by simp
theorem e10 : ((1 : Int32) = 0) = False := by simp
theorem e01 : ((0 : Int32) = 1) = False := by simp
theorem lg_self (x : Int64) : lg_cmp x x = 0 := by unfold lg_cmp; simp
theorem inL {t L k : Nat} (h : 5 * t + 5 ≤ L) (hL : L ≤ 2560) (hk : k < 5) : vp_in (nI (5 * t) + nI k) L := by
  rw [nI_add]
  exact inN (by omega) (by omega)
theorem up0 (f : Nat → Int64) (x : Int64) : vp_updL f (0 : Int32).toNatClampNeg x (0 : Int32).toNatClampNeg = x := by simp [vp_updL]
theorem up00 (f : Nat → Int64) (x : Int64) : vp_updL f 0 x 0 = x := by simp [vp_updL]
theorem uI_2 (w : St) (k : Nat) (x : Int32) : (uI w k x).2 = w.2 := rfl
theorem uI_ne (w : St) {k j : Nat} (x : Int32) (h : j ≠ k) : (uI w k x).1 j = w.1 j := by simp [uI, h]
theorem uI_same (w : St) (k : Nat) (x : Int32) (i : Nat) : (uI w k x).1 k i = x := by simp [uI]
theorem uO_1 (w : St) (f : Nat → Int64) : (uO w f).1 = w.1 := rfl
theorem uO_o (w : St) (f : Nat → Int64) : (uO w f).2.2.1 = f := rfl
theorem uI67 (w : St) {j : Nat} (x : Int32) (h : j ≠ 67) : (uI w 67 x).1 j = w.1 j := uI_ne w x h
theorem bI_eq0 (b : Bool) : (bI b = 0) = (b = false) := propext (bI_0 b)
theorem isB_n {x : Int32} (h : isB x) : (narrow .boolean (.int x) = .int x) = True := by
  rcases h with h | h
  · subst h; exact eq_true nb0
  · subst h; exact eq_true nb1
theorem bI_n (b : Bool) : (narrow .boolean (.int (bI b)) = .int (bI b)) = True := eq_true (bI_nb b)
theorem bIt : bI true = 1 := rfl
theorem bIf : bI false = 0 := rfl
/-- who leads by the class's winners -/
def wof (wi : Nat → Int32) (x : Int32) : Int32 := if x < 0 then -1 else if 513 ≤ x then -1 else wi x.toNatClampNeg
theorem in513 {x : Int32} (h0 : ¬ x < 0) (h1 : ¬ (513 : Int32) ≤ x) : vp_in x 513 := by
  rcases ncase x 513 (by decide) with ⟨a, ha, rfl⟩ | h | ⟨_, h⟩
  · exact inN ha (by decide)
  · exact absurd h h0
  · exact absurd h h1
theorem sp_X3_winnerOf {x : Int32} {w : St} {P : Int32 → St → Prop} : wpX3_winnerOf x w P ↔ P (wof (w.1 6) x) w := by
  unfold wpX3_winnerOf wof
  by_cases h0 : x < 0
  · simp [h0]
  · by_cases h1 : (513 : Int32) ≤ x
    · simp [h0, h1]
    · simp [h0, h1, in513 h0 h1]
theorem wof_n {wi : Nat → Int32} {n : Nat} (h : n < 513) : wof wi (nI n) = wi n := by
  unfold wof
  rw [if_neg (nlt0 (by omega)), if_neg (show ¬ (513 : Int32) ≤ nI n from notN (N := 513) h (by decide)), clN (by omega)]
theorem sp_X3_leads {a : Nat} (ha : a < 5) {w : St} {P : Int32 → St → Prop} : wpX3_leads (nI a) w P ↔ P (bI (decide (wof (w.1 6) (w.1 3 a) = nI a))) w := by
  unfold wpX3_leads
  rw [sp_X3_winnerOf, clN (by omega)]
  have := inN ha (show 5 < 2147483648 by decide)
  by_cases h : wof (w.1 6) (w.1 3 a) = nI a <;> simp [h, this, bI]
theorem sp_X5_leads {a : Nat} (ha : a < 5) {w : St} {P : Int32 → St → Prop} : wpX5_leads (nI a) w P ↔ P (bI (decide (w.1 40 a = w.1 39 a))) w := by
  unfold wpX5_leads
  rw [clN (by omega)]
  have := inN ha (show 5 < 2147483648 by decide)
  by_cases h : w.1 40 a = w.1 39 a <;> simp [h, this, bI]
theorem lead_eq {t : Nat} {v : V} (hJ : J t v) (ht : t < 512) {a : Nat} (ha : a < 5) : decide (v.ld a = v.tm a) = decide (wof v.wi (v.tm a) = nI a) := by
  obtain ⟨n, hn, e⟩ := hJ.tmN a ha
  rw [e, wof_n (by omega)]
  congr 1
  apply propext
  constructor
  · intro h
    rcases hJ.ldN a ha with g | ⟨n', m, h1, h2, h3, h4, h5⟩
    · rw [g] at h
      exact absurd (h ▸ nlt0 (p := n) (by omega) : ¬ (-1 : Int32) < 0) (by decide)
    · rw [h3, eqN (by omega) (by omega)] at h
      rw [← h]
      exact h4
  · intro h
    obtain ⟨m, h1, h2, h3⟩ := hJ.ldM a n ha (by omega) h
    rcases hJ.ldN a ha with g | ⟨n', m', g1, g2, g3, g4, g5⟩
    · rw [g] at h3
      exact absurd (h3 ▸ nlt0 (p := m) (by omega) : ¬ (-1 : Int32) < 0) (by decide)
    · rw [e, eqN (by omega) (by omega)] at g5
      rw [g3, eqN (by omega) (by omega)] at h3
      rw [g3]
      congr 1
      omega
/-- free, by the class and by the model -/
def fre (o e n : Int32) : Bool := decide (o = -1) || nb (n < e)
def frm (o e n : Int32) : Bool := decide (o < 0) || nb (n < e)
theorem frm_eq {o : Int32} (h : o = -1 ∨ ∃ c, c < 2147483648 ∧ o = nI c) (e n : Int32) : frm o e n = fre o e n := by
  unfold frm fre
  rcases h with h | ⟨c, hc, h⟩
  · subst h; rfl
  · have g : ¬ nI c = -1 := fun q => absurd (q ▸ nlt0 hc : ¬ (-1 : Int32) < 0) (by decide)
    rw [h]
    simp [nlt0 hc, g]
theorem sp_X1_isFree {l : Nat} (hl : l < 4) {n : Int32} {w : St} {P : Int32 → St → Prop} : wpX1_isFree (nI l) n w P ↔ P (bI (fre (w.1 14 l) (w.1 15 l) n)) w := by
  unfold wpX1_isFree wpX1_isFree_B20
  rw [clN (by omega)]
  have := inN hl (show 4 < 2147483648 by decide)
  by_cases h : w.1 14 l = -1
  · simp [h, this, bI, fre]
  · by_cases g : n < w.1 15 l <;> simp [h, g, this, bI, fre, nb]
theorem sp_X5_isFree {l : Nat} (hl : l < 4) {w : St} {P : Int32 → St → Prop} : wpX5_isFree (nI l) w P ↔ P (bI (frm (w.1 48 l) (w.1 49 l) (w.1 68 0))) w := by
  unfold wpX5_isFree wpX5_isFree_B22
  rw [clN (by omega)]
  have := inN hl (show 4 < 2147483648 by decide)
  by_cases h : w.1 48 l < 0
  · simp [h, this, bI, frm]
  · by_cases g : w.1 68 0 < w.1 49 l <;> simp [h, g, this, bI, frm, nb]
theorem sp_X1_isHeldBy {l : Nat} (hl : l < 4) {c n : Int32} {w : St} {P : Int32 → St → Prop} : wpX1_isHeldBy (nI l) c n w P ↔ P (bI (!fre (w.1 14 l) (w.1 15 l) n && decide (w.1 14 l = c))) w := by
  unfold wpX1_isHeldBy
  rw [sp_X1_isFree hl, clN (by omega)]
  have := inN hl (show 4 < 2147483648 by decide)
  cases fre (w.1 14 l) (w.1 15 l) n <;> by_cases g : w.1 14 l = c <;> simp [g, this, bI]
theorem sp_X5_owns {l : Nat} (hl : l < 4) {c : Int32} {w : St} {P : Int32 → St → Prop} : wpX5_owns c (nI l) w P ↔ P (bI (!frm (w.1 48 l) (w.1 49 l) (w.1 68 0) && decide (w.1 48 l = c))) w := by
  unfold wpX5_owns
  rw [sp_X5_isFree hl, clN (by omega)]
  have := inN hl (show 4 < 2147483648 by decide)
  cases frm (w.1 48 l) (w.1 49 l) (w.1 68 0) <;> by_cases g : w.1 48 l = c <;> simp [g, this, bI]
theorem J.frm {t : Nat} {v : V} (hJ : J t v) {l : Nat} (hl : l < 4) (n : Int32) : frm (v.ow l) (v.en l) n = fre (v.ow l) (v.en l) n := by
  refine frm_eq ?_ _ _
  rcases hJ.owv l hl with h | ⟨c, hc, h⟩
  · exact .inl h
  · have := hJ.nc6
    exact .inr ⟨c, by omega, h⟩
theorem sp_X4_checkNotFree {l : Nat} (hl : l < 4) {w : St} {P : St → Prop} {px} : wpX4_checkNotFree (nI l) w P px ↔ ((fre (w.1 14 l) (w.1 15 l) (w.1 64 0) = false → P w) ∧ (fre (w.1 14 l) (w.1 15 l) (w.1 64 0) = true → px "java/util/NoSuchElementException" w)) := by
  unfold wpX4_checkNotFree
  rw [sp_X1_isFree hl]
  cases fre (w.1 14 l) (w.1 15 l) (w.1 64 0) <;> simp [bI]
theorem n1ne {c : Nat} (h : c < 2147483648) : (nI c = -1) = False := eq_false (fun q => absurd (q ▸ nlt0 h : ¬ (-1 : Int32) < 0) (by decide))
theorem n1lt : ((-1 : Int32) < 0) = True := by simp
theorem n1le : ((0 : Int32) ≤ -1) = False := by simp
theorem e20 : ((2 : Int32) = 0) = False := by simp
theorem le20 : ((2 : Int32) ≤ 0) = False := by simp
theorem e2s : ((2 : Int32) = 1) = False := by simp
theorem e30 : ((3 : Int32) = 0) = False := by simp
theorem le30 : ((3 : Int32) ≤ 0) = False := by simp
