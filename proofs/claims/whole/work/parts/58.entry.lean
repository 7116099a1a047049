/-! ASKING AND ENTERING -/
def can (p d : Int32) (ld : Bool) (N : Nat) : Bool := decide (p = 0) && (decide (d = 0) && (ld && decide (N < 250)))
theorem sp_X4_canAsk {c m N : Nat} (hc : c < 6) (hm : m < 5) (hN : N ≤ 250) {w : St} (hn : w.1 65 0 = nI N) {P : St → Prop} {px} : wpX4_checkCanAsk (nI c) (nI m) w P px ↔ ((can (w.1 25 c) (w.1 2 m) (decide (wof (w.1 6) (w.1 3 m) = nI m)) N = true → P w) ∧ (can (w.1 25 c) (w.1 2 m) (decide (wof (w.1 6) (w.1 3 m) = nI m)) N = false → px "java/lang/IllegalStateException" w)) := by
  unfold wpX4_checkCanAsk wpX4_checkCanAsk_B46
  have f1 := inN hc (show 6 < 2147483648 by decide)
  have f2 := inN hm (show 5 < 2147483648 by decide)
  have f3 := clN (n := c) (by omega)
  have f4 := clN (n := m) (by omega)
  have f5 : (nI N < 250) ↔ N < 250 := ltN (b := 250) (by omega) (by decide)
  simp only [f1, f2, f3, f4, true_and, sp_X3_leads hm, hn, f5, can]
  by_cases h1 : w.1 25 c = 0 <;> by_cases h2 : w.1 2 m = 0 <;> by_cases h3 : wof (w.1 6) (w.1 3 m) = nI m <;> by_cases h4 : N < 250 <;> simp [h1, h2, h3, h4, bI]
theorem sp_X5_cannotAsk {c m N : Nat} (hc : c < 6) (hm : m < 5) (hN : N ≤ 250) {w : St} (hn : w.1 70 0 = nI N) {P : Int32 → St → Prop} : wpX5_cannotAsk (nI c) (nI m) w P ↔ P (bI (!can (w.1 36 c) (w.1 34 m) (decide (w.1 40 m = w.1 39 m)) N)) w := by
  unfold wpX5_cannotAsk wpX5_cannotAsk_B36
  have f1 := inN hc (show 6 < 2147483648 by decide)
  have f2 := inN hm (show 5 < 2147483648 by decide)
  have f3 := clN (n := c) (by omega)
  have f4 := clN (n := m) (by omega)
  have f5 : (nI N = 250) ↔ ¬ N < 250 := by
    rw [show (250 : Int32) = nI 250 from rfl, eqN (by omega) (by decide)]
    omega
  simp only [f1, f2, f3, f4, true_and, sp_X5_leads hm, hn, f5, can]
  by_cases h1 : w.1 36 c = 0 <;> by_cases h2 : w.1 34 m = 0 <;> by_cases h3 : w.1 40 m = w.1 39 m <;> by_cases h4 : N < 250 <;> simp only [h1, h2, h3, h4, bI, decide_true, decide_false, Bool.and_true, Bool.and_false, Bool.true_and, Bool.false_and, Bool.not_true, Bool.not_false, if_true, if_false, not_true_eq_false, not_false_eq_true, true_implies, false_implies, and_true, true_and, Bool.false_eq_true, ite_self, e10]
/-! what asking brings -/
theorem spr_a (dn cu : Nat → Int32) (a : Nat) (tm : Nat → Int32) : ∀ j, spr dn cu a tm j a = tm a
  | 0 => rfl
  | j + 1 => by
    have ih := spr_a dn cu a tm j
    unfold spr
    split
    · rw [upd_e]
      split
      · exact ih
      · exact ih
    · exact ih
theorem spr_val (dn cu : Nat → Int32) (a : Nat) (tm : Nat → Int32) (i : Nat) : ∀ j, spr dn cu a tm j i = if i < j ∧ rch dn cu a i = true then tm a else tm i
  | 0 => by simp [spr]
  | j + 1 => by
    have ih := spr_val dn cu a tm i j
    unfold spr
    split
    · rename_i c
      rw [upd_e]
      by_cases e : i = j
      · subst e
        rw [if_pos rfl, if_pos ⟨Nat.lt_succ_self _, c⟩, spr_a]
      · rw [if_neg e, ih]
        by_cases g : i < j ∧ rch dn cu a i = true
        · rw [if_pos g, if_pos ⟨by omega, g.2⟩]
        · rw [if_neg g, if_neg (fun q => g ⟨by omega, q.2⟩)]
    · rename_i c
      rw [ih]
      by_cases g : i < j ∧ rch dn cu a i = true
      · rw [if_pos g, if_pos ⟨by omega, g.2⟩]
      · rw [if_neg g, if_neg (fun q => g ⟨by
          have := q.1
          by_cases e : i = j
          · subst e; exact absurd q.2 c
          · omega, q.2⟩)]
theorem tch_val (dn cu : Nat → Int32) (a : Nat) (c : Int32) (kn : Nat → Int32) (i : Nat) : ∀ j, tch dn cu a c kn j i = if i < j ∧ rch dn cu a i = true then c else kn i
  | 0 => by simp [tch]
  | j + 1 => by
    have ih := tch_val dn cu a c kn i j
    unfold tch
    split
    · rename_i r
      rw [upd_e]
      by_cases e : i = j
      · subst e
        rw [if_pos rfl, if_pos ⟨Nat.lt_succ_self _, r⟩]
      · rw [if_neg e, ih]
        by_cases g : i < j ∧ rch dn cu a i = true
        · rw [if_pos g, if_pos ⟨by omega, g.2⟩]
        · rw [if_neg g, if_neg (fun q => g ⟨by omega, q.2⟩)]
    · rename_i r
      rw [ih]
      by_cases g : i < j ∧ rch dn cu a i = true
      · rw [if_pos g, if_pos ⟨by omega, g.2⟩]
      · rw [if_neg g, if_neg (fun q => g ⟨by
          have := q.1
          by_cases e : i = j
          · subst e; exact absurd q.2 r
          · omega, q.2⟩)]
theorem gtr_val (dn cu tm : Nat → Int32) {a : Nat} (ha : a < 5) : ∀ j, j ≤ 5 → (∃ i, i < 5 ∧ gtr dn cu tm a j = tm i) ∧ tm a ≤ gtr dn cu tm a j ∧ ∀ i, i < j → rch dn cu a i = true → tm i ≤ gtr dn cu tm a j
  | 0, _ => ⟨⟨a, ha, rfl⟩, Int32.le_refl _, fun i hi => by omega⟩
  | j + 1, hj => by
    obtain ⟨⟨i0, g1, g2⟩, g3, g4⟩ := gtr_val dn cu tm ha j (by omega)
    unfold gtr
    split
    · rename_i c
      refine ⟨⟨j, by omega, rfl⟩, Int32.le_trans g3 (Int32.le_of_lt c.2), fun i hi r => ?_⟩
      by_cases e : i = j
      · subst e; exact Int32.le_refl _
      · exact Int32.le_trans (g4 i (by omega) r) (Int32.le_of_lt c.2)
    · rename_i c
      refine ⟨⟨i0, g1, g2⟩, g3, fun i hi r => ?_⟩
      by_cases e : i = j
      · subst e
        exact Int32.not_lt.mp (fun q => c ⟨r, q⟩)
      · exact g4 i (by omega) r
theorem csT_def (dn cu tm : Nat → Int32) (a : Nat) : csT dn cu tm a = if tm a < gtr dn cu tm a 5 then upd tm a (gtr dn cu tm a 5) else if ct (rch dn cu a) 5 < 3 then tm else spr dn cu a tm 5 := rfl
theorem asked {t : Nat} {v : V} (h : J t v) {a : Nat} (ha : a < 5) : ∀ i, i < 5 → ∃ n, n ≤ t ∧ csT v.dn v.cu v.tm a i = nI n ∧ v.tm i ≤ csT v.dn v.cu v.tm a i := by
  intro i hi
  obtain ⟨n, hn, en⟩ := h.tmN i hi
  obtain ⟨n', hn', en'⟩ := h.tmN a ha
  obtain ⟨⟨i0, g1, g2⟩, g3, g4⟩ := gtr_val v.dn v.cu v.tm ha 5 (Nat.le_refl _)
  rw [csT_def]
  split
  · rw [upd_e]
    split
    · rename_i e
      subst e
      obtain ⟨k, hk, ek⟩ := h.tmN i0 g1
      exact ⟨k, hk, by rw [g2, ek], g3⟩
    · exact ⟨n, hn, en, Int32.le_refl _⟩
  · rename_i c
    split
    · exact ⟨n, hn, en, Int32.le_refl _⟩
    · rw [spr_val]
      split
      · rename_i r
        exact ⟨n', hn', en', Int32.le_trans (g4 i hi r.2) (Int32.not_lt.mp c)⟩
      · exact ⟨n, hn, en, Int32.le_refl _⟩
/-- what is sure when the leader can do what is asked -/
theorem asked_g {v : V} {a : Nat} (ha : a < 5) (h : csR v.dn v.cu v.tm a = 103) : 3 ≤ ct (rch v.dn v.cu a) 5 ∧ csT v.dn v.cu v.tm a a = v.tm a ∧ ∀ i, i < 5 → rch v.dn v.cu a i = true → csT v.dn v.cu v.tm a i = v.tm a := by
  rw [csT_def]
  unfold csR at h
  by_cases c1 : v.tm a < gtr v.dn v.cu v.tm a 5
  · rw [if_pos c1] at h
    exact absurd h (by decide)
  · rw [if_neg c1] at h ⊢
    by_cases c2 : ct (rch v.dn v.cu a) 5 < 3
    · rw [if_pos c2] at h
      exact absurd h (by decide)
    · rw [if_neg c2]
      refine ⟨by omega, spr_a _ _ _ _ _, fun i hi r => ?_⟩
      rw [spr_val, if_pos ⟨hi, r⟩]
/-! the log, one entry longer -/
theorem obC_cong {ki ki' ec ec' el el' : Nat → Int32} (l : Int32) : ∀ n, (∀ k, k < n → ki' k = ki k ∧ ec' k = ec k ∧ el' k = el k) → obC ki' ec' el' l n = obC ki ec el l n
  | 0, _ => rfl
  | n + 1, h => by
    have ih := obC_cong l n (fun k hk => h k (by omega))
    obtain ⟨a, b, c⟩ := h n (by omega)
    unfold obC
    rw [a, b, c, ih]
theorem obM_cong {ki ki' ec ec' el el' : Nat → Int32} (l : Int32) : ∀ n, (∀ k, k < n → ki' k = ki k ∧ ec' k = ec k ∧ el' k = el k) → obM ki' ec' el' l n = obM ki ec el l n
  | 0, _ => rfl
  | n + 1, h => by
    have ih := obM_cong l n (fun k hk => h k (by omega))
    obtain ⟨a, b, c⟩ := h n (by omega)
    unfold obM
    rw [a, b, c, ih]
theorem leL_cong {ki ki' el el' de de' : Nat → Int32} (l : Int32) : ∀ n, (∀ k, k < n → ki' k = ki k ∧ el' k = el k ∧ de' k = de k) → leL ki' el' de' l n = leL ki el de l n
  | 0, _ => rfl
  | n + 1, h => by
    have ih := leL_cong l n (fun k hk => h k (by omega))
    obtain ⟨a, b, c⟩ := h n (by omega)
    unfold leL
    rw [a, b, c, ih]
theorem lvL_cong {ki ki' el el' de de' : Nat → Int32} (l : Int32) : ∀ n, (∀ k, k < n → ki' k = ki k ∧ el' k = el k ∧ de' k = de k) → lvL ki' el' de' l n = lvL ki el de l n
  | 0, _ => rfl
  | n + 1, h => by
    have ih := lvL_cong l n (fun k hk => h k (by omega))
    obtain ⟨a, b, c⟩ := h n (by omega)
    unfold lvL
    rw [a, b, c, ih]
theorem upd_lt (f : Nat → Int32) {n k : Nat} (x : Int32) (h : k < n) : upd f n x k = f k := by rw [upd_e, if_neg (by omega)]
theorem upd_eq (f : Nat → Int32) (n : Nat) (x : Int32) : upd f n x n = x := by rw [upd_e, if_pos rfl]
theorem upd_ne (f : Nat → Int32) {n k : Nat} (x : Int32) (h : k ≠ n) : upd f n x k = f k := by rw [upd_e, if_neg h]
theorem nlI {a b : Nat} (ha : a < 2147483648) (hb : b < 2147483648) : (nI a = nI b) = (a = b) := propext (eqN ha hb)
theorem J.entry {t : Nat} {v : V} (h : J t v) (hne : v.ne < 250) (ht : t < 2147483648) {m c l0 : Nat} (hm : m < 5) (hc : c < v.nc) (hl : l0 < 4) {k d : Int32} (hk : k = 108 ∨ k = 114 ∨ k = 117 ∨ k = 118)
    (hq : 3 ≤ ct (rch v.dn v.cu m) 5) (hT : ∀ i, i < 5 → rch v.dn v.cu m i = true → v.tm i = v.tm m)
    {ow' en' va' th' wt' gr' ls' lc' ks' kv' kc' ku' : Nat → Int32} {q' : Nat → Nat → Int32} {lt' lm' : Int64}
    (how : ∀ l, l < 4 → ow' l = if l = l0 then (if k = 108 then nI c else if k = 117 then -1 else v.ow l) else v.ow l)
    (hob : k = 114 → v.ow l0 = nI c)
    (hen : ∀ l, l < 4 → en' l = if l = l0 ∧ (k = 108 ∨ k = 114) then d else v.en l)
    (hd : k = 108 ∨ k = 114 → d = nI (v.now + 12))
    (hva : ∀ l, l < 4 → va' l = if l = l0 ∧ k = 118 then d else v.va l)
    (hth : ∀ l, l < 4 → th' l = -1 ∨ ∃ c, c < v.nc ∧ th' l = nI c)
    (hwt : ∀ l, l < 4 → qOK (wt' l) (q' l) v.nc)
    (hgr : ∀ l, l < 4 → ∃ g, g ≤ v.now ∧ gr' l = nI g)
    (hcl : ∀ c l, c < 6 → l < 4 → ls' (c * 4 + l) = 0 ∨ ∃ τ, τ ≤ v.now ∧ -2 ≤ (lc' (c * 4 + l)).toInt ∧ (lc' (c * 4 + l)).toInt ≤ τ + 2 ∧ (τ + 12 ≤ v.now ∨ (ow' l = nI c ∧ ∃ e, τ + 12 ≤ e ∧ e ≤ v.now + 12 ∧ en' l = nI e)))
    (hlse : lt' = sL ow' en' gr' lm' 4) :
    J t (V.s_lm (V.s_lt (V.s_ku (V.s_kc (V.s_kv (V.s_ks (V.s_lc (V.s_ls (V.s_gr (V.s_q (V.s_wt (V.s_th (V.s_va (V.s_en (V.s_ow (V.s_kn (V.s_ne (V.s_de (V.s_el (V.s_ec (V.s_et (V.s_ki v (upd v.ki v.ne k)) (upd v.et v.ne (v.tm m))) (upd v.ec v.ne (nI c))) (upd v.el v.ne (nI l0))) (upd v.de v.ne d)) (v.ne + 1)) (tch v.dn v.cu m (nI (v.ne + 1)) v.kn 5)) (ow')) (en')) (va')) (th')) (wt')) (q')) (gr')) (ls')) (lc')) (ks')) (kv')) (kc')) (ku')) (lt')) (lm')) := by
  have hn6 := h.nc6
  have hnb := h.nowb
  have agree3 : ∀ k', k' < v.ne → upd v.ki v.ne k k' = v.ki k' ∧ upd v.ec v.ne (nI c) k' = v.ec k' ∧ upd v.el v.ne (nI l0) k' = v.el k' := fun k' hk' => ⟨upd_lt _ _ hk', upd_lt _ _ hk', upd_lt _ _ hk'⟩
  have agree3' : ∀ k', k' < v.ne → upd v.ki v.ne k k' = v.ki k' ∧ upd v.el v.ne (nI l0) k' = v.el k' ∧ upd v.de v.ne d k' = v.de k' := fun k' hk' => ⟨upd_lt _ _ hk', upd_lt _ _ hk', upd_lt _ _ hk'⟩
  have obNew : ∀ l, l < 4 → obC (upd v.ki v.ne k) (upd v.ec v.ne (nI c)) (upd v.el v.ne (nI l0)) (nI l) (v.ne + 1) = ow' l := by
    intro l hl'
    rw [how l hl']
    show (if upd v.el v.ne (nI l0) v.ne = nI l then (if upd v.ki v.ne k v.ne = 108 then upd v.ec v.ne (nI c) v.ne else if upd v.ki v.ne k v.ne = 117 then -1 else obC _ _ _ (nI l) v.ne) else obC _ _ _ (nI l) v.ne) = _
    rw [upd_eq, upd_eq, upd_eq, obC_cong (nI l) v.ne agree3, ← h.owE l hl']
    by_cases e : l0 = l
    · rw [if_pos (congrArg nI e), if_pos e.symm]
    · rw [if_neg (fun q => e (nI_inj (by omega) (by omega) q)), if_neg (fun q => e q.symm)]
  have cmm : ∀ i, i < 5 → rch v.dn v.cu m i = true → tch v.dn v.cu m (nI (v.ne + 1)) v.kn 5 i = nI (v.ne + 1) := fun i hi r => by rw [tch_val, if_pos ⟨hi, r⟩]
  exact J.mk (nc6 := h.nc6) (ne250 := hne) (nowb := h.nowb) (bdn := h.bdn) (bcu := h.bcu) (bpa := h.bpa) (ofb := h.ofb) (tmN := h.tmN) (knN := fun a ha => by
      show ∃ k', k' ≤ v.ne + 1 ∧ tch v.dn v.cu m (nI (v.ne + 1)) v.kn 5 a = nI k'
      rw [tch_val]
      split
      · exact ⟨v.ne + 1, Nat.le_refl _, rfl⟩
      · obtain ⟨k', a1, a2⟩ := h.knN a ha
        exact ⟨k', by omega, a2⟩) (owv := fun l hl' => by
      show ow' l = -1 ∨ ∃ c, c < v.nc ∧ ow' l = nI c
      rw [how l hl']
      split
      · split
        · exact .inr ⟨c, hc, rfl⟩
        · split
          · exact .inl rfl
          · exact h.owv l hl'
      · exact h.owv l hl') (thv := hth) (enN := fun l hl' => by
      show ∃ e, e ≤ v.now + 12 ∧ en' l = nI e
      rw [hen l hl']
      split
      · rename_i c
        exact ⟨v.now + 12, Nat.le_refl _, hd c.2⟩
      · exact h.enN l hl') (grN := hgr) (wtq := hwt) (wiN := h.wiN) (leN := h.leN) (le0 := h.le0) (wi0 := h.wi0) (ldN := h.ldN) (ldM := h.ldM) (wi3 := h.wi3) (elN := fun k' hk' => by
      show ∃ l, l < 4 ∧ upd v.el v.ne (nI l0) k' = nI l
      rw [upd_e]
      split
      · exact ⟨l0, hl, rfl⟩
      · exact h.elN k' (by have : k' < v.ne + 1 := hk'; omega)) (ecN := fun k' hk' => by
      show ∃ c', c' < v.nc ∧ upd v.ec v.ne (nI c) k' = nI c'
      rw [upd_e]
      split
      · exact ⟨c, hc, rfl⟩
      · exact h.ecN k' (by have : k' < v.ne + 1 := hk'; omega)) (kiN := fun k' hk' => by
      show upd v.ki v.ne k k' = 108 ∨ upd v.ki v.ne k k' = 114 ∨ upd v.ki v.ne k k' = 117 ∨ upd v.ki v.ne k k' = 118
      rw [upd_e]
      split
      · exact hk
      · exact h.kiN k' (by have : k' < v.ne + 1 := hk'; omega)) (obE := fun l n hl' hn => by
      show obC (upd v.ki v.ne k) (upd v.ec v.ne (nI c)) (upd v.el v.ne (nI l0)) (nI l) n = obM (upd v.ki v.ne k) (upd v.ec v.ne (nI c)) (upd v.el v.ne (nI l0)) (nI l) n
      have hn' : n ≤ v.ne + 1 := hn
      by_cases e : n = v.ne + 1
      · subst e
        rw [obNew l hl', how l hl']
        show _ = (if upd v.el v.ne (nI l0) v.ne = nI l then (if upd v.ki v.ne k v.ne = 118 then obM _ _ _ (nI l) v.ne else if upd v.ki v.ne k v.ne = 117 then -1 else upd v.ec v.ne (nI c) v.ne) else obM _ _ _ (nI l) v.ne)
        rw [upd_eq, upd_eq, upd_eq, obM_cong (nI l) v.ne agree3, ← h.obE l v.ne hl' (Nat.le_refl _), ← h.owE l hl']
        by_cases e : l0 = l
        · subst e
          rw [if_pos rfl, if_pos rfl]
          rcases hk with hk | hk | hk | hk
          · subst hk; rfl
          · rw [hob hk, hk]; rfl
          · subst hk; rfl
          · subst hk; rfl
        · rw [if_neg (fun q => e q.symm), if_neg (fun q => e (nI_inj (by omega) (by omega) q))]
      · rw [obC_cong (nI l) n (fun k' hk' => agree3 k' (by omega)), obM_cong (nI l) n (fun k' hk' => agree3 k' (by omega))]
        exact h.obE l n hl' (by omega)) (owE := fun l hl' => (obNew l hl').symm) (enE := fun l hl' => by
      show en' l = (if upd v.el v.ne (nI l0) v.ne = nI l ∧ (upd v.ki v.ne k v.ne = 108 ∨ upd v.ki v.ne k v.ne = 114) then upd v.de v.ne d v.ne else leL _ _ _ (nI l) v.ne)
      rw [upd_eq, upd_eq, upd_eq, leL_cong (nI l) v.ne agree3', ← h.enE l hl', hen l hl']
      by_cases e : l = l0
      · subst e
        simp only [true_and]
      · rw [if_neg (fun q => e q.1), if_neg (fun q => e (nI_inj (by omega) (by omega) q.1.symm))]) (vaE := fun l hl' => by
      show va' l = (if upd v.el v.ne (nI l0) v.ne = nI l ∧ upd v.ki v.ne k v.ne = 118 then upd v.de v.ne d v.ne else lvL _ _ _ (nI l) v.ne)
      rw [upd_eq, upd_eq, upd_eq, lvL_cong (nI l) v.ne agree3', ← h.vaE l hl', hva l hl']
      by_cases e : l = l0
      · subst e
        simp only [true_and]
      · rw [if_neg (fun q => e q.1), if_neg (fun q => e (nI_inj (by omega) (by omega) q.1.symm))]) (etS := fun n h0 hn => by
      show upd v.et v.ne (v.tm m) (n - 1) ≤ upd v.et v.ne (v.tm m) n
      have hn' : n < v.ne + 1 := hn
      by_cases e : n = v.ne
      · rw [upd_lt _ _ (by omega), e, upd_eq]
        have a3 := h.et3 (by omega)
        obtain ⟨i, hi, q1, q2⟩ := ct_inter hq a3
        simp only [nb, Bool.not_eq_true', decide_eq_false_iff_not] at q2
        rw [hT i hi q1] at q2
        exact Int32.not_lt.mp q2
      · rw [upd_lt _ _ (by omega), upd_lt _ _ (by omega)]
        exact h.etS n h0 (by omega)) (et3 := fun _ => by
      show 3 ≤ ct (fun i => nb (v.tm i < upd v.et v.ne (v.tm m) (v.ne + 1 - 1))) 5
      rw [Nat.add_sub_cancel, upd_eq]
      refine Nat.le_trans hq (ct_mono 5 (fun i hi r => ?_))
      rw [hT i hi r]
      exact nb_t Int32.lt_irrefl) (kn3 := fun _ => by
      show 3 ≤ ct (fun i => decide (tch v.dn v.cu m (nI (v.ne + 1)) v.kn 5 i = nI (v.ne + 1))) 5
      refine Nat.le_trans hq (ct_mono 5 (fun i hi r => ?_))
      rw [cmm i hi r]
      exact decide_eq_true rfl) (cl := hcl) (lse := hlse)
