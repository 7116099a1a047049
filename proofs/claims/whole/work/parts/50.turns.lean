set_option maxHeartbeats 1000000 in
theorem st_1 {xs : Nat → Int32} {L t : Nat} {w : St} (hL : L ≤ 2560) (h5 : 5 * t + 5 ≤ L) (hI : Inv t w) : wpL_C1 xs L (nI (5 * t)) w (Inv (t + 1)) := by
  obtain ⟨v, hR, hJ⟩ := hI
  have f3 : vp_in 0 1 := inN (a := 0) (by decide) (by decide)
  have z00 : (0 : Int32).toNatClampNeg = 0 := rfl
  unfold wpL_C1
  try simp only [true_and, and_true, forall_eq, forall_const, true_implies, false_implies, not_true_eq_false, not_false_eq_true, le00, le10, e10, e01, eq_self, ck1, ck0, wpX5_thrown, uI_same, uI_2, uO_o, uO_1, up0, up00, uI67, ne_eq, Nat.reduceEqDiff, lg_self, String.reduceEq, false_and, or_false, false_or, and_self, f3, z00, wpX4_time, wpX5_time, wpX5_plain, hR.cnow, hR.mnow]
  exact ⟨v, hR.s67 _, hJ.mono⟩
set_option maxHeartbeats 1000000 in
theorem st_6 {xs : Nat → Int32} {L t : Nat} {w : St} (hL : L ≤ 2560) (h5 : 5 * t + 5 ≤ L) (hI : Inv t w) : wpL_C6 xs L (nI (5 * t)) w (Inv (t + 1)) := by
  obtain ⟨v, hR, hJ⟩ := hI
  have f3 : vp_in 0 1 := inN (a := 0) (by decide) (by decide)
  have z00 : (0 : Int32).toNatClampNeg = 0 := rfl
  have i1 : vp_in (nI (5 * t) + 1) L := inL (k := 1) h5 hL (by decide)
  unfold wpL_C6
  generalize xs (nI (5 * t) + 1).toNatClampNeg = p1
  rcases ixc p1 5 (by decide) with ⟨a, ha, rfl⟩ | hb1
  · have f1a : vp_in (nI a) 5 := inN ha (by decide)
    have f2a : (nI a).toNatClampNeg = a := clN (by omega)
    try simp only [true_and, and_true, forall_eq, forall_const, true_implies, false_implies, not_true_eq_false, not_false_eq_true, le00, le10, e10, e01, eq_self, ck1, ck0, wpX5_thrown, uI_same, uI_2, uO_o, uO_1, up0, up00, uI67, ne_eq, Nat.reduceEqDiff, lg_self, String.reduceEq, false_and, or_false, false_or, and_self, f3, z00, i1, f1a, f2a, ckM ha, imM ha, wpL_termOf, wpX4_termOf, wpX5_termOf, hR.ctm, hR.mtm]
    exact ⟨v, (hR.sO _).s67 _, hJ.mono⟩
  · try simp only [true_and, and_true, forall_eq, forall_const, true_implies, false_implies, not_true_eq_false, not_false_eq_true, le00, le10, e10, e01, eq_self, ck1, ck0, wpX5_thrown, uI_same, uI_2, uO_o, uO_1, up0, up00, uI67, ne_eq, Nat.reduceEqDiff, lg_self, String.reduceEq, false_and, or_false, false_or, and_self, f3, z00, i1, ckM' hb1, imM' hb1, wpL_termOf, wpX4_termOf, wpX5_termOf]
    exact ⟨v, hR.s67 _, hJ.mono⟩
set_option maxHeartbeats 1000000 in
theorem st_9 {xs : Nat → Int32} {L t : Nat} {w : St} (hL : L ≤ 2560) (h5 : 5 * t + 5 ≤ L) (hI : Inv t w) : wpL_C9 xs L (nI (5 * t)) w (Inv (t + 1)) := by
  obtain ⟨v, hR, hJ⟩ := hI
  have f3 : vp_in 0 1 := inN (a := 0) (by decide) (by decide)
  have z00 : (0 : Int32).toNatClampNeg = 0 := rfl
  have i1 : vp_in (nI (5 * t) + 1) L := inL (k := 1) h5 hL (by decide)
  unfold wpL_C9
  generalize xs (nI (5 * t) + 1).toNatClampNeg = p1
  rcases ixc p1 5 (by decide) with ⟨a, ha, rfl⟩ | hb1
  · have f1a : vp_in (nI a) 5 := inN ha (by decide)
    have f2a : (nI a).toNatClampNeg = a := clN (by omega)
    try simp only [true_and, and_true, forall_eq, forall_const, true_implies, false_implies, not_true_eq_false, not_false_eq_true, le00, le10, e10, e01, eq_self, ck1, ck0, wpX5_thrown, uI_same, uI_2, uO_o, uO_1, up0, up00, uI67, ne_eq, Nat.reduceEqDiff, lg_self, String.reduceEq, false_and, or_false, false_or, and_self, f3, z00, i1, f1a, f2a, ckM ha, imM ha, wpL_known, wpX4_known, wpX5_known, hR.ckn, hR.mkn]
    exact ⟨v, (hR.sO _).s67 _, hJ.mono⟩
  · try simp only [true_and, and_true, forall_eq, forall_const, true_implies, false_implies, not_true_eq_false, not_false_eq_true, le00, le10, e10, e01, eq_self, ck1, ck0, wpX5_thrown, uI_same, uI_2, uO_o, uO_1, up0, up00, uI67, ne_eq, Nat.reduceEqDiff, lg_self, String.reduceEq, false_and, or_false, false_or, and_self, f3, z00, i1, ckM' hb1, imM' hb1, wpL_known, wpX4_known, wpX5_known]
    exact ⟨v, hR.s67 _, hJ.mono⟩
set_option maxHeartbeats 1000000 in
theorem st_4 {xs : Nat → Int32} {L t : Nat} {w : St} (hL : L ≤ 2560) (h5 : 5 * t + 5 ≤ L) (hI : Inv t w) : wpL_C4 xs L (nI (5 * t)) w (Inv (t + 1)) := by
  obtain ⟨v, hR, hJ⟩ := hI
  have f3 : vp_in 0 1 := inN (a := 0) (by decide) (by decide)
  have z00 : (0 : Int32).toNatClampNeg = 0 := rfl
  have i1 : vp_in (nI (5 * t) + 1) L := inL (k := 1) h5 hL (by decide)
  unfold wpL_C4
  generalize xs (nI (5 * t) + 1).toNatClampNeg = p1
  rcases ixc p1 5 (by decide) with ⟨a, ha, rfl⟩ | hb1
  · have f1a : vp_in (nI a) 5 := inN ha (by decide)
    have f2a : (nI a).toNatClampNeg = a := clN (by omega)
    try simp only [true_and, and_true, forall_eq, forall_const, true_implies, false_implies, not_true_eq_false, not_false_eq_true, le00, le10, e10, e01, eq_self, ck1, ck0, wpX5_thrown, uI_same, uI_2, uO_o, uO_1, up0, up00, uI67, ne_eq, Nat.reduceEqDiff, lg_self, String.reduceEq, false_and, or_false, false_or, and_self, f3, z00, i1, f1a, f2a, ckM ha, imM ha, wpL_reached, wpX4_reached, wpX5_reached]
    refine sp_X3_countReached ha ?_
    try simp only [true_and, and_true, forall_eq, forall_const, true_implies, false_implies, not_true_eq_false, not_false_eq_true, le00, le10, e10, e01, eq_self, ck1, ck0, wpX5_thrown, uI_same, uI_2, uO_o, uO_1, up0, up00, uI67, ne_eq, Nat.reduceEqDiff, lg_self, String.reduceEq, false_and, or_false, false_or, and_self, f3, z00, i1, imM ha]
    refine sp_X5_reachedBy ha ?_
    try simp only [true_and, and_true, forall_eq, forall_const, true_implies, false_implies, not_true_eq_false, not_false_eq_true, le00, le10, e10, e01, eq_self, ck1, ck0, wpX5_thrown, uI_same, uI_2, uO_o, uO_1, up0, up00, uI67, ne_eq, Nat.reduceEqDiff, lg_self, String.reduceEq, false_and, or_false, false_or, and_self, f3, z00, hR.cdn, hR.ccu, hR.mdn, hR.mcu]
    exact ⟨v, (hR.sO _).s67 _, hJ.mono⟩
  · try simp only [true_and, and_true, forall_eq, forall_const, true_implies, false_implies, not_true_eq_false, not_false_eq_true, le00, le10, e10, e01, eq_self, ck1, ck0, wpX5_thrown, uI_same, uI_2, uO_o, uO_1, up0, up00, uI67, ne_eq, Nat.reduceEqDiff, lg_self, String.reduceEq, false_and, or_false, false_or, and_self, f3, z00, i1, ckM' hb1, imM' hb1, wpL_reached, wpX4_reached, wpX5_reached]
    exact ⟨v, hR.s67 _, hJ.mono⟩
set_option maxHeartbeats 1000000 in
theorem st_7 {xs : Nat → Int32} {L t : Nat} {w : St} (hL : L ≤ 2560) (h5 : 5 * t + 5 ≤ L) (hI : Inv t w) : wpL_C7 xs L (nI (5 * t)) w (Inv (t + 1)) := by
  obtain ⟨v, hR, hJ⟩ := hI
  have f3 : vp_in 0 1 := inN (a := 0) (by decide) (by decide)
  have z00 : (0 : Int32).toNatClampNeg = 0 := rfl
  have i1 : vp_in (nI (5 * t) + 1) L := inL (k := 1) h5 hL (by decide)
  unfold wpL_C7
  generalize xs (nI (5 * t) + 1).toNatClampNeg = p1
  rcases ixc p1 5 (by decide) with ⟨a, ha, rfl⟩ | hb1
  · have f1a : vp_in (nI a) 5 := inN ha (by decide)
    have f2a : (nI a).toNatClampNeg = a := clN (by omega)
    have ht : t < 512 := by omega
    try simp only [true_and, and_true, forall_eq, forall_const, true_implies, false_implies, not_true_eq_false, not_false_eq_true, le00, le10, e10, e01, eq_self, ck1, ck0, wpX5_thrown, uI_same, uI_2, uO_o, uO_1, up0, up00, uI67, ne_eq, Nat.reduceEqDiff, lg_self, String.reduceEq, false_and, or_false, false_or, and_self, f3, z00, i1, f1a, f2a, ckM ha, imM ha, wpL_isLeader, wpX4_isLeader, wpX5_isLeader, wpL_isLeader_B15, wpL_C7_B709, sp_X3_leads ha, sp_X5_leads ha, bI_n, hR.cwi, hR.ctm, hR.mld, hR.mtm, lead_eq hJ ht ha]
    cases decide (wof v.wi (v.tm a) = nI a)
    · try simp only [true_and, and_true, forall_eq, forall_const, true_implies, false_implies, not_true_eq_false, not_false_eq_true, le00, le10, e10, e01, eq_self, ck1, ck0, wpX5_thrown, uI_same, uI_2, uO_o, uO_1, up0, up00, uI67, ne_eq, Nat.reduceEqDiff, lg_self, String.reduceEq, false_and, or_false, false_or, and_self, f3, z00, bIf]
      exact ⟨v, (hR.sO _).s67 _, hJ.mono⟩
    · try simp only [true_and, and_true, forall_eq, forall_const, true_implies, false_implies, not_true_eq_false, not_false_eq_true, le00, le10, e10, e01, eq_self, ck1, ck0, wpX5_thrown, uI_same, uI_2, uO_o, uO_1, up0, up00, uI67, ne_eq, Nat.reduceEqDiff, lg_self, String.reduceEq, false_and, or_false, false_or, and_self, f3, z00, bIt]
      exact ⟨v, (hR.sO _).s67 _, hJ.mono⟩
  · try simp only [true_and, and_true, forall_eq, forall_const, true_implies, false_implies, not_true_eq_false, not_false_eq_true, le00, le10, e10, e01, eq_self, ck1, ck0, wpX5_thrown, uI_same, uI_2, uO_o, uO_1, up0, up00, uI67, ne_eq, Nat.reduceEqDiff, lg_self, String.reduceEq, false_and, or_false, false_or, and_self, f3, z00, i1, ckM' hb1, imM' hb1, wpL_isLeader, wpX4_isLeader, wpX5_isLeader]
    exact ⟨v, hR.s67 _, hJ.mono⟩
set_option maxHeartbeats 1000000 in
theorem st_8 {xs : Nat → Int32} {L t : Nat} {w : St} (hL : L ≤ 2560) (h5 : 5 * t + 5 ≤ L) (hI : Inv t w) : wpL_C8 xs L (nI (5 * t)) w (Inv (t + 1)) := by
  obtain ⟨v, hR, hJ⟩ := hI
  have f3 : vp_in 0 1 := inN (a := 0) (by decide) (by decide)
  have z00 : (0 : Int32).toNatClampNeg = 0 := rfl
  have i1 : vp_in (nI (5 * t) + 1) L := inL (k := 1) h5 hL (by decide)
  unfold wpL_C8
  generalize xs (nI (5 * t) + 1).toNatClampNeg = p1
  rcases ixc p1 600 (by decide) with ⟨a, ha, rfl⟩ | hb1
  · have f1a : vp_in (nI a) 600 := inN ha (by decide)
    have f2a : (nI a).toNatClampNeg = a := clN (by omega)
    have g : ∀ w P, wpX5_in (nI a) 0 599 w P ↔ P 1 w := fun w P => ok_m (N := 599) (by decide) ha _ _
    rcases Nat.lt_or_ge a 513 with h | h
    · have e1 : wof v.wi (nI a) = v.wi a := wof_n h
      rcases hJ.wiN a h with e | ⟨i, hi, e⟩
      · have e2 : v.le a = 0 := by rw [hJ.leN a h, e]; rfl
        try simp only [true_and, and_true, forall_eq, forall_const, true_implies, false_implies, not_true_eq_false, not_false_eq_true, le00, le10, e10, e01, eq_self, ck1, ck0, wpX5_thrown, uI_same, uI_2, uO_o, uO_1, up0, up00, uI67, ne_eq, Nat.reduceEqDiff, lg_self, String.reduceEq, false_and, or_false, false_or, and_self, f3, z00, i1, wpL_leaderOf, wpX4_leaderOf, wpX5_leaderOf, wpX5_leaderOf_B26, wpX5_leaderOf_B25, sp_X3_winnerOf, hR.cwi, e1, e, g, f1a, f2a, hR.mle, e2]
        exact ⟨v, hR.s67 _, hJ.mono⟩
      · have e2 : v.le a = nI (i + 1) := by rw [hJ.leN a h, e]; exact nI_1 i
        have e3 : (nI (i + 1) ≤ 0) = False := eq_false (nle0 (by omega))
        have e4 : nI (i + 1) - 1 = nI i := by rw [sub1 (by omega) (by omega), Nat.add_sub_cancel]
        try simp only [true_and, and_true, forall_eq, forall_const, true_implies, false_implies, not_true_eq_false, not_false_eq_true, le00, le10, e10, e01, eq_self, ck1, ck0, wpX5_thrown, uI_same, uI_2, uO_o, uO_1, up0, up00, uI67, ne_eq, Nat.reduceEqDiff, lg_self, String.reduceEq, false_and, or_false, false_or, and_self, f3, z00, i1, wpL_leaderOf, wpX4_leaderOf, wpX5_leaderOf, wpX5_leaderOf_B26, wpX5_leaderOf_B25, sp_X3_winnerOf, hR.cwi, e1, e, g, f1a, f2a, hR.mle, e2, e3, e4, n1ne (show i < 2147483648 by omega)]
        exact ⟨v, (hR.sO _).s67 _, hJ.mono⟩
    · have e1 : wof v.wi (nI a) = -1 := by unfold wof; rw [if_neg (nlt0 (by omega)), if_pos (show (513 : Int32) ≤ nI a from (leN (a := 513) (by decide) (by omega)).mpr h)]
      have e2 : v.le a = 0 := hJ.le0 a h ha
      try simp only [true_and, and_true, forall_eq, forall_const, true_implies, false_implies, not_true_eq_false, not_false_eq_true, le00, le10, e10, e01, eq_self, ck1, ck0, wpX5_thrown, uI_same, uI_2, uO_o, uO_1, up0, up00, uI67, ne_eq, Nat.reduceEqDiff, lg_self, String.reduceEq, false_and, or_false, false_or, and_self, f3, z00, i1, wpL_leaderOf, wpX4_leaderOf, wpX5_leaderOf, wpX5_leaderOf_B26, wpX5_leaderOf_B25, sp_X3_winnerOf, hR.cwi, e1, g, f1a, f2a, hR.mle, e2]
      exact ⟨v, hR.s67 _, hJ.mono⟩
  · have g : ∀ w P, wpX5_in p1 0 599 w P ↔ P 0 w := fun w P => bad_m (N := 599) (by decide) hb1 _ _
    have e1 : wof v.wi p1 = -1 := by
      unfold wof
      rcases hb1 with h | ⟨h, h'⟩
      · rw [if_pos h]
      · rw [if_neg h, if_pos (Int32.le_trans (by decide) h')]
    try simp only [true_and, and_true, forall_eq, forall_const, true_implies, false_implies, not_true_eq_false, not_false_eq_true, le00, le10, e10, e01, eq_self, ck1, ck0, wpX5_thrown, uI_same, uI_2, uO_o, uO_1, up0, up00, uI67, ne_eq, Nat.reduceEqDiff, lg_self, String.reduceEq, false_and, or_false, false_or, and_self, f3, z00, i1, wpL_leaderOf, wpX4_leaderOf, wpX5_leaderOf, wpX5_leaderOf_B26, wpX5_leaderOf_B25, sp_X3_winnerOf, hR.cwi, e1, g]
    exact ⟨v, hR.s67 _, hJ.mono⟩
set_option maxHeartbeats 1000000 in
theorem st_22 {xs : Nat → Int32} {L t : Nat} {w : St} (hL : L ≤ 2560) (h5 : 5 * t + 5 ≤ L) (hI : Inv t w) : wpL_C22 xs L (nI (5 * t)) w (Inv (t + 1)) := by
  obtain ⟨v, hR, hJ⟩ := hI
  have f3 : vp_in 0 1 := inN (a := 0) (by decide) (by decide)
  have z00 : (0 : Int32).toNatClampNeg = 0 := rfl
  have i1 : vp_in (nI (5 * t) + 1) L := inL (k := 1) h5 hL (by decide)
  unfold wpL_C22
  generalize xs (nI (5 * t) + 1).toNatClampNeg = p1
  rcases ixc p1 4 (by decide) with ⟨l, hl, rfl⟩ | hb1
  · have f1l : vp_in (nI l) 4 := inN hl (by decide)
    have f2l : (nI l).toNatClampNeg = l := clN (by omega)
    try simp only [true_and, and_true, forall_eq, forall_const, true_implies, false_implies, not_true_eq_false, not_false_eq_true, le00, le10, e10, e01, eq_self, ck1, ck0, wpX5_thrown, uI_same, uI_2, uO_o, uO_1, up0, up00, uI67, ne_eq, Nat.reduceEqDiff, lg_self, String.reduceEq, false_and, or_false, false_or, and_self, f3, z00, i1, f1l, f2l, ckL hl, imL hl, wpL_owner, wpX4_owner, wpX5_owner, wpX5_owner_B22, wpX5_owner_B23, wpX5_wrongLock, sp_X4_checkNotFree hl, sp_X5_isFree hl, hR.cow, hR.cen, hR.cnow, hR.mow, hR.men, hR.mnow, hJ.frm hl]
    cases fre (v.ow l) (v.en l) (nI v.now)
    · try simp only [true_and, and_true, forall_eq, forall_const, true_implies, false_implies, not_true_eq_false, not_false_eq_true, le00, le10, e10, e01, eq_self, ck1, ck0, wpX5_thrown, uI_same, uI_2, uO_o, uO_1, up0, up00, uI67, ne_eq, Nat.reduceEqDiff, lg_self, String.reduceEq, false_and, or_false, false_or, and_self, f3, z00, bIf, reduceCtorEq]
      exact ⟨v, (hR.sO _).s67 _, hJ.mono⟩
    · try simp only [true_and, and_true, forall_eq, forall_const, true_implies, false_implies, not_true_eq_false, not_false_eq_true, le00, le10, e10, e01, eq_self, ck1, ck0, wpX5_thrown, uI_same, uI_2, uO_o, uO_1, up0, up00, uI67, ne_eq, Nat.reduceEqDiff, lg_self, String.reduceEq, false_and, or_false, false_or, and_self, f3, z00, bIt, reduceCtorEq, e20, le20, e2s]
      exact ⟨v, hR.s67 _, hJ.mono⟩
  · try simp only [true_and, and_true, forall_eq, forall_const, true_implies, false_implies, not_true_eq_false, not_false_eq_true, le00, le10, e10, e01, eq_self, ck1, ck0, wpX5_thrown, uI_same, uI_2, uO_o, uO_1, up0, up00, uI67, ne_eq, Nat.reduceEqDiff, lg_self, String.reduceEq, false_and, or_false, false_or, and_self, f3, z00, i1, ckL' hb1, imL' hb1, wpL_owner, wpX4_owner, wpX5_owner, wpX5_owner_B22, wpX5_owner_B23, wpX5_wrongLock]
    exact ⟨v, hR.s67 _, hJ.mono⟩
set_option maxHeartbeats 1000000 in
theorem st_24 {xs : Nat → Int32} {L t : Nat} {w : St} (hL : L ≤ 2560) (h5 : 5 * t + 5 ≤ L) (hI : Inv t w) : wpL_C24 xs L (nI (5 * t)) w (Inv (t + 1)) := by
  obtain ⟨v, hR, hJ⟩ := hI
  have f3 : vp_in 0 1 := inN (a := 0) (by decide) (by decide)
  have z00 : (0 : Int32).toNatClampNeg = 0 := rfl
  have i1 : vp_in (nI (5 * t) + 1) L := inL (k := 1) h5 hL (by decide)
  unfold wpL_C24
  generalize xs (nI (5 * t) + 1).toNatClampNeg = p1
  rcases ixc p1 4 (by decide) with ⟨l, hl, rfl⟩ | hb1
  · have f1l : vp_in (nI l) 4 := inN hl (by decide)
    have f2l : (nI l).toNatClampNeg = l := clN (by omega)
    try simp only [true_and, and_true, forall_eq, forall_const, true_implies, false_implies, not_true_eq_false, not_false_eq_true, le00, le10, e10, e01, eq_self, ck1, ck0, wpX5_thrown, uI_same, uI_2, uO_o, uO_1, up0, up00, uI67, ne_eq, Nat.reduceEqDiff, lg_self, String.reduceEq, false_and, or_false, false_or, and_self, f3, z00, i1, f1l, f2l, ckL hl, imL hl, wpL_endOf, wpX4_endOf, wpX5_endOf, wpX5_endOf_B22, wpX5_endOf_B23, wpX5_wrongLock, sp_X4_checkNotFree hl, sp_X5_isFree hl, hR.cow, hR.cen, hR.cnow, hR.mow, hR.men, hR.mnow, hJ.frm hl]
    cases fre (v.ow l) (v.en l) (nI v.now)
    · try simp only [true_and, and_true, forall_eq, forall_const, true_implies, false_implies, not_true_eq_false, not_false_eq_true, le00, le10, e10, e01, eq_self, ck1, ck0, wpX5_thrown, uI_same, uI_2, uO_o, uO_1, up0, up00, uI67, ne_eq, Nat.reduceEqDiff, lg_self, String.reduceEq, false_and, or_false, false_or, and_self, f3, z00, bIf, reduceCtorEq]
      exact ⟨v, (hR.sO _).s67 _, hJ.mono⟩
    · try simp only [true_and, and_true, forall_eq, forall_const, true_implies, false_implies, not_true_eq_false, not_false_eq_true, le00, le10, e10, e01, eq_self, ck1, ck0, wpX5_thrown, uI_same, uI_2, uO_o, uO_1, up0, up00, uI67, ne_eq, Nat.reduceEqDiff, lg_self, String.reduceEq, false_and, or_false, false_or, and_self, f3, z00, bIt, reduceCtorEq, e20, le20, e2s]
      exact ⟨v, hR.s67 _, hJ.mono⟩
  · try simp only [true_and, and_true, forall_eq, forall_const, true_implies, false_implies, not_true_eq_false, not_false_eq_true, le00, le10, e10, e01, eq_self, ck1, ck0, wpX5_thrown, uI_same, uI_2, uO_o, uO_1, up0, up00, uI67, ne_eq, Nat.reduceEqDiff, lg_self, String.reduceEq, false_and, or_false, false_or, and_self, f3, z00, i1, ckL' hb1, imL' hb1, wpL_endOf, wpX4_endOf, wpX5_endOf, wpX5_endOf_B22, wpX5_endOf_B23, wpX5_wrongLock]
    exact ⟨v, hR.s67 _, hJ.mono⟩
set_option maxHeartbeats 1000000 in
theorem st_25 {xs : Nat → Int32} {L t : Nat} {w : St} (hL : L ≤ 2560) (h5 : 5 * t + 5 ≤ L) (hI : Inv t w) : wpL_C25 xs L (nI (5 * t)) w (Inv (t + 1)) := by
  obtain ⟨v, hR, hJ⟩ := hI
  have f3 : vp_in 0 1 := inN (a := 0) (by decide) (by decide)
  have z00 : (0 : Int32).toNatClampNeg = 0 := rfl
  have i1 : vp_in (nI (5 * t) + 1) L := inL (k := 1) h5 hL (by decide)
  unfold wpL_C25
  generalize xs (nI (5 * t) + 1).toNatClampNeg = p1
  rcases ixc p1 4 (by decide) with ⟨l, hl, rfl⟩ | hb1
  · have f1l : vp_in (nI l) 4 := inN hl (by decide)
    have f2l : (nI l).toNatClampNeg = l := clN (by omega)
    rcases hJ.thv l hl with e | ⟨c, hc, e⟩
    · try simp only [true_and, and_true, forall_eq, forall_const, true_implies, false_implies, not_true_eq_false, not_false_eq_true, le00, le10, e10, e01, eq_self, ck1, ck0, wpX5_thrown, uI_same, uI_2, uO_o, uO_1, up0, up00, uI67, ne_eq, Nat.reduceEqDiff, lg_self, String.reduceEq, false_and, or_false, false_or, and_self, f3, z00, i1, f1l, f2l, ckL hl, imL hl, wpL_thief, wpX4_thief, wpX5_thief, wpX5_thief_B23, wpX5_thief_B24, wpX5_wrongLock, hR.cth, hR.mth, e, n1lt, e20, le20, e2s]
      exact ⟨v, hR.s67 _, hJ.mono⟩
    · have := hJ.nc6
      try simp only [true_and, and_true, forall_eq, forall_const, true_implies, false_implies, not_true_eq_false, not_false_eq_true, le00, le10, e10, e01, eq_self, ck1, ck0, wpX5_thrown, uI_same, uI_2, uO_o, uO_1, up0, up00, uI67, ne_eq, Nat.reduceEqDiff, lg_self, String.reduceEq, false_and, or_false, false_or, and_self, f3, z00, i1, f1l, f2l, ckL hl, imL hl, wpL_thief, wpX4_thief, wpX5_thief, wpX5_thief_B23, wpX5_thief_B24, wpX5_wrongLock, hR.cth, hR.mth, e, n1ne (show c < 2147483648 by omega), eq_false (nlt0 (show c < 2147483648 by omega))]
      exact ⟨v, (hR.sO _).s67 _, hJ.mono⟩
  · try simp only [true_and, and_true, forall_eq, forall_const, true_implies, false_implies, not_true_eq_false, not_false_eq_true, le00, le10, e10, e01, eq_self, ck1, ck0, wpX5_thrown, uI_same, uI_2, uO_o, uO_1, up0, up00, uI67, ne_eq, Nat.reduceEqDiff, lg_self, String.reduceEq, false_and, or_false, false_or, and_self, f3, z00, i1, ckL' hb1, imL' hb1, wpL_thief, wpX4_thief, wpX5_thief, wpX5_thief_B23, wpX5_thief_B24, wpX5_wrongLock]
    exact ⟨v, hR.s67 _, hJ.mono⟩
set_option maxHeartbeats 1000000 in
theorem st_26 {xs : Nat → Int32} {L t : Nat} {w : St} (hL : L ≤ 2560) (h5 : 5 * t + 5 ≤ L) (hI : Inv t w) : wpL_C26 xs L (nI (5 * t)) w (Inv (t + 1)) := by
  obtain ⟨v, hR, hJ⟩ := hI
  have f3 : vp_in 0 1 := inN (a := 0) (by decide) (by decide)
  have z00 : (0 : Int32).toNatClampNeg = 0 := rfl
  have i1 : vp_in (nI (5 * t) + 1) L := inL (k := 1) h5 hL (by decide)
  unfold wpL_C26
  generalize xs (nI (5 * t) + 1).toNatClampNeg = p1
  rcases ixc p1 4 (by decide) with ⟨l, hl, rfl⟩ | hb1
  · have f1l : vp_in (nI l) 4 := inN hl (by decide)
    have f2l : (nI l).toNatClampNeg = l := clN (by omega)
    try simp only [true_and, and_true, forall_eq, forall_const, true_implies, false_implies, not_true_eq_false, not_false_eq_true, le00, le10, e10, e01, eq_self, ck1, ck0, wpX5_thrown, uI_same, uI_2, uO_o, uO_1, up0, up00, uI67, ne_eq, Nat.reduceEqDiff, lg_self, String.reduceEq, false_and, or_false, false_or, and_self, f3, z00, i1, f1l, f2l, ckL hl, imL hl, wpL_waiting, wpX4_waiting, wpX5_waiting, hR.cwt, hR.mwt]
    exact ⟨v, (hR.sO _).s67 _, hJ.mono⟩
  · try simp only [true_and, and_true, forall_eq, forall_const, true_implies, false_implies, not_true_eq_false, not_false_eq_true, le00, le10, e10, e01, eq_self, ck1, ck0, wpX5_thrown, uI_same, uI_2, uO_o, uO_1, up0, up00, uI67, ne_eq, Nat.reduceEqDiff, lg_self, String.reduceEq, false_and, or_false, false_or, and_self, f3, z00, i1, ckL' hb1, imL' hb1, wpL_waiting, wpX4_waiting, wpX5_waiting]
    exact ⟨v, hR.s67 _, hJ.mono⟩
set_option maxHeartbeats 1000000 in
theorem st_30 {xs : Nat → Int32} {L t : Nat} {w : St} (hL : L ≤ 2560) (h5 : 5 * t + 5 ≤ L) (hI : Inv t w) : wpL_C30 xs L (nI (5 * t)) w (Inv (t + 1)) := by
  obtain ⟨v, hR, hJ⟩ := hI
  have f3 : vp_in 0 1 := inN (a := 0) (by decide) (by decide)
  have z00 : (0 : Int32).toNatClampNeg = 0 := rfl
  have i1 : vp_in (nI (5 * t) + 1) L := inL (k := 1) h5 hL (by decide)
  unfold wpL_C30
  generalize xs (nI (5 * t) + 1).toNatClampNeg = p1
  rcases ixc p1 4 (by decide) with ⟨l, hl, rfl⟩ | hb1
  · have f1l : vp_in (nI l) 4 := inN hl (by decide)
    have f2l : (nI l).toNatClampNeg = l := clN (by omega)
    try simp only [true_and, and_true, forall_eq, forall_const, true_implies, false_implies, not_true_eq_false, not_false_eq_true, le00, le10, e10, e01, eq_self, ck1, ck0, wpX5_thrown, uI_same, uI_2, uO_o, uO_1, up0, up00, uI67, ne_eq, Nat.reduceEqDiff, lg_self, String.reduceEq, false_and, or_false, false_or, and_self, f3, z00, i1, f1l, f2l, ckL hl, imL hl, wpL_value, wpX4_value, wpX5_value, hR.cva, hR.mva]
    exact ⟨v, (hR.sO _).s67 _, hJ.mono⟩
  · try simp only [true_and, and_true, forall_eq, forall_const, true_implies, false_implies, not_true_eq_false, not_false_eq_true, le00, le10, e10, e01, eq_self, ck1, ck0, wpX5_thrown, uI_same, uI_2, uO_o, uO_1, up0, up00, uI67, ne_eq, Nat.reduceEqDiff, lg_self, String.reduceEq, false_and, or_false, false_or, and_self, f3, z00, i1, ckL' hb1, imL' hb1, wpL_value, wpX4_value, wpX5_value]
    exact ⟨v, hR.s67 _, hJ.mono⟩
set_option maxHeartbeats 1000000 in
theorem st_31 {xs : Nat → Int32} {L t : Nat} {w : St} (hL : L ≤ 2560) (h5 : 5 * t + 5 ≤ L) (hI : Inv t w) : wpL_C31 xs L (nI (5 * t)) w (Inv (t + 1)) := by
  obtain ⟨v, hR, hJ⟩ := hI
  have f3 : vp_in 0 1 := inN (a := 0) (by decide) (by decide)
  have z00 : (0 : Int32).toNatClampNeg = 0 := rfl
  have i1 : vp_in (nI (5 * t) + 1) L := inL (k := 1) h5 hL (by decide)
  unfold wpL_C31
  generalize xs (nI (5 * t) + 1).toNatClampNeg = p1
  rcases ixc p1 4 (by decide) with ⟨l, hl, rfl⟩ | hb1
  · have f1l : vp_in (nI l) 4 := inN hl (by decide)
    have f2l : (nI l).toNatClampNeg = l := clN (by omega)
    try simp only [true_and, and_true, forall_eq, forall_const, true_implies, false_implies, not_true_eq_false, not_false_eq_true, le00, le10, e10, e01, eq_self, ck1, ck0, wpX5_thrown, uI_same, uI_2, uO_o, uO_1, up0, up00, uI67, ne_eq, Nat.reduceEqDiff, lg_self, String.reduceEq, false_and, or_false, false_or, and_self, f3, z00, i1, f1l, f2l, ckL hl, imL hl, wpL_valueByLog, wpX4_valueByLog, wpX5_valueByLog, wpX5_value]
    refine sp_X2_lastValue hJ.ne250 hR.cne ?_
    try simp only [true_and, and_true, forall_eq, forall_const, true_implies, false_implies, not_true_eq_false, not_false_eq_true, le00, le10, e10, e01, eq_self, ck1, ck0, wpX5_thrown, uI_same, uI_2, uO_o, uO_1, up0, up00, uI67, ne_eq, Nat.reduceEqDiff, lg_self, String.reduceEq, false_and, or_false, false_or, and_self, f3, z00, i1, f1l, f2l, imL hl, hR.cki, hR.cel, hR.cde, ← hJ.vaE l hl, hR.mva]
    exact ⟨v, (hR.sO _).s67 _, hJ.mono⟩
  · try simp only [true_and, and_true, forall_eq, forall_const, true_implies, false_implies, not_true_eq_false, not_false_eq_true, le00, le10, e10, e01, eq_self, ck1, ck0, wpX5_thrown, uI_same, uI_2, uO_o, uO_1, up0, up00, uI67, ne_eq, Nat.reduceEqDiff, lg_self, String.reduceEq, false_and, or_false, false_or, and_self, f3, z00, i1, ckL' hb1, imL' hb1, wpL_valueByLog, wpX4_valueByLog, wpX5_valueByLog, wpX5_value]
    exact ⟨v, hR.s67 _, hJ.mono⟩
set_option maxHeartbeats 1000000 in
theorem st_23 {xs : Nat → Int32} {L t : Nat} {w : St} (hL : L ≤ 2560) (h5 : 5 * t + 5 ≤ L) (hI : Inv t w) : wpL_C23 xs L (nI (5 * t)) w (Inv (t + 1)) := by
  obtain ⟨v, hR, hJ⟩ := hI
  have f3 : vp_in 0 1 := inN (a := 0) (by decide) (by decide)
  have z00 : (0 : Int32).toNatClampNeg = 0 := rfl
  have i1 : vp_in (nI (5 * t) + 1) L := inL (k := 1) h5 hL (by decide)
  unfold wpL_C23
  generalize xs (nI (5 * t) + 1).toNatClampNeg = p1
  rcases ixc p1 4 (by decide) with ⟨l, hl, rfl⟩ | hb1
  · have f1l : vp_in (nI l) 4 := inN hl (by decide)
    have f2l : (nI l).toNatClampNeg = l := clN (by omega)
    try simp only [true_and, and_true, forall_eq, forall_const, true_implies, false_implies, not_true_eq_false, not_false_eq_true, le00, le10, e10, e01, eq_self, ck1, ck0, wpX5_thrown, uI_same, uI_2, uO_o, uO_1, up0, up00, uI67, ne_eq, Nat.reduceEqDiff, lg_self, String.reduceEq, false_and, or_false, false_or, and_self, f3, z00, i1, f1l, f2l, ckL hl, imL hl, wpL_ownerByLog, wpX4_ownerByLog, wpX5_ownerByLog, wpX2_holderAt]
    refine sp_X2_lastEnd hJ.ne250 hR.cne ?_
    try simp only [true_and, and_true, forall_eq, forall_const, true_implies, false_implies, not_true_eq_false, not_false_eq_true, le00, le10, e10, e01, eq_self, ck1, ck0, wpX5_thrown, uI_same, uI_2, uO_o, uO_1, up0, up00, uI67, ne_eq, Nat.reduceEqDiff, lg_self, String.reduceEq, false_and, or_false, false_or, and_self, f3, z00, hR.cki, hR.cel, hR.cde, ← hJ.enE l hl, hR.cnow]
    refine ⟨fun hq => ?_, fun hq => ?_⟩
    · have hf : fre (v.ow l) (v.en l) (nI v.now) = true := by simp [fre, nb, Int32.not_lt.mpr hq]
      try simp only [true_and, and_true, forall_eq, forall_const, true_implies, false_implies, not_true_eq_false, not_false_eq_true, le00, le10, e10, e01, eq_self, ck1, ck0, wpX5_thrown, uI_same, uI_2, uO_o, uO_1, up0, up00, uI67, ne_eq, Nat.reduceEqDiff, lg_self, String.reduceEq, false_and, or_false, false_or, and_self, f3, z00, i1, f1l, f2l, imL hl, wpX5_owner, wpX5_owner_B22, wpX5_owner_B23, wpX5_wrongLock, sp_X5_isFree hl, hR.cow, hR.cen, hR.cnow, hR.mow, hR.men, hR.mnow, hJ.frm hl, hf, bIt, e20, le20, e2s]
      exact ⟨v, hR.s67 _, hJ.mono⟩
    · rw [hR.cne]
      refine sp_X2_ownerBy hJ.ne250 (Nat.le_refl _) hR.cne ?_
      try simp only [true_and, and_true, forall_eq, forall_const, true_implies, false_implies, not_true_eq_false, not_false_eq_true, le00, le10, e10, e01, eq_self, ck1, ck0, wpX5_thrown, uI_same, uI_2, uO_o, uO_1, up0, up00, uI67, ne_eq, Nat.reduceEqDiff, lg_self, String.reduceEq, false_and, or_false, false_or, and_self, f3, z00, hR.cki, hR.cel, hR.cec, ← hJ.owE l hl]
      rcases hJ.owv l hl with e | ⟨c, hc, e⟩
      · have hf : frm (-1) (v.en l) (nI v.now) = true := by simp [frm, n1lt]
        try simp only [true_and, and_true, forall_eq, forall_const, true_implies, false_implies, not_true_eq_false, not_false_eq_true, le00, le10, e10, e01, eq_self, ck1, ck0, wpX5_thrown, uI_same, uI_2, uO_o, uO_1, up0, up00, uI67, ne_eq, Nat.reduceEqDiff, lg_self, String.reduceEq, false_and, or_false, false_or, and_self, f3, z00, e, i1, f1l, f2l, imL hl, wpX5_owner, wpX5_owner_B22, wpX5_owner_B23, wpX5_wrongLock, sp_X5_isFree hl, hR.cow, hR.cen, hR.cnow, hR.mow, hR.men, hR.mnow, hJ.frm hl, hf, bIt, e20, le20, e2s]
        exact ⟨v, hR.s67 _, hJ.mono⟩
      · have := hJ.nc6
        have hf : fre (v.ow l) (v.en l) (nI v.now) = false := by
          rw [e]
          simp [fre, nb, Int32.not_le.mp hq, n1ne (show c < 2147483648 by omega)]
        try simp only [true_and, and_true, forall_eq, forall_const, true_implies, false_implies, not_true_eq_false, not_false_eq_true, le00, le10, e10, e01, eq_self, ck1, ck0, wpX5_thrown, uI_same, uI_2, uO_o, uO_1, up0, up00, uI67, ne_eq, Nat.reduceEqDiff, lg_self, String.reduceEq, false_and, or_false, false_or, and_self, f3, z00, i1, f1l, f2l, imL hl, wpX5_owner, wpX5_owner_B22, wpX5_owner_B23, wpX5_wrongLock, sp_X5_isFree hl, hR.cow, hR.cen, hR.cnow, hR.mow, hR.men, hR.mnow, hJ.frm hl, hf, bIf, e20, le20, e2s]
        try simp only [true_and, and_true, forall_eq, forall_const, true_implies, false_implies, not_true_eq_false, not_false_eq_true, le00, le10, e10, e01, eq_self, ck1, ck0, wpX5_thrown, uI_same, uI_2, uO_o, uO_1, up0, up00, uI67, ne_eq, Nat.reduceEqDiff, lg_self, String.reduceEq, false_and, or_false, false_or, and_self, f3, z00, e, n1ne (show c < 2147483648 by omega)]
        exact ⟨v, (hR.sO _).s67 _, hJ.mono⟩
  · try simp only [true_and, and_true, forall_eq, forall_const, true_implies, false_implies, not_true_eq_false, not_false_eq_true, le00, le10, e10, e01, eq_self, ck1, ck0, wpX5_thrown, uI_same, uI_2, uO_o, uO_1, up0, up00, uI67, ne_eq, Nat.reduceEqDiff, lg_self, String.reduceEq, false_and, or_false, false_or, and_self, f3, z00, i1, ckL' hb1, imL' hb1, wpL_ownerByLog, wpX4_ownerByLog, wpX5_ownerByLog, wpX5_owner, wpX5_owner_B22, wpX5_owner_B23, wpX5_wrongLock]
    exact ⟨v, hR.s67 _, hJ.mono⟩
set_option maxHeartbeats 1000000 in
theorem st_29 {xs : Nat → Int32} {L t : Nat} {w : St} (hL : L ≤ 2560) (h5 : 5 * t + 5 ≤ L) (hI : Inv t w) : wpL_C29 xs L (nI (5 * t)) w (Inv (t + 1)) := by
  obtain ⟨v, hR, hJ⟩ := hI
  have f3 : vp_in 0 1 := inN (a := 0) (by decide) (by decide)
  have z00 : (0 : Int32).toNatClampNeg = 0 := rfl
  have i1 : vp_in (nI (5 * t) + 1) L := inL (k := 1) h5 hL (by decide)
  unfold wpL_C29
  generalize xs (nI (5 * t) + 1).toNatClampNeg = p1
  rcases ixc p1 4 (by decide) with ⟨l, hl, rfl⟩ | hb1
  · have f1l : vp_in (nI l) 4 := inN hl (by decide)
    have f2l : (nI l).toNatClampNeg = l := clN (by omega)
    try simp only [true_and, and_true, forall_eq, forall_const, true_implies, false_implies, not_true_eq_false, not_false_eq_true, le00, le10, e10, e01, eq_self, ck1, ck0, wpX5_thrown, uI_same, uI_2, uO_o, uO_1, up0, up00, uI67, ne_eq, Nat.reduceEqDiff, lg_self, String.reduceEq, false_and, or_false, false_or, and_self, f3, z00, i1, f1l, f2l, ckL hl, imL hl, wpL_claimants, wpX4_claimants, wpX5_claimants]
    refine sp_X0_countClaims hJ.nc6 hl hR.cnc ?_
    try simp only [true_and, and_true, forall_eq, forall_const, true_implies, false_implies, not_true_eq_false, not_false_eq_true, le00, le10, e10, e01, eq_self, ck1, ck0, wpX5_thrown, uI_same, uI_2, uO_o, uO_1, up0, up00, uI67, ne_eq, Nat.reduceEqDiff, lg_self, String.reduceEq, false_and, or_false, false_or, and_self, f3, z00, i1, imL hl]
    refine sp_X5_claimantsL hJ.nc6 hl (by try simp only [true_and, and_true, forall_eq, forall_const, true_implies, false_implies, not_true_eq_false, not_false_eq_true, le00, le10, e10, e01, eq_self, ck1, ck0, wpX5_thrown, uI_same, uI_2, uO_o, uO_1, up0, up00, uI67, ne_eq, Nat.reduceEqDiff, lg_self, String.reduceEq, false_and, or_false, false_or, and_self, f3, z00, hR.mnc]) ?_
    try simp only [true_and, and_true, forall_eq, forall_const, true_implies, false_implies, not_true_eq_false, not_false_eq_true, le00, le10, e10, e01, eq_self, ck1, ck0, wpX5_thrown, uI_same, uI_2, uO_o, uO_1, up0, up00, uI67, ne_eq, Nat.reduceEqDiff, lg_self, String.reduceEq, false_and, or_false, false_or, and_self, f3, z00, hR.cpa, hR.cls, hR.cof, hR.clc, hR.cnow, hR.mpa, hR.mls, hR.mof, hR.mlc, hR.mnow]
    exact ⟨v, (hR.sO _).s67 _, hJ.mono⟩
  · try simp only [true_and, and_true, forall_eq, forall_const, true_implies, false_implies, not_true_eq_false, not_false_eq_true, le00, le10, e10, e01, eq_self, ck1, ck0, wpX5_thrown, uI_same, uI_2, uO_o, uO_1, up0, up00, uI67, ne_eq, Nat.reduceEqDiff, lg_self, String.reduceEq, false_and, or_false, false_or, and_self, f3, z00, i1, ckL' hb1, imL' hb1, wpL_claimants, wpX4_claimants, wpX5_claimants]
    exact ⟨v, hR.s67 _, hJ.mono⟩
set_option maxHeartbeats 1000000 in
theorem st_34 {xs : Nat → Int32} {L t : Nat} {w : St} (hL : L ≤ 2560) (h5 : 5 * t + 5 ≤ L) (hI : Inv t w) : wpL_C34 xs L (nI (5 * t)) w (Inv (t + 1)) := by
  obtain ⟨v, hR, hJ⟩ := hI
  have f3 : vp_in 0 1 := inN (a := 0) (by decide) (by decide)
  have z00 : (0 : Int32).toNatClampNeg = 0 := rfl
  have i1 : vp_in (nI (5 * t) + 1) L := inL (k := 1) h5 hL (by decide)
  unfold wpL_C34
  generalize xs (nI (5 * t) + 1).toNatClampNeg = p1
  rcases ixc p1 v.ne (by have := hJ.ne250; omega) with ⟨e, he, rfl⟩ | hb1
  · have hn := hJ.ne250
    have f1e : vp_in (nI e) 250 := inN (by omega) (by decide)
    have f2e : (nI e).toNatClampNeg = e := clN (by omega)
    have c1 : ∀ P px, wpX4_checkEntry (nI e) w P px ↔ P w := fun P px => ckE hn hR.cne he
    have c2 : ∀ f P, wpX5_isEntry (nI e) (uO w f) P ↔ P 1 (uO w f) := fun f P => imE hn (hR.sO f).mne he
    have hk : (narrow .char (.int (v.ki e)) = .int (v.ki e)) = True := by
      rcases hJ.kiN e he with h | h | h | h <;> rw [h] <;> decide
    try simp only [true_and, and_true, forall_eq, forall_const, true_implies, false_implies, not_true_eq_false, not_false_eq_true, le00, le10, e10, e01, eq_self, ck1, ck0, wpX5_thrown, uI_same, uI_2, uO_o, uO_1, up0, up00, uI67, ne_eq, Nat.reduceEqDiff, lg_self, String.reduceEq, false_and, or_false, false_or, and_self, f3, z00, i1, f1e, f2e, c1, c2, wpL_kindOf, wpX4_kindOf, wpX5_kindOf, hR.cki, hR.mki, hk]
    exact ⟨v, (hR.sO _).s67 _, hJ.mono⟩
  · have hn := hJ.ne250
    have c1 : ∀ P px, wpX4_checkEntry p1 w P px ↔ px "java/util/NoSuchElementException" w := fun P px => ckE' hR.cne hb1
    have c2 : ∀ P, wpX5_isEntry p1 w P ↔ P 0 w := fun P => imE' hn hR.mne hb1
    try simp only [true_and, and_true, forall_eq, forall_const, true_implies, false_implies, not_true_eq_false, not_false_eq_true, le00, le10, e10, e01, eq_self, ck1, ck0, wpX5_thrown, uI_same, uI_2, uO_o, uO_1, up0, up00, uI67, ne_eq, Nat.reduceEqDiff, lg_self, String.reduceEq, false_and, or_false, false_or, and_self, f3, z00, i1, c1, c2, wpL_kindOf, wpX4_kindOf, wpX5_kindOf]
    exact ⟨v, hR.s67 _, hJ.mono⟩
set_option maxHeartbeats 1000000 in
theorem st_35 {xs : Nat → Int32} {L t : Nat} {w : St} (hL : L ≤ 2560) (h5 : 5 * t + 5 ≤ L) (hI : Inv t w) : wpL_C35 xs L (nI (5 * t)) w (Inv (t + 1)) := by
  obtain ⟨v, hR, hJ⟩ := hI
  have f3 : vp_in 0 1 := inN (a := 0) (by decide) (by decide)
  have z00 : (0 : Int32).toNatClampNeg = 0 := rfl
  have i1 : vp_in (nI (5 * t) + 1) L := inL (k := 1) h5 hL (by decide)
  unfold wpL_C35
  generalize xs (nI (5 * t) + 1).toNatClampNeg = p1
  rcases ixc p1 v.ne (by have := hJ.ne250; omega) with ⟨e, he, rfl⟩ | hb1
  · have hn := hJ.ne250
    have f1e : vp_in (nI e) 250 := inN (by omega) (by decide)
    have f2e : (nI e).toNatClampNeg = e := clN (by omega)
    have c1 : ∀ P px, wpX4_checkEntry (nI e) w P px ↔ P w := fun P px => ckE hn hR.cne he
    have c2 : ∀ f P, wpX5_isEntry (nI e) (uO w f) P ↔ P 1 (uO w f) := fun f P => imE hn (hR.sO f).mne he
    try simp only [true_and, and_true, forall_eq, forall_const, true_implies, false_implies, not_true_eq_false, not_false_eq_true, le00, le10, e10, e01, eq_self, ck1, ck0, wpX5_thrown, uI_same, uI_2, uO_o, uO_1, up0, up00, uI67, ne_eq, Nat.reduceEqDiff, lg_self, String.reduceEq, false_and, or_false, false_or, and_self, f3, z00, i1, f1e, f2e, c1, c2, wpL_termOfEntry, wpX4_termOfEntry, wpX5_termOfEntry, hR.cet, hR.met]
    exact ⟨v, (hR.sO _).s67 _, hJ.mono⟩
  · have hn := hJ.ne250
    have c1 : ∀ P px, wpX4_checkEntry p1 w P px ↔ px "java/util/NoSuchElementException" w := fun P px => ckE' hR.cne hb1
    have c2 : ∀ P, wpX5_isEntry p1 w P ↔ P 0 w := fun P => imE' hn hR.mne hb1
    try simp only [true_and, and_true, forall_eq, forall_const, true_implies, false_implies, not_true_eq_false, not_false_eq_true, le00, le10, e10, e01, eq_self, ck1, ck0, wpX5_thrown, uI_same, uI_2, uO_o, uO_1, up0, up00, uI67, ne_eq, Nat.reduceEqDiff, lg_self, String.reduceEq, false_and, or_false, false_or, and_self, f3, z00, i1, c1, c2, wpL_termOfEntry, wpX4_termOfEntry, wpX5_termOfEntry]
    exact ⟨v, hR.s67 _, hJ.mono⟩
set_option maxHeartbeats 1000000 in
theorem st_36 {xs : Nat → Int32} {L t : Nat} {w : St} (hL : L ≤ 2560) (h5 : 5 * t + 5 ≤ L) (hI : Inv t w) : wpL_C36 xs L (nI (5 * t)) w (Inv (t + 1)) := by
  obtain ⟨v, hR, hJ⟩ := hI
  have f3 : vp_in 0 1 := inN (a := 0) (by decide) (by decide)
  have z00 : (0 : Int32).toNatClampNeg = 0 := rfl
  have i1 : vp_in (nI (5 * t) + 1) L := inL (k := 1) h5 hL (by decide)
  unfold wpL_C36
  generalize xs (nI (5 * t) + 1).toNatClampNeg = p1
  rcases ixc p1 v.ne (by have := hJ.ne250; omega) with ⟨e, he, rfl⟩ | hb1
  · have hn := hJ.ne250
    have f1e : vp_in (nI e) 250 := inN (by omega) (by decide)
    have f2e : (nI e).toNatClampNeg = e := clN (by omega)
    have c1 : ∀ P px, wpX4_checkEntry (nI e) w P px ↔ P w := fun P px => ckE hn hR.cne he
    have c2 : ∀ f P, wpX5_isEntry (nI e) (uO w f) P ↔ P 1 (uO w f) := fun f P => imE hn (hR.sO f).mne he
    try simp only [true_and, and_true, forall_eq, forall_const, true_implies, false_implies, not_true_eq_false, not_false_eq_true, le00, le10, e10, e01, eq_self, ck1, ck0, wpX5_thrown, uI_same, uI_2, uO_o, uO_1, up0, up00, uI67, ne_eq, Nat.reduceEqDiff, lg_self, String.reduceEq, false_and, or_false, false_or, and_self, f3, z00, i1, f1e, f2e, c1, c2, wpL_knownBy, wpX4_knownBy, wpX5_knownBy]
    refine sp_X3_countKnowing ?_
    try simp only [true_and, and_true, forall_eq, forall_const, true_implies, false_implies, not_true_eq_false, not_false_eq_true, le00, le10, e10, e01, eq_self, ck1, ck0, wpX5_thrown, uI_same, uI_2, uO_o, uO_1, up0, up00, uI67, ne_eq, Nat.reduceEqDiff, lg_self, String.reduceEq, false_and, or_false, false_or, and_self, f3, z00, i1, c2]
    refine sp_X5_knownL ?_
    try simp only [true_and, and_true, forall_eq, forall_const, true_implies, false_implies, not_true_eq_false, not_false_eq_true, le00, le10, e10, e01, eq_self, ck1, ck0, wpX5_thrown, uI_same, uI_2, uO_o, uO_1, up0, up00, uI67, ne_eq, Nat.reduceEqDiff, lg_self, String.reduceEq, false_and, or_false, false_or, and_self, f3, z00, hR.ckn, hR.mkn]
    exact ⟨v, (hR.sO _).s67 _, hJ.mono⟩
  · have hn := hJ.ne250
    have c1 : ∀ P px, wpX4_checkEntry p1 w P px ↔ px "java/util/NoSuchElementException" w := fun P px => ckE' hR.cne hb1
    have c2 : ∀ P, wpX5_isEntry p1 w P ↔ P 0 w := fun P => imE' hn hR.mne hb1
    try simp only [true_and, and_true, forall_eq, forall_const, true_implies, false_implies, not_true_eq_false, not_false_eq_true, le00, le10, e10, e01, eq_self, ck1, ck0, wpX5_thrown, uI_same, uI_2, uO_o, uO_1, up0, up00, uI67, ne_eq, Nat.reduceEqDiff, lg_self, String.reduceEq, false_and, or_false, false_or, and_self, f3, z00, i1, c1, c2, wpL_knownBy, wpX4_knownBy, wpX5_knownBy]
    exact ⟨v, hR.s67 _, hJ.mono⟩
set_option maxHeartbeats 1000000 in
theorem st_33 {xs : Nat → Int32} {L t : Nat} {w : St} (hL : L ≤ 2560) (h5 : 5 * t + 5 ≤ L) (hI : Inv t w) : wpL_C33 xs L (nI (5 * t)) w (Inv (t + 1)) := by
  obtain ⟨v, hR, hJ⟩ := hI
  have f3 : vp_in 0 1 := inN (a := 0) (by decide) (by decide)
  have z00 : (0 : Int32).toNatClampNeg = 0 := rfl
  unfold wpL_C33
  try simp only [true_and, and_true, forall_eq, forall_const, true_implies, false_implies, not_true_eq_false, not_false_eq_true, le00, le10, e10, e01, eq_self, ck1, ck0, wpX5_thrown, uI_same, uI_2, uO_o, uO_1, up0, up00, uI67, ne_eq, Nat.reduceEqDiff, lg_self, String.reduceEq, false_and, or_false, false_or, and_self, f3, z00, wpX4_entries, wpX5_entries, wpX5_plain, hR.cne, hR.mne]
  exact ⟨v, hR.s67 _, hJ.mono⟩
set_option maxHeartbeats 1000000 in
theorem st_37 {xs : Nat → Int32} {L t : Nat} {w : St} (hL : L ≤ 2560) (h5 : 5 * t + 5 ≤ L) (hI : Inv t w) : wpL_C37 xs L (nI (5 * t)) w (Inv (t + 1)) := by
  obtain ⟨v, hR, hJ⟩ := hI
  have f3 : vp_in 0 1 := inN (a := 0) (by decide) (by decide)
  have z00 : (0 : Int32).toNatClampNeg = 0 := rfl
  unfold wpL_C37
  try simp only [true_and, and_true, forall_eq, forall_const, true_implies, false_implies, not_true_eq_false, not_false_eq_true, le00, le10, e10, e01, eq_self, ck1, ck0, wpX5_thrown, uI_same, uI_2, uO_o, uO_1, up0, up00, uI67, ne_eq, Nat.reduceEqDiff, lg_self, String.reduceEq, false_and, or_false, false_or, and_self, f3, z00, wpX4_leased, wpX5_leased]
  refine sp_X5_leasedL ?_
  try simp only [true_and, and_true, forall_eq, forall_const, true_implies, false_implies, not_true_eq_false, not_false_eq_true, le00, le10, e10, e01, eq_self, ck1, ck0, wpX5_thrown, uI_same, uI_2, uO_o, uO_1, up0, up00, uI67, ne_eq, Nat.reduceEqDiff, lg_self, String.reduceEq, false_and, or_false, false_or, and_self, f3, z00, hR.clt, hR.mow, hR.men, hR.mgr, hR.mlm, hJ.lse]
  exact ⟨v, hR.s67 _, hJ.mono⟩
