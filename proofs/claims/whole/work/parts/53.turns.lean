set_option maxHeartbeats 1000000 in
theorem st_10 {xs : Nat → Int32} {L t : Nat} {w : St} (hL : L ≤ 2560) (h5 : 5 * t + 5 ≤ L) (hI : Inv t w) : wpL_C10 xs L (nI (5 * t)) w (Inv (t + 1)) := by
  obtain ⟨v, hR, hJ⟩ := hI
  have f3 : vp_in 0 1 := inN (a := 0) (by decide) (by decide)
  have z00 : (0 : Int32).toNatClampNeg = 0 := rfl
  have i1 : vp_in (nI (5 * t) + 1) L := inL (k := 1) h5 hL (by decide)
  have i2 : vp_in (nI (5 * t) + 2) L := inL (k := 2) h5 hL (by decide)
  unfold wpL_C10
  generalize xs (nI (5 * t) + 1).toNatClampNeg = p1
  generalize xs (nI (5 * t) + 2).toNatClampNeg = p2
  rcases ixc p1 5 (by decide) with ⟨a, ha, rfl⟩ | hb1
  · have f1a : vp_in (nI a) 5 := inN ha (by decide)
    have f2a : (nI a).toNatClampNeg = a := clN (by omega)
    rcases ixc p2 4 (by decide) with ⟨l, hl, rfl⟩ | hb2
    · have f1l : vp_in (nI l) 4 := inN hl (by decide)
      have f2l : (nI l).toNatClampNeg = l := clN (by omega)
      obtain ⟨k, hk, ek⟩ := hJ.knN a ha
      have hn := hJ.ne250
      have hn6 := hJ.nc6
      try simp only [true_and, and_true, forall_eq, forall_const, true_implies, false_implies, not_true_eq_false, not_false_eq_true, le00, le10, e10, e01, eq_self, ck1, ck0, wpX5_thrown, uI_same, uI_2, uO_o, uO_1, up0, up00, uI67, ne_eq, Nat.reduceEqDiff, lg_self, String.reduceEq, false_and, or_false, false_or, and_self, f3, z00, i1, i2, f1a, f2a, ckM ha, ckL hl, wpL_ownerKnown, wpX4_ownerKnown, wpX5_ownerKnown, hR.ckn, ek]
      refine sp_X2_ownerBy hn hk hR.cne ?_
      try simp only [true_and, and_true, forall_eq, forall_const, true_implies, false_implies, not_true_eq_false, not_false_eq_true, le00, le10, e10, e01, eq_self, ck1, ck0, wpX5_thrown, uI_same, uI_2, uO_o, uO_1, up0, up00, uI67, ne_eq, Nat.reduceEqDiff, lg_self, String.reduceEq, false_and, or_false, false_or, and_self, f3, z00, hR.cki, hR.cec, hR.cel]
      have em := hJ.obE l k hl hk
      rcases obC_val hJ (nI l) k hk with e | ⟨c, hc, e⟩
      · try simp only [true_and, and_true, forall_eq, forall_const, true_implies, false_implies, not_true_eq_false, not_false_eq_true, le00, le10, e10, e01, eq_self, ck1, ck0, wpX5_thrown, uI_same, uI_2, uO_o, uO_1, up0, up00, uI67, ne_eq, Nat.reduceEqDiff, lg_self, String.reduceEq, false_and, or_false, false_or, and_self, f3, z00, e, i1, i2, imM ha, imL hl, wpX5_ownerKnown_B38, wpX5_ownerKnown_B15, f1a, f2a, hR.mkn, ek]
        refine sp_X5_ownerBy (by omega) ?_
        try simp only [true_and, and_true, forall_eq, forall_const, true_implies, false_implies, not_true_eq_false, not_false_eq_true, le00, le10, e10, e01, eq_self, ck1, ck0, wpX5_thrown, uI_same, uI_2, uO_o, uO_1, up0, up00, uI67, ne_eq, Nat.reduceEqDiff, lg_self, String.reduceEq, false_and, or_false, false_or, and_self, f3, z00, hR.mki, hR.mec, hR.mel, ← em, e, n1le, e20, le20, e2s]
        exact ⟨v, hR.s67 _, hJ.mono⟩
      · have g0 := ge0 (p := c) (by omega)
        have g1 := n1ne (show c < 2147483648 by omega)
        try simp only [true_and, and_true, forall_eq, forall_const, true_implies, false_implies, not_true_eq_false, not_false_eq_true, le00, le10, e10, e01, eq_self, ck1, ck0, wpX5_thrown, uI_same, uI_2, uO_o, uO_1, up0, up00, uI67, ne_eq, Nat.reduceEqDiff, lg_self, String.reduceEq, false_and, or_false, false_or, and_self, f3, z00, e, g1, i1, i2, imM ha, imL hl, wpX5_ownerKnown_B38, wpX5_ownerKnown_B15, f1a, f2a, hR.mkn, ek]
        refine sp_X5_ownerBy (by omega) ?_
        try simp only [true_and, and_true, forall_eq, forall_const, true_implies, false_implies, not_true_eq_false, not_false_eq_true, le00, le10, e10, e01, eq_self, ck1, ck0, wpX5_thrown, uI_same, uI_2, uO_o, uO_1, up0, up00, uI67, ne_eq, Nat.reduceEqDiff, lg_self, String.reduceEq, false_and, or_false, false_or, and_self, f3, z00, uO_1, hR.mki, hR.mec, hR.mel, ← em, e, g0, hR.mkn, ek]
        refine sp_X5_ownerBy (by omega) ?_
        try simp only [true_and, and_true, forall_eq, forall_const, true_implies, false_implies, not_true_eq_false, not_false_eq_true, le00, le10, e10, e01, eq_self, ck1, ck0, wpX5_thrown, uI_same, uI_2, uO_o, uO_1, up0, up00, uI67, ne_eq, Nat.reduceEqDiff, lg_self, String.reduceEq, false_and, or_false, false_or, and_self, f3, z00, uO_1, hR.mki, hR.mec, hR.mel, ← em, e]
        exact ⟨v, (hR.sO _).s67 _, hJ.mono⟩
    · try simp only [true_and, and_true, forall_eq, forall_const, true_implies, false_implies, not_true_eq_false, not_false_eq_true, le00, le10, e10, e01, eq_self, ck1, ck0, wpX5_thrown, uI_same, uI_2, uO_o, uO_1, up0, up00, uI67, ne_eq, Nat.reduceEqDiff, lg_self, String.reduceEq, false_and, or_false, false_or, and_self, f3, z00, i1, i2, ckM ha, ckL' hb2, imM ha, imL' hb2, wpL_ownerKnown, wpX4_ownerKnown, wpX5_ownerKnown, wpX5_ownerKnown_B38, wpX5_ownerKnown_B15]
      exact ⟨v, hR.s67 _, hJ.mono⟩
  · try simp only [true_and, and_true, forall_eq, forall_const, true_implies, false_implies, not_true_eq_false, not_false_eq_true, le00, le10, e10, e01, eq_self, ck1, ck0, wpX5_thrown, uI_same, uI_2, uO_o, uO_1, up0, up00, uI67, ne_eq, Nat.reduceEqDiff, lg_self, String.reduceEq, false_and, or_false, false_or, and_self, f3, z00, i1, i2, ckM' hb1, imM' hb1, wpL_ownerKnown, wpX4_ownerKnown, wpX5_ownerKnown, wpX5_ownerKnown_B38, wpX5_ownerKnown_B15]
    exact ⟨v, hR.s67 _, hJ.mono⟩
set_option maxHeartbeats 1000000 in
theorem st_27 {xs : Nat → Int32} {L t : Nat} {w : St} (hL : L ≤ 2560) (h5 : 5 * t + 5 ≤ L) (hI : Inv t w) : wpL_C27 xs L (nI (5 * t)) w (Inv (t + 1)) := by
  obtain ⟨v, hR, hJ⟩ := hI
  have f3 : vp_in 0 1 := inN (a := 0) (by decide) (by decide)
  have z00 : (0 : Int32).toNatClampNeg = 0 := rfl
  have i1 : vp_in (nI (5 * t) + 1) L := inL (k := 1) h5 hL (by decide)
  have i2 : vp_in (nI (5 * t) + 2) L := inL (k := 2) h5 hL (by decide)
  unfold wpL_C27
  generalize xs (nI (5 * t) + 1).toNatClampNeg = p1
  generalize xs (nI (5 * t) + 2).toNatClampNeg = p2
  rcases ixc p1 4 (by decide) with ⟨l, hl, rfl⟩ | hb1
  · have f1l : vp_in (nI l) 4 := inN hl (by decide)
    have f2l : (nI l).toNatClampNeg = l := clN (by omega)
    obtain ⟨N, hN, eN, hq, hd⟩ := hJ.wtq l hl
    rcases ixc p2 N (by omega) with ⟨j, hj, rfl⟩ | hb2
    · have f1j : vp_in (nI j) 6 := inN (by omega) (by decide)
      have f2j : (nI j).toNatClampNeg = j := clN (by omega)
      have g0 := eq_false (nlt0 (p := j) (by omega))
      have g1 := eq_true ((ltN (a := j) (b := N) (by omega) (by omega)).mpr hj)
      have g2 : ∀ w P, wpX5_in (nI j) 0 (nI N - 1) w P ↔ P 1 w := fun w P => in_ok (by omega) hj
      have g3 : (nI (6 * l + j)).toNatClampNeg = 6 * l + j := clN (by omega)
      have g4 : vp_in (nI (6 * l + j)) 24 := inN (by omega) (by decide)
      have g5 := hR.mq l j hl (by omega)
      have g6 := hR.cq l hl
      try simp only [true_and, and_true, forall_eq, forall_const, true_implies, false_implies, not_true_eq_false, not_false_eq_true, le00, le10, e10, e01, eq_self, ck1, ck0, wpX5_thrown, uI_same, uI_2, uO_o, uO_1, up0, up00, uI67, ne_eq, Nat.reduceEqDiff, lg_self, String.reduceEq, false_and, or_false, false_or, and_self, f3, z00, i1, i2, f1l, f2l, f1j, f2j, hl, ckL hl, imL hl, wpL_waitingAt, wpX4_waitingAt, wpX5_waitingAt, wpX4_waitingAt_B22, wpX5_waitingAt_B31, wpX5_waitingAt_B30, wpX5_wrongLock, hR.cwt, hR.mwt, eN, g0, g1, g2, ix6b, g3, g4, g5, g6]
      exact ⟨v, (hR.sO _).s67 _, hJ.mono⟩
    · have g2 : ∀ w P, wpX5_in p2 0 (nI N - 1) w P ↔ P 0 w := fun w P => in_no (by omega) hb2
      rcases hb2 with h | ⟨h, h'⟩
      · try simp only [true_and, and_true, forall_eq, forall_const, true_implies, false_implies, not_true_eq_false, not_false_eq_true, le00, le10, e10, e01, eq_self, ck1, ck0, wpX5_thrown, uI_same, uI_2, uO_o, uO_1, up0, up00, uI67, ne_eq, Nat.reduceEqDiff, lg_self, String.reduceEq, false_and, or_false, false_or, and_self, f3, z00, i1, i2, f1l, f2l, h, ckL hl, imL hl, wpL_waitingAt, wpX4_waitingAt, wpX5_waitingAt, wpX4_waitingAt_B22, wpX5_waitingAt_B31, wpX5_waitingAt_B30, wpX5_wrongLock, hR.mwt, eN, g2, e20, le20, e2s]
        exact ⟨v, hR.s67 _, hJ.mono⟩
      · have h'' := eq_false (Int32.not_lt.mpr h')
        try simp only [true_and, and_true, forall_eq, forall_const, true_implies, false_implies, not_true_eq_false, not_false_eq_true, le00, le10, e10, e01, eq_self, ck1, ck0, wpX5_thrown, uI_same, uI_2, uO_o, uO_1, up0, up00, uI67, ne_eq, Nat.reduceEqDiff, lg_self, String.reduceEq, false_and, or_false, false_or, and_self, f3, z00, i1, i2, f1l, f2l, h, h'', ckL hl, imL hl, wpL_waitingAt, wpX4_waitingAt, wpX5_waitingAt, wpX4_waitingAt_B22, wpX5_waitingAt_B31, wpX5_waitingAt_B30, wpX5_wrongLock, hR.cwt, hR.mwt, eN, g2, e20, le20, e2s]
        exact ⟨v, hR.s67 _, hJ.mono⟩
  · try simp only [true_and, and_true, forall_eq, forall_const, true_implies, false_implies, not_true_eq_false, not_false_eq_true, le00, le10, e10, e01, eq_self, ck1, ck0, wpX5_thrown, uI_same, uI_2, uO_o, uO_1, up0, up00, uI67, ne_eq, Nat.reduceEqDiff, lg_self, String.reduceEq, false_and, or_false, false_or, and_self, f3, z00, i1, i2, ckL' hb1, imL' hb1, wpL_waitingAt, wpX4_waitingAt, wpX5_waitingAt, wpX4_waitingAt_B22, wpX5_waitingAt_B31, wpX5_waitingAt_B30, wpX5_wrongLock]
    exact ⟨v, hR.s67 _, hJ.mono⟩
set_option maxHeartbeats 1000000 in
theorem st_14 {xs : Nat → Int32} {L t : Nat} {w : St} (hL : L ≤ 2560) (h5 : 5 * t + 5 ≤ L) (hI : Inv t w) : wpL_C14 xs L (nI (5 * t)) w (Inv (t + 1)) := by
  obtain ⟨v, hR, hJ⟩ := hI
  have f3 : vp_in 0 1 := inN (a := 0) (by decide) (by decide)
  have z00 : (0 : Int32).toNatClampNeg = 0 := rfl
  have i1 : vp_in (nI (5 * t) + 1) L := inL (k := 1) h5 hL (by decide)
  unfold wpL_C14
  generalize xs (nI (5 * t) + 1).toNatClampNeg = p1
  rcases ixc p1 v.nc (by have := hJ.nc6; omega) with ⟨c, hc, rfl⟩ | hb1
  · have hn6 := hJ.nc6
    have hc6 : c < 6 := by omega
    have f1c : vp_in (nI c) 6 := inN hc6 (by decide)
    have f2c : (nI c).toNatClampNeg = c := clN (by omega)
    have cO : ∀ P px, wpX4_checkClient (nI c) w P px ↔ P w := fun P px => ckC hn6 hR.cnc hc
    have mO : ∀ f P, wpX5_isClient (nI c) (uO w f) P ↔ P 1 (uO w f) := fun f P => imC hn6 (hR.sO f).mnc hc
    have mO' : ∀ P, wpX5_isClient (nI c) w P ↔ P 1 w := fun P => imC hn6 hR.mnc hc
    try simp only [true_and, and_true, forall_eq, forall_const, true_implies, false_implies, not_true_eq_false, not_false_eq_true, le00, le10, e10, e01, eq_self, ck1, ck0, wpX5_thrown, uI_same, uI_2, uO_o, uO_1, up0, up00, uI67, ne_eq, Nat.reduceEqDiff, lg_self, String.reduceEq, false_and, or_false, false_or, and_self, f3, z00, i1, f1c, f2c, cO, mO, wpL_clockOf, wpX4_clockOf, wpX5_clockOf, wpX0_clockAt, wpX5_clock, hR.cnow, hR.cof, hR.mnow, hR.mof]
    exact ⟨v, (hR.sO _).s67 _, hJ.mono⟩
  · have hn6 := hJ.nc6
    have cX : ∀ P px, wpX4_checkClient p1 w P px ↔ px "java/util/NoSuchElementException" w := fun P px => ckC' hR.cnc hb1
    have mX : ∀ P, wpX5_isClient p1 w P ↔ P 0 w := fun P => imC' hn6 hR.mnc hb1
    try simp only [true_and, and_true, forall_eq, forall_const, true_implies, false_implies, not_true_eq_false, not_false_eq_true, le00, le10, e10, e01, eq_self, ck1, ck0, wpX5_thrown, uI_same, uI_2, uO_o, uO_1, up0, up00, uI67, ne_eq, Nat.reduceEqDiff, lg_self, String.reduceEq, false_and, or_false, false_or, and_self, f3, z00, i1, cX, mX, wpL_clockOf, wpX4_clockOf, wpX5_clockOf]
    exact ⟨v, hR.s67 _, hJ.mono⟩
set_option maxHeartbeats 1000000 in
theorem st_28 {xs : Nat → Int32} {L t : Nat} {w : St} (hL : L ≤ 2560) (h5 : 5 * t + 5 ≤ L) (hI : Inv t w) : wpL_C28 xs L (nI (5 * t)) w (Inv (t + 1)) := by
  obtain ⟨v, hR, hJ⟩ := hI
  have f3 : vp_in 0 1 := inN (a := 0) (by decide) (by decide)
  have z00 : (0 : Int32).toNatClampNeg = 0 := rfl
  have i1 : vp_in (nI (5 * t) + 1) L := inL (k := 1) h5 hL (by decide)
  have i2 : vp_in (nI (5 * t) + 2) L := inL (k := 2) h5 hL (by decide)
  unfold wpL_C28
  generalize xs (nI (5 * t) + 1).toNatClampNeg = p1
  generalize xs (nI (5 * t) + 2).toNatClampNeg = p2
  rcases ixc p1 v.nc (by have := hJ.nc6; omega) with ⟨c, hc, rfl⟩ | hb1
  · have hn6 := hJ.nc6
    have hc6 : c < 6 := by omega
    have f1c : vp_in (nI c) 6 := inN hc6 (by decide)
    have f2c : (nI c).toNatClampNeg = c := clN (by omega)
    have cO : ∀ P px, wpX4_checkClient (nI c) w P px ↔ P w := fun P px => ckC hn6 hR.cnc hc
    have mO : ∀ f P, wpX5_isClient (nI c) (uO w f) P ↔ P 1 (uO w f) := fun f P => imC hn6 (hR.sO f).mnc hc
    have mO' : ∀ P, wpX5_isClient (nI c) w P ↔ P 1 w := fun P => imC hn6 hR.mnc hc
    rcases ixc p2 4 (by decide) with ⟨l, hl, rfl⟩ | hb2
    · have f1l : vp_in (nI l) 4 := inN hl (by decide)
      have f2l : (nI l).toNatClampNeg = l := clN (by omega)
      try simp only [true_and, and_true, forall_eq, forall_const, true_implies, false_implies, not_true_eq_false, not_false_eq_true, le00, le10, e10, e01, eq_self, ck1, ck0, wpX5_thrown, uI_same, uI_2, uO_o, uO_1, up0, up00, uI67, ne_eq, Nat.reduceEqDiff, lg_self, String.reduceEq, false_and, or_false, false_or, and_self, f3, z00, i1, i2, cO, ckL hl, wpL_claims, wpX4_claims, wpX5_claims]
      refine sp_X0_hasClaim hc6 hl ?_
      try simp only [true_and, and_true, forall_eq, forall_const, true_implies, false_implies, not_true_eq_false, not_false_eq_true, le00, le10, e10, e01, eq_self, ck1, ck0, wpX5_thrown, uI_same, uI_2, uO_o, uO_1, up0, up00, uI67, ne_eq, Nat.reduceEqDiff, lg_self, String.reduceEq, false_and, or_false, false_or, and_self, f3, z00, bI_n, hR.cpa, hR.cls, hR.cof, hR.clc, hR.cnow, wpX5_claims_B25, wpL_claims_B16, wpL_C28_B2131]
      clear hc
      cases hcl : hc v.pa v.ls v.of v.lc (nI v.now) l c
      · try simp only [true_and, and_true, forall_eq, forall_const, true_implies, false_implies, not_true_eq_false, not_false_eq_true, le00, le10, e10, e01, eq_self, ck1, ck0, wpX5_thrown, uI_same, uI_2, uO_o, uO_1, up0, up00, uI67, ne_eq, Nat.reduceEqDiff, lg_self, String.reduceEq, false_and, or_false, false_or, and_self, f3, z00, bIf, i1, i2, mO, imL hl, wpX5_claims_B25, wpL_claims_B16, wpL_C28_B2131]
        refine sp_X5_isClaimed hc6 hl ?_
        try simp only [true_and, and_true, forall_eq, forall_const, true_implies, false_implies, not_true_eq_false, not_false_eq_true, le00, le10, e10, e01, eq_self, ck1, ck0, wpX5_thrown, uI_same, uI_2, uO_o, uO_1, up0, up00, uI67, ne_eq, Nat.reduceEqDiff, lg_self, String.reduceEq, false_and, or_false, false_or, and_self, f3, z00, hR.mpa, hR.mls, hR.mof, hR.mlc, hR.mnow, hcl, bIf, wpX5_claims_B25, wpL_claims_B16, wpL_C28_B2131]
        exact ⟨v, (hR.sO _).s67 _, hJ.mono⟩
      · try simp only [true_and, and_true, forall_eq, forall_const, true_implies, false_implies, not_true_eq_false, not_false_eq_true, le00, le10, e10, e01, eq_self, ck1, ck0, wpX5_thrown, uI_same, uI_2, uO_o, uO_1, up0, up00, uI67, ne_eq, Nat.reduceEqDiff, lg_self, String.reduceEq, false_and, or_false, false_or, and_self, f3, z00, bIt, i1, i2, mO, imL hl, wpX5_claims_B25, wpL_claims_B16, wpL_C28_B2131]
        refine sp_X5_isClaimed hc6 hl ?_
        try simp only [true_and, and_true, forall_eq, forall_const, true_implies, false_implies, not_true_eq_false, not_false_eq_true, le00, le10, e10, e01, eq_self, ck1, ck0, wpX5_thrown, uI_same, uI_2, uO_o, uO_1, up0, up00, uI67, ne_eq, Nat.reduceEqDiff, lg_self, String.reduceEq, false_and, or_false, false_or, and_self, f3, z00, hR.mpa, hR.mls, hR.mof, hR.mlc, hR.mnow, hcl, bIt, wpX5_claims_B25, wpL_claims_B16, wpL_C28_B2131]
        exact ⟨v, (hR.sO _).s67 _, hJ.mono⟩
    · try simp only [true_and, and_true, forall_eq, forall_const, true_implies, false_implies, not_true_eq_false, not_false_eq_true, le00, le10, e10, e01, eq_self, ck1, ck0, wpX5_thrown, uI_same, uI_2, uO_o, uO_1, up0, up00, uI67, ne_eq, Nat.reduceEqDiff, lg_self, String.reduceEq, false_and, or_false, false_or, and_self, f3, z00, i1, i2, cO, mO', ckL' hb2, imL' hb2, wpL_claims, wpX4_claims, wpX5_claims, wpX5_claims_B25, wpL_claims_B16, wpL_C28_B2131, e20, le20, e2s, e10]
      exact ⟨v, hR.s67 _, hJ.mono⟩
  · have hn6 := hJ.nc6
    have cX : ∀ P px, wpX4_checkClient p1 w P px ↔ px "java/util/NoSuchElementException" w := fun P px => ckC' hR.cnc hb1
    have mX : ∀ P, wpX5_isClient p1 w P ↔ P 0 w := fun P => imC' hn6 hR.mnc hb1
    try simp only [true_and, and_true, forall_eq, forall_const, true_implies, false_implies, not_true_eq_false, not_false_eq_true, le00, le10, e10, e01, eq_self, ck1, ck0, wpX5_thrown, uI_same, uI_2, uO_o, uO_1, up0, up00, uI67, ne_eq, Nat.reduceEqDiff, lg_self, String.reduceEq, false_and, or_false, false_or, and_self, f3, z00, i1, i2, cX, mX, wpL_claims, wpX4_claims, wpX5_claims, wpX5_claims_B25, wpL_claims_B16, wpL_C28_B2131]
    exact ⟨v, hR.s67 _, hJ.mono⟩
set_option maxHeartbeats 1000000 in
theorem st_32 {xs : Nat → Int32} {L t : Nat} {w : St} (hL : L ≤ 2560) (h5 : 5 * t + 5 ≤ L) (hI : Inv t w) : wpL_C32 xs L (nI (5 * t)) w (Inv (t + 1)) := by
  obtain ⟨v, hR, hJ⟩ := hI
  have f3 : vp_in 0 1 := inN (a := 0) (by decide) (by decide)
  have z00 : (0 : Int32).toNatClampNeg = 0 := rfl
  have i1 : vp_in (nI (5 * t) + 1) L := inL (k := 1) h5 hL (by decide)
  have i2 : vp_in (nI (5 * t) + 2) L := inL (k := 2) h5 hL (by decide)
  unfold wpL_C32
  generalize xs (nI (5 * t) + 1).toNatClampNeg = p1
  generalize xs (nI (5 * t) + 2).toNatClampNeg = p2
  rcases ixc p1 v.nc (by have := hJ.nc6; omega) with ⟨c, hc, rfl⟩ | hb1
  · have hn6 := hJ.nc6
    have hc6 : c < 6 := by omega
    have f1c : vp_in (nI c) 6 := inN hc6 (by decide)
    have f2c : (nI c).toNatClampNeg = c := clN (by omega)
    have cO : ∀ P px, wpX4_checkClient (nI c) w P px ↔ P w := fun P px => ckC hn6 hR.cnc hc
    have mO : ∀ f P, wpX5_isClient (nI c) (uO w f) P ↔ P 1 (uO w f) := fun f P => imC hn6 (hR.sO f).mnc hc
    have mO' : ∀ P, wpX5_isClient (nI c) w P ↔ P 1 w := fun P => imC hn6 hR.mnc hc
    rcases ixc p2 4 (by decide) with ⟨l, hl, rfl⟩ | hb2
    · have f1l : vp_in (nI l) 4 := inN hl (by decide)
      have f2l : (nI l).toNatClampNeg = l := clN (by omega)
      have g1 : (nI (c * 4 + l)).toNatClampNeg = c * 4 + l := clN (by omega)
      have g2 : vp_in (nI (c * 4 + l)) 24 := inN (by omega) (by decide)
      try simp only [true_and, and_true, forall_eq, forall_const, true_implies, false_implies, not_true_eq_false, not_false_eq_true, le00, le10, e10, e01, eq_self, ck1, ck0, wpX5_thrown, uI_same, uI_2, uO_o, uO_1, up0, up00, uI67, ne_eq, Nat.reduceEqDiff, lg_self, String.reduceEq, false_and, or_false, false_or, and_self, f3, z00, i1, i2, cO, ckL hl, wpL_kept, wpX4_kept, wpX5_kept]
      refine sp_X0_hasValue hc6 hl ?_
      try simp only [true_and, and_true, forall_eq, forall_const, true_implies, false_implies, not_true_eq_false, not_false_eq_true, le00, le10, e10, e01, eq_self, ck1, ck0, wpX5_thrown, uI_same, uI_2, uO_o, uO_1, up0, up00, uI67, ne_eq, Nat.reduceEqDiff, lg_self, String.reduceEq, false_and, or_false, false_or, and_self, f3, z00, hR.cpa, hR.cks, hR.cof, hR.ckc, hR.cnow, wpX0_slot, ix4, g1, g2, hR.ckv]
      by_cases h1 : v.pa c = 0
      · by_cases h2 : v.ks (c * 4 + l) = 0
        · have hh : hv v.pa v.ks v.of v.kc (nI v.now) l c = false := by simp [hv, h1, h2, nb]
          try simp only [true_and, and_true, forall_eq, forall_const, true_implies, false_implies, not_true_eq_false, not_false_eq_true, le00, le10, e10, e01, eq_self, ck1, ck0, wpX5_thrown, uI_same, uI_2, uO_o, uO_1, up0, up00, uI67, ne_eq, Nat.reduceEqDiff, lg_self, String.reduceEq, false_and, or_false, false_or, and_self, f3, z00, hh, bIf, bIt, i1, i2, mO', imL hl, wpX5_kept_B25, wpX5_kept_B84, wpX5_kept_B85, wpX5_kept_B96, wpX5_at, wpX5_clock, ix4', g1, g2, f1c, f2c, hR.mks, h1, h2, e30, le30]
          exact ⟨v, (hR.s67 _).s67 _, hJ.mono⟩
        · by_cases h3 : (6 : Int32) ≤ nI v.now + v.of c - v.kc (c * 4 + l)
          · have hh : hv v.pa v.ks v.of v.kc (nI v.now) l c = false := by simp [hv, h1, h2, h3, nb]
            try simp only [true_and, and_true, forall_eq, forall_const, true_implies, false_implies, not_true_eq_false, not_false_eq_true, le00, le10, e10, e01, eq_self, ck1, ck0, wpX5_thrown, uI_same, uI_2, uO_o, uO_1, up0, up00, uI67, ne_eq, Nat.reduceEqDiff, lg_self, String.reduceEq, false_and, or_false, false_or, and_self, f3, z00, hh, bIf, bIt, i1, i2, mO', imL hl, wpX5_kept_B25, wpX5_kept_B84, wpX5_kept_B85, wpX5_kept_B96, wpX5_at, wpX5_clock, ix4', g1, g2, f1c, f2c, hR.mks, hR.mpa, hR.mnow, hR.mof, hR.mkc, h1, h2, h3, e30, le30]
            exact ⟨v, (hR.s67 _).s67 _, hJ.mono⟩
          · have hh : hv v.pa v.ks v.of v.kc (nI v.now) l c = true := by simp [hv, h1, h2, h3, nb]
            try simp only [true_and, and_true, forall_eq, forall_const, true_implies, false_implies, not_true_eq_false, not_false_eq_true, le00, le10, e10, e01, eq_self, ck1, ck0, wpX5_thrown, uI_same, uI_2, uO_o, uO_1, up0, up00, uI67, ne_eq, Nat.reduceEqDiff, lg_self, String.reduceEq, false_and, or_false, false_or, and_self, f3, z00, hh, bIf, bIt, i1, i2, mO, imL hl, wpX5_kept_B25, wpX5_kept_B84, wpX5_kept_B85, wpX5_kept_B96, wpX5_at, wpX5_clock, ix4', g1, g2, f1c, f2c, hR.mks, hR.mpa, hR.mnow, hR.mof, hR.mkc, hR.mkv, h1, h2, h3]
            exact ⟨v, (hR.sO _).s67 _ |>.s67 _, hJ.mono⟩
      · have hh : hv v.pa v.ks v.of v.kc (nI v.now) l c = false := by simp [hv, h1]
        by_cases h2 : v.ks (c * 4 + l) = 0
        · try simp only [true_and, and_true, forall_eq, forall_const, true_implies, false_implies, not_true_eq_false, not_false_eq_true, le00, le10, e10, e01, eq_self, ck1, ck0, wpX5_thrown, uI_same, uI_2, uO_o, uO_1, up0, up00, uI67, ne_eq, Nat.reduceEqDiff, lg_self, String.reduceEq, false_and, or_false, false_or, and_self, f3, z00, hh, bIf, bIt, i1, i2, mO', imL hl, wpX5_kept_B25, wpX5_kept_B84, wpX5_kept_B85, wpX5_kept_B96, wpX5_at, wpX5_clock, ix4', g1, g2, f1c, f2c, hR.mks, hR.mpa, h1, h2, e30, le30]
          exact ⟨v, (hR.s67 _).s67 _, hJ.mono⟩
        · try simp only [true_and, and_true, forall_eq, forall_const, true_implies, false_implies, not_true_eq_false, not_false_eq_true, le00, le10, e10, e01, eq_self, ck1, ck0, wpX5_thrown, uI_same, uI_2, uO_o, uO_1, up0, up00, uI67, ne_eq, Nat.reduceEqDiff, lg_self, String.reduceEq, false_and, or_false, false_or, and_self, f3, z00, hh, bIf, bIt, i1, i2, mO', imL hl, wpX5_kept_B25, wpX5_kept_B84, wpX5_kept_B85, wpX5_kept_B96, wpX5_at, wpX5_clock, ix4', g1, g2, f1c, f2c, hR.mks, hR.mpa, h1, h2, e30, le30]
          exact ⟨v, (hR.s67 _).s67 _, hJ.mono⟩
    · try simp only [true_and, and_true, forall_eq, forall_const, true_implies, false_implies, not_true_eq_false, not_false_eq_true, le00, le10, e10, e01, eq_self, ck1, ck0, wpX5_thrown, uI_same, uI_2, uO_o, uO_1, up0, up00, uI67, ne_eq, Nat.reduceEqDiff, lg_self, String.reduceEq, false_and, or_false, false_or, and_self, f3, z00, i1, i2, cO, mO', ckL' hb2, imL' hb2, wpL_kept, wpX4_kept, wpX5_kept, wpX5_kept_B25, wpX5_kept_B84, wpX5_kept_B85, wpX5_kept_B96, wpX5_at, wpX5_clock, e20, le20, e2s, e10]
      exact ⟨v, hR.s67 _, hJ.mono⟩
  · have hn6 := hJ.nc6
    have cX : ∀ P px, wpX4_checkClient p1 w P px ↔ px "java/util/NoSuchElementException" w := fun P px => ckC' hR.cnc hb1
    have mX : ∀ P, wpX5_isClient p1 w P ↔ P 0 w := fun P => imC' hn6 hR.mnc hb1
    try simp only [true_and, and_true, forall_eq, forall_const, true_implies, false_implies, not_true_eq_false, not_false_eq_true, le00, le10, e10, e01, eq_self, ck1, ck0, wpX5_thrown, uI_same, uI_2, uO_o, uO_1, up0, up00, uI67, ne_eq, Nat.reduceEqDiff, lg_self, String.reduceEq, false_and, or_false, false_or, and_self, f3, z00, i1, i2, cX, mX, wpL_kept, wpX4_kept, wpX5_kept, wpX5_kept_B25, wpX5_kept_B84, wpX5_kept_B85, wpX5_kept_B96, wpX5_at, wpX5_clock]
    exact ⟨v, hR.s67 _, hJ.mono⟩
set_option maxHeartbeats 1000000 in
theorem st_38 {xs : Nat → Int32} {L t : Nat} {w : St} (hL : L ≤ 2560) (h5 : 5 * t + 5 ≤ L) (hI : Inv t w) : wpL_C38 xs L (nI (5 * t)) w (Inv (t + 1)) := by
  obtain ⟨v, hR, hJ⟩ := hI
  have f3 : vp_in 0 1 := inN (a := 0) (by decide) (by decide)
  have z00 : (0 : Int32).toNatClampNeg = 0 := rfl
  unfold wpL_C38
  have hs := ct_le (fun j => decide (v.dn j = 0)) 5
  have hu := us_ok _ hs
  have hu2 := vf64 hu.2
  have hu3 := dc_self hu.2
  try simp only [true_and, and_true, forall_eq, forall_const, true_implies, false_implies, not_true_eq_false, not_false_eq_true, le00, le10, e10, e01, eq_self, ck1, ck0, wpX5_thrown, uI_same, uI_2, uO_o, uO_1, up0, up00, uI67, ne_eq, Nat.reduceEqDiff, lg_self, String.reduceEq, false_and, or_false, false_or, and_self, f3, z00, wpX4_upShare]
  refine sp_X3_countUp ?_
  try simp only [true_and, and_true, forall_eq, forall_const, true_implies, false_implies, not_true_eq_false, not_false_eq_true, le00, le10, e10, e01, eq_self, ck1, ck0, wpX5_thrown, uI_same, uI_2, uO_o, uO_1, up0, up00, uI67, ne_eq, Nat.reduceEqDiff, lg_self, String.reduceEq, false_and, or_false, false_or, and_self, f3, z00, hR.cdn, hu.1, hu2, wpX5_upShare]
  refine sp_X5_upL ?_ ?_
  · try simp only [true_and, and_true, forall_eq, forall_const, true_implies, false_implies, not_true_eq_false, not_false_eq_true, le00, le10, e10, e01, eq_self, ck1, ck0, wpX5_thrown, uI_same, uI_2, uO_o, uO_1, up0, up00, uI67, ne_eq, Nat.reduceEqDiff, lg_self, String.reduceEq, false_and, or_false, false_or, and_self, f3, z00, uI67, hR.mdn, hu.1]
  · try simp only [true_and, and_true, forall_eq, forall_const, true_implies, false_implies, not_true_eq_false, not_false_eq_true, le00, le10, e10, e01, eq_self, ck1, ck0, wpX5_thrown, uI_same, uI_2, uO_o, uO_1, up0, up00, uI67, ne_eq, Nat.reduceEqDiff, lg_self, String.reduceEq, false_and, or_false, false_or, and_self, f3, z00, uI67, hR.mdn, hu2, hu3]
    exact ⟨v, hR.s67 _, hJ.mono⟩
set_option maxHeartbeats 1000000 in
theorem st_39 {xs : Nat → Int32} {L t : Nat} {w : St} (hL : L ≤ 2560) (h5 : 5 * t + 5 ≤ L) (hI : Inv t w) : wpL_C39 xs L (nI (5 * t)) w (Inv (t + 1)) := by
  obtain ⟨v, hR, hJ⟩ := hI
  have f3 : vp_in 0 1 := inN (a := 0) (by decide) (by decide)
  have z00 : (0 : Int32).toNatClampNeg = 0 := rfl
  unfold wpL_C39
  rcases Nat.eq_zero_or_pos v.ne with e | e
  · have z : nI 0 = (0 : Int32) := rfl
    try simp only [true_and, and_true, forall_eq, forall_const, true_implies, false_implies, not_true_eq_false, not_false_eq_true, le00, le10, e10, e01, eq_self, ck1, ck0, wpX5_thrown, uI_same, uI_2, uO_o, uO_1, up0, up00, uI67, ne_eq, Nat.reduceEqDiff, lg_self, String.reduceEq, false_and, or_false, false_or, and_self, f3, z00, wpL_meanKnown, wpX4_meanKnown, wpX5_meanKnown, wpX5_meanKnown_B13, hR.cne, hR.mne, e, z]
    exact ⟨v, hR.s67 _, hJ.mono⟩
  · have hn := hJ.ne250
    have g1 : (nI v.ne = 0) = False := eq_false (fun q => by have := nI_inj (b := 0) (by omega) (by decide) q; omega)
    have g2 : (nI v.ne ≤ 0) = False := eq_false (notN (j := 0) e (by omega))
    have e5 : 5 * nI v.ne = nI (5 * v.ne) := by
      have := ix5' v.ne 0
      rw [show nI 0 = (0 : Int32) from rfl, Int32.add_zero] at this
      rw [this, Nat.mul_comm, Nat.add_zero]
    have g3 : nI (5 * v.ne) ≠ 0 := fun q => by have := nI_inj (b := 0) (by omega) (by decide) q; omega
    have hm := md_nan (s := sm v.kn 5) g3
    have hm1 := vf64 hm
    have hm2 := dc_self hm
    try simp only [true_and, and_true, forall_eq, forall_const, true_implies, false_implies, not_true_eq_false, not_false_eq_true, le00, le10, e10, e01, eq_self, ck1, ck0, wpX5_thrown, uI_same, uI_2, uO_o, uO_1, up0, up00, uI67, ne_eq, Nat.reduceEqDiff, lg_self, String.reduceEq, false_and, or_false, false_or, and_self, f3, z00, wpL_meanKnown, wpX4_meanKnown, hR.cne, g1]
    refine sp_X3_sumKnown ?_
    try simp only [true_and, and_true, forall_eq, forall_const, true_implies, false_implies, not_true_eq_false, not_false_eq_true, le00, le10, e10, e01, eq_self, ck1, ck0, wpX5_thrown, uI_same, uI_2, uO_o, uO_1, up0, up00, uI67, ne_eq, Nat.reduceEqDiff, lg_self, String.reduceEq, false_and, or_false, false_or, and_self, f3, z00, hR.ckn, hR.cne, e5, hm1, wpX5_meanKnown, wpX5_meanKnown_B13, uD_1, uD_o, vfu, hR.mne, g2]
    refine sp_X5_meanL ?_ ?_
    · try simp only [true_and, and_true, forall_eq, forall_const, true_implies, false_implies, not_true_eq_false, not_false_eq_true, le00, le10, e10, e01, eq_self, ck1, ck0, wpX5_thrown, uI_same, uI_2, uO_o, uO_1, up0, up00, uI67, ne_eq, Nat.reduceEqDiff, lg_self, String.reduceEq, false_and, or_false, false_or, and_self, f3, z00, uI67, uD_1, hR.mkn, hR.mne, e5, hm1]
    · try simp only [true_and, and_true, forall_eq, forall_const, true_implies, false_implies, not_true_eq_false, not_false_eq_true, le00, le10, e10, e01, eq_self, ck1, ck0, wpX5_thrown, uI_same, uI_2, uO_o, uO_1, up0, up00, uI67, ne_eq, Nat.reduceEqDiff, lg_self, String.reduceEq, false_and, or_false, false_or, and_self, f3, z00, uI67, uD_1, uD_o, vfu, hR.mkn, hR.mne, e5, hm2]
      exact ⟨v, (hR.sD _).s67 _, hJ.mono⟩
set_option maxHeartbeats 1000000 in
theorem st_40 {xs : Nat → Int32} {L t : Nat} {w : St} (hL : L ≤ 2560) (h5 : 5 * t + 5 ≤ L) (hI : Inv t w) : wpL_C40 xs L (nI (5 * t)) w (Inv (t + 1)) := by
  obtain ⟨v, hR, hJ⟩ := hI
  have f3 : vp_in 0 1 := inN (a := 0) (by decide) (by decide)
  have z00 : (0 : Int32).toNatClampNeg = 0 := rfl
  unfold wpL_C40
  try simp only [true_and, and_true, forall_eq, forall_const, true_implies, false_implies, not_true_eq_false, not_false_eq_true, le00, le10, e10, e01, eq_self, ck1, ck0, wpX5_thrown, uI_same, uI_2, uO_o, uO_1, up0, up00, uI67, ne_eq, Nat.reduceEqDiff, lg_self, String.reduceEq, false_and, or_false, false_or, and_self, f3, z00, wpX4_isOneOrder]
  have ht : t < 512 := by omega
  refine sp_X2_isInTermOrder hJ.ne250 hR.cne (by rw [hR.cet]; exact hJ.etS) ?_
  try simp only [true_and, and_true, forall_eq, forall_const, true_implies, false_implies, not_true_eq_false, not_false_eq_true, le00, le10, e10, e01, eq_self, ck1, ck0, wpX5_thrown, uI_same, uI_2, uO_o, uO_1, up0, up00, uI67, ne_eq, Nat.reduceEqDiff, lg_self, String.reduceEq, false_and, or_false, false_or, and_self, f3, z00, wpX4_isOneOrder]
  refine sp_X4_isKnownByMost hJ.ne250 hR.cne ?_ ?_
  · intro j hj
    rw [hR.ckn]
    refine Nat.le_trans (hJ.kn3 (by omega)) (ct_mono 5 (fun i hi q => ?_))
    rw [decide_eq_true_eq] at q
    have := hJ.ne250
    rw [q]
    exact nb_t (notN hj (by omega))
  · try simp only [true_and, and_true, forall_eq, forall_const, true_implies, false_implies, not_true_eq_false, not_false_eq_true, le00, le10, e10, e01, eq_self, ck1, ck0, wpX5_thrown, uI_same, uI_2, uO_o, uO_1, up0, up00, uI67, ne_eq, Nat.reduceEqDiff, lg_self, String.reduceEq, false_and, or_false, false_or, and_self, f3, z00, ]
    refine sp_X4_agrees hJ.ne250 hR.cne ?_ ?_ ?_ ?_
    · rw [hR.cow, hR.cki, hR.cec, hR.cel]; exact hJ.owE
    · rw [hR.cen, hR.cki, hR.cde, hR.cel]; exact hJ.enE
    · rw [hR.cva, hR.cki, hR.cde, hR.cel]; exact hJ.vaE
    · try simp only [true_and, and_true, forall_eq, forall_const, true_implies, false_implies, not_true_eq_false, not_false_eq_true, le00, le10, e10, e01, eq_self, ck1, ck0, wpX5_thrown, uI_same, uI_2, uO_o, uO_1, up0, up00, uI67, ne_eq, Nat.reduceEqDiff, lg_self, String.reduceEq, false_and, or_false, false_or, and_self, f3, z00, ]
      refine sp_X4_isClaimedOnce hJ.nc6 hR.cnc ?_ ?_
      · intro l hl
        rw [hR.cpa, hR.cls, hR.cof, hR.clc, hR.cnow]
        have hn := hJ.nc6
        refine ct_le1 _ (fun i j hi hj a b => ?_)
        have x := claim_own hJ (by omega) (by omega) hl a
        have y := claim_own hJ (by omega) (by omega) hl b
        rw [x] at y
        exact nI_inj (by omega) (by omega) y
      · try simp only [true_and, and_true, forall_eq, forall_const, true_implies, false_implies, not_true_eq_false, not_false_eq_true, le00, le10, e10, e01, eq_self, ck1, ck0, wpX5_thrown, uI_same, uI_2, uO_o, uO_1, up0, up00, uI67, ne_eq, Nat.reduceEqDiff, lg_self, String.reduceEq, false_and, or_false, false_or, and_self, f3, z00, wpX5_isOneOrder]
        exact ⟨v, hR.s67 _, hJ.mono⟩
