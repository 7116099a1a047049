set_option maxHeartbeats 1000000 in
theorem st_19 {xs : Nat → Int32} {L t : Nat} {w : St} (hL : L ≤ 2560) (h5 : 5 * t + 5 ≤ L) (hI : Inv t w) : wpL_C19 xs L (nI (5 * t)) w (Inv (t + 1)) := by
  obtain ⟨v, hR, hJ⟩ := hI
  have f3 : vp_in 0 1 := inN (a := 0) (by decide) (by decide)
  have z00 : (0 : Int32).toNatClampNeg = 0 := rfl
  have i1 : vp_in (nI (5 * t) + 1) L := inL (k := 1) h5 hL (by decide)
  have i2 : vp_in (nI (5 * t) + 2) L := inL (k := 2) h5 hL (by decide)
  unfold wpL_C19
  generalize e1 : xs (nI (5 * t) + 1).toNatClampNeg = p1
  generalize e2 : xs (nI (5 * t) + 2).toNatClampNeg = p2
  rcases ixc p1 v.nc (by have := hJ.nc6; omega) with ⟨c, hc, rfl⟩ | hb1
  · have hn6 := hJ.nc6
    have hc6 : c < 6 := by omega
    have f1c : vp_in (nI c) 6 := inN hc6 (by decide)
    have f2c : (nI c).toNatClampNeg = c := clN (by omega)
    have cO : ∀ P px, wpX4_checkClient (nI c) w P px ↔ P w := fun P px => ckC hn6 hR.cnc hc
    have mO : ∀ f P, wpX5_isClient (nI c) (uO w f) P ↔ P 1 (uO w f) := fun f P => imC hn6 (hR.sO f).mnc hc
    have mO' : ∀ P, wpX5_isClient (nI c) w P ↔ P 1 w := fun P => imC hn6 hR.mnc hc
    rcases ixc p2 4 (by decide) with ⟨l, hl, rfl⟩ | hb2
    · have f1l : vp_in (nI l) 4 := inN hl (by decide)
      have f2l : (nI l).toNatClampNeg = l := clN (by omega)
      obtain ⟨N, hN, eN, hqv, hqd⟩ := hJ.wtq l hl
      try simp only [true_and, and_true, forall_eq, forall_const, true_implies, false_implies, not_true_eq_false, not_false_eq_true, le00, le10, e10, e01, eq_self, ck1, ck0, wpX5_thrown, uI_same, uI_2, uO_o, uO_1, up0, up00, uI67, ne_eq, Nat.reduceEqDiff, lg_self, String.reduceEq, false_and, or_false, false_or, and_self, f3, z00, i1, i2, cO, ckL hl, wpL_quit, wpX4_quit, uA_ne, uA_same, uA_2]
      refine sp_X1_placeOf hN hl (by rw [hR.cwt]; exact eN) ?_
      rw [hR.cq l hl]
      by_cases hp : plc (v.q l) (nI c) 0 N = -1
      · rw [hp]
        refine ⟨fun _ => ?_, fun q => absurd rfl q⟩
        try simp only [true_and, and_true, forall_eq, forall_const, true_implies, false_implies, not_true_eq_false, not_false_eq_true, le00, le10, e10, e01, eq_self, ck1, ck0, wpX5_thrown, uI_same, uI_2, uO_o, uO_1, up0, up00, uI67, ne_eq, Nat.reduceEqDiff, lg_self, String.reduceEq, false_and, or_false, false_or, and_self, f3, z00, i1, i2, mO', imL hl, wpX5_quit, wpX5_quit_B38, uA_ne, uA_same, uA_2]
        refine sp_X5_placeIn hN hl (by rw [hR.mwt]; exact eN) ?_
        rw [mrow hR hl hN, hp]
        refine ⟨fun q => absurd q (by decide), fun _ => ?_⟩
        try simp only [true_and, and_true, forall_eq, forall_const, true_implies, false_implies, not_true_eq_false, not_false_eq_true, le00, le10, e10, e01, eq_self, ck1, ck0, wpX5_thrown, uI_same, uI_2, uO_o, uO_1, up0, up00, uI67, ne_eq, Nat.reduceEqDiff, lg_self, String.reduceEq, false_and, or_false, false_or, and_self, f3, z00, wpX5_quit, wpX5_quit_B38, nk32, e20, le20, e2s, e30, le30, e10, uA_ne, uA_same, uA_2]
        exact ⟨v, hR.s67 _, hJ.mono⟩
      · obtain ⟨p, hp6, ep⟩ := plc_yes hp hN
        refine ⟨fun q => absurd q hp, fun _ => RC_take hR hl hN eN (fun w1 h1 => ?_)⟩
        have m1th : w1.1 16 = v.th := h1.cth
        have m1wt : w1.1 18 = upd v.wt l (nI (tkN (v.q l) (nI c) N)) := h1.cwt
        have hne6 : ∀ f, R _ _ (uO w1 f) := fun f => h1.sO f
        try simp only [true_and, and_true, forall_eq, forall_const, true_implies, false_implies, not_true_eq_false, not_false_eq_true, le00, le10, e10, e01, eq_self, ck1, ck0, wpX5_thrown, uI_same, uI_2, uO_o, uO_1, up0, up00, uI67, ne_eq, Nat.reduceEqDiff, lg_self, String.reduceEq, false_and, or_false, false_or, and_self, f3, z00, f1l, f2l, m1th, wpX4_quit_B65, uA_ne, uA_same, uA_2]
        by_cases hth : v.th l = nI c
        · try simp only [true_and, and_true, forall_eq, forall_const, true_implies, false_implies, not_true_eq_false, not_false_eq_true, le00, le10, e10, e01, eq_self, ck1, ck0, wpX5_thrown, uI_same, uI_2, uO_o, uO_1, up0, up00, uI67, ne_eq, Nat.reduceEqDiff, lg_self, String.reduceEq, false_and, or_false, false_or, and_self, f3, z00, hth, f1l, f2l, m1wt, m1th, upd_eq, i1, i2, uA_ne, uA_same, uA_2]
          generalize hw2 : uO _ _ = w2
          have hR2 : R (V.s_th (V.tk v l (nI c) N) (upd v.th l (-1))) v w2 := by rw [← hw2]; exact (h1.sc_th (upd v.th l (-1))).sO _
          have ho2 : w2.2.2.1 0 = (nI (tkN (v.q l) (nI c) N)).toInt64 := by rw [← hw2, uO_o, up00]
          have mO2 : ∀ P, wpX5_isClient (nI c) w2 P ↔ P 1 w2 := fun P => imC hn6 hR2.mnc hc
          try simp only [true_and, and_true, forall_eq, forall_const, true_implies, false_implies, not_true_eq_false, not_false_eq_true, le00, le10, e10, e01, eq_self, ck1, ck0, wpX5_thrown, uI_same, uI_2, uO_o, uO_1, up0, up00, uI67, ne_eq, Nat.reduceEqDiff, lg_self, String.reduceEq, false_and, or_false, false_or, and_self, f3, z00, i1, i2, mO2, imL hl, wpX5_quit, wpX5_quit_B38, uA_ne, uA_same, uA_2]
          refine sp_X5_placeIn hN hl (by rw [hR2.mwt]; exact eN) ?_
          rw [mrow hR2 hl hN, ep]
          refine ⟨fun _ => ?_, fun q => absurd (ge0 (show p < 2147483648 by omega)) q⟩
          try simp only [true_and, and_true, forall_eq, forall_const, true_implies, false_implies, not_true_eq_false, not_false_eq_true, le00, le10, e10, e01, eq_self, ck1, ck0, wpX5_thrown, uI_same, uI_2, uO_o, uO_1, up0, up00, uI67, ne_eq, Nat.reduceEqDiff, lg_self, String.reduceEq, false_and, or_false, false_or, and_self, f3, z00, wpX5_quit, wpX5_quit_B38, uA_ne, uA_same, uA_2]
          have hR3 := hR2.s67 0
          generalize hw3 : uI w2 67 0 = w3 at hR3 ⊢
          have k67 : w3.1 67 0 = 0 := by rw [← hw3]; exact uI_same _ _ _ _
          have ho3 : w3.2.2.1 0 = (nI (tkN (v.q l) (nI c) N)).toInt64 := by rw [← hw3]; exact ho2
          try simp only [true_and, and_true, forall_eq, forall_const, true_implies, false_implies, not_true_eq_false, not_false_eq_true, le00, le10, e10, e01, eq_self, ck1, ck0, wpX5_thrown, uI_same, uI_2, uO_o, uO_1, up0, up00, uI67, ne_eq, Nat.reduceEqDiff, lg_self, String.reduceEq, false_and, or_false, false_or, and_self, f3, z00, k67, wpX5_quit, wpX5_quit_B38, uA_ne, uA_same, uA_2]
          refine RM_take hR3 (Keep.r w3) hl hN eN (fun w4 h4 k4 => ?_)
          have m4th : w4.1 51 = v.th := h4.mth
          have m4wt : w4.1 54 = upd v.wt l (nI (tkN (v.q l) (nI c) N)) := h4.mwt
          try simp only [true_and, and_true, forall_eq, forall_const, true_implies, false_implies, not_true_eq_false, not_false_eq_true, le00, le10, e10, e01, eq_self, ck1, ck0, wpX5_thrown, uI_same, uI_2, uO_o, uO_1, up0, up00, uI67, ne_eq, Nat.reduceEqDiff, lg_self, String.reduceEq, false_and, or_false, false_or, and_self, f3, z00, f1l, f2l, m4th, m4wt, wpX5_quit_B73, hth, upd_eq, k4.1, k4.2, k67, ho3, uA_ne, uA_same, uA_2]
          exact ⟨_, R.fin (h4.sm_th (upd v.th l (-1))) rfl, (hJ.queue (thU hJ.thv (.inl rfl)) (wtU hJ.wtq (qOK_take (hJ.wtq l hl) eN hN (nI c)))).mono⟩
        · try simp only [true_and, and_true, forall_eq, forall_const, true_implies, false_implies, not_true_eq_false, not_false_eq_true, le00, le10, e10, e01, eq_self, ck1, ck0, wpX5_thrown, uI_same, uI_2, uO_o, uO_1, up0, up00, uI67, ne_eq, Nat.reduceEqDiff, lg_self, String.reduceEq, false_and, or_false, false_or, and_self, f3, z00, hth, f1l, f2l, m1wt, m1th, upd_eq, i1, i2, uA_ne, uA_same, uA_2]
          generalize hw2 : uO _ _ = w2
          have hR2 : R (V.tk v l (nI c) N) v w2 := by rw [← hw2]; exact h1.sO _
          have ho2 : w2.2.2.1 0 = (nI (tkN (v.q l) (nI c) N)).toInt64 := by rw [← hw2, uO_o, up00]
          have mO2 : ∀ P, wpX5_isClient (nI c) w2 P ↔ P 1 w2 := fun P => imC hn6 hR2.mnc hc
          try simp only [true_and, and_true, forall_eq, forall_const, true_implies, false_implies, not_true_eq_false, not_false_eq_true, le00, le10, e10, e01, eq_self, ck1, ck0, wpX5_thrown, uI_same, uI_2, uO_o, uO_1, up0, up00, uI67, ne_eq, Nat.reduceEqDiff, lg_self, String.reduceEq, false_and, or_false, false_or, and_self, f3, z00, i1, i2, mO2, imL hl, wpX5_quit, wpX5_quit_B38, uA_ne, uA_same, uA_2]
          refine sp_X5_placeIn hN hl (by rw [hR2.mwt]; exact eN) ?_
          rw [mrow hR2 hl hN, ep]
          refine ⟨fun _ => ?_, fun q => absurd (ge0 (show p < 2147483648 by omega)) q⟩
          try simp only [true_and, and_true, forall_eq, forall_const, true_implies, false_implies, not_true_eq_false, not_false_eq_true, le00, le10, e10, e01, eq_self, ck1, ck0, wpX5_thrown, uI_same, uI_2, uO_o, uO_1, up0, up00, uI67, ne_eq, Nat.reduceEqDiff, lg_self, String.reduceEq, false_and, or_false, false_or, and_self, f3, z00, wpX5_quit, wpX5_quit_B38, uA_ne, uA_same, uA_2]
          have hR3 := hR2.s67 0
          generalize hw3 : uI w2 67 0 = w3 at hR3 ⊢
          have k67 : w3.1 67 0 = 0 := by rw [← hw3]; exact uI_same _ _ _ _
          have ho3 : w3.2.2.1 0 = (nI (tkN (v.q l) (nI c) N)).toInt64 := by rw [← hw3]; exact ho2
          try simp only [true_and, and_true, forall_eq, forall_const, true_implies, false_implies, not_true_eq_false, not_false_eq_true, le00, le10, e10, e01, eq_self, ck1, ck0, wpX5_thrown, uI_same, uI_2, uO_o, uO_1, up0, up00, uI67, ne_eq, Nat.reduceEqDiff, lg_self, String.reduceEq, false_and, or_false, false_or, and_self, f3, z00, k67, wpX5_quit, wpX5_quit_B38, uA_ne, uA_same, uA_2]
          refine RM_take hR3 (Keep.r w3) hl hN eN (fun w4 h4 k4 => ?_)
          have m4th : w4.1 51 = v.th := h4.mth
          have m4wt : w4.1 54 = upd v.wt l (nI (tkN (v.q l) (nI c) N)) := h4.mwt
          try simp only [true_and, and_true, forall_eq, forall_const, true_implies, false_implies, not_true_eq_false, not_false_eq_true, le00, le10, e10, e01, eq_self, ck1, ck0, wpX5_thrown, uI_same, uI_2, uO_o, uO_1, up0, up00, uI67, ne_eq, Nat.reduceEqDiff, lg_self, String.reduceEq, false_and, or_false, false_or, and_self, f3, z00, f1l, f2l, m4th, m4wt, wpX5_quit_B73, hth, upd_eq, k4.1, k4.2, k67, ho3, uA_ne, uA_same, uA_2]
          exact ⟨_, R.fin h4 rfl, (hJ.queue hJ.thv (wtU hJ.wtq (qOK_take (hJ.wtq l hl) eN hN (nI c)))).mono⟩
    · try simp only [true_and, and_true, forall_eq, forall_const, true_implies, false_implies, not_true_eq_false, not_false_eq_true, le00, le10, e10, e01, eq_self, ck1, ck0, wpX5_thrown, uI_same, uI_2, uO_o, uO_1, up0, up00, uI67, ne_eq, Nat.reduceEqDiff, lg_self, String.reduceEq, false_and, or_false, false_or, and_self, f3, z00, i1, i2, cO, ckL' hb2, wpL_quit, wpX4_quit, uA_ne, uA_same, uA_2]
      try simp only [true_and, and_true, forall_eq, forall_const, true_implies, false_implies, not_true_eq_false, not_false_eq_true, le00, le10, e10, e01, eq_self, ck1, ck0, wpX5_thrown, uI_same, uI_2, uO_o, uO_1, up0, up00, uI67, ne_eq, Nat.reduceEqDiff, lg_self, String.reduceEq, false_and, or_false, false_or, and_self, f3, z00, i1, i2, mO', imL' hb2, wpX5_quit, wpX5_quit_B38, nk32, e20, le20, e2s, e30, le30, e10, uA_ne, uA_same, uA_2]
      exact ⟨v, hR.s67 _, hJ.mono⟩
  · have hn6 := hJ.nc6
    have cX : ∀ P px, wpX4_checkClient p1 w P px ↔ px "java/util/NoSuchElementException" w := fun P px => ckC' hR.cnc hb1
    have mX : ∀ P, wpX5_isClient p1 w P ↔ P 0 w := fun P => imC' hn6 hR.mnc hb1
    try simp only [true_and, and_true, forall_eq, forall_const, true_implies, false_implies, not_true_eq_false, not_false_eq_true, le00, le10, e10, e01, eq_self, ck1, ck0, wpX5_thrown, uI_same, uI_2, uO_o, uO_1, up0, up00, uI67, ne_eq, Nat.reduceEqDiff, lg_self, String.reduceEq, false_and, or_false, false_or, and_self, f3, z00, i1, i2, cX, wpL_quit, wpX4_quit, uA_ne, uA_same, uA_2]
    try simp only [true_and, and_true, forall_eq, forall_const, true_implies, false_implies, not_true_eq_false, not_false_eq_true, le00, le10, e10, e01, eq_self, ck1, ck0, wpX5_thrown, uI_same, uI_2, uO_o, uO_1, up0, up00, uI67, ne_eq, Nat.reduceEqDiff, lg_self, String.reduceEq, false_and, or_false, false_or, and_self, f3, z00, i1, i2, mX, wpX5_quit, wpX5_quit_B38, nk32, e20, le20, e2s, e30, le30, e10, uA_ne, uA_same, uA_2]
    exact ⟨v, hR.s67 _, hJ.mono⟩
