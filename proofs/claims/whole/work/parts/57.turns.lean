set_option maxHeartbeats 1000000 in
theorem st_5 {xs : Nat → Int32} {L t : Nat} {w : St} (hL : L ≤ 2560) (h5 : 5 * t + 5 ≤ L) (hI : Inv t w) : wpL_C5 xs L (nI (5 * t)) w (Inv (t + 1)) := by
  obtain ⟨v, hR, hJ⟩ := hI
  have f3 : vp_in 0 1 := inN (a := 0) (by decide) (by decide)
  have z00 : (0 : Int32).toNatClampNeg = 0 := rfl
  have i1 : vp_in (nI (5 * t) + 1) L := inL (k := 1) h5 hL (by decide)
  unfold wpL_C5
  generalize e1 : xs (nI (5 * t) + 1).toNatClampNeg = p1
  rcases ixc p1 5 (by decide) with ⟨a, ha, rfl⟩ | hb1
  · have f1a : vp_in (nI a) 5 := inN ha (by decide)
    have f2a : (nI a).toNatClampNeg = a := clN (by omega)
    obtain ⟨n, hn, en⟩ := hJ.tmN a ha
    have ht : t < 512 := by omega
    by_cases z : v.dn a = 0
    · try simp only [true_and, and_true, forall_eq, forall_const, true_implies, false_implies, not_true_eq_false, not_false_eq_true, le00, le10, e10, e01, eq_self, ck1, ck0, wpX5_thrown, uI_same, uI_2, uO_o, uO_1, up0, up00, uI67, ne_eq, Nat.reduceEqDiff, lg_self, String.reduceEq, false_and, or_false, false_or, and_self, f3, z00, i1, f1a, f2a, ckM ha, wpL_stand, wpX4_stand, wpX5_stand, hR.cdn, z, uA_ne, uA_same, uA_2]
      refine sp_X3_holdVote ha (by omega : n < 512) (by rw [hR.ctm]; exact en) ?_ ?_
      · intro hv
        simp only [true_and, and_true, forall_eq, forall_const, true_implies, false_implies, not_true_eq_false, not_false_eq_true, le00, le10, e10, e01, eq_self, ck1, ck0, wpX5_thrown, uI_same, uI_2, uO_o, uO_1, up0, up00, uI67, ne_eq, Nat.reduceEqDiff, lg_self, String.reduceEq, false_and, or_false, false_or, and_self, f3, z00, hR.cdn, hR.ccu, hR.ckn, hR.ctm, hR.cwi, hR.mdn, hR.mcu, hR.mkn, hR.mtm, hR.mld, hR.mle, uA_ne, uA_same, uA_2] at hv ⊢
        try simp only [true_and, and_true, forall_eq, forall_const, true_implies, false_implies, not_true_eq_false, not_false_eq_true, le00, le10, e10, e01, eq_self, ck1, ck0, wpX5_thrown, uI_same, uI_2, uO_o, uO_1, up0, up00, uI67, ne_eq, Nat.reduceEqDiff, lg_self, String.reduceEq, false_and, or_false, false_or, and_self, f3, z00, i1, f1a, f2a, imM ha, wpX5_stand, wpX5_stand_B26, hR.cdn, hR.ccu, hR.ckn, hR.ctm, hR.cwi, hR.mdn, hR.mcu, hR.mkn, hR.mtm, hR.mld, hR.mle, z, en, nI_1, uA_ne, uA_same, uA_2]
        refine sp_X5_standL ha (by omega : n < 512) (upd v.tm a (nI (n + 1))) (by rw [upd_e, if_pos rfl]) (by try simp only [true_and, and_true, forall_eq, forall_const, true_implies, false_implies, not_true_eq_false, not_false_eq_true, le00, le10, e10, e01, eq_self, ck1, ck0, wpX5_thrown, uI_same, uI_2, uO_o, uO_1, up0, up00, uI67, ne_eq, Nat.reduceEqDiff, lg_self, String.reduceEq, false_and, or_false, false_or, and_self, f3, z00, uA_ne, uA_ne, uA_same, uA_2]) ?_ ?_
        · intro hv2
          simp only [true_and, and_true, forall_eq, forall_const, true_implies, false_implies, not_true_eq_false, not_false_eq_true, le00, le10, e10, e01, eq_self, ck1, ck0, wpX5_thrown, uI_same, uI_2, uO_o, uO_1, up0, up00, uI67, ne_eq, Nat.reduceEqDiff, lg_self, String.reduceEq, false_and, or_false, false_or, and_self, f3, z00, hR.cdn, hR.ccu, hR.ckn, hR.ctm, hR.cwi, hR.mdn, hR.mcu, hR.mkn, hR.mtm, hR.mld, hR.mle, uA_ne, uA_same, uA_2] at hv2 ⊢
          try simp only [true_and, and_true, forall_eq, forall_const, true_implies, false_implies, not_true_eq_false, not_false_eq_true, le00, le10, e10, e01, eq_self, ck1, ck0, wpX5_thrown, uI_same, uI_2, uO_o, uO_1, up0, up00, uI67, ne_eq, Nat.reduceEqDiff, lg_self, String.reduceEq, false_and, or_false, false_or, and_self, f3, z00, uA_uA, uA_ne, uA_same, uA_2]
          exact ⟨_, R.fin ((((hR.sc_tm _).sO _).s67 _).sm_tm _) rfl, hJ.term_up (by omega) _ (hJ.standT ht ha hn en) (by omega)⟩
        · intro hv2
          simp only [true_and, and_true, forall_eq, forall_const, true_implies, false_implies, not_true_eq_false, not_false_eq_true, le00, le10, e10, e01, eq_self, ck1, ck0, wpX5_thrown, uI_same, uI_2, uO_o, uO_1, up0, up00, uI67, ne_eq, Nat.reduceEqDiff, lg_self, String.reduceEq, false_and, or_false, false_or, and_self, f3, z00, hR.cdn, hR.ccu, hR.ckn, hR.ctm, hR.cwi, hR.mdn, hR.mcu, hR.mkn, hR.mtm, hR.mld, hR.mle, uA_ne, uA_same, uA_2] at hv2 ⊢
          omega
      · intro hv
        simp only [true_and, and_true, forall_eq, forall_const, true_implies, false_implies, not_true_eq_false, not_false_eq_true, le00, le10, e10, e01, eq_self, ck1, ck0, wpX5_thrown, uI_same, uI_2, uO_o, uO_1, up0, up00, uI67, ne_eq, Nat.reduceEqDiff, lg_self, String.reduceEq, false_and, or_false, false_or, and_self, f3, z00, hR.cdn, hR.ccu, hR.ckn, hR.ctm, hR.cwi, hR.mdn, hR.mcu, hR.mkn, hR.mtm, hR.mld, hR.mle, uA_ne, uA_same, uA_2] at hv ⊢
        try simp only [true_and, and_true, forall_eq, forall_const, true_implies, false_implies, not_true_eq_false, not_false_eq_true, le00, le10, e10, e01, eq_self, ck1, ck0, wpX5_thrown, uI_same, uI_2, uO_o, uO_1, up0, up00, uI67, ne_eq, Nat.reduceEqDiff, lg_self, String.reduceEq, false_and, or_false, false_or, and_self, f3, z00, i1, f1a, f2a, imM ha, wpX5_stand, wpX5_stand_B26, hR.cdn, hR.ccu, hR.ckn, hR.ctm, hR.cwi, hR.mdn, hR.mcu, hR.mkn, hR.mtm, hR.mld, hR.mle, z, en, nI_1, uA_ne, uA_same, uA_2]
        refine sp_X5_standL ha (by omega : n < 512) (upd v.tm a (nI (n + 1))) (by rw [upd_e, if_pos rfl]) (by try simp only [true_and, and_true, forall_eq, forall_const, true_implies, false_implies, not_true_eq_false, not_false_eq_true, le00, le10, e10, e01, eq_self, ck1, ck0, wpX5_thrown, uI_same, uI_2, uO_o, uO_1, up0, up00, uI67, ne_eq, Nat.reduceEqDiff, lg_self, String.reduceEq, false_and, or_false, false_or, and_self, f3, z00, uA_ne, uA_ne, uA_same, uA_2]) ?_ ?_
        · intro hv2
          simp only [true_and, and_true, forall_eq, forall_const, true_implies, false_implies, not_true_eq_false, not_false_eq_true, le00, le10, e10, e01, eq_self, ck1, ck0, wpX5_thrown, uI_same, uI_2, uO_o, uO_1, up0, up00, uI67, ne_eq, Nat.reduceEqDiff, lg_self, String.reduceEq, false_and, or_false, false_or, and_self, f3, z00, hR.cdn, hR.ccu, hR.ckn, hR.ctm, hR.cwi, hR.mdn, hR.mcu, hR.mkn, hR.mtm, hR.mld, hR.mle, uA_ne, uA_same, uA_2] at hv2 ⊢
          omega
        · intro hv2
          simp only [true_and, and_true, forall_eq, forall_const, true_implies, false_implies, not_true_eq_false, not_false_eq_true, le00, le10, e10, e01, eq_self, ck1, ck0, wpX5_thrown, uI_same, uI_2, uO_o, uO_1, up0, up00, uI67, ne_eq, Nat.reduceEqDiff, lg_self, String.reduceEq, false_and, or_false, false_or, and_self, f3, z00, hR.cdn, hR.ccu, hR.ckn, hR.ctm, hR.cwi, hR.mdn, hR.mcu, hR.mkn, hR.mtm, hR.mld, hR.mle, uA_ne, uA_same, uA_2] at hv2 ⊢
          try simp only [true_and, and_true, forall_eq, forall_const, true_implies, false_implies, not_true_eq_false, not_false_eq_true, le00, le10, e10, e01, eq_self, ck1, ck0, wpX5_thrown, uI_same, uI_2, uO_o, uO_1, up0, up00, uI67, ne_eq, Nat.reduceEqDiff, lg_self, String.reduceEq, false_and, or_false, false_or, and_self, f3, z00, uA_uA, uA_ne, uA_same, uA_2]
          exact ⟨_, R.fin ((((((hR.sc_tm _).sc_wi _).sO _).s67 _).sm_tm _).sm_ld _ |>.sm_le _) rfl, hJ.stand1 ht ha hn en hv⟩
    · try simp only [true_and, and_true, forall_eq, forall_const, true_implies, false_implies, not_true_eq_false, not_false_eq_true, le00, le10, e10, e01, eq_self, ck1, ck0, wpX5_thrown, uI_same, uI_2, uO_o, uO_1, up0, up00, uI67, ne_eq, Nat.reduceEqDiff, lg_self, String.reduceEq, false_and, or_false, false_or, and_self, f3, z00, i1, f1a, f2a, ckM ha, imM ha, wpL_stand, wpX4_stand, wpX5_stand, wpX5_stand_B26, hR.cdn, hR.mdn, z, e20, le20, e2s, uA_ne, uA_same, uA_2]
      exact ⟨v, hR.s67 _, hJ.mono⟩
  · try simp only [true_and, and_true, forall_eq, forall_const, true_implies, false_implies, not_true_eq_false, not_false_eq_true, le00, le10, e10, e01, eq_self, ck1, ck0, wpX5_thrown, uI_same, uI_2, uO_o, uO_1, up0, up00, uI67, ne_eq, Nat.reduceEqDiff, lg_self, String.reduceEq, false_and, or_false, false_or, and_self, f3, z00, i1, ckM' hb1, imM' hb1, wpL_stand, wpX4_stand, wpX5_stand, wpX5_stand_B26, uA_ne, uA_same, uA_2]
    exact ⟨v, hR.s67 _, hJ.mono⟩
