set_option maxHeartbeats 1000000 in
theorem st_20 {xs : Nat → Int32} {L t : Nat} {w : St} (hL : L ≤ 2560) (h5 : 5 * t + 5 ≤ L) (hI : Inv t w) : wpL_C20 xs L (nI (5 * t)) w (Inv (t + 1)) := by
  obtain ⟨v, hR, hJ⟩ := hI
  have f3 : vp_in 0 1 := inN (a := 0) (by decide) (by decide)
  have z00 : (0 : Int32).toNatClampNeg = 0 := rfl
  have i1 : vp_in (nI (5 * t) + 1) L := inL (k := 1) h5 hL (by decide)
  have i2 : vp_in (nI (5 * t) + 2) L := inL (k := 2) h5 hL (by decide)
  have i3 : vp_in (nI (5 * t) + 3) L := inL (k := 3) h5 hL (by decide)
  unfold wpL_C20
  generalize e1 : xs (nI (5 * t) + 1).toNatClampNeg = p1
  generalize e2 : xs (nI (5 * t) + 2).toNatClampNeg = p2
  generalize e3 : xs (nI (5 * t) + 3).toNatClampNeg = p3
  rcases ixc p1 v.nc (by have := hJ.nc6; omega) with ⟨c, hc, rfl⟩ | hb1
  · have hn6 := hJ.nc6
    have hc6 : c < 6 := by omega
    have f1c : vp_in (nI c) 6 := inN hc6 (by decide)
    have f2c : (nI c).toNatClampNeg = c := clN (by omega)
    have cO : ∀ P px, wpX4_checkClient (nI c) w P px ↔ P w := fun P px => ckC hn6 hR.cnc hc
    have mO' : ∀ P, wpX5_isClient (nI c) w P ↔ P 1 w := fun P => imC hn6 hR.mnc hc
    rcases ixc p2 4 (by decide) with ⟨l, hl, rfl⟩ | hb2
    · have f1l : vp_in (nI l) 4 := inN hl (by decide)
      have f2l : (nI l).toNatClampNeg = l := clN (by omega)
      rcases ixc p3 5 (by decide) with ⟨m, hm, rfl⟩ | hb3
      · have ht : t < 512 := by omega
        have hn := hJ.ne250
        have f1m : vp_in (nI m) 5 := inN hm (by decide)
        have f2m : (nI m).toNatClampNeg = m := clN (by omega)
        try simp only [true_and, and_true, forall_eq, forall_const, true_implies, false_implies, not_true_eq_false, not_false_eq_true, le00, le10, e10, e01, eq_self, ck1, ck0, wpX5_thrown, uI_same, uI_2, uO_o, uO_1, up0, up00, uI67, ne_eq, Nat.reduceEqDiff, lg_self, String.reduceEq, false_and, or_false, false_or, and_self, f3, z00, i1, i2, i3, cO, ckL hl, ckM hm, wpL_read, wpX4_read, wpX5_wrongAsk, wpX5_wrongAsk_B24, wpX4_checkNumbers, sp_X4_canAsk hc6 hm hn hR.cne, hR.cpa, hR.cdn, hR.cwi, hR.ctm, hR.ccu, hR.mpa, hR.mdn, hR.mld, hR.mtm, hR.mcu, uA_ne, uA_same, uA_2]
        cases hcan : can (v.pa c) (v.dn m) (decide (wof v.wi (v.tm m) = nI m)) v.ne with
        | false =>
          refine ⟨fun q => absurd q (by decide), fun _ => ?_⟩
          try simp only [true_and, and_true, forall_eq, forall_const, true_implies, false_implies, not_true_eq_false, not_false_eq_true, le00, le10, e10, e01, eq_self, ck1, ck0, wpX5_thrown, uI_same, uI_2, uO_o, uO_1, up0, up00, uI67, ne_eq, Nat.reduceEqDiff, lg_self, String.reduceEq, false_and, or_false, false_or, and_self, f3, z00, i1, i2, i3, mO', imL hl, imM hm, wpX5_read, wpX5_read_B32, wpX5_wrongAsk, wpX5_wrongAsk_B24, wpX4_checkNumbers, nk32, e20, le20, e2s, e30, le30, e10, uA_ne, uA_same, uA_2]
          rw [sp_X5_cannotAsk hc6 hm hn (hR.s67 0).mne]
          try simp only [true_and, and_true, forall_eq, forall_const, true_implies, false_implies, not_true_eq_false, not_false_eq_true, le00, le10, e10, e01, eq_self, ck1, ck0, wpX5_thrown, uI_same, uI_2, uO_o, uO_1, up0, up00, uI67, ne_eq, Nat.reduceEqDiff, lg_self, String.reduceEq, false_and, or_false, false_or, and_self, f3, z00, hR.cpa, hR.cdn, hR.cwi, hR.ctm, hR.ccu, hR.mpa, hR.mdn, hR.mld, hR.mtm, hR.mcu, lead_eq hJ ht hm, hcan, Bool.not_false, bIt, wpX5_read, wpX5_read_B32, nk32, e20, le20, e2s, e30, le30, e10, uA_ne, uA_same, uA_2]
          exact ⟨v, (hR.s67 _).s67 _, hJ.mono⟩
        | true =>
          refine ⟨fun _ => ?_, fun q => absurd q (by decide)⟩
          have hne : v.ne < 250 := by simp only [can, Bool.and_eq_true, decide_eq_true_eq] at hcan; exact hcan.2.2.2
          have hJ1 := hJ.term_up (Nat.le_refl t) _ (asked hJ hm) (by omega)
          refine sp_X3_consult hm ?_
          try simp only [true_and, and_true, forall_eq, forall_const, true_implies, false_implies, not_true_eq_false, not_false_eq_true, le00, le10, e10, e01, eq_self, ck1, ck0, wpX5_thrown, uI_same, uI_2, uO_o, uO_1, up0, up00, uI67, ne_eq, Nat.reduceEqDiff, lg_self, String.reduceEq, false_and, or_false, false_or, and_self, f3, z00, hR.cpa, hR.cdn, hR.cwi, hR.ctm, hR.ccu, hR.mpa, hR.mdn, hR.mld, hR.mtm, hR.mcu, uA_ne, uA_same, uA_2]
          have hR1 := hR.sc_tm (csT v.dn v.cu v.tm m)
          generalize hw1 : uA w 3 (csT v.dn v.cu v.tm m) = w1 at hR1 ⊢
          by_cases hg : csR v.dn v.cu v.tm m = 103
          · obtain ⟨hq, hTm, hTr⟩ := asked_g hm hg
            have hT : ∀ i, i < 5 → rch v.dn v.cu m i = true → csT v.dn v.cu v.tm m i = csT v.dn v.cu v.tm m m := fun i hi r => (hTr i hi r).trans hTm.symm
            try simp only [true_and, and_true, forall_eq, forall_const, true_implies, false_implies, not_true_eq_false, not_false_eq_true, le00, le10, e10, e01, eq_self, ck1, ck0, wpX5_thrown, uI_same, uI_2, uO_o, uO_1, up0, up00, uI67, ne_eq, Nat.reduceEqDiff, lg_self, String.reduceEq, false_and, or_false, false_or, and_self, f3, z00, hg, f1l, f2l, wpL_read, wpX4_read, uA_ne, uA_same, uA_2]
            rw [hR.cva, hR.cnow]
            refine RC_keep hR1 hc6 hl (fun w1k hRC => ?_)
            try simp only [true_and, and_true, forall_eq, forall_const, true_implies, false_implies, not_true_eq_false, not_false_eq_true, le00, le10, e10, e01, eq_self, ck1, ck0, wpX5_thrown, uI_same, uI_2, uO_o, uO_1, up0, up00, uI67, ne_eq, Nat.reduceEqDiff, lg_self, String.reduceEq, false_and, or_false, false_or, and_self, f3, z00, nk103, i1, i2, i3, uA_ne, uA_same, uA_2]
            generalize hw2 : uO _ _ = w2
            have hR2 : R (V.kpv (V.s_tm v (csT v.dn v.cu v.tm m)) c l) v w2 := by rw [← hw2]; exact hRC.sO _
            have ho2 : w2.2.2.1 0 = (103 : Int32).toInt64 := by rw [← hw2, uO_o, up00]
            have mO2 : ∀ P, wpX5_isClient (nI c) w2 P ↔ P 1 w2 := fun P => imC hn6 hR2.mnc hc
            try simp only [true_and, and_true, forall_eq, forall_const, true_implies, false_implies, not_true_eq_false, not_false_eq_true, le00, le10, e10, e01, eq_self, ck1, ck0, wpX5_thrown, uI_same, uI_2, uO_o, uO_1, up0, up00, uI67, ne_eq, Nat.reduceEqDiff, lg_self, String.reduceEq, false_and, or_false, false_or, and_self, f3, z00, i1, i2, i3, mO2, imL hl, imM hm, wpX5_read, wpX5_read_B32, wpX5_wrongAsk, wpX5_wrongAsk_B24, nk32, e20, le20, e2s, e30, le30, e10, uA_ne, uA_same, uA_2]
            rw [sp_X5_cannotAsk hc6 hm hn (hR2.s67 0).mne]
            try simp only [true_and, and_true, forall_eq, forall_const, true_implies, false_implies, not_true_eq_false, not_false_eq_true, le00, le10, e10, e01, eq_self, ck1, ck0, wpX5_thrown, uI_same, uI_2, uO_o, uO_1, up0, up00, uI67, ne_eq, Nat.reduceEqDiff, lg_self, String.reduceEq, false_and, or_false, false_or, and_self, f3, z00, hR2.mpa, hR2.mdn, hR2.mld, hR2.mtm, lead_eq hJ ht hm, hcan, Bool.not_true, bIf, wpX5_read, wpX5_read_B32, nk32, e20, le20, e2s, e30, le30, e10, uA_ne, uA_same, uA_2]
            refine sp_X5_looks hm ?_
            try simp only [true_and, and_true, forall_eq, forall_const, true_implies, false_implies, not_true_eq_false, not_false_eq_true, le00, le10, e10, e01, eq_self, ck1, ck0, wpX5_thrown, uI_same, uI_2, uO_o, uO_1, up0, up00, uI67, ne_eq, Nat.reduceEqDiff, lg_self, String.reduceEq, false_and, or_false, false_or, and_self, f3, z00, hR2.mdn, hR2.mcu, hR2.mtm, hg, if_true, uA_ne, uA_same, uA_2]
            have hR3 := (hR2.s67 0).sm_tm (csT v.dn v.cu v.tm m)
            generalize hw3 : uA (uI w2 67 0) 39 (csT v.dn v.cu v.tm m) = w3 at hR3 ⊢
            have m3ks : w3.1 38 = v.ks := hR3.mks
            have m3kc : w3.1 45 = v.kc := hR3.mkc
            have m3kv : w3.1 46 = v.kv := hR3.mkv
            have m3va : w3.1 52 = v.va := hR3.mva
            have m3ku : w3.1 47 = v.ku := hR3.mku
            have m3of : w3.1 43 = v.of := hR3.mof
            have m3now : w3.1 68 0 = nI v.now := hR3.mnow
            have m3ow : w3.1 48 = v.ow := hR3.mow
            have m3en : w3.1 49 = v.en := hR3.men
            have m3th : w3.1 51 = v.th := hR3.mth
            have m3wt : w3.1 54 = v.wt := hR3.mwt
            have m3gr : w3.1 50 = v.gr := hR3.mgr
            have m3lm : w3.2.1 1 = v.lm := hR3.mlm
            have m3ls : w3.1 37 = v.ls := hR3.mls
            have k67 : w3.1 67 0 = 0 := by rw [← hw3, uA_ne _ _ (by decide)]; exact uI_same _ _ _ _
            have ho3 : w3.2.2.1 0 = (103 : Int32).toInt64 := by rw [← hw3]; exact ho2
            have e1 := clN (n := c * 4 + l) (by omega)
            have j1 := inN (show c * 4 + l < 24 by omega) (show 24 < 2147483648 by decide)
            try simp only [true_and, and_true, forall_eq, forall_const, true_implies, false_implies, not_true_eq_false, not_false_eq_true, le00, le10, e10, e01, eq_self, ck1, ck0, wpX5_thrown, uI_same, uI_2, uO_o, uO_1, up0, up00, uI67, ne_eq, Nat.reduceEqDiff, lg_self, String.reduceEq, false_and, or_false, false_or, and_self, f3, z00, wpX5_at, wpX5_clock, ix4', e1, j1, f1l, f2l, f1c, f2c, nar1, m3ks, m3kc, m3kv, m3va, m3ku, m3of, m3now, nw10, k67, ho3, uA_ne, uA_same, uA_2]
            exact ⟨_, R.fin ((((hR3.sm_ks _).sm_kc _).sm_kv _).sm_ku _) rfl, (hJ1.kpv c l).mono⟩
          · have nk : (narrow .char (.int (csR v.dn v.cu v.tm m)) = .int (csR v.dn v.cu v.tm m)) = True := by
              rcases csR_cases v.dn v.cu v.tm m with h | h | h <;> rw [h] <;> decide
            have n45 : (csR v.dn v.cu v.tm m = 45) = False := by
              rcases csR_cases v.dn v.cu v.tm m with h | h | h <;> rw [h] <;> decide
            try simp only [true_and, and_true, forall_eq, forall_const, true_implies, false_implies, not_true_eq_false, not_false_eq_true, le00, le10, e10, e01, eq_self, ck1, ck0, wpX5_thrown, uI_same, uI_2, uO_o, uO_1, up0, up00, uI67, ne_eq, Nat.reduceEqDiff, lg_self, String.reduceEq, false_and, or_false, false_or, and_self, f3, z00, hg, nk, i1, i2, i3, wpL_read, wpX4_read, uA_ne, uA_same, uA_2]
            generalize hw2 : uO w1 _ = w2
            have hR2 : R (V.s_tm v (csT v.dn v.cu v.tm m)) v w2 := by rw [← hw2]; exact hR1.sO _
            have ho2 : w2.2.2.1 0 = (csR v.dn v.cu v.tm m).toInt64 := by rw [← hw2, uO_o, up00]
            have mO2 : ∀ P, wpX5_isClient (nI c) w2 P ↔ P 1 w2 := fun P => imC hn6 hR2.mnc hc
            try simp only [true_and, and_true, forall_eq, forall_const, true_implies, false_implies, not_true_eq_false, not_false_eq_true, le00, le10, e10, e01, eq_self, ck1, ck0, wpX5_thrown, uI_same, uI_2, uO_o, uO_1, up0, up00, uI67, ne_eq, Nat.reduceEqDiff, lg_self, String.reduceEq, false_and, or_false, false_or, and_self, f3, z00, i1, i2, i3, mO2, imL hl, imM hm, wpX5_read, wpX5_read_B32, wpX5_wrongAsk, wpX5_wrongAsk_B24, wpX4_checkNumbers, nk32, e20, le20, e2s, e30, le30, e10, uA_ne, uA_same, uA_2]
            rw [sp_X5_cannotAsk hc6 hm hn (hR2.s67 0).mne]
            try simp only [true_and, and_true, forall_eq, forall_const, true_implies, false_implies, not_true_eq_false, not_false_eq_true, le00, le10, e10, e01, eq_self, ck1, ck0, wpX5_thrown, uI_same, uI_2, uO_o, uO_1, up0, up00, uI67, ne_eq, Nat.reduceEqDiff, lg_self, String.reduceEq, false_and, or_false, false_or, and_self, f3, z00, hR2.mpa, hR2.mdn, hR2.mld, hR2.mtm, lead_eq hJ ht hm, hcan, Bool.not_true, bIf, wpX5_read, wpX5_read_B32, nk32, e20, le20, e2s, e30, le30, e10, uA_ne, uA_same, uA_2]
            refine sp_X5_looks hm ?_
            try simp only [true_and, and_true, forall_eq, forall_const, true_implies, false_implies, not_true_eq_false, not_false_eq_true, le00, le10, e10, e01, eq_self, ck1, ck0, wpX5_thrown, uI_same, uI_2, uO_o, uO_1, up0, up00, uI67, ne_eq, Nat.reduceEqDiff, lg_self, String.reduceEq, false_and, or_false, false_or, and_self, f3, z00, hR2.mdn, hR2.mcu, hR2.mtm, hg, if_false, n45, nk, ho2, uA_ne, uA_same, uA_2]
            exact ⟨_, R.fin ((hR2.s67 0).sm_tm (csT v.dn v.cu v.tm m)) rfl, hJ1.mono⟩
      · try simp only [true_and, and_true, forall_eq, forall_const, true_implies, false_implies, not_true_eq_false, not_false_eq_true, le00, le10, e10, e01, eq_self, ck1, ck0, wpX5_thrown, uI_same, uI_2, uO_o, uO_1, up0, up00, uI67, ne_eq, Nat.reduceEqDiff, lg_self, String.reduceEq, false_and, or_false, false_or, and_self, f3, z00, i1, i2, i3, cO, ckL hl, ckM' hb3, wpL_read, wpX4_read, wpX5_wrongAsk, wpX5_wrongAsk_B24, wpX4_checkNumbers, uA_ne, uA_same, uA_2]
        try simp only [true_and, and_true, forall_eq, forall_const, true_implies, false_implies, not_true_eq_false, not_false_eq_true, le00, le10, e10, e01, eq_self, ck1, ck0, wpX5_thrown, uI_same, uI_2, uO_o, uO_1, up0, up00, uI67, ne_eq, Nat.reduceEqDiff, lg_self, String.reduceEq, false_and, or_false, false_or, and_self, f3, z00, i1, i2, i3, mO', imL hl, imM' hb3, wpX5_read, wpX5_read_B32, wpX5_wrongAsk, wpX5_wrongAsk_B24, wpX4_checkNumbers, nk32, e20, le20, e2s, e30, le30, e10, uA_ne, uA_same, uA_2]
        exact ⟨v, hR.s67 _, hJ.mono⟩
    · try simp only [true_and, and_true, forall_eq, forall_const, true_implies, false_implies, not_true_eq_false, not_false_eq_true, le00, le10, e10, e01, eq_self, ck1, ck0, wpX5_thrown, uI_same, uI_2, uO_o, uO_1, up0, up00, uI67, ne_eq, Nat.reduceEqDiff, lg_self, String.reduceEq, false_and, or_false, false_or, and_self, f3, z00, i1, i2, i3, cO, ckL' hb2, wpL_read, wpX4_read, wpX5_wrongAsk, wpX5_wrongAsk_B24, wpX4_checkNumbers, uA_ne, uA_same, uA_2]
      try simp only [true_and, and_true, forall_eq, forall_const, true_implies, false_implies, not_true_eq_false, not_false_eq_true, le00, le10, e10, e01, eq_self, ck1, ck0, wpX5_thrown, uI_same, uI_2, uO_o, uO_1, up0, up00, uI67, ne_eq, Nat.reduceEqDiff, lg_self, String.reduceEq, false_and, or_false, false_or, and_self, f3, z00, i1, i2, i3, mO', imL' hb2, wpX5_read, wpX5_read_B32, wpX5_wrongAsk, wpX5_wrongAsk_B24, wpX4_checkNumbers, nk32, e20, le20, e2s, e30, le30, e10, uA_ne, uA_same, uA_2]
      exact ⟨v, hR.s67 _, hJ.mono⟩
  · have hn6 := hJ.nc6
    have cX : ∀ P px, wpX4_checkClient p1 w P px ↔ px "java/util/NoSuchElementException" w := fun P px => ckC' hR.cnc hb1
    have mX : ∀ P, wpX5_isClient p1 w P ↔ P 0 w := fun P => imC' hn6 hR.mnc hb1
    try simp only [true_and, and_true, forall_eq, forall_const, true_implies, false_implies, not_true_eq_false, not_false_eq_true, le00, le10, e10, e01, eq_self, ck1, ck0, wpX5_thrown, uI_same, uI_2, uO_o, uO_1, up0, up00, uI67, ne_eq, Nat.reduceEqDiff, lg_self, String.reduceEq, false_and, or_false, false_or, and_self, f3, z00, i1, i2, i3, cX, wpL_read, wpX4_read, wpX5_wrongAsk, wpX5_wrongAsk_B24, wpX4_checkNumbers, uA_ne, uA_same, uA_2]
    try simp only [true_and, and_true, forall_eq, forall_const, true_implies, false_implies, not_true_eq_false, not_false_eq_true, le00, le10, e10, e01, eq_self, ck1, ck0, wpX5_thrown, uI_same, uI_2, uO_o, uO_1, up0, up00, uI67, ne_eq, Nat.reduceEqDiff, lg_self, String.reduceEq, false_and, or_false, false_or, and_self, f3, z00, i1, i2, i3, mX, wpX5_read, wpX5_read_B32, wpX5_wrongAsk, wpX5_wrongAsk_B24, wpX4_checkNumbers, nk32, e20, le20, e2s, e30, le30, e10, uA_ne, uA_same, uA_2]
    exact ⟨v, hR.s67 _, hJ.mono⟩
set_option maxHeartbeats 1000000 in
theorem st_17 {xs : Nat → Int32} {L t : Nat} {w : St} (hL : L ≤ 2560) (h5 : 5 * t + 5 ≤ L) (hI : Inv t w) : wpL_C17 xs L (nI (5 * t)) w (Inv (t + 1)) := by
  obtain ⟨v, hR, hJ⟩ := hI
  have f3 : vp_in 0 1 := inN (a := 0) (by decide) (by decide)
  have z00 : (0 : Int32).toNatClampNeg = 0 := rfl
  have i1 : vp_in (nI (5 * t) + 1) L := inL (k := 1) h5 hL (by decide)
  have i2 : vp_in (nI (5 * t) + 2) L := inL (k := 2) h5 hL (by decide)
  have i3 : vp_in (nI (5 * t) + 3) L := inL (k := 3) h5 hL (by decide)
  unfold wpL_C17
  generalize e1 : xs (nI (5 * t) + 1).toNatClampNeg = p1
  generalize e2 : xs (nI (5 * t) + 2).toNatClampNeg = p2
  generalize e3 : xs (nI (5 * t) + 3).toNatClampNeg = p3
  rcases ixc p1 v.nc (by have := hJ.nc6; omega) with ⟨c, hc, rfl⟩ | hb1
  · have hn6 := hJ.nc6
    have hc6 : c < 6 := by omega
    have f1c : vp_in (nI c) 6 := inN hc6 (by decide)
    have f2c : (nI c).toNatClampNeg = c := clN (by omega)
    have cO : ∀ P px, wpX4_checkClient (nI c) w P px ↔ P w := fun P px => ckC hn6 hR.cnc hc
    have mO' : ∀ P, wpX5_isClient (nI c) w P ↔ P 1 w := fun P => imC hn6 hR.mnc hc
    rcases ixc p2 4 (by decide) with ⟨l, hl, rfl⟩ | hb2
    · have f1l : vp_in (nI l) 4 := inN hl (by decide)
      have f2l : (nI l).toNatClampNeg = l := clN (by omega)
      rcases ixc p3 5 (by decide) with ⟨m, hm, rfl⟩ | hb3
      · have ht : t < 512 := by omega
        have hn := hJ.ne250
        have f1m : vp_in (nI m) 5 := inN hm (by decide)
        have f2m : (nI m).toNatClampNeg = m := clN (by omega)
        try simp only [true_and, and_true, forall_eq, forall_const, true_implies, false_implies, not_true_eq_false, not_false_eq_true, le00, le10, e10, e01, eq_self, ck1, ck0, wpX5_thrown, uI_same, uI_2, uO_o, uO_1, up0, up00, uI67, ne_eq, Nat.reduceEqDiff, lg_self, String.reduceEq, false_and, or_false, false_or, and_self, f3, z00, i1, i2, i3, cO, ckL hl, ckM hm, wpL_renew, wpX4_renew, wpX4_askAsOwner, wpX5_wrongAsk, wpX5_wrongAsk_B24, wpX4_checkNumbers, sp_X4_canAsk hc6 hm hn hR.cne, hR.cpa, hR.cdn, hR.cwi, hR.ctm, hR.ccu, hR.mpa, hR.mdn, hR.mld, hR.mtm, hR.mcu, uA_ne, uA_same, uA_2]
        cases hcan : can (v.pa c) (v.dn m) (decide (wof v.wi (v.tm m) = nI m)) v.ne with
        | false =>
          refine ⟨fun q => absurd q (by decide), fun _ => ?_⟩
          try simp only [true_and, and_true, forall_eq, forall_const, true_implies, false_implies, not_true_eq_false, not_false_eq_true, le00, le10, e10, e01, eq_self, ck1, ck0, wpX5_thrown, uI_same, uI_2, uO_o, uO_1, up0, up00, uI67, ne_eq, Nat.reduceEqDiff, lg_self, String.reduceEq, false_and, or_false, false_or, and_self, f3, z00, i1, i2, i3, mO', imL hl, imM hm, wpX5_renew, wpX5_renew_B32, wpX5_wrongAsk, wpX5_wrongAsk_B24, wpX4_checkNumbers, nk32, e20, le20, e2s, e30, le30, e10, uA_ne, uA_same, uA_2]
          rw [sp_X5_cannotAsk hc6 hm hn (hR.s67 0).mne]
          try simp only [true_and, and_true, forall_eq, forall_const, true_implies, false_implies, not_true_eq_false, not_false_eq_true, le00, le10, e10, e01, eq_self, ck1, ck0, wpX5_thrown, uI_same, uI_2, uO_o, uO_1, up0, up00, uI67, ne_eq, Nat.reduceEqDiff, lg_self, String.reduceEq, false_and, or_false, false_or, and_self, f3, z00, hR.cpa, hR.cdn, hR.cwi, hR.ctm, hR.ccu, hR.mpa, hR.mdn, hR.mld, hR.mtm, hR.mcu, lead_eq hJ ht hm, hcan, Bool.not_false, bIt, wpX5_renew, wpX5_renew_B32, nk32, e20, le20, e2s, e30, le30, e10, uA_ne, uA_same, uA_2]
          exact ⟨v, (hR.s67 _).s67 _, hJ.mono⟩
        | true =>
          refine ⟨fun _ => ?_, fun q => absurd q (by decide)⟩
          have hne : v.ne < 250 := by simp only [can, Bool.and_eq_true, decide_eq_true_eq] at hcan; exact hcan.2.2.2
          have hJ1 := hJ.term_up (Nat.le_refl t) _ (asked hJ hm) (by omega)
          refine sp_X3_consult hm ?_
          try simp only [true_and, and_true, forall_eq, forall_const, true_implies, false_implies, not_true_eq_false, not_false_eq_true, le00, le10, e10, e01, eq_self, ck1, ck0, wpX5_thrown, uI_same, uI_2, uO_o, uO_1, up0, up00, uI67, ne_eq, Nat.reduceEqDiff, lg_self, String.reduceEq, false_and, or_false, false_or, and_self, f3, z00, hR.cpa, hR.cdn, hR.cwi, hR.ctm, hR.ccu, hR.mpa, hR.mdn, hR.mld, hR.mtm, hR.mcu, uA_ne, uA_same, uA_2]
          have hR1 := hR.sc_tm (csT v.dn v.cu v.tm m)
          generalize hw1 : uA w 3 (csT v.dn v.cu v.tm m) = w1 at hR1 ⊢
          by_cases hg : csR v.dn v.cu v.tm m = 103
          · obtain ⟨hq, hTm, hTr⟩ := asked_g hm hg
            have hT : ∀ i, i < 5 → rch v.dn v.cu m i = true → csT v.dn v.cu v.tm m i = csT v.dn v.cu v.tm m m := fun i hi r => (hTr i hi r).trans hTm.symm
            have m1ow : w1.1 14 = v.ow := hR1.cow
            have m1en : w1.1 15 = v.en := hR1.cen
            have m1th : w1.1 16 = v.th := hR1.cth
            have m1now : w1.1 64 0 = nI v.now := hR1.cnow
            have m1wt : w1.1 18 = v.wt := hR1.cwt
            have m1nc : w1.1 66 0 = nI v.nc := hR1.cnc
            have m1pa : w1.1 25 = v.pa := hR1.cpa
            have m1ls : w1.1 28 = v.ls := hR1.cls
            have m1of : w1.1 26 = v.of := hR1.cof
            have m1lc : w1.1 29 = v.lc := hR1.clc
            have m1ku : w1.1 32 = v.ku := hR1.cku
            have m1q : w1.1 (20 + l) = v.q l := hR1.cq l hl
            try simp only [true_and, and_true, forall_eq, forall_const, true_implies, false_implies, not_true_eq_false, not_false_eq_true, le00, le10, e10, e01, eq_self, ck1, ck0, wpX5_thrown, uI_same, uI_2, uO_o, uO_1, up0, up00, uI67, ne_eq, Nat.reduceEqDiff, lg_self, String.reduceEq, false_and, or_false, false_or, and_self, f3, z00, hg, f1l, f2l, hB_C hl, m1ow, m1en, m1th, m1now, m1wt, hR.cnow, hR.cow, hR.cen, hR.cth, uA_ne, uA_same, uA_2]
            cases hh : heldB (v.ow l) (v.en l) (nI v.now) (nI c) with
            | false =>
              try simp only [true_and, and_true, forall_eq, forall_const, true_implies, false_implies, not_true_eq_false, not_false_eq_true, le00, le10, e10, e01, eq_self, ck1, ck0, wpX5_thrown, uI_same, uI_2, uO_o, uO_1, up0, up00, uI67, ne_eq, Nat.reduceEqDiff, lg_self, String.reduceEq, false_and, or_false, false_or, and_self, f3, z00, bIf, nk103, nk104, nk109, nk119, nk111, nk115, nk98, d111, d115, d103, i1, i2, i3, wpL_renew, uA_ne, uA_same, uA_2]
              have hRC := hR1
              generalize hw2 : uO _ _ = w2
              have hR2 : R ((V.s_tm v (csT v.dn v.cu v.tm m))) v w2 := by rw [← hw2]; exact hRC.sO _
              have ho2 : w2.2.2.1 0 = (111 : Int32).toInt64 := by rw [← hw2, uO_o, up00]
              have mO2 : ∀ P, wpX5_isClient (nI c) w2 P ↔ P 1 w2 := fun P => imC hn6 hR2.mnc hc
              try simp only [true_and, and_true, forall_eq, forall_const, true_implies, false_implies, not_true_eq_false, not_false_eq_true, le00, le10, e10, e01, eq_self, ck1, ck0, wpX5_thrown, uI_same, uI_2, uO_o, uO_1, up0, up00, uI67, ne_eq, Nat.reduceEqDiff, lg_self, String.reduceEq, false_and, or_false, false_or, and_self, f3, z00, i1, i2, i3, mO2, imL hl, imM hm, wpX5_renew, wpX5_renew_B32, wpX5_wrongAsk, wpX5_wrongAsk_B24, nk32, e20, le20, e2s, e30, le30, e10, uA_ne, uA_same, uA_2]
              rw [sp_X5_cannotAsk hc6 hm hn (hR2.s67 0).mne]
              try simp only [true_and, and_true, forall_eq, forall_const, true_implies, false_implies, not_true_eq_false, not_false_eq_true, le00, le10, e10, e01, eq_self, ck1, ck0, wpX5_thrown, uI_same, uI_2, uO_o, uO_1, up0, up00, uI67, ne_eq, Nat.reduceEqDiff, lg_self, String.reduceEq, false_and, or_false, false_or, and_self, f3, z00, hR2.mpa, hR2.mdn, hR2.mld, hR2.mtm, lead_eq hJ ht hm, hcan, Bool.not_true, bIf, wpX5_renew, wpX5_renew_B32, nk32, e20, le20, e2s, e30, le30, e10, uA_ne, uA_same, uA_2]
              refine sp_X5_looks hm ?_
              try simp only [true_and, and_true, forall_eq, forall_const, true_implies, false_implies, not_true_eq_false, not_false_eq_true, le00, le10, e10, e01, eq_self, ck1, ck0, wpX5_thrown, uI_same, uI_2, uO_o, uO_1, up0, up00, uI67, ne_eq, Nat.reduceEqDiff, lg_self, String.reduceEq, false_and, or_false, false_or, and_self, f3, z00, hR2.mdn, hR2.mcu, hR2.mtm, hg, if_true, uA_ne, uA_same, uA_2]
              have hR3 := (hR2.s67 0).sm_tm (csT v.dn v.cu v.tm m)
              generalize hw3 : uA (uI w2 67 0) 39 (csT v.dn v.cu v.tm m) = w3 at hR3 ⊢
              have m3ks : w3.1 38 = v.ks := hR3.mks
              have m3kc : w3.1 45 = v.kc := hR3.mkc
              have m3kv : w3.1 46 = v.kv := hR3.mkv
              have m3va : w3.1 52 = v.va := hR3.mva
              have m3ku : w3.1 47 = v.ku := hR3.mku
              have m3of : w3.1 43 = v.of := hR3.mof
              have m3now : w3.1 68 0 = nI v.now := hR3.mnow
              have m3ow : w3.1 48 = v.ow := hR3.mow
              have m3en : w3.1 49 = v.en := hR3.men
              have m3th : w3.1 51 = v.th := hR3.mth
              have m3wt : w3.1 54 = v.wt := hR3.mwt
              have m3gr : w3.1 50 = v.gr := hR3.mgr
              have m3lm : w3.2.1 1 = v.lm := hR3.mlm
              have m3ls : w3.1 37 = v.ls := hR3.mls
              have k67 : w3.1 67 0 = 0 := by rw [← hw3, uA_ne _ _ (by decide)]; exact uI_same _ _ _ _
              have ho3 : w3.2.2.1 0 = (111 : Int32).toInt64 := by rw [← hw3]; exact ho2
              try simp only [true_and, and_true, forall_eq, forall_const, true_implies, false_implies, not_true_eq_false, not_false_eq_true, le00, le10, e10, e01, eq_self, ck1, ck0, wpX5_thrown, uI_same, uI_2, uO_o, uO_1, up0, up00, uI67, ne_eq, Nat.reduceEqDiff, lg_self, String.reduceEq, false_and, or_false, false_or, and_self, f3, z00, hB_M hJ hl m3ow m3en, m3ks, m3kc, m3kv, m3va, m3ku, m3of, m3now, m3ow, m3en, m3th, m3wt, m3gr, m3lm, m3ls, hh, bIf, k67, ho3, nk103, nk104, nk109, nk119, nk111, nk115, nk98, d111, d115, d103, uA_ne, uA_same, uA_2]
              exact ⟨_, R.fin hR3 rfl, hJ1.mono⟩
            | true =>
              have ho := held_own hh
              try simp only [true_and, and_true, forall_eq, forall_const, true_implies, false_implies, not_true_eq_false, not_false_eq_true, le00, le10, e10, e01, eq_self, ck1, ck0, wpX5_thrown, uI_same, uI_2, uO_o, uO_1, up0, up00, uI67, ne_eq, Nat.reduceEqDiff, lg_self, String.reduceEq, false_and, or_false, false_or, and_self, f3, z00, bIt, nk103, nk104, nk109, nk119, nk111, nk115, nk98, d111, d115, d103, i1, i2, i3, f1l, f2l, m1ow, m1en, m1th, m1now, m1wt, hR.cnow, hR.cow, hR.cen, hR.cth, wpL_renew, uA_ne, uA_same, uA_2]
              rcases hJ.thv l hl with eth | ⟨d, hd, eth⟩
              · try simp only [true_and, and_true, forall_eq, forall_const, true_implies, false_implies, not_true_eq_false, not_false_eq_true, le00, le10, e10, e01, eq_self, ck1, ck0, wpX5_thrown, uI_same, uI_2, uO_o, uO_1, up0, up00, uI67, ne_eq, Nat.reduceEqDiff, lg_self, String.reduceEq, false_and, or_false, false_or, and_self, f3, z00, eth, nk103, nk104, nk109, nk119, nk111, nk115, nk98, d111, d115, d103, i1, i2, i3, uA_ne, uA_same, uA_2]
                refine RC_extend hR1 hc6 hl hm hne (fun w1k hRC => ?_)
                try simp only [true_and, and_true, forall_eq, forall_const, true_implies, false_implies, not_true_eq_false, not_false_eq_true, le00, le10, e10, e01, eq_self, ck1, ck0, wpX5_thrown, uI_same, uI_2, uO_o, uO_1, up0, up00, uI67, ne_eq, Nat.reduceEqDiff, lg_self, String.reduceEq, false_and, or_false, false_or, and_self, f3, z00, nk103, nk104, nk109, nk119, nk111, nk115, nk98, d111, d115, d103, i1, i2, i3, uA_ne, uA_same, uA_2]
                generalize hw2 : uO _ _ = w2
                have hR2 : R (V.xC (V.s_tm v (csT v.dn v.cu v.tm m)) c l m) v w2 := by rw [← hw2]; exact hRC.sO _
                have ho2 : w2.2.2.1 0 = (103 : Int32).toInt64 := by rw [← hw2, uO_o, up00]
                have mO2 : ∀ P, wpX5_isClient (nI c) w2 P ↔ P 1 w2 := fun P => imC hn6 hR2.mnc hc
                try simp only [true_and, and_true, forall_eq, forall_const, true_implies, false_implies, not_true_eq_false, not_false_eq_true, le00, le10, e10, e01, eq_self, ck1, ck0, wpX5_thrown, uI_same, uI_2, uO_o, uO_1, up0, up00, uI67, ne_eq, Nat.reduceEqDiff, lg_self, String.reduceEq, false_and, or_false, false_or, and_self, f3, z00, i1, i2, i3, mO2, imL hl, imM hm, wpX5_renew, wpX5_renew_B32, wpX5_wrongAsk, wpX5_wrongAsk_B24, nk32, e20, le20, e2s, e30, le30, e10, uA_ne, uA_same, uA_2]
                rw [sp_X5_cannotAsk hc6 hm hn (hR2.s67 0).mne]
                try simp only [true_and, and_true, forall_eq, forall_const, true_implies, false_implies, not_true_eq_false, not_false_eq_true, le00, le10, e10, e01, eq_self, ck1, ck0, wpX5_thrown, uI_same, uI_2, uO_o, uO_1, up0, up00, uI67, ne_eq, Nat.reduceEqDiff, lg_self, String.reduceEq, false_and, or_false, false_or, and_self, f3, z00, hR2.mpa, hR2.mdn, hR2.mld, hR2.mtm, lead_eq hJ ht hm, hcan, Bool.not_true, bIf, wpX5_renew, wpX5_renew_B32, nk32, e20, le20, e2s, e30, le30, e10, uA_ne, uA_same, uA_2]
                refine sp_X5_looks hm ?_
                try simp only [true_and, and_true, forall_eq, forall_const, true_implies, false_implies, not_true_eq_false, not_false_eq_true, le00, le10, e10, e01, eq_self, ck1, ck0, wpX5_thrown, uI_same, uI_2, uO_o, uO_1, up0, up00, uI67, ne_eq, Nat.reduceEqDiff, lg_self, String.reduceEq, false_and, or_false, false_or, and_self, f3, z00, hR2.mdn, hR2.mcu, hR2.mtm, hg, if_true, uA_ne, uA_same, uA_2]
                have hR3 := (hR2.s67 0).sm_tm (csT v.dn v.cu v.tm m)
                generalize hw3 : uA (uI w2 67 0) 39 (csT v.dn v.cu v.tm m) = w3 at hR3 ⊢
                have m3ks : w3.1 38 = v.ks := hR3.mks
                have m3kc : w3.1 45 = v.kc := hR3.mkc
                have m3kv : w3.1 46 = v.kv := hR3.mkv
                have m3va : w3.1 52 = v.va := hR3.mva
                have m3ku : w3.1 47 = v.ku := hR3.mku
                have m3of : w3.1 43 = v.of := hR3.mof
                have m3now : w3.1 68 0 = nI v.now := hR3.mnow
                have m3ow : w3.1 48 = v.ow := hR3.mow
                have m3en : w3.1 49 = v.en := hR3.men
                have m3th : w3.1 51 = v.th := hR3.mth
                have m3wt : w3.1 54 = v.wt := hR3.mwt
                have m3gr : w3.1 50 = v.gr := hR3.mgr
                have m3lm : w3.2.1 1 = v.lm := hR3.mlm
                have m3ls : w3.1 37 = v.ls := hR3.mls
                have k67 : w3.1 67 0 = 0 := by rw [← hw3, uA_ne _ _ (by decide)]; exact uI_same _ _ _ _
                have ho3 : w3.2.2.1 0 = (103 : Int32).toInt64 := by rw [← hw3]; exact ho2
                try simp only [true_and, and_true, forall_eq, forall_const, true_implies, false_implies, not_true_eq_false, not_false_eq_true, le00, le10, e10, e01, eq_self, ck1, ck0, wpX5_thrown, uI_same, uI_2, uO_o, uO_1, up0, up00, uI67, ne_eq, Nat.reduceEqDiff, lg_self, String.reduceEq, false_and, or_false, false_or, and_self, f3, z00, hB_M hJ hl m3ow m3en, m3ks, m3kc, m3kv, m3va, m3ku, m3of, m3now, m3ow, m3en, m3th, m3wt, m3gr, m3lm, m3ls, hh, bIt, eth, n1lt, f1l, f2l, nw12, k67, nk103, nk104, nk109, nk119, nk111, nk115, nk98, d111, d115, d103, uA_ne, uA_same, uA_2]
                refine RM_note (hR3.sm_en (upd v.en l (nI (v.now + 12)))) ((Keep.r w3).a (by decide) _) hc6 hl (fun w4 h4 k4 => ?_)
                refine RM_entry h4 k4 hm hne (.inr (.inl rfl)) (fun w5 h5 k5 => ?_)
                try simp only [true_and, and_true, forall_eq, forall_const, true_implies, false_implies, not_true_eq_false, not_false_eq_true, le00, le10, e10, e01, eq_self, ck1, ck0, wpX5_thrown, uI_same, uI_2, uO_o, uO_1, up0, up00, uI67, ne_eq, Nat.reduceEqDiff, lg_self, String.reduceEq, false_and, or_false, false_or, and_self, f3, z00, nk103, nk104, nk109, nk119, nk111, nk115, nk98, d111, d115, d103, k5.1, k5.2, k67, ho3, uA_ne, uA_same, uA_2]
                exact ⟨_, R.fin h5 rfl, (hJ1.renew (by omega) hne hm hc hl hq hT ho).mono⟩
              · have en1 := n1ne (show d < 2147483648 by omega)
                have en2 := eq_false (nlt0 (p := d) (by omega))
                try simp only [true_and, and_true, forall_eq, forall_const, true_implies, false_implies, not_true_eq_false, not_false_eq_true, le00, le10, e10, e01, eq_self, ck1, ck0, wpX5_thrown, uI_same, uI_2, uO_o, uO_1, up0, up00, uI67, ne_eq, Nat.reduceEqDiff, lg_self, String.reduceEq, false_and, or_false, false_or, and_self, f3, z00, eth, en1, nk103, nk104, nk109, nk119, nk111, nk115, nk98, d111, d115, d103, i1, i2, i3, uA_ne, uA_same, uA_2]
                have hRC := hR1
                generalize hw2 : uO _ _ = w2
                have hR2 : R ((V.s_tm v (csT v.dn v.cu v.tm m))) v w2 := by rw [← hw2]; exact hRC.sO _
                have ho2 : w2.2.2.1 0 = (115 : Int32).toInt64 := by rw [← hw2, uO_o, up00]
                have mO2 : ∀ P, wpX5_isClient (nI c) w2 P ↔ P 1 w2 := fun P => imC hn6 hR2.mnc hc
                try simp only [true_and, and_true, forall_eq, forall_const, true_implies, false_implies, not_true_eq_false, not_false_eq_true, le00, le10, e10, e01, eq_self, ck1, ck0, wpX5_thrown, uI_same, uI_2, uO_o, uO_1, up0, up00, uI67, ne_eq, Nat.reduceEqDiff, lg_self, String.reduceEq, false_and, or_false, false_or, and_self, f3, z00, i1, i2, i3, mO2, imL hl, imM hm, wpX5_renew, wpX5_renew_B32, wpX5_wrongAsk, wpX5_wrongAsk_B24, nk32, e20, le20, e2s, e30, le30, e10, uA_ne, uA_same, uA_2]
                rw [sp_X5_cannotAsk hc6 hm hn (hR2.s67 0).mne]
                try simp only [true_and, and_true, forall_eq, forall_const, true_implies, false_implies, not_true_eq_false, not_false_eq_true, le00, le10, e10, e01, eq_self, ck1, ck0, wpX5_thrown, uI_same, uI_2, uO_o, uO_1, up0, up00, uI67, ne_eq, Nat.reduceEqDiff, lg_self, String.reduceEq, false_and, or_false, false_or, and_self, f3, z00, hR2.mpa, hR2.mdn, hR2.mld, hR2.mtm, lead_eq hJ ht hm, hcan, Bool.not_true, bIf, wpX5_renew, wpX5_renew_B32, nk32, e20, le20, e2s, e30, le30, e10, uA_ne, uA_same, uA_2]
                refine sp_X5_looks hm ?_
                try simp only [true_and, and_true, forall_eq, forall_const, true_implies, false_implies, not_true_eq_false, not_false_eq_true, le00, le10, e10, e01, eq_self, ck1, ck0, wpX5_thrown, uI_same, uI_2, uO_o, uO_1, up0, up00, uI67, ne_eq, Nat.reduceEqDiff, lg_self, String.reduceEq, false_and, or_false, false_or, and_self, f3, z00, hR2.mdn, hR2.mcu, hR2.mtm, hg, if_true, uA_ne, uA_same, uA_2]
                have hR3 := (hR2.s67 0).sm_tm (csT v.dn v.cu v.tm m)
                generalize hw3 : uA (uI w2 67 0) 39 (csT v.dn v.cu v.tm m) = w3 at hR3 ⊢
                have m3ks : w3.1 38 = v.ks := hR3.mks
                have m3kc : w3.1 45 = v.kc := hR3.mkc
                have m3kv : w3.1 46 = v.kv := hR3.mkv
                have m3va : w3.1 52 = v.va := hR3.mva
                have m3ku : w3.1 47 = v.ku := hR3.mku
                have m3of : w3.1 43 = v.of := hR3.mof
                have m3now : w3.1 68 0 = nI v.now := hR3.mnow
                have m3ow : w3.1 48 = v.ow := hR3.mow
                have m3en : w3.1 49 = v.en := hR3.men
                have m3th : w3.1 51 = v.th := hR3.mth
                have m3wt : w3.1 54 = v.wt := hR3.mwt
                have m3gr : w3.1 50 = v.gr := hR3.mgr
                have m3lm : w3.2.1 1 = v.lm := hR3.mlm
                have m3ls : w3.1 37 = v.ls := hR3.mls
                have k67 : w3.1 67 0 = 0 := by rw [← hw3, uA_ne _ _ (by decide)]; exact uI_same _ _ _ _
                have ho3 : w3.2.2.1 0 = (115 : Int32).toInt64 := by rw [← hw3]; exact ho2
                try simp only [true_and, and_true, forall_eq, forall_const, true_implies, false_implies, not_true_eq_false, not_false_eq_true, le00, le10, e10, e01, eq_self, ck1, ck0, wpX5_thrown, uI_same, uI_2, uO_o, uO_1, up0, up00, uI67, ne_eq, Nat.reduceEqDiff, lg_self, String.reduceEq, false_and, or_false, false_or, and_self, f3, z00, hB_M hJ hl m3ow m3en, m3ks, m3kc, m3kv, m3va, m3ku, m3of, m3now, m3ow, m3en, m3th, m3wt, m3gr, m3lm, m3ls, hh, bIt, eth, en2, f1l, f2l, k67, ho3, nk103, nk104, nk109, nk119, nk111, nk115, nk98, d111, d115, d103, uA_ne, uA_same, uA_2]
                exact ⟨_, R.fin hR3 rfl, hJ1.mono⟩
          · have nk : (narrow .char (.int (csR v.dn v.cu v.tm m)) = .int (csR v.dn v.cu v.tm m)) = True := by
              rcases csR_cases v.dn v.cu v.tm m with h | h | h <;> rw [h] <;> decide
            have n45 : (csR v.dn v.cu v.tm m = 45) = False := by
              rcases csR_cases v.dn v.cu v.tm m with h | h | h <;> rw [h] <;> decide
            try simp only [true_and, and_true, forall_eq, forall_const, true_implies, false_implies, not_true_eq_false, not_false_eq_true, le00, le10, e10, e01, eq_self, ck1, ck0, wpX5_thrown, uI_same, uI_2, uO_o, uO_1, up0, up00, uI67, ne_eq, Nat.reduceEqDiff, lg_self, String.reduceEq, false_and, or_false, false_or, and_self, f3, z00, hg, nk, i1, i2, i3, wpL_renew, wpX4_renew, wpX4_askAsOwner, uA_ne, uA_same, uA_2]
            generalize hw2 : uO w1 _ = w2
            have hR2 : R (V.s_tm v (csT v.dn v.cu v.tm m)) v w2 := by rw [← hw2]; exact hR1.sO _
            have ho2 : w2.2.2.1 0 = (csR v.dn v.cu v.tm m).toInt64 := by rw [← hw2, uO_o, up00]
            have mO2 : ∀ P, wpX5_isClient (nI c) w2 P ↔ P 1 w2 := fun P => imC hn6 hR2.mnc hc
            try simp only [true_and, and_true, forall_eq, forall_const, true_implies, false_implies, not_true_eq_false, not_false_eq_true, le00, le10, e10, e01, eq_self, ck1, ck0, wpX5_thrown, uI_same, uI_2, uO_o, uO_1, up0, up00, uI67, ne_eq, Nat.reduceEqDiff, lg_self, String.reduceEq, false_and, or_false, false_or, and_self, f3, z00, i1, i2, i3, mO2, imL hl, imM hm, wpX5_renew, wpX5_renew_B32, wpX5_wrongAsk, wpX5_wrongAsk_B24, wpX4_checkNumbers, nk32, e20, le20, e2s, e30, le30, e10, uA_ne, uA_same, uA_2]
            rw [sp_X5_cannotAsk hc6 hm hn (hR2.s67 0).mne]
            try simp only [true_and, and_true, forall_eq, forall_const, true_implies, false_implies, not_true_eq_false, not_false_eq_true, le00, le10, e10, e01, eq_self, ck1, ck0, wpX5_thrown, uI_same, uI_2, uO_o, uO_1, up0, up00, uI67, ne_eq, Nat.reduceEqDiff, lg_self, String.reduceEq, false_and, or_false, false_or, and_self, f3, z00, hR2.mpa, hR2.mdn, hR2.mld, hR2.mtm, lead_eq hJ ht hm, hcan, Bool.not_true, bIf, wpX5_renew, wpX5_renew_B32, nk32, e20, le20, e2s, e30, le30, e10, uA_ne, uA_same, uA_2]
            refine sp_X5_looks hm ?_
            try simp only [true_and, and_true, forall_eq, forall_const, true_implies, false_implies, not_true_eq_false, not_false_eq_true, le00, le10, e10, e01, eq_self, ck1, ck0, wpX5_thrown, uI_same, uI_2, uO_o, uO_1, up0, up00, uI67, ne_eq, Nat.reduceEqDiff, lg_self, String.reduceEq, false_and, or_false, false_or, and_self, f3, z00, hR2.mdn, hR2.mcu, hR2.mtm, hg, if_false, n45, nk, ho2, uA_ne, uA_same, uA_2]
            exact ⟨_, R.fin ((hR2.s67 0).sm_tm (csT v.dn v.cu v.tm m)) rfl, hJ1.mono⟩
      · try simp only [true_and, and_true, forall_eq, forall_const, true_implies, false_implies, not_true_eq_false, not_false_eq_true, le00, le10, e10, e01, eq_self, ck1, ck0, wpX5_thrown, uI_same, uI_2, uO_o, uO_1, up0, up00, uI67, ne_eq, Nat.reduceEqDiff, lg_self, String.reduceEq, false_and, or_false, false_or, and_self, f3, z00, i1, i2, i3, cO, ckL hl, ckM' hb3, wpL_renew, wpX4_renew, wpX4_askAsOwner, wpX5_wrongAsk, wpX5_wrongAsk_B24, wpX4_checkNumbers, uA_ne, uA_same, uA_2]
        try simp only [true_and, and_true, forall_eq, forall_const, true_implies, false_implies, not_true_eq_false, not_false_eq_true, le00, le10, e10, e01, eq_self, ck1, ck0, wpX5_thrown, uI_same, uI_2, uO_o, uO_1, up0, up00, uI67, ne_eq, Nat.reduceEqDiff, lg_self, String.reduceEq, false_and, or_false, false_or, and_self, f3, z00, i1, i2, i3, mO', imL hl, imM' hb3, wpX5_renew, wpX5_renew_B32, wpX5_wrongAsk, wpX5_wrongAsk_B24, wpX4_checkNumbers, nk32, e20, le20, e2s, e30, le30, e10, uA_ne, uA_same, uA_2]
        exact ⟨v, hR.s67 _, hJ.mono⟩
    · try simp only [true_and, and_true, forall_eq, forall_const, true_implies, false_implies, not_true_eq_false, not_false_eq_true, le00, le10, e10, e01, eq_self, ck1, ck0, wpX5_thrown, uI_same, uI_2, uO_o, uO_1, up0, up00, uI67, ne_eq, Nat.reduceEqDiff, lg_self, String.reduceEq, false_and, or_false, false_or, and_self, f3, z00, i1, i2, i3, cO, ckL' hb2, wpL_renew, wpX4_renew, wpX4_askAsOwner, wpX5_wrongAsk, wpX5_wrongAsk_B24, wpX4_checkNumbers, uA_ne, uA_same, uA_2]
      try simp only [true_and, and_true, forall_eq, forall_const, true_implies, false_implies, not_true_eq_false, not_false_eq_true, le00, le10, e10, e01, eq_self, ck1, ck0, wpX5_thrown, uI_same, uI_2, uO_o, uO_1, up0, up00, uI67, ne_eq, Nat.reduceEqDiff, lg_self, String.reduceEq, false_and, or_false, false_or, and_self, f3, z00, i1, i2, i3, mO', imL' hb2, wpX5_renew, wpX5_renew_B32, wpX5_wrongAsk, wpX5_wrongAsk_B24, wpX4_checkNumbers, nk32, e20, le20, e2s, e30, le30, e10, uA_ne, uA_same, uA_2]
      exact ⟨v, hR.s67 _, hJ.mono⟩
  · have hn6 := hJ.nc6
    have cX : ∀ P px, wpX4_checkClient p1 w P px ↔ px "java/util/NoSuchElementException" w := fun P px => ckC' hR.cnc hb1
    have mX : ∀ P, wpX5_isClient p1 w P ↔ P 0 w := fun P => imC' hn6 hR.mnc hb1
    try simp only [true_and, and_true, forall_eq, forall_const, true_implies, false_implies, not_true_eq_false, not_false_eq_true, le00, le10, e10, e01, eq_self, ck1, ck0, wpX5_thrown, uI_same, uI_2, uO_o, uO_1, up0, up00, uI67, ne_eq, Nat.reduceEqDiff, lg_self, String.reduceEq, false_and, or_false, false_or, and_self, f3, z00, i1, i2, i3, cX, wpL_renew, wpX4_renew, wpX4_askAsOwner, wpX5_wrongAsk, wpX5_wrongAsk_B24, wpX4_checkNumbers, uA_ne, uA_same, uA_2]
    try simp only [true_and, and_true, forall_eq, forall_const, true_implies, false_implies, not_true_eq_false, not_false_eq_true, le00, le10, e10, e01, eq_self, ck1, ck0, wpX5_thrown, uI_same, uI_2, uO_o, uO_1, up0, up00, uI67, ne_eq, Nat.reduceEqDiff, lg_self, String.reduceEq, false_and, or_false, false_or, and_self, f3, z00, i1, i2, i3, mX, wpX5_renew, wpX5_renew_B32, wpX5_wrongAsk, wpX5_wrongAsk_B24, wpX4_checkNumbers, nk32, e20, le20, e2s, e30, le30, e10, uA_ne, uA_same, uA_2]
    exact ⟨v, hR.s67 _, hJ.mono⟩
set_option maxHeartbeats 1000000 in
theorem st_18 {xs : Nat → Int32} {L t : Nat} {w : St} (hL : L ≤ 2560) (h5 : 5 * t + 5 ≤ L) (hI : Inv t w) : wpL_C18 xs L (nI (5 * t)) w (Inv (t + 1)) := by
  obtain ⟨v, hR, hJ⟩ := hI
  have f3 : vp_in 0 1 := inN (a := 0) (by decide) (by decide)
  have z00 : (0 : Int32).toNatClampNeg = 0 := rfl
  have i1 : vp_in (nI (5 * t) + 1) L := inL (k := 1) h5 hL (by decide)
  have i2 : vp_in (nI (5 * t) + 2) L := inL (k := 2) h5 hL (by decide)
  have i3 : vp_in (nI (5 * t) + 3) L := inL (k := 3) h5 hL (by decide)
  unfold wpL_C18
  generalize e1 : xs (nI (5 * t) + 1).toNatClampNeg = p1
  generalize e2 : xs (nI (5 * t) + 2).toNatClampNeg = p2
  generalize e3 : xs (nI (5 * t) + 3).toNatClampNeg = p3
  rcases ixc p1 v.nc (by have := hJ.nc6; omega) with ⟨c, hc, rfl⟩ | hb1
  · have hn6 := hJ.nc6
    have hc6 : c < 6 := by omega
    have f1c : vp_in (nI c) 6 := inN hc6 (by decide)
    have f2c : (nI c).toNatClampNeg = c := clN (by omega)
    have cO : ∀ P px, wpX4_checkClient (nI c) w P px ↔ P w := fun P px => ckC hn6 hR.cnc hc
    have mO' : ∀ P, wpX5_isClient (nI c) w P ↔ P 1 w := fun P => imC hn6 hR.mnc hc
    rcases ixc p2 4 (by decide) with ⟨l, hl, rfl⟩ | hb2
    · have f1l : vp_in (nI l) 4 := inN hl (by decide)
      have f2l : (nI l).toNatClampNeg = l := clN (by omega)
      rcases ixc p3 5 (by decide) with ⟨m, hm, rfl⟩ | hb3
      · have ht : t < 512 := by omega
        have hn := hJ.ne250
        have f1m : vp_in (nI m) 5 := inN hm (by decide)
        have f2m : (nI m).toNatClampNeg = m := clN (by omega)
        try simp only [true_and, and_true, forall_eq, forall_const, true_implies, false_implies, not_true_eq_false, not_false_eq_true, le00, le10, e10, e01, eq_self, ck1, ck0, wpX5_thrown, uI_same, uI_2, uO_o, uO_1, up0, up00, uI67, ne_eq, Nat.reduceEqDiff, lg_self, String.reduceEq, false_and, or_false, false_or, and_self, f3, z00, i1, i2, i3, cO, ckL hl, ckM hm, wpL_release, wpX4_release, wpX4_askAsOwner, wpX5_wrongAsk, wpX5_wrongAsk_B24, wpX4_checkNumbers, sp_X4_canAsk hc6 hm hn hR.cne, hR.cpa, hR.cdn, hR.cwi, hR.ctm, hR.ccu, hR.mpa, hR.mdn, hR.mld, hR.mtm, hR.mcu, uA_ne, uA_same, uA_2]
        cases hcan : can (v.pa c) (v.dn m) (decide (wof v.wi (v.tm m) = nI m)) v.ne with
        | false =>
          refine ⟨fun q => absurd q (by decide), fun _ => ?_⟩
          try simp only [true_and, and_true, forall_eq, forall_const, true_implies, false_implies, not_true_eq_false, not_false_eq_true, le00, le10, e10, e01, eq_self, ck1, ck0, wpX5_thrown, uI_same, uI_2, uO_o, uO_1, up0, up00, uI67, ne_eq, Nat.reduceEqDiff, lg_self, String.reduceEq, false_and, or_false, false_or, and_self, f3, z00, i1, i2, i3, mO', imL hl, imM hm, wpX5_release, wpX5_release_B32, wpX5_wrongAsk, wpX5_wrongAsk_B24, wpX4_checkNumbers, nk32, e20, le20, e2s, e30, le30, e10, uA_ne, uA_same, uA_2]
          rw [sp_X5_cannotAsk hc6 hm hn (hR.s67 0).mne]
          try simp only [true_and, and_true, forall_eq, forall_const, true_implies, false_implies, not_true_eq_false, not_false_eq_true, le00, le10, e10, e01, eq_self, ck1, ck0, wpX5_thrown, uI_same, uI_2, uO_o, uO_1, up0, up00, uI67, ne_eq, Nat.reduceEqDiff, lg_self, String.reduceEq, false_and, or_false, false_or, and_self, f3, z00, hR.cpa, hR.cdn, hR.cwi, hR.ctm, hR.ccu, hR.mpa, hR.mdn, hR.mld, hR.mtm, hR.mcu, lead_eq hJ ht hm, hcan, Bool.not_false, bIt, wpX5_release, wpX5_release_B32, nk32, e20, le20, e2s, e30, le30, e10, uA_ne, uA_same, uA_2]
          exact ⟨v, (hR.s67 _).s67 _, hJ.mono⟩
        | true =>
          refine ⟨fun _ => ?_, fun q => absurd q (by decide)⟩
          have hne : v.ne < 250 := by simp only [can, Bool.and_eq_true, decide_eq_true_eq] at hcan; exact hcan.2.2.2
          have hJ1 := hJ.term_up (Nat.le_refl t) _ (asked hJ hm) (by omega)
          refine sp_X3_consult hm ?_
          try simp only [true_and, and_true, forall_eq, forall_const, true_implies, false_implies, not_true_eq_false, not_false_eq_true, le00, le10, e10, e01, eq_self, ck1, ck0, wpX5_thrown, uI_same, uI_2, uO_o, uO_1, up0, up00, uI67, ne_eq, Nat.reduceEqDiff, lg_self, String.reduceEq, false_and, or_false, false_or, and_self, f3, z00, hR.cpa, hR.cdn, hR.cwi, hR.ctm, hR.ccu, hR.mpa, hR.mdn, hR.mld, hR.mtm, hR.mcu, uA_ne, uA_same, uA_2]
          have hR1 := hR.sc_tm (csT v.dn v.cu v.tm m)
          generalize hw1 : uA w 3 (csT v.dn v.cu v.tm m) = w1 at hR1 ⊢
          by_cases hg : csR v.dn v.cu v.tm m = 103
          · obtain ⟨hq, hTm, hTr⟩ := asked_g hm hg
            have hT : ∀ i, i < 5 → rch v.dn v.cu m i = true → csT v.dn v.cu v.tm m i = csT v.dn v.cu v.tm m m := fun i hi r => (hTr i hi r).trans hTm.symm
            have m1ow : w1.1 14 = v.ow := hR1.cow
            have m1en : w1.1 15 = v.en := hR1.cen
            have m1th : w1.1 16 = v.th := hR1.cth
            have m1now : w1.1 64 0 = nI v.now := hR1.cnow
            have m1wt : w1.1 18 = v.wt := hR1.cwt
            have m1nc : w1.1 66 0 = nI v.nc := hR1.cnc
            have m1pa : w1.1 25 = v.pa := hR1.cpa
            have m1ls : w1.1 28 = v.ls := hR1.cls
            have m1of : w1.1 26 = v.of := hR1.cof
            have m1lc : w1.1 29 = v.lc := hR1.clc
            have m1ku : w1.1 32 = v.ku := hR1.cku
            have m1q : w1.1 (20 + l) = v.q l := hR1.cq l hl
            try simp only [true_and, and_true, forall_eq, forall_const, true_implies, false_implies, not_true_eq_false, not_false_eq_true, le00, le10, e10, e01, eq_self, ck1, ck0, wpX5_thrown, uI_same, uI_2, uO_o, uO_1, up0, up00, uI67, ne_eq, Nat.reduceEqDiff, lg_self, String.reduceEq, false_and, or_false, false_or, and_self, f3, z00, hg, f1l, f2l, hB_C hl, m1ow, m1en, m1th, m1now, m1wt, hR.cnow, hR.cow, hR.cen, hR.cth, uA_ne, uA_same, uA_2]
            cases hh : heldB (v.ow l) (v.en l) (nI v.now) (nI c) with
            | false =>
              try simp only [true_and, and_true, forall_eq, forall_const, true_implies, false_implies, not_true_eq_false, not_false_eq_true, le00, le10, e10, e01, eq_self, ck1, ck0, wpX5_thrown, uI_same, uI_2, uO_o, uO_1, up0, up00, uI67, ne_eq, Nat.reduceEqDiff, lg_self, String.reduceEq, false_and, or_false, false_or, and_self, f3, z00, bIf, nk103, nk104, nk109, nk119, nk111, nk115, nk98, d111, d115, d103, i1, i2, i3, wpL_release, uA_ne, uA_same, uA_2]
              have hRC := hR1
              generalize hw2 : uO _ _ = w2
              have hR2 : R ((V.s_tm v (csT v.dn v.cu v.tm m))) v w2 := by rw [← hw2]; exact hRC.sO _
              have ho2 : w2.2.2.1 0 = (111 : Int32).toInt64 := by rw [← hw2, uO_o, up00]
              have mO2 : ∀ P, wpX5_isClient (nI c) w2 P ↔ P 1 w2 := fun P => imC hn6 hR2.mnc hc
              try simp only [true_and, and_true, forall_eq, forall_const, true_implies, false_implies, not_true_eq_false, not_false_eq_true, le00, le10, e10, e01, eq_self, ck1, ck0, wpX5_thrown, uI_same, uI_2, uO_o, uO_1, up0, up00, uI67, ne_eq, Nat.reduceEqDiff, lg_self, String.reduceEq, false_and, or_false, false_or, and_self, f3, z00, i1, i2, i3, mO2, imL hl, imM hm, wpX5_release, wpX5_release_B32, wpX5_wrongAsk, wpX5_wrongAsk_B24, nk32, e20, le20, e2s, e30, le30, e10, uA_ne, uA_same, uA_2]
              rw [sp_X5_cannotAsk hc6 hm hn (hR2.s67 0).mne]
              try simp only [true_and, and_true, forall_eq, forall_const, true_implies, false_implies, not_true_eq_false, not_false_eq_true, le00, le10, e10, e01, eq_self, ck1, ck0, wpX5_thrown, uI_same, uI_2, uO_o, uO_1, up0, up00, uI67, ne_eq, Nat.reduceEqDiff, lg_self, String.reduceEq, false_and, or_false, false_or, and_self, f3, z00, hR2.mpa, hR2.mdn, hR2.mld, hR2.mtm, lead_eq hJ ht hm, hcan, Bool.not_true, bIf, wpX5_release, wpX5_release_B32, nk32, e20, le20, e2s, e30, le30, e10, uA_ne, uA_same, uA_2]
              refine sp_X5_looks hm ?_
              try simp only [true_and, and_true, forall_eq, forall_const, true_implies, false_implies, not_true_eq_false, not_false_eq_true, le00, le10, e10, e01, eq_self, ck1, ck0, wpX5_thrown, uI_same, uI_2, uO_o, uO_1, up0, up00, uI67, ne_eq, Nat.reduceEqDiff, lg_self, String.reduceEq, false_and, or_false, false_or, and_self, f3, z00, hR2.mdn, hR2.mcu, hR2.mtm, hg, if_true, uA_ne, uA_same, uA_2]
              have hR3 := (hR2.s67 0).sm_tm (csT v.dn v.cu v.tm m)
              generalize hw3 : uA (uI w2 67 0) 39 (csT v.dn v.cu v.tm m) = w3 at hR3 ⊢
              have m3ks : w3.1 38 = v.ks := hR3.mks
              have m3kc : w3.1 45 = v.kc := hR3.mkc
              have m3kv : w3.1 46 = v.kv := hR3.mkv
              have m3va : w3.1 52 = v.va := hR3.mva
              have m3ku : w3.1 47 = v.ku := hR3.mku
              have m3of : w3.1 43 = v.of := hR3.mof
              have m3now : w3.1 68 0 = nI v.now := hR3.mnow
              have m3ow : w3.1 48 = v.ow := hR3.mow
              have m3en : w3.1 49 = v.en := hR3.men
              have m3th : w3.1 51 = v.th := hR3.mth
              have m3wt : w3.1 54 = v.wt := hR3.mwt
              have m3gr : w3.1 50 = v.gr := hR3.mgr
              have m3lm : w3.2.1 1 = v.lm := hR3.mlm
              have m3ls : w3.1 37 = v.ls := hR3.mls
              have k67 : w3.1 67 0 = 0 := by rw [← hw3, uA_ne _ _ (by decide)]; exact uI_same _ _ _ _
              have ho3 : w3.2.2.1 0 = (111 : Int32).toInt64 := by rw [← hw3]; exact ho2
              try simp only [true_and, and_true, forall_eq, forall_const, true_implies, false_implies, not_true_eq_false, not_false_eq_true, le00, le10, e10, e01, eq_self, ck1, ck0, wpX5_thrown, uI_same, uI_2, uO_o, uO_1, up0, up00, uI67, ne_eq, Nat.reduceEqDiff, lg_self, String.reduceEq, false_and, or_false, false_or, and_self, f3, z00, hB_M hJ hl m3ow m3en, m3ks, m3kc, m3kv, m3va, m3ku, m3of, m3now, m3ow, m3en, m3th, m3wt, m3gr, m3lm, m3ls, hh, bIf, k67, ho3, nk103, nk104, nk109, nk119, nk111, nk115, nk98, d111, d115, d103, uA_ne, uA_same, uA_2]
              exact ⟨_, R.fin hR3 rfl, hJ1.mono⟩
            | true =>
              have ho := held_own hh
              try simp only [true_and, and_true, forall_eq, forall_const, true_implies, false_implies, not_true_eq_false, not_false_eq_true, le00, le10, e10, e01, eq_self, ck1, ck0, wpX5_thrown, uI_same, uI_2, uO_o, uO_1, up0, up00, uI67, ne_eq, Nat.reduceEqDiff, lg_self, String.reduceEq, false_and, or_false, false_or, and_self, f3, z00, bIt, nk103, nk104, nk109, nk119, nk111, nk115, nk98, d111, d115, d103, i1, i2, i3, f1l, f2l, m1ow, m1en, m1th, m1now, m1wt, hR.cnow, hR.cow, hR.cen, hR.cth, wpL_release, uA_ne, uA_same, uA_2]
              refine RC_end hR1 hc6 hl hm hne (fun w1k hRC => ?_)
              try simp only [true_and, and_true, forall_eq, forall_const, true_implies, false_implies, not_true_eq_false, not_false_eq_true, le00, le10, e10, e01, eq_self, ck1, ck0, wpX5_thrown, uI_same, uI_2, uO_o, uO_1, up0, up00, uI67, ne_eq, Nat.reduceEqDiff, lg_self, String.reduceEq, false_and, or_false, false_or, and_self, f3, z00, nk103, nk104, nk109, nk119, nk111, nk115, nk98, d111, d115, d103, i1, i2, i3, uA_ne, uA_same, uA_2]
              generalize hw2 : uO _ _ = w2
              have hR2 : R (V.rC (V.s_tm v (csT v.dn v.cu v.tm m)) c l m) v w2 := by rw [← hw2]; exact hRC.sO _
              have ho2 : w2.2.2.1 0 = (103 : Int32).toInt64 := by rw [← hw2, uO_o, up00]
              have mO2 : ∀ P, wpX5_isClient (nI c) w2 P ↔ P 1 w2 := fun P => imC hn6 hR2.mnc hc
              try simp only [true_and, and_true, forall_eq, forall_const, true_implies, false_implies, not_true_eq_false, not_false_eq_true, le00, le10, e10, e01, eq_self, ck1, ck0, wpX5_thrown, uI_same, uI_2, uO_o, uO_1, up0, up00, uI67, ne_eq, Nat.reduceEqDiff, lg_self, String.reduceEq, false_and, or_false, false_or, and_self, f3, z00, i1, i2, i3, mO2, imL hl, imM hm, wpX5_release, wpX5_release_B32, wpX5_wrongAsk, wpX5_wrongAsk_B24, nk32, e20, le20, e2s, e30, le30, e10, uA_ne, uA_same, uA_2]
              rw [sp_X5_cannotAsk hc6 hm hn (hR2.s67 0).mne]
              try simp only [true_and, and_true, forall_eq, forall_const, true_implies, false_implies, not_true_eq_false, not_false_eq_true, le00, le10, e10, e01, eq_self, ck1, ck0, wpX5_thrown, uI_same, uI_2, uO_o, uO_1, up0, up00, uI67, ne_eq, Nat.reduceEqDiff, lg_self, String.reduceEq, false_and, or_false, false_or, and_self, f3, z00, hR2.mpa, hR2.mdn, hR2.mld, hR2.mtm, lead_eq hJ ht hm, hcan, Bool.not_true, bIf, wpX5_release, wpX5_release_B32, nk32, e20, le20, e2s, e30, le30, e10, uA_ne, uA_same, uA_2]
              refine sp_X5_looks hm ?_
              try simp only [true_and, and_true, forall_eq, forall_const, true_implies, false_implies, not_true_eq_false, not_false_eq_true, le00, le10, e10, e01, eq_self, ck1, ck0, wpX5_thrown, uI_same, uI_2, uO_o, uO_1, up0, up00, uI67, ne_eq, Nat.reduceEqDiff, lg_self, String.reduceEq, false_and, or_false, false_or, and_self, f3, z00, hR2.mdn, hR2.mcu, hR2.mtm, hg, if_true, uA_ne, uA_same, uA_2]
              have hR3 := (hR2.s67 0).sm_tm (csT v.dn v.cu v.tm m)
              generalize hw3 : uA (uI w2 67 0) 39 (csT v.dn v.cu v.tm m) = w3 at hR3 ⊢
              have m3ks : w3.1 38 = v.ks := hR3.mks
              have m3kc : w3.1 45 = v.kc := hR3.mkc
              have m3kv : w3.1 46 = v.kv := hR3.mkv
              have m3va : w3.1 52 = v.va := hR3.mva
              have m3ku : w3.1 47 = v.ku := hR3.mku
              have m3of : w3.1 43 = v.of := hR3.mof
              have m3now : w3.1 68 0 = nI v.now := hR3.mnow
              have m3ow : w3.1 48 = v.ow := hR3.mow
              have m3en : w3.1 49 = v.en := hR3.men
              have m3th : w3.1 51 = v.th := hR3.mth
              have m3wt : w3.1 54 = v.wt := hR3.mwt
              have m3gr : w3.1 50 = v.gr := hR3.mgr
              have m3lm : w3.2.1 1 = v.lm := hR3.mlm
              have m3ls : w3.1 37 = v.ls := hR3.mls
              have k67 : w3.1 67 0 = 0 := by rw [← hw3, uA_ne _ _ (by decide)]; exact uI_same _ _ _ _
              have ho3 : w3.2.2.1 0 = (103 : Int32).toInt64 := by rw [← hw3]; exact ho2
              have e1 := clN (n := c * 4 + l) (by omega)
              have j1 := inN (show c * 4 + l < 24 by omega) (show 24 < 2147483648 by decide)
              try simp only [true_and, and_true, forall_eq, forall_const, true_implies, false_implies, not_true_eq_false, not_false_eq_true, le00, le10, e10, e01, eq_self, ck1, ck0, wpX5_thrown, uI_same, uI_2, uO_o, uO_1, up0, up00, uI67, ne_eq, Nat.reduceEqDiff, lg_self, String.reduceEq, false_and, or_false, false_or, and_self, f3, z00, hB_M hJ hl m3ow m3en, m3ks, m3kc, m3kv, m3va, m3ku, m3of, m3now, m3ow, m3en, m3th, m3wt, m3gr, m3lm, m3ls, hh, bIt, f1l, f2l, k67, wpX5_at, ix4', e1, j1, nar0, uL_1, nk103, nk104, nk109, nk119, nk111, nk115, nk98, d111, d115, d103, uA_ne, uA_same, uA_2]
              refine RM_entry (((hR3.sm_lm (v.lm + (nI v.now - v.gr l).toInt64)).sm_ow (upd v.ow l (-1))).sm_ls (upd v.ls (c * 4 + l) 0)) ((((Keep.r w3).l _ _).a (by decide) _).a (by decide) _) hm hne (.inr (.inr (.inl rfl))) (fun w5 h5 k5 => ?_)
              try simp only [true_and, and_true, forall_eq, forall_const, true_implies, false_implies, not_true_eq_false, not_false_eq_true, le00, le10, e10, e01, eq_self, ck1, ck0, wpX5_thrown, uI_same, uI_2, uO_o, uO_1, up0, up00, uI67, ne_eq, Nat.reduceEqDiff, lg_self, String.reduceEq, false_and, or_false, false_or, and_self, f3, z00, nk103, nk104, nk109, nk119, nk111, nk115, nk98, d111, d115, d103, k5.1, k5.2, k67, ho3, uA_ne, uA_same, uA_2]
              exact ⟨_, R.fin h5 rfl, (hJ1.ends (by omega) hne hm hc hl hq hT ho).mono⟩
          · have nk : (narrow .char (.int (csR v.dn v.cu v.tm m)) = .int (csR v.dn v.cu v.tm m)) = True := by
              rcases csR_cases v.dn v.cu v.tm m with h | h | h <;> rw [h] <;> decide
            have n45 : (csR v.dn v.cu v.tm m = 45) = False := by
              rcases csR_cases v.dn v.cu v.tm m with h | h | h <;> rw [h] <;> decide
            try simp only [true_and, and_true, forall_eq, forall_const, true_implies, false_implies, not_true_eq_false, not_false_eq_true, le00, le10, e10, e01, eq_self, ck1, ck0, wpX5_thrown, uI_same, uI_2, uO_o, uO_1, up0, up00, uI67, ne_eq, Nat.reduceEqDiff, lg_self, String.reduceEq, false_and, or_false, false_or, and_self, f3, z00, hg, nk, i1, i2, i3, wpL_release, wpX4_release, wpX4_askAsOwner, uA_ne, uA_same, uA_2]
            generalize hw2 : uO w1 _ = w2
            have hR2 : R (V.s_tm v (csT v.dn v.cu v.tm m)) v w2 := by rw [← hw2]; exact hR1.sO _
            have ho2 : w2.2.2.1 0 = (csR v.dn v.cu v.tm m).toInt64 := by rw [← hw2, uO_o, up00]
            have mO2 : ∀ P, wpX5_isClient (nI c) w2 P ↔ P 1 w2 := fun P => imC hn6 hR2.mnc hc
            try simp only [true_and, and_true, forall_eq, forall_const, true_implies, false_implies, not_true_eq_false, not_false_eq_true, le00, le10, e10, e01, eq_self, ck1, ck0, wpX5_thrown, uI_same, uI_2, uO_o, uO_1, up0, up00, uI67, ne_eq, Nat.reduceEqDiff, lg_self, String.reduceEq, false_and, or_false, false_or, and_self, f3, z00, i1, i2, i3, mO2, imL hl, imM hm, wpX5_release, wpX5_release_B32, wpX5_wrongAsk, wpX5_wrongAsk_B24, wpX4_checkNumbers, nk32, e20, le20, e2s, e30, le30, e10, uA_ne, uA_same, uA_2]
            rw [sp_X5_cannotAsk hc6 hm hn (hR2.s67 0).mne]
            try simp only [true_and, and_true, forall_eq, forall_const, true_implies, false_implies, not_true_eq_false, not_false_eq_true, le00, le10, e10, e01, eq_self, ck1, ck0, wpX5_thrown, uI_same, uI_2, uO_o, uO_1, up0, up00, uI67, ne_eq, Nat.reduceEqDiff, lg_self, String.reduceEq, false_and, or_false, false_or, and_self, f3, z00, hR2.mpa, hR2.mdn, hR2.mld, hR2.mtm, lead_eq hJ ht hm, hcan, Bool.not_true, bIf, wpX5_release, wpX5_release_B32, nk32, e20, le20, e2s, e30, le30, e10, uA_ne, uA_same, uA_2]
            refine sp_X5_looks hm ?_
            try simp only [true_and, and_true, forall_eq, forall_const, true_implies, false_implies, not_true_eq_false, not_false_eq_true, le00, le10, e10, e01, eq_self, ck1, ck0, wpX5_thrown, uI_same, uI_2, uO_o, uO_1, up0, up00, uI67, ne_eq, Nat.reduceEqDiff, lg_self, String.reduceEq, false_and, or_false, false_or, and_self, f3, z00, hR2.mdn, hR2.mcu, hR2.mtm, hg, if_false, n45, nk, ho2, uA_ne, uA_same, uA_2]
            exact ⟨_, R.fin ((hR2.s67 0).sm_tm (csT v.dn v.cu v.tm m)) rfl, hJ1.mono⟩
      · try simp only [true_and, and_true, forall_eq, forall_const, true_implies, false_implies, not_true_eq_false, not_false_eq_true, le00, le10, e10, e01, eq_self, ck1, ck0, wpX5_thrown, uI_same, uI_2, uO_o, uO_1, up0, up00, uI67, ne_eq, Nat.reduceEqDiff, lg_self, String.reduceEq, false_and, or_false, false_or, and_self, f3, z00, i1, i2, i3, cO, ckL hl, ckM' hb3, wpL_release, wpX4_release, wpX4_askAsOwner, wpX5_wrongAsk, wpX5_wrongAsk_B24, wpX4_checkNumbers, uA_ne, uA_same, uA_2]
        try simp only [true_and, and_true, forall_eq, forall_const, true_implies, false_implies, not_true_eq_false, not_false_eq_true, le00, le10, e10, e01, eq_self, ck1, ck0, wpX5_thrown, uI_same, uI_2, uO_o, uO_1, up0, up00, uI67, ne_eq, Nat.reduceEqDiff, lg_self, String.reduceEq, false_and, or_false, false_or, and_self, f3, z00, i1, i2, i3, mO', imL hl, imM' hb3, wpX5_release, wpX5_release_B32, wpX5_wrongAsk, wpX5_wrongAsk_B24, wpX4_checkNumbers, nk32, e20, le20, e2s, e30, le30, e10, uA_ne, uA_same, uA_2]
        exact ⟨v, hR.s67 _, hJ.mono⟩
    · try simp only [true_and, and_true, forall_eq, forall_const, true_implies, false_implies, not_true_eq_false, not_false_eq_true, le00, le10, e10, e01, eq_self, ck1, ck0, wpX5_thrown, uI_same, uI_2, uO_o, uO_1, up0, up00, uI67, ne_eq, Nat.reduceEqDiff, lg_self, String.reduceEq, false_and, or_false, false_or, and_self, f3, z00, i1, i2, i3, cO, ckL' hb2, wpL_release, wpX4_release, wpX4_askAsOwner, wpX5_wrongAsk, wpX5_wrongAsk_B24, wpX4_checkNumbers, uA_ne, uA_same, uA_2]
      try simp only [true_and, and_true, forall_eq, forall_const, true_implies, false_implies, not_true_eq_false, not_false_eq_true, le00, le10, e10, e01, eq_self, ck1, ck0, wpX5_thrown, uI_same, uI_2, uO_o, uO_1, up0, up00, uI67, ne_eq, Nat.reduceEqDiff, lg_self, String.reduceEq, false_and, or_false, false_or, and_self, f3, z00, i1, i2, i3, mO', imL' hb2, wpX5_release, wpX5_release_B32, wpX5_wrongAsk, wpX5_wrongAsk_B24, wpX4_checkNumbers, nk32, e20, le20, e2s, e30, le30, e10, uA_ne, uA_same, uA_2]
      exact ⟨v, hR.s67 _, hJ.mono⟩
  · have hn6 := hJ.nc6
    have cX : ∀ P px, wpX4_checkClient p1 w P px ↔ px "java/util/NoSuchElementException" w := fun P px => ckC' hR.cnc hb1
    have mX : ∀ P, wpX5_isClient p1 w P ↔ P 0 w := fun P => imC' hn6 hR.mnc hb1
    try simp only [true_and, and_true, forall_eq, forall_const, true_implies, false_implies, not_true_eq_false, not_false_eq_true, le00, le10, e10, e01, eq_self, ck1, ck0, wpX5_thrown, uI_same, uI_2, uO_o, uO_1, up0, up00, uI67, ne_eq, Nat.reduceEqDiff, lg_self, String.reduceEq, false_and, or_false, false_or, and_self, f3, z00, i1, i2, i3, cX, wpL_release, wpX4_release, wpX4_askAsOwner, wpX5_wrongAsk, wpX5_wrongAsk_B24, wpX4_checkNumbers, uA_ne, uA_same, uA_2]
    try simp only [true_and, and_true, forall_eq, forall_const, true_implies, false_implies, not_true_eq_false, not_false_eq_true, le00, le10, e10, e01, eq_self, ck1, ck0, wpX5_thrown, uI_same, uI_2, uO_o, uO_1, up0, up00, uI67, ne_eq, Nat.reduceEqDiff, lg_self, String.reduceEq, false_and, or_false, false_or, and_self, f3, z00, i1, i2, i3, mX, wpX5_release, wpX5_release_B32, wpX5_wrongAsk, wpX5_wrongAsk_B24, wpX4_checkNumbers, nk32, e20, le20, e2s, e30, le30, e10, uA_ne, uA_same, uA_2]
    exact ⟨v, hR.s67 _, hJ.mono⟩
set_option maxHeartbeats 1000000 in
theorem st_21 {xs : Nat → Int32} {L t : Nat} {w : St} (hL : L ≤ 2560) (h5 : 5 * t + 5 ≤ L) (hI : Inv t w) : wpL_C21 xs L (nI (5 * t)) w (Inv (t + 1)) := by
  obtain ⟨v, hR, hJ⟩ := hI
  have f3 : vp_in 0 1 := inN (a := 0) (by decide) (by decide)
  have z00 : (0 : Int32).toNatClampNeg = 0 := rfl
  have i1 : vp_in (nI (5 * t) + 1) L := inL (k := 1) h5 hL (by decide)
  have i2 : vp_in (nI (5 * t) + 2) L := inL (k := 2) h5 hL (by decide)
  have i3 : vp_in (nI (5 * t) + 3) L := inL (k := 3) h5 hL (by decide)
  have i4 : vp_in (nI (5 * t) + 4) L := inL (k := 4) h5 hL (by decide)
  unfold wpL_C21
  generalize e1 : xs (nI (5 * t) + 1).toNatClampNeg = p1
  generalize e2 : xs (nI (5 * t) + 2).toNatClampNeg = p2
  generalize e3 : xs (nI (5 * t) + 3).toNatClampNeg = p3
  generalize e4 : xs (nI (5 * t) + 4).toNatClampNeg = p4
  rcases ixc p1 v.nc (by have := hJ.nc6; omega) with ⟨c, hc, rfl⟩ | hb1
  · have hn6 := hJ.nc6
    have hc6 : c < 6 := by omega
    have f1c : vp_in (nI c) 6 := inN hc6 (by decide)
    have f2c : (nI c).toNatClampNeg = c := clN (by omega)
    have cO : ∀ P px, wpX4_checkClient (nI c) w P px ↔ P w := fun P px => ckC hn6 hR.cnc hc
    have mO' : ∀ P, wpX5_isClient (nI c) w P ↔ P 1 w := fun P => imC hn6 hR.mnc hc
    rcases ixc p2 4 (by decide) with ⟨l, hl, rfl⟩ | hb2
    · have f1l : vp_in (nI l) 4 := inN hl (by decide)
      have f2l : (nI l).toNatClampNeg = l := clN (by omega)
      rcases ixc p3 5 (by decide) with ⟨m, hm, rfl⟩ | hb3
      · rcases ixc p4 1000 (by decide) with ⟨x, hx, rfl⟩ | hb4
        · have g0 := eq_false (nlt0 (p := x) (by omega))
          have g1 : (nI x ≤ 999) = True := eq_true ((leN (b := 999) (by omega) (by decide)).mpr (by omega))
          have g2 : ∀ w P, wpX5_in (nI x) 0 999 w P ↔ P 1 w := fun w P => ok_m (N := 999) (by decide) hx _ _
          have ht : t < 512 := by omega
          have hn := hJ.ne250
          have f1m : vp_in (nI m) 5 := inN hm (by decide)
          have f2m : (nI m).toNatClampNeg = m := clN (by omega)
          try simp only [true_and, and_true, forall_eq, forall_const, true_implies, false_implies, not_true_eq_false, not_false_eq_true, le00, le10, e10, e01, eq_self, ck1, ck0, wpX5_thrown, uI_same, uI_2, uO_o, uO_1, up0, up00, uI67, ne_eq, Nat.reduceEqDiff, lg_self, String.reduceEq, false_and, or_false, false_or, and_self, f3, z00, i1, i2, i3, i4, cO, ckL hl, ckM hm, wpL_write, wpX4_write, wpX4_write_B20, wpX5_wrongAsk, wpX5_wrongAsk_B24, wpX4_checkNumbers, sp_X4_canAsk hc6 hm hn hR.cne, g0, g1, hR.cpa, hR.cdn, hR.cwi, hR.ctm, hR.ccu, hR.mpa, hR.mdn, hR.mld, hR.mtm, hR.mcu, uA_ne, uA_same, uA_2]
          cases hcan : can (v.pa c) (v.dn m) (decide (wof v.wi (v.tm m) = nI m)) v.ne with
          | false =>
            refine ⟨fun q => absurd q (by decide), fun _ => ?_⟩
            try simp only [true_and, and_true, forall_eq, forall_const, true_implies, false_implies, not_true_eq_false, not_false_eq_true, le00, le10, e10, e01, eq_self, ck1, ck0, wpX5_thrown, uI_same, uI_2, uO_o, uO_1, up0, up00, uI67, ne_eq, Nat.reduceEqDiff, lg_self, String.reduceEq, false_and, or_false, false_or, and_self, f3, z00, i1, i2, i3, i4, mO', imL hl, imM hm, g2, e40, le40, wpX5_write, wpX5_write_B35, wpX5_write_B56, wpX5_wrongAsk, wpX5_wrongAsk_B24, wpX4_checkNumbers, nk32, e20, le20, e2s, e30, le30, e10, uA_ne, uA_same, uA_2]
            rw [sp_X5_cannotAsk hc6 hm hn (hR.s67 0).mne]
            try simp only [true_and, and_true, forall_eq, forall_const, true_implies, false_implies, not_true_eq_false, not_false_eq_true, le00, le10, e10, e01, eq_self, ck1, ck0, wpX5_thrown, uI_same, uI_2, uO_o, uO_1, up0, up00, uI67, ne_eq, Nat.reduceEqDiff, lg_self, String.reduceEq, false_and, or_false, false_or, and_self, f3, z00, hR.cpa, hR.cdn, hR.cwi, hR.ctm, hR.ccu, hR.mpa, hR.mdn, hR.mld, hR.mtm, hR.mcu, lead_eq hJ ht hm, hcan, Bool.not_false, bIt, wpX5_write, wpX5_write_B35, wpX5_write_B56, nk32, e20, le20, e2s, e30, le30, e10, uA_ne, uA_same, uA_2]
            exact ⟨v, (hR.s67 _).s67 _, hJ.mono⟩
          | true =>
            refine ⟨fun _ => ?_, fun q => absurd q (by decide)⟩
            have hne : v.ne < 250 := by simp only [can, Bool.and_eq_true, decide_eq_true_eq] at hcan; exact hcan.2.2.2
            have hJ1 := hJ.term_up (Nat.le_refl t) _ (asked hJ hm) (by omega)
            refine sp_X3_consult hm ?_
            try simp only [true_and, and_true, forall_eq, forall_const, true_implies, false_implies, not_true_eq_false, not_false_eq_true, le00, le10, e10, e01, eq_self, ck1, ck0, wpX5_thrown, uI_same, uI_2, uO_o, uO_1, up0, up00, uI67, ne_eq, Nat.reduceEqDiff, lg_self, String.reduceEq, false_and, or_false, false_or, and_self, f3, z00, hR.cpa, hR.cdn, hR.cwi, hR.ctm, hR.ccu, hR.mpa, hR.mdn, hR.mld, hR.mtm, hR.mcu, uA_ne, uA_same, uA_2]
            have hR1 := hR.sc_tm (csT v.dn v.cu v.tm m)
            generalize hw1 : uA w 3 (csT v.dn v.cu v.tm m) = w1 at hR1 ⊢
            by_cases hg : csR v.dn v.cu v.tm m = 103
            · obtain ⟨hq, hTm, hTr⟩ := asked_g hm hg
              have hT : ∀ i, i < 5 → rch v.dn v.cu m i = true → csT v.dn v.cu v.tm m i = csT v.dn v.cu v.tm m m := fun i hi r => (hTr i hi r).trans hTm.symm
              have m1ow : w1.1 14 = v.ow := hR1.cow
              have m1en : w1.1 15 = v.en := hR1.cen
              have m1th : w1.1 16 = v.th := hR1.cth
              have m1now : w1.1 64 0 = nI v.now := hR1.cnow
              have m1wt : w1.1 18 = v.wt := hR1.cwt
              have m1nc : w1.1 66 0 = nI v.nc := hR1.cnc
              have m1pa : w1.1 25 = v.pa := hR1.cpa
              have m1ls : w1.1 28 = v.ls := hR1.cls
              have m1of : w1.1 26 = v.of := hR1.cof
              have m1lc : w1.1 29 = v.lc := hR1.clc
              have m1ku : w1.1 32 = v.ku := hR1.cku
              have m1q : w1.1 (20 + l) = v.q l := hR1.cq l hl
              obtain ⟨b, hcb⟩ : ∃ b, claimB v c l = b := ⟨_, rfl⟩
              simp only [claimB] at hcb
              try simp only [true_and, and_true, forall_eq, forall_const, true_implies, false_implies, not_true_eq_false, not_false_eq_true, le00, le10, e10, e01, eq_self, ck1, ck0, wpX5_thrown, uI_same, uI_2, uO_o, uO_1, up0, up00, uI67, ne_eq, Nat.reduceEqDiff, lg_self, String.reduceEq, false_and, or_false, false_or, and_self, f3, z00, hg, f1l, f2l, m1ow, m1en, m1th, m1now, m1wt, hR.cnow, hR.cow, hR.cen, hR.cth, uA_ne, uA_same, uA_2]
              refine sp_X0_hasClaim hc6 hl ?_
              try simp only [true_and, and_true, forall_eq, forall_const, true_implies, false_implies, not_true_eq_false, not_false_eq_true, le00, le10, e10, e01, eq_self, ck1, ck0, wpX5_thrown, uI_same, uI_2, uO_o, uO_1, up0, up00, uI67, ne_eq, Nat.reduceEqDiff, lg_self, String.reduceEq, false_and, or_false, false_or, and_self, f3, z00, m1pa, m1ls, m1of, m1lc, hcb, uA_ne, uA_same, uA_2]
              cases b with
              | false =>
                try simp only [true_and, and_true, forall_eq, forall_const, true_implies, false_implies, not_true_eq_false, not_false_eq_true, le00, le10, e10, e01, eq_self, ck1, ck0, wpX5_thrown, uI_same, uI_2, uO_o, uO_1, up0, up00, uI67, ne_eq, Nat.reduceEqDiff, lg_self, String.reduceEq, false_and, or_false, false_or, and_self, f3, z00, bIf, nk103, nk104, nk109, nk119, nk111, nk115, nk98, d111, d115, d103, i1, i2, i3, i4, uA_ne, uA_same, uA_2]
                cases hh : heldB (v.ow l) (v.en l) (nI v.now) (nI c) with
                | false =>
                  have hRC := hR1
                  generalize hw2 : uO _ _ = w2
                  have hR2 : R ((V.s_tm v (csT v.dn v.cu v.tm m))) v w2 := by rw [← hw2]; exact hRC.sO _
                  have ho2 : w2.2.2.1 0 = (111 : Int32).toInt64 := by rw [← hw2, uO_o, up00]
                  have mO2 : ∀ P, wpX5_isClient (nI c) w2 P ↔ P 1 w2 := fun P => imC hn6 hR2.mnc hc
                  try simp only [true_and, and_true, forall_eq, forall_const, true_implies, false_implies, not_true_eq_false, not_false_eq_true, le00, le10, e10, e01, eq_self, ck1, ck0, wpX5_thrown, uI_same, uI_2, uO_o, uO_1, up0, up00, uI67, ne_eq, Nat.reduceEqDiff, lg_self, String.reduceEq, false_and, or_false, false_or, and_self, f3, z00, i1, i2, i3, i4, g0, g1, g2, mO2, imL hl, imM hm, g2, e40, le40, wpX5_write, wpX5_write_B35, wpX5_write_B56, wpX5_wrongAsk, wpX5_wrongAsk_B24, nk32, e20, le20, e2s, e30, le30, e10, uA_ne, uA_same, uA_2]
                  rw [sp_X5_cannotAsk hc6 hm hn (hR2.s67 0).mne]
                  try simp only [true_and, and_true, forall_eq, forall_const, true_implies, false_implies, not_true_eq_false, not_false_eq_true, le00, le10, e10, e01, eq_self, ck1, ck0, wpX5_thrown, uI_same, uI_2, uO_o, uO_1, up0, up00, uI67, ne_eq, Nat.reduceEqDiff, lg_self, String.reduceEq, false_and, or_false, false_or, and_self, f3, z00, hR2.mpa, hR2.mdn, hR2.mld, hR2.mtm, lead_eq hJ ht hm, hcan, Bool.not_true, bIf, wpX5_write, wpX5_write_B35, wpX5_write_B56, nk32, e20, le20, e2s, e30, le30, e10, uA_ne, uA_same, uA_2]
                  refine sp_X5_looks hm ?_
                  try simp only [true_and, and_true, forall_eq, forall_const, true_implies, false_implies, not_true_eq_false, not_false_eq_true, le00, le10, e10, e01, eq_self, ck1, ck0, wpX5_thrown, uI_same, uI_2, uO_o, uO_1, up0, up00, uI67, ne_eq, Nat.reduceEqDiff, lg_self, String.reduceEq, false_and, or_false, false_or, and_self, f3, z00, hR2.mdn, hR2.mcu, hR2.mtm, hg, if_true, uA_ne, uA_same, uA_2]
                  have hR3 := (hR2.s67 0).sm_tm (csT v.dn v.cu v.tm m)
                  generalize hw3 : uA (uI w2 67 0) 39 (csT v.dn v.cu v.tm m) = w3 at hR3 ⊢
                  have m3ks : w3.1 38 = v.ks := hR3.mks
                  have m3kc : w3.1 45 = v.kc := hR3.mkc
                  have m3kv : w3.1 46 = v.kv := hR3.mkv
                  have m3va : w3.1 52 = v.va := hR3.mva
                  have m3ku : w3.1 47 = v.ku := hR3.mku
                  have m3of : w3.1 43 = v.of := hR3.mof
                  have m3now : w3.1 68 0 = nI v.now := hR3.mnow
                  have m3ow : w3.1 48 = v.ow := hR3.mow
                  have m3en : w3.1 49 = v.en := hR3.men
                  have m3th : w3.1 51 = v.th := hR3.mth
                  have m3wt : w3.1 54 = v.wt := hR3.mwt
                  have m3gr : w3.1 50 = v.gr := hR3.mgr
                  have m3lm : w3.2.1 1 = v.lm := hR3.mlm
                  have m3ls : w3.1 37 = v.ls := hR3.mls
                  have k67 : w3.1 67 0 = 0 := by rw [← hw3, uA_ne _ _ (by decide)]; exact uI_same _ _ _ _
                  have ho3 : w3.2.2.1 0 = (111 : Int32).toInt64 := by rw [← hw3]; exact ho2
                  have m3pa : w3.1 36 = v.pa := hR3.mpa
                  have m3lc : w3.1 44 = v.lc := hR3.mlc
                  have m3nc : w3.1 69 0 = nI v.nc := hR3.mnc
                  try simp only [true_and, and_true, forall_eq, forall_const, true_implies, false_implies, not_true_eq_false, not_false_eq_true, le00, le10, e10, e01, eq_self, ck1, ck0, wpX5_thrown, uI_same, uI_2, uO_o, uO_1, up0, up00, uI67, ne_eq, Nat.reduceEqDiff, lg_self, String.reduceEq, false_and, or_false, false_or, and_self, f3, z00, hB_M hJ hl m3ow m3en, m3ks, m3kc, m3kv, m3va, m3ku, m3of, m3now, m3ow, m3en, m3th, m3wt, m3gr, m3lm, m3ls, k67, hh, bIt, bIf, nk103, nk104, nk109, nk119, nk111, nk115, nk98, d111, d115, d103, uA_ne, uA_same, uA_2]
                  try simp only [true_and, and_true, forall_eq, forall_const, true_implies, false_implies, not_true_eq_false, not_false_eq_true, le00, le10, e10, e01, eq_self, ck1, ck0, wpX5_thrown, uI_same, uI_2, uO_o, uO_1, up0, up00, uI67, ne_eq, Nat.reduceEqDiff, lg_self, String.reduceEq, false_and, or_false, false_or, and_self, f3, z00, k67, ho3, bIt, bIf, nk103, nk104, nk109, nk119, nk111, nk115, nk98, d111, d115, d103, uA_ne, uA_same, uA_2]
                  exact ⟨_, R.fin hR3 rfl, hJ1.mono⟩
                | true =>
                  have hRC := hR1
                  generalize hw2 : uO _ _ = w2
                  have hR2 : R ((V.s_tm v (csT v.dn v.cu v.tm m))) v w2 := by rw [← hw2]; exact hRC.sO _
                  have ho2 : w2.2.2.1 0 = (111 : Int32).toInt64 := by rw [← hw2, uO_o, up00]
                  have mO2 : ∀ P, wpX5_isClient (nI c) w2 P ↔ P 1 w2 := fun P => imC hn6 hR2.mnc hc
                  try simp only [true_and, and_true, forall_eq, forall_const, true_implies, false_implies, not_true_eq_false, not_false_eq_true, le00, le10, e10, e01, eq_self, ck1, ck0, wpX5_thrown, uI_same, uI_2, uO_o, uO_1, up0, up00, uI67, ne_eq, Nat.reduceEqDiff, lg_self, String.reduceEq, false_and, or_false, false_or, and_self, f3, z00, i1, i2, i3, i4, g0, g1, g2, mO2, imL hl, imM hm, g2, e40, le40, wpX5_write, wpX5_write_B35, wpX5_write_B56, wpX5_wrongAsk, wpX5_wrongAsk_B24, nk32, e20, le20, e2s, e30, le30, e10, uA_ne, uA_same, uA_2]
                  rw [sp_X5_cannotAsk hc6 hm hn (hR2.s67 0).mne]
                  try simp only [true_and, and_true, forall_eq, forall_const, true_implies, false_implies, not_true_eq_false, not_false_eq_true, le00, le10, e10, e01, eq_self, ck1, ck0, wpX5_thrown, uI_same, uI_2, uO_o, uO_1, up0, up00, uI67, ne_eq, Nat.reduceEqDiff, lg_self, String.reduceEq, false_and, or_false, false_or, and_self, f3, z00, hR2.mpa, hR2.mdn, hR2.mld, hR2.mtm, lead_eq hJ ht hm, hcan, Bool.not_true, bIf, wpX5_write, wpX5_write_B35, wpX5_write_B56, nk32, e20, le20, e2s, e30, le30, e10, uA_ne, uA_same, uA_2]
                  refine sp_X5_looks hm ?_
                  try simp only [true_and, and_true, forall_eq, forall_const, true_implies, false_implies, not_true_eq_false, not_false_eq_true, le00, le10, e10, e01, eq_self, ck1, ck0, wpX5_thrown, uI_same, uI_2, uO_o, uO_1, up0, up00, uI67, ne_eq, Nat.reduceEqDiff, lg_self, String.reduceEq, false_and, or_false, false_or, and_self, f3, z00, hR2.mdn, hR2.mcu, hR2.mtm, hg, if_true, uA_ne, uA_same, uA_2]
                  have hR3 := (hR2.s67 0).sm_tm (csT v.dn v.cu v.tm m)
                  generalize hw3 : uA (uI w2 67 0) 39 (csT v.dn v.cu v.tm m) = w3 at hR3 ⊢
                  have m3ks : w3.1 38 = v.ks := hR3.mks
                  have m3kc : w3.1 45 = v.kc := hR3.mkc
                  have m3kv : w3.1 46 = v.kv := hR3.mkv
                  have m3va : w3.1 52 = v.va := hR3.mva
                  have m3ku : w3.1 47 = v.ku := hR3.mku
                  have m3of : w3.1 43 = v.of := hR3.mof
                  have m3now : w3.1 68 0 = nI v.now := hR3.mnow
                  have m3ow : w3.1 48 = v.ow := hR3.mow
                  have m3en : w3.1 49 = v.en := hR3.men
                  have m3th : w3.1 51 = v.th := hR3.mth
                  have m3wt : w3.1 54 = v.wt := hR3.mwt
                  have m3gr : w3.1 50 = v.gr := hR3.mgr
                  have m3lm : w3.2.1 1 = v.lm := hR3.mlm
                  have m3ls : w3.1 37 = v.ls := hR3.mls
                  have k67 : w3.1 67 0 = 0 := by rw [← hw3, uA_ne _ _ (by decide)]; exact uI_same _ _ _ _
                  have ho3 : w3.2.2.1 0 = (111 : Int32).toInt64 := by rw [← hw3]; exact ho2
                  have m3pa : w3.1 36 = v.pa := hR3.mpa
                  have m3lc : w3.1 44 = v.lc := hR3.mlc
                  have m3nc : w3.1 69 0 = nI v.nc := hR3.mnc
                  try simp only [true_and, and_true, forall_eq, forall_const, true_implies, false_implies, not_true_eq_false, not_false_eq_true, le00, le10, e10, e01, eq_self, ck1, ck0, wpX5_thrown, uI_same, uI_2, uO_o, uO_1, up0, up00, uI67, ne_eq, Nat.reduceEqDiff, lg_self, String.reduceEq, false_and, or_false, false_or, and_self, f3, z00, hB_M hJ hl m3ow m3en, m3ks, m3kc, m3kv, m3va, m3ku, m3of, m3now, m3ow, m3en, m3th, m3wt, m3gr, m3lm, m3ls, k67, hh, bIt, bIf, nk103, nk104, nk109, nk119, nk111, nk115, nk98, d111, d115, d103, uA_ne, uA_same, uA_2]
                  refine sp_X5_isClaimed hc6 hl ?_
                  try simp only [true_and, and_true, forall_eq, forall_const, true_implies, false_implies, not_true_eq_false, not_false_eq_true, le00, le10, e10, e01, eq_self, ck1, ck0, wpX5_thrown, uI_same, uI_2, uO_o, uO_1, up0, up00, uI67, ne_eq, Nat.reduceEqDiff, lg_self, String.reduceEq, false_and, or_false, false_or, and_self, f3, z00, m3pa, m3ls, m3of, m3lc, m3now, hcb, bIt, bIf, nk103, nk104, nk109, nk119, nk111, nk115, nk98, d111, d115, d103, uA_ne, uA_same, uA_2]
                  try simp only [true_and, and_true, forall_eq, forall_const, true_implies, false_implies, not_true_eq_false, not_false_eq_true, le00, le10, e10, e01, eq_self, ck1, ck0, wpX5_thrown, uI_same, uI_2, uO_o, uO_1, up0, up00, uI67, ne_eq, Nat.reduceEqDiff, lg_self, String.reduceEq, false_and, or_false, false_or, and_self, f3, z00, k67, ho3, bIt, bIf, nk103, nk104, nk109, nk119, nk111, nk115, nk98, d111, d115, d103, uA_ne, uA_same, uA_2]
                  exact ⟨_, R.fin hR3 rfl, hJ1.mono⟩
              | true =>
                try simp only [true_and, and_true, forall_eq, forall_const, true_implies, false_implies, not_true_eq_false, not_false_eq_true, le00, le10, e10, e01, eq_self, ck1, ck0, wpX5_thrown, uI_same, uI_2, uO_o, uO_1, up0, up00, uI67, ne_eq, Nat.reduceEqDiff, lg_self, String.reduceEq, false_and, or_false, false_or, and_self, f3, z00, bIt, nk103, nk104, nk109, nk119, nk111, nk115, nk98, d111, d115, d103, hB_C hl, m1ow, m1en, m1th, m1now, m1wt, hR.cnow, hR.cow, hR.cen, hR.cth, uA_ne, uA_same, uA_2]
                cases hh : heldB (v.ow l) (v.en l) (nI v.now) (nI c) with
                | false =>
                  try simp only [true_and, and_true, forall_eq, forall_const, true_implies, false_implies, not_true_eq_false, not_false_eq_true, le00, le10, e10, e01, eq_self, ck1, ck0, wpX5_thrown, uI_same, uI_2, uO_o, uO_1, up0, up00, uI67, ne_eq, Nat.reduceEqDiff, lg_self, String.reduceEq, false_and, or_false, false_or, and_self, f3, z00, bIf, nk103, nk104, nk109, nk119, nk111, nk115, nk98, d111, d115, d103, i1, i2, i3, i4, uA_ne, uA_same, uA_2]
                  have hRC := hR1
                  generalize hw2 : uO _ _ = w2
                  have hR2 : R ((V.s_tm v (csT v.dn v.cu v.tm m))) v w2 := by rw [← hw2]; exact hRC.sO _
                  have ho2 : w2.2.2.1 0 = (111 : Int32).toInt64 := by rw [← hw2, uO_o, up00]
                  have mO2 : ∀ P, wpX5_isClient (nI c) w2 P ↔ P 1 w2 := fun P => imC hn6 hR2.mnc hc
                  try simp only [true_and, and_true, forall_eq, forall_const, true_implies, false_implies, not_true_eq_false, not_false_eq_true, le00, le10, e10, e01, eq_self, ck1, ck0, wpX5_thrown, uI_same, uI_2, uO_o, uO_1, up0, up00, uI67, ne_eq, Nat.reduceEqDiff, lg_self, String.reduceEq, false_and, or_false, false_or, and_self, f3, z00, i1, i2, i3, i4, g0, g1, g2, mO2, imL hl, imM hm, g2, e40, le40, wpX5_write, wpX5_write_B35, wpX5_write_B56, wpX5_wrongAsk, wpX5_wrongAsk_B24, nk32, e20, le20, e2s, e30, le30, e10, uA_ne, uA_same, uA_2]
                  rw [sp_X5_cannotAsk hc6 hm hn (hR2.s67 0).mne]
                  try simp only [true_and, and_true, forall_eq, forall_const, true_implies, false_implies, not_true_eq_false, not_false_eq_true, le00, le10, e10, e01, eq_self, ck1, ck0, wpX5_thrown, uI_same, uI_2, uO_o, uO_1, up0, up00, uI67, ne_eq, Nat.reduceEqDiff, lg_self, String.reduceEq, false_and, or_false, false_or, and_self, f3, z00, hR2.mpa, hR2.mdn, hR2.mld, hR2.mtm, lead_eq hJ ht hm, hcan, Bool.not_true, bIf, wpX5_write, wpX5_write_B35, wpX5_write_B56, nk32, e20, le20, e2s, e30, le30, e10, uA_ne, uA_same, uA_2]
                  refine sp_X5_looks hm ?_
                  try simp only [true_and, and_true, forall_eq, forall_const, true_implies, false_implies, not_true_eq_false, not_false_eq_true, le00, le10, e10, e01, eq_self, ck1, ck0, wpX5_thrown, uI_same, uI_2, uO_o, uO_1, up0, up00, uI67, ne_eq, Nat.reduceEqDiff, lg_self, String.reduceEq, false_and, or_false, false_or, and_self, f3, z00, hR2.mdn, hR2.mcu, hR2.mtm, hg, if_true, uA_ne, uA_same, uA_2]
                  have hR3 := (hR2.s67 0).sm_tm (csT v.dn v.cu v.tm m)
                  generalize hw3 : uA (uI w2 67 0) 39 (csT v.dn v.cu v.tm m) = w3 at hR3 ⊢
                  have m3ks : w3.1 38 = v.ks := hR3.mks
                  have m3kc : w3.1 45 = v.kc := hR3.mkc
                  have m3kv : w3.1 46 = v.kv := hR3.mkv
                  have m3va : w3.1 52 = v.va := hR3.mva
                  have m3ku : w3.1 47 = v.ku := hR3.mku
                  have m3of : w3.1 43 = v.of := hR3.mof
                  have m3now : w3.1 68 0 = nI v.now := hR3.mnow
                  have m3ow : w3.1 48 = v.ow := hR3.mow
                  have m3en : w3.1 49 = v.en := hR3.men
                  have m3th : w3.1 51 = v.th := hR3.mth
                  have m3wt : w3.1 54 = v.wt := hR3.mwt
                  have m3gr : w3.1 50 = v.gr := hR3.mgr
                  have m3lm : w3.2.1 1 = v.lm := hR3.mlm
                  have m3ls : w3.1 37 = v.ls := hR3.mls
                  have k67 : w3.1 67 0 = 0 := by rw [← hw3, uA_ne _ _ (by decide)]; exact uI_same _ _ _ _
                  have ho3 : w3.2.2.1 0 = (111 : Int32).toInt64 := by rw [← hw3]; exact ho2
                  have m3pa : w3.1 36 = v.pa := hR3.mpa
                  have m3lc : w3.1 44 = v.lc := hR3.mlc
                  have m3nc : w3.1 69 0 = nI v.nc := hR3.mnc
                  try simp only [true_and, and_true, forall_eq, forall_const, true_implies, false_implies, not_true_eq_false, not_false_eq_true, le00, le10, e10, e01, eq_self, ck1, ck0, wpX5_thrown, uI_same, uI_2, uO_o, uO_1, up0, up00, uI67, ne_eq, Nat.reduceEqDiff, lg_self, String.reduceEq, false_and, or_false, false_or, and_self, f3, z00, hB_M hJ hl m3ow m3en, m3ks, m3kc, m3kv, m3va, m3ku, m3of, m3now, m3ow, m3en, m3th, m3wt, m3gr, m3lm, m3ls, k67, hh, bIt, bIf, nk103, nk104, nk109, nk119, nk111, nk115, nk98, d111, d115, d103, uA_ne, uA_same, uA_2]
                  try simp only [true_and, and_true, forall_eq, forall_const, true_implies, false_implies, not_true_eq_false, not_false_eq_true, le00, le10, e10, e01, eq_self, ck1, ck0, wpX5_thrown, uI_same, uI_2, uO_o, uO_1, up0, up00, uI67, ne_eq, Nat.reduceEqDiff, lg_self, String.reduceEq, false_and, or_false, false_or, and_self, f3, z00, k67, ho3, bIt, bIf, nk103, nk104, nk109, nk119, nk111, nk115, nk98, d111, d115, d103, uA_ne, uA_same, uA_2]
                  exact ⟨_, R.fin hR3 rfl, hJ1.mono⟩
                | true =>
                  try simp only [true_and, and_true, forall_eq, forall_const, true_implies, false_implies, not_true_eq_false, not_false_eq_true, le00, le10, e10, e01, eq_self, ck1, ck0, wpX5_thrown, uI_same, uI_2, uO_o, uO_1, up0, up00, uI67, ne_eq, Nat.reduceEqDiff, lg_self, String.reduceEq, false_and, or_false, false_or, and_self, f3, z00, bIt, nk103, nk104, nk109, nk119, nk111, nk115, nk98, d111, d115, d103, m1ow, m1en, m1th, m1now, m1wt, hR.cnow, hR.cow, hR.cen, hR.cth, uA_ne, uA_same, uA_2]
                  refine sp_X0_isKeptByPaused hn6 hl m1nc ?_
                  try simp only [true_and, and_true, forall_eq, forall_const, true_implies, false_implies, not_true_eq_false, not_false_eq_true, le00, le10, e10, e01, eq_self, ck1, ck0, wpX5_thrown, uI_same, uI_2, uO_o, uO_1, up0, up00, uI67, ne_eq, Nat.reduceEqDiff, lg_self, String.reduceEq, false_and, or_false, false_or, and_self, f3, z00, m1pa, m1ku, uA_ne, uA_same, uA_2]
                  cases hk : fr (kp v.pa v.ku (nI v.now) l) 0 v.nc with
                  | true =>
                    try simp only [true_and, and_true, forall_eq, forall_const, true_implies, false_implies, not_true_eq_false, not_false_eq_true, le00, le10, e10, e01, eq_self, ck1, ck0, wpX5_thrown, uI_same, uI_2, uO_o, uO_1, up0, up00, uI67, ne_eq, Nat.reduceEqDiff, lg_self, String.reduceEq, false_and, or_false, false_or, and_self, f3, z00, bIt, nk103, nk104, nk109, nk119, nk111, nk115, nk98, d111, d115, d103, i1, i2, i3, i4, uA_ne, uA_same, uA_2]
                    have hRC := hR1
                    generalize hw2 : uO _ _ = w2
                    have hR2 : R ((V.s_tm v (csT v.dn v.cu v.tm m))) v w2 := by rw [← hw2]; exact hRC.sO _
                    have ho2 : w2.2.2.1 0 = (98 : Int32).toInt64 := by rw [← hw2, uO_o, up00]
                    have mO2 : ∀ P, wpX5_isClient (nI c) w2 P ↔ P 1 w2 := fun P => imC hn6 hR2.mnc hc
                    try simp only [true_and, and_true, forall_eq, forall_const, true_implies, false_implies, not_true_eq_false, not_false_eq_true, le00, le10, e10, e01, eq_self, ck1, ck0, wpX5_thrown, uI_same, uI_2, uO_o, uO_1, up0, up00, uI67, ne_eq, Nat.reduceEqDiff, lg_self, String.reduceEq, false_and, or_false, false_or, and_self, f3, z00, i1, i2, i3, i4, g0, g1, g2, mO2, imL hl, imM hm, g2, e40, le40, wpX5_write, wpX5_write_B35, wpX5_write_B56, wpX5_wrongAsk, wpX5_wrongAsk_B24, nk32, e20, le20, e2s, e30, le30, e10, uA_ne, uA_same, uA_2]
                    rw [sp_X5_cannotAsk hc6 hm hn (hR2.s67 0).mne]
                    try simp only [true_and, and_true, forall_eq, forall_const, true_implies, false_implies, not_true_eq_false, not_false_eq_true, le00, le10, e10, e01, eq_self, ck1, ck0, wpX5_thrown, uI_same, uI_2, uO_o, uO_1, up0, up00, uI67, ne_eq, Nat.reduceEqDiff, lg_self, String.reduceEq, false_and, or_false, false_or, and_self, f3, z00, hR2.mpa, hR2.mdn, hR2.mld, hR2.mtm, lead_eq hJ ht hm, hcan, Bool.not_true, bIf, wpX5_write, wpX5_write_B35, wpX5_write_B56, nk32, e20, le20, e2s, e30, le30, e10, uA_ne, uA_same, uA_2]
                    refine sp_X5_looks hm ?_
                    try simp only [true_and, and_true, forall_eq, forall_const, true_implies, false_implies, not_true_eq_false, not_false_eq_true, le00, le10, e10, e01, eq_self, ck1, ck0, wpX5_thrown, uI_same, uI_2, uO_o, uO_1, up0, up00, uI67, ne_eq, Nat.reduceEqDiff, lg_self, String.reduceEq, false_and, or_false, false_or, and_self, f3, z00, hR2.mdn, hR2.mcu, hR2.mtm, hg, if_true, uA_ne, uA_same, uA_2]
                    have hR3 := (hR2.s67 0).sm_tm (csT v.dn v.cu v.tm m)
                    generalize hw3 : uA (uI w2 67 0) 39 (csT v.dn v.cu v.tm m) = w3 at hR3 ⊢
                    have m3ks : w3.1 38 = v.ks := hR3.mks
                    have m3kc : w3.1 45 = v.kc := hR3.mkc
                    have m3kv : w3.1 46 = v.kv := hR3.mkv
                    have m3va : w3.1 52 = v.va := hR3.mva
                    have m3ku : w3.1 47 = v.ku := hR3.mku
                    have m3of : w3.1 43 = v.of := hR3.mof
                    have m3now : w3.1 68 0 = nI v.now := hR3.mnow
                    have m3ow : w3.1 48 = v.ow := hR3.mow
                    have m3en : w3.1 49 = v.en := hR3.men
                    have m3th : w3.1 51 = v.th := hR3.mth
                    have m3wt : w3.1 54 = v.wt := hR3.mwt
                    have m3gr : w3.1 50 = v.gr := hR3.mgr
                    have m3lm : w3.2.1 1 = v.lm := hR3.mlm
                    have m3ls : w3.1 37 = v.ls := hR3.mls
                    have k67 : w3.1 67 0 = 0 := by rw [← hw3, uA_ne _ _ (by decide)]; exact uI_same _ _ _ _
                    have ho3 : w3.2.2.1 0 = (98 : Int32).toInt64 := by rw [← hw3]; exact ho2
                    have m3pa : w3.1 36 = v.pa := hR3.mpa
                    have m3lc : w3.1 44 = v.lc := hR3.mlc
                    have m3nc : w3.1 69 0 = nI v.nc := hR3.mnc
                    try simp only [true_and, and_true, forall_eq, forall_const, true_implies, false_implies, not_true_eq_false, not_false_eq_true, le00, le10, e10, e01, eq_self, ck1, ck0, wpX5_thrown, uI_same, uI_2, uO_o, uO_1, up0, up00, uI67, ne_eq, Nat.reduceEqDiff, lg_self, String.reduceEq, false_and, or_false, false_or, and_self, f3, z00, hB_M hJ hl m3ow m3en, m3ks, m3kc, m3kv, m3va, m3ku, m3of, m3now, m3ow, m3en, m3th, m3wt, m3gr, m3lm, m3ls, k67, hh, bIt, bIf, nk103, nk104, nk109, nk119, nk111, nk115, nk98, d111, d115, d103, uA_ne, uA_same, uA_2]
                    refine sp_X5_isClaimed hc6 hl ?_
                    try simp only [true_and, and_true, forall_eq, forall_const, true_implies, false_implies, not_true_eq_false, not_false_eq_true, le00, le10, e10, e01, eq_self, ck1, ck0, wpX5_thrown, uI_same, uI_2, uO_o, uO_1, up0, up00, uI67, ne_eq, Nat.reduceEqDiff, lg_self, String.reduceEq, false_and, or_false, false_or, and_self, f3, z00, m3pa, m3ls, m3of, m3lc, m3now, hcb, bIt, bIf, nk103, nk104, nk109, nk119, nk111, nk115, nk98, d111, d115, d103, uA_ne, uA_same, uA_2]
                    refine sp_X5_isBlocked hn6 hl m3nc ?_
                    try simp only [true_and, and_true, forall_eq, forall_const, true_implies, false_implies, not_true_eq_false, not_false_eq_true, le00, le10, e10, e01, eq_self, ck1, ck0, wpX5_thrown, uI_same, uI_2, uO_o, uO_1, up0, up00, uI67, ne_eq, Nat.reduceEqDiff, lg_self, String.reduceEq, false_and, or_false, false_or, and_self, f3, z00, m3pa, m3ku, m3now, hk, bIt, bIf, nk103, nk104, nk109, nk119, nk111, nk115, nk98, d111, d115, d103, uA_ne, uA_same, uA_2]
                    try simp only [true_and, and_true, forall_eq, forall_const, true_implies, false_implies, not_true_eq_false, not_false_eq_true, le00, le10, e10, e01, eq_self, ck1, ck0, wpX5_thrown, uI_same, uI_2, uO_o, uO_1, up0, up00, uI67, ne_eq, Nat.reduceEqDiff, lg_self, String.reduceEq, false_and, or_false, false_or, and_self, f3, z00, k67, ho3, bIt, bIf, nk103, nk104, nk109, nk119, nk111, nk115, nk98, d111, d115, d103, uA_ne, uA_same, uA_2]
                    exact ⟨_, R.fin hR3 rfl, hJ1.mono⟩
                  | false =>
                    try simp only [true_and, and_true, forall_eq, forall_const, true_implies, false_implies, not_true_eq_false, not_false_eq_true, le00, le10, e10, e01, eq_self, ck1, ck0, wpX5_thrown, uI_same, uI_2, uO_o, uO_1, up0, up00, uI67, ne_eq, Nat.reduceEqDiff, lg_self, String.reduceEq, false_and, or_false, false_or, and_self, f3, z00, bIf, nk103, nk104, nk109, nk119, nk111, nk115, nk98, d111, d115, d103, i1, i2, i3, i4, uA_ne, uA_same, uA_2]
                    refine RC_change hR1 hl hm hn6 hne (fun w1k hRC => ?_)
                    try simp only [true_and, and_true, forall_eq, forall_const, true_implies, false_implies, not_true_eq_false, not_false_eq_true, le00, le10, e10, e01, eq_self, ck1, ck0, wpX5_thrown, uI_same, uI_2, uO_o, uO_1, up0, up00, uI67, ne_eq, Nat.reduceEqDiff, lg_self, String.reduceEq, false_and, or_false, false_or, and_self, f3, z00, nk103, nk104, nk109, nk119, nk111, nk115, nk98, d111, d115, d103, i1, i2, i3, i4, uA_ne, uA_same, uA_2]
                    generalize hw2 : uO _ _ = w2
                    have hR2 : R (V.wC (V.s_tm v (csT v.dn v.cu v.tm m)) c l m (nI x)) v w2 := by rw [← hw2]; exact hRC.sO _
                    have ho2 : w2.2.2.1 0 = (103 : Int32).toInt64 := by rw [← hw2, uO_o, up00]
                    have mO2 : ∀ P, wpX5_isClient (nI c) w2 P ↔ P 1 w2 := fun P => imC hn6 hR2.mnc hc
                    try simp only [true_and, and_true, forall_eq, forall_const, true_implies, false_implies, not_true_eq_false, not_false_eq_true, le00, le10, e10, e01, eq_self, ck1, ck0, wpX5_thrown, uI_same, uI_2, uO_o, uO_1, up0, up00, uI67, ne_eq, Nat.reduceEqDiff, lg_self, String.reduceEq, false_and, or_false, false_or, and_self, f3, z00, i1, i2, i3, i4, g0, g1, g2, mO2, imL hl, imM hm, g2, e40, le40, wpX5_write, wpX5_write_B35, wpX5_write_B56, wpX5_wrongAsk, wpX5_wrongAsk_B24, nk32, e20, le20, e2s, e30, le30, e10, uA_ne, uA_same, uA_2]
                    rw [sp_X5_cannotAsk hc6 hm hn (hR2.s67 0).mne]
                    try simp only [true_and, and_true, forall_eq, forall_const, true_implies, false_implies, not_true_eq_false, not_false_eq_true, le00, le10, e10, e01, eq_self, ck1, ck0, wpX5_thrown, uI_same, uI_2, uO_o, uO_1, up0, up00, uI67, ne_eq, Nat.reduceEqDiff, lg_self, String.reduceEq, false_and, or_false, false_or, and_self, f3, z00, hR2.mpa, hR2.mdn, hR2.mld, hR2.mtm, lead_eq hJ ht hm, hcan, Bool.not_true, bIf, wpX5_write, wpX5_write_B35, wpX5_write_B56, nk32, e20, le20, e2s, e30, le30, e10, uA_ne, uA_same, uA_2]
                    refine sp_X5_looks hm ?_
                    try simp only [true_and, and_true, forall_eq, forall_const, true_implies, false_implies, not_true_eq_false, not_false_eq_true, le00, le10, e10, e01, eq_self, ck1, ck0, wpX5_thrown, uI_same, uI_2, uO_o, uO_1, up0, up00, uI67, ne_eq, Nat.reduceEqDiff, lg_self, String.reduceEq, false_and, or_false, false_or, and_self, f3, z00, hR2.mdn, hR2.mcu, hR2.mtm, hg, if_true, uA_ne, uA_same, uA_2]
                    have hR3 := (hR2.s67 0).sm_tm (csT v.dn v.cu v.tm m)
                    generalize hw3 : uA (uI w2 67 0) 39 (csT v.dn v.cu v.tm m) = w3 at hR3 ⊢
                    have m3ks : w3.1 38 = v.ks := hR3.mks
                    have m3kc : w3.1 45 = v.kc := hR3.mkc
                    have m3kv : w3.1 46 = v.kv := hR3.mkv
                    have m3va : w3.1 52 = v.va := hR3.mva
                    have m3ku : w3.1 47 = v.ku := hR3.mku
                    have m3of : w3.1 43 = v.of := hR3.mof
                    have m3now : w3.1 68 0 = nI v.now := hR3.mnow
                    have m3ow : w3.1 48 = v.ow := hR3.mow
                    have m3en : w3.1 49 = v.en := hR3.men
                    have m3th : w3.1 51 = v.th := hR3.mth
                    have m3wt : w3.1 54 = v.wt := hR3.mwt
                    have m3gr : w3.1 50 = v.gr := hR3.mgr
                    have m3lm : w3.2.1 1 = v.lm := hR3.mlm
                    have m3ls : w3.1 37 = v.ls := hR3.mls
                    have k67 : w3.1 67 0 = 0 := by rw [← hw3, uA_ne _ _ (by decide)]; exact uI_same _ _ _ _
                    have ho3 : w3.2.2.1 0 = (103 : Int32).toInt64 := by rw [← hw3]; exact ho2
                    have m3pa : w3.1 36 = v.pa := hR3.mpa
                    have m3lc : w3.1 44 = v.lc := hR3.mlc
                    have m3nc : w3.1 69 0 = nI v.nc := hR3.mnc
                    try simp only [true_and, and_true, forall_eq, forall_const, true_implies, false_implies, not_true_eq_false, not_false_eq_true, le00, le10, e10, e01, eq_self, ck1, ck0, wpX5_thrown, uI_same, uI_2, uO_o, uO_1, up0, up00, uI67, ne_eq, Nat.reduceEqDiff, lg_self, String.reduceEq, false_and, or_false, false_or, and_self, f3, z00, hB_M hJ hl m3ow m3en, m3ks, m3kc, m3kv, m3va, m3ku, m3of, m3now, m3ow, m3en, m3th, m3wt, m3gr, m3lm, m3ls, k67, hh, bIt, bIf, nk103, nk104, nk109, nk119, nk111, nk115, nk98, d111, d115, d103, uA_ne, uA_same, uA_2]
                    refine sp_X5_isClaimed hc6 hl ?_
                    try simp only [true_and, and_true, forall_eq, forall_const, true_implies, false_implies, not_true_eq_false, not_false_eq_true, le00, le10, e10, e01, eq_self, ck1, ck0, wpX5_thrown, uI_same, uI_2, uO_o, uO_1, up0, up00, uI67, ne_eq, Nat.reduceEqDiff, lg_self, String.reduceEq, false_and, or_false, false_or, and_self, f3, z00, m3pa, m3ls, m3of, m3lc, m3now, hcb, bIt, bIf, nk103, nk104, nk109, nk119, nk111, nk115, nk98, d111, d115, d103, uA_ne, uA_same, uA_2]
                    refine sp_X5_isBlocked hn6 hl m3nc ?_
                    try simp only [true_and, and_true, forall_eq, forall_const, true_implies, false_implies, not_true_eq_false, not_false_eq_true, le00, le10, e10, e01, eq_self, ck1, ck0, wpX5_thrown, uI_same, uI_2, uO_o, uO_1, up0, up00, uI67, ne_eq, Nat.reduceEqDiff, lg_self, String.reduceEq, false_and, or_false, false_or, and_self, f3, z00, m3pa, m3ku, m3now, hk, bIt, bIf, nk103, nk104, nk109, nk119, nk111, nk115, nk98, d111, d115, d103, uA_ne, uA_same, uA_2]
                    refine sp_X5_dropL hn6 hl m3nc (fun w4 e4 => ?_)
                    rw [m3ks, m3ku, m3va] at e4
                    have h4 := ((hR3.sm_ks (dv v.ks l v.nc)).sm_ku (dv v.ku l v.nc)).sm_va (upd v.va l (nI x))
                    rw [← e4] at h4
                    refine RM_entry (w0 := w3) h4 (by rw [e4]; exact (((Keep.r w3).a (by decide) _).a (by decide) _).a (by decide) _) hm hne (.inr (.inr (.inr rfl))) (fun w5 h5 k5 => ?_)
                    try simp only [true_and, and_true, forall_eq, forall_const, true_implies, false_implies, not_true_eq_false, not_false_eq_true, le00, le10, e10, e01, eq_self, ck1, ck0, wpX5_thrown, uI_same, uI_2, uO_o, uO_1, up0, up00, uI67, ne_eq, Nat.reduceEqDiff, lg_self, String.reduceEq, false_and, or_false, false_or, and_self, f3, z00, nk103, nk104, nk109, nk119, nk111, nk115, nk98, d111, d115, d103, k5.1, k5.2, k67, ho3, uA_ne, uA_same, uA_2]
                    exact ⟨_, R.fin h5 rfl, (hJ1.wr (by omega) hne hm hc hl hq hT).mono⟩
            · have nk : (narrow .char (.int (csR v.dn v.cu v.tm m)) = .int (csR v.dn v.cu v.tm m)) = True := by
                rcases csR_cases v.dn v.cu v.tm m with h | h | h <;> rw [h] <;> decide
              have n45 : (csR v.dn v.cu v.tm m = 45) = False := by
                rcases csR_cases v.dn v.cu v.tm m with h | h | h <;> rw [h] <;> decide
              try simp only [true_and, and_true, forall_eq, forall_const, true_implies, false_implies, not_true_eq_false, not_false_eq_true, le00, le10, e10, e01, eq_self, ck1, ck0, wpX5_thrown, uI_same, uI_2, uO_o, uO_1, up0, up00, uI67, ne_eq, Nat.reduceEqDiff, lg_self, String.reduceEq, false_and, or_false, false_or, and_self, f3, z00, hg, nk, i1, i2, i3, i4, wpL_write, wpX4_write, wpX4_write_B20, uA_ne, uA_same, uA_2]
              generalize hw2 : uO w1 _ = w2
              have hR2 : R (V.s_tm v (csT v.dn v.cu v.tm m)) v w2 := by rw [← hw2]; exact hR1.sO _
              have ho2 : w2.2.2.1 0 = (csR v.dn v.cu v.tm m).toInt64 := by rw [← hw2, uO_o, up00]
              have mO2 : ∀ P, wpX5_isClient (nI c) w2 P ↔ P 1 w2 := fun P => imC hn6 hR2.mnc hc
              try simp only [true_and, and_true, forall_eq, forall_const, true_implies, false_implies, not_true_eq_false, not_false_eq_true, le00, le10, e10, e01, eq_self, ck1, ck0, wpX5_thrown, uI_same, uI_2, uO_o, uO_1, up0, up00, uI67, ne_eq, Nat.reduceEqDiff, lg_self, String.reduceEq, false_and, or_false, false_or, and_self, f3, z00, i1, i2, i3, i4, mO2, imL hl, imM hm, g2, e40, le40, wpX5_write, wpX5_write_B35, wpX5_write_B56, wpX5_wrongAsk, wpX5_wrongAsk_B24, wpX4_checkNumbers, nk32, e20, le20, e2s, e30, le30, e10, uA_ne, uA_same, uA_2]
              rw [sp_X5_cannotAsk hc6 hm hn (hR2.s67 0).mne]
              try simp only [true_and, and_true, forall_eq, forall_const, true_implies, false_implies, not_true_eq_false, not_false_eq_true, le00, le10, e10, e01, eq_self, ck1, ck0, wpX5_thrown, uI_same, uI_2, uO_o, uO_1, up0, up00, uI67, ne_eq, Nat.reduceEqDiff, lg_self, String.reduceEq, false_and, or_false, false_or, and_self, f3, z00, hR2.mpa, hR2.mdn, hR2.mld, hR2.mtm, lead_eq hJ ht hm, hcan, Bool.not_true, bIf, wpX5_write, wpX5_write_B35, wpX5_write_B56, nk32, e20, le20, e2s, e30, le30, e10, uA_ne, uA_same, uA_2]
              refine sp_X5_looks hm ?_
              try simp only [true_and, and_true, forall_eq, forall_const, true_implies, false_implies, not_true_eq_false, not_false_eq_true, le00, le10, e10, e01, eq_self, ck1, ck0, wpX5_thrown, uI_same, uI_2, uO_o, uO_1, up0, up00, uI67, ne_eq, Nat.reduceEqDiff, lg_self, String.reduceEq, false_and, or_false, false_or, and_self, f3, z00, hR2.mdn, hR2.mcu, hR2.mtm, hg, if_false, n45, nk, ho2, uA_ne, uA_same, uA_2]
              exact ⟨_, R.fin ((hR2.s67 0).sm_tm (csT v.dn v.cu v.tm m)) rfl, hJ1.mono⟩
        · have hne : True := trivial
          have g2 : ∀ w P, wpX5_in p4 0 999 w P ↔ P 0 w := fun w P => bad_m (N := 999) (by decide) hb4 _ _
          rcases hb4 with h | ⟨h, h'⟩
          · try simp only [true_and, and_true, forall_eq, forall_const, true_implies, false_implies, not_true_eq_false, not_false_eq_true, le00, le10, e10, e01, eq_self, ck1, ck0, wpX5_thrown, uI_same, uI_2, uO_o, uO_1, up0, up00, uI67, ne_eq, Nat.reduceEqDiff, lg_self, String.reduceEq, false_and, or_false, false_or, and_self, f3, z00, i1, i2, i3, i4, h, cO, ckL hl, ckM hm, wpL_write, wpX4_write, wpX4_write_B20, wpX5_wrongAsk, wpX5_wrongAsk_B24, wpX4_checkNumbers, uA_ne, uA_same, uA_2]
            try simp only [true_and, and_true, forall_eq, forall_const, true_implies, false_implies, not_true_eq_false, not_false_eq_true, le00, le10, e10, e01, eq_self, ck1, ck0, wpX5_thrown, uI_same, uI_2, uO_o, uO_1, up0, up00, uI67, ne_eq, Nat.reduceEqDiff, lg_self, String.reduceEq, false_and, or_false, false_or, and_self, f3, z00, i1, i2, i3, i4, mO', imL hl, imM hm, g2, wpX5_write, wpX5_write_B35, wpX5_write_B56, wpX5_wrongAsk, wpX5_wrongAsk_B24, wpX4_checkNumbers, nk32, e20, le20, e2s, e30, le30, e10, uA_ne, uA_same, uA_2]
            exact ⟨v, (hR.s67 _).s67 _, hJ.mono⟩
          · have h'' : (p4 ≤ 999) = False := eq_false (fun q => absurd (Int32.le_trans h' q) (by decide))
            try simp only [true_and, and_true, forall_eq, forall_const, true_implies, false_implies, not_true_eq_false, not_false_eq_true, le00, le10, e10, e01, eq_self, ck1, ck0, wpX5_thrown, uI_same, uI_2, uO_o, uO_1, up0, up00, uI67, ne_eq, Nat.reduceEqDiff, lg_self, String.reduceEq, false_and, or_false, false_or, and_self, f3, z00, i1, i2, i3, i4, h, h'', cO, ckL hl, ckM hm, wpL_write, wpX4_write, wpX4_write_B20, wpX5_wrongAsk, wpX5_wrongAsk_B24, wpX4_checkNumbers, uA_ne, uA_same, uA_2]
            try simp only [true_and, and_true, forall_eq, forall_const, true_implies, false_implies, not_true_eq_false, not_false_eq_true, le00, le10, e10, e01, eq_self, ck1, ck0, wpX5_thrown, uI_same, uI_2, uO_o, uO_1, up0, up00, uI67, ne_eq, Nat.reduceEqDiff, lg_self, String.reduceEq, false_and, or_false, false_or, and_self, f3, z00, i1, i2, i3, i4, mO', imL hl, imM hm, g2, wpX5_write, wpX5_write_B35, wpX5_write_B56, wpX5_wrongAsk, wpX5_wrongAsk_B24, wpX4_checkNumbers, nk32, e20, le20, e2s, e30, le30, e10, uA_ne, uA_same, uA_2]
            exact ⟨v, (hR.s67 _).s67 _, hJ.mono⟩
      · try simp only [true_and, and_true, forall_eq, forall_const, true_implies, false_implies, not_true_eq_false, not_false_eq_true, le00, le10, e10, e01, eq_self, ck1, ck0, wpX5_thrown, uI_same, uI_2, uO_o, uO_1, up0, up00, uI67, ne_eq, Nat.reduceEqDiff, lg_self, String.reduceEq, false_and, or_false, false_or, and_self, f3, z00, i1, i2, i3, i4, cO, ckL hl, ckM' hb3, wpL_write, wpX4_write, wpX4_write_B20, wpX5_wrongAsk, wpX5_wrongAsk_B24, wpX4_checkNumbers, uA_ne, uA_same, uA_2]
        try simp only [true_and, and_true, forall_eq, forall_const, true_implies, false_implies, not_true_eq_false, not_false_eq_true, le00, le10, e10, e01, eq_self, ck1, ck0, wpX5_thrown, uI_same, uI_2, uO_o, uO_1, up0, up00, uI67, ne_eq, Nat.reduceEqDiff, lg_self, String.reduceEq, false_and, or_false, false_or, and_self, f3, z00, i1, i2, i3, i4, mO', imL hl, imM' hb3, wpX5_write, wpX5_write_B35, wpX5_write_B56, wpX5_wrongAsk, wpX5_wrongAsk_B24, wpX4_checkNumbers, nk32, e20, le20, e2s, e30, le30, e10, uA_ne, uA_same, uA_2]
        exact ⟨v, hR.s67 _, hJ.mono⟩
    · try simp only [true_and, and_true, forall_eq, forall_const, true_implies, false_implies, not_true_eq_false, not_false_eq_true, le00, le10, e10, e01, eq_self, ck1, ck0, wpX5_thrown, uI_same, uI_2, uO_o, uO_1, up0, up00, uI67, ne_eq, Nat.reduceEqDiff, lg_self, String.reduceEq, false_and, or_false, false_or, and_self, f3, z00, i1, i2, i3, i4, cO, ckL' hb2, wpL_write, wpX4_write, wpX4_write_B20, wpX5_wrongAsk, wpX5_wrongAsk_B24, wpX4_checkNumbers, uA_ne, uA_same, uA_2]
      try simp only [true_and, and_true, forall_eq, forall_const, true_implies, false_implies, not_true_eq_false, not_false_eq_true, le00, le10, e10, e01, eq_self, ck1, ck0, wpX5_thrown, uI_same, uI_2, uO_o, uO_1, up0, up00, uI67, ne_eq, Nat.reduceEqDiff, lg_self, String.reduceEq, false_and, or_false, false_or, and_self, f3, z00, i1, i2, i3, i4, mO', imL' hb2, wpX5_write, wpX5_write_B35, wpX5_write_B56, wpX5_wrongAsk, wpX5_wrongAsk_B24, wpX4_checkNumbers, nk32, e20, le20, e2s, e30, le30, e10, uA_ne, uA_same, uA_2]
      exact ⟨v, hR.s67 _, hJ.mono⟩
  · have hn6 := hJ.nc6
    have cX : ∀ P px, wpX4_checkClient p1 w P px ↔ px "java/util/NoSuchElementException" w := fun P px => ckC' hR.cnc hb1
    have mX : ∀ P, wpX5_isClient p1 w P ↔ P 0 w := fun P => imC' hn6 hR.mnc hb1
    try simp only [true_and, and_true, forall_eq, forall_const, true_implies, false_implies, not_true_eq_false, not_false_eq_true, le00, le10, e10, e01, eq_self, ck1, ck0, wpX5_thrown, uI_same, uI_2, uO_o, uO_1, up0, up00, uI67, ne_eq, Nat.reduceEqDiff, lg_self, String.reduceEq, false_and, or_false, false_or, and_self, f3, z00, i1, i2, i3, i4, cX, wpL_write, wpX4_write, wpX4_write_B20, wpX5_wrongAsk, wpX5_wrongAsk_B24, wpX4_checkNumbers, uA_ne, uA_same, uA_2]
    try simp only [true_and, and_true, forall_eq, forall_const, true_implies, false_implies, not_true_eq_false, not_false_eq_true, le00, le10, e10, e01, eq_self, ck1, ck0, wpX5_thrown, uI_same, uI_2, uO_o, uO_1, up0, up00, uI67, ne_eq, Nat.reduceEqDiff, lg_self, String.reduceEq, false_and, or_false, false_or, and_self, f3, z00, i1, i2, i3, i4, mX, wpX5_write, wpX5_write_B35, wpX5_write_B56, wpX5_wrongAsk, wpX5_wrongAsk_B24, wpX4_checkNumbers, nk32, e20, le20, e2s, e30, le30, e10, uA_ne, uA_same, uA_2]
    exact ⟨v, hR.s67 _, hJ.mono⟩
set_option maxHeartbeats 1000000 in
theorem st_15 {xs : Nat → Int32} {L t : Nat} {w : St} (hL : L ≤ 2560) (h5 : 5 * t + 5 ≤ L) (hI : Inv t w) : wpL_C15 xs L (nI (5 * t)) w (Inv (t + 1)) := by
  obtain ⟨v, hR, hJ⟩ := hI
  have f3 : vp_in 0 1 := inN (a := 0) (by decide) (by decide)
  have z00 : (0 : Int32).toNatClampNeg = 0 := rfl
  have i1 : vp_in (nI (5 * t) + 1) L := inL (k := 1) h5 hL (by decide)
  have i2 : vp_in (nI (5 * t) + 2) L := inL (k := 2) h5 hL (by decide)
  have i3 : vp_in (nI (5 * t) + 3) L := inL (k := 3) h5 hL (by decide)
  unfold wpL_C15
  generalize e1 : xs (nI (5 * t) + 1).toNatClampNeg = p1
  generalize e2 : xs (nI (5 * t) + 2).toNatClampNeg = p2
  generalize e3 : xs (nI (5 * t) + 3).toNatClampNeg = p3
  rcases ixc p1 v.nc (by have := hJ.nc6; omega) with ⟨c, hc, rfl⟩ | hb1
  · have hn6 := hJ.nc6
    have hc6 : c < 6 := by omega
    have f1c : vp_in (nI c) 6 := inN hc6 (by decide)
    have f2c : (nI c).toNatClampNeg = c := clN (by omega)
    have cO : ∀ P px, wpX4_checkClient (nI c) w P px ↔ P w := fun P px => ckC hn6 hR.cnc hc
    have mO' : ∀ P, wpX5_isClient (nI c) w P ↔ P 1 w := fun P => imC hn6 hR.mnc hc
    rcases ixc p2 4 (by decide) with ⟨l, hl, rfl⟩ | hb2
    · have f1l : vp_in (nI l) 4 := inN hl (by decide)
      have f2l : (nI l).toNatClampNeg = l := clN (by omega)
      rcases ixc p3 5 (by decide) with ⟨m, hm, rfl⟩ | hb3
      · have ht : t < 512 := by omega
        have hn := hJ.ne250
        have f1m : vp_in (nI m) 5 := inN hm (by decide)
        have f2m : (nI m).toNatClampNeg = m := clN (by omega)
        try simp only [true_and, and_true, forall_eq, forall_const, true_implies, false_implies, not_true_eq_false, not_false_eq_true, le00, le10, e10, e01, eq_self, ck1, ck0, wpX5_thrown, uI_same, uI_2, uO_o, uO_1, up0, up00, uI67, ne_eq, Nat.reduceEqDiff, lg_self, String.reduceEq, false_and, or_false, false_or, and_self, f3, z00, i1, i2, i3, cO, ckL hl, ckM hm, wpL_request, wpX4_request, wpX4_obtain, wpX5_wrongAsk, wpX5_wrongAsk_B24, wpX4_checkNumbers, sp_X4_canAsk hc6 hm hn hR.cne, hR.cpa, hR.cdn, hR.cwi, hR.ctm, hR.ccu, hR.mpa, hR.mdn, hR.mld, hR.mtm, hR.mcu, uA_ne, uA_same, uA_2]
        cases hcan : can (v.pa c) (v.dn m) (decide (wof v.wi (v.tm m) = nI m)) v.ne with
        | false =>
          refine ⟨fun q => absurd q (by decide), fun _ => ?_⟩
          try simp only [true_and, and_true, forall_eq, forall_const, true_implies, false_implies, not_true_eq_false, not_false_eq_true, le00, le10, e10, e01, eq_self, ck1, ck0, wpX5_thrown, uI_same, uI_2, uO_o, uO_1, up0, up00, uI67, ne_eq, Nat.reduceEqDiff, lg_self, String.reduceEq, false_and, or_false, false_or, and_self, f3, z00, i1, i2, i3, mO', imL hl, imM hm, wpX5_request, wpX5_asks, wpX5_asks_B32, wpX5_wrongAsk, wpX5_wrongAsk_B24, wpX4_checkNumbers, nk32, e20, le20, e2s, e30, le30, e10, uA_ne, uA_same, uA_2]
          rw [sp_X5_cannotAsk hc6 hm hn (hR.s67 0).mne]
          try simp only [true_and, and_true, forall_eq, forall_const, true_implies, false_implies, not_true_eq_false, not_false_eq_true, le00, le10, e10, e01, eq_self, ck1, ck0, wpX5_thrown, uI_same, uI_2, uO_o, uO_1, up0, up00, uI67, ne_eq, Nat.reduceEqDiff, lg_self, String.reduceEq, false_and, or_false, false_or, and_self, f3, z00, hR.cpa, hR.cdn, hR.cwi, hR.ctm, hR.ccu, hR.mpa, hR.mdn, hR.mld, hR.mtm, hR.mcu, lead_eq hJ ht hm, hcan, Bool.not_false, bIt, wpX5_request, wpX5_asks, wpX5_asks_B32, nk32, e20, le20, e2s, e30, le30, e10, uA_ne, uA_same, uA_2]
          exact ⟨v, (hR.s67 _).s67 _, hJ.mono⟩
        | true =>
          refine ⟨fun _ => ?_, fun q => absurd q (by decide)⟩
          have hne : v.ne < 250 := by simp only [can, Bool.and_eq_true, decide_eq_true_eq] at hcan; exact hcan.2.2.2
          have hJ1 := hJ.term_up (Nat.le_refl t) _ (asked hJ hm) (by omega)
          refine sp_X3_consult hm ?_
          try simp only [true_and, and_true, forall_eq, forall_const, true_implies, false_implies, not_true_eq_false, not_false_eq_true, le00, le10, e10, e01, eq_self, ck1, ck0, wpX5_thrown, uI_same, uI_2, uO_o, uO_1, up0, up00, uI67, ne_eq, Nat.reduceEqDiff, lg_self, String.reduceEq, false_and, or_false, false_or, and_self, f3, z00, hR.cpa, hR.cdn, hR.cwi, hR.ctm, hR.ccu, hR.mpa, hR.mdn, hR.mld, hR.mtm, hR.mcu, uA_ne, uA_same, uA_2]
          have hR1 := hR.sc_tm (csT v.dn v.cu v.tm m)
          generalize hw1 : uA w 3 (csT v.dn v.cu v.tm m) = w1 at hR1 ⊢
          by_cases hg : csR v.dn v.cu v.tm m = 103
          · obtain ⟨hq, hTm, hTr⟩ := asked_g hm hg
            have hT : ∀ i, i < 5 → rch v.dn v.cu m i = true → csT v.dn v.cu v.tm m i = csT v.dn v.cu v.tm m m := fun i hi r => (hTr i hi r).trans hTm.symm
            obtain ⟨N, hN, eN, hqv, hqd⟩ := hJ.wtq l hl
            have m1ow : w1.1 14 = v.ow := hR1.cow
            have m1en : w1.1 15 = v.en := hR1.cen
            have m1th : w1.1 16 = v.th := hR1.cth
            have m1now : w1.1 64 0 = nI v.now := hR1.cnow
            have m1wt : w1.1 18 = v.wt := hR1.cwt
            have m1nc : w1.1 66 0 = nI v.nc := hR1.cnc
            have m1pa : w1.1 25 = v.pa := hR1.cpa
            have m1ls : w1.1 28 = v.ls := hR1.cls
            have m1of : w1.1 26 = v.of := hR1.cof
            have m1lc : w1.1 29 = v.lc := hR1.clc
            have m1ku : w1.1 32 = v.ku := hR1.cku
            have m1q : w1.1 (20 + l) = v.q l := hR1.cq l hl
            have hroom : plc (v.q l) (nI c) 0 N = -1 → N < 6 := fun e => room hn6 hqv hqd hc (plc_no e hN)
            obtain ⟨tk1, tk2, tk3, tk4⟩ := take_ok (c := nI c) hN hqv hqd
            have hroom2 : tkN (v.q l) (nI c) N < 6 := room hn6 tk2 tk3 hc tk4
            try simp only [true_and, and_true, forall_eq, forall_const, true_implies, false_implies, not_true_eq_false, not_false_eq_true, le00, le10, e10, e01, eq_self, ck1, ck0, wpX5_thrown, uI_same, uI_2, uO_o, uO_1, up0, up00, uI67, ne_eq, Nat.reduceEqDiff, lg_self, String.reduceEq, false_and, or_false, false_or, and_self, f3, z00, hg, f1l, f2l, hB_C hl, m1ow, m1en, m1th, m1now, m1wt, hR.cnow, hR.cow, hR.cen, hR.cth, uA_ne, uA_same, uA_2]
            cases hh : heldB (v.ow l) (v.en l) (nI v.now) (nI c) with
            | true =>
              have ho := held_own hh
              have hf : fre (v.ow l) (v.en l) (nI v.now) = false := by
                cases hf : fre (v.ow l) (v.en l) (nI v.now) with
                | false => rfl
                | true => simp [heldB, hf] at hh
              try simp only [true_and, and_true, forall_eq, forall_const, true_implies, false_implies, not_true_eq_false, not_false_eq_true, le00, le10, e10, e01, eq_self, ck1, ck0, wpX5_thrown, uI_same, uI_2, uO_o, uO_1, up0, up00, uI67, ne_eq, Nat.reduceEqDiff, lg_self, String.reduceEq, false_and, or_false, false_or, and_self, f3, z00, bIt, nk103, nk104, nk109, nk119, nk111, nk115, nk98, d111, d115, d103, i1, i2, i3, uA_ne, uA_same, uA_2]
              have hRC := hR1
              generalize hw2 : uO _ _ = w2
              have hR2 : R ((V.s_tm v (csT v.dn v.cu v.tm m))) v w2 := by rw [← hw2]; exact hRC.sO _
              have ho2 : w2.2.2.1 0 = (104 : Int32).toInt64 := by rw [← hw2, uO_o, up00]
              have mO2 : ∀ P, wpX5_isClient (nI c) w2 P ↔ P 1 w2 := fun P => imC hn6 hR2.mnc hc
              try simp only [true_and, and_true, forall_eq, forall_const, true_implies, false_implies, not_true_eq_false, not_false_eq_true, le00, le10, e10, e01, eq_self, ck1, ck0, wpX5_thrown, uI_same, uI_2, uO_o, uO_1, up0, up00, uI67, ne_eq, Nat.reduceEqDiff, lg_self, String.reduceEq, false_and, or_false, false_or, and_self, f3, z00, i1, i2, i3, mO2, imL hl, imM hm, wpX5_request, wpX5_asks, wpX5_asks_B32, wpX5_wrongAsk, wpX5_wrongAsk_B24, nk32, e20, le20, e2s, e30, le30, e10, uA_ne, uA_same, uA_2]
              rw [sp_X5_cannotAsk hc6 hm hn (hR2.s67 0).mne]
              try simp only [true_and, and_true, forall_eq, forall_const, true_implies, false_implies, not_true_eq_false, not_false_eq_true, le00, le10, e10, e01, eq_self, ck1, ck0, wpX5_thrown, uI_same, uI_2, uO_o, uO_1, up0, up00, uI67, ne_eq, Nat.reduceEqDiff, lg_self, String.reduceEq, false_and, or_false, false_or, and_self, f3, z00, hR2.mpa, hR2.mdn, hR2.mld, hR2.mtm, lead_eq hJ ht hm, hcan, Bool.not_true, bIf, wpX5_request, wpX5_asks, wpX5_asks_B32, nk32, e20, le20, e2s, e30, le30, e10, uA_ne, uA_same, uA_2]
              refine sp_X5_looks hm ?_
              try simp only [true_and, and_true, forall_eq, forall_const, true_implies, false_implies, not_true_eq_false, not_false_eq_true, le00, le10, e10, e01, eq_self, ck1, ck0, wpX5_thrown, uI_same, uI_2, uO_o, uO_1, up0, up00, uI67, ne_eq, Nat.reduceEqDiff, lg_self, String.reduceEq, false_and, or_false, false_or, and_self, f3, z00, hR2.mdn, hR2.mcu, hR2.mtm, hg, if_true, uA_ne, uA_same, uA_2]
              have hR3 := (hR2.s67 0).sm_tm (csT v.dn v.cu v.tm m)
              generalize hw3 : uA (uI w2 67 0) 39 (csT v.dn v.cu v.tm m) = w3 at hR3 ⊢
              have m3ks : w3.1 38 = v.ks := hR3.mks
              have m3kc : w3.1 45 = v.kc := hR3.mkc
              have m3kv : w3.1 46 = v.kv := hR3.mkv
              have m3va : w3.1 52 = v.va := hR3.mva
              have m3ku : w3.1 47 = v.ku := hR3.mku
              have m3of : w3.1 43 = v.of := hR3.mof
              have m3now : w3.1 68 0 = nI v.now := hR3.mnow
              have m3ow : w3.1 48 = v.ow := hR3.mow
              have m3en : w3.1 49 = v.en := hR3.men
              have m3th : w3.1 51 = v.th := hR3.mth
              have m3wt : w3.1 54 = v.wt := hR3.mwt
              have m3gr : w3.1 50 = v.gr := hR3.mgr
              have m3lm : w3.2.1 1 = v.lm := hR3.mlm
              have m3ls : w3.1 37 = v.ls := hR3.mls
              have k67 : w3.1 67 0 = 0 := by rw [← hw3, uA_ne _ _ (by decide)]; exact uI_same _ _ _ _
              have ho3 : w3.2.2.1 0 = (104 : Int32).toInt64 := by rw [← hw3]; exact ho2
              try simp only [true_and, and_true, forall_eq, forall_const, true_implies, false_implies, not_true_eq_false, not_false_eq_true, le00, le10, e10, e01, eq_self, ck1, ck0, wpX5_thrown, uI_same, uI_2, uO_o, uO_1, up0, up00, uI67, ne_eq, Nat.reduceEqDiff, lg_self, String.reduceEq, false_and, or_false, false_or, and_self, f3, z00, wpX5_requests, wpX5_requests_B21, fB_M hJ hl m3ow m3en, m3ks, m3kc, m3kv, m3va, m3ku, m3of, m3now, m3ow, m3en, m3th, m3wt, m3gr, m3lm, m3ls, f1l, f2l, k67, hf, bIf, uA_ne, uA_same, uA_2]
              try simp only [true_and, and_true, forall_eq, forall_const, true_implies, false_implies, not_true_eq_false, not_false_eq_true, le00, le10, e10, e01, eq_self, ck1, ck0, wpX5_thrown, uI_same, uI_2, uO_o, uO_1, up0, up00, uI67, ne_eq, Nat.reduceEqDiff, lg_self, String.reduceEq, false_and, or_false, false_or, and_self, f3, z00, ho, ho3, nk103, nk104, nk109, nk119, nk111, nk115, nk98, d111, d115, d103, uA_ne, uA_same, uA_2]
              exact ⟨_, R.fin hR3 rfl, hJ1.mono⟩
            | false =>
              try simp only [true_and, and_true, forall_eq, forall_const, true_implies, false_implies, not_true_eq_false, not_false_eq_true, le00, le10, e10, e01, eq_self, ck1, ck0, wpX5_thrown, uI_same, uI_2, uO_o, uO_1, up0, up00, uI67, ne_eq, Nat.reduceEqDiff, lg_self, String.reduceEq, false_and, or_false, false_or, and_self, f3, z00, bIf, sp_X1_isFree hl, m1ow, m1en, m1th, m1now, m1wt, hR.cnow, hR.cow, hR.cen, hR.cth, uA_ne, uA_same, uA_2]
              cases hf : fre (v.ow l) (v.en l) (nI v.now) with
              | false =>
                have ho : (v.ow l = nI c) = False := eq_false (fun q => by rw [show heldB (v.ow l) (v.en l) (nI v.now) (nI c) = true from by unfold heldB; rw [hf, decide_eq_true q]; rfl] at hh; exact absurd hh (by decide))
                try simp only [true_and, and_true, forall_eq, forall_const, true_implies, false_implies, not_true_eq_false, not_false_eq_true, le00, le10, e10, e01, eq_self, ck1, ck0, wpX5_thrown, uI_same, uI_2, uO_o, uO_1, up0, up00, uI67, ne_eq, Nat.reduceEqDiff, lg_self, String.reduceEq, false_and, or_false, false_or, and_self, f3, z00, bIf, uA_ne, uA_same, uA_2]
                unfold wpX4_obtain_B89
                by_cases hp : plc (v.q l) (nI c) 0 N = -1
                · refine ⟨fun _ => RC_last hR1 hl hN eN (fun _ => ⟨hroom hp, fun w1k hRC => ?_⟩) (fun q => absurd hp q), fun q => absurd rfl q⟩
                  try simp only [true_and, and_true, forall_eq, forall_const, true_implies, false_implies, not_true_eq_false, not_false_eq_true, le00, le10, e10, e01, eq_self, ck1, ck0, wpX5_thrown, uI_same, uI_2, uO_o, uO_1, up0, up00, uI67, ne_eq, Nat.reduceEqDiff, lg_self, String.reduceEq, false_and, or_false, false_or, and_self, f3, z00, nk103, nk104, nk109, nk119, nk111, nk115, nk98, d111, d115, d103, i1, i2, i3, uA_ne, uA_same, uA_2]
                  generalize hw2 : uO _ _ = w2
                  have hR2 : R (V.pl (V.s_tm v (csT v.dn v.cu v.tm m)) l (nI c) N) v w2 := by rw [← hw2]; exact hRC.sO _
                  have ho2 : w2.2.2.1 0 = (119 : Int32).toInt64 := by rw [← hw2, uO_o, up00]
                  have mO2 : ∀ P, wpX5_isClient (nI c) w2 P ↔ P 1 w2 := fun P => imC hn6 hR2.mnc hc
                  try simp only [true_and, and_true, forall_eq, forall_const, true_implies, false_implies, not_true_eq_false, not_false_eq_true, le00, le10, e10, e01, eq_self, ck1, ck0, wpX5_thrown, uI_same, uI_2, uO_o, uO_1, up0, up00, uI67, ne_eq, Nat.reduceEqDiff, lg_self, String.reduceEq, false_and, or_false, false_or, and_self, f3, z00, i1, i2, i3, mO2, imL hl, imM hm, wpX5_request, wpX5_asks, wpX5_asks_B32, wpX5_wrongAsk, wpX5_wrongAsk_B24, nk32, e20, le20, e2s, e30, le30, e10, uA_ne, uA_same, uA_2]
                  rw [sp_X5_cannotAsk hc6 hm hn (hR2.s67 0).mne]
                  try simp only [true_and, and_true, forall_eq, forall_const, true_implies, false_implies, not_true_eq_false, not_false_eq_true, le00, le10, e10, e01, eq_self, ck1, ck0, wpX5_thrown, uI_same, uI_2, uO_o, uO_1, up0, up00, uI67, ne_eq, Nat.reduceEqDiff, lg_self, String.reduceEq, false_and, or_false, false_or, and_self, f3, z00, hR2.mpa, hR2.mdn, hR2.mld, hR2.mtm, lead_eq hJ ht hm, hcan, Bool.not_true, bIf, wpX5_request, wpX5_asks, wpX5_asks_B32, nk32, e20, le20, e2s, e30, le30, e10, uA_ne, uA_same, uA_2]
                  refine sp_X5_looks hm ?_
                  try simp only [true_and, and_true, forall_eq, forall_const, true_implies, false_implies, not_true_eq_false, not_false_eq_true, le00, le10, e10, e01, eq_self, ck1, ck0, wpX5_thrown, uI_same, uI_2, uO_o, uO_1, up0, up00, uI67, ne_eq, Nat.reduceEqDiff, lg_self, String.reduceEq, false_and, or_false, false_or, and_self, f3, z00, hR2.mdn, hR2.mcu, hR2.mtm, hg, if_true, uA_ne, uA_same, uA_2]
                  have hR3 := (hR2.s67 0).sm_tm (csT v.dn v.cu v.tm m)
                  generalize hw3 : uA (uI w2 67 0) 39 (csT v.dn v.cu v.tm m) = w3 at hR3 ⊢
                  have m3ks : w3.1 38 = v.ks := hR3.mks
                  have m3kc : w3.1 45 = v.kc := hR3.mkc
                  have m3kv : w3.1 46 = v.kv := hR3.mkv
                  have m3va : w3.1 52 = v.va := hR3.mva
                  have m3ku : w3.1 47 = v.ku := hR3.mku
                  have m3of : w3.1 43 = v.of := hR3.mof
                  have m3now : w3.1 68 0 = nI v.now := hR3.mnow
                  have m3ow : w3.1 48 = v.ow := hR3.mow
                  have m3en : w3.1 49 = v.en := hR3.men
                  have m3th : w3.1 51 = v.th := hR3.mth
                  have m3wt : w3.1 54 = v.wt := hR3.mwt
                  have m3gr : w3.1 50 = v.gr := hR3.mgr
                  have m3lm : w3.2.1 1 = v.lm := hR3.mlm
                  have m3ls : w3.1 37 = v.ls := hR3.mls
                  have k67 : w3.1 67 0 = 0 := by rw [← hw3, uA_ne _ _ (by decide)]; exact uI_same _ _ _ _
                  have ho3 : w3.2.2.1 0 = (119 : Int32).toInt64 := by rw [← hw3]; exact ho2
                  have mr : plc (fun j => w3.1 53 (6 * l + j)) (nI c) 0 N = plc (v.q l) (nI c) 0 N := mrow hR3 hl hN (nI c)
                  try simp only [true_and, and_true, forall_eq, forall_const, true_implies, false_implies, not_true_eq_false, not_false_eq_true, le00, le10, e10, e01, eq_self, ck1, ck0, wpX5_thrown, uI_same, uI_2, uO_o, uO_1, up0, up00, uI67, ne_eq, Nat.reduceEqDiff, lg_self, String.reduceEq, false_and, or_false, false_or, and_self, f3, z00, wpX5_requests, wpX5_requests_B21, fB_M hJ hl m3ow m3en, m3ks, m3kc, m3kv, m3va, m3ku, m3of, m3now, m3ow, m3en, m3th, m3wt, m3gr, m3lm, m3ls, f1l, f2l, k67, hf, bIf, ho, uA_ne, uA_same, uA_2]
                  unfold wpX5_requests_B63
                  refine ⟨fun _ => ?_, fun q => absurd rfl q⟩
                  refine sp_X5_placeIn hN hl (by rw [m3wt]; exact eN) ?_
                  rw [mr]
                  rw [hp]
                  refine ⟨fun q => absurd q (by decide), fun _ => RM_last hR3 (Keep.r w3) hl eN (hroom hp) (fun w5 h5 k5 => ?_)⟩
                  try simp only [true_and, and_true, forall_eq, forall_const, true_implies, false_implies, not_true_eq_false, not_false_eq_true, le00, le10, e10, e01, eq_self, ck1, ck0, wpX5_thrown, uI_same, uI_2, uO_o, uO_1, up0, up00, uI67, ne_eq, Nat.reduceEqDiff, lg_self, String.reduceEq, false_and, or_false, false_or, and_self, f3, z00, nk103, nk104, nk109, nk119, nk111, nk115, nk98, d111, d115, d103, k5.1, k5.2, k67, ho3, uA_ne, uA_same, uA_2]
                  exact ⟨_, R.fin h5 rfl, (hJ1.queue hJ.thv (wtU hJ.wtq (qOK_last (hroom hp) hqv hqd hc (plc_no hp hN)))).mono⟩
                · refine ⟨fun _ => RC_last hR1 hl hN eN (fun q => absurd q hp) (fun _ => ?_), fun q => absurd rfl q⟩
                  obtain ⟨p, hp6, ep⟩ := plc_yes hp hN
                  have hRC := hR1
                  try simp only [true_and, and_true, forall_eq, forall_const, true_implies, false_implies, not_true_eq_false, not_false_eq_true, le00, le10, e10, e01, eq_self, ck1, ck0, wpX5_thrown, uI_same, uI_2, uO_o, uO_1, up0, up00, uI67, ne_eq, Nat.reduceEqDiff, lg_self, String.reduceEq, false_and, or_false, false_or, and_self, f3, z00, nk103, nk104, nk109, nk119, nk111, nk115, nk98, d111, d115, d103, i1, i2, i3, uA_ne, uA_same, uA_2]
                  generalize hw2 : uO _ _ = w2
                  have hR2 : R ((V.s_tm v (csT v.dn v.cu v.tm m))) v w2 := by rw [← hw2]; exact hRC.sO _
                  have ho2 : w2.2.2.1 0 = (119 : Int32).toInt64 := by rw [← hw2, uO_o, up00]
                  have mO2 : ∀ P, wpX5_isClient (nI c) w2 P ↔ P 1 w2 := fun P => imC hn6 hR2.mnc hc
                  try simp only [true_and, and_true, forall_eq, forall_const, true_implies, false_implies, not_true_eq_false, not_false_eq_true, le00, le10, e10, e01, eq_self, ck1, ck0, wpX5_thrown, uI_same, uI_2, uO_o, uO_1, up0, up00, uI67, ne_eq, Nat.reduceEqDiff, lg_self, String.reduceEq, false_and, or_false, false_or, and_self, f3, z00, i1, i2, i3, mO2, imL hl, imM hm, wpX5_request, wpX5_asks, wpX5_asks_B32, wpX5_wrongAsk, wpX5_wrongAsk_B24, nk32, e20, le20, e2s, e30, le30, e10, uA_ne, uA_same, uA_2]
                  rw [sp_X5_cannotAsk hc6 hm hn (hR2.s67 0).mne]
                  try simp only [true_and, and_true, forall_eq, forall_const, true_implies, false_implies, not_true_eq_false, not_false_eq_true, le00, le10, e10, e01, eq_self, ck1, ck0, wpX5_thrown, uI_same, uI_2, uO_o, uO_1, up0, up00, uI67, ne_eq, Nat.reduceEqDiff, lg_self, String.reduceEq, false_and, or_false, false_or, and_self, f3, z00, hR2.mpa, hR2.mdn, hR2.mld, hR2.mtm, lead_eq hJ ht hm, hcan, Bool.not_true, bIf, wpX5_request, wpX5_asks, wpX5_asks_B32, nk32, e20, le20, e2s, e30, le30, e10, uA_ne, uA_same, uA_2]
                  refine sp_X5_looks hm ?_
                  try simp only [true_and, and_true, forall_eq, forall_const, true_implies, false_implies, not_true_eq_false, not_false_eq_true, le00, le10, e10, e01, eq_self, ck1, ck0, wpX5_thrown, uI_same, uI_2, uO_o, uO_1, up0, up00, uI67, ne_eq, Nat.reduceEqDiff, lg_self, String.reduceEq, false_and, or_false, false_or, and_self, f3, z00, hR2.mdn, hR2.mcu, hR2.mtm, hg, if_true, uA_ne, uA_same, uA_2]
                  have hR3 := (hR2.s67 0).sm_tm (csT v.dn v.cu v.tm m)
                  generalize hw3 : uA (uI w2 67 0) 39 (csT v.dn v.cu v.tm m) = w3 at hR3 ⊢
                  have m3ks : w3.1 38 = v.ks := hR3.mks
                  have m3kc : w3.1 45 = v.kc := hR3.mkc
                  have m3kv : w3.1 46 = v.kv := hR3.mkv
                  have m3va : w3.1 52 = v.va := hR3.mva
                  have m3ku : w3.1 47 = v.ku := hR3.mku
                  have m3of : w3.1 43 = v.of := hR3.mof
                  have m3now : w3.1 68 0 = nI v.now := hR3.mnow
                  have m3ow : w3.1 48 = v.ow := hR3.mow
                  have m3en : w3.1 49 = v.en := hR3.men
                  have m3th : w3.1 51 = v.th := hR3.mth
                  have m3wt : w3.1 54 = v.wt := hR3.mwt
                  have m3gr : w3.1 50 = v.gr := hR3.mgr
                  have m3lm : w3.2.1 1 = v.lm := hR3.mlm
                  have m3ls : w3.1 37 = v.ls := hR3.mls
                  have k67 : w3.1 67 0 = 0 := by rw [← hw3, uA_ne _ _ (by decide)]; exact uI_same _ _ _ _
                  have ho3 : w3.2.2.1 0 = (119 : Int32).toInt64 := by rw [← hw3]; exact ho2
                  have mr : plc (fun j => w3.1 53 (6 * l + j)) (nI c) 0 N = plc (v.q l) (nI c) 0 N := mrow hR3 hl hN (nI c)
                  try simp only [true_and, and_true, forall_eq, forall_const, true_implies, false_implies, not_true_eq_false, not_false_eq_true, le00, le10, e10, e01, eq_self, ck1, ck0, wpX5_thrown, uI_same, uI_2, uO_o, uO_1, up0, up00, uI67, ne_eq, Nat.reduceEqDiff, lg_self, String.reduceEq, false_and, or_false, false_or, and_self, f3, z00, wpX5_requests, wpX5_requests_B21, fB_M hJ hl m3ow m3en, m3ks, m3kc, m3kv, m3va, m3ku, m3of, m3now, m3ow, m3en, m3th, m3wt, m3gr, m3lm, m3ls, f1l, f2l, k67, hf, bIf, ho, uA_ne, uA_same, uA_2]
                  unfold wpX5_requests_B63
                  refine ⟨fun _ => ?_, fun q => absurd rfl q⟩
                  refine sp_X5_placeIn hN hl (by rw [m3wt]; exact eN) ?_
                  rw [mr]
                  rw [ep]
                  refine ⟨fun _ => ?_, fun q => absurd (ge0 (show p < 2147483648 by omega)) q⟩
                  try simp only [true_and, and_true, forall_eq, forall_const, true_implies, false_implies, not_true_eq_false, not_false_eq_true, le00, le10, e10, e01, eq_self, ck1, ck0, wpX5_thrown, uI_same, uI_2, uO_o, uO_1, up0, up00, uI67, ne_eq, Nat.reduceEqDiff, lg_self, String.reduceEq, false_and, or_false, false_or, and_self, f3, z00, nk103, nk104, nk109, nk119, nk111, nk115, nk98, d111, d115, d103, k67, ho3, uA_ne, uA_same, uA_2]
                  exact ⟨_, R.fin hR3 rfl, hJ1.mono⟩
              | true =>
                try simp only [true_and, and_true, forall_eq, forall_const, true_implies, false_implies, not_true_eq_false, not_false_eq_true, le00, le10, e10, e01, eq_self, ck1, ck0, wpX5_thrown, uI_same, uI_2, uO_o, uO_1, up0, up00, uI67, ne_eq, Nat.reduceEqDiff, lg_self, String.reduceEq, false_and, or_false, false_or, and_self, f3, z00, bIt, wpX1_isNext, wpX1_isNext_B21, m1ow, m1en, m1th, m1now, m1wt, hR.cnow, hR.cow, hR.cen, hR.cth, eN, f1l, f2l, hl, m1q, uA_ne, uA_same, uA_2]
                by_cases hz : N = 0
                · have z0 : (nI N = 0) = True := eq_true (by rw [hz]; rfl)
                  try simp only [true_and, and_true, forall_eq, forall_const, true_implies, false_implies, not_true_eq_false, not_false_eq_true, le00, le10, e10, e01, eq_self, ck1, ck0, wpX5_thrown, uI_same, uI_2, uO_o, uO_1, up0, up00, uI67, ne_eq, Nat.reduceEqDiff, lg_self, String.reduceEq, false_and, or_false, false_or, and_self, f3, z00, z0, uA_ne, uA_same, uA_2]
                  refine RC_grant hR1 hc6 hl hm hN eN hne (fun w1k hRC => ?_)
                  try simp only [true_and, and_true, forall_eq, forall_const, true_implies, false_implies, not_true_eq_false, not_false_eq_true, le00, le10, e10, e01, eq_self, ck1, ck0, wpX5_thrown, uI_same, uI_2, uO_o, uO_1, up0, up00, uI67, ne_eq, Nat.reduceEqDiff, lg_self, String.reduceEq, false_and, or_false, false_or, and_self, f3, z00, nk103, nk104, nk109, nk119, nk111, nk115, nk98, d111, d115, d103, i1, i2, i3, uA_ne, uA_same, uA_2]
                  generalize hw2 : uO _ _ = w2
                  have hR2 : R (V.gC (V.s_tm v (csT v.dn v.cu v.tm m)) c l m N) v w2 := by rw [← hw2]; exact hRC.sO _
                  have ho2 : w2.2.2.1 0 = (103 : Int32).toInt64 := by rw [← hw2, uO_o, up00]
                  have mO2 : ∀ P, wpX5_isClient (nI c) w2 P ↔ P 1 w2 := fun P => imC hn6 hR2.mnc hc
                  try simp only [true_and, and_true, forall_eq, forall_const, true_implies, false_implies, not_true_eq_false, not_false_eq_true, le00, le10, e10, e01, eq_self, ck1, ck0, wpX5_thrown, uI_same, uI_2, uO_o, uO_1, up0, up00, uI67, ne_eq, Nat.reduceEqDiff, lg_self, String.reduceEq, false_and, or_false, false_or, and_self, f3, z00, i1, i2, i3, mO2, imL hl, imM hm, wpX5_request, wpX5_asks, wpX5_asks_B32, wpX5_wrongAsk, wpX5_wrongAsk_B24, nk32, e20, le20, e2s, e30, le30, e10, uA_ne, uA_same, uA_2]
                  rw [sp_X5_cannotAsk hc6 hm hn (hR2.s67 0).mne]
                  try simp only [true_and, and_true, forall_eq, forall_const, true_implies, false_implies, not_true_eq_false, not_false_eq_true, le00, le10, e10, e01, eq_self, ck1, ck0, wpX5_thrown, uI_same, uI_2, uO_o, uO_1, up0, up00, uI67, ne_eq, Nat.reduceEqDiff, lg_self, String.reduceEq, false_and, or_false, false_or, and_self, f3, z00, hR2.mpa, hR2.mdn, hR2.mld, hR2.mtm, lead_eq hJ ht hm, hcan, Bool.not_true, bIf, wpX5_request, wpX5_asks, wpX5_asks_B32, nk32, e20, le20, e2s, e30, le30, e10, uA_ne, uA_same, uA_2]
                  refine sp_X5_looks hm ?_
                  try simp only [true_and, and_true, forall_eq, forall_const, true_implies, false_implies, not_true_eq_false, not_false_eq_true, le00, le10, e10, e01, eq_self, ck1, ck0, wpX5_thrown, uI_same, uI_2, uO_o, uO_1, up0, up00, uI67, ne_eq, Nat.reduceEqDiff, lg_self, String.reduceEq, false_and, or_false, false_or, and_self, f3, z00, hR2.mdn, hR2.mcu, hR2.mtm, hg, if_true, uA_ne, uA_same, uA_2]
                  have hR3 := (hR2.s67 0).sm_tm (csT v.dn v.cu v.tm m)
                  generalize hw3 : uA (uI w2 67 0) 39 (csT v.dn v.cu v.tm m) = w3 at hR3 ⊢
                  have m3ks : w3.1 38 = v.ks := hR3.mks
                  have m3kc : w3.1 45 = v.kc := hR3.mkc
                  have m3kv : w3.1 46 = v.kv := hR3.mkv
                  have m3va : w3.1 52 = v.va := hR3.mva
                  have m3ku : w3.1 47 = v.ku := hR3.mku
                  have m3of : w3.1 43 = v.of := hR3.mof
                  have m3now : w3.1 68 0 = nI v.now := hR3.mnow
                  have m3ow : w3.1 48 = v.ow := hR3.mow
                  have m3en : w3.1 49 = v.en := hR3.men
                  have m3th : w3.1 51 = v.th := hR3.mth
                  have m3wt : w3.1 54 = v.wt := hR3.mwt
                  have m3gr : w3.1 50 = v.gr := hR3.mgr
                  have m3lm : w3.2.1 1 = v.lm := hR3.mlm
                  have m3ls : w3.1 37 = v.ls := hR3.mls
                  have k67 : w3.1 67 0 = 0 := by rw [← hw3, uA_ne _ _ (by decide)]; exact uI_same _ _ _ _
                  have ho3 : w3.2.2.1 0 = (103 : Int32).toInt64 := by rw [← hw3]; exact ho2
                  have mr : plc (fun j => w3.1 53 (6 * l + j)) (nI c) 0 N = plc (v.q l) (nI c) 0 N := mrow hR3 hl hN (nI c)
                  try simp only [true_and, and_true, forall_eq, forall_const, true_implies, false_implies, not_true_eq_false, not_false_eq_true, le00, le10, e10, e01, eq_self, ck1, ck0, wpX5_thrown, uI_same, uI_2, uO_o, uO_1, up0, up00, uI67, ne_eq, Nat.reduceEqDiff, lg_self, String.reduceEq, false_and, or_false, false_or, and_self, f3, z00, wpX5_requests, wpX5_requests_B21, fB_M hJ hl m3ow m3en, m3ks, m3kc, m3kv, m3va, m3ku, m3of, m3now, m3ow, m3en, m3th, m3wt, m3gr, m3lm, m3ls, f1l, f2l, k67, hf, bIt, eN, z0, uA_ne, uA_same, uA_2]
                  unfold wpX5_requests_B47
                  refine RM_grants hR3 (Keep.r w3) hc6 hl hN eN (fun w4 h4 k4 => ?_)
                  refine RM_entry h4 k4 hm hne (.inl rfl) (fun w5 h5 k5 => ?_)
                  try simp only [true_and, and_true, forall_eq, forall_const, true_implies, false_implies, not_true_eq_false, not_false_eq_true, le00, le10, e10, e01, eq_self, ck1, ck0, wpX5_thrown, uI_same, uI_2, uO_o, uO_1, up0, up00, uI67, ne_eq, Nat.reduceEqDiff, lg_self, String.reduceEq, false_and, or_false, false_or, and_self, f3, z00, nk103, nk104, nk109, nk119, nk111, nk115, nk98, d111, d115, d103, k5.1, k5.2, k67, ho3, uA_ne, uA_same, uA_2]
                  exact ⟨_, R.fin h5 rfl, (hJ1.grant (by omega) hne hm hc hl hq hT hf eN hN).mono⟩
                · have z0 : (nI N = 0) = False := eq_false (fun q => hz (nI_inj (b := 0) (by omega) (by decide) q))
                  have j6 : vp_in 0 6 := inN (a := 0) (by decide) (by decide)
                  by_cases h0 : v.q l 0 = nI c
                  · try simp only [true_and, and_true, forall_eq, forall_const, true_implies, false_implies, not_true_eq_false, not_false_eq_true, le00, le10, e10, e01, eq_self, ck1, ck0, wpX5_thrown, uI_same, uI_2, uO_o, uO_1, up0, up00, uI67, ne_eq, Nat.reduceEqDiff, lg_self, String.reduceEq, false_and, or_false, false_or, and_self, f3, z00, z0, j6, m1q, h0, uA_ne, uA_same, uA_2]
                    refine RC_grant hR1 hc6 hl hm hN eN hne (fun w1k hRC => ?_)
                    try simp only [true_and, and_true, forall_eq, forall_const, true_implies, false_implies, not_true_eq_false, not_false_eq_true, le00, le10, e10, e01, eq_self, ck1, ck0, wpX5_thrown, uI_same, uI_2, uO_o, uO_1, up0, up00, uI67, ne_eq, Nat.reduceEqDiff, lg_self, String.reduceEq, false_and, or_false, false_or, and_self, f3, z00, nk103, nk104, nk109, nk119, nk111, nk115, nk98, d111, d115, d103, i1, i2, i3, uA_ne, uA_same, uA_2]
                    generalize hw2 : uO _ _ = w2
                    have hR2 : R (V.gC (V.s_tm v (csT v.dn v.cu v.tm m)) c l m N) v w2 := by rw [← hw2]; exact hRC.sO _
                    have ho2 : w2.2.2.1 0 = (103 : Int32).toInt64 := by rw [← hw2, uO_o, up00]
                    have mO2 : ∀ P, wpX5_isClient (nI c) w2 P ↔ P 1 w2 := fun P => imC hn6 hR2.mnc hc
                    try simp only [true_and, and_true, forall_eq, forall_const, true_implies, false_implies, not_true_eq_false, not_false_eq_true, le00, le10, e10, e01, eq_self, ck1, ck0, wpX5_thrown, uI_same, uI_2, uO_o, uO_1, up0, up00, uI67, ne_eq, Nat.reduceEqDiff, lg_self, String.reduceEq, false_and, or_false, false_or, and_self, f3, z00, i1, i2, i3, mO2, imL hl, imM hm, wpX5_request, wpX5_asks, wpX5_asks_B32, wpX5_wrongAsk, wpX5_wrongAsk_B24, nk32, e20, le20, e2s, e30, le30, e10, uA_ne, uA_same, uA_2]
                    rw [sp_X5_cannotAsk hc6 hm hn (hR2.s67 0).mne]
                    try simp only [true_and, and_true, forall_eq, forall_const, true_implies, false_implies, not_true_eq_false, not_false_eq_true, le00, le10, e10, e01, eq_self, ck1, ck0, wpX5_thrown, uI_same, uI_2, uO_o, uO_1, up0, up00, uI67, ne_eq, Nat.reduceEqDiff, lg_self, String.reduceEq, false_and, or_false, false_or, and_self, f3, z00, hR2.mpa, hR2.mdn, hR2.mld, hR2.mtm, lead_eq hJ ht hm, hcan, Bool.not_true, bIf, wpX5_request, wpX5_asks, wpX5_asks_B32, nk32, e20, le20, e2s, e30, le30, e10, uA_ne, uA_same, uA_2]
                    refine sp_X5_looks hm ?_
                    try simp only [true_and, and_true, forall_eq, forall_const, true_implies, false_implies, not_true_eq_false, not_false_eq_true, le00, le10, e10, e01, eq_self, ck1, ck0, wpX5_thrown, uI_same, uI_2, uO_o, uO_1, up0, up00, uI67, ne_eq, Nat.reduceEqDiff, lg_self, String.reduceEq, false_and, or_false, false_or, and_self, f3, z00, hR2.mdn, hR2.mcu, hR2.mtm, hg, if_true, uA_ne, uA_same, uA_2]
                    have hR3 := (hR2.s67 0).sm_tm (csT v.dn v.cu v.tm m)
                    generalize hw3 : uA (uI w2 67 0) 39 (csT v.dn v.cu v.tm m) = w3 at hR3 ⊢
                    have m3ks : w3.1 38 = v.ks := hR3.mks
                    have m3kc : w3.1 45 = v.kc := hR3.mkc
                    have m3kv : w3.1 46 = v.kv := hR3.mkv
                    have m3va : w3.1 52 = v.va := hR3.mva
                    have m3ku : w3.1 47 = v.ku := hR3.mku
                    have m3of : w3.1 43 = v.of := hR3.mof
                    have m3now : w3.1 68 0 = nI v.now := hR3.mnow
                    have m3ow : w3.1 48 = v.ow := hR3.mow
                    have m3en : w3.1 49 = v.en := hR3.men
                    have m3th : w3.1 51 = v.th := hR3.mth
                    have m3wt : w3.1 54 = v.wt := hR3.mwt
                    have m3gr : w3.1 50 = v.gr := hR3.mgr
                    have m3lm : w3.2.1 1 = v.lm := hR3.mlm
                    have m3ls : w3.1 37 = v.ls := hR3.mls
                    have k67 : w3.1 67 0 = 0 := by rw [← hw3, uA_ne _ _ (by decide)]; exact uI_same _ _ _ _
                    have ho3 : w3.2.2.1 0 = (103 : Int32).toInt64 := by rw [← hw3]; exact ho2
                    have mr : plc (fun j => w3.1 53 (6 * l + j)) (nI c) 0 N = plc (v.q l) (nI c) 0 N := mrow hR3 hl hN (nI c)
                    try simp only [true_and, and_true, forall_eq, forall_const, true_implies, false_implies, not_true_eq_false, not_false_eq_true, le00, le10, e10, e01, eq_self, ck1, ck0, wpX5_thrown, uI_same, uI_2, uO_o, uO_1, up0, up00, uI67, ne_eq, Nat.reduceEqDiff, lg_self, String.reduceEq, false_and, or_false, false_or, and_self, f3, z00, wpX5_requests, wpX5_requests_B21, fB_M hJ hl m3ow m3en, m3ks, m3kc, m3kv, m3va, m3ku, m3of, m3now, m3ow, m3en, m3th, m3wt, m3gr, m3lm, m3ls, f1l, f2l, k67, hf, bIt, eN, z0, uA_ne, uA_same, uA_2]
                    refine sp_X5_placeIn hN hl (by rw [m3wt]; exact eN) ?_
                    rw [mr]
                    rw [plc_0 hN hz]
                    refine ⟨fun _ => ?_, fun q => absurd h0 q⟩
                    unfold wpX5_requests_B47
                    refine RM_grants hR3 (Keep.r w3) hc6 hl hN eN (fun w4 h4 k4 => ?_)
                    refine RM_entry h4 k4 hm hne (.inl rfl) (fun w5 h5 k5 => ?_)
                    try simp only [true_and, and_true, forall_eq, forall_const, true_implies, false_implies, not_true_eq_false, not_false_eq_true, le00, le10, e10, e01, eq_self, ck1, ck0, wpX5_thrown, uI_same, uI_2, uO_o, uO_1, up0, up00, uI67, ne_eq, Nat.reduceEqDiff, lg_self, String.reduceEq, false_and, or_false, false_or, and_self, f3, z00, nk103, nk104, nk109, nk119, nk111, nk115, nk98, d111, d115, d103, k5.1, k5.2, k67, ho3, uA_ne, uA_same, uA_2]
                    exact ⟨_, R.fin h5 rfl, (hJ1.grant (by omega) hne hm hc hl hq hT hf eN hN).mono⟩
                  · try simp only [true_and, and_true, forall_eq, forall_const, true_implies, false_implies, not_true_eq_false, not_false_eq_true, le00, le10, e10, e01, eq_self, ck1, ck0, wpX5_thrown, uI_same, uI_2, uO_o, uO_1, up0, up00, uI67, ne_eq, Nat.reduceEqDiff, lg_self, String.reduceEq, false_and, or_false, false_or, and_self, f3, z00, z0, j6, m1q, h0, uA_ne, uA_same, uA_2]
                    unfold wpX4_obtain_B89
                    by_cases hp : plc (v.q l) (nI c) 0 N = -1
                    · refine ⟨fun _ => RC_last hR1 hl hN eN (fun _ => ⟨hroom hp, fun w1k hRC => ?_⟩) (fun q => absurd hp q), fun q => absurd rfl q⟩
                      try simp only [true_and, and_true, forall_eq, forall_const, true_implies, false_implies, not_true_eq_false, not_false_eq_true, le00, le10, e10, e01, eq_self, ck1, ck0, wpX5_thrown, uI_same, uI_2, uO_o, uO_1, up0, up00, uI67, ne_eq, Nat.reduceEqDiff, lg_self, String.reduceEq, false_and, or_false, false_or, and_self, f3, z00, nk103, nk104, nk109, nk119, nk111, nk115, nk98, d111, d115, d103, i1, i2, i3, uA_ne, uA_same, uA_2]
                      generalize hw2 : uO _ _ = w2
                      have hR2 : R (V.pl (V.s_tm v (csT v.dn v.cu v.tm m)) l (nI c) N) v w2 := by rw [← hw2]; exact hRC.sO _
                      have ho2 : w2.2.2.1 0 = (119 : Int32).toInt64 := by rw [← hw2, uO_o, up00]
                      have mO2 : ∀ P, wpX5_isClient (nI c) w2 P ↔ P 1 w2 := fun P => imC hn6 hR2.mnc hc
                      try simp only [true_and, and_true, forall_eq, forall_const, true_implies, false_implies, not_true_eq_false, not_false_eq_true, le00, le10, e10, e01, eq_self, ck1, ck0, wpX5_thrown, uI_same, uI_2, uO_o, uO_1, up0, up00, uI67, ne_eq, Nat.reduceEqDiff, lg_self, String.reduceEq, false_and, or_false, false_or, and_self, f3, z00, i1, i2, i3, mO2, imL hl, imM hm, wpX5_request, wpX5_asks, wpX5_asks_B32, wpX5_wrongAsk, wpX5_wrongAsk_B24, nk32, e20, le20, e2s, e30, le30, e10, uA_ne, uA_same, uA_2]
                      rw [sp_X5_cannotAsk hc6 hm hn (hR2.s67 0).mne]
                      try simp only [true_and, and_true, forall_eq, forall_const, true_implies, false_implies, not_true_eq_false, not_false_eq_true, le00, le10, e10, e01, eq_self, ck1, ck0, wpX5_thrown, uI_same, uI_2, uO_o, uO_1, up0, up00, uI67, ne_eq, Nat.reduceEqDiff, lg_self, String.reduceEq, false_and, or_false, false_or, and_self, f3, z00, hR2.mpa, hR2.mdn, hR2.mld, hR2.mtm, lead_eq hJ ht hm, hcan, Bool.not_true, bIf, wpX5_request, wpX5_asks, wpX5_asks_B32, nk32, e20, le20, e2s, e30, le30, e10, uA_ne, uA_same, uA_2]
                      refine sp_X5_looks hm ?_
                      try simp only [true_and, and_true, forall_eq, forall_const, true_implies, false_implies, not_true_eq_false, not_false_eq_true, le00, le10, e10, e01, eq_self, ck1, ck0, wpX5_thrown, uI_same, uI_2, uO_o, uO_1, up0, up00, uI67, ne_eq, Nat.reduceEqDiff, lg_self, String.reduceEq, false_and, or_false, false_or, and_self, f3, z00, hR2.mdn, hR2.mcu, hR2.mtm, hg, if_true, uA_ne, uA_same, uA_2]
                      have hR3 := (hR2.s67 0).sm_tm (csT v.dn v.cu v.tm m)
                      generalize hw3 : uA (uI w2 67 0) 39 (csT v.dn v.cu v.tm m) = w3 at hR3 ⊢
                      have m3ks : w3.1 38 = v.ks := hR3.mks
                      have m3kc : w3.1 45 = v.kc := hR3.mkc
                      have m3kv : w3.1 46 = v.kv := hR3.mkv
                      have m3va : w3.1 52 = v.va := hR3.mva
                      have m3ku : w3.1 47 = v.ku := hR3.mku
                      have m3of : w3.1 43 = v.of := hR3.mof
                      have m3now : w3.1 68 0 = nI v.now := hR3.mnow
                      have m3ow : w3.1 48 = v.ow := hR3.mow
                      have m3en : w3.1 49 = v.en := hR3.men
                      have m3th : w3.1 51 = v.th := hR3.mth
                      have m3wt : w3.1 54 = v.wt := hR3.mwt
                      have m3gr : w3.1 50 = v.gr := hR3.mgr
                      have m3lm : w3.2.1 1 = v.lm := hR3.mlm
                      have m3ls : w3.1 37 = v.ls := hR3.mls
                      have k67 : w3.1 67 0 = 0 := by rw [← hw3, uA_ne _ _ (by decide)]; exact uI_same _ _ _ _
                      have ho3 : w3.2.2.1 0 = (119 : Int32).toInt64 := by rw [← hw3]; exact ho2
                      have mr : plc (fun j => w3.1 53 (6 * l + j)) (nI c) 0 N = plc (v.q l) (nI c) 0 N := mrow hR3 hl hN (nI c)
                      try simp only [true_and, and_true, forall_eq, forall_const, true_implies, false_implies, not_true_eq_false, not_false_eq_true, le00, le10, e10, e01, eq_self, ck1, ck0, wpX5_thrown, uI_same, uI_2, uO_o, uO_1, up0, up00, uI67, ne_eq, Nat.reduceEqDiff, lg_self, String.reduceEq, false_and, or_false, false_or, and_self, f3, z00, wpX5_requests, wpX5_requests_B21, fB_M hJ hl m3ow m3en, m3ks, m3kc, m3kv, m3va, m3ku, m3of, m3now, m3ow, m3en, m3th, m3wt, m3gr, m3lm, m3ls, f1l, f2l, k67, hf, bIt, eN, z0, uA_ne, uA_same, uA_2]
                      refine sp_X5_placeIn hN hl (by rw [m3wt]; exact eN) ?_
                      rw [mr]
                      rw [plc_0 hN hz]
                      refine ⟨fun q => absurd q h0, fun _ => ?_⟩
                      unfold wpX5_requests_B63
                      refine ⟨fun _ => ?_, fun q => absurd rfl q⟩
                      refine sp_X5_placeIn hN hl (by rw [m3wt]; exact eN) ?_
                      rw [mr]
                      rw [hp]
                      refine ⟨fun q => absurd q (by decide), fun _ => RM_last hR3 (Keep.r w3) hl eN (hroom hp) (fun w5 h5 k5 => ?_)⟩
                      try simp only [true_and, and_true, forall_eq, forall_const, true_implies, false_implies, not_true_eq_false, not_false_eq_true, le00, le10, e10, e01, eq_self, ck1, ck0, wpX5_thrown, uI_same, uI_2, uO_o, uO_1, up0, up00, uI67, ne_eq, Nat.reduceEqDiff, lg_self, String.reduceEq, false_and, or_false, false_or, and_self, f3, z00, nk103, nk104, nk109, nk119, nk111, nk115, nk98, d111, d115, d103, k5.1, k5.2, k67, ho3, uA_ne, uA_same, uA_2]
                      exact ⟨_, R.fin h5 rfl, (hJ1.queue hJ.thv (wtU hJ.wtq (qOK_last (hroom hp) hqv hqd hc (plc_no hp hN)))).mono⟩
                    · refine ⟨fun _ => RC_last hR1 hl hN eN (fun q => absurd q hp) (fun _ => ?_), fun q => absurd rfl q⟩
                      obtain ⟨p, hp6, ep⟩ := plc_yes hp hN
                      have hRC := hR1
                      try simp only [true_and, and_true, forall_eq, forall_const, true_implies, false_implies, not_true_eq_false, not_false_eq_true, le00, le10, e10, e01, eq_self, ck1, ck0, wpX5_thrown, uI_same, uI_2, uO_o, uO_1, up0, up00, uI67, ne_eq, Nat.reduceEqDiff, lg_self, String.reduceEq, false_and, or_false, false_or, and_self, f3, z00, nk103, nk104, nk109, nk119, nk111, nk115, nk98, d111, d115, d103, i1, i2, i3, uA_ne, uA_same, uA_2]
                      generalize hw2 : uO _ _ = w2
                      have hR2 : R ((V.s_tm v (csT v.dn v.cu v.tm m))) v w2 := by rw [← hw2]; exact hRC.sO _
                      have ho2 : w2.2.2.1 0 = (119 : Int32).toInt64 := by rw [← hw2, uO_o, up00]
                      have mO2 : ∀ P, wpX5_isClient (nI c) w2 P ↔ P 1 w2 := fun P => imC hn6 hR2.mnc hc
                      try simp only [true_and, and_true, forall_eq, forall_const, true_implies, false_implies, not_true_eq_false, not_false_eq_true, le00, le10, e10, e01, eq_self, ck1, ck0, wpX5_thrown, uI_same, uI_2, uO_o, uO_1, up0, up00, uI67, ne_eq, Nat.reduceEqDiff, lg_self, String.reduceEq, false_and, or_false, false_or, and_self, f3, z00, i1, i2, i3, mO2, imL hl, imM hm, wpX5_request, wpX5_asks, wpX5_asks_B32, wpX5_wrongAsk, wpX5_wrongAsk_B24, nk32, e20, le20, e2s, e30, le30, e10, uA_ne, uA_same, uA_2]
                      rw [sp_X5_cannotAsk hc6 hm hn (hR2.s67 0).mne]
                      try simp only [true_and, and_true, forall_eq, forall_const, true_implies, false_implies, not_true_eq_false, not_false_eq_true, le00, le10, e10, e01, eq_self, ck1, ck0, wpX5_thrown, uI_same, uI_2, uO_o, uO_1, up0, up00, uI67, ne_eq, Nat.reduceEqDiff, lg_self, String.reduceEq, false_and, or_false, false_or, and_self, f3, z00, hR2.mpa, hR2.mdn, hR2.mld, hR2.mtm, lead_eq hJ ht hm, hcan, Bool.not_true, bIf, wpX5_request, wpX5_asks, wpX5_asks_B32, nk32, e20, le20, e2s, e30, le30, e10, uA_ne, uA_same, uA_2]
                      refine sp_X5_looks hm ?_
                      try simp only [true_and, and_true, forall_eq, forall_const, true_implies, false_implies, not_true_eq_false, not_false_eq_true, le00, le10, e10, e01, eq_self, ck1, ck0, wpX5_thrown, uI_same, uI_2, uO_o, uO_1, up0, up00, uI67, ne_eq, Nat.reduceEqDiff, lg_self, String.reduceEq, false_and, or_false, false_or, and_self, f3, z00, hR2.mdn, hR2.mcu, hR2.mtm, hg, if_true, uA_ne, uA_same, uA_2]
                      have hR3 := (hR2.s67 0).sm_tm (csT v.dn v.cu v.tm m)
                      generalize hw3 : uA (uI w2 67 0) 39 (csT v.dn v.cu v.tm m) = w3 at hR3 ⊢
                      have m3ks : w3.1 38 = v.ks := hR3.mks
                      have m3kc : w3.1 45 = v.kc := hR3.mkc
                      have m3kv : w3.1 46 = v.kv := hR3.mkv
                      have m3va : w3.1 52 = v.va := hR3.mva
                      have m3ku : w3.1 47 = v.ku := hR3.mku
                      have m3of : w3.1 43 = v.of := hR3.mof
                      have m3now : w3.1 68 0 = nI v.now := hR3.mnow
                      have m3ow : w3.1 48 = v.ow := hR3.mow
                      have m3en : w3.1 49 = v.en := hR3.men
                      have m3th : w3.1 51 = v.th := hR3.mth
                      have m3wt : w3.1 54 = v.wt := hR3.mwt
                      have m3gr : w3.1 50 = v.gr := hR3.mgr
                      have m3lm : w3.2.1 1 = v.lm := hR3.mlm
                      have m3ls : w3.1 37 = v.ls := hR3.mls
                      have k67 : w3.1 67 0 = 0 := by rw [← hw3, uA_ne _ _ (by decide)]; exact uI_same _ _ _ _
                      have ho3 : w3.2.2.1 0 = (119 : Int32).toInt64 := by rw [← hw3]; exact ho2
                      have mr : plc (fun j => w3.1 53 (6 * l + j)) (nI c) 0 N = plc (v.q l) (nI c) 0 N := mrow hR3 hl hN (nI c)
                      try simp only [true_and, and_true, forall_eq, forall_const, true_implies, false_implies, not_true_eq_false, not_false_eq_true, le00, le10, e10, e01, eq_self, ck1, ck0, wpX5_thrown, uI_same, uI_2, uO_o, uO_1, up0, up00, uI67, ne_eq, Nat.reduceEqDiff, lg_self, String.reduceEq, false_and, or_false, false_or, and_self, f3, z00, wpX5_requests, wpX5_requests_B21, fB_M hJ hl m3ow m3en, m3ks, m3kc, m3kv, m3va, m3ku, m3of, m3now, m3ow, m3en, m3th, m3wt, m3gr, m3lm, m3ls, f1l, f2l, k67, hf, bIt, eN, z0, uA_ne, uA_same, uA_2]
                      refine sp_X5_placeIn hN hl (by rw [m3wt]; exact eN) ?_
                      rw [mr]
                      rw [plc_0 hN hz]
                      refine ⟨fun q => absurd q h0, fun _ => ?_⟩
                      unfold wpX5_requests_B63
                      refine ⟨fun _ => ?_, fun q => absurd rfl q⟩
                      refine sp_X5_placeIn hN hl (by rw [m3wt]; exact eN) ?_
                      rw [mr]
                      rw [ep]
                      refine ⟨fun _ => ?_, fun q => absurd (ge0 (show p < 2147483648 by omega)) q⟩
                      try simp only [true_and, and_true, forall_eq, forall_const, true_implies, false_implies, not_true_eq_false, not_false_eq_true, le00, le10, e10, e01, eq_self, ck1, ck0, wpX5_thrown, uI_same, uI_2, uO_o, uO_1, up0, up00, uI67, ne_eq, Nat.reduceEqDiff, lg_self, String.reduceEq, false_and, or_false, false_or, and_self, f3, z00, nk103, nk104, nk109, nk119, nk111, nk115, nk98, d111, d115, d103, k67, ho3, uA_ne, uA_same, uA_2]
                      exact ⟨_, R.fin hR3 rfl, hJ1.mono⟩
          · have nk : (narrow .char (.int (csR v.dn v.cu v.tm m)) = .int (csR v.dn v.cu v.tm m)) = True := by
              rcases csR_cases v.dn v.cu v.tm m with h | h | h <;> rw [h] <;> decide
            have n45 : (csR v.dn v.cu v.tm m = 45) = False := by
              rcases csR_cases v.dn v.cu v.tm m with h | h | h <;> rw [h] <;> decide
            try simp only [true_and, and_true, forall_eq, forall_const, true_implies, false_implies, not_true_eq_false, not_false_eq_true, le00, le10, e10, e01, eq_self, ck1, ck0, wpX5_thrown, uI_same, uI_2, uO_o, uO_1, up0, up00, uI67, ne_eq, Nat.reduceEqDiff, lg_self, String.reduceEq, false_and, or_false, false_or, and_self, f3, z00, hg, nk, i1, i2, i3, wpL_request, wpX4_request, wpX4_obtain, uA_ne, uA_same, uA_2]
            generalize hw2 : uO w1 _ = w2
            have hR2 : R (V.s_tm v (csT v.dn v.cu v.tm m)) v w2 := by rw [← hw2]; exact hR1.sO _
            have ho2 : w2.2.2.1 0 = (csR v.dn v.cu v.tm m).toInt64 := by rw [← hw2, uO_o, up00]
            have mO2 : ∀ P, wpX5_isClient (nI c) w2 P ↔ P 1 w2 := fun P => imC hn6 hR2.mnc hc
            try simp only [true_and, and_true, forall_eq, forall_const, true_implies, false_implies, not_true_eq_false, not_false_eq_true, le00, le10, e10, e01, eq_self, ck1, ck0, wpX5_thrown, uI_same, uI_2, uO_o, uO_1, up0, up00, uI67, ne_eq, Nat.reduceEqDiff, lg_self, String.reduceEq, false_and, or_false, false_or, and_self, f3, z00, i1, i2, i3, mO2, imL hl, imM hm, wpX5_request, wpX5_asks, wpX5_asks_B32, wpX5_wrongAsk, wpX5_wrongAsk_B24, wpX4_checkNumbers, nk32, e20, le20, e2s, e30, le30, e10, uA_ne, uA_same, uA_2]
            rw [sp_X5_cannotAsk hc6 hm hn (hR2.s67 0).mne]
            try simp only [true_and, and_true, forall_eq, forall_const, true_implies, false_implies, not_true_eq_false, not_false_eq_true, le00, le10, e10, e01, eq_self, ck1, ck0, wpX5_thrown, uI_same, uI_2, uO_o, uO_1, up0, up00, uI67, ne_eq, Nat.reduceEqDiff, lg_self, String.reduceEq, false_and, or_false, false_or, and_self, f3, z00, hR2.mpa, hR2.mdn, hR2.mld, hR2.mtm, lead_eq hJ ht hm, hcan, Bool.not_true, bIf, wpX5_request, wpX5_asks, wpX5_asks_B32, nk32, e20, le20, e2s, e30, le30, e10, uA_ne, uA_same, uA_2]
            refine sp_X5_looks hm ?_
            try simp only [true_and, and_true, forall_eq, forall_const, true_implies, false_implies, not_true_eq_false, not_false_eq_true, le00, le10, e10, e01, eq_self, ck1, ck0, wpX5_thrown, uI_same, uI_2, uO_o, uO_1, up0, up00, uI67, ne_eq, Nat.reduceEqDiff, lg_self, String.reduceEq, false_and, or_false, false_or, and_self, f3, z00, hR2.mdn, hR2.mcu, hR2.mtm, hg, if_false, n45, nk, ho2, uA_ne, uA_same, uA_2]
            exact ⟨_, R.fin ((hR2.s67 0).sm_tm (csT v.dn v.cu v.tm m)) rfl, hJ1.mono⟩
      · try simp only [true_and, and_true, forall_eq, forall_const, true_implies, false_implies, not_true_eq_false, not_false_eq_true, le00, le10, e10, e01, eq_self, ck1, ck0, wpX5_thrown, uI_same, uI_2, uO_o, uO_1, up0, up00, uI67, ne_eq, Nat.reduceEqDiff, lg_self, String.reduceEq, false_and, or_false, false_or, and_self, f3, z00, i1, i2, i3, cO, ckL hl, ckM' hb3, wpL_request, wpX4_request, wpX4_obtain, wpX5_wrongAsk, wpX5_wrongAsk_B24, wpX4_checkNumbers, uA_ne, uA_same, uA_2]
        try simp only [true_and, and_true, forall_eq, forall_const, true_implies, false_implies, not_true_eq_false, not_false_eq_true, le00, le10, e10, e01, eq_self, ck1, ck0, wpX5_thrown, uI_same, uI_2, uO_o, uO_1, up0, up00, uI67, ne_eq, Nat.reduceEqDiff, lg_self, String.reduceEq, false_and, or_false, false_or, and_self, f3, z00, i1, i2, i3, mO', imL hl, imM' hb3, wpX5_request, wpX5_asks, wpX5_asks_B32, wpX5_wrongAsk, wpX5_wrongAsk_B24, wpX4_checkNumbers, nk32, e20, le20, e2s, e30, le30, e10, uA_ne, uA_same, uA_2]
        exact ⟨v, hR.s67 _, hJ.mono⟩
    · try simp only [true_and, and_true, forall_eq, forall_const, true_implies, false_implies, not_true_eq_false, not_false_eq_true, le00, le10, e10, e01, eq_self, ck1, ck0, wpX5_thrown, uI_same, uI_2, uO_o, uO_1, up0, up00, uI67, ne_eq, Nat.reduceEqDiff, lg_self, String.reduceEq, false_and, or_false, false_or, and_self, f3, z00, i1, i2, i3, cO, ckL' hb2, wpL_request, wpX4_request, wpX4_obtain, wpX5_wrongAsk, wpX5_wrongAsk_B24, wpX4_checkNumbers, uA_ne, uA_same, uA_2]
      try simp only [true_and, and_true, forall_eq, forall_const, true_implies, false_implies, not_true_eq_false, not_false_eq_true, le00, le10, e10, e01, eq_self, ck1, ck0, wpX5_thrown, uI_same, uI_2, uO_o, uO_1, up0, up00, uI67, ne_eq, Nat.reduceEqDiff, lg_self, String.reduceEq, false_and, or_false, false_or, and_self, f3, z00, i1, i2, i3, mO', imL' hb2, wpX5_request, wpX5_asks, wpX5_asks_B32, wpX5_wrongAsk, wpX5_wrongAsk_B24, wpX4_checkNumbers, nk32, e20, le20, e2s, e30, le30, e10, uA_ne, uA_same, uA_2]
      exact ⟨v, hR.s67 _, hJ.mono⟩
  · have hn6 := hJ.nc6
    have cX : ∀ P px, wpX4_checkClient p1 w P px ↔ px "java/util/NoSuchElementException" w := fun P px => ckC' hR.cnc hb1
    have mX : ∀ P, wpX5_isClient p1 w P ↔ P 0 w := fun P => imC' hn6 hR.mnc hb1
    try simp only [true_and, and_true, forall_eq, forall_const, true_implies, false_implies, not_true_eq_false, not_false_eq_true, le00, le10, e10, e01, eq_self, ck1, ck0, wpX5_thrown, uI_same, uI_2, uO_o, uO_1, up0, up00, uI67, ne_eq, Nat.reduceEqDiff, lg_self, String.reduceEq, false_and, or_false, false_or, and_self, f3, z00, i1, i2, i3, cX, wpL_request, wpX4_request, wpX4_obtain, wpX5_wrongAsk, wpX5_wrongAsk_B24, wpX4_checkNumbers, uA_ne, uA_same, uA_2]
    try simp only [true_and, and_true, forall_eq, forall_const, true_implies, false_implies, not_true_eq_false, not_false_eq_true, le00, le10, e10, e01, eq_self, ck1, ck0, wpX5_thrown, uI_same, uI_2, uO_o, uO_1, up0, up00, uI67, ne_eq, Nat.reduceEqDiff, lg_self, String.reduceEq, false_and, or_false, false_or, and_self, f3, z00, i1, i2, i3, mX, wpX5_request, wpX5_asks, wpX5_asks_B32, wpX5_wrongAsk, wpX5_wrongAsk_B24, wpX4_checkNumbers, nk32, e20, le20, e2s, e30, le30, e10, uA_ne, uA_same, uA_2]
    exact ⟨v, hR.s67 _, hJ.mono⟩
set_option maxHeartbeats 1000000 in
theorem st_16 {xs : Nat → Int32} {L t : Nat} {w : St} (hL : L ≤ 2560) (h5 : 5 * t + 5 ≤ L) (hI : Inv t w) : wpL_C16 xs L (nI (5 * t)) w (Inv (t + 1)) := by
  obtain ⟨v, hR, hJ⟩ := hI
  have f3 : vp_in 0 1 := inN (a := 0) (by decide) (by decide)
  have z00 : (0 : Int32).toNatClampNeg = 0 := rfl
  have i1 : vp_in (nI (5 * t) + 1) L := inL (k := 1) h5 hL (by decide)
  have i2 : vp_in (nI (5 * t) + 2) L := inL (k := 2) h5 hL (by decide)
  have i3 : vp_in (nI (5 * t) + 3) L := inL (k := 3) h5 hL (by decide)
  unfold wpL_C16
  generalize e1 : xs (nI (5 * t) + 1).toNatClampNeg = p1
  generalize e2 : xs (nI (5 * t) + 2).toNatClampNeg = p2
  generalize e3 : xs (nI (5 * t) + 3).toNatClampNeg = p3
  rcases ixc p1 v.nc (by have := hJ.nc6; omega) with ⟨c, hc, rfl⟩ | hb1
  · have hn6 := hJ.nc6
    have hc6 : c < 6 := by omega
    have f1c : vp_in (nI c) 6 := inN hc6 (by decide)
    have f2c : (nI c).toNatClampNeg = c := clN (by omega)
    have cO : ∀ P px, wpX4_checkClient (nI c) w P px ↔ P w := fun P px => ckC hn6 hR.cnc hc
    have mO' : ∀ P, wpX5_isClient (nI c) w P ↔ P 1 w := fun P => imC hn6 hR.mnc hc
    rcases ixc p2 4 (by decide) with ⟨l, hl, rfl⟩ | hb2
    · have f1l : vp_in (nI l) 4 := inN hl (by decide)
      have f2l : (nI l).toNatClampNeg = l := clN (by omega)
      rcases ixc p3 5 (by decide) with ⟨m, hm, rfl⟩ | hb3
      · have ht : t < 512 := by omega
        have hn := hJ.ne250
        have f1m : vp_in (nI m) 5 := inN hm (by decide)
        have f2m : (nI m).toNatClampNeg = m := clN (by omega)
        try simp only [true_and, and_true, forall_eq, forall_const, true_implies, false_implies, not_true_eq_false, not_false_eq_true, le00, le10, e10, e01, eq_self, ck1, ck0, wpX5_thrown, uI_same, uI_2, uO_o, uO_1, up0, up00, uI67, ne_eq, Nat.reduceEqDiff, lg_self, String.reduceEq, false_and, or_false, false_or, and_self, f3, z00, i1, i2, i3, cO, ckL hl, ckM hm, wpL_steal, wpX4_steal, wpX4_obtain, wpX5_wrongAsk, wpX5_wrongAsk_B24, wpX4_checkNumbers, sp_X4_canAsk hc6 hm hn hR.cne, hR.cpa, hR.cdn, hR.cwi, hR.ctm, hR.ccu, hR.mpa, hR.mdn, hR.mld, hR.mtm, hR.mcu, uA_ne, uA_same, uA_2]
        cases hcan : can (v.pa c) (v.dn m) (decide (wof v.wi (v.tm m) = nI m)) v.ne with
        | false =>
          refine ⟨fun q => absurd q (by decide), fun _ => ?_⟩
          try simp only [true_and, and_true, forall_eq, forall_const, true_implies, false_implies, not_true_eq_false, not_false_eq_true, le00, le10, e10, e01, eq_self, ck1, ck0, wpX5_thrown, uI_same, uI_2, uO_o, uO_1, up0, up00, uI67, ne_eq, Nat.reduceEqDiff, lg_self, String.reduceEq, false_and, or_false, false_or, and_self, f3, z00, i1, i2, i3, mO', imL hl, imM hm, wpX5_steal, wpX5_asks, wpX5_asks_B32, wpX5_wrongAsk, wpX5_wrongAsk_B24, wpX4_checkNumbers, nk32, e20, le20, e2s, e30, le30, e10, uA_ne, uA_same, uA_2]
          rw [sp_X5_cannotAsk hc6 hm hn (hR.s67 0).mne]
          try simp only [true_and, and_true, forall_eq, forall_const, true_implies, false_implies, not_true_eq_false, not_false_eq_true, le00, le10, e10, e01, eq_self, ck1, ck0, wpX5_thrown, uI_same, uI_2, uO_o, uO_1, up0, up00, uI67, ne_eq, Nat.reduceEqDiff, lg_self, String.reduceEq, false_and, or_false, false_or, and_self, f3, z00, hR.cpa, hR.cdn, hR.cwi, hR.ctm, hR.ccu, hR.mpa, hR.mdn, hR.mld, hR.mtm, hR.mcu, lead_eq hJ ht hm, hcan, Bool.not_false, bIt, wpX5_steal, wpX5_asks, wpX5_asks_B32, nk32, e20, le20, e2s, e30, le30, e10, uA_ne, uA_same, uA_2]
          exact ⟨v, (hR.s67 _).s67 _, hJ.mono⟩
        | true =>
          refine ⟨fun _ => ?_, fun q => absurd q (by decide)⟩
          have hne : v.ne < 250 := by simp only [can, Bool.and_eq_true, decide_eq_true_eq] at hcan; exact hcan.2.2.2
          have hJ1 := hJ.term_up (Nat.le_refl t) _ (asked hJ hm) (by omega)
          refine sp_X3_consult hm ?_
          try simp only [true_and, and_true, forall_eq, forall_const, true_implies, false_implies, not_true_eq_false, not_false_eq_true, le00, le10, e10, e01, eq_self, ck1, ck0, wpX5_thrown, uI_same, uI_2, uO_o, uO_1, up0, up00, uI67, ne_eq, Nat.reduceEqDiff, lg_self, String.reduceEq, false_and, or_false, false_or, and_self, f3, z00, hR.cpa, hR.cdn, hR.cwi, hR.ctm, hR.ccu, hR.mpa, hR.mdn, hR.mld, hR.mtm, hR.mcu, uA_ne, uA_same, uA_2]
          have hR1 := hR.sc_tm (csT v.dn v.cu v.tm m)
          generalize hw1 : uA w 3 (csT v.dn v.cu v.tm m) = w1 at hR1 ⊢
          by_cases hg : csR v.dn v.cu v.tm m = 103
          · obtain ⟨hq, hTm, hTr⟩ := asked_g hm hg
            have hT : ∀ i, i < 5 → rch v.dn v.cu m i = true → csT v.dn v.cu v.tm m i = csT v.dn v.cu v.tm m m := fun i hi r => (hTr i hi r).trans hTm.symm
            obtain ⟨N, hN, eN, hqv, hqd⟩ := hJ.wtq l hl
            have m1ow : w1.1 14 = v.ow := hR1.cow
            have m1en : w1.1 15 = v.en := hR1.cen
            have m1th : w1.1 16 = v.th := hR1.cth
            have m1now : w1.1 64 0 = nI v.now := hR1.cnow
            have m1wt : w1.1 18 = v.wt := hR1.cwt
            have m1nc : w1.1 66 0 = nI v.nc := hR1.cnc
            have m1pa : w1.1 25 = v.pa := hR1.cpa
            have m1ls : w1.1 28 = v.ls := hR1.cls
            have m1of : w1.1 26 = v.of := hR1.cof
            have m1lc : w1.1 29 = v.lc := hR1.clc
            have m1ku : w1.1 32 = v.ku := hR1.cku
            have m1q : w1.1 (20 + l) = v.q l := hR1.cq l hl
            have hroom : plc (v.q l) (nI c) 0 N = -1 → N < 6 := fun e => room hn6 hqv hqd hc (plc_no e hN)
            obtain ⟨tk1, tk2, tk3, tk4⟩ := take_ok (c := nI c) hN hqv hqd
            have hroom2 : tkN (v.q l) (nI c) N < 6 := room hn6 tk2 tk3 hc tk4
            try simp only [true_and, and_true, forall_eq, forall_const, true_implies, false_implies, not_true_eq_false, not_false_eq_true, le00, le10, e10, e01, eq_self, ck1, ck0, wpX5_thrown, uI_same, uI_2, uO_o, uO_1, up0, up00, uI67, ne_eq, Nat.reduceEqDiff, lg_self, String.reduceEq, false_and, or_false, false_or, and_self, f3, z00, hg, f1l, f2l, hB_C hl, m1ow, m1en, m1th, m1now, m1wt, hR.cnow, hR.cow, hR.cen, hR.cth, uA_ne, uA_same, uA_2]
            cases hh : heldB (v.ow l) (v.en l) (nI v.now) (nI c) with
            | true =>
              have ho := held_own hh
              have hf : fre (v.ow l) (v.en l) (nI v.now) = false := by
                cases hf : fre (v.ow l) (v.en l) (nI v.now) with
                | false => rfl
                | true => simp [heldB, hf] at hh
              try simp only [true_and, and_true, forall_eq, forall_const, true_implies, false_implies, not_true_eq_false, not_false_eq_true, le00, le10, e10, e01, eq_self, ck1, ck0, wpX5_thrown, uI_same, uI_2, uO_o, uO_1, up0, up00, uI67, ne_eq, Nat.reduceEqDiff, lg_self, String.reduceEq, false_and, or_false, false_or, and_self, f3, z00, bIt, nk103, nk104, nk109, nk119, nk111, nk115, nk98, d111, d115, d103, i1, i2, i3, uA_ne, uA_same, uA_2]
              have hRC := hR1
              generalize hw2 : uO _ _ = w2
              have hR2 : R ((V.s_tm v (csT v.dn v.cu v.tm m))) v w2 := by rw [← hw2]; exact hRC.sO _
              have ho2 : w2.2.2.1 0 = (104 : Int32).toInt64 := by rw [← hw2, uO_o, up00]
              have mO2 : ∀ P, wpX5_isClient (nI c) w2 P ↔ P 1 w2 := fun P => imC hn6 hR2.mnc hc
              try simp only [true_and, and_true, forall_eq, forall_const, true_implies, false_implies, not_true_eq_false, not_false_eq_true, le00, le10, e10, e01, eq_self, ck1, ck0, wpX5_thrown, uI_same, uI_2, uO_o, uO_1, up0, up00, uI67, ne_eq, Nat.reduceEqDiff, lg_self, String.reduceEq, false_and, or_false, false_or, and_self, f3, z00, i1, i2, i3, mO2, imL hl, imM hm, wpX5_steal, wpX5_asks, wpX5_asks_B32, wpX5_wrongAsk, wpX5_wrongAsk_B24, nk32, e20, le20, e2s, e30, le30, e10, uA_ne, uA_same, uA_2]
              rw [sp_X5_cannotAsk hc6 hm hn (hR2.s67 0).mne]
              try simp only [true_and, and_true, forall_eq, forall_const, true_implies, false_implies, not_true_eq_false, not_false_eq_true, le00, le10, e10, e01, eq_self, ck1, ck0, wpX5_thrown, uI_same, uI_2, uO_o, uO_1, up0, up00, uI67, ne_eq, Nat.reduceEqDiff, lg_self, String.reduceEq, false_and, or_false, false_or, and_self, f3, z00, hR2.mpa, hR2.mdn, hR2.mld, hR2.mtm, lead_eq hJ ht hm, hcan, Bool.not_true, bIf, wpX5_steal, wpX5_asks, wpX5_asks_B32, nk32, e20, le20, e2s, e30, le30, e10, uA_ne, uA_same, uA_2]
              refine sp_X5_looks hm ?_
              try simp only [true_and, and_true, forall_eq, forall_const, true_implies, false_implies, not_true_eq_false, not_false_eq_true, le00, le10, e10, e01, eq_self, ck1, ck0, wpX5_thrown, uI_same, uI_2, uO_o, uO_1, up0, up00, uI67, ne_eq, Nat.reduceEqDiff, lg_self, String.reduceEq, false_and, or_false, false_or, and_self, f3, z00, hR2.mdn, hR2.mcu, hR2.mtm, hg, if_true, uA_ne, uA_same, uA_2]
              have hR3 := (hR2.s67 0).sm_tm (csT v.dn v.cu v.tm m)
              generalize hw3 : uA (uI w2 67 0) 39 (csT v.dn v.cu v.tm m) = w3 at hR3 ⊢
              have m3ks : w3.1 38 = v.ks := hR3.mks
              have m3kc : w3.1 45 = v.kc := hR3.mkc
              have m3kv : w3.1 46 = v.kv := hR3.mkv
              have m3va : w3.1 52 = v.va := hR3.mva
              have m3ku : w3.1 47 = v.ku := hR3.mku
              have m3of : w3.1 43 = v.of := hR3.mof
              have m3now : w3.1 68 0 = nI v.now := hR3.mnow
              have m3ow : w3.1 48 = v.ow := hR3.mow
              have m3en : w3.1 49 = v.en := hR3.men
              have m3th : w3.1 51 = v.th := hR3.mth
              have m3wt : w3.1 54 = v.wt := hR3.mwt
              have m3gr : w3.1 50 = v.gr := hR3.mgr
              have m3lm : w3.2.1 1 = v.lm := hR3.mlm
              have m3ls : w3.1 37 = v.ls := hR3.mls
              have k67 : w3.1 67 0 = 0 := by rw [← hw3, uA_ne _ _ (by decide)]; exact uI_same _ _ _ _
              have ho3 : w3.2.2.1 0 = (104 : Int32).toInt64 := by rw [← hw3]; exact ho2
              try simp only [true_and, and_true, forall_eq, forall_const, true_implies, false_implies, not_true_eq_false, not_false_eq_true, le00, le10, e10, e01, eq_self, ck1, ck0, wpX5_thrown, uI_same, uI_2, uO_o, uO_1, up0, up00, uI67, ne_eq, Nat.reduceEqDiff, lg_self, String.reduceEq, false_and, or_false, false_or, and_self, f3, z00, wpX5_requests, wpX5_requests_B21, fB_M hJ hl m3ow m3en, m3ks, m3kc, m3kv, m3va, m3ku, m3of, m3now, m3ow, m3en, m3th, m3wt, m3gr, m3lm, m3ls, f1l, f2l, k67, hf, bIf, uA_ne, uA_same, uA_2]
              try simp only [true_and, and_true, forall_eq, forall_const, true_implies, false_implies, not_true_eq_false, not_false_eq_true, le00, le10, e10, e01, eq_self, ck1, ck0, wpX5_thrown, uI_same, uI_2, uO_o, uO_1, up0, up00, uI67, ne_eq, Nat.reduceEqDiff, lg_self, String.reduceEq, false_and, or_false, false_or, and_self, f3, z00, ho, ho3, nk103, nk104, nk109, nk119, nk111, nk115, nk98, d111, d115, d103, uA_ne, uA_same, uA_2]
              exact ⟨_, R.fin hR3 rfl, hJ1.mono⟩
            | false =>
              try simp only [true_and, and_true, forall_eq, forall_const, true_implies, false_implies, not_true_eq_false, not_false_eq_true, le00, le10, e10, e01, eq_self, ck1, ck0, wpX5_thrown, uI_same, uI_2, uO_o, uO_1, up0, up00, uI67, ne_eq, Nat.reduceEqDiff, lg_self, String.reduceEq, false_and, or_false, false_or, and_self, f3, z00, bIf, sp_X1_isFree hl, m1ow, m1en, m1th, m1now, m1wt, hR.cnow, hR.cow, hR.cen, hR.cth, uA_ne, uA_same, uA_2]
              cases hf : fre (v.ow l) (v.en l) (nI v.now) with
              | false =>
                have ho : (v.ow l = nI c) = False := eq_false (fun q => by rw [show heldB (v.ow l) (v.en l) (nI v.now) (nI c) = true from by unfold heldB; rw [hf, decide_eq_true q]; rfl] at hh; exact absurd hh (by decide))
                try simp only [true_and, and_true, forall_eq, forall_const, true_implies, false_implies, not_true_eq_false, not_false_eq_true, le00, le10, e10, e01, eq_self, ck1, ck0, wpX5_thrown, uI_same, uI_2, uO_o, uO_1, up0, up00, uI67, ne_eq, Nat.reduceEqDiff, lg_self, String.reduceEq, false_and, or_false, false_or, and_self, f3, z00, bIf, uA_ne, uA_same, uA_2]
                unfold wpX4_obtain_B89
                refine ⟨fun q => absurd q (by decide), fun _ => RC_first hR1 hl hN eN hroom2 (fun w1a h1a => ⟨f1l, fun w1k e1k => ?_⟩)⟩
                rw [h1a.cth, f2l] at e1k
                have hRC := h1a.sc_th (upd v.th l (nI c))
                rw [show uA w1a 16 (upd v.th l (nI c)) = w1k from e1k.symm] at hRC
                try simp only [true_and, and_true, forall_eq, forall_const, true_implies, false_implies, not_true_eq_false, not_false_eq_true, le00, le10, e10, e01, eq_self, ck1, ck0, wpX5_thrown, uI_same, uI_2, uO_o, uO_1, up0, up00, uI67, ne_eq, Nat.reduceEqDiff, lg_self, String.reduceEq, false_and, or_false, false_or, and_self, f3, z00, nk103, nk104, nk109, nk119, nk111, nk115, nk98, d111, d115, d103, i1, i2, i3, uA_ne, uA_same, uA_2]
                generalize hw2 : uO _ _ = w2
                have hR2 : R (V.s_th (V.pf (V.s_tm v (csT v.dn v.cu v.tm m)) l (nI c) N) (upd v.th l (nI c))) v w2 := by rw [← hw2]; exact hRC.sO _
                have ho2 : w2.2.2.1 0 = (109 : Int32).toInt64 := by rw [← hw2, uO_o, up00]
                have mO2 : ∀ P, wpX5_isClient (nI c) w2 P ↔ P 1 w2 := fun P => imC hn6 hR2.mnc hc
                try simp only [true_and, and_true, forall_eq, forall_const, true_implies, false_implies, not_true_eq_false, not_false_eq_true, le00, le10, e10, e01, eq_self, ck1, ck0, wpX5_thrown, uI_same, uI_2, uO_o, uO_1, up0, up00, uI67, ne_eq, Nat.reduceEqDiff, lg_self, String.reduceEq, false_and, or_false, false_or, and_self, f3, z00, i1, i2, i3, mO2, imL hl, imM hm, wpX5_steal, wpX5_asks, wpX5_asks_B32, wpX5_wrongAsk, wpX5_wrongAsk_B24, nk32, e20, le20, e2s, e30, le30, e10, uA_ne, uA_same, uA_2]
                rw [sp_X5_cannotAsk hc6 hm hn (hR2.s67 0).mne]
                try simp only [true_and, and_true, forall_eq, forall_const, true_implies, false_implies, not_true_eq_false, not_false_eq_true, le00, le10, e10, e01, eq_self, ck1, ck0, wpX5_thrown, uI_same, uI_2, uO_o, uO_1, up0, up00, uI67, ne_eq, Nat.reduceEqDiff, lg_self, String.reduceEq, false_and, or_false, false_or, and_self, f3, z00, hR2.mpa, hR2.mdn, hR2.mld, hR2.mtm, lead_eq hJ ht hm, hcan, Bool.not_true, bIf, wpX5_steal, wpX5_asks, wpX5_asks_B32, nk32, e20, le20, e2s, e30, le30, e10, uA_ne, uA_same, uA_2]
                refine sp_X5_looks hm ?_
                try simp only [true_and, and_true, forall_eq, forall_const, true_implies, false_implies, not_true_eq_false, not_false_eq_true, le00, le10, e10, e01, eq_self, ck1, ck0, wpX5_thrown, uI_same, uI_2, uO_o, uO_1, up0, up00, uI67, ne_eq, Nat.reduceEqDiff, lg_self, String.reduceEq, false_and, or_false, false_or, and_self, f3, z00, hR2.mdn, hR2.mcu, hR2.mtm, hg, if_true, uA_ne, uA_same, uA_2]
                have hR3 := (hR2.s67 0).sm_tm (csT v.dn v.cu v.tm m)
                generalize hw3 : uA (uI w2 67 0) 39 (csT v.dn v.cu v.tm m) = w3 at hR3 ⊢
                have m3ks : w3.1 38 = v.ks := hR3.mks
                have m3kc : w3.1 45 = v.kc := hR3.mkc
                have m3kv : w3.1 46 = v.kv := hR3.mkv
                have m3va : w3.1 52 = v.va := hR3.mva
                have m3ku : w3.1 47 = v.ku := hR3.mku
                have m3of : w3.1 43 = v.of := hR3.mof
                have m3now : w3.1 68 0 = nI v.now := hR3.mnow
                have m3ow : w3.1 48 = v.ow := hR3.mow
                have m3en : w3.1 49 = v.en := hR3.men
                have m3th : w3.1 51 = v.th := hR3.mth
                have m3wt : w3.1 54 = v.wt := hR3.mwt
                have m3gr : w3.1 50 = v.gr := hR3.mgr
                have m3lm : w3.2.1 1 = v.lm := hR3.mlm
                have m3ls : w3.1 37 = v.ls := hR3.mls
                have k67 : w3.1 67 0 = 0 := by rw [← hw3, uA_ne _ _ (by decide)]; exact uI_same _ _ _ _
                have ho3 : w3.2.2.1 0 = (109 : Int32).toInt64 := by rw [← hw3]; exact ho2
                have mr : plc (fun j => w3.1 53 (6 * l + j)) (nI c) 0 N = plc (v.q l) (nI c) 0 N := mrow hR3 hl hN (nI c)
                try simp only [true_and, and_true, forall_eq, forall_const, true_implies, false_implies, not_true_eq_false, not_false_eq_true, le00, le10, e10, e01, eq_self, ck1, ck0, wpX5_thrown, uI_same, uI_2, uO_o, uO_1, up0, up00, uI67, ne_eq, Nat.reduceEqDiff, lg_self, String.reduceEq, false_and, or_false, false_or, and_self, f3, z00, wpX5_requests, wpX5_requests_B21, fB_M hJ hl m3ow m3en, m3ks, m3kc, m3kv, m3va, m3ku, m3of, m3now, m3ow, m3en, m3th, m3wt, m3gr, m3lm, m3ls, f1l, f2l, k67, hf, bIf, ho, uA_ne, uA_same, uA_2]
                unfold wpX5_requests_B63
                refine ⟨fun q => absurd q (by decide), fun _ => RM_first hR3 (Keep.r w3) hl hN eN hroom2 (fun w5 h5 k5 => ?_)⟩
                try simp only [true_and, and_true, forall_eq, forall_const, true_implies, false_implies, not_true_eq_false, not_false_eq_true, le00, le10, e10, e01, eq_self, ck1, ck0, wpX5_thrown, uI_same, uI_2, uO_o, uO_1, up0, up00, uI67, ne_eq, Nat.reduceEqDiff, lg_self, String.reduceEq, false_and, or_false, false_or, and_self, f3, z00, nk103, nk104, nk109, nk119, nk111, nk115, nk98, d111, d115, d103, k5.1, k5.2, k67, ho3, uA_ne, uA_same, uA_2]
                exact ⟨_, R.fin h5 rfl, (hJ1.queue (thU hJ.thv (.inr ⟨c, hc, rfl⟩)) (wtU (wtU hJ.wtq (qOK_take (hJ.wtq l hl) eN hN (nI c))) (qOK_first hroom2 tk2 tk3 hc tk4))).mono⟩
              | true =>
                try simp only [true_and, and_true, forall_eq, forall_const, true_implies, false_implies, not_true_eq_false, not_false_eq_true, le00, le10, e10, e01, eq_self, ck1, ck0, wpX5_thrown, uI_same, uI_2, uO_o, uO_1, up0, up00, uI67, ne_eq, Nat.reduceEqDiff, lg_self, String.reduceEq, false_and, or_false, false_or, and_self, f3, z00, bIt, wpX1_isNext, wpX1_isNext_B21, m1ow, m1en, m1th, m1now, m1wt, hR.cnow, hR.cow, hR.cen, hR.cth, eN, f1l, f2l, hl, m1q, uA_ne, uA_same, uA_2]
                by_cases hz : N = 0
                · have z0 : (nI N = 0) = True := eq_true (by rw [hz]; rfl)
                  try simp only [true_and, and_true, forall_eq, forall_const, true_implies, false_implies, not_true_eq_false, not_false_eq_true, le00, le10, e10, e01, eq_self, ck1, ck0, wpX5_thrown, uI_same, uI_2, uO_o, uO_1, up0, up00, uI67, ne_eq, Nat.reduceEqDiff, lg_self, String.reduceEq, false_and, or_false, false_or, and_self, f3, z00, z0, uA_ne, uA_same, uA_2]
                  refine RC_grant hR1 hc6 hl hm hN eN hne (fun w1k hRC => ?_)
                  try simp only [true_and, and_true, forall_eq, forall_const, true_implies, false_implies, not_true_eq_false, not_false_eq_true, le00, le10, e10, e01, eq_self, ck1, ck0, wpX5_thrown, uI_same, uI_2, uO_o, uO_1, up0, up00, uI67, ne_eq, Nat.reduceEqDiff, lg_self, String.reduceEq, false_and, or_false, false_or, and_self, f3, z00, nk103, nk104, nk109, nk119, nk111, nk115, nk98, d111, d115, d103, i1, i2, i3, uA_ne, uA_same, uA_2]
                  generalize hw2 : uO _ _ = w2
                  have hR2 : R (V.gC (V.s_tm v (csT v.dn v.cu v.tm m)) c l m N) v w2 := by rw [← hw2]; exact hRC.sO _
                  have ho2 : w2.2.2.1 0 = (103 : Int32).toInt64 := by rw [← hw2, uO_o, up00]
                  have mO2 : ∀ P, wpX5_isClient (nI c) w2 P ↔ P 1 w2 := fun P => imC hn6 hR2.mnc hc
                  try simp only [true_and, and_true, forall_eq, forall_const, true_implies, false_implies, not_true_eq_false, not_false_eq_true, le00, le10, e10, e01, eq_self, ck1, ck0, wpX5_thrown, uI_same, uI_2, uO_o, uO_1, up0, up00, uI67, ne_eq, Nat.reduceEqDiff, lg_self, String.reduceEq, false_and, or_false, false_or, and_self, f3, z00, i1, i2, i3, mO2, imL hl, imM hm, wpX5_steal, wpX5_asks, wpX5_asks_B32, wpX5_wrongAsk, wpX5_wrongAsk_B24, nk32, e20, le20, e2s, e30, le30, e10, uA_ne, uA_same, uA_2]
                  rw [sp_X5_cannotAsk hc6 hm hn (hR2.s67 0).mne]
                  try simp only [true_and, and_true, forall_eq, forall_const, true_implies, false_implies, not_true_eq_false, not_false_eq_true, le00, le10, e10, e01, eq_self, ck1, ck0, wpX5_thrown, uI_same, uI_2, uO_o, uO_1, up0, up00, uI67, ne_eq, Nat.reduceEqDiff, lg_self, String.reduceEq, false_and, or_false, false_or, and_self, f3, z00, hR2.mpa, hR2.mdn, hR2.mld, hR2.mtm, lead_eq hJ ht hm, hcan, Bool.not_true, bIf, wpX5_steal, wpX5_asks, wpX5_asks_B32, nk32, e20, le20, e2s, e30, le30, e10, uA_ne, uA_same, uA_2]
                  refine sp_X5_looks hm ?_
                  try simp only [true_and, and_true, forall_eq, forall_const, true_implies, false_implies, not_true_eq_false, not_false_eq_true, le00, le10, e10, e01, eq_self, ck1, ck0, wpX5_thrown, uI_same, uI_2, uO_o, uO_1, up0, up00, uI67, ne_eq, Nat.reduceEqDiff, lg_self, String.reduceEq, false_and, or_false, false_or, and_self, f3, z00, hR2.mdn, hR2.mcu, hR2.mtm, hg, if_true, uA_ne, uA_same, uA_2]
                  have hR3 := (hR2.s67 0).sm_tm (csT v.dn v.cu v.tm m)
                  generalize hw3 : uA (uI w2 67 0) 39 (csT v.dn v.cu v.tm m) = w3 at hR3 ⊢
                  have m3ks : w3.1 38 = v.ks := hR3.mks
                  have m3kc : w3.1 45 = v.kc := hR3.mkc
                  have m3kv : w3.1 46 = v.kv := hR3.mkv
                  have m3va : w3.1 52 = v.va := hR3.mva
                  have m3ku : w3.1 47 = v.ku := hR3.mku
                  have m3of : w3.1 43 = v.of := hR3.mof
                  have m3now : w3.1 68 0 = nI v.now := hR3.mnow
                  have m3ow : w3.1 48 = v.ow := hR3.mow
                  have m3en : w3.1 49 = v.en := hR3.men
                  have m3th : w3.1 51 = v.th := hR3.mth
                  have m3wt : w3.1 54 = v.wt := hR3.mwt
                  have m3gr : w3.1 50 = v.gr := hR3.mgr
                  have m3lm : w3.2.1 1 = v.lm := hR3.mlm
                  have m3ls : w3.1 37 = v.ls := hR3.mls
                  have k67 : w3.1 67 0 = 0 := by rw [← hw3, uA_ne _ _ (by decide)]; exact uI_same _ _ _ _
                  have ho3 : w3.2.2.1 0 = (103 : Int32).toInt64 := by rw [← hw3]; exact ho2
                  have mr : plc (fun j => w3.1 53 (6 * l + j)) (nI c) 0 N = plc (v.q l) (nI c) 0 N := mrow hR3 hl hN (nI c)
                  try simp only [true_and, and_true, forall_eq, forall_const, true_implies, false_implies, not_true_eq_false, not_false_eq_true, le00, le10, e10, e01, eq_self, ck1, ck0, wpX5_thrown, uI_same, uI_2, uO_o, uO_1, up0, up00, uI67, ne_eq, Nat.reduceEqDiff, lg_self, String.reduceEq, false_and, or_false, false_or, and_self, f3, z00, wpX5_requests, wpX5_requests_B21, fB_M hJ hl m3ow m3en, m3ks, m3kc, m3kv, m3va, m3ku, m3of, m3now, m3ow, m3en, m3th, m3wt, m3gr, m3lm, m3ls, f1l, f2l, k67, hf, bIt, eN, z0, uA_ne, uA_same, uA_2]
                  unfold wpX5_requests_B47
                  refine RM_grants hR3 (Keep.r w3) hc6 hl hN eN (fun w4 h4 k4 => ?_)
                  refine RM_entry h4 k4 hm hne (.inl rfl) (fun w5 h5 k5 => ?_)
                  try simp only [true_and, and_true, forall_eq, forall_const, true_implies, false_implies, not_true_eq_false, not_false_eq_true, le00, le10, e10, e01, eq_self, ck1, ck0, wpX5_thrown, uI_same, uI_2, uO_o, uO_1, up0, up00, uI67, ne_eq, Nat.reduceEqDiff, lg_self, String.reduceEq, false_and, or_false, false_or, and_self, f3, z00, nk103, nk104, nk109, nk119, nk111, nk115, nk98, d111, d115, d103, k5.1, k5.2, k67, ho3, uA_ne, uA_same, uA_2]
                  exact ⟨_, R.fin h5 rfl, (hJ1.grant (by omega) hne hm hc hl hq hT hf eN hN).mono⟩
                · have z0 : (nI N = 0) = False := eq_false (fun q => hz (nI_inj (b := 0) (by omega) (by decide) q))
                  have j6 : vp_in 0 6 := inN (a := 0) (by decide) (by decide)
                  by_cases h0 : v.q l 0 = nI c
                  · try simp only [true_and, and_true, forall_eq, forall_const, true_implies, false_implies, not_true_eq_false, not_false_eq_true, le00, le10, e10, e01, eq_self, ck1, ck0, wpX5_thrown, uI_same, uI_2, uO_o, uO_1, up0, up00, uI67, ne_eq, Nat.reduceEqDiff, lg_self, String.reduceEq, false_and, or_false, false_or, and_self, f3, z00, z0, j6, m1q, h0, uA_ne, uA_same, uA_2]
                    refine RC_grant hR1 hc6 hl hm hN eN hne (fun w1k hRC => ?_)
                    try simp only [true_and, and_true, forall_eq, forall_const, true_implies, false_implies, not_true_eq_false, not_false_eq_true, le00, le10, e10, e01, eq_self, ck1, ck0, wpX5_thrown, uI_same, uI_2, uO_o, uO_1, up0, up00, uI67, ne_eq, Nat.reduceEqDiff, lg_self, String.reduceEq, false_and, or_false, false_or, and_self, f3, z00, nk103, nk104, nk109, nk119, nk111, nk115, nk98, d111, d115, d103, i1, i2, i3, uA_ne, uA_same, uA_2]
                    generalize hw2 : uO _ _ = w2
                    have hR2 : R (V.gC (V.s_tm v (csT v.dn v.cu v.tm m)) c l m N) v w2 := by rw [← hw2]; exact hRC.sO _
                    have ho2 : w2.2.2.1 0 = (103 : Int32).toInt64 := by rw [← hw2, uO_o, up00]
                    have mO2 : ∀ P, wpX5_isClient (nI c) w2 P ↔ P 1 w2 := fun P => imC hn6 hR2.mnc hc
                    try simp only [true_and, and_true, forall_eq, forall_const, true_implies, false_implies, not_true_eq_false, not_false_eq_true, le00, le10, e10, e01, eq_self, ck1, ck0, wpX5_thrown, uI_same, uI_2, uO_o, uO_1, up0, up00, uI67, ne_eq, Nat.reduceEqDiff, lg_self, String.reduceEq, false_and, or_false, false_or, and_self, f3, z00, i1, i2, i3, mO2, imL hl, imM hm, wpX5_steal, wpX5_asks, wpX5_asks_B32, wpX5_wrongAsk, wpX5_wrongAsk_B24, nk32, e20, le20, e2s, e30, le30, e10, uA_ne, uA_same, uA_2]
                    rw [sp_X5_cannotAsk hc6 hm hn (hR2.s67 0).mne]
                    try simp only [true_and, and_true, forall_eq, forall_const, true_implies, false_implies, not_true_eq_false, not_false_eq_true, le00, le10, e10, e01, eq_self, ck1, ck0, wpX5_thrown, uI_same, uI_2, uO_o, uO_1, up0, up00, uI67, ne_eq, Nat.reduceEqDiff, lg_self, String.reduceEq, false_and, or_false, false_or, and_self, f3, z00, hR2.mpa, hR2.mdn, hR2.mld, hR2.mtm, lead_eq hJ ht hm, hcan, Bool.not_true, bIf, wpX5_steal, wpX5_asks, wpX5_asks_B32, nk32, e20, le20, e2s, e30, le30, e10, uA_ne, uA_same, uA_2]
                    refine sp_X5_looks hm ?_
                    try simp only [true_and, and_true, forall_eq, forall_const, true_implies, false_implies, not_true_eq_false, not_false_eq_true, le00, le10, e10, e01, eq_self, ck1, ck0, wpX5_thrown, uI_same, uI_2, uO_o, uO_1, up0, up00, uI67, ne_eq, Nat.reduceEqDiff, lg_self, String.reduceEq, false_and, or_false, false_or, and_self, f3, z00, hR2.mdn, hR2.mcu, hR2.mtm, hg, if_true, uA_ne, uA_same, uA_2]
                    have hR3 := (hR2.s67 0).sm_tm (csT v.dn v.cu v.tm m)
                    generalize hw3 : uA (uI w2 67 0) 39 (csT v.dn v.cu v.tm m) = w3 at hR3 ⊢
                    have m3ks : w3.1 38 = v.ks := hR3.mks
                    have m3kc : w3.1 45 = v.kc := hR3.mkc
                    have m3kv : w3.1 46 = v.kv := hR3.mkv
                    have m3va : w3.1 52 = v.va := hR3.mva
                    have m3ku : w3.1 47 = v.ku := hR3.mku
                    have m3of : w3.1 43 = v.of := hR3.mof
                    have m3now : w3.1 68 0 = nI v.now := hR3.mnow
                    have m3ow : w3.1 48 = v.ow := hR3.mow
                    have m3en : w3.1 49 = v.en := hR3.men
                    have m3th : w3.1 51 = v.th := hR3.mth
                    have m3wt : w3.1 54 = v.wt := hR3.mwt
                    have m3gr : w3.1 50 = v.gr := hR3.mgr
                    have m3lm : w3.2.1 1 = v.lm := hR3.mlm
                    have m3ls : w3.1 37 = v.ls := hR3.mls
                    have k67 : w3.1 67 0 = 0 := by rw [← hw3, uA_ne _ _ (by decide)]; exact uI_same _ _ _ _
                    have ho3 : w3.2.2.1 0 = (103 : Int32).toInt64 := by rw [← hw3]; exact ho2
                    have mr : plc (fun j => w3.1 53 (6 * l + j)) (nI c) 0 N = plc (v.q l) (nI c) 0 N := mrow hR3 hl hN (nI c)
                    try simp only [true_and, and_true, forall_eq, forall_const, true_implies, false_implies, not_true_eq_false, not_false_eq_true, le00, le10, e10, e01, eq_self, ck1, ck0, wpX5_thrown, uI_same, uI_2, uO_o, uO_1, up0, up00, uI67, ne_eq, Nat.reduceEqDiff, lg_self, String.reduceEq, false_and, or_false, false_or, and_self, f3, z00, wpX5_requests, wpX5_requests_B21, fB_M hJ hl m3ow m3en, m3ks, m3kc, m3kv, m3va, m3ku, m3of, m3now, m3ow, m3en, m3th, m3wt, m3gr, m3lm, m3ls, f1l, f2l, k67, hf, bIt, eN, z0, uA_ne, uA_same, uA_2]
                    refine sp_X5_placeIn hN hl (by rw [m3wt]; exact eN) ?_
                    rw [mr]
                    rw [plc_0 hN hz]
                    refine ⟨fun _ => ?_, fun q => absurd h0 q⟩
                    unfold wpX5_requests_B47
                    refine RM_grants hR3 (Keep.r w3) hc6 hl hN eN (fun w4 h4 k4 => ?_)
                    refine RM_entry h4 k4 hm hne (.inl rfl) (fun w5 h5 k5 => ?_)
                    try simp only [true_and, and_true, forall_eq, forall_const, true_implies, false_implies, not_true_eq_false, not_false_eq_true, le00, le10, e10, e01, eq_self, ck1, ck0, wpX5_thrown, uI_same, uI_2, uO_o, uO_1, up0, up00, uI67, ne_eq, Nat.reduceEqDiff, lg_self, String.reduceEq, false_and, or_false, false_or, and_self, f3, z00, nk103, nk104, nk109, nk119, nk111, nk115, nk98, d111, d115, d103, k5.1, k5.2, k67, ho3, uA_ne, uA_same, uA_2]
                    exact ⟨_, R.fin h5 rfl, (hJ1.grant (by omega) hne hm hc hl hq hT hf eN hN).mono⟩
                  · try simp only [true_and, and_true, forall_eq, forall_const, true_implies, false_implies, not_true_eq_false, not_false_eq_true, le00, le10, e10, e01, eq_self, ck1, ck0, wpX5_thrown, uI_same, uI_2, uO_o, uO_1, up0, up00, uI67, ne_eq, Nat.reduceEqDiff, lg_self, String.reduceEq, false_and, or_false, false_or, and_self, f3, z00, z0, j6, m1q, h0, uA_ne, uA_same, uA_2]
                    unfold wpX4_obtain_B89
                    refine ⟨fun q => absurd q (by decide), fun _ => RC_first hR1 hl hN eN hroom2 (fun w1a h1a => ⟨f1l, fun w1k e1k => ?_⟩)⟩
                    rw [h1a.cth, f2l] at e1k
                    have hRC := h1a.sc_th (upd v.th l (nI c))
                    rw [show uA w1a 16 (upd v.th l (nI c)) = w1k from e1k.symm] at hRC
                    try simp only [true_and, and_true, forall_eq, forall_const, true_implies, false_implies, not_true_eq_false, not_false_eq_true, le00, le10, e10, e01, eq_self, ck1, ck0, wpX5_thrown, uI_same, uI_2, uO_o, uO_1, up0, up00, uI67, ne_eq, Nat.reduceEqDiff, lg_self, String.reduceEq, false_and, or_false, false_or, and_self, f3, z00, nk103, nk104, nk109, nk119, nk111, nk115, nk98, d111, d115, d103, i1, i2, i3, uA_ne, uA_same, uA_2]
                    generalize hw2 : uO _ _ = w2
                    have hR2 : R (V.s_th (V.pf (V.s_tm v (csT v.dn v.cu v.tm m)) l (nI c) N) (upd v.th l (nI c))) v w2 := by rw [← hw2]; exact hRC.sO _
                    have ho2 : w2.2.2.1 0 = (109 : Int32).toInt64 := by rw [← hw2, uO_o, up00]
                    have mO2 : ∀ P, wpX5_isClient (nI c) w2 P ↔ P 1 w2 := fun P => imC hn6 hR2.mnc hc
                    try simp only [true_and, and_true, forall_eq, forall_const, true_implies, false_implies, not_true_eq_false, not_false_eq_true, le00, le10, e10, e01, eq_self, ck1, ck0, wpX5_thrown, uI_same, uI_2, uO_o, uO_1, up0, up00, uI67, ne_eq, Nat.reduceEqDiff, lg_self, String.reduceEq, false_and, or_false, false_or, and_self, f3, z00, i1, i2, i3, mO2, imL hl, imM hm, wpX5_steal, wpX5_asks, wpX5_asks_B32, wpX5_wrongAsk, wpX5_wrongAsk_B24, nk32, e20, le20, e2s, e30, le30, e10, uA_ne, uA_same, uA_2]
                    rw [sp_X5_cannotAsk hc6 hm hn (hR2.s67 0).mne]
                    try simp only [true_and, and_true, forall_eq, forall_const, true_implies, false_implies, not_true_eq_false, not_false_eq_true, le00, le10, e10, e01, eq_self, ck1, ck0, wpX5_thrown, uI_same, uI_2, uO_o, uO_1, up0, up00, uI67, ne_eq, Nat.reduceEqDiff, lg_self, String.reduceEq, false_and, or_false, false_or, and_self, f3, z00, hR2.mpa, hR2.mdn, hR2.mld, hR2.mtm, lead_eq hJ ht hm, hcan, Bool.not_true, bIf, wpX5_steal, wpX5_asks, wpX5_asks_B32, nk32, e20, le20, e2s, e30, le30, e10, uA_ne, uA_same, uA_2]
                    refine sp_X5_looks hm ?_
                    try simp only [true_and, and_true, forall_eq, forall_const, true_implies, false_implies, not_true_eq_false, not_false_eq_true, le00, le10, e10, e01, eq_self, ck1, ck0, wpX5_thrown, uI_same, uI_2, uO_o, uO_1, up0, up00, uI67, ne_eq, Nat.reduceEqDiff, lg_self, String.reduceEq, false_and, or_false, false_or, and_self, f3, z00, hR2.mdn, hR2.mcu, hR2.mtm, hg, if_true, uA_ne, uA_same, uA_2]
                    have hR3 := (hR2.s67 0).sm_tm (csT v.dn v.cu v.tm m)
                    generalize hw3 : uA (uI w2 67 0) 39 (csT v.dn v.cu v.tm m) = w3 at hR3 ⊢
                    have m3ks : w3.1 38 = v.ks := hR3.mks
                    have m3kc : w3.1 45 = v.kc := hR3.mkc
                    have m3kv : w3.1 46 = v.kv := hR3.mkv
                    have m3va : w3.1 52 = v.va := hR3.mva
                    have m3ku : w3.1 47 = v.ku := hR3.mku
                    have m3of : w3.1 43 = v.of := hR3.mof
                    have m3now : w3.1 68 0 = nI v.now := hR3.mnow
                    have m3ow : w3.1 48 = v.ow := hR3.mow
                    have m3en : w3.1 49 = v.en := hR3.men
                    have m3th : w3.1 51 = v.th := hR3.mth
                    have m3wt : w3.1 54 = v.wt := hR3.mwt
                    have m3gr : w3.1 50 = v.gr := hR3.mgr
                    have m3lm : w3.2.1 1 = v.lm := hR3.mlm
                    have m3ls : w3.1 37 = v.ls := hR3.mls
                    have k67 : w3.1 67 0 = 0 := by rw [← hw3, uA_ne _ _ (by decide)]; exact uI_same _ _ _ _
                    have ho3 : w3.2.2.1 0 = (109 : Int32).toInt64 := by rw [← hw3]; exact ho2
                    have mr : plc (fun j => w3.1 53 (6 * l + j)) (nI c) 0 N = plc (v.q l) (nI c) 0 N := mrow hR3 hl hN (nI c)
                    try simp only [true_and, and_true, forall_eq, forall_const, true_implies, false_implies, not_true_eq_false, not_false_eq_true, le00, le10, e10, e01, eq_self, ck1, ck0, wpX5_thrown, uI_same, uI_2, uO_o, uO_1, up0, up00, uI67, ne_eq, Nat.reduceEqDiff, lg_self, String.reduceEq, false_and, or_false, false_or, and_self, f3, z00, wpX5_requests, wpX5_requests_B21, fB_M hJ hl m3ow m3en, m3ks, m3kc, m3kv, m3va, m3ku, m3of, m3now, m3ow, m3en, m3th, m3wt, m3gr, m3lm, m3ls, f1l, f2l, k67, hf, bIt, eN, z0, uA_ne, uA_same, uA_2]
                    refine sp_X5_placeIn hN hl (by rw [m3wt]; exact eN) ?_
                    rw [mr]
                    rw [plc_0 hN hz]
                    refine ⟨fun q => absurd q h0, fun _ => ?_⟩
                    unfold wpX5_requests_B63
                    refine ⟨fun q => absurd q (by decide), fun _ => RM_first hR3 (Keep.r w3) hl hN eN hroom2 (fun w5 h5 k5 => ?_)⟩
                    try simp only [true_and, and_true, forall_eq, forall_const, true_implies, false_implies, not_true_eq_false, not_false_eq_true, le00, le10, e10, e01, eq_self, ck1, ck0, wpX5_thrown, uI_same, uI_2, uO_o, uO_1, up0, up00, uI67, ne_eq, Nat.reduceEqDiff, lg_self, String.reduceEq, false_and, or_false, false_or, and_self, f3, z00, nk103, nk104, nk109, nk119, nk111, nk115, nk98, d111, d115, d103, k5.1, k5.2, k67, ho3, uA_ne, uA_same, uA_2]
                    exact ⟨_, R.fin h5 rfl, (hJ1.queue (thU hJ.thv (.inr ⟨c, hc, rfl⟩)) (wtU (wtU hJ.wtq (qOK_take (hJ.wtq l hl) eN hN (nI c))) (qOK_first hroom2 tk2 tk3 hc tk4))).mono⟩
          · have nk : (narrow .char (.int (csR v.dn v.cu v.tm m)) = .int (csR v.dn v.cu v.tm m)) = True := by
              rcases csR_cases v.dn v.cu v.tm m with h | h | h <;> rw [h] <;> decide
            have n45 : (csR v.dn v.cu v.tm m = 45) = False := by
              rcases csR_cases v.dn v.cu v.tm m with h | h | h <;> rw [h] <;> decide
            try simp only [true_and, and_true, forall_eq, forall_const, true_implies, false_implies, not_true_eq_false, not_false_eq_true, le00, le10, e10, e01, eq_self, ck1, ck0, wpX5_thrown, uI_same, uI_2, uO_o, uO_1, up0, up00, uI67, ne_eq, Nat.reduceEqDiff, lg_self, String.reduceEq, false_and, or_false, false_or, and_self, f3, z00, hg, nk, i1, i2, i3, wpL_steal, wpX4_steal, wpX4_obtain, uA_ne, uA_same, uA_2]
            generalize hw2 : uO w1 _ = w2
            have hR2 : R (V.s_tm v (csT v.dn v.cu v.tm m)) v w2 := by rw [← hw2]; exact hR1.sO _
            have ho2 : w2.2.2.1 0 = (csR v.dn v.cu v.tm m).toInt64 := by rw [← hw2, uO_o, up00]
            have mO2 : ∀ P, wpX5_isClient (nI c) w2 P ↔ P 1 w2 := fun P => imC hn6 hR2.mnc hc
            try simp only [true_and, and_true, forall_eq, forall_const, true_implies, false_implies, not_true_eq_false, not_false_eq_true, le00, le10, e10, e01, eq_self, ck1, ck0, wpX5_thrown, uI_same, uI_2, uO_o, uO_1, up0, up00, uI67, ne_eq, Nat.reduceEqDiff, lg_self, String.reduceEq, false_and, or_false, false_or, and_self, f3, z00, i1, i2, i3, mO2, imL hl, imM hm, wpX5_steal, wpX5_asks, wpX5_asks_B32, wpX5_wrongAsk, wpX5_wrongAsk_B24, wpX4_checkNumbers, nk32, e20, le20, e2s, e30, le30, e10, uA_ne, uA_same, uA_2]
            rw [sp_X5_cannotAsk hc6 hm hn (hR2.s67 0).mne]
            try simp only [true_and, and_true, forall_eq, forall_const, true_implies, false_implies, not_true_eq_false, not_false_eq_true, le00, le10, e10, e01, eq_self, ck1, ck0, wpX5_thrown, uI_same, uI_2, uO_o, uO_1, up0, up00, uI67, ne_eq, Nat.reduceEqDiff, lg_self, String.reduceEq, false_and, or_false, false_or, and_self, f3, z00, hR2.mpa, hR2.mdn, hR2.mld, hR2.mtm, lead_eq hJ ht hm, hcan, Bool.not_true, bIf, wpX5_steal, wpX5_asks, wpX5_asks_B32, nk32, e20, le20, e2s, e30, le30, e10, uA_ne, uA_same, uA_2]
            refine sp_X5_looks hm ?_
            try simp only [true_and, and_true, forall_eq, forall_const, true_implies, false_implies, not_true_eq_false, not_false_eq_true, le00, le10, e10, e01, eq_self, ck1, ck0, wpX5_thrown, uI_same, uI_2, uO_o, uO_1, up0, up00, uI67, ne_eq, Nat.reduceEqDiff, lg_self, String.reduceEq, false_and, or_false, false_or, and_self, f3, z00, hR2.mdn, hR2.mcu, hR2.mtm, hg, if_false, n45, nk, ho2, uA_ne, uA_same, uA_2]
            exact ⟨_, R.fin ((hR2.s67 0).sm_tm (csT v.dn v.cu v.tm m)) rfl, hJ1.mono⟩
      · try simp only [true_and, and_true, forall_eq, forall_const, true_implies, false_implies, not_true_eq_false, not_false_eq_true, le00, le10, e10, e01, eq_self, ck1, ck0, wpX5_thrown, uI_same, uI_2, uO_o, uO_1, up0, up00, uI67, ne_eq, Nat.reduceEqDiff, lg_self, String.reduceEq, false_and, or_false, false_or, and_self, f3, z00, i1, i2, i3, cO, ckL hl, ckM' hb3, wpL_steal, wpX4_steal, wpX4_obtain, wpX5_wrongAsk, wpX5_wrongAsk_B24, wpX4_checkNumbers, uA_ne, uA_same, uA_2]
        try simp only [true_and, and_true, forall_eq, forall_const, true_implies, false_implies, not_true_eq_false, not_false_eq_true, le00, le10, e10, e01, eq_self, ck1, ck0, wpX5_thrown, uI_same, uI_2, uO_o, uO_1, up0, up00, uI67, ne_eq, Nat.reduceEqDiff, lg_self, String.reduceEq, false_and, or_false, false_or, and_self, f3, z00, i1, i2, i3, mO', imL hl, imM' hb3, wpX5_steal, wpX5_asks, wpX5_asks_B32, wpX5_wrongAsk, wpX5_wrongAsk_B24, wpX4_checkNumbers, nk32, e20, le20, e2s, e30, le30, e10, uA_ne, uA_same, uA_2]
        exact ⟨v, hR.s67 _, hJ.mono⟩
    · try simp only [true_and, and_true, forall_eq, forall_const, true_implies, false_implies, not_true_eq_false, not_false_eq_true, le00, le10, e10, e01, eq_self, ck1, ck0, wpX5_thrown, uI_same, uI_2, uO_o, uO_1, up0, up00, uI67, ne_eq, Nat.reduceEqDiff, lg_self, String.reduceEq, false_and, or_false, false_or, and_self, f3, z00, i1, i2, i3, cO, ckL' hb2, wpL_steal, wpX4_steal, wpX4_obtain, wpX5_wrongAsk, wpX5_wrongAsk_B24, wpX4_checkNumbers, uA_ne, uA_same, uA_2]
      try simp only [true_and, and_true, forall_eq, forall_const, true_implies, false_implies, not_true_eq_false, not_false_eq_true, le00, le10, e10, e01, eq_self, ck1, ck0, wpX5_thrown, uI_same, uI_2, uO_o, uO_1, up0, up00, uI67, ne_eq, Nat.reduceEqDiff, lg_self, String.reduceEq, false_and, or_false, false_or, and_self, f3, z00, i1, i2, i3, mO', imL' hb2, wpX5_steal, wpX5_asks, wpX5_asks_B32, wpX5_wrongAsk, wpX5_wrongAsk_B24, wpX4_checkNumbers, nk32, e20, le20, e2s, e30, le30, e10, uA_ne, uA_same, uA_2]
      exact ⟨v, hR.s67 _, hJ.mono⟩
  · have hn6 := hJ.nc6
    have cX : ∀ P px, wpX4_checkClient p1 w P px ↔ px "java/util/NoSuchElementException" w := fun P px => ckC' hR.cnc hb1
    have mX : ∀ P, wpX5_isClient p1 w P ↔ P 0 w := fun P => imC' hn6 hR.mnc hb1
    try simp only [true_and, and_true, forall_eq, forall_const, true_implies, false_implies, not_true_eq_false, not_false_eq_true, le00, le10, e10, e01, eq_self, ck1, ck0, wpX5_thrown, uI_same, uI_2, uO_o, uO_1, up0, up00, uI67, ne_eq, Nat.reduceEqDiff, lg_self, String.reduceEq, false_and, or_false, false_or, and_self, f3, z00, i1, i2, i3, cX, wpL_steal, wpX4_steal, wpX4_obtain, wpX5_wrongAsk, wpX5_wrongAsk_B24, wpX4_checkNumbers, uA_ne, uA_same, uA_2]
    try simp only [true_and, and_true, forall_eq, forall_const, true_implies, false_implies, not_true_eq_false, not_false_eq_true, le00, le10, e10, e01, eq_self, ck1, ck0, wpX5_thrown, uI_same, uI_2, uO_o, uO_1, up0, up00, uI67, ne_eq, Nat.reduceEqDiff, lg_self, String.reduceEq, false_and, or_false, false_or, and_self, f3, z00, i1, i2, i3, mX, wpX5_steal, wpX5_asks, wpX5_asks_B32, wpX5_wrongAsk, wpX5_wrongAsk_B24, wpX4_checkNumbers, nk32, e20, le20, e2s, e30, le30, e10, uA_ne, uA_same, uA_2]
    exact ⟨v, hR.s67 _, hJ.mono⟩
