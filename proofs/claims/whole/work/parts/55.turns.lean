set_option maxHeartbeats 1000000 in
theorem st_0 {xs : Nat → Int32} {L t : Nat} {w : St} (hL : L ≤ 2560) (h5 : 5 * t + 5 ≤ L) (hI : Inv t w) : wpL_C0 xs L (nI (5 * t)) w (Inv (t + 1)) := by
  obtain ⟨v, hR, hJ⟩ := hI
  have f3 : vp_in 0 1 := inN (a := 0) (by decide) (by decide)
  have z00 : (0 : Int32).toNatClampNeg = 0 := rfl
  have i1 : vp_in (nI (5 * t) + 1) L := inL (k := 1) h5 hL (by decide)
  unfold wpL_C0
  generalize e1 : xs (nI (5 * t) + 1).toNatClampNeg = p1
  rcases ixc p1 61 (by decide) with ⟨a, ha, rfl⟩ | hb1
  · rcases Nat.eq_zero_or_pos a with e | e
    · subst e
      have z1 : (nI 0 < 1) = True := eq_true (by decide)
      have g : ∀ w P, wpX5_in (nI 0) 1 60 w P ↔ P 0 w := fun w P => by unfold wpX5_in; simp [show nI 0 < 1 by decide]
      try simp only [true_and, and_true, forall_eq, forall_const, true_implies, false_implies, not_true_eq_false, not_false_eq_true, le00, le10, e10, e01, eq_self, ck1, ck0, wpX5_thrown, uI_same, uI_2, uO_o, uO_1, up0, up00, uI67, ne_eq, Nat.reduceEqDiff, lg_self, String.reduceEq, false_and, or_false, false_or, and_self, f3, z00, i1, wpL_pass, wpX4_pass, wpX5_pass, wpX4_pass_B11, z1, g, uA_ne, uA_same, uA_2]
      exact ⟨v, hR.s67 _, hJ.mono⟩
    · have z1 : (nI a < 1) = False := eq_false (fun q => by have := (ltN (b := 1) (by omega) (by decide)).mp q; omega)
      have z2 : (nI a ≤ 60) = True := eq_true ((leN (b := 60) (by omega) (by decide)).mpr (by omega))
      have z3 : (60 < nI a) = False := eq_false (fun q => by have := (ltN (a := 60) (by decide) (by omega)).mp q; omega)
      have g : ∀ w P, wpX5_in (nI a) 1 60 w P ↔ P 1 w := fun w P => by unfold wpX5_in; simp [z1, z3]
      try simp only [true_and, and_true, forall_eq, forall_const, true_implies, false_implies, not_true_eq_false, not_false_eq_true, le00, le10, e10, e01, eq_self, ck1, ck0, wpX5_thrown, uI_same, uI_2, uO_o, uO_1, up0, up00, uI67, ne_eq, Nat.reduceEqDiff, lg_self, String.reduceEq, false_and, or_false, false_or, and_self, f3, z00, i1, wpL_pass, wpX4_pass, wpX5_pass, wpX4_pass_B11, z1, z2, g, hR.cnow, hR.mnow, nI_add, uI_ne, uA_ne, uA_same, uA_2]
      exact ⟨_, R.fin ((((hR.sc_now (v.now + a)).sO _).s67 _).sm_now (v.now + a)) rfl, hJ.pass (by omega)⟩
  · rcases hb1 with h | ⟨h, h'⟩
    · have z1 : p1 < 1 := Int32.lt_of_lt_of_le h (by decide)
      have g : ∀ w P, wpX5_in p1 1 60 w P ↔ P 0 w := fun w P => by unfold wpX5_in; simp [z1]
      try simp only [true_and, and_true, forall_eq, forall_const, true_implies, false_implies, not_true_eq_false, not_false_eq_true, le00, le10, e10, e01, eq_self, ck1, ck0, wpX5_thrown, uI_same, uI_2, uO_o, uO_1, up0, up00, uI67, ne_eq, Nat.reduceEqDiff, lg_self, String.reduceEq, false_and, or_false, false_or, and_self, f3, z00, i1, wpL_pass, wpX4_pass, wpX5_pass, wpX4_pass_B11, z1, g, uA_ne, uA_same, uA_2]
      exact ⟨v, hR.s67 _, hJ.mono⟩
    · have z1 : ¬ p1 < 1 := fun q => h (by
        have a := Int32.le_trans (show (1 : Int32) ≤ nI 61 by decide) h'
        exact absurd q (Int32.not_lt.mpr a))
      have z2 : ¬ p1 ≤ 60 := fun q => absurd (Int32.le_trans h' q) (by decide)
      have z3 : 60 < p1 := Int32.not_le.mp z2
      have g : ∀ w P, wpX5_in p1 1 60 w P ↔ P 0 w := fun w P => by unfold wpX5_in; simp [z1, z3]
      try simp only [true_and, and_true, forall_eq, forall_const, true_implies, false_implies, not_true_eq_false, not_false_eq_true, le00, le10, e10, e01, eq_self, ck1, ck0, wpX5_thrown, uI_same, uI_2, uO_o, uO_1, up0, up00, uI67, ne_eq, Nat.reduceEqDiff, lg_self, String.reduceEq, false_and, or_false, false_or, and_self, f3, z00, i1, wpL_pass, wpX4_pass, wpX5_pass, wpX4_pass_B11, z1, z2, g, uA_ne, uA_same, uA_2]
      exact ⟨v, hR.s67 _, hJ.mono⟩
set_option maxHeartbeats 1000000 in
theorem st_2 {xs : Nat → Int32} {L t : Nat} {w : St} (hL : L ≤ 2560) (h5 : 5 * t + 5 ≤ L) (hI : Inv t w) : wpL_C2 xs L (nI (5 * t)) w (Inv (t + 1)) := by
  obtain ⟨v, hR, hJ⟩ := hI
  have f3 : vp_in 0 1 := inN (a := 0) (by decide) (by decide)
  have z00 : (0 : Int32).toNatClampNeg = 0 := rfl
  have i1 : vp_in (nI (5 * t) + 1) L := inL (k := 1) h5 hL (by decide)
  have i2 : vp_in (nI (5 * t) + 2) L := inL (k := 2) h5 hL (by decide)
  unfold wpL_C2
  generalize e1 : xs (nI (5 * t) + 1).toNatClampNeg = p1
  generalize e2 : xs (nI (5 * t) + 2).toNatClampNeg = p2
  rcases ixc p1 5 (by decide) with ⟨a, ha, rfl⟩ | hb1
  · have f1a : vp_in (nI a) 5 := inN ha (by decide)
    have f2a : (nI a).toNatClampNeg = a := clN (by omega)
    have hb := hJ.bdn a ha
    have hn := isB_n hb
    by_cases z : p2 = 0
    · try simp only [true_and, and_true, forall_eq, forall_const, true_implies, false_implies, not_true_eq_false, not_false_eq_true, le00, le10, e10, e01, eq_self, ck1, ck0, wpX5_thrown, uI_same, uI_2, uO_o, uO_1, up0, up00, uI67, ne_eq, Nat.reduceEqDiff, lg_self, String.reduceEq, false_and, or_false, false_or, and_self, f3, z00, i1, i2, f1a, f2a, ckM ha, imM ha, z, wpL_setDown, wpX4_setDown, wpX5_setDown, wpL_C2_B314, wpL_C2_B341, wpL_C2_B375, wpL_setDown_B16, nar0, nar1, e1, e2, hR.cdn, hR.mdn, hn, uA_ne, uA_same, uA_2]
      rcases hb with b | b
      all_goals try simp only [true_and, and_true, forall_eq, forall_const, true_implies, false_implies, not_true_eq_false, not_false_eq_true, le00, le10, e10, e01, eq_self, ck1, ck0, wpX5_thrown, uI_same, uI_2, uO_o, uO_1, up0, up00, uI67, ne_eq, Nat.reduceEqDiff, lg_self, String.reduceEq, false_and, or_false, false_or, and_self, f3, z00, b, e10, bIf, bIt, uA_ne, uA_same, uA_2]
      all_goals exact ⟨_, R.fin ((((hR.sc_dn _).sO _).s67 _).sm_dn _) rfl, hJ.setDown isB0⟩
    · try simp only [true_and, and_true, forall_eq, forall_const, true_implies, false_implies, not_true_eq_false, not_false_eq_true, le00, le10, e10, e01, eq_self, ck1, ck0, wpX5_thrown, uI_same, uI_2, uO_o, uO_1, up0, up00, uI67, ne_eq, Nat.reduceEqDiff, lg_self, String.reduceEq, false_and, or_false, false_or, and_self, f3, z00, i1, i2, f1a, f2a, ckM ha, imM ha, z, wpL_setDown, wpX4_setDown, wpX5_setDown, wpL_C2_B314, wpL_C2_B341, wpL_C2_B375, wpL_setDown_B16, nar0, nar1, e1, e2, hR.cdn, hR.mdn, hn, uA_ne, uA_same, uA_2]
      rcases hb with b | b
      all_goals try simp only [true_and, and_true, forall_eq, forall_const, true_implies, false_implies, not_true_eq_false, not_false_eq_true, le00, le10, e10, e01, eq_self, ck1, ck0, wpX5_thrown, uI_same, uI_2, uO_o, uO_1, up0, up00, uI67, ne_eq, Nat.reduceEqDiff, lg_self, String.reduceEq, false_and, or_false, false_or, and_self, f3, z00, b, e10, bIf, bIt, uA_ne, uA_same, uA_2]
      all_goals exact ⟨_, R.fin ((((hR.sc_dn _).sO _).s67 _).sm_dn _) rfl, hJ.setDown isB1⟩
  · by_cases z : p2 = 0
    · try simp only [true_and, and_true, forall_eq, forall_const, true_implies, false_implies, not_true_eq_false, not_false_eq_true, le00, le10, e10, e01, eq_self, ck1, ck0, wpX5_thrown, uI_same, uI_2, uO_o, uO_1, up0, up00, uI67, ne_eq, Nat.reduceEqDiff, lg_self, String.reduceEq, false_and, or_false, false_or, and_self, f3, z00, i1, i2, ckM' hb1, imM' hb1, z, wpL_setDown, wpX4_setDown, wpX5_setDown, wpL_C2_B314, wpL_C2_B341, wpL_C2_B375, wpL_setDown_B16, nar0, nar1, e1, e2, uA_ne, uA_same, uA_2]
      exact ⟨v, hR.s67 _, hJ.mono⟩
    · try simp only [true_and, and_true, forall_eq, forall_const, true_implies, false_implies, not_true_eq_false, not_false_eq_true, le00, le10, e10, e01, eq_self, ck1, ck0, wpX5_thrown, uI_same, uI_2, uO_o, uO_1, up0, up00, uI67, ne_eq, Nat.reduceEqDiff, lg_self, String.reduceEq, false_and, or_false, false_or, and_self, f3, z00, i1, i2, ckM' hb1, imM' hb1, z, wpL_setDown, wpX4_setDown, wpX5_setDown, wpL_C2_B314, wpL_C2_B341, wpL_C2_B375, wpL_setDown_B16, nar0, nar1, e1, e2, uA_ne, uA_same, uA_2]
      exact ⟨v, hR.s67 _, hJ.mono⟩
set_option maxHeartbeats 1000000 in
theorem st_13 {xs : Nat → Int32} {L t : Nat} {w : St} (hL : L ≤ 2560) (h5 : 5 * t + 5 ≤ L) (hI : Inv t w) : wpL_C13 xs L (nI (5 * t)) w (Inv (t + 1)) := by
  obtain ⟨v, hR, hJ⟩ := hI
  have f3 : vp_in 0 1 := inN (a := 0) (by decide) (by decide)
  have z00 : (0 : Int32).toNatClampNeg = 0 := rfl
  have i1 : vp_in (nI (5 * t) + 1) L := inL (k := 1) h5 hL (by decide)
  have i2 : vp_in (nI (5 * t) + 2) L := inL (k := 2) h5 hL (by decide)
  unfold wpL_C13
  generalize e1 : xs (nI (5 * t) + 1).toNatClampNeg = p1
  generalize e2 : xs (nI (5 * t) + 2).toNatClampNeg = p2
  rcases ixc p1 v.nc (by have := hJ.nc6; omega) with ⟨c, hc, rfl⟩ | hb1
  · have hn6 := hJ.nc6
    have hc6 : c < 6 := by omega
    have f1c : vp_in (nI c) 6 := inN hc6 (by decide)
    have f2c : (nI c).toNatClampNeg = c := clN (by omega)
    have cO : ∀ P px, wpX4_checkClient (nI c) w P px ↔ P w := fun P px => ckC hn6 hR.cnc hc
    have hb := hJ.bpa c hc6
    have hn := isB_n hb
    have mm : ∀ w, w.1 69 0 = nI v.nc → ∀ P, wpX5_isClient (nI c) w P ↔ P 1 w := fun w h P => imC hn6 h hc
    by_cases z : p2 = 0
    · try simp only [true_and, and_true, forall_eq, forall_const, true_implies, false_implies, not_true_eq_false, not_false_eq_true, le00, le10, e10, e01, eq_self, ck1, ck0, wpX5_thrown, uI_same, uI_2, uO_o, uO_1, up0, up00, uI67, ne_eq, Nat.reduceEqDiff, lg_self, String.reduceEq, false_and, or_false, false_or, and_self, f3, z00, i1, i2, f1c, f2c, cO, z, wpL_setPaused, wpX4_setPaused, wpX5_setPaused, wpL_C13_B1031, wpL_C13_B1058, wpL_C13_B1092, wpL_setPaused_B16, nar0, nar1, e1, e2, hR.cpa, hn, uA_ne, uA_same, uA_2]
      rcases hb with b | b
      all_goals try simp only [true_and, and_true, forall_eq, forall_const, true_implies, false_implies, not_true_eq_false, not_false_eq_true, le00, le10, e10, e01, eq_self, ck1, ck0, wpX5_thrown, uI_same, uI_2, uO_o, uO_1, up0, up00, uI67, ne_eq, Nat.reduceEqDiff, lg_self, String.reduceEq, false_and, or_false, false_or, and_self, f3, z00, b, e10, bIf, bIt, i1, i2, z, wpL_setPaused, wpX4_setPaused, wpX5_setPaused, wpL_C13_B1031, wpL_C13_B1058, wpL_C13_B1092, wpL_setPaused_B16, nar0, nar1, e1, e2, uA_ne, uA_same, uA_2]
      all_goals rw [imC hn6 (((hR.sc_pa _).sO _).mnc) hc]
      all_goals try simp only [true_and, and_true, forall_eq, forall_const, true_implies, false_implies, not_true_eq_false, not_false_eq_true, le00, le10, e10, e01, eq_self, ck1, ck0, wpX5_thrown, uI_same, uI_2, uO_o, uO_1, up0, up00, uI67, ne_eq, Nat.reduceEqDiff, lg_self, String.reduceEq, false_and, or_false, false_or, and_self, f3, z00, b, e10, f1c, f2c, hR.mpa, z, wpL_setPaused, wpX4_setPaused, wpX5_setPaused, wpL_C13_B1031, wpL_C13_B1058, wpL_C13_B1092, wpL_setPaused_B16, nar0, nar1, e1, e2, hn, nb0, nb1, uA_ne, uA_same, uA_2]
      all_goals exact ⟨_, R.fin ((((hR.sc_pa _).sO _).s67 _).sm_pa _) rfl, hJ.setPaused isB0⟩
    · try simp only [true_and, and_true, forall_eq, forall_const, true_implies, false_implies, not_true_eq_false, not_false_eq_true, le00, le10, e10, e01, eq_self, ck1, ck0, wpX5_thrown, uI_same, uI_2, uO_o, uO_1, up0, up00, uI67, ne_eq, Nat.reduceEqDiff, lg_self, String.reduceEq, false_and, or_false, false_or, and_self, f3, z00, i1, i2, f1c, f2c, cO, z, wpL_setPaused, wpX4_setPaused, wpX5_setPaused, wpL_C13_B1031, wpL_C13_B1058, wpL_C13_B1092, wpL_setPaused_B16, nar0, nar1, e1, e2, hR.cpa, hn, uA_ne, uA_same, uA_2]
      rcases hb with b | b
      all_goals try simp only [true_and, and_true, forall_eq, forall_const, true_implies, false_implies, not_true_eq_false, not_false_eq_true, le00, le10, e10, e01, eq_self, ck1, ck0, wpX5_thrown, uI_same, uI_2, uO_o, uO_1, up0, up00, uI67, ne_eq, Nat.reduceEqDiff, lg_self, String.reduceEq, false_and, or_false, false_or, and_self, f3, z00, b, e10, bIf, bIt, i1, i2, z, wpL_setPaused, wpX4_setPaused, wpX5_setPaused, wpL_C13_B1031, wpL_C13_B1058, wpL_C13_B1092, wpL_setPaused_B16, nar0, nar1, e1, e2, uA_ne, uA_same, uA_2]
      all_goals rw [imC hn6 (((hR.sc_pa _).sO _).mnc) hc]
      all_goals try simp only [true_and, and_true, forall_eq, forall_const, true_implies, false_implies, not_true_eq_false, not_false_eq_true, le00, le10, e10, e01, eq_self, ck1, ck0, wpX5_thrown, uI_same, uI_2, uO_o, uO_1, up0, up00, uI67, ne_eq, Nat.reduceEqDiff, lg_self, String.reduceEq, false_and, or_false, false_or, and_self, f3, z00, b, e10, f1c, f2c, hR.mpa, z, wpL_setPaused, wpX4_setPaused, wpX5_setPaused, wpL_C13_B1031, wpL_C13_B1058, wpL_C13_B1092, wpL_setPaused_B16, nar0, nar1, e1, e2, hn, nb0, nb1, uA_ne, uA_same, uA_2]
      all_goals exact ⟨_, R.fin ((((hR.sc_pa _).sO _).s67 _).sm_pa _) rfl, hJ.setPaused isB1⟩
  · have hn6 := hJ.nc6
    have cX : ∀ P px, wpX4_checkClient p1 w P px ↔ px "java/util/NoSuchElementException" w := fun P px => ckC' hR.cnc hb1
    have mX : ∀ P, wpX5_isClient p1 w P ↔ P 0 w := fun P => imC' hn6 hR.mnc hb1
    by_cases z : p2 = 0
    · try simp only [true_and, and_true, forall_eq, forall_const, true_implies, false_implies, not_true_eq_false, not_false_eq_true, le00, le10, e10, e01, eq_self, ck1, ck0, wpX5_thrown, uI_same, uI_2, uO_o, uO_1, up0, up00, uI67, ne_eq, Nat.reduceEqDiff, lg_self, String.reduceEq, false_and, or_false, false_or, and_self, f3, z00, i1, i2, cX, mX, z, wpL_setPaused, wpX4_setPaused, wpX5_setPaused, wpL_C13_B1031, wpL_C13_B1058, wpL_C13_B1092, wpL_setPaused_B16, nar0, nar1, e1, e2, uA_ne, uA_same, uA_2]
      exact ⟨v, hR.s67 _, hJ.mono⟩
    · try simp only [true_and, and_true, forall_eq, forall_const, true_implies, false_implies, not_true_eq_false, not_false_eq_true, le00, le10, e10, e01, eq_self, ck1, ck0, wpX5_thrown, uI_same, uI_2, uO_o, uO_1, up0, up00, uI67, ne_eq, Nat.reduceEqDiff, lg_self, String.reduceEq, false_and, or_false, false_or, and_self, f3, z00, i1, i2, cX, mX, z, wpL_setPaused, wpX4_setPaused, wpX5_setPaused, wpL_C13_B1031, wpL_C13_B1058, wpL_C13_B1092, wpL_setPaused_B16, nar0, nar1, e1, e2, uA_ne, uA_same, uA_2]
      exact ⟨v, hR.s67 _, hJ.mono⟩
set_option maxHeartbeats 1000000 in
theorem st_12 {xs : Nat → Int32} {L t : Nat} {w : St} (hL : L ≤ 2560) (h5 : 5 * t + 5 ≤ L) (hI : Inv t w) : wpL_C12 xs L (nI (5 * t)) w (Inv (t + 1)) := by
  obtain ⟨v, hR, hJ⟩ := hI
  have f3 : vp_in 0 1 := inN (a := 0) (by decide) (by decide)
  have z00 : (0 : Int32).toNatClampNeg = 0 := rfl
  have i1 : vp_in (nI (5 * t) + 1) L := inL (k := 1) h5 hL (by decide)
  have i2 : vp_in (nI (5 * t) + 2) L := inL (k := 2) h5 hL (by decide)
  unfold wpL_C12
  generalize e1 : xs (nI (5 * t) + 1).toNatClampNeg = p1
  generalize e2 : xs (nI (5 * t) + 2).toNatClampNeg = p2
  rcases ixc p1 v.nc (by have := hJ.nc6; omega) with ⟨c, hc, rfl⟩ | hb1
  · have hn6 := hJ.nc6
    have hc6 : c < 6 := by omega
    have f1c : vp_in (nI c) 6 := inN hc6 (by decide)
    have f2c : (nI c).toNatClampNeg = c := clN (by omega)
    have cO : ∀ P px, wpX4_checkClient (nI c) w P px ↔ P w := fun P px => ckC hn6 hR.cnc hc
    have mO : ∀ f P, wpX5_isClient (nI c) (uO w f) P ↔ P 1 (uO w f) := fun f P => imC hn6 (hR.sO f).mnc hc
    have mO' : ∀ P, wpX5_isClient (nI c) w P ↔ P 1 w := fun P => imC hn6 hR.mnc hc
    by_cases z1 : p2 < -2
    · try simp only [true_and, and_true, forall_eq, forall_const, true_implies, false_implies, not_true_eq_false, not_false_eq_true, le00, le10, e10, e01, eq_self, ck1, ck0, wpX5_thrown, uI_same, uI_2, uO_o, uO_1, up0, up00, uI67, ne_eq, Nat.reduceEqDiff, lg_self, String.reduceEq, false_and, or_false, false_or, and_self, f3, z00, i1, i2, cO, mO', wpL_setOffset, wpX4_setOffset, wpX5_setOffset, wpX4_setOffset_B16, wpX5_setOffset_B28, wpX5_in, z1, e20, le20, e2s, uA_ne, uA_same, uA_2]
      exact ⟨v, hR.s67 _, hJ.mono⟩
    · by_cases z2 : p2 ≤ 2
      · have z3 : ¬ 2 < p2 := Int32.not_lt.mpr z2
        have y1 : -2 ≤ p2.toInt := by have := Int32.not_lt.mp z1; rw [Int32.le_iff_toInt_le] at this; exact this
        have y2 : p2.toInt ≤ 2 := by have := z2; rw [Int32.le_iff_toInt_le] at this; exact this
        try simp only [true_and, and_true, forall_eq, forall_const, true_implies, false_implies, not_true_eq_false, not_false_eq_true, le00, le10, e10, e01, eq_self, ck1, ck0, wpX5_thrown, uI_same, uI_2, uO_o, uO_1, up0, up00, uI67, ne_eq, Nat.reduceEqDiff, lg_self, String.reduceEq, false_and, or_false, false_or, and_self, f3, z00, i1, i2, cO, f1c, f2c, wpL_setOffset, wpX4_setOffset, wpX4_setOffset_B16, wpX5_setOffset_B28, wpX5_in, z1, z2, z3, hR.cof, wpX5_setOffset, uA_ne, uA_same, uA_2]
        rw [imC hn6 (((hR.sc_of _).sO _).mnc) hc]
        try simp only [true_and, and_true, forall_eq, forall_const, true_implies, false_implies, not_true_eq_false, not_false_eq_true, le00, le10, e10, e01, eq_self, ck1, ck0, wpX5_thrown, uI_same, uI_2, uO_o, uO_1, up0, up00, uI67, ne_eq, Nat.reduceEqDiff, lg_self, String.reduceEq, false_and, or_false, false_or, and_self, f3, z00, i1, i2, f1c, f2c, wpL_setOffset, wpX4_setOffset, wpX5_setOffset, wpX4_setOffset_B16, wpX5_setOffset_B28, wpX5_in, z1, z2, z3, hR.mof, uA_ne, uA_same, uA_2]
        exact ⟨_, R.fin ((((hR.sc_of _).sO _).s67 _).sm_of _) rfl, hJ.setOffset y1 y2⟩
      · have z3 : 2 < p2 := Int32.not_le.mp z2
        try simp only [true_and, and_true, forall_eq, forall_const, true_implies, false_implies, not_true_eq_false, not_false_eq_true, le00, le10, e10, e01, eq_self, ck1, ck0, wpX5_thrown, uI_same, uI_2, uO_o, uO_1, up0, up00, uI67, ne_eq, Nat.reduceEqDiff, lg_self, String.reduceEq, false_and, or_false, false_or, and_self, f3, z00, i1, i2, cO, mO', wpL_setOffset, wpX4_setOffset, wpX5_setOffset, wpX4_setOffset_B16, wpX5_setOffset_B28, wpX5_in, z1, z2, z3, e20, le20, e2s, uA_ne, uA_same, uA_2]
        exact ⟨v, hR.s67 _, hJ.mono⟩
  · have hn6 := hJ.nc6
    have cX : ∀ P px, wpX4_checkClient p1 w P px ↔ px "java/util/NoSuchElementException" w := fun P px => ckC' hR.cnc hb1
    have mX : ∀ P, wpX5_isClient p1 w P ↔ P 0 w := fun P => imC' hn6 hR.mnc hb1
    try simp only [true_and, and_true, forall_eq, forall_const, true_implies, false_implies, not_true_eq_false, not_false_eq_true, le00, le10, e10, e01, eq_self, ck1, ck0, wpX5_thrown, uI_same, uI_2, uO_o, uO_1, up0, up00, uI67, ne_eq, Nat.reduceEqDiff, lg_self, String.reduceEq, false_and, or_false, false_or, and_self, f3, z00, i1, i2, cX, mX, wpL_setOffset, wpX4_setOffset, wpX5_setOffset, wpX4_setOffset_B16, wpX5_setOffset_B28, wpX5_in, uA_ne, uA_same, uA_2]
    exact ⟨v, hR.s67 _, hJ.mono⟩
set_option maxHeartbeats 1000000 in
theorem st_11 {xs : Nat → Int32} {L t : Nat} {w : St} (hL : L ≤ 2560) (h5 : 5 * t + 5 ≤ L) (hI : Inv t w) : wpL_C11 xs L (nI (5 * t)) w (Inv (t + 1)) := by
  obtain ⟨v, hR, hJ⟩ := hI
  have f3 : vp_in 0 1 := inN (a := 0) (by decide) (by decide)
  have z00 : (0 : Int32).toNatClampNeg = 0 := rfl
  unfold wpL_C11
  have hn6 := hJ.nc6
  by_cases z : v.nc < 6
  · have z1 : (nI v.nc < 6) = True := eq_true ((ltN (b := 6) (by omega) (by decide)).mpr z)
    have z2 : (6 ≤ nI v.nc) = False := eq_false (notN (N := 6) z (by decide))
    have z3 : nI (v.nc + 1) - 1 = nI v.nc := by rw [sub1 (by omega) (by omega), Nat.add_sub_cancel]
    try simp only [true_and, and_true, forall_eq, forall_const, true_implies, false_implies, not_true_eq_false, not_false_eq_true, le00, le10, e10, e01, eq_self, ck1, ck0, wpX5_thrown, uI_same, uI_2, uO_o, uO_1, up0, up00, uI67, ne_eq, Nat.reduceEqDiff, lg_self, String.reduceEq, false_and, or_false, false_or, and_self, f3, z00, wpL_addClient, wpX4_addClient, wpX5_addClient, wpX5_addClient_B15, hR.cnc, z1, nI_1, uI_ne, hR.mnc, z2, z3, uA_ne, uA_same, uA_2]
    exact ⟨_, R.fin ((((hR.sc_nc (v.nc + 1)).sO _).s67 _).sm_nc (v.nc + 1)) rfl, hJ.addClient z⟩
  · have z1 : (nI v.nc < 6) = False := eq_false (fun q => z ((ltN (b := 6) (by omega) (by decide)).mp q))
    have z2 : (6 ≤ nI v.nc) = True := eq_true ((leN (a := 6) (by decide) (by omega)).mpr (by omega))
    try simp only [true_and, and_true, forall_eq, forall_const, true_implies, false_implies, not_true_eq_false, not_false_eq_true, le00, le10, e10, e01, eq_self, ck1, ck0, wpX5_thrown, uI_same, uI_2, uO_o, uO_1, up0, up00, uI67, ne_eq, Nat.reduceEqDiff, lg_self, String.reduceEq, false_and, or_false, false_or, and_self, f3, z00, wpL_addClient, wpX4_addClient, wpX5_addClient, wpX5_addClient_B15, hR.cnc, z1, hR.mnc, z2, uA_ne, uA_same, uA_2]
    exact ⟨v, hR.s67 _, hJ.mono⟩
set_option maxHeartbeats 1000000 in
theorem st_3 {xs : Nat → Int32} {L t : Nat} {w : St} (hL : L ≤ 2560) (h5 : 5 * t + 5 ≤ L) (hI : Inv t w) : wpL_C3 xs L (nI (5 * t)) w (Inv (t + 1)) := by
  obtain ⟨v, hR, hJ⟩ := hI
  have f3 : vp_in 0 1 := inN (a := 0) (by decide) (by decide)
  have z00 : (0 : Int32).toNatClampNeg = 0 := rfl
  have i1 : vp_in (nI (5 * t) + 1) L := inL (k := 1) h5 hL (by decide)
  have i2 : vp_in (nI (5 * t) + 2) L := inL (k := 2) h5 hL (by decide)
  have i3 : vp_in (nI (5 * t) + 3) L := inL (k := 3) h5 hL (by decide)
  unfold wpL_C3
  generalize e1 : xs (nI (5 * t) + 1).toNatClampNeg = p1
  generalize e2 : xs (nI (5 * t) + 2).toNatClampNeg = p2
  generalize e3 : xs (nI (5 * t) + 3).toNatClampNeg = p3
  rcases ixc p1 5 (by decide) with ⟨a, ha, rfl⟩ | hb1
  · rcases ixc p2 5 (by decide) with ⟨b, hh, rfl⟩ | hb2
    · by_cases ab : a = b
      · subst ab
        by_cases z : p3 = 0
        · try simp only [true_and, and_true, forall_eq, forall_const, true_implies, false_implies, not_true_eq_false, not_false_eq_true, le00, le10, e10, e01, eq_self, ck1, ck0, wpX5_thrown, uI_same, uI_2, uO_o, uO_1, up0, up00, uI67, ne_eq, Nat.reduceEqDiff, lg_self, String.reduceEq, false_and, or_false, false_or, and_self, f3, z00, i1, i2, i3, ckM ha, imM ha, z, wpL_setCut, wpX4_setCut, wpX5_setCut, wpL_C3_B411, wpL_C3_B444, wpL_C3_B478, wpL_setCut_B18, wpX5_setCut_B29, wpX5_setCut_B15, nar0, nar1, e1, e2, e3, wpX3_cutLink, ix5, ix5', e20, le20, e2s, uA_ne, uA_same, uA_2]
          exact ⟨v, hR.s67 _, hJ.mono⟩
        · try simp only [true_and, and_true, forall_eq, forall_const, true_implies, false_implies, not_true_eq_false, not_false_eq_true, le00, le10, e10, e01, eq_self, ck1, ck0, wpX5_thrown, uI_same, uI_2, uO_o, uO_1, up0, up00, uI67, ne_eq, Nat.reduceEqDiff, lg_self, String.reduceEq, false_and, or_false, false_or, and_self, f3, z00, i1, i2, i3, ckM ha, imM ha, z, wpL_setCut, wpX4_setCut, wpX5_setCut, wpL_C3_B411, wpL_C3_B444, wpL_C3_B478, wpL_setCut_B18, wpX5_setCut_B29, wpX5_setCut_B15, nar0, nar1, e1, e2, e3, wpX3_cutLink, ix5, ix5', e20, le20, e2s, uA_ne, uA_same, uA_2]
          exact ⟨v, hR.s67 _, hJ.mono⟩
      · have ab1 : (nI a = nI b) = False := eq_false (fun q => ab (nI_inj (by omega) (by omega) q))
        have q1 : (nI (a * 5 + b)).toNatClampNeg = a * 5 + b := clN (by omega)
        have q2 : (nI (b * 5 + a)).toNatClampNeg = b * 5 + a := clN (by omega)
        have q3 : vp_in (nI (a * 5 + b)) 25 := inN (by omega) (by decide)
        have q4 : vp_in (nI (b * 5 + a)) 25 := inN (by omega) (by decide)
        have hb := hJ.bcu (a * 5 + b) (by omega)
        have hn := isB_n hb
        by_cases z : p3 = 0
        · try simp only [true_and, and_true, forall_eq, forall_const, true_implies, false_implies, not_true_eq_false, not_false_eq_true, le00, le10, e10, e01, eq_self, ck1, ck0, wpX5_thrown, uI_same, uI_2, uO_o, uO_1, up0, up00, uI67, ne_eq, Nat.reduceEqDiff, lg_self, String.reduceEq, false_and, or_false, false_or, and_self, f3, z00, i1, i2, i3, ckM ha, imM ha, ckM hh, imM hh, z, ab1, q1, q2, q3, q4, wpL_setCut, wpX4_setCut, wpX5_setCut, wpL_C3_B411, wpL_C3_B444, wpL_C3_B478, wpL_setCut_B18, wpX5_setCut_B29, wpX5_setCut_B15, nar0, nar1, e1, e2, e3, wpX3_cutLink, ix5, ix5', uA_uA, hR.ccu, hR.mcu, hn, uA_ne, uA_same, uA_2]
          rcases hb with b | b
          all_goals try simp only [true_and, and_true, forall_eq, forall_const, true_implies, false_implies, not_true_eq_false, not_false_eq_true, le00, le10, e10, e01, eq_self, ck1, ck0, wpX5_thrown, uI_same, uI_2, uO_o, uO_1, up0, up00, uI67, ne_eq, Nat.reduceEqDiff, lg_self, String.reduceEq, false_and, or_false, false_or, and_self, f3, z00, b, e10, uA_uA, hR.mcu, uA_ne, uA_same, uA_2]
          all_goals exact ⟨_, R.fin ((((hR.sc_cu _).sO _).s67 _).sm_cu _) rfl, hJ.setCut isB0⟩
        · try simp only [true_and, and_true, forall_eq, forall_const, true_implies, false_implies, not_true_eq_false, not_false_eq_true, le00, le10, e10, e01, eq_self, ck1, ck0, wpX5_thrown, uI_same, uI_2, uO_o, uO_1, up0, up00, uI67, ne_eq, Nat.reduceEqDiff, lg_self, String.reduceEq, false_and, or_false, false_or, and_self, f3, z00, i1, i2, i3, ckM ha, imM ha, ckM hh, imM hh, z, ab1, q1, q2, q3, q4, wpL_setCut, wpX4_setCut, wpX5_setCut, wpL_C3_B411, wpL_C3_B444, wpL_C3_B478, wpL_setCut_B18, wpX5_setCut_B29, wpX5_setCut_B15, nar0, nar1, e1, e2, e3, wpX3_cutLink, ix5, ix5', uA_uA, hR.ccu, hR.mcu, hn, uA_ne, uA_same, uA_2]
          rcases hb with b | b
          all_goals try simp only [true_and, and_true, forall_eq, forall_const, true_implies, false_implies, not_true_eq_false, not_false_eq_true, le00, le10, e10, e01, eq_self, ck1, ck0, wpX5_thrown, uI_same, uI_2, uO_o, uO_1, up0, up00, uI67, ne_eq, Nat.reduceEqDiff, lg_self, String.reduceEq, false_and, or_false, false_or, and_self, f3, z00, b, e10, uA_uA, hR.mcu, uA_ne, uA_same, uA_2]
          all_goals exact ⟨_, R.fin ((((hR.sc_cu _).sO _).s67 _).sm_cu _) rfl, hJ.setCut isB1⟩
    · by_cases z : p3 = 0
      · try simp only [true_and, and_true, forall_eq, forall_const, true_implies, false_implies, not_true_eq_false, not_false_eq_true, le00, le10, e10, e01, eq_self, ck1, ck0, wpX5_thrown, uI_same, uI_2, uO_o, uO_1, up0, up00, uI67, ne_eq, Nat.reduceEqDiff, lg_self, String.reduceEq, false_and, or_false, false_or, and_self, f3, z00, i1, i2, i3, ckM ha, imM ha, ckM' hb2, imM' hb2, z, wpL_setCut, wpX4_setCut, wpX5_setCut, wpL_C3_B411, wpL_C3_B444, wpL_C3_B478, wpL_setCut_B18, wpX5_setCut_B29, wpX5_setCut_B15, nar0, nar1, e1, e2, e3, wpX3_cutLink, ix5, ix5', uA_ne, uA_same, uA_2]
        exact ⟨v, hR.s67 _, hJ.mono⟩
      · try simp only [true_and, and_true, forall_eq, forall_const, true_implies, false_implies, not_true_eq_false, not_false_eq_true, le00, le10, e10, e01, eq_self, ck1, ck0, wpX5_thrown, uI_same, uI_2, uO_o, uO_1, up0, up00, uI67, ne_eq, Nat.reduceEqDiff, lg_self, String.reduceEq, false_and, or_false, false_or, and_self, f3, z00, i1, i2, i3, ckM ha, imM ha, ckM' hb2, imM' hb2, z, wpL_setCut, wpX4_setCut, wpX5_setCut, wpL_C3_B411, wpL_C3_B444, wpL_C3_B478, wpL_setCut_B18, wpX5_setCut_B29, wpX5_setCut_B15, nar0, nar1, e1, e2, e3, wpX3_cutLink, ix5, ix5', uA_ne, uA_same, uA_2]
        exact ⟨v, hR.s67 _, hJ.mono⟩
  · by_cases z : p3 = 0
    · try simp only [true_and, and_true, forall_eq, forall_const, true_implies, false_implies, not_true_eq_false, not_false_eq_true, le00, le10, e10, e01, eq_self, ck1, ck0, wpX5_thrown, uI_same, uI_2, uO_o, uO_1, up0, up00, uI67, ne_eq, Nat.reduceEqDiff, lg_self, String.reduceEq, false_and, or_false, false_or, and_self, f3, z00, i1, i2, i3, ckM' hb1, imM' hb1, z, wpL_setCut, wpX4_setCut, wpX5_setCut, wpL_C3_B411, wpL_C3_B444, wpL_C3_B478, wpL_setCut_B18, wpX5_setCut_B29, wpX5_setCut_B15, nar0, nar1, e1, e2, e3, wpX3_cutLink, ix5, ix5', uA_ne, uA_same, uA_2]
      exact ⟨v, hR.s67 _, hJ.mono⟩
    · try simp only [true_and, and_true, forall_eq, forall_const, true_implies, false_implies, not_true_eq_false, not_false_eq_true, le00, le10, e10, e01, eq_self, ck1, ck0, wpX5_thrown, uI_same, uI_2, uO_o, uO_1, up0, up00, uI67, ne_eq, Nat.reduceEqDiff, lg_self, String.reduceEq, false_and, or_false, false_or, and_self, f3, z00, i1, i2, i3, ckM' hb1, imM' hb1, z, wpL_setCut, wpX4_setCut, wpX5_setCut, wpL_C3_B411, wpL_C3_B444, wpL_C3_B478, wpL_setCut_B18, wpX5_setCut_B29, wpX5_setCut_B15, nar0, nar1, e1, e2, e3, wpX3_cutLink, ix5, ix5', uA_ne, uA_same, uA_2]
      exact ⟨v, hR.s67 _, hJ.mono⟩
