theorem gtL {t L : Nat} (h : L < 5 * t + 5) (hL : L ≤ 2560) (ht : t ≤ 513) : Int32.ofNat L - 5 < nI (5 * t) := by
  have e1 : (nI L - nI 5).toInt = (L : Int) - (5 : Nat) := pk_sub_toInt (by omega) (by omega)
  show nI L - nI 5 < nI (5 * t)
  rw [Int32.lt_iff_toInt_lt, e1, nI_toInt (by omega)]
  omega
/-- what each turn of the law asks: the case that the script names, or none -/
def StepOK (xs : Nat → Int32) (L : Nat) (Inv : Nat → St → Prop) (t : Nat) (w : St) : Prop :=
  (xs (5 * t) &&& 63 = nI 0 → wpL_C0 xs L (nI (5 * t)) w (Inv (t + 1))) ∧
  (xs (5 * t) &&& 63 = nI 1 → wpL_C1 xs L (nI (5 * t)) w (Inv (t + 1))) ∧
  (xs (5 * t) &&& 63 = nI 2 → wpL_C2 xs L (nI (5 * t)) w (Inv (t + 1))) ∧
  (xs (5 * t) &&& 63 = nI 3 → wpL_C3 xs L (nI (5 * t)) w (Inv (t + 1))) ∧
  (xs (5 * t) &&& 63 = nI 4 → wpL_C4 xs L (nI (5 * t)) w (Inv (t + 1))) ∧
  (xs (5 * t) &&& 63 = nI 5 → wpL_C5 xs L (nI (5 * t)) w (Inv (t + 1))) ∧
  (xs (5 * t) &&& 63 = nI 6 → wpL_C6 xs L (nI (5 * t)) w (Inv (t + 1))) ∧
  (xs (5 * t) &&& 63 = nI 7 → wpL_C7 xs L (nI (5 * t)) w (Inv (t + 1))) ∧
  (xs (5 * t) &&& 63 = nI 8 → wpL_C8 xs L (nI (5 * t)) w (Inv (t + 1))) ∧
  (xs (5 * t) &&& 63 = nI 9 → wpL_C9 xs L (nI (5 * t)) w (Inv (t + 1))) ∧
  (xs (5 * t) &&& 63 = nI 10 → wpL_C10 xs L (nI (5 * t)) w (Inv (t + 1))) ∧
  (xs (5 * t) &&& 63 = nI 11 → wpL_C11 xs L (nI (5 * t)) w (Inv (t + 1))) ∧
  (xs (5 * t) &&& 63 = nI 12 → wpL_C12 xs L (nI (5 * t)) w (Inv (t + 1))) ∧
  (xs (5 * t) &&& 63 = nI 13 → wpL_C13 xs L (nI (5 * t)) w (Inv (t + 1))) ∧
  (xs (5 * t) &&& 63 = nI 14 → wpL_C14 xs L (nI (5 * t)) w (Inv (t + 1))) ∧
  (xs (5 * t) &&& 63 = nI 15 → wpL_C15 xs L (nI (5 * t)) w (Inv (t + 1))) ∧
  (xs (5 * t) &&& 63 = nI 16 → wpL_C16 xs L (nI (5 * t)) w (Inv (t + 1))) ∧
  (xs (5 * t) &&& 63 = nI 17 → wpL_C17 xs L (nI (5 * t)) w (Inv (t + 1))) ∧
  (xs (5 * t) &&& 63 = nI 18 → wpL_C18 xs L (nI (5 * t)) w (Inv (t + 1))) ∧
  (xs (5 * t) &&& 63 = nI 19 → wpL_C19 xs L (nI (5 * t)) w (Inv (t + 1))) ∧
  (xs (5 * t) &&& 63 = nI 20 → wpL_C20 xs L (nI (5 * t)) w (Inv (t + 1))) ∧
  (xs (5 * t) &&& 63 = nI 21 → wpL_C21 xs L (nI (5 * t)) w (Inv (t + 1))) ∧
  (xs (5 * t) &&& 63 = nI 22 → wpL_C22 xs L (nI (5 * t)) w (Inv (t + 1))) ∧
  (xs (5 * t) &&& 63 = nI 23 → wpL_C23 xs L (nI (5 * t)) w (Inv (t + 1))) ∧
  (xs (5 * t) &&& 63 = nI 24 → wpL_C24 xs L (nI (5 * t)) w (Inv (t + 1))) ∧
  (xs (5 * t) &&& 63 = nI 25 → wpL_C25 xs L (nI (5 * t)) w (Inv (t + 1))) ∧
  (xs (5 * t) &&& 63 = nI 26 → wpL_C26 xs L (nI (5 * t)) w (Inv (t + 1))) ∧
  (xs (5 * t) &&& 63 = nI 27 → wpL_C27 xs L (nI (5 * t)) w (Inv (t + 1))) ∧
  (xs (5 * t) &&& 63 = nI 28 → wpL_C28 xs L (nI (5 * t)) w (Inv (t + 1))) ∧
  (xs (5 * t) &&& 63 = nI 29 → wpL_C29 xs L (nI (5 * t)) w (Inv (t + 1))) ∧
  (xs (5 * t) &&& 63 = nI 30 → wpL_C30 xs L (nI (5 * t)) w (Inv (t + 1))) ∧
  (xs (5 * t) &&& 63 = nI 31 → wpL_C31 xs L (nI (5 * t)) w (Inv (t + 1))) ∧
  (xs (5 * t) &&& 63 = nI 32 → wpL_C32 xs L (nI (5 * t)) w (Inv (t + 1))) ∧
  (xs (5 * t) &&& 63 = nI 33 → wpL_C33 xs L (nI (5 * t)) w (Inv (t + 1))) ∧
  (xs (5 * t) &&& 63 = nI 34 → wpL_C34 xs L (nI (5 * t)) w (Inv (t + 1))) ∧
  (xs (5 * t) &&& 63 = nI 35 → wpL_C35 xs L (nI (5 * t)) w (Inv (t + 1))) ∧
  (xs (5 * t) &&& 63 = nI 36 → wpL_C36 xs L (nI (5 * t)) w (Inv (t + 1))) ∧
  (xs (5 * t) &&& 63 = nI 37 → wpL_C37 xs L (nI (5 * t)) w (Inv (t + 1))) ∧
  (xs (5 * t) &&& 63 = nI 38 → wpL_C38 xs L (nI (5 * t)) w (Inv (t + 1))) ∧
  (xs (5 * t) &&& 63 = nI 39 → wpL_C39 xs L (nI (5 * t)) w (Inv (t + 1))) ∧
  (xs (5 * t) &&& 63 = nI 40 → wpL_C40 xs L (nI (5 * t)) w (Inv (t + 1))) ∧
  Inv (t + 1) w
set_option maxHeartbeats 4000000 in
set_option maxRecDepth 100000 in
theorem law_loop {p : Program} {l : Launch} {e : Env} {s : State} {m : MethodId} {below : List Frame} {meth : Method} {c : Code} {D : va_G} {ca : Nat → ClassId} {ad : Nat → Nat} {b L : Nat} {xs : Nat → Int32} (hL : L ≤ 2560) (hr : meth.sig.returnType = ret) (hlocks : meth.locks = false) (C0 : LX p l s m c D ca ad s.heap.size b L xs) (Inv : Nat → St → Prop) (hst : ∀ (t : Nat) (w : St), t < 512 → 5 * t + 5 ≤ L → Inv t w → StepOK xs L Inv t w) :
    ∀ (n t : Nat), n + t = 513 → ∀ w : St, Inv t w → ∀ (H : Heap) (locs : List Loc), PA D ca ad w H → va_S (AB s.heap.size) s.heap H locs → ∀ ls : Array Slot, lv_has ls 10 [(0, .ref b), (1, .ref (ad 0)), (2, .ref (ad 33)), (3, .ref (ad 59)), (4, .ref (ad 60)), (5, .int (nI (5 * t)))] → W p l e room_1 s m #[Value.ref b] below meth c H locs (61 + 4 * t) (3920 + 24 * t) (lw_Z below #[Value.ref b] s) (F0 m 28 ls []) := by
  have C1 := C0
  obtain ⟨hx, hb, hml, hown, hts, hK0, hXP, hAd, hbs, hX, hbl, hbA, hl9⟩ := C1
  intro n
  induction n with
  | zero =>
    intro t ht w hI H locs hP hS ls hl
    have e1 : t = 513 := by omega
    subst e1
    refine lv_iload hx hb dL_law_28 (lv_at hl 5 rfl) ?_
    refine lv_aload_n hx hb dL_law_30 rfl (lv_at hl 0 rfl) ?_
    refine va_slen hx hb hX hbl hbA hS dL_law_31 ?_
    refine lv_iconst (v := 5) hx hb dL_law_32 (by decide) ?_
    refine lv_isub hx hb dL_law_33 ?_
    refine lv_icmp_gt (tgt := 2698) hx hb dL_law_34 (by decide) (fun c_1 => ?_) (fun c_1 => ?_)
    · refine lv_iconst (v := 1) hx hb dL_law_2698 (by decide) ?_
      refine va_forget (fun q hq => hS.2.2 q hq) ?_
      refine W.widen (k := 603072) (n := 7215210) (by omega) (by omega) ?_
      exact lw_ret (d0 := s.drawn) (Drawn.sameBut.refl s.drawn lw_cs) hx hb hr hlocks dL_law_2699
    · exact absurd (gtL (by omega) (by omega) (by omega)) c_1
  | succ n ih =>
    intro t ht w hI H locs hP hS ls hl
    refine lv_iload hx hb dL_law_28 (lv_at hl 5 rfl) ?_
    refine lv_aload_n hx hb dL_law_30 rfl (lv_at hl 0 rfl) ?_
    refine va_slen hx hb hX hbl hbA hS dL_law_31 ?_
    refine lv_iconst (v := 5) hx hb dL_law_32 (by decide) ?_
    refine lv_isub hx hb dL_law_33 ?_
    refine lv_icmp_gt (tgt := 2698) hx hb dL_law_34 (by decide) (fun c_1 => ?_) (fun c_1 => ?_)
    · refine lv_iconst (v := 1) hx hb dL_law_2698 (by decide) ?_
      refine va_forget (fun q hq => hS.2.2 q hq) ?_
      refine W.widen (k := 603072) (n := 7215210) (by omega) (by omega) ?_
      exact lw_ret (d0 := s.drawn) (Drawn.sameBut.refl s.drawn lw_cs) hx hb hr hlocks dL_law_2699
    · have h5 : 5 * t + 5 ≤ L := by
        rcases Nat.lt_or_ge L (5 * t + 5) with q | q
        · exact absurd (gtL (by omega) (by omega) (by omega)) c_1
        · exact q
      have hO := hst t w (by omega) h5 hI
      refine lv_aload_n hx hb dL_law_37 rfl (lv_at hl 0 rfl) ?_
      refine lv_iload hx hb dL_law_38 (lv_at hl 5 rfl) ?_
      refine va_sld hx hb hX hbl hbA hS (vp_in_nI (by omega) (by omega)) dL_law_40 ?_
      rw [nI_clamp (show 5 * t < 2147483648 by omega)]
      refine lv_bipush (v := 63) hx hb dL_law_41 (by decide) ?_
      refine lv_iand hx hb dL_law_43 ?_
      have ec : 61 + 4 * (t + 1) = 61 + 4 * t + 4 := by omega
      have es : 3920 + 24 * (t + 1) = 3920 + 24 * t + 24 := by omega
      have hturn : ∀ (w : St), Inv (t + 1) w → ∀ (H : Heap) (locs : List Loc), PA D ca ad w H → va_S (AB s.heap.size) s.heap H locs → ∀ ls : Array Slot, lv_has ls 10 [(0, .ref b), (1, .ref (ad 0)), (2, .ref (ad 33)), (3, .ref (ad 59)), (4, .ref (ad 60)), (5, .int (nI (5 * t)))] → W p l e room_1 s m #[Value.ref b] below meth c H locs (61 + 4 * t + 4) (3920 + 24 * t + 24) (lw_Z below #[Value.ref b] s) (F0 m 2692 ls []) := by
        intro w hI H locs hP hS ls hl
        have hi := ih (t + 1) (by omega) w hI H locs hP hS
        rw [ec, es] at hi
        refine lv_iinc (v := nI (5 * (t + 1))) (lv' := [(5, .int (nI (5 * (t + 1)))), (0, .ref b), (1, .ref (ad 0)), (2, .ref (ad 33)), (3, .ref (ad 59)), (4, .ref (ad 60))]) hx hb dL_law_2692 hl (k := 5) rfl (by show nI (5 * t) + nI 5 = _; rw [nI_add]; rfl) (by decide) rfl (fun ls hl => ?_)
        refine lv_goto (tgt := 28) hx hb dL_law_2695 (by decide) ?_
        exact hi ls (lv_sub hl [1, 2, 3, 4, 5, 0] rfl)
      obtain ⟨j, hj, ej⟩ := pk_andE (xs (5 * t)) (m := 63) 6 (by decide)
      rw [ej]
      obtain ⟨h0, h1, h2, h3, h4, h5, h6, h7, h8, h9, h10, h11, h12, h13, h14, h15, h16, h17, h18, h19, h20, h21, h22, h23, h24, h25, h26, h27, h28, h29, h30, h31, h32, h33, h34, h35, h36, h37, h38, h39, h40, hD⟩ := hO
      by_cases hle : j ≤ 40
      · match j, hle, ej with
        | 0, _, ej => exact lv_tableIn (off := 180) (tgt := 224) hx hb dL_law_44 (by decide) (by decide) (by decide) (by decide) (mL_C0 C0 (by omega) (by omega) (nI (5 * t)) w (Inv (t + 1)) (h0 ej) hturn H locs hP hS ls hl)
        | 1, _, ej => exact lv_tableIn (off := 236) (tgt := 280) hx hb dL_law_44 (by decide) (by decide) (by decide) (by decide) (mL_C1 C0 (by omega) (by omega) (nI (5 * t)) w (Inv (t + 1)) (h1 ej) hturn H locs hP hS ls hl)
        | 2, _, ej => exact lv_tableIn (off := 249) (tgt := 293) hx hb dL_law_44 (by decide) (by decide) (by decide) (by decide) (mL_C2 C0 (by omega) (by omega) (nI (5 * t)) w (Inv (t + 1)) (h2 ej) hturn H locs hP hS ls hl)
        | 3, _, ej => exact lv_tableIn (off := 340) (tgt := 384) hx hb dL_law_44 (by decide) (by decide) (by decide) (by decide) (mL_C3 C0 (by omega) (by omega) (nI (5 * t)) w (Inv (t + 1)) (h3 ej) hturn H locs hP hS ls hl)
        | 4, _, ej => exact lv_tableIn (off := 443) (tgt := 487) hx hb dL_law_44 (by decide) (by decide) (by decide) (by decide) (mL_C4 C0 (by omega) (by omega) (nI (5 * t)) w (Inv (t + 1)) (h4 ej) hturn H locs hP hS ls hl)
        | 5, _, ej => exact lv_tableIn (off := 499) (tgt := 543) hx hb dL_law_44 (by decide) (by decide) (by decide) (by decide) (mL_C5 C0 (by omega) (by omega) (nI (5 * t)) w (Inv (t + 1)) (h5 ej) hturn H locs hP hS ls hl)
        | 6, _, ej => exact lv_tableIn (off := 555) (tgt := 599) hx hb dL_law_44 (by decide) (by decide) (by decide) (by decide) (mL_C6 C0 (by omega) (by omega) (nI (5 * t)) w (Inv (t + 1)) (h6 ej) hturn H locs hP hS ls hl)
        | 7, _, ej => exact lv_tableIn (off := 611) (tgt := 655) hx hb dL_law_44 (by decide) (by decide) (by decide) (by decide) (mL_C7 C0 (by omega) (by omega) (nI (5 * t)) w (Inv (t + 1)) (h7 ej) hturn H locs hP hS ls hl)
        | 8, _, ej => exact lv_tableIn (off := 674) (tgt := 718) hx hb dL_law_44 (by decide) (by decide) (by decide) (by decide) (mL_C8 C0 (by omega) (by omega) (nI (5 * t)) w (Inv (t + 1)) (h8 ej) hturn H locs hP hS ls hl)
        | 9, _, ej => exact lv_tableIn (off := 730) (tgt := 774) hx hb dL_law_44 (by decide) (by decide) (by decide) (by decide) (mL_C9 C0 (by omega) (by omega) (nI (5 * t)) w (Inv (t + 1)) (h9 ej) hturn H locs hP hS ls hl)
        | 10, _, ej => exact lv_tableIn (off := 786) (tgt := 830) hx hb dL_law_44 (by decide) (by decide) (by decide) (by decide) (mL_C10 C0 (by omega) (by omega) (nI (5 * t)) w (Inv (t + 1)) (h10 ej) hturn H locs hP hS ls hl)
        | 11, _, ej => exact lv_tableIn (off := 854) (tgt := 898) hx hb dL_law_44 (by decide) (by decide) (by decide) (by decide) (mL_C11 C0 (by omega) (by omega) (nI (5 * t)) w (Inv (t + 1)) (h11 ej) hturn H locs hP hS ls hl)
        | 12, _, ej => exact lv_tableIn (off := 898) (tgt := 942) hx hb dL_law_44 (by decide) (by decide) (by decide) (by decide) (mL_C12 C0 (by omega) (by omega) (nI (5 * t)) w (Inv (t + 1)) (h12 ej) hturn H locs hP hS ls hl)
        | 13, _, ej => exact lv_tableIn (off := 966) (tgt := 1010) hx hb dL_law_44 (by decide) (by decide) (by decide) (by decide) (mL_C13 C0 (by omega) (by omega) (nI (5 * t)) w (Inv (t + 1)) (h13 ej) hturn H locs hP hS ls hl)
        | 14, _, ej => exact lv_tableIn (off := 1057) (tgt := 1101) hx hb dL_law_44 (by decide) (by decide) (by decide) (by decide) (mL_C14 C0 (by omega) (by omega) (nI (5 * t)) w (Inv (t + 1)) (h14 ej) hturn H locs hP hS ls hl)
        | 15, _, ej => exact lv_tableIn (off := 1113) (tgt := 1157) hx hb dL_law_44 (by decide) (by decide) (by decide) (by decide) (mL_C15 C0 (by omega) (by omega) (nI (5 * t)) w (Inv (t + 1)) (h15 ej) hturn H locs hP hS ls hl)
        | 16, _, ej => exact lv_tableIn (off := 1193) (tgt := 1237) hx hb dL_law_44 (by decide) (by decide) (by decide) (by decide) (mL_C16 C0 (by omega) (by omega) (nI (5 * t)) w (Inv (t + 1)) (h16 ej) hturn H locs hP hS ls hl)
        | 17, _, ej => exact lv_tableIn (off := 1273) (tgt := 1317) hx hb dL_law_44 (by decide) (by decide) (by decide) (by decide) (mL_C17 C0 (by omega) (by omega) (nI (5 * t)) w (Inv (t + 1)) (h17 ej) hturn H locs hP hS ls hl)
        | 18, _, ej => exact lv_tableIn (off := 1353) (tgt := 1397) hx hb dL_law_44 (by decide) (by decide) (by decide) (by decide) (mL_C18 C0 (by omega) (by omega) (nI (5 * t)) w (Inv (t + 1)) (h18 ej) hturn H locs hP hS ls hl)
        | 19, _, ej => exact lv_tableIn (off := 1433) (tgt := 1477) hx hb dL_law_44 (by decide) (by decide) (by decide) (by decide) (mL_C19 C0 (by omega) (by omega) (nI (5 * t)) w (Inv (t + 1)) (h19 ej) hturn H locs hP hS ls hl)
        | 20, _, ej => exact lv_tableIn (off := 1501) (tgt := 1545) hx hb dL_law_44 (by decide) (by decide) (by decide) (by decide) (mL_C20 C0 (by omega) (by omega) (nI (5 * t)) w (Inv (t + 1)) (h20 ej) hturn H locs hP hS ls hl)
        | 21, _, ej => exact lv_tableIn (off := 1581) (tgt := 1625) hx hb dL_law_44 (by decide) (by decide) (by decide) (by decide) (mL_C21 C0 (by omega) (by omega) (nI (5 * t)) w (Inv (t + 1)) (h21 ej) hturn H locs hP hS ls hl)
        | 22, _, ej => exact lv_tableIn (off := 1673) (tgt := 1717) hx hb dL_law_44 (by decide) (by decide) (by decide) (by decide) (mL_C22 C0 (by omega) (by omega) (nI (5 * t)) w (Inv (t + 1)) (h22 ej) hturn H locs hP hS ls hl)
        | 23, _, ej => exact lv_tableIn (off := 1729) (tgt := 1773) hx hb dL_law_44 (by decide) (by decide) (by decide) (by decide) (mL_C23 C0 (by omega) (by omega) (nI (5 * t)) w (Inv (t + 1)) (h23 ej) hturn H locs hP hS ls hl)
        | 24, _, ej => exact lv_tableIn (off := 1785) (tgt := 1829) hx hb dL_law_44 (by decide) (by decide) (by decide) (by decide) (mL_C24 C0 (by omega) (by omega) (nI (5 * t)) w (Inv (t + 1)) (h24 ej) hturn H locs hP hS ls hl)
        | 25, _, ej => exact lv_tableIn (off := 1841) (tgt := 1885) hx hb dL_law_44 (by decide) (by decide) (by decide) (by decide) (mL_C25 C0 (by omega) (by omega) (nI (5 * t)) w (Inv (t + 1)) (h25 ej) hturn H locs hP hS ls hl)
        | 26, _, ej => exact lv_tableIn (off := 1897) (tgt := 1941) hx hb dL_law_44 (by decide) (by decide) (by decide) (by decide) (mL_C26 C0 (by omega) (by omega) (nI (5 * t)) w (Inv (t + 1)) (h26 ej) hturn H locs hP hS ls hl)
        | 27, _, ej => exact lv_tableIn (off := 1953) (tgt := 1997) hx hb dL_law_44 (by decide) (by decide) (by decide) (by decide) (mL_C27 C0 (by omega) (by omega) (nI (5 * t)) w (Inv (t + 1)) (h27 ej) hturn H locs hP hS ls hl)
        | 28, _, ej => exact lv_tableIn (off := 2021) (tgt := 2065) hx hb dL_law_44 (by decide) (by decide) (by decide) (by decide) (mL_C28 C0 (by omega) (by omega) (nI (5 * t)) w (Inv (t + 1)) (h28 ej) hturn H locs hP hS ls hl)
        | 29, _, ej => exact lv_tableIn (off := 2096) (tgt := 2140) hx hb dL_law_44 (by decide) (by decide) (by decide) (by decide) (mL_C29 C0 (by omega) (by omega) (nI (5 * t)) w (Inv (t + 1)) (h29 ej) hturn H locs hP hS ls hl)
        | 30, _, ej => exact lv_tableIn (off := 2152) (tgt := 2196) hx hb dL_law_44 (by decide) (by decide) (by decide) (by decide) (mL_C30 C0 (by omega) (by omega) (nI (5 * t)) w (Inv (t + 1)) (h30 ej) hturn H locs hP hS ls hl)
        | 31, _, ej => exact lv_tableIn (off := 2208) (tgt := 2252) hx hb dL_law_44 (by decide) (by decide) (by decide) (by decide) (mL_C31 C0 (by omega) (by omega) (nI (5 * t)) w (Inv (t + 1)) (h31 ej) hturn H locs hP hS ls hl)
        | 32, _, ej => exact lv_tableIn (off := 2264) (tgt := 2308) hx hb dL_law_44 (by decide) (by decide) (by decide) (by decide) (mL_C32 C0 (by omega) (by omega) (nI (5 * t)) w (Inv (t + 1)) (h32 ej) hturn H locs hP hS ls hl)
        | 33, _, ej => exact lv_tableIn (off := 2332) (tgt := 2376) hx hb dL_law_44 (by decide) (by decide) (by decide) (by decide) (mL_C33 C0 (by omega) (by omega) (nI (5 * t)) w (Inv (t + 1)) (h33 ej) hturn H locs hP hS ls hl)
        | 34, _, ej => exact lv_tableIn (off := 2345) (tgt := 2389) hx hb dL_law_44 (by decide) (by decide) (by decide) (by decide) (mL_C34 C0 (by omega) (by omega) (nI (5 * t)) w (Inv (t + 1)) (h34 ej) hturn H locs hP hS ls hl)
        | 35, _, ej => exact lv_tableIn (off := 2401) (tgt := 2445) hx hb dL_law_44 (by decide) (by decide) (by decide) (by decide) (mL_C35 C0 (by omega) (by omega) (nI (5 * t)) w (Inv (t + 1)) (h35 ej) hturn H locs hP hS ls hl)
        | 36, _, ej => exact lv_tableIn (off := 2457) (tgt := 2501) hx hb dL_law_44 (by decide) (by decide) (by decide) (by decide) (mL_C36 C0 (by omega) (by omega) (nI (5 * t)) w (Inv (t + 1)) (h36 ej) hturn H locs hP hS ls hl)
        | 37, _, ej => exact lv_tableIn (off := 2513) (tgt := 2557) hx hb dL_law_44 (by decide) (by decide) (by decide) (by decide) (mL_C37 C0 (by omega) (by omega) (nI (5 * t)) w (Inv (t + 1)) (h37 ej) hturn H locs hP hS ls hl)
        | 38, _, ej => exact lv_tableIn (off := 2527) (tgt := 2571) hx hb dL_law_44 (by decide) (by decide) (by decide) (by decide) (mL_C38 C0 (by omega) (by omega) (nI (5 * t)) w (Inv (t + 1)) (h38 ej) hturn H locs hP hS ls hl)
        | 39, _, ej => exact lv_tableIn (off := 2570) (tgt := 2614) hx hb dL_law_44 (by decide) (by decide) (by decide) (by decide) (mL_C39 C0 (by omega) (by omega) (nI (5 * t)) w (Inv (t + 1)) (h39 ej) hturn H locs hP hS ls hl)
        | 40, _, ej => exact lv_tableIn (off := 2635) (tgt := 2679) hx hb dL_law_44 (by decide) (by decide) (by decide) (by decide) (mL_C40 C0 (by omega) (by omega) (nI (5 * t)) w (Inv (t + 1)) (h40 ej) hturn H locs hP hS ls hl)
        | q + 41, h, _ => exact absurd h (by omega)
      · refine lv_tableOut (tgt := 2692) hx hb dL_law_44 (Or.inr ?_) (by decide) ?_
        · rw [nI_toInt (by omega)]
          omega
        · refine W.widen (k := 61 + 4 * t + 4) (n := 3920 + 24 * t + 24) (by omega) (by omega) ?_
          exact hturn w hD H locs hP hS ls hl
