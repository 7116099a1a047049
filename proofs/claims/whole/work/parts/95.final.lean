/-! THE FIRST STATE; THE TURNS TOGETHER; THE CLAIM -/
def v0 : V := ((((((fun _ => 0), (fun _ => 0)), ((fun _ => 0), (fun _ => 0))), (((fun j => if j < 513 then (-1) else 0), (fun _ => 0)), ((fun j => if j < 5 then (-1) else 0), (fun _ => 0)))), ((((fun _ => 0), (fun _ => 0)), ((fun _ => 0), (fun _ => 0))), (((fun j => if j < 4 then (-1) else 0), (fun _ => 0)), ((fun j => if j < 4 then (-1) else 0), (fun _ => 0))))), (((((fun _ => 0), (fun _ => 0)), ((fun _ => 0), (fun _ => 0))), (((fun _ => 0), (fun _ => 0)), ((fun _ => 0), (fun _ => 0)))), ((((fun _ => 0), (fun _ => 0)), ((fun _ _ => 0), 0)), ((0, 0), (0, 0)))))
theorem r0 : R v0 v0 w0 := R.mk rfl rfl rfl rfl rfl rfl rfl rfl rfl rfl rfl rfl rfl rfl rfl rfl rfl rfl rfl rfl rfl rfl rfl rfl rfl rfl rfl rfl rfl rfl rfl rfl rfl rfl rfl rfl rfl rfl rfl rfl rfl rfl rfl rfl rfl rfl rfl rfl rfl rfl rfl rfl rfl (fun l hl => by
  have : l = 0 ∨ l = 1 ∨ l = 2 ∨ l = 3 := by omega
  rcases this with h | h | h | h <;> subst h <;> rfl) (fun l j _ _ => rfl) rfl rfl
theorem j0 : J 0 v0 := by
  have hw : ∀ n, n < 513 → v0.wi n = -1 := fun n h => if_pos h
  have ho : ∀ n, n < 4 → v0.ow n = -1 := fun n h => if_pos h
  have ht : ∀ n, n < 4 → v0.th n = -1 := fun n h => if_pos h
  have hd : ∀ n, n < 5 → v0.ld n = -1 := fun n h => if_pos h
  refine J.mk (nc6 := Nat.zero_le _) (ne250 := Nat.zero_le _) (nowb := Nat.zero_le _) (bdn := fun _ _ => .inl rfl) (bcu := fun _ _ => .inl rfl) (bpa := fun _ _ => .inl rfl) (ofb := fun _ _ => ⟨show -2 ≤ (0 : Int32).toInt by decide, show (0 : Int32).toInt ≤ 2 by decide⟩) (tmN := fun _ _ => ⟨0, Nat.le_refl _, rfl⟩) (knN := fun _ _ => ⟨0, Nat.le_refl _, rfl⟩) (owv := fun l h => .inl (ho l h)) (thv := fun l h => .inl (ht l h)) (enN := fun _ _ => ⟨0, Nat.zero_le _, rfl⟩) (grN := fun _ _ => ⟨0, Nat.le_refl _, rfl⟩)
    (wtq := fun _ _ => ⟨0, Nat.zero_le _, rfl, fun j h => absurd h (Nat.not_lt_zero _), fun i j _ h => absurd h (Nat.not_lt_zero _)⟩) (wiN := fun n h => .inl (hw n h)) (leN := fun n h => by rw [hw n h]; rfl) (le0 := fun _ _ _ => rfl) (wi0 := hw 0 (by decide)) (ldN := fun i h => .inl (hd i h)) (ldM := fun i n hi hn e => by
      rw [hw n hn] at e
      exact absurd e.symm (nI_ne1 (by omega))) (wi3 := fun n h e => absurd (hw n h) e) (elN := fun k h => absurd h (Nat.not_lt_zero _)) (ecN := fun k h => absurd h (Nat.not_lt_zero _)) (kiN := fun k h => absurd h (Nat.not_lt_zero _)) (obE := fun l k _ h => by
      have e : k = 0 := Nat.le_zero.mp h
      subst e
      rfl) (owE := fun l h => ho l h) (enE := fun _ _ => rfl) (vaE := fun _ _ => rfl) (etS := fun k _ h => absurd h (Nat.not_lt_zero _)) (et3 := fun h => absurd h (Nat.lt_irrefl _)) (kn3 := fun h => absurd h (Nat.lt_irrefl _)) (cl := fun _ _ _ _ => .inl rfl) (lse := by decide +kernel)
theorem inv0 : Inv 0 w0 := ⟨v0, r0, j0⟩
theorem steps (xs : Nat → Int32) (L t : Nat) (w : St) (hL : L ≤ 2560) (_ : t < 512) (h5 : 5 * t + 5 ≤ L) (hI : Inv t w) : StepOK xs L Inv t w :=
  ⟨fun _ => st_0 hL h5 hI, fun _ => st_1 hL h5 hI, fun _ => st_2 hL h5 hI, fun _ => st_3 hL h5 hI, fun _ => st_4 hL h5 hI, fun _ => st_5 hL h5 hI, fun _ => st_6 hL h5 hI, fun _ => st_7 hL h5 hI, fun _ => st_8 hL h5 hI, fun _ => st_9 hL h5 hI, fun _ => st_10 hL h5 hI, fun _ => st_11 hL h5 hI, fun _ => st_12 hL h5 hI, fun _ => st_13 hL h5 hI, fun _ => st_14 hL h5 hI, fun _ => st_15 hL h5 hI, fun _ => st_16 hL h5 hI, fun _ => st_17 hL h5 hI, fun _ => st_18 hL h5 hI, fun _ => st_19 hL h5 hI, fun _ => st_20 hL h5 hI, fun _ => st_21 hL h5 hI, fun _ => st_22 hL h5 hI, fun _ => st_23 hL h5 hI, fun _ => st_24 hL h5 hI, fun _ => st_25 hL h5 hI, fun _ => st_26 hL h5 hI, fun _ => st_27 hL h5 hI, fun _ => st_28 hL h5 hI, fun _ => st_29 hL h5 hI, fun _ => st_30 hL h5 hI, fun _ => st_31 hL h5 hI, fun _ => st_32 hL h5 hI, fun _ => st_33 hL h5 hI, fun _ => st_34 hL h5 hI, fun _ => st_35 hL h5 hI, fun _ => st_36 hL h5 hI, fun _ => st_37 hL h5 hI, fun _ => st_38 hL h5 hI, fun _ => st_39 hL h5 hI, fun _ => st_40 hL h5 hI, hI.mono⟩
theorem whole_start {p : Program} {e : Env} {s : State} {m : MethodId} {below : List Frame} {meth : Method} {c : Code} (l : Launch) (hflags : l.flags = flags0) {b L : Nat} {xs : Nat → Int32} (hL : L ≤ 2560) (C0 : lw_At p s m meth c b L xs) : W p l e room_1 s m #[Value.ref b] below meth c s.heap [] 0 0 (lw_Z below #[Value.ref b] s) (entryFrame m ([Value.ref b] : List Value).toArray 10) :=
  start_of Inv inv0 steps l hflags hL C0
set_option maxHeartbeats 4000000 in
theorem lw_walk (l : Launch) (hflags : l.flags = flags0) (b : Addr) (xs : List Int32) : MetFree l x (headSpec (Jvm.Cond.code x code maxLocals ret :: tables_1) room_1) (lw_P b xs) (fun _ _ _ _ _ => True) lw_Q := by
  refine MetFree.of_bodyS (code := code) (maxLocals := maxLocals) (ret := ret) (by decide) ?_ ?_
  · intro args s m h hn
    obtain ⟨meth, c, h1, h2, h3, h4, h5, h6, -, -⟩ := Cond.code_spec hn (atoms_spec (ws := Jvm.Cond.code x code maxLocals ret :: tables_1) h _ List.mem_cons_self)
    exact ⟨meth, c, h1, h2, h3, h4, h5, h6⟩
  · intro p e s m args below meth c s₁ B hml0 hP _
    obtain ⟨rfl, hx, hbd, hgv⟩ := hP
    obtain ⟨scr, harrAt, hlist, hof, hsmall⟩ := hx
    obtain ⟨hcb, hkn, -, -⟩ := State.arrayAt?_spec harrAt
    have hown : s.vm.findClass R_law = some m.cls := findClass_of_methodNamed B.named
    have hts0 : ∀ c ∈ (Jvm.Cond.code x code maxLocals ret :: tables_1), c.before #[Value.ref b] s = true := atoms_spec (ws := Jvm.Cond.code x code maxLocals ret :: tables_1) B.pre
    have hts : ∀ w ∈ lw_tbl, w.before #[Value.ref b] s = true := k2_hts_sels lw_privs (fun w hw => hts0 w (List.mem_cons_of_mem _ hw)) lw_privs_ok
    have hml : c.maxLocals = 10 := B.maxLocals_eq (hts0 _ List.mem_cons_self)
    have X₀ : Stand p l e room_1 s m #[Value.ref b] below meth c s₁ [] 0 0 := Stand.of_body B
    have hh0 : s₁.heap = s.heap := by rw [B.state]; rfl
    have hsz : scr.slots.size = xs.length := by rw [← Array.length_toList, hlist, List.length_map]
    have hval : ∀ j : Nat, j < xs.length → scr.slots[j]? = some (.int (xs.getD j 0)) := fun j hj => by
      rw [← Array.getElem?_toList, hlist]
      simp [hj]
    have hbl : b < s.heap.size := (Array.getElem?_eq_some_iff.mp hcb).1
    have hX : va_X b xs.length (fun j => xs.getD j 0) s s.heap := ⟨scr, hcb, hof, hkn, hsz, hval⟩
    have K : W p l e room_1 s m #[Value.ref b] below meth c s₁.heap [] 0 0 (lw_Z below #[Value.ref b] s) (entryFrame m ([Value.ref b] : List Value).toArray 10) := by
      rw [hh0]
      exact whole_start l hflags hbd ⟨B.exec, B.bytes, B.returns, hml, hown, hts, hX, hbl, B.notSynchronized, hgv⟩
    obtain ⟨t, a1, o, b1, b2, b3⟩ := K s₁ rfl X₀
    exact ⟨t, o, a1, b1, b2, b3⟩
theorem lw_pre_spec {args : Array Value} {s : State} (h : (Jvm.Cond.and given_1 narrow_1).before args s = true) (hr : rest_1_c.before args s = true) : ∃ (b : Addr) (xs : List Int32), lw_P b xs args s := by
  have hs := flat_of_before _ h
  have hq := flat_of_before _ hr
  have hc : (Cond.count 1).before args s = true := hs _ (by decide +kernel)
  have harr : (Cond.arrayOf (.arg 0) .int).before args s = true := hs _ (by decide +kernel)
  have hle : (Cond.le (.length (.arg 0)) (.int 2560)).before args s = true := hs _ (by decide +kernel)
  have hlen : (Cond.isInt (.length (.arg 0))).before args s = true := hq _ (by decide +kernel)
  have hall : (Cond.all (.arg 0) (.isInt (.elem (.arg 0) (.index 0)))).before args s = true := hq _ (by decide +kernel)
  obtain ⟨b, xs, hb, hx⟩ := State.ints_of_pre rfl harr hlen hall
  have hsm : xs.length < 2 ^ 31 := hx.choose_spec.2.2.2
  have hev : (Term.length (.arg 0)).eval args s none [] s = some (.int xs.length.toInt32) := hx.length_eval hb
  have hv := Cond.le_ints hev (show (Term.int 2560).eval args s none [] s = some (.int 2560) from rfl)
  have hd : xs.length.toInt32 ≤ 2560 := by
    simpa [Cond.before, Cond.holds, hv] using hle
  have hN : xs.length ≤ 2560 := (Int32.ofNat_le_ofNat hsm (by decide)).mp (show Int32.ofNat xs.length ≤ Int32.ofNat 2560 from hd)
  exact ⟨b, xs, Cond.one_arg hc (show args[0]? = some (.ref b) from hb), hx, hN, h⟩
theorem lw_comes (l : Launch) (hflags : l.flags = flags0) : Comes l x (Jvm.Cond.code x code maxLocals ret :: tables_1) room_1 (fun tb e args s => Calls_1 tb e args s ∧ rest_1 tb e args s ∧ Pre_1 tb e args s)
    (fun _ _ args s o t => lw_Q args s o t) := by
  intro p e ha hc hk s m args below hf hfit hheap happ hpre
  obtain ⟨b, xs, hP⟩ := lw_pre_spec hpre.2.2 hpre.2.1
  obtain ⟨k, o, h1, h2, h3, hQ⟩ := lw_walk l hflags b xs p e ha hc hk s m args below hf ((Spec.applies_iff_loose hf).mp happ).1 hP trivial
  exact ⟨k, o, h1, h2, h3, hQ⟩
theorem lw_frame {s t : State} {o : Outcome} {args : Array Value} (h : State.butDraws s t lw_cs (fun t1 => Framed s o t1 [] 603072 7215210)) :
    State.butDraws s t [Jvm.Choice.named "NaN.bits"] (fun t1 => Framed s o t1 (fieldLocs frame_1_writes args s ++ arrayLocs frame_1_arrays args s ++ staticLocs frame_1_statics s) 603072 7215210) := h
theorem lw_limb (L : Cond) (hL : ∀ (args : Array Value) (s t : State), L.after args s (.returned (some (.int 1))) t = true) :
    ArmFor flags0 classFile x code maxLocals ret World_1 tables_1 room_1 Calls_1 rest_1 Pre_1
      (fun tb e a s o t => postC L tb e a s o t ∧ State.butDraws s t [Jvm.Choice.named "NaN.bits"] (fun t1 => Framed s o t1 (fieldLocs frame_1_writes a s ++ arrayLocs frame_1_arrays a s ++ staticLocs frame_1_statics s) 603072 7215210)) := by
  intro l hflags _ _ p e ha hc hk s m args below hf hfit hheap happ hpre
  obtain ⟨k, o, h1, h2, h3, rfl, hF⟩ := lw_comes l hflags p e ha hc hk s m args below hf hfit hheap happ hpre
  exact ⟨k, _, h1, h2, h3, hL args s _, lw_frame hF⟩
theorem i_vc : Claimed_1_1 ∧ Claimed_1_2 := ⟨lw_limb limb_1_1 (fun args s t => by simp [limb_1_1, Cond.after, Cond.holds, Cond.value]), lw_limb limb_1_2 (fun args s t => Cond.after_iff.mpr (by
  first | (rw [show limb_1_2 = Cond.eq .result (.int 1) from rfl, Cond.eq_ints (x := 1) (y := 1) rfl rfl]; simp; done) | (simp [limb_1_2, Cond.value, Term.eval]; done)))⟩
