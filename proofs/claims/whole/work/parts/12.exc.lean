/-! WHAT A THROW STANDS ON: two statics of Throwable, words of the tables, the texts -/
abbrev xpW : List Cond := [.castable "java/lang/IllegalArgumentException" "java/lang/IllegalArgumentException", .castable "java/lang/IndexOutOfBoundsException" "java/lang/IndexOutOfBoundsException", .castable "java/lang/IllegalStateException" "java/lang/IllegalStateException", .castable "java/util/NoSuchElementException" "java/util/NoSuchElementException", .castable "java/lang/UnsupportedOperationException" "java/lang/UnsupportedOperationException", .castable "java/lang/ArithmeticException" "java/lang/ArithmeticException", .declares ⟨"java/lang/RuntimeException", "<init>", "(Ljava/lang/String;)V"⟩, .declares ⟨"java/lang/Exception", "<init>", "(Ljava/lang/String;)V"⟩, .declares ⟨"java/lang/Throwable", "<init>", "(Ljava/lang/String;)V"⟩]
abbrev xpS : List (Nat × String) := [(39, "ticks must be 1 to 60"), (56, "a member has no link with itself"), (68, "the member is down"), (87, "no leader of this term"), (100, "no owner by what the member knows"), (105, "there are 6 clients"), (110, "the offset must be -2 to 2"), (144, "the client is not in the queue"), (171, "the value must be 0 to 999"), (196, "the lock is free"), (201, "the lock has no thief"), (203, "no such index in the queue"), (218, "the client has no kept value now"), (249, "there are no entries"), (270, "no such member"), (273, "no such lock"), (275, "no such client"), (277, "no such entry"), (282, "the client is paused"), (284, "the member is down or no leader"), (286, "there are 250 entries")]
abbrev xpN : List (String × String) := [("java/lang/IllegalArgumentException", "java/lang/IndexOutOfBoundsException"), ("java/lang/IllegalArgumentException", "java/lang/IllegalStateException"), ("java/lang/IllegalArgumentException", "java/util/NoSuchElementException"), ("java/lang/IllegalArgumentException", "java/lang/UnsupportedOperationException"), ("java/lang/IllegalArgumentException", "java/lang/ArithmeticException"), ("java/lang/IndexOutOfBoundsException", "java/lang/IllegalArgumentException"), ("java/lang/IndexOutOfBoundsException", "java/lang/IllegalStateException"), ("java/lang/IndexOutOfBoundsException", "java/util/NoSuchElementException"), ("java/lang/IndexOutOfBoundsException", "java/lang/UnsupportedOperationException"), ("java/lang/IndexOutOfBoundsException", "java/lang/ArithmeticException"), ("java/lang/IllegalStateException", "java/lang/IllegalArgumentException"), ("java/lang/IllegalStateException", "java/lang/IndexOutOfBoundsException"), ("java/lang/IllegalStateException", "java/util/NoSuchElementException"), ("java/lang/IllegalStateException", "java/lang/UnsupportedOperationException"), ("java/lang/IllegalStateException", "java/lang/ArithmeticException"), ("java/util/NoSuchElementException", "java/lang/IllegalArgumentException"), ("java/util/NoSuchElementException", "java/lang/IndexOutOfBoundsException"), ("java/util/NoSuchElementException", "java/lang/IllegalStateException"), ("java/util/NoSuchElementException", "java/lang/UnsupportedOperationException"), ("java/util/NoSuchElementException", "java/lang/ArithmeticException"), ("java/lang/UnsupportedOperationException", "java/lang/IllegalArgumentException"), ("java/lang/UnsupportedOperationException", "java/lang/IndexOutOfBoundsException"), ("java/lang/UnsupportedOperationException", "java/lang/IllegalStateException"), ("java/lang/UnsupportedOperationException", "java/util/NoSuchElementException"), ("java/lang/UnsupportedOperationException", "java/lang/ArithmeticException"), ("java/lang/ArithmeticException", "java/lang/IllegalArgumentException"), ("java/lang/ArithmeticException", "java/lang/IndexOutOfBoundsException"), ("java/lang/ArithmeticException", "java/lang/IllegalStateException"), ("java/lang/ArithmeticException", "java/util/NoSuchElementException"), ("java/lang/ArithmeticException", "java/lang/UnsupportedOperationException")]
def XP (base : Nat) (U : State) : Prop :=
  vx_Zq Bundle.tN "UNASSIGNED_STACK" Bundle.steD (AB base) U U.heap ∧ vx_Zq Bundle.tN "SUPPRESSED_SENTINEL" Bundle.listD (AB base) U U.heap ∧ (∀ w ∈ xpW, va_Nw w U) ∧ (∀ q ∈ xpS, ∃ a : Nat, vk_R RX4 q.1 q.2 a U) ∧ ∀ q ∈ xpN, va_Nc q.1 q.2 U
theorem xpW_tab : ∀ w ∈ xpW, w.onTables = true := by decide +kernel
theorem XP.calling {base : Nat} {U : State} (h : XP base U) (g : JFrame) (mk : MethodId) (a : Array Value) : XP base (U.calling g mk a) :=
  ⟨vx_Zq.moved (u := U) (U := U.calling g mk a) (Vm.Alike.refl U.vm) h.1, vx_Zq.moved (u := U) (U := U.calling g mk a) (Vm.Alike.refl U.vm) h.2.1, fun w hw => va_Nw.same (u := U) (xpW_tab w hw) rfl (h.2.2.1 w hw),
   fun q hq => by obtain ⟨a0, h0⟩ := h.2.2.2.1 q hq; exact ⟨a0, vk_R.same (u := U) rfl h0⟩, fun q hq => va_Nc.moved (u := U) (U := U.calling g mk a) (Vm.Alike.refl U.vm) (h.2.2.2.2 q hq)⟩
theorem XP.move {base : Nat} {s U : State} {H : Heap} {locs : List Loc} (h : XP base s) (hS : va_S (AB base) s.heap H locs) (hU : U.heap = H) (hW : s.WarmedH U.vm) : XP base U := by
  refine ⟨by rw [hU]; exact (vx_Zq.moved hW.alike h.1).kept hS.2.1, by rw [hU]; exact (vx_Zq.moved hW.alike h.2.1).kept hS.2.1, fun w hw => ?_, fun q hq => by obtain ⟨a0, h0⟩ := h.2.2.2.1 q hq; exact ⟨a0, vk_R.warm hW h0⟩, fun q hq => va_Nc.moved hW.alike (h.2.2.2.2 q hq)⟩
  have h0 := h.2.2.1 w hw
  rcases List.mem_cons.mp hw with rfl | hw
  · exact va_Nw.warmC hW h0
  rcases List.mem_cons.mp hw with rfl | hw
  · exact va_Nw.warmC hW h0
  rcases List.mem_cons.mp hw with rfl | hw
  · exact va_Nw.warmC hW h0
  rcases List.mem_cons.mp hw with rfl | hw
  · exact va_Nw.warmC hW h0
  rcases List.mem_cons.mp hw with rfl | hw
  · exact va_Nw.warmC hW h0
  rcases List.mem_cons.mp hw with rfl | hw
  · exact va_Nw.warmC hW h0
  rcases List.mem_cons.mp hw with rfl | hw
  · exact va_Nw.warmD hW h0
  rcases List.mem_cons.mp hw with rfl | hw
  · exact va_Nw.warmD hW h0
  rcases List.mem_cons.mp hw with rfl | hw
  · exact va_Nw.warmD hW h0
  · cases hw
/-- a throwing method's start -/
def BX (D : va_G) (ca : Nat → ClassId) (ad : Nat → Nat) (base : Nat) (w : St) : State → Prop := fun U => BU D ca ad base w U ∧ XP base U
/-- where it throws: the class by its name, the world -/
def Bx (D : va_G) (ca : Nat → ClassId) (ad : Nat → Nat) : String → (String × St) → State → Prop := fun E u t => E = u.1 ∧ PA D ca ad u.2 t.heap
theorem pvx {D : va_G} {ca : Nat → ClassId} {ad : Nat → Nat} {base : Nat} {w : St} {s : State} {H : Heap} {locs : List Loc} {ci k : Nat} {C : String} {T : u_T} {N : Nat} {fs : List Value} (As : List Value) (hK : KA D ca s) (hX : XP base s) (hP : PA D ca ad w H) (hbs : base ≤ s.heap.size) (hS : va_S (AB base) s.heap H locs) (hc : vwCl[ci]? = some (C, T, N)) (he : (WA ca ad w)[k]? = some (ad k, .inr (ci, fs))) : PreV s H C (ad k) (va_Pc (.ref (ad k) :: As) (BX D ca ad base w)) As :=
  ⟨fun a U g mk q => ⟨q.1, ⟨q.2.1.1, q.2.1.2.1, va_K.moved (u := U) (U := U.calling g mk a) (Vm.Alike.refl U.vm) q.2.1.2.2⟩, q.2.2.calling g mk a⟩, va_recv hK hP hc he, fun U hU hW => ⟨rfl, ⟨by rw [hU]; exact Nat.le_trans hbs hS.1, by rw [hU]; exact hP, va_K.moved hW.alike hK⟩, hX.move hS hU hW⟩⟩
theorem psx {D : va_G} {ca : Nat → ClassId} {ad : Nat → Nat} {base : Nat} {w : St} {s : State} {H : Heap} {locs : List Loc} (As : List Value) (hK : KA D ca s) (hX : XP base s) (hP : PA D ca ad w H) (hbs : base ≤ s.heap.size) (hS : va_S (AB base) s.heap H locs) : PreS s H (va_Pc As (BX D ca ad base w)) As :=
  ⟨fun a U g mk q => ⟨q.1, ⟨q.2.1.1, q.2.1.2.1, va_K.moved (u := U) (U := U.calling g mk a) (Vm.Alike.refl U.vm) q.2.1.2.2⟩, q.2.2.calling g mk a⟩, fun U hU hW => ⟨rfl, ⟨by rw [hU]; exact Nat.le_trans hbs hS.1, by rw [hU]; exact hP, va_K.moved hW.alike hK⟩, hX.move hS hU hW⟩⟩
