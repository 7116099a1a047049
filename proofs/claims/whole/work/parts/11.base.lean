/-! THE STATE AND THE WORLD: one list of cells for the class, the reference and the law's two out rows; a state says what they hold: int rows and int fields by number, longs by number, the two out rows -/
abbrev St : Type := (Nat → Nat → Int32) × (Nat → Int64) × (Nat → Int64) × (Nat → UInt64)
def uA (w : St) (k : Nat) (f : Nat → Int32) : St := (fun j => if j = k then f else w.1 j, w.2)
def uI (w : St) (k : Nat) (v : Int32) : St := (fun j => if j = k then (fun _ => v) else w.1 j, w.2)
def uL (w : St) (k : Nat) (v : Int64) : St := (w.1, fun j => if j = k then v else w.2.1 j, w.2.2)
def uO (w : St) (f : Nat → Int64) : St := (w.1, w.2.1, f, w.2.2.2)
def uD (w : St) (f : Nat → UInt64) : St := (w.1, w.2.1, w.2.2.1, f)
def qr (ad : Nat → Nat) : Nat → Option Nat := fun i => if i < 4 then some (ad (20 + i)) else none
def WA (ca : Nat → ClassId) (ad : Nat → Nat) (w : St) : va_W := [
(ad 0, .inr (6, [.ref (ad 1), .ref (ad 7), .ref (ad 13), .ref (ad 24), .int (w.1 64 0), .long (w.2.1 0)])),
  (ad 1, .inr (5, [.ref (ad 2), .ref (ad 3), .ref (ad 4), .ref (ad 5), .ref (ad 6)])),
  (ad 2, .inl (ca 1, 5, .inl (w.1 2))),
  (ad 3, .inl (ca 0, 5, .inl (w.1 3))),
  (ad 4, .inl (ca 0, 5, .inl (w.1 4))),
  (ad 5, .inl (ca 1, 25, .inl (w.1 5))),
  (ad 6, .inl (ca 0, 513, .inl (w.1 6))),
  (ad 7, .inr (4, [.int (w.1 65 0), .ref (ad 8), .ref (ad 9), .ref (ad 10), .ref (ad 11), .ref (ad 12)])),
  (ad 8, .inl (ca 2, 250, .inl (w.1 8))),
  (ad 9, .inl (ca 0, 250, .inl (w.1 9))),
  (ad 10, .inl (ca 0, 250, .inl (w.1 10))),
  (ad 11, .inl (ca 0, 250, .inl (w.1 11))),
  (ad 12, .inl (ca 0, 250, .inl (w.1 12))),
  (ad 13, .inr (3, [.ref (ad 14), .ref (ad 15), .ref (ad 16), .ref (ad 17), .ref (ad 18), .ref (ad 19)])),
  (ad 14, .inl (ca 0, 4, .inl (w.1 14))),
  (ad 15, .inl (ca 0, 4, .inl (w.1 15))),
  (ad 16, .inl (ca 0, 4, .inl (w.1 16))),
  (ad 17, .inl (ca 0, 4, .inl (w.1 17))),
  (ad 18, .inl (ca 0, 4, .inl (w.1 18))),
  (ad 19, .inl (ca 5, 4, .inr (.inr (.inr (.inr (qr ad)))))),
  (ad 20, .inl (ca 0, 6, .inl (w.1 20))),
  (ad 21, .inl (ca 0, 6, .inl (w.1 21))),
  (ad 22, .inl (ca 0, 6, .inl (w.1 22))),
  (ad 23, .inl (ca 0, 6, .inl (w.1 23))),
  (ad 24, .inr (2, [.int (w.1 66 0), .ref (ad 25), .ref (ad 26), .ref (ad 27), .ref (ad 28), .ref (ad 29), .ref (ad 30), .ref (ad 31), .ref (ad 32)])),
  (ad 25, .inl (ca 1, 6, .inl (w.1 25))),
  (ad 26, .inl (ca 0, 6, .inl (w.1 26))),
  (ad 27, .inl (ca 0, 24, .inl (w.1 27))),
  (ad 28, .inl (ca 1, 24, .inl (w.1 28))),
  (ad 29, .inl (ca 0, 24, .inl (w.1 29))),
  (ad 30, .inl (ca 1, 24, .inl (w.1 30))),
  (ad 31, .inl (ca 0, 24, .inl (w.1 31))),
  (ad 32, .inl (ca 0, 24, .inl (w.1 32))),
  (ad 33, .inr (7, [.ref (ad 34), .ref (ad 35), .ref (ad 36), .ref (ad 37), .ref (ad 38), .ref (ad 39), .ref (ad 40), .ref (ad 41), .ref (ad 42), .ref (ad 43), .ref (ad 44), .ref (ad 45), .ref (ad 46), .ref (ad 47), .ref (ad 48), .ref (ad 49), .ref (ad 50), .ref (ad 51), .ref (ad 52), .ref (ad 53), .ref (ad 54), .ref (ad 55), .ref (ad 56), .ref (ad 57), .ref (ad 58), .int (w.1 67 0), .int (w.1 68 0), .int (w.1 69 0), .int (w.1 70 0), .long (w.2.1 1)])),
  (ad 34, .inl (ca 1, 5, .inl (w.1 34))),
  (ad 35, .inl (ca 1, 25, .inl (w.1 35))),
  (ad 36, .inl (ca 1, 6, .inl (w.1 36))),
  (ad 37, .inl (ca 1, 24, .inl (w.1 37))),
  (ad 38, .inl (ca 1, 24, .inl (w.1 38))),
  (ad 39, .inl (ca 0, 5, .inl (w.1 39))),
  (ad 40, .inl (ca 0, 5, .inl (w.1 40))),
  (ad 41, .inl (ca 0, 5, .inl (w.1 41))),
  (ad 42, .inl (ca 0, 600, .inl (w.1 42))),
  (ad 43, .inl (ca 0, 6, .inl (w.1 43))),
  (ad 44, .inl (ca 0, 24, .inl (w.1 44))),
  (ad 45, .inl (ca 0, 24, .inl (w.1 45))),
  (ad 46, .inl (ca 0, 24, .inl (w.1 46))),
  (ad 47, .inl (ca 0, 24, .inl (w.1 47))),
  (ad 48, .inl (ca 0, 4, .inl (w.1 48))),
  (ad 49, .inl (ca 0, 4, .inl (w.1 49))),
  (ad 50, .inl (ca 0, 4, .inl (w.1 50))),
  (ad 51, .inl (ca 0, 4, .inl (w.1 51))),
  (ad 52, .inl (ca 0, 4, .inl (w.1 52))),
  (ad 53, .inl (ca 0, 24, .inl (w.1 53))),
  (ad 54, .inl (ca 0, 4, .inl (w.1 54))),
  (ad 55, .inl (ca 2, 250, .inl (w.1 55))),
  (ad 56, .inl (ca 0, 250, .inl (w.1 56))),
  (ad 57, .inl (ca 0, 250, .inl (w.1 57))),
  (ad 58, .inl (ca 0, 250, .inl (w.1 58))),
  (ad 59, .inl (ca 3, 1, .inr (.inl w.2.2.1))),
  (ad 60, .inl (ca 4, 1, .inr (.inr (.inr (.inl w.2.2.2)))))]
abbrev tysA (ca : Nat → ClassId) : List (ClassId × FieldType) := [(ca 0, .int), (ca 1, .boolean), (ca 2, .char), (ca 3, .long), (ca 4, .double), (ca 5, .array .int)]
theorem wg0 (ca : Nat → ClassId) (ad : Nat → Nat) (w : St) : (WA ca ad w)[0]? = some (ad 0, .inr (6, [.ref (ad 1), .ref (ad 7), .ref (ad 13), .ref (ad 24), .int (w.1 64 0), .long (w.2.1 0)])) := rfl
theorem wg1 (ca : Nat → ClassId) (ad : Nat → Nat) (w : St) : (WA ca ad w)[1]? = some (ad 1, .inr (5, [.ref (ad 2), .ref (ad 3), .ref (ad 4), .ref (ad 5), .ref (ad 6)])) := rfl
theorem wg2 (ca : Nat → ClassId) (ad : Nat → Nat) (w : St) : (WA ca ad w)[2]? = some (ad 2, .inl (ca 1, 5, .inl (w.1 2))) := rfl
theorem wg3 (ca : Nat → ClassId) (ad : Nat → Nat) (w : St) : (WA ca ad w)[3]? = some (ad 3, .inl (ca 0, 5, .inl (w.1 3))) := rfl
theorem wg4 (ca : Nat → ClassId) (ad : Nat → Nat) (w : St) : (WA ca ad w)[4]? = some (ad 4, .inl (ca 0, 5, .inl (w.1 4))) := rfl
theorem wg5 (ca : Nat → ClassId) (ad : Nat → Nat) (w : St) : (WA ca ad w)[5]? = some (ad 5, .inl (ca 1, 25, .inl (w.1 5))) := rfl
theorem wg6 (ca : Nat → ClassId) (ad : Nat → Nat) (w : St) : (WA ca ad w)[6]? = some (ad 6, .inl (ca 0, 513, .inl (w.1 6))) := rfl
theorem wg7 (ca : Nat → ClassId) (ad : Nat → Nat) (w : St) : (WA ca ad w)[7]? = some (ad 7, .inr (4, [.int (w.1 65 0), .ref (ad 8), .ref (ad 9), .ref (ad 10), .ref (ad 11), .ref (ad 12)])) := rfl
theorem wg8 (ca : Nat → ClassId) (ad : Nat → Nat) (w : St) : (WA ca ad w)[8]? = some (ad 8, .inl (ca 2, 250, .inl (w.1 8))) := rfl
theorem wg9 (ca : Nat → ClassId) (ad : Nat → Nat) (w : St) : (WA ca ad w)[9]? = some (ad 9, .inl (ca 0, 250, .inl (w.1 9))) := rfl
theorem wg10 (ca : Nat → ClassId) (ad : Nat → Nat) (w : St) : (WA ca ad w)[10]? = some (ad 10, .inl (ca 0, 250, .inl (w.1 10))) := rfl
theorem wg11 (ca : Nat → ClassId) (ad : Nat → Nat) (w : St) : (WA ca ad w)[11]? = some (ad 11, .inl (ca 0, 250, .inl (w.1 11))) := rfl
theorem wg12 (ca : Nat → ClassId) (ad : Nat → Nat) (w : St) : (WA ca ad w)[12]? = some (ad 12, .inl (ca 0, 250, .inl (w.1 12))) := rfl
theorem wg13 (ca : Nat → ClassId) (ad : Nat → Nat) (w : St) : (WA ca ad w)[13]? = some (ad 13, .inr (3, [.ref (ad 14), .ref (ad 15), .ref (ad 16), .ref (ad 17), .ref (ad 18), .ref (ad 19)])) := rfl
theorem wg14 (ca : Nat → ClassId) (ad : Nat → Nat) (w : St) : (WA ca ad w)[14]? = some (ad 14, .inl (ca 0, 4, .inl (w.1 14))) := rfl
theorem wg15 (ca : Nat → ClassId) (ad : Nat → Nat) (w : St) : (WA ca ad w)[15]? = some (ad 15, .inl (ca 0, 4, .inl (w.1 15))) := rfl
theorem wg16 (ca : Nat → ClassId) (ad : Nat → Nat) (w : St) : (WA ca ad w)[16]? = some (ad 16, .inl (ca 0, 4, .inl (w.1 16))) := rfl
theorem wg17 (ca : Nat → ClassId) (ad : Nat → Nat) (w : St) : (WA ca ad w)[17]? = some (ad 17, .inl (ca 0, 4, .inl (w.1 17))) := rfl
theorem wg18 (ca : Nat → ClassId) (ad : Nat → Nat) (w : St) : (WA ca ad w)[18]? = some (ad 18, .inl (ca 0, 4, .inl (w.1 18))) := rfl
theorem wg19 (ca : Nat → ClassId) (ad : Nat → Nat) (w : St) : (WA ca ad w)[19]? = some (ad 19, .inl (ca 5, 4, .inr (.inr (.inr (.inr (qr ad)))))) := rfl
theorem wg20 (ca : Nat → ClassId) (ad : Nat → Nat) (w : St) : (WA ca ad w)[20]? = some (ad 20, .inl (ca 0, 6, .inl (w.1 20))) := rfl
theorem wg21 (ca : Nat → ClassId) (ad : Nat → Nat) (w : St) : (WA ca ad w)[21]? = some (ad 21, .inl (ca 0, 6, .inl (w.1 21))) := rfl
theorem wg22 (ca : Nat → ClassId) (ad : Nat → Nat) (w : St) : (WA ca ad w)[22]? = some (ad 22, .inl (ca 0, 6, .inl (w.1 22))) := rfl
theorem wg23 (ca : Nat → ClassId) (ad : Nat → Nat) (w : St) : (WA ca ad w)[23]? = some (ad 23, .inl (ca 0, 6, .inl (w.1 23))) := rfl
theorem wg24 (ca : Nat → ClassId) (ad : Nat → Nat) (w : St) : (WA ca ad w)[24]? = some (ad 24, .inr (2, [.int (w.1 66 0), .ref (ad 25), .ref (ad 26), .ref (ad 27), .ref (ad 28), .ref (ad 29), .ref (ad 30), .ref (ad 31), .ref (ad 32)])) := rfl
theorem wg25 (ca : Nat → ClassId) (ad : Nat → Nat) (w : St) : (WA ca ad w)[25]? = some (ad 25, .inl (ca 1, 6, .inl (w.1 25))) := rfl
theorem wg26 (ca : Nat → ClassId) (ad : Nat → Nat) (w : St) : (WA ca ad w)[26]? = some (ad 26, .inl (ca 0, 6, .inl (w.1 26))) := rfl
theorem wg27 (ca : Nat → ClassId) (ad : Nat → Nat) (w : St) : (WA ca ad w)[27]? = some (ad 27, .inl (ca 0, 24, .inl (w.1 27))) := rfl
theorem wg28 (ca : Nat → ClassId) (ad : Nat → Nat) (w : St) : (WA ca ad w)[28]? = some (ad 28, .inl (ca 1, 24, .inl (w.1 28))) := rfl
theorem wg29 (ca : Nat → ClassId) (ad : Nat → Nat) (w : St) : (WA ca ad w)[29]? = some (ad 29, .inl (ca 0, 24, .inl (w.1 29))) := rfl
theorem wg30 (ca : Nat → ClassId) (ad : Nat → Nat) (w : St) : (WA ca ad w)[30]? = some (ad 30, .inl (ca 1, 24, .inl (w.1 30))) := rfl
theorem wg31 (ca : Nat → ClassId) (ad : Nat → Nat) (w : St) : (WA ca ad w)[31]? = some (ad 31, .inl (ca 0, 24, .inl (w.1 31))) := rfl
theorem wg32 (ca : Nat → ClassId) (ad : Nat → Nat) (w : St) : (WA ca ad w)[32]? = some (ad 32, .inl (ca 0, 24, .inl (w.1 32))) := rfl
theorem wg33 (ca : Nat → ClassId) (ad : Nat → Nat) (w : St) : (WA ca ad w)[33]? = some (ad 33, .inr (7, [.ref (ad 34), .ref (ad 35), .ref (ad 36), .ref (ad 37), .ref (ad 38), .ref (ad 39), .ref (ad 40), .ref (ad 41), .ref (ad 42), .ref (ad 43), .ref (ad 44), .ref (ad 45), .ref (ad 46), .ref (ad 47), .ref (ad 48), .ref (ad 49), .ref (ad 50), .ref (ad 51), .ref (ad 52), .ref (ad 53), .ref (ad 54), .ref (ad 55), .ref (ad 56), .ref (ad 57), .ref (ad 58), .int (w.1 67 0), .int (w.1 68 0), .int (w.1 69 0), .int (w.1 70 0), .long (w.2.1 1)])) := rfl
theorem wg34 (ca : Nat → ClassId) (ad : Nat → Nat) (w : St) : (WA ca ad w)[34]? = some (ad 34, .inl (ca 1, 5, .inl (w.1 34))) := rfl
theorem wg35 (ca : Nat → ClassId) (ad : Nat → Nat) (w : St) : (WA ca ad w)[35]? = some (ad 35, .inl (ca 1, 25, .inl (w.1 35))) := rfl
theorem wg36 (ca : Nat → ClassId) (ad : Nat → Nat) (w : St) : (WA ca ad w)[36]? = some (ad 36, .inl (ca 1, 6, .inl (w.1 36))) := rfl
theorem wg37 (ca : Nat → ClassId) (ad : Nat → Nat) (w : St) : (WA ca ad w)[37]? = some (ad 37, .inl (ca 1, 24, .inl (w.1 37))) := rfl
theorem wg38 (ca : Nat → ClassId) (ad : Nat → Nat) (w : St) : (WA ca ad w)[38]? = some (ad 38, .inl (ca 1, 24, .inl (w.1 38))) := rfl
theorem wg39 (ca : Nat → ClassId) (ad : Nat → Nat) (w : St) : (WA ca ad w)[39]? = some (ad 39, .inl (ca 0, 5, .inl (w.1 39))) := rfl
theorem wg40 (ca : Nat → ClassId) (ad : Nat → Nat) (w : St) : (WA ca ad w)[40]? = some (ad 40, .inl (ca 0, 5, .inl (w.1 40))) := rfl
theorem wg41 (ca : Nat → ClassId) (ad : Nat → Nat) (w : St) : (WA ca ad w)[41]? = some (ad 41, .inl (ca 0, 5, .inl (w.1 41))) := rfl
theorem wg42 (ca : Nat → ClassId) (ad : Nat → Nat) (w : St) : (WA ca ad w)[42]? = some (ad 42, .inl (ca 0, 600, .inl (w.1 42))) := rfl
theorem wg43 (ca : Nat → ClassId) (ad : Nat → Nat) (w : St) : (WA ca ad w)[43]? = some (ad 43, .inl (ca 0, 6, .inl (w.1 43))) := rfl
theorem wg44 (ca : Nat → ClassId) (ad : Nat → Nat) (w : St) : (WA ca ad w)[44]? = some (ad 44, .inl (ca 0, 24, .inl (w.1 44))) := rfl
theorem wg45 (ca : Nat → ClassId) (ad : Nat → Nat) (w : St) : (WA ca ad w)[45]? = some (ad 45, .inl (ca 0, 24, .inl (w.1 45))) := rfl
theorem wg46 (ca : Nat → ClassId) (ad : Nat → Nat) (w : St) : (WA ca ad w)[46]? = some (ad 46, .inl (ca 0, 24, .inl (w.1 46))) := rfl
theorem wg47 (ca : Nat → ClassId) (ad : Nat → Nat) (w : St) : (WA ca ad w)[47]? = some (ad 47, .inl (ca 0, 24, .inl (w.1 47))) := rfl
theorem wg48 (ca : Nat → ClassId) (ad : Nat → Nat) (w : St) : (WA ca ad w)[48]? = some (ad 48, .inl (ca 0, 4, .inl (w.1 48))) := rfl
theorem wg49 (ca : Nat → ClassId) (ad : Nat → Nat) (w : St) : (WA ca ad w)[49]? = some (ad 49, .inl (ca 0, 4, .inl (w.1 49))) := rfl
theorem wg50 (ca : Nat → ClassId) (ad : Nat → Nat) (w : St) : (WA ca ad w)[50]? = some (ad 50, .inl (ca 0, 4, .inl (w.1 50))) := rfl
theorem wg51 (ca : Nat → ClassId) (ad : Nat → Nat) (w : St) : (WA ca ad w)[51]? = some (ad 51, .inl (ca 0, 4, .inl (w.1 51))) := rfl
theorem wg52 (ca : Nat → ClassId) (ad : Nat → Nat) (w : St) : (WA ca ad w)[52]? = some (ad 52, .inl (ca 0, 4, .inl (w.1 52))) := rfl
theorem wg53 (ca : Nat → ClassId) (ad : Nat → Nat) (w : St) : (WA ca ad w)[53]? = some (ad 53, .inl (ca 0, 24, .inl (w.1 53))) := rfl
theorem wg54 (ca : Nat → ClassId) (ad : Nat → Nat) (w : St) : (WA ca ad w)[54]? = some (ad 54, .inl (ca 0, 4, .inl (w.1 54))) := rfl
theorem wg55 (ca : Nat → ClassId) (ad : Nat → Nat) (w : St) : (WA ca ad w)[55]? = some (ad 55, .inl (ca 2, 250, .inl (w.1 55))) := rfl
theorem wg56 (ca : Nat → ClassId) (ad : Nat → Nat) (w : St) : (WA ca ad w)[56]? = some (ad 56, .inl (ca 0, 250, .inl (w.1 56))) := rfl
theorem wg57 (ca : Nat → ClassId) (ad : Nat → Nat) (w : St) : (WA ca ad w)[57]? = some (ad 57, .inl (ca 0, 250, .inl (w.1 57))) := rfl
theorem wg58 (ca : Nat → ClassId) (ad : Nat → Nat) (w : St) : (WA ca ad w)[58]? = some (ad 58, .inl (ca 0, 250, .inl (w.1 58))) := rfl
theorem wg59 (ca : Nat → ClassId) (ad : Nat → Nat) (w : St) : (WA ca ad w)[59]? = some (ad 59, .inl (ca 3, 1, .inr (.inl w.2.2.1))) := rfl
theorem wg60 (ca : Nat → ClassId) (ad : Nat → Nat) (w : St) : (WA ca ad w)[60]? = some (ad 60, .inl (ca 4, 1, .inr (.inr (.inr (.inl w.2.2.2))))) := rfl
/-- where the cells lie: apart, behind base -/
def okA (base : Nat) (ad : Nat → Nat) : Prop := (∀ i j, i < 61 → j < 61 → ad i = ad j → i = j) ∧ ∀ i, i < 61 → base ≤ ad i
def AB (base : Nat) : Nat → Prop := fun q => base ≤ q
theorem WA_len (ca : Nat → ClassId) (ad : Nat → Nat) (w : St) : (WA ca ad w).length = 61 := rfl
set_option maxRecDepth 100000 in
theorem WA_fst (ca : Nat → ClassId) (ad : Nat → Nat) (w : St) : (WA ca ad w).map Prod.fst = (List.range 61).map ad := rfl
theorem WA_at {ca : Nat → ClassId} {ad : Nat → Nat} {w : St} {i : Nat} {q : Nat × va_E} (h : (WA ca ad w)[i]? = some q) : i < 61 ∧ q.1 = ad i := by
  have h2 : ((WA ca ad w).map Prod.fst)[i]? = some q.1 := by rw [List.getElem?_map, h]; rfl
  rw [WA_fst, List.getElem?_map] at h2
  have hi : i < 61 := by
    have := (List.getElem?_eq_some_iff.mp h).1
    rwa [WA_len] at this
  rw [List.getElem?_range hi] at h2
  exact ⟨hi, (Option.some.inj h2).symm⟩
theorem DA {base : Nat} {ad : Nat → Nat} (h : okA base ad) {ca : Nat → ClassId} {w : St} : va_D (AB base) (WA ca ad w) := by
  refine ⟨fun i j p q hi hj e => ?_, fun k q hk => ?_⟩
  · obtain ⟨h1, h2⟩ := WA_at hi
    obtain ⟨h3, h4⟩ := WA_at hj
    exact h.1 i j h1 h3 (by rw [← h2, ← h4]; exact e)
  · obtain ⟨h1, h2⟩ := WA_at hk
    unfold AB
    rw [h2]
    exact h.2 k h1
abbrev KA (D : va_G) (ca : Nat → ClassId) (U : State) : Prop := va_K D vwCl (tysA ca) U
abbrev PA (D : va_G) (ca : Nat → ClassId) (ad : Nat → Nat) (w : St) (H : Heap) : Prop := va_P D vwCl (WA ca ad w) H
/-- a method's start: the world, the tables -/
def BU (D : va_G) (ca : Nat → ClassId) (ad : Nat → Nat) (base : Nat) (w : St) : State → Prop := fun U => base ≤ U.heap.size ∧ PA D ca ad w U.heap ∧ KA D ca U
def Bp (D : va_G) (ca : Nat → ClassId) (ad : Nat → Nat) : St → State → Prop := fun u t => PA D ca ad u t.heap
theorem wu2 {D : va_G} {ca : Nat → ClassId} {ad : Nat → Nat} {w : St} {H : Heap} {f : Nat → Int32} (h : va_P D vwCl ((WA ca ad w).set 2 (ad 2, .inl (ca 1, 5, .inl f))) H) : PA D ca ad (uA w 2 f) H := h
theorem wu3 {D : va_G} {ca : Nat → ClassId} {ad : Nat → Nat} {w : St} {H : Heap} {f : Nat → Int32} (h : va_P D vwCl ((WA ca ad w).set 3 (ad 3, .inl (ca 0, 5, .inl f))) H) : PA D ca ad (uA w 3 f) H := h
theorem wu4 {D : va_G} {ca : Nat → ClassId} {ad : Nat → Nat} {w : St} {H : Heap} {f : Nat → Int32} (h : va_P D vwCl ((WA ca ad w).set 4 (ad 4, .inl (ca 0, 5, .inl f))) H) : PA D ca ad (uA w 4 f) H := h
theorem wu5 {D : va_G} {ca : Nat → ClassId} {ad : Nat → Nat} {w : St} {H : Heap} {f : Nat → Int32} (h : va_P D vwCl ((WA ca ad w).set 5 (ad 5, .inl (ca 1, 25, .inl f))) H) : PA D ca ad (uA w 5 f) H := h
theorem wu6 {D : va_G} {ca : Nat → ClassId} {ad : Nat → Nat} {w : St} {H : Heap} {f : Nat → Int32} (h : va_P D vwCl ((WA ca ad w).set 6 (ad 6, .inl (ca 0, 513, .inl f))) H) : PA D ca ad (uA w 6 f) H := h
theorem wu8 {D : va_G} {ca : Nat → ClassId} {ad : Nat → Nat} {w : St} {H : Heap} {f : Nat → Int32} (h : va_P D vwCl ((WA ca ad w).set 8 (ad 8, .inl (ca 2, 250, .inl f))) H) : PA D ca ad (uA w 8 f) H := h
theorem wu9 {D : va_G} {ca : Nat → ClassId} {ad : Nat → Nat} {w : St} {H : Heap} {f : Nat → Int32} (h : va_P D vwCl ((WA ca ad w).set 9 (ad 9, .inl (ca 0, 250, .inl f))) H) : PA D ca ad (uA w 9 f) H := h
theorem wu10 {D : va_G} {ca : Nat → ClassId} {ad : Nat → Nat} {w : St} {H : Heap} {f : Nat → Int32} (h : va_P D vwCl ((WA ca ad w).set 10 (ad 10, .inl (ca 0, 250, .inl f))) H) : PA D ca ad (uA w 10 f) H := h
theorem wu11 {D : va_G} {ca : Nat → ClassId} {ad : Nat → Nat} {w : St} {H : Heap} {f : Nat → Int32} (h : va_P D vwCl ((WA ca ad w).set 11 (ad 11, .inl (ca 0, 250, .inl f))) H) : PA D ca ad (uA w 11 f) H := h
theorem wu12 {D : va_G} {ca : Nat → ClassId} {ad : Nat → Nat} {w : St} {H : Heap} {f : Nat → Int32} (h : va_P D vwCl ((WA ca ad w).set 12 (ad 12, .inl (ca 0, 250, .inl f))) H) : PA D ca ad (uA w 12 f) H := h
theorem wu14 {D : va_G} {ca : Nat → ClassId} {ad : Nat → Nat} {w : St} {H : Heap} {f : Nat → Int32} (h : va_P D vwCl ((WA ca ad w).set 14 (ad 14, .inl (ca 0, 4, .inl f))) H) : PA D ca ad (uA w 14 f) H := h
theorem wu15 {D : va_G} {ca : Nat → ClassId} {ad : Nat → Nat} {w : St} {H : Heap} {f : Nat → Int32} (h : va_P D vwCl ((WA ca ad w).set 15 (ad 15, .inl (ca 0, 4, .inl f))) H) : PA D ca ad (uA w 15 f) H := h
theorem wu16 {D : va_G} {ca : Nat → ClassId} {ad : Nat → Nat} {w : St} {H : Heap} {f : Nat → Int32} (h : va_P D vwCl ((WA ca ad w).set 16 (ad 16, .inl (ca 0, 4, .inl f))) H) : PA D ca ad (uA w 16 f) H := h
theorem wu17 {D : va_G} {ca : Nat → ClassId} {ad : Nat → Nat} {w : St} {H : Heap} {f : Nat → Int32} (h : va_P D vwCl ((WA ca ad w).set 17 (ad 17, .inl (ca 0, 4, .inl f))) H) : PA D ca ad (uA w 17 f) H := h
theorem wu18 {D : va_G} {ca : Nat → ClassId} {ad : Nat → Nat} {w : St} {H : Heap} {f : Nat → Int32} (h : va_P D vwCl ((WA ca ad w).set 18 (ad 18, .inl (ca 0, 4, .inl f))) H) : PA D ca ad (uA w 18 f) H := h
theorem wu20 {D : va_G} {ca : Nat → ClassId} {ad : Nat → Nat} {w : St} {H : Heap} {f : Nat → Int32} (h : va_P D vwCl ((WA ca ad w).set 20 (ad 20, .inl (ca 0, 6, .inl f))) H) : PA D ca ad (uA w 20 f) H := h
theorem wu21 {D : va_G} {ca : Nat → ClassId} {ad : Nat → Nat} {w : St} {H : Heap} {f : Nat → Int32} (h : va_P D vwCl ((WA ca ad w).set 21 (ad 21, .inl (ca 0, 6, .inl f))) H) : PA D ca ad (uA w 21 f) H := h
theorem wu22 {D : va_G} {ca : Nat → ClassId} {ad : Nat → Nat} {w : St} {H : Heap} {f : Nat → Int32} (h : va_P D vwCl ((WA ca ad w).set 22 (ad 22, .inl (ca 0, 6, .inl f))) H) : PA D ca ad (uA w 22 f) H := h
theorem wu23 {D : va_G} {ca : Nat → ClassId} {ad : Nat → Nat} {w : St} {H : Heap} {f : Nat → Int32} (h : va_P D vwCl ((WA ca ad w).set 23 (ad 23, .inl (ca 0, 6, .inl f))) H) : PA D ca ad (uA w 23 f) H := h
theorem wu25 {D : va_G} {ca : Nat → ClassId} {ad : Nat → Nat} {w : St} {H : Heap} {f : Nat → Int32} (h : va_P D vwCl ((WA ca ad w).set 25 (ad 25, .inl (ca 1, 6, .inl f))) H) : PA D ca ad (uA w 25 f) H := h
theorem wu26 {D : va_G} {ca : Nat → ClassId} {ad : Nat → Nat} {w : St} {H : Heap} {f : Nat → Int32} (h : va_P D vwCl ((WA ca ad w).set 26 (ad 26, .inl (ca 0, 6, .inl f))) H) : PA D ca ad (uA w 26 f) H := h
theorem wu27 {D : va_G} {ca : Nat → ClassId} {ad : Nat → Nat} {w : St} {H : Heap} {f : Nat → Int32} (h : va_P D vwCl ((WA ca ad w).set 27 (ad 27, .inl (ca 0, 24, .inl f))) H) : PA D ca ad (uA w 27 f) H := h
theorem wu28 {D : va_G} {ca : Nat → ClassId} {ad : Nat → Nat} {w : St} {H : Heap} {f : Nat → Int32} (h : va_P D vwCl ((WA ca ad w).set 28 (ad 28, .inl (ca 1, 24, .inl f))) H) : PA D ca ad (uA w 28 f) H := h
theorem wu29 {D : va_G} {ca : Nat → ClassId} {ad : Nat → Nat} {w : St} {H : Heap} {f : Nat → Int32} (h : va_P D vwCl ((WA ca ad w).set 29 (ad 29, .inl (ca 0, 24, .inl f))) H) : PA D ca ad (uA w 29 f) H := h
theorem wu30 {D : va_G} {ca : Nat → ClassId} {ad : Nat → Nat} {w : St} {H : Heap} {f : Nat → Int32} (h : va_P D vwCl ((WA ca ad w).set 30 (ad 30, .inl (ca 1, 24, .inl f))) H) : PA D ca ad (uA w 30 f) H := h
theorem wu31 {D : va_G} {ca : Nat → ClassId} {ad : Nat → Nat} {w : St} {H : Heap} {f : Nat → Int32} (h : va_P D vwCl ((WA ca ad w).set 31 (ad 31, .inl (ca 0, 24, .inl f))) H) : PA D ca ad (uA w 31 f) H := h
theorem wu32 {D : va_G} {ca : Nat → ClassId} {ad : Nat → Nat} {w : St} {H : Heap} {f : Nat → Int32} (h : va_P D vwCl ((WA ca ad w).set 32 (ad 32, .inl (ca 0, 24, .inl f))) H) : PA D ca ad (uA w 32 f) H := h
theorem wu34 {D : va_G} {ca : Nat → ClassId} {ad : Nat → Nat} {w : St} {H : Heap} {f : Nat → Int32} (h : va_P D vwCl ((WA ca ad w).set 34 (ad 34, .inl (ca 1, 5, .inl f))) H) : PA D ca ad (uA w 34 f) H := h
theorem wu35 {D : va_G} {ca : Nat → ClassId} {ad : Nat → Nat} {w : St} {H : Heap} {f : Nat → Int32} (h : va_P D vwCl ((WA ca ad w).set 35 (ad 35, .inl (ca 1, 25, .inl f))) H) : PA D ca ad (uA w 35 f) H := h
theorem wu36 {D : va_G} {ca : Nat → ClassId} {ad : Nat → Nat} {w : St} {H : Heap} {f : Nat → Int32} (h : va_P D vwCl ((WA ca ad w).set 36 (ad 36, .inl (ca 1, 6, .inl f))) H) : PA D ca ad (uA w 36 f) H := h
theorem wu37 {D : va_G} {ca : Nat → ClassId} {ad : Nat → Nat} {w : St} {H : Heap} {f : Nat → Int32} (h : va_P D vwCl ((WA ca ad w).set 37 (ad 37, .inl (ca 1, 24, .inl f))) H) : PA D ca ad (uA w 37 f) H := h
theorem wu38 {D : va_G} {ca : Nat → ClassId} {ad : Nat → Nat} {w : St} {H : Heap} {f : Nat → Int32} (h : va_P D vwCl ((WA ca ad w).set 38 (ad 38, .inl (ca 1, 24, .inl f))) H) : PA D ca ad (uA w 38 f) H := h
theorem wu39 {D : va_G} {ca : Nat → ClassId} {ad : Nat → Nat} {w : St} {H : Heap} {f : Nat → Int32} (h : va_P D vwCl ((WA ca ad w).set 39 (ad 39, .inl (ca 0, 5, .inl f))) H) : PA D ca ad (uA w 39 f) H := h
theorem wu40 {D : va_G} {ca : Nat → ClassId} {ad : Nat → Nat} {w : St} {H : Heap} {f : Nat → Int32} (h : va_P D vwCl ((WA ca ad w).set 40 (ad 40, .inl (ca 0, 5, .inl f))) H) : PA D ca ad (uA w 40 f) H := h
theorem wu41 {D : va_G} {ca : Nat → ClassId} {ad : Nat → Nat} {w : St} {H : Heap} {f : Nat → Int32} (h : va_P D vwCl ((WA ca ad w).set 41 (ad 41, .inl (ca 0, 5, .inl f))) H) : PA D ca ad (uA w 41 f) H := h
theorem wu42 {D : va_G} {ca : Nat → ClassId} {ad : Nat → Nat} {w : St} {H : Heap} {f : Nat → Int32} (h : va_P D vwCl ((WA ca ad w).set 42 (ad 42, .inl (ca 0, 600, .inl f))) H) : PA D ca ad (uA w 42 f) H := h
theorem wu43 {D : va_G} {ca : Nat → ClassId} {ad : Nat → Nat} {w : St} {H : Heap} {f : Nat → Int32} (h : va_P D vwCl ((WA ca ad w).set 43 (ad 43, .inl (ca 0, 6, .inl f))) H) : PA D ca ad (uA w 43 f) H := h
theorem wu44 {D : va_G} {ca : Nat → ClassId} {ad : Nat → Nat} {w : St} {H : Heap} {f : Nat → Int32} (h : va_P D vwCl ((WA ca ad w).set 44 (ad 44, .inl (ca 0, 24, .inl f))) H) : PA D ca ad (uA w 44 f) H := h
theorem wu45 {D : va_G} {ca : Nat → ClassId} {ad : Nat → Nat} {w : St} {H : Heap} {f : Nat → Int32} (h : va_P D vwCl ((WA ca ad w).set 45 (ad 45, .inl (ca 0, 24, .inl f))) H) : PA D ca ad (uA w 45 f) H := h
theorem wu46 {D : va_G} {ca : Nat → ClassId} {ad : Nat → Nat} {w : St} {H : Heap} {f : Nat → Int32} (h : va_P D vwCl ((WA ca ad w).set 46 (ad 46, .inl (ca 0, 24, .inl f))) H) : PA D ca ad (uA w 46 f) H := h
theorem wu47 {D : va_G} {ca : Nat → ClassId} {ad : Nat → Nat} {w : St} {H : Heap} {f : Nat → Int32} (h : va_P D vwCl ((WA ca ad w).set 47 (ad 47, .inl (ca 0, 24, .inl f))) H) : PA D ca ad (uA w 47 f) H := h
theorem wu48 {D : va_G} {ca : Nat → ClassId} {ad : Nat → Nat} {w : St} {H : Heap} {f : Nat → Int32} (h : va_P D vwCl ((WA ca ad w).set 48 (ad 48, .inl (ca 0, 4, .inl f))) H) : PA D ca ad (uA w 48 f) H := h
theorem wu49 {D : va_G} {ca : Nat → ClassId} {ad : Nat → Nat} {w : St} {H : Heap} {f : Nat → Int32} (h : va_P D vwCl ((WA ca ad w).set 49 (ad 49, .inl (ca 0, 4, .inl f))) H) : PA D ca ad (uA w 49 f) H := h
theorem wu50 {D : va_G} {ca : Nat → ClassId} {ad : Nat → Nat} {w : St} {H : Heap} {f : Nat → Int32} (h : va_P D vwCl ((WA ca ad w).set 50 (ad 50, .inl (ca 0, 4, .inl f))) H) : PA D ca ad (uA w 50 f) H := h
theorem wu51 {D : va_G} {ca : Nat → ClassId} {ad : Nat → Nat} {w : St} {H : Heap} {f : Nat → Int32} (h : va_P D vwCl ((WA ca ad w).set 51 (ad 51, .inl (ca 0, 4, .inl f))) H) : PA D ca ad (uA w 51 f) H := h
theorem wu52 {D : va_G} {ca : Nat → ClassId} {ad : Nat → Nat} {w : St} {H : Heap} {f : Nat → Int32} (h : va_P D vwCl ((WA ca ad w).set 52 (ad 52, .inl (ca 0, 4, .inl f))) H) : PA D ca ad (uA w 52 f) H := h
theorem wu53 {D : va_G} {ca : Nat → ClassId} {ad : Nat → Nat} {w : St} {H : Heap} {f : Nat → Int32} (h : va_P D vwCl ((WA ca ad w).set 53 (ad 53, .inl (ca 0, 24, .inl f))) H) : PA D ca ad (uA w 53 f) H := h
theorem wu54 {D : va_G} {ca : Nat → ClassId} {ad : Nat → Nat} {w : St} {H : Heap} {f : Nat → Int32} (h : va_P D vwCl ((WA ca ad w).set 54 (ad 54, .inl (ca 0, 4, .inl f))) H) : PA D ca ad (uA w 54 f) H := h
theorem wu55 {D : va_G} {ca : Nat → ClassId} {ad : Nat → Nat} {w : St} {H : Heap} {f : Nat → Int32} (h : va_P D vwCl ((WA ca ad w).set 55 (ad 55, .inl (ca 2, 250, .inl f))) H) : PA D ca ad (uA w 55 f) H := h
theorem wu56 {D : va_G} {ca : Nat → ClassId} {ad : Nat → Nat} {w : St} {H : Heap} {f : Nat → Int32} (h : va_P D vwCl ((WA ca ad w).set 56 (ad 56, .inl (ca 0, 250, .inl f))) H) : PA D ca ad (uA w 56 f) H := h
theorem wu57 {D : va_G} {ca : Nat → ClassId} {ad : Nat → Nat} {w : St} {H : Heap} {f : Nat → Int32} (h : va_P D vwCl ((WA ca ad w).set 57 (ad 57, .inl (ca 0, 250, .inl f))) H) : PA D ca ad (uA w 57 f) H := h
theorem wu58 {D : va_G} {ca : Nat → ClassId} {ad : Nat → Nat} {w : St} {H : Heap} {f : Nat → Int32} (h : va_P D vwCl ((WA ca ad w).set 58 (ad 58, .inl (ca 0, 250, .inl f))) H) : PA D ca ad (uA w 58 f) H := h
theorem wu59 {D : va_G} {ca : Nat → ClassId} {ad : Nat → Nat} {w : St} {H : Heap} {f : Nat → Int64} (h : va_P D vwCl ((WA ca ad w).set 59 (ad 59, .inl (ca 3, 1, .inr (.inl f)))) H) : PA D ca ad (uO w f) H := h
theorem wu60 {D : va_G} {ca : Nat → ClassId} {ad : Nat → Nat} {w : St} {H : Heap} {f : Nat → UInt64} (h : va_P D vwCl ((WA ca ad w).set 60 (ad 60, .inl (ca 4, 1, .inr (.inr (.inr (.inl f)))))) H) : PA D ca ad (uD w f) H := h
theorem wf64 {D : va_G} {ca : Nat → ClassId} {ad : Nat → Nat} {w : St} {H : Heap} {v : Int32} (h : va_P D vwCl ((WA ca ad w).set 0 (ad 0, .inr (6, [.ref (ad 1), .ref (ad 7), .ref (ad 13), .ref (ad 24), .int (w.1 64 0), .long (w.2.1 0)].set 4 (.int v)))) H) : PA D ca ad (uI w 64 v) H := h
theorem wl0 {D : va_G} {ca : Nat → ClassId} {ad : Nat → Nat} {w : St} {H : Heap} {v : Int64} (h : va_P D vwCl ((WA ca ad w).set 0 (ad 0, .inr (6, [.ref (ad 1), .ref (ad 7), .ref (ad 13), .ref (ad 24), .int (w.1 64 0), .long (w.2.1 0)].set 5 (.long v)))) H) : PA D ca ad (uL w 0 v) H := h
theorem wf65 {D : va_G} {ca : Nat → ClassId} {ad : Nat → Nat} {w : St} {H : Heap} {v : Int32} (h : va_P D vwCl ((WA ca ad w).set 7 (ad 7, .inr (4, [.int (w.1 65 0), .ref (ad 8), .ref (ad 9), .ref (ad 10), .ref (ad 11), .ref (ad 12)].set 0 (.int v)))) H) : PA D ca ad (uI w 65 v) H := h
theorem wf66 {D : va_G} {ca : Nat → ClassId} {ad : Nat → Nat} {w : St} {H : Heap} {v : Int32} (h : va_P D vwCl ((WA ca ad w).set 24 (ad 24, .inr (2, [.int (w.1 66 0), .ref (ad 25), .ref (ad 26), .ref (ad 27), .ref (ad 28), .ref (ad 29), .ref (ad 30), .ref (ad 31), .ref (ad 32)].set 0 (.int v)))) H) : PA D ca ad (uI w 66 v) H := h
theorem wf67 {D : va_G} {ca : Nat → ClassId} {ad : Nat → Nat} {w : St} {H : Heap} {v : Int32} (h : va_P D vwCl ((WA ca ad w).set 33 (ad 33, .inr (7, [.ref (ad 34), .ref (ad 35), .ref (ad 36), .ref (ad 37), .ref (ad 38), .ref (ad 39), .ref (ad 40), .ref (ad 41), .ref (ad 42), .ref (ad 43), .ref (ad 44), .ref (ad 45), .ref (ad 46), .ref (ad 47), .ref (ad 48), .ref (ad 49), .ref (ad 50), .ref (ad 51), .ref (ad 52), .ref (ad 53), .ref (ad 54), .ref (ad 55), .ref (ad 56), .ref (ad 57), .ref (ad 58), .int (w.1 67 0), .int (w.1 68 0), .int (w.1 69 0), .int (w.1 70 0), .long (w.2.1 1)].set 25 (.int v)))) H) : PA D ca ad (uI w 67 v) H := h
theorem wf68 {D : va_G} {ca : Nat → ClassId} {ad : Nat → Nat} {w : St} {H : Heap} {v : Int32} (h : va_P D vwCl ((WA ca ad w).set 33 (ad 33, .inr (7, [.ref (ad 34), .ref (ad 35), .ref (ad 36), .ref (ad 37), .ref (ad 38), .ref (ad 39), .ref (ad 40), .ref (ad 41), .ref (ad 42), .ref (ad 43), .ref (ad 44), .ref (ad 45), .ref (ad 46), .ref (ad 47), .ref (ad 48), .ref (ad 49), .ref (ad 50), .ref (ad 51), .ref (ad 52), .ref (ad 53), .ref (ad 54), .ref (ad 55), .ref (ad 56), .ref (ad 57), .ref (ad 58), .int (w.1 67 0), .int (w.1 68 0), .int (w.1 69 0), .int (w.1 70 0), .long (w.2.1 1)].set 26 (.int v)))) H) : PA D ca ad (uI w 68 v) H := h
theorem wf69 {D : va_G} {ca : Nat → ClassId} {ad : Nat → Nat} {w : St} {H : Heap} {v : Int32} (h : va_P D vwCl ((WA ca ad w).set 33 (ad 33, .inr (7, [.ref (ad 34), .ref (ad 35), .ref (ad 36), .ref (ad 37), .ref (ad 38), .ref (ad 39), .ref (ad 40), .ref (ad 41), .ref (ad 42), .ref (ad 43), .ref (ad 44), .ref (ad 45), .ref (ad 46), .ref (ad 47), .ref (ad 48), .ref (ad 49), .ref (ad 50), .ref (ad 51), .ref (ad 52), .ref (ad 53), .ref (ad 54), .ref (ad 55), .ref (ad 56), .ref (ad 57), .ref (ad 58), .int (w.1 67 0), .int (w.1 68 0), .int (w.1 69 0), .int (w.1 70 0), .long (w.2.1 1)].set 27 (.int v)))) H) : PA D ca ad (uI w 69 v) H := h
theorem wf70 {D : va_G} {ca : Nat → ClassId} {ad : Nat → Nat} {w : St} {H : Heap} {v : Int32} (h : va_P D vwCl ((WA ca ad w).set 33 (ad 33, .inr (7, [.ref (ad 34), .ref (ad 35), .ref (ad 36), .ref (ad 37), .ref (ad 38), .ref (ad 39), .ref (ad 40), .ref (ad 41), .ref (ad 42), .ref (ad 43), .ref (ad 44), .ref (ad 45), .ref (ad 46), .ref (ad 47), .ref (ad 48), .ref (ad 49), .ref (ad 50), .ref (ad 51), .ref (ad 52), .ref (ad 53), .ref (ad 54), .ref (ad 55), .ref (ad 56), .ref (ad 57), .ref (ad 58), .int (w.1 67 0), .int (w.1 68 0), .int (w.1 69 0), .int (w.1 70 0), .long (w.2.1 1)].set 28 (.int v)))) H) : PA D ca ad (uI w 70 v) H := h
theorem wl1 {D : va_G} {ca : Nat → ClassId} {ad : Nat → Nat} {w : St} {H : Heap} {v : Int64} (h : va_P D vwCl ((WA ca ad w).set 33 (ad 33, .inr (7, [.ref (ad 34), .ref (ad 35), .ref (ad 36), .ref (ad 37), .ref (ad 38), .ref (ad 39), .ref (ad 40), .ref (ad 41), .ref (ad 42), .ref (ad 43), .ref (ad 44), .ref (ad 45), .ref (ad 46), .ref (ad 47), .ref (ad 48), .ref (ad 49), .ref (ad 50), .ref (ad 51), .ref (ad 52), .ref (ad 53), .ref (ad 54), .ref (ad 55), .ref (ad 56), .ref (ad 57), .ref (ad 58), .int (w.1 67 0), .int (w.1 68 0), .int (w.1 69 0), .int (w.1 70 0), .long (w.2.1 1)].set 29 (.long v)))) H) : PA D ca ad (uL w 1 v) H := h
/-- the queue's rows, by the lock's number -/
theorem wgq (ca : Nat → ClassId) (ad : Nat → Nat) (w : St) {k : Nat} (h : k < 4) : (WA ca ad w)[20 + k]? = some (ad (20 + k), .inl (ca 0, 6, .inl (w.1 (20 + k)))) := by
  match k, h with
  | 0, _ => rfl
  | 1, _ => rfl
  | 2, _ => rfl
  | 3, _ => rfl
theorem wuq {D : va_G} {ca : Nat → ClassId} {ad : Nat → Nat} {w : St} {H : Heap} {k : Nat} (h4 : k < 4) {f : Nat → Int32} (h : va_P D vwCl ((WA ca ad w).set (20 + k) (ad (20 + k), .inl (ca 0, 6, .inl f))) H) : PA D ca ad (uA w (20 + k) f) H := by
  match k, h4 with
  | 0, _ => exact wu20 h
  | 1, _ => exact wu21 h
  | 2, _ => exact wu22 h
  | 3, _ => exact wu23 h
section VRA2
variable {p : Program} {l : Launch} {e : Env} {R : Room} {s : State} {m : MethodId} {args : Array Value} {below : List Frame} {meth : Method} {c : Code} {H : Heap} {locs : List Loc} {cells slots : Nat} {Q : State → Prop}
variable {cc : ByteArray} {pc : Nat} {ls : Array Slot} {rest : List Value} {D : va_G} {ca : Nat → ClassId} {ad : Nat → Nat} {w : St}
/-- a row of the queue out of its outer array -/
theorem va_ldq4 (hexec : p.tables.exec = Jvm.exec) (hb : c.code = cc) (hK : KA D ca s) (hP : PA D ca ad w H) {i : Int32} (hin : vp_in i 4) (hdg : decode cc pc = .ok (.aaload, 1))
    (kk : W p l e R s m args below meth c H locs cells slots Q (F0 m (pc + 1) ls (.ref (ad (20 + i.toNatClampNeg)) :: rest))) : W p l e R s m args below meth c H locs cells slots Q (F0 m pc ls (.int i :: .ref (ad 19) :: rest)) := by
  have hlt : i.toNatClampNeg < 4 := Nat.not_le.mp fun q => hin (Or.inr q)
  have e1 : va_rf (qr ad i.toNatClampNeg) = .ref (ad (20 + i.toNatClampNeg)) := by simp [qr, hlt, va_rf]
  exact W.aald (v := .ref (ad (20 + i.toNatClampNeg))) (ty := .array .int) hexec hb (hP 19 _ (wg19 ca ad w)) ((hK.2 5 _ rfl).1 4 (fun j => va_rf (qr ad j))) rfl (fun q => by cases q) (by show ¬ (i < 0 ∨ (arrV _ _ _).slots.size ≤ _); rw [arrV_size]; exact hin) (by show (arrV _ _ _).slots[_]? = _; rw [arrV_read _ _ hlt, e1]) rfl rfl hdg kk
end VRA2
/-- a call's premises out of ours -/
theorem pv {D : va_G} {ca : Nat → ClassId} {ad : Nat → Nat} {base : Nat} {w : St} {s : State} {H : Heap} {locs : List Loc} {ci k : Nat} {C : String} {T : u_T} {N : Nat} {fs : List Value} (As : List Value) (hK : KA D ca s) (hP : PA D ca ad w H) (hbs : base ≤ s.heap.size) (hS : va_S (AB base) s.heap H locs) (hc : vwCl[ci]? = some (C, T, N)) (he : (WA ca ad w)[k]? = some (ad k, .inr (ci, fs))) : PreV s H C (ad k) (va_Pc (.ref (ad k) :: As) (BU D ca ad base w)) As :=
  ⟨fun a U g mk q => ⟨q.1, q.2.1, q.2.2.1, va_K.moved (u := U) (U := U.calling g mk a) (Vm.Alike.refl U.vm) q.2.2.2⟩, va_recv hK hP hc he, fun U hU hW => ⟨rfl, by rw [hU]; exact Nat.le_trans hbs hS.1, by rw [hU]; exact hP, va_K.moved hW.alike hK⟩⟩
theorem ps {D : va_G} {ca : Nat → ClassId} {ad : Nat → Nat} {base : Nat} {w : St} {s : State} {H : Heap} {locs : List Loc} (As : List Value) (hK : KA D ca s) (hP : PA D ca ad w H) (hbs : base ≤ s.heap.size) (hS : va_S (AB base) s.heap H locs) : PreS s H (va_Pc As (BU D ca ad base w)) As :=
  ⟨fun a U g mk q => ⟨q.1, q.2.1, q.2.2.1, va_K.moved (u := U) (U := U.calling g mk a) (Vm.Alike.refl U.vm) q.2.2.2⟩, fun U hU hW => ⟨rfl, by rw [hU]; exact Nat.le_trans hbs hS.1, by rw [hU]; exact hP, va_K.moved hW.alike hK⟩⟩
