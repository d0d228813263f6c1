/-! THE SPECIFICATION, PURE: what each policy does to the rows of a tier (lists of pages), as functions -/
def setB (M : Nat → Bool) (p : Nat) (v : Bool) : Nat → Bool := fun q => if q = p then v else M q
/-- RECENT: the victim and row 0 -/
def sRecent (c : Nat) (a : List Nat) (x : Nat) : Option Nat × List Nat :=
  if x ∈ a then (none, x :: rm a x) else if a.length = c then (a.getLast?, x :: a.dropLast) else (none, x :: a)
/-- as long as the head is marked it is unmarked and comes to the tail, n times at most -/
def sSpin : Nat → List Nat → (Nat → Bool) → List Nat × (Nat → Bool)
  | 0, l, M => (l, M)
  | _ + 1, [], M => ([], M)
  | n + 1, a :: t, M => if M a = true then sSpin n (t ++ [a]) (setB M a false) else (a :: t, M)
/-- CLOCK: the victim, row 0 and the marks -/
def sClock (c : Nat) (a : List Nat) (M : Nat → Bool) (x : Nat) : Option Nat × List Nat × (Nat → Bool) :=
  if x ∈ a then (none, a, setB M x true)
  else if a.length = c then ((sSpin a.length a M).1.head?, (sSpin a.length a M).1.tail ++ [x], (sSpin a.length a M).2)
  else (none, a ++ [x], M)
/-- QUEUES: to make room: the victim and rows 0, 1, 2 -/
def sQroom (c : Nat) (a b d : List Nat) : Option Nat × List Nat × List Nat × List Nat :=
  if a.length + d.length < c then (none, a, b, d)
  else if a.length ≤ c / 4 then (d.getLast?, a, b, d.dropLast)
  else (some (lastD a), a.dropLast, (if max 1 (c / 2) < b.length + 1 then (lastD a :: b).dropLast else lastD a :: b), d)
def sQueues (c : Nat) (a b d : List Nat) (x : Nat) : Option Nat × List Nat × List Nat × List Nat :=
  if x ∈ d then (none, a, b, x :: rm d x)
  else if x ∈ a then (none, a, b, d)
  else if x ∈ b then ((sQroom c a (rm b x) d).1, (sQroom c a (rm b x) d).2.1, (sQroom c a (rm b x) d).2.2.1, x :: (sQroom c a (rm b x) d).2.2.2)
  else ((sQroom c a b d).1, x :: (sQroom c a b d).2.1, (sQroom c a b d).2.2.1, (sQroom c a b d).2.2.2)
/-- BALANCED: does the page that is put out come from row 0; the page; the rows behind it -/
def sFirst (g : Nat) (f3 : Bool) (a : List Nat) : Bool := decide (0 < a.length ∧ (g < a.length ∨ (a.length = g ∧ f3 = true)))
def sOut (g : Nat) (f3 : Bool) (a b d e : List Nat) : Nat × List Nat × List Nat × List Nat × List Nat :=
  if sFirst g f3 a = true then (lastD a, a.dropLast, b, lastD a :: d, e) else (lastD b, a, b.dropLast, d, lastD b :: e)
def sStep (other own : Nat) : Nat := max 1 (other / own)
/-- a page that comes back from row 2 (f3 = false) or 3 -/
def sBack (g : Nat) (f3 : Bool) (a b d e : List Nat) (x : Nat) : Nat × List Nat × List Nat × List Nat × List Nat :=
  ((sOut g f3 a b d e).1, (sOut g f3 a b d e).2.1, x :: (sOut g f3 a b d e).2.2.1,
    (if f3 = true then (sOut g f3 a b d e).2.2.2.1 else rm (sOut g f3 a b d e).2.2.2.1 x),
    (if f3 = true then rm (sOut g f3 a b d e).2.2.2.2 x else (sOut g f3 a b d e).2.2.2.2))
/-- room for a page that is in no row: the victim and the rows -/
def sNew (c g : Nat) (a b d e : List Nat) : Option Nat × List Nat × List Nat × List Nat × List Nat :=
  if a.length + d.length = c then
    if a.length = c then (some (lastD a), a.dropLast, b, d, e)
    else (some (sOut g false a b d.dropLast e).1, (sOut g false a b d.dropLast e).2)
  else if a.length + d.length + b.length + e.length < c then (none, a, b, d, e)
  else if a.length + d.length + b.length + e.length = 2 * c then (some (sOut g false a b d e.dropLast).1, (sOut g false a b d e.dropLast).2)
  else (some (sOut g false a b d e).1, (sOut g false a b d e).2)
/-- BALANCED: the victim, the goal, rows 0 to 3 -/
def sBal (c g : Nat) (a b d e : List Nat) (x : Nat) : Option Nat × Nat × List Nat × List Nat × List Nat × List Nat :=
  if x ∈ a then (none, g, rm a x, x :: b, d, e)
  else if x ∈ b then (none, g, a, x :: rm b x, d, e)
  else if x ∈ d then (some (sBack (min c (g + sStep e.length d.length)) false a b d e x).1, min c (g + sStep e.length d.length), (sBack (min c (g + sStep e.length d.length)) false a b d e x).2)
  else if x ∈ e then (some (sBack (g - sStep d.length e.length) true a b d e x).1, g - sStep d.length e.length, (sBack (g - sStep d.length e.length) true a b d e x).2)
  else ((sNew c g a b d e).1, g, x :: (sNew c g a b d e).2.1, (sNew c g a b d e).2.2)
/-! THE TIER: (policy, capacity, goal), rows, (marks, dirty), (hits, misses, dirty victims) -/
abbrev TS : Type := (Nat × Nat × Nat) × (List Nat × List Nat × List Nat × List Nat) × ((Nat → Bool) × (Nat → Bool)) × (Int32 × Int32 × Int32)
def sHolds (pol : Nat) (a b d : List Nat) (x : Nat) : Bool := decide (x ∈ a) || decide (x ∈ (if pol = 2 then d else b))
def tHolds (S : TS) (x : Nat) : Bool := sHolds S.1.1 S.2.1.1 S.2.1.2.1 S.2.1.2.2.1 x
/-- what the policy of a tier does: the victim, the goal, the rows, the marks -/
def sPol (pol c g : Nat) (a b d e : List Nat) (M : Nat → Bool) (x : Nat) : Option Nat × Nat × (List Nat × List Nat × List Nat × List Nat) × (Nat → Bool) :=
  if pol = 0 then ((sRecent c a x).1, g, ((sRecent c a x).2, b, d, e), M)
  else if pol = 1 then ((sClock c a M x).1, g, ((sClock c a M x).2.1, b, d, e), (sClock c a M x).2.2)
  else if pol = 2 then ((sQueues c a b d x).1, g, ((sQueues c a b d x).2.1, (sQueues c a b d x).2.2.1, (sQueues c a b d x).2.2.2, e), M)
  else ((sBal c g a b d e x).1, (sBal c g a b d e x).2.1, (sBal c g a b d e x).2.2, M)
def tPol (S : TS) (x : Nat) : Option Nat × Nat × (List Nat × List Nat × List Nat × List Nat) × (Nat → Bool) := sPol S.1.1 S.1.2.1 S.1.2.2 S.2.1.1 S.2.1.2.1 S.2.1.2.2.1 S.2.1.2.2.2 S.2.2.1.1 x
/-- to touch -/
def tTouch (S : TS) (x : Nat) : Option Nat × TS :=
  ((tPol S x).1, (S.1.1, S.1.2.1, (tPol S x).2.1), (tPol S x).2.2.1, ((tPol S x).2.2.2, S.2.2.1.2), ((if tHolds S x = true then S.2.2.2.1 + 1 else S.2.2.2.1), (if tHolds S x = true then S.2.2.2.2.1 else S.2.2.2.2.1 + 1), S.2.2.2.2.2))
def tDirty (S : TS) (p : Nat) (v : Bool) : TS := (S.1, S.2.1, (S.2.2.1.1, setB S.2.2.1.2 p v), S.2.2.2)
/-- a victim that was dirty: it is not any more, and it is counted -/
def tVic (S : TS) (o : Option Nat) : Bool × TS := match o with
  | none => (false, S)
  | some p => if S.2.2.1.2 p = true then (true, (S.1, S.2.1, (S.2.2.1.1, setB S.2.2.1.2 p false), (S.2.2.2.1, S.2.2.2.2.1, S.2.2.2.2.2 + 1))) else (false, S)
/-- the whole: the two tiers, reads, writes -/
abbrev CS : Type := TS × TS × Int32 × Int32
/-- to ask tier 1: was it a hit; the whole behind it -/
def cAsk (C : CS) (x : Nat) (w : Bool) : Bool × CS :=
  (tHolds C.2.1 x,
    (C.1, (if w = true then tDirty (tVic (tTouch C.2.1 x).2 (tTouch C.2.1 x).1).2 x true else (tVic (tTouch C.2.1 x).2 (tTouch C.2.1 x).1).2),
      (if tHolds C.2.1 x = false ∧ w = false then C.2.2.1 + 1 else C.2.2.1),
      (if (tVic (tTouch C.2.1 x).2 (tTouch C.2.1 x).1).1 = true then C.2.2.2 + 1 else C.2.2.2)))
/-- access, step by step: the touching; the bringing in; the victim; the dirtiness -/
def cAcc1 (C : CS) (x : Nat) : CS := ((tTouch C.1 x).2, C.2)
def cAcc2 (C : CS) (x : Nat) : Int32 × CS := if tHolds C.1 x = true then (0, cAcc1 C x) else ((if (cAsk (cAcc1 C x) x false).1 = true then 1 else 2), (cAsk (cAcc1 C x) x false).2)
def cDown (D : CS) (S : TS) (o : Option Nat) : CS := match o with | none => D | some p => (cAsk (S, D.2) p true).2
def cAcc3 (D : CS) (o : Option Nat) : CS := if (tVic D.1 o).1 = true then cDown D (tVic D.1 o).2 o else D
def cAcc (C : CS) (x : Nat) (w : Bool) : Int32 × CS :=
  ((cAcc2 C x).1, if w = true then (tDirty (cAcc3 (cAcc2 C x).2 (tTouch C.1 x).1).1 x true, (cAcc3 (cAcc2 C x).2 (tTouch C.1 x).1).2) else cAcc3 (cAcc2 C x).2 (tTouch C.1 x).1)
/-- flush: tier 0's pages below n; tier 1's pages below n -/
def cFl0 : Nat → CS → CS
  | 0, C => C
  | n + 1, C => if (cFl0 n C).1.2.2.1.2 n = true then (cAsk (tDirty (cFl0 n C).1 n false, (cFl0 n C).2) n true).2 else cFl0 n C
def cFl1 : Nat → CS → CS
  | 0, C => C
  | n + 1, C => if (cFl1 n C).2.1.2.2.1.2 n = true then ((cFl1 n C).1, tDirty (cFl1 n C).2.1 n false, (cFl1 n C).2.2.1, (cFl1 n C).2.2.2 + 1) else cFl1 n C
def cFlush (C : CS) : Int32 × CS := ((cFl1 64 (cFl0 64 C)).2.2.2 - C.2.2.2, cFl1 64 (cFl0 64 C))
def tNew (pol c : Nat) : TS := ((pol, c, 0), ([], [], [], []), (fun _ => false, fun _ => false), (0, 0, 0))
def okPC (p c : Int32) : Bool := decide (0 ≤ p) && decide (p ≤ 3) && decide (1 ≤ c) && decide (c ≤ 16)
def cBegin (C : CS) (p0 c0 p1 c1 : Int32) : Bool × CS :=
  if okPC p0 c0 = true ∧ okPC p1 c1 = true then (true, (tNew p0.toNatClampNeg c0.toNatClampNeg, tNew p1.toNatClampNeg c1.toNatClampNeg, 0, 0)) else (false, C)
def cNew : CS := (tNew 0 4, tNew 0 8, 0, 0)
def okPg (x : Int32) : Bool := decide (0 ≤ x) && decide (x < 64)
def cAccess (C : CS) (x : Int32) (w : Bool) : Int32 × CS := if okPg x = true then cAcc C x.toNatClampNeg w else (-1, C)
/-- the answers that change nothing -/
def cTier (C : CS) (t : Int32) : Option TS := if t = 0 then some C.1 else if t = 1 then some C.2.1 else none
def cRes (C : CS) (t x : Int32) : Bool := match cTier C t with | none => false | some S => okPg x && tHolds S x.toNatClampNeg
def cDirt (C : CS) (t x : Int32) : Bool := match cTier C t with | none => false | some S => okPg x && S.2.2.1.2 x.toNatClampNeg
def cMark (C : CS) (t x : Int32) : Bool := match cTier C t with | none => false | some S => okPg x && S.2.2.1.1 x.toNatClampNeg
def sRow (a b d e : List Nat) (r i : Int32) : Int32 := if r = 0 then atI a i else if r = 1 then atI b i else if r = 2 then atI d i else if r = 3 then atI e i else -1
def tRow (S : TS) (r i : Int32) : Int32 := sRow S.2.1.1 S.2.1.2.1 S.2.1.2.2.1 S.2.1.2.2.2 r i
def cRow (C : CS) (t r i : Int32) : Int32 := match cTier C t with | none => -1 | some S => tRow S r i
def sGoal (pol g : Nat) : Int32 := if pol = 3 then nI g else -1
def tGoal (S : TS) : Int32 := sGoal S.1.1 S.1.2.2
def cGoal (C : CS) (t : Int32) : Int32 := match cTier C t with | none => -1 | some S => tGoal S
def sCount (hi mi dv k : Int32) : Int32 := if k = 0 then hi else if k = 1 then mi else if k = 2 then dv else -1
def tCount (S : TS) (k : Int32) : Int32 := sCount S.2.2.2.1 S.2.2.2.2.1 S.2.2.2.2.2 k
def cCount (C : CS) (t k : Int32) : Int32 := match cTier C t with | none => -1 | some S => tCount S k
/-! the bits of the class's two longs -/
def btL (p : Nat) : Int64 := (1 : Int64) <<< ((nI p).toInt64 &&& 63)
def bitsR (w : Int64) (D : Nat → Bool) : Prop := ∀ p, p < 64 → w.toBitVec.getLsbD p = D p
theorem btL_bv : ∀ p, p < 64 → (btL p).toBitVec = BitVec.twoPow 64 p := by decide +kernel
theorem bits_and {w : Int64} {D : Nat → Bool} (h : bitsR w D) {p : Nat} (hp : p < 64) : w &&& btL p = 0 ↔ D p = false := by
  rw [← h p hp]
  constructor
  · intro e
    have e2 : (w &&& btL p).toBitVec.getLsbD p = (0 : Int64).toBitVec.getLsbD p := by rw [e]
    rw [Int64.toBitVec_and, btL_bv p hp] at e2
    simpa [hp] using e2
  · intro e
    apply Int64.toBitVec.inj
    rw [Int64.toBitVec_and, btL_bv p hp]
    apply BitVec.eq_of_getLsbD_eq
    intro i hi
    rw [BitVec.getLsbD_and, BitVec.getLsbD_twoPow]
    by_cases hpi : p = i
    · subst hpi
      rw [e]
      simp
    · simp [hpi]
theorem bits_or {w : Int64} {D : Nat → Bool} (h : bitsR w D) {p : Nat} (hp : p < 64) : bitsR (w ||| btL p) (setB D p true) := by
  intro q hq
  rw [Int64.toBitVec_or, btL_bv p hp, BitVec.getLsbD_or, BitVec.getLsbD_twoPow, h q hq]
  unfold setB
  by_cases e : q = p
  · subst e
    simp [hq]
  · rw [if_neg e]
    have e2 : ¬ p = q := fun z => e z.symm
    simp [e2]
theorem bits_clr {w : Int64} {D : Nat → Bool} (h : bitsR w D) {p : Nat} (hp : p < 64) : bitsR (w &&& (btL p ^^^ (-1))) (setB D p false) := by
  intro q hq
  rw [Int64.toBitVec_and, Int64.toBitVec_xor, btL_bv p hp, BitVec.getLsbD_and, BitVec.getLsbD_xor, BitVec.getLsbD_twoPow, h q hq]
  have e1 : ((-1 : Int64).toBitVec).getLsbD q = true := by
    have : (-1 : Int64).toBitVec = BitVec.allOnes 64 := by decide
    rw [this, BitVec.getLsbD_allOnes]
    exact decide_eq_true hq
  rw [e1]
  unfold setB
  by_cases e : q = p
  · subst e
    simp [hq]
  · rw [if_neg e]
    have e2 : ¬ p = q := fun z => e z.symm
    simp [e2]
theorem bits_0 : bitsR 0 (fun _ => false) := by
  intro p hp
  simp
theorem bI_of {w : Int64} {D : Nat → Bool} (h : bitsR w D) {p : Nat} (hp : p < 64) : (if w &&& btL p = 0 then false else true) = D p := by
  by_cases e : w &&& btL p = 0
  · rw [if_pos e, (bits_and h hp).mp e]
  · rw [if_neg e]
    cases hd : D p with
    | true => rfl
    | false => exact absurd ((bits_and h hp).mpr hd) e
/-! what always holds of a tier's rows, by its policy -/
def pBal (c g : Nat) (a b d e : List Nat) : Prop := 1 ≤ c ∧ c ≤ 16 ∧ g ≤ c ∧ a.length + b.length ≤ c ∧ a.length + d.length ≤ c ∧ a.length + b.length + d.length + e.length ≤ 2 * c ∧ (0 < d.length + e.length → a.length + b.length = c)
def pInv (pol c g : Nat) (a b d e : List Nat) : Prop := 1 ≤ c ∧ c ≤ 16 ∧ pol < 4 ∧ g ≤ c ∧ (pol < 2 → a.length ≤ c ∧ b = [] ∧ d = [] ∧ e = []) ∧ (pol = 2 → a.length + d.length ≤ c ∧ b.length ≤ 16 ∧ e = []) ∧ (pol = 3 → pBal c g a b d e)
theorem lgc_eq (x y : Int64) : lg_cmp x y = 0 ↔ x = y := by
  unfold lg_cmp
  by_cases h1 : y < x
  · rw [if_pos h1]
    exact ⟨fun h => absurd h (by decide), fun h => absurd h1 (by rw [h]; exact Int64.lt_irrefl)⟩
  · rw [if_neg h1]
    by_cases h2 : x = y
    · rw [if_pos h2]
      exact ⟨fun _ => h2, fun _ => rfl⟩
    · rw [if_neg h2]
      exact ⟨fun h => absurd h (by decide), fun h => absurd h h2⟩
theorem sw3 {k : Int32} (h0 : k ≠ 0) (h1 : k ≠ 1) (h2 : k ≠ 2) : k.toInt < 0 ∨ 2 < k.toInt := by
  have e0 : k.toInt ≠ 0 := fun h => h0 (Int32.toInt_inj.mp h)
  have e1 : k.toInt ≠ 1 := fun h => h1 (Int32.toInt_inj.mp h)
  have e2 : k.toInt ≠ 2 := fun h => h2 (Int32.toInt_inj.mp h)
  omega
theorem mm_max {a b : Nat} (ha : a < 2 ^ 31) (hb : b < 2 ^ 31) : (if nI a < nI b then nI b else nI a) = nI (max a b) := by
  by_cases h : a < b
  · rw [if_pos ((nI_ltI ha hb).mpr h), Nat.max_eq_right (by omega)]
  · rw [if_neg (fun q => h ((nI_ltI ha hb).mp q)), Nat.max_eq_left (by omega)]
theorem mm_min {a b : Nat} (ha : a < 2 ^ 31) (hb : b < 2 ^ 31) : (if nI b < nI a then nI b else nI a) = nI (min a b) := by
  by_cases h : b < a
  · rw [if_pos ((nI_ltI hb ha).mpr h), Nat.min_eq_right (by omega)]
  · rw [if_neg (fun q => h ((nI_ltI hb ha).mp q)), Nat.min_eq_left (by omega)]
theorem gt_of {p : Prop} [Decidable p] (h : decide p = true) : p := of_decide_eq_true h
theorem gf_of {p : Prop} [Decidable p] (h : decide p = false) : ¬ p := of_decide_eq_false h
theorem rm_le (l : List Nat) (x : Nat) : (rm l x).length ≤ l.length := by
  by_cases h : x ∈ l
  · have := rm_len h
    omega
  · rw [rm_none h]
    exact Nat.le_refl _
theorem pI_m1 {o : Option Nat} (h : ∀ p, o = some p → p < 64) : pI o = -1 ↔ o = none := by
  cases o with
  | none => exact ⟨fun _ => rfl, fun _ => rfl⟩
  | some p => exact ⟨fun e => absurd e (nI_m1 (by have := h p rfl; omega)), fun e => by cases e⟩
