/-! ROWS, PURE: what a row of pages is (a list), and what the class's arrays say of it -/
/-- the first place of x in a list, the list without it -/
def ix : List Nat → Nat → Nat
  | [], _ => 0
  | a :: t, x => if a = x then 0 else ix t x + 1
def rm : List Nat → Nat → List Nat
  | [], _ => []
  | a :: t, x => if a = x then t else a :: rm t x
def lastD (l : List Nat) : Nat := l.getD (l.length - 1) 0
/-- the first z places of f hold l -/
def rowR (f : Nat → Int32) (l : List Nat) : Prop := l.length ≤ 17 ∧ (∀ p ∈ l, p < 64) ∧ ∀ i, i < l.length → f i = nI (l.getD i 0)
theorem gd_mem {l : List Nat} {i : Nat} (h : i < l.length) : l.getD i 0 ∈ l := by
  rw [List.getD_eq_getElem?_getD, List.getElem?_eq_getElem h]
  exact List.getElem_mem h
theorem gd_cons (a : Nat) (t : List Nat) (i : Nat) : (a :: t).getD i 0 = if i = 0 then a else t.getD (i - 1) 0 := by
  cases i with
  | zero => simp
  | succ i => simp
theorem ix_lt : ∀ {l : List Nat} {x : Nat}, x ∈ l → ix l x < l.length
  | [], x, h => absurd h List.not_mem_nil
  | a :: t, x, h => by
    unfold ix
    by_cases e : a = x
    · rw [if_pos e]; exact Nat.succ_pos _
    · rw [if_neg e]
      have h2 : x ∈ t := by
        rcases List.mem_cons.mp h with q | q
        · exact absurd q.symm e
        · exact q
      have h3 := ix_lt h2
      show ix t x + 1 < t.length + 1
      omega
theorem ix_get : ∀ {l : List Nat} {x : Nat}, x ∈ l → l.getD (ix l x) 0 = x
  | [], x, h => absurd h List.not_mem_nil
  | a :: t, x, h => by
    unfold ix
    by_cases e : a = x
    · rw [if_pos e]; exact e
    · rw [if_neg e]
      have h2 : x ∈ t := by
        rcases List.mem_cons.mp h with q | q
        · exact absurd q.symm e
        · exact q
      have h3 := ix_get h2
      rw [gd_cons, if_neg (by omega)]
      exact h3
theorem ix_min : ∀ {l : List Nat} {x j : Nat}, j < ix l x → l.getD j 0 ≠ x
  | [], x, j, h => by simp [ix] at h
  | a :: t, x, j, h => by
    unfold ix at h
    by_cases e : a = x
    · rw [if_pos e] at h; omega
    · rw [if_neg e] at h
      rw [gd_cons]
      by_cases hj : j = 0
      · rw [if_pos hj]; exact e
      · rw [if_neg hj]; exact ix_min (by omega)
theorem ix_of {l : List Nat} {x i : Nat} (hi : i < l.length) (hx : l.getD i 0 = x) (hj : ∀ j, j < i → l.getD j 0 ≠ x) : x ∈ l ∧ ix l x = i := by
  have hm : x ∈ l := by rw [← hx]; exact gd_mem hi
  refine ⟨hm, ?_⟩
  rcases Nat.lt_trichotomy (ix l x) i with h | h | h
  · exact absurd (ix_get hm) (hj _ h)
  · exact h
  · exact absurd hx (ix_min h)
theorem mem_gd {l : List Nat} {x : Nat} (h : x ∈ l) : ∃ i, i < l.length ∧ l.getD i 0 = x := ⟨ix l x, ix_lt h, ix_get h⟩
theorem nomem_of {l : List Nat} {x : Nat} (h : ∀ j, j < l.length → l.getD j 0 ≠ x) : x ∉ l := fun hm => h _ (ix_lt hm) (ix_get hm)
theorem rm_len : ∀ {l : List Nat} {x : Nat}, x ∈ l → (rm l x).length + 1 = l.length
  | [], x, h => absurd h List.not_mem_nil
  | a :: t, x, h => by
    unfold rm
    by_cases e : a = x
    · rw [if_pos e]; rfl
    · rw [if_neg e]
      have h2 : x ∈ t := by
        rcases List.mem_cons.mp h with q | q
        · exact absurd q.symm e
        · exact q
      have h3 := rm_len h2
      show (rm t x).length + 1 + 1 = t.length + 1
      omega
theorem rm_sub : ∀ {l : List Nat} {x p : Nat}, p ∈ rm l x → p ∈ l
  | [], x, p, h => by simp [rm] at h
  | a :: t, x, p, h => by
    unfold rm at h
    by_cases e : a = x
    · rw [if_pos e] at h; exact List.mem_cons_of_mem _ h
    · rw [if_neg e] at h
      rcases List.mem_cons.mp h with q | q
      · rw [q]; exact List.mem_cons_self
      · exact List.mem_cons_of_mem _ (rm_sub q)
theorem rm_get : ∀ {l : List Nat} {x : Nat}, x ∈ l → ∀ i, (rm l x).getD i 0 = if i < ix l x then l.getD i 0 else l.getD (i + 1) 0
  | [], x, h, i => absurd h List.not_mem_nil
  | a :: t, x, h, i => by
    unfold rm ix
    by_cases e : a = x
    · rw [if_pos e, if_pos e, if_neg (by omega), gd_cons, if_neg (by omega), Nat.add_sub_cancel]
    · rw [if_neg e, if_neg e]
      have h2 : x ∈ t := by
        rcases List.mem_cons.mp h with q | q
        · exact absurd q.symm e
        · exact q
      by_cases hi : i = 0
      · subst hi
        rw [gd_cons, if_pos rfl, if_pos (by omega), gd_cons, if_pos rfl]
      · rw [gd_cons, if_neg hi, rm_get h2 (i - 1)]
        by_cases hl : i - 1 < ix t x
        · rw [if_pos hl, if_pos (by omega), gd_cons, if_neg hi]
        · rw [if_neg hl, if_neg (by omega), gd_cons, if_neg (by omega), show i - 1 + 1 = i + 1 - 1 by omega]
theorem rm_none : ∀ {l : List Nat} {x : Nat}, x ∉ l → rm l x = l
  | [], x, _ => rfl
  | a :: t, x, h => by
    unfold rm
    rw [if_neg (fun e => h (by rw [e]; exact List.mem_cons_self)), rm_none (fun q => h (List.mem_cons_of_mem _ q))]
theorem rm_head (a : Nat) (t : List Nat) : rm (a :: t) a = t := by unfold rm; rw [if_pos rfl]
theorem dl_len (l : List Nat) : l.dropLast.length = l.length - 1 := List.length_dropLast
theorem dl_get (l : List Nat) {i : Nat} (h : i + 1 < l.length) : l.dropLast.getD i 0 = l.getD i 0 := by
  rw [List.getD_eq_getElem?_getD, List.getD_eq_getElem?_getD, List.getElem?_dropLast, if_pos (by omega)]
theorem dl_sub {l : List Nat} {p : Nat} (h : p ∈ l.dropLast) : p ∈ l := by
  obtain ⟨i, hi, e⟩ := mem_gd h
  rw [dl_len] at hi
  rw [← e, dl_get _ (by omega)]
  exact gd_mem (by omega)
theorem last_mem {l : List Nat} (h : 0 < l.length) : lastD l ∈ l := gd_mem (by omega)
theorem ap_get (l : List Nat) (x i : Nat) : (l ++ [x]).getD i 0 = if i < l.length then l.getD i 0 else if i = l.length then x else 0 := by
  rw [List.getD_eq_getElem?_getD, List.getD_eq_getElem?_getD, List.getElem?_append]
  by_cases h : i < l.length
  · rw [if_pos h, if_pos h]
  · rw [if_neg h, if_neg h]
    by_cases h2 : i = l.length
    · rw [if_pos h2, h2, Nat.sub_self]
      rfl
    · rw [if_neg h2, List.getElem?_eq_none (by show 1 ≤ _; omega)]
      rfl
theorem rowR.mem {f : Nat → Int32} {l : List Nat} (h : rowR f l) {i : Nat} (hi : i < l.length) : l.getD i 0 < 64 := h.2.1 _ (gd_mem hi)
theorem rowR.nil (f : Nat → Int32) : rowR f [] := ⟨Nat.zero_le _, fun _ h => absurd h List.not_mem_nil, fun _ h => absurd h (Nat.not_lt_zero _)⟩
theorem rowR.head {f : Nat → Int32} {l : List Nat} (h : rowR f l) {x : Nat} (hx : x < 64) (hl : l.length < 17) : rowR (upd (va_cpy f f 0 1 l.length) 0 (nI x)) (x :: l) := by
  refine ⟨by show l.length + 1 ≤ 17; omega, fun p hp => ?_, fun i hi => ?_⟩
  · rcases List.mem_cons.mp hp with q | q
    · omega
    · exact h.2.1 p q
  · have hi2 : i < l.length + 1 := hi
    rw [gd_cons]
    by_cases hz : i = 0
    · rw [if_pos hz, hz, pk_us]
    · rw [if_neg hz, pk_un hz, pk_cpy_in (by omega) (by omega), Nat.zero_add]
      exact h.2.2 _ (by omega)
theorem rowR.tail {f : Nat → Int32} {l : List Nat} (h : rowR f l) {x : Nat} (hx : x < 64) (hl : l.length < 17) : rowR (upd f l.length (nI x)) (l ++ [x]) := by
  refine ⟨by rw [List.length_append]; show l.length + 1 ≤ 17; omega, fun p hp => ?_, fun i hi => ?_⟩
  · rcases List.mem_append.mp hp with q | q
    · exact h.2.1 p q
    · have := List.mem_singleton.mp q
      omega
  · rw [List.length_append] at hi
    have hi2 : i < l.length + 1 := hi
    rw [ap_get]
    by_cases hz : i = l.length
    · rw [if_neg (by omega), if_pos hz, hz, pk_us]
    · rw [if_pos (by omega), pk_un hz]
      exact h.2.2 _ (by omega)
theorem rowR.drop {f : Nat → Int32} {l : List Nat} (h : rowR f l) : rowR f l.dropLast := by
  refine ⟨by rw [dl_len]; have := h.1; omega, fun p hp => h.2.1 p (dl_sub hp), fun i hi => ?_⟩
  rw [dl_len] at hi
  rw [dl_get _ (by omega)]
  exact h.2.2 _ (by omega)
theorem rowR.rm {f : Nat → Int32} {l : List Nat} (h : rowR f l) {x : Nat} (hx : x ∈ l) : rowR (va_cpy f f (ix l x + 1) (ix l x) (l.length - 1 - ix l x)) (rm l x) := by
  have h1 := rm_len hx
  have h2 := ix_lt hx
  refine ⟨by have := h.1; omega, fun p hp => h.2.1 p (rm_sub hp), fun i hi => ?_⟩
  rw [rm_get hx]
  by_cases hl : i < ix l x
  · rw [if_pos hl, pk_cpy_out (Or.inl hl)]
    exact h.2.2 _ (by omega)
  · rw [if_neg hl, pk_cpy_in (by omega) (by omega), show ix l x + 1 + (i - ix l x) = i + 1 by omega]
    exact h.2.2 _ (by omega)
/-- the answers of PageRow -/
def atI (l : List Nat) (i : Int32) : Int32 := if i < 0 then -1 else if nI l.length ≤ i then -1 else nI (l.getD i.toNatClampNeg 0)
def plI (l : List Nat) (x : Nat) : Int32 := if x ∈ l then nI (ix l x) else -1
theorem plI_in {l : List Nat} {x : Nat} (h : x ∈ l) : plI l x = nI (ix l x) := if_pos h
theorem plI_out {l : List Nat} {x : Nat} (h : x ∉ l) : plI l x = -1 := if_neg h
theorem nI_m1 {n : Nat} (h : n < 2 ^ 31) : nI n ≠ -1 := by
  intro e
  have h1 : (nI n).toInt = (-1 : Int32).toInt := by rw [e]
  rw [nI_toInt h] at h1
  have h2 : (-1 : Int32).toInt = -1 := by decide
  omega
theorem bI_t : bI true = 1 := rfl
theorem bI_f : bI false = 0 := rfl
theorem bI_mem {l : List Nat} {x : Nat} (h : x ∈ l) : bI (decide (x ∈ l)) = 1 := by rw [decide_eq_true h]; rfl
theorem bI_nomem {l : List Nat} {x : Nat} (h : x ∉ l) : bI (decide (x ∈ l)) = 0 := by rw [decide_eq_false h]; rfl
theorem gl_last {l : List Nat} (h : 0 < l.length) : l.getLast? = some (lastD l) := by
  rw [List.getLast?_eq_getElem?]
  unfold lastD
  rw [List.getD_eq_getElem?_getD, List.getElem?_eq_getElem (show l.length - 1 < l.length by omega)]
  rfl
