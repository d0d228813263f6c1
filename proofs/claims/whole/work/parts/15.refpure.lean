/-! THE REFERENCE, PURE: what its arrays say of the rows, marks and counts of both tiers -/
def rowsR (le pg : Nat → Int32) (RR : Nat → List Nat) : Prop := ∀ w, w < 8 → le w = nI (RR w).length ∧ (RR w).length ≤ 20 ∧ pB (RR w) ∧ ∀ i, i < (RR w).length → pg (20 * w + i) = nI ((RR w).getD i 0)
theorem rowsR.up {le pg le2 pg2 : Nat → Int32} {RR : Nat → List Nat} (h : rowsR le pg RR) {w : Nat} {l : List Nat} (h1 : le2 w = nI l.length) (h2 : ∀ v, v ≠ w → le2 v = le v) (h3 : l.length ≤ 20) (h4 : pB l) (h5 : ∀ i, i < l.length → pg2 (20 * w + i) = nI (l.getD i 0)) (h6 : ∀ q, (q < 20 * w ∨ 20 * w + 20 ≤ q) → pg2 q = pg q) : rowsR le2 pg2 (va_up RR w l) := by
  intro v hv
  by_cases e : v = w
  · subst e
    rw [va_up_self]
    exact ⟨h1, h3, h4, h5⟩
  · rw [va_up_ne _ _ e]
    obtain ⟨k1, k2, k3, k4⟩ := h v hv
    refine ⟨by rw [h2 v e]; exact k1, k2, k3, fun i hi => ?_⟩
    rw [h6 _ (by omega)]
    exact k4 i hi
/-- the length alone changes: the tail leaves -/
theorem rowsR.cut {le pg : Nat → Int32} {RR : Nat → List Nat} (h : rowsR le pg RR) {w : Nat} (hw : w < 8) : rowsR (upd le w (nI ((RR w).length - 1))) pg (va_up RR w (RR w).dropLast) := by
  obtain ⟨k1, k2, k3, k4⟩ := h w hw
  refine h.up (by rw [pk_us, dl_len]) (fun v e => pk_un e) (by rw [dl_len]; omega) k3.drop (fun i hi => ?_) (fun _ _ => rfl)
  rw [dl_len] at hi
  rw [dl_get _ (by omega)]
  exact k4 i (by omega)
theorem upd_same {f : Nat → Int32} {i : Nat} {x : Int32} (h : f i = x) : upd f i x = f := by
  funext j
  unfold upd
  by_cases e : j = i
  · rw [if_pos e, e, h]
  · rw [if_neg e]
def rr (t : Nat) (a b d e : List Nat) (RO : Nat → List Nat) : Nat → List Nat := fun w => if w = 4 * t then a else if w = 4 * t + 1 then b else if w = 4 * t + 2 then d else if w = 4 * t + 3 then e else RO w
section RRS
variable {t : Nat} {a b d e : List Nat} {RO : Nat → List Nat}
theorem rr_0 : rr t a b d e RO (4 * t) = a := if_pos rfl
theorem rr_1 : rr t a b d e RO (4 * t + 1) = b := by unfold rr; rw [if_neg (by omega), if_pos rfl]
theorem rr_2 : rr t a b d e RO (4 * t + 2) = d := by unfold rr; rw [if_neg (by omega), if_neg (by omega), if_pos rfl]
theorem rr_3 : rr t a b d e RO (4 * t + 3) = e := by unfold rr; rw [if_neg (by omega), if_neg (by omega), if_neg (by omega), if_pos rfl]
theorem rr_u0 (l : List Nat) : va_up (rr t a b d e RO) (4 * t) l = rr t l b d e RO := by
  funext w
  unfold va_up rr
  by_cases h : w = 4 * t
  · rw [if_pos h, if_pos h]
  · rw [if_neg h, if_neg h, if_neg h]
theorem rr_u1 (l : List Nat) : va_up (rr t a b d e RO) (4 * t + 1) l = rr t a l d e RO := by
  funext w
  unfold va_up rr
  by_cases h : w = 4 * t + 1
  · rw [if_pos h, if_neg (by omega), if_pos h]
  · rw [if_neg h, if_neg h, if_neg h]
theorem rr_u2 (l : List Nat) : va_up (rr t a b d e RO) (4 * t + 2) l = rr t a b l e RO := by
  funext w
  unfold va_up rr
  by_cases h : w = 4 * t + 2
  · rw [if_pos h, if_neg (by omega), if_neg (by omega), if_pos h]
  · rw [if_neg h, if_neg h, if_neg h]
theorem rr_u3 (l : List Nat) : va_up (rr t a b d e RO) (4 * t + 3) l = rr t a b d l RO := by
  funext w
  unfold va_up rr
  by_cases h : w = 4 * t + 3
  · rw [if_pos h, if_neg (by omega), if_neg (by omega), if_neg (by omega), if_pos h]
  · rw [if_neg h, if_neg h, if_neg h]
theorem rr_l0 {le pg : Nat → Int32} (h : rowsR le pg (rr t a b d e RO)) (ht : t < 2) : le (4 * t) = nI a.length ∧ a.length ≤ 20 ∧ pB a ∧ ∀ i, i < a.length → pg (20 * (4 * t) + i) = nI (a.getD i 0) := by
  have k := h (4 * t) (by omega)
  rw [rr_0] at k
  exact k
theorem rr_l1 {le pg : Nat → Int32} (h : rowsR le pg (rr t a b d e RO)) (ht : t < 2) : le (4 * t + 1) = nI b.length ∧ b.length ≤ 20 ∧ pB b ∧ ∀ i, i < b.length → pg (20 * (4 * t + 1) + i) = nI (b.getD i 0) := by
  have k := h (4 * t + 1) (by omega)
  rw [rr_1] at k
  exact k
theorem rr_l2 {le pg : Nat → Int32} (h : rowsR le pg (rr t a b d e RO)) (ht : t < 2) : le (4 * t + 2) = nI d.length ∧ d.length ≤ 20 ∧ pB d ∧ ∀ i, i < d.length → pg (20 * (4 * t + 2) + i) = nI (d.getD i 0) := by
  have k := h (4 * t + 2) (by omega)
  rw [rr_2] at k
  exact k
theorem rr_l3 {le pg : Nat → Int32} (h : rowsR le pg (rr t a b d e RO)) (ht : t < 2) : le (4 * t + 3) = nI e.length ∧ e.length ≤ 20 ∧ pB e ∧ ∀ i, i < e.length → pg (20 * (4 * t + 3) + i) = nI (e.getD i 0) := by
  have k := h (4 * t + 3) (by omega)
  rw [rr_3] at k
  exact k
end RRS
/-- booleans of both tiers -/
def zR (z : Nat → Int32) (MM : Nat → Nat → Bool) : Prop := ∀ t, t < 2 → ∀ p, p < 64 → z (64 * t + p) = bI (MM t p)
theorem zR.set {z : Nat → Int32} {MM : Nat → Nat → Bool} (h : zR z MM) {t p : Nat} (ht : t < 2) (hp : p < 64) (v : Bool) : zR (upd z (64 * t + p) (bI v)) (va_up MM t (setB (MM t) p v)) := by
  intro s hs q hq
  by_cases e : s = t
  · subst e
    rw [va_up_self]
    unfold setB
    by_cases e2 : q = p
    · rw [if_pos e2, e2, pk_us]
    · rw [if_neg e2, pk_un (by omega)]
      exact h s hs q hq
  · rw [va_up_ne _ _ e, pk_un (by omega)]
    exact h s hs q hq
theorem zR.at {z : Nat → Int32} {MM : Nat → Nat → Bool} (h : zR z MM) {t p : Nat} (ht : t < 2) (hp : p < 64) : z (64 * t + p) = bI (MM t p) := h t ht p hp
theorem va_up_2 {α : Type} (f : Nat → α) (k : Nat) (v w : α) : va_up (va_up f k v) k w = va_up f k w := by
  funext j
  unfold va_up
  by_cases h : j = k
  · rw [if_pos h, if_pos h]
  · rw [if_neg h, if_neg h, if_neg h]
theorem va_up_id {α : Type} (f : Nat → α) (k : Nat) : va_up f k (f k) = f := by
  funext j
  unfold va_up
  by_cases h : j = k
  · rw [if_pos h, h]
  · rw [if_neg h]
/-- the rows, marks .. of two tiers -/
def rowOf (S : TS) (r : Nat) : List Nat := if r = 0 then S.2.1.1 else if r = 1 then S.2.1.2.1 else if r = 2 then S.2.1.2.2.1 else S.2.1.2.2.2
def rowsF (SS : Nat → TS) : Nat → List Nat := fun w => rowOf (SS (w / 4)) (w % 4)
theorem rowsF_rr (SS : Nat → TS) (t : Nat) : rowsF SS = rr t (SS t).2.1.1 (SS t).2.1.2.1 (SS t).2.1.2.2.1 (SS t).2.1.2.2.2 (rowsF SS) := by
  funext w
  unfold rr
  by_cases h0 : w = 4 * t
  · rw [if_pos h0]
    unfold rowsF rowOf
    rw [show w / 4 = t by omega, show w % 4 = 0 by omega, if_pos rfl]
  · rw [if_neg h0]
    by_cases h1 : w = 4 * t + 1
    · rw [if_pos h1]
      unfold rowsF rowOf
      rw [show w / 4 = t by omega, show w % 4 = 1 by omega, if_neg (by omega), if_pos rfl]
    · rw [if_neg h1]
      by_cases h2 : w = 4 * t + 2
      · rw [if_pos h2]
        unfold rowsF rowOf
        rw [show w / 4 = t by omega, show w % 4 = 2 by omega, if_neg (by omega), if_neg (by omega), if_pos rfl]
      · rw [if_neg h2]
        by_cases h3 : w = 4 * t + 3
        · rw [if_pos h3]
          unfold rowsF rowOf
          rw [show w / 4 = t by omega, show w % 4 = 3 by omega, if_neg (by omega), if_neg (by omega), if_neg (by omega)]
        · rw [if_neg h3]
theorem rowsF_up (SS : Nat → TS) (t : Nat) (S : TS) : rowsF (va_up SS t S) = rr t S.2.1.1 S.2.1.2.1 S.2.1.2.2.1 S.2.1.2.2.2 (rowsF SS) := by
  rw [rowsF_rr (va_up SS t S) t, va_up_self]
  funext w
  unfold rr
  by_cases h0 : w = 4 * t
  · rw [if_pos h0, if_pos h0]
  · rw [if_neg h0, if_neg h0]
    by_cases h1 : w = 4 * t + 1
    · rw [if_pos h1, if_pos h1]
    · rw [if_neg h1, if_neg h1]
      by_cases h2 : w = 4 * t + 2
      · rw [if_pos h2, if_pos h2]
      · rw [if_neg h2, if_neg h2]
        by_cases h3 : w = 4 * t + 3
        · rw [if_pos h3, if_pos h3]
        · rw [if_neg h3, if_neg h3]
          unfold rowsF
          rw [va_up_ne _ _ (by omega)]
def mR (SS : Nat → TS) (po ca go le pg mk we co : Nat → Int32) : Prop := (∀ t, t < 2 → po t = nI (SS t).1.1) ∧ (∀ t, t < 2 → ca t = nI (SS t).1.2.1) ∧ (∀ t, t < 2 → go t = nI (SS t).1.2.2) ∧ rowsR le pg (rowsF SS) ∧ zR mk (fun t => (SS t).2.2.1.1) ∧ zR we (fun t => (SS t).2.2.1.2) ∧ (∀ t, t < 2 → co (3 * t) = (SS t).2.2.2.1 ∧ co (3 * t + 1) = (SS t).2.2.2.2.1 ∧ co (3 * t + 2) = (SS t).2.2.2.2.2)
def sF (U L : TS) : Nat → TS := fun t => if t = 0 then U else if t = 1 then L else tNew 0 1
theorem sF_0 (U L : TS) : sF U L 0 = U := rfl
theorem sF_1 (U L : TS) : sF U L 1 = L := rfl
theorem sF_u0 (U L S : TS) : va_up (sF U L) 0 S = sF S L := by
  funext t
  unfold va_up sF
  by_cases h : t = 0
  · rw [if_pos h, if_pos h]
  · rw [if_neg h, if_neg h, if_neg h]
theorem sF_u1 (U L S : TS) : va_up (sF U L) 1 S = sF U S := by
  funext t
  unfold va_up sF
  by_cases h : t = 1
  · rw [if_pos h, if_neg (by omega), if_pos h]
  · rw [if_neg h, if_neg h, if_neg h]
theorem two_of {t : Nat} (h : t < 2) : t = 0 ∨ t = 1 := by omega
theorem up_eq {SS : Nat → TS} {t : Nat} {S : TS} {α : Type} (f : TS → α) {g : Nat → α} (h : ∀ s, s < 2 → g s = f (SS s)) {g2 : Nat → α} (h1 : g2 t = f S) (h2 : ∀ s, s ≠ t → g2 s = g s) : ∀ s, s < 2 → g2 s = f (va_up SS t S s) := by
  intro s hs
  by_cases e : s = t
  · subst e
    rw [va_up_self]
    exact h1
  · rw [va_up_ne _ _ e, h2 s e]
    exact h s hs
theorem zR_up {z : Nat → Int32} {SS : Nat → TS} {t : Nat} {S : TS} (f : TS → Nat → Bool) (h : zR z (va_up (fun s => f (SS s)) t (f S))) : zR z (fun s => f (va_up SS t S s)) := by
  intro s hs p hp
  rw [h s hs p hp]
  by_cases e : s = t
  · subst e
    show bI (va_up _ s (f S) s p) = bI (f (va_up SS s S s) p)
    rw [va_up_self, va_up_self]
  · show bI (va_up _ t (f S) s p) = bI (f (va_up SS t S s) p)
    rw [va_up_ne _ _ e, va_up_ne _ _ e]
