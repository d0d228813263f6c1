/-! THE REFERENCE, PURE: one tier's state changes -/
theorem mR_set {SS : Nat → TS} {t : Nat} {S : TS} {po ca go le pg mk we co go2 le2 pg2 mk2 we2 co2 : Nat → Int32} (h : mR SS po ca go le pg mk we co) (ht : t < 2) (hpol : S.1.1 = (SS t).1.1) (hcap : S.1.2.1 = (SS t).1.2.1) (hg : go2 t = nI S.1.2.2) (hg2 : ∀ s, s ≠ t → go2 s = go s) (hrow : rowsR le2 pg2 (rr t S.2.1.1 S.2.1.2.1 S.2.1.2.2.1 S.2.1.2.2.2 (rowsF SS))) (hmk : zR mk2 (va_up (fun s => (SS s).2.2.1.1) t S.2.2.1.1)) (hwe : zR we2 (va_up (fun s => (SS s).2.2.1.2) t S.2.2.1.2)) (hc : co2 (3 * t) = S.2.2.2.1 ∧ co2 (3 * t + 1) = S.2.2.2.2.1 ∧ co2 (3 * t + 2) = S.2.2.2.2.2) (hc2 : ∀ q, (q < 3 * t ∨ 3 * t + 3 ≤ q) → co2 q = co q) : mR (va_up SS t S) po ca go2 le2 pg2 mk2 we2 co2 := by
  obtain ⟨h1, h2, h3, h4, h5, h6, h7⟩ := h
  refine ⟨?_, ?_, ?_, ?_, ?_, ?_, ?_⟩
  · exact up_eq (fun S => nI S.1.1) h1 (by rw [h1 t ht, hpol]) (fun _ _ => rfl)
  · exact up_eq (fun S => nI S.1.2.1) h2 (by rw [h2 t ht, hcap]) (fun _ _ => rfl)
  · exact up_eq (fun S => nI S.1.2.2) h3 hg hg2
  · rw [rowsF_up]; exact hrow
  · exact zR_up (fun S => S.2.2.1.1) hmk
  · exact zR_up (fun S => S.2.2.1.2) hwe
  · intro s hs
    by_cases e : s = t
    · subst e
      rw [va_up_self]
      exact hc
    · rw [va_up_ne _ _ e, hc2 _ (by omega), hc2 _ (by omega), hc2 _ (by omega)]
      exact h7 s hs
theorem mR.row {SS : Nat → TS} {t : Nat} {S : TS} {po ca go le pg mk we co : Nat → Int32} (h : mR SS po ca go le pg mk we co) (hS : S = SS t) : rowsR le pg (rr t S.2.1.1 S.2.1.2.1 S.2.1.2.2.1 S.2.1.2.2.2 (rowsF SS)) := by
  have k := h.2.2.2.1
  rw [rowsF_rr SS t, ← hS] at k
  exact k
theorem mR.mk {SS : Nat → TS} {t : Nat} {S : TS} {po ca go le pg mk we co : Nat → Int32} (h : mR SS po ca go le pg mk we co) (hS : S = SS t) : zR mk (va_up (fun s => (SS s).2.2.1.1) t S.2.2.1.1) := by
  rw [hS, va_up_id (fun s => (SS s).2.2.1.1) t]
  exact h.2.2.2.2.1
theorem mR.we {SS : Nat → TS} {t : Nat} {S : TS} {po ca go le pg mk we co : Nat → Int32} (h : mR SS po ca go le pg mk we co) (hS : S = SS t) : zR we (va_up (fun s => (SS s).2.2.1.2) t S.2.2.1.2) := by
  rw [hS, va_up_id (fun s => (SS s).2.2.1.2) t]
  exact h.2.2.2.2.2.1
theorem mem_nil_f (x : Nat) : decide (x ∈ ([] : List Nat)) = false := decide_eq_false List.not_mem_nil
theorem okPC_nI {j k : Nat} (hj : j < 4) (hk1 : 1 ≤ k) (hk2 : k ≤ 16) : okPC (nI j) (nI k) = true := by
  unfold okPC
  rw [Bool.and_eq_true, Bool.and_eq_true, Bool.and_eq_true]
  exact ⟨⟨⟨decide_eq_true (nI_pos' (by omega)), decide_eq_true (nI_le (b := 3) (by omega) (by decide))⟩, decide_eq_true (nI_le (a := 1) hk1 (by omega))⟩, decide_eq_true (nI_le (b := 16) hk2 (by decide))⟩
theorem nI_ex {x : Int32} {n : Nat} (hn : n < 2 ^ 31) (h0 : ¬ x < 0) (h1 : ¬ nI n ≤ x) : ∃ j, j < n ∧ x = nI j := by
  rcases pk_ix x (n := n) hn with h | h | h
  · exact absurd h h0
  · exact absurd h h1
  · exact h
theorem nI_ex1 {x : Int32} {n : Nat} (hn : n < 2 ^ 31) (h0 : ¬ x ≤ 0) (h1 : ¬ nI n ≤ x) : ∃ j, 1 ≤ j ∧ j < n ∧ x = nI j := by
  have h2 : ¬ x < 0 := fun q => h0 (by rw [Int32.lt_iff_toInt_lt] at q; rw [Int32.le_iff_toInt_le]; omega)
  obtain ⟨j, hj, rfl⟩ := nI_ex hn h2 h1
  refine ⟨j, ?_, hj, rfl⟩
  rcases Nat.eq_zero_or_pos j with z | z
  · subst z
    exact absurd (by decide) h0
  · exact z
theorem mR_new {p0 c0 p1 c1 : Nat} {po ca go le pg mk we co : Nat → Int32} (h1 : po 0 = nI p0 ∧ po 1 = nI p1) (h2 : ca 0 = nI c0 ∧ ca 1 = nI c1) (h3 : go 0 = nI 0 ∧ go 1 = nI 0) (h4 : ∀ w, w < 8 → le w = nI 0) (h5 : ∀ q, q < 128 → mk q = nI 0) (h6 : ∀ q, q < 128 → we q = nI 0) (h7 : ∀ q, q < 6 → co q = nI 0) : mR (sF (tNew p0 c0) (tNew p1 c1)) po ca go le pg mk we co := by
  refine ⟨?_, ?_, ?_, ?_, ?_, ?_, ?_⟩
  · intro t ht
    rcases two_of ht with rfl | rfl
    · exact h1.1
    · exact h1.2
  · intro t ht
    rcases two_of ht with rfl | rfl
    · exact h2.1
    · exact h2.2
  · intro t ht
    rcases two_of ht with rfl | rfl
    · exact h3.1
    · exact h3.2
  · intro w hw
    have e : rowsF (sF (tNew p0 c0) (tNew p1 c1)) w = [] := by
      unfold rowsF rowOf
      rcases two_of (show w / 4 < 2 by omega) with k | k
      · rw [k, sF_0]
        show (if _ then ([] : List Nat) else if _ then ([] : List Nat) else if _ then ([] : List Nat) else ([] : List Nat)) = []
        rw [ite_self, ite_self, ite_self]
      · rw [k, sF_1]
        show (if _ then ([] : List Nat) else if _ then ([] : List Nat) else if _ then ([] : List Nat) else ([] : List Nat)) = []
        rw [ite_self, ite_self, ite_self]
    rw [e]
    exact ⟨h4 w hw, Nat.zero_le _, pB.nil, fun i hi => absurd hi (Nat.not_lt_zero _)⟩
  · intro t ht p hp
    rcases two_of ht with rfl | rfl
    · exact h5 _ (by omega)
    · exact h5 _ (by omega)
  · intro t ht p hp
    rcases two_of ht with rfl | rfl
    · exact h6 _ (by omega)
    · exact h6 _ (by omega)
  · intro t ht
    rcases two_of ht with rfl | rfl
    · exact ⟨h7 0 (by omega), h7 1 (by omega), h7 2 (by omega)⟩
    · exact ⟨h7 3 (by omega), h7 4 (by omega), h7 5 (by omega)⟩
