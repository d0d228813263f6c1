/-! MORE OF THE LAYER, and a tier by its specification's state: tV, tOk; the whole cache: cV -/
section GR2
variable {X : gX} {l : Launch} {R : Room} {K : gT} {nL k n : Nat} {ws : va_W} {lv : List (Nat × Value)} {stk : List Value} {pc : Nat} {cc : ByteArray} {own : String} {Ts : List Cond}
theorem g_topv {v w : Value} (h : v = w) (kk : VG X l R K nL k n ws lv (w :: stk) pc) : VG X l R K nL k n ws lv (v :: stk) pc := by subst h; exact kk
theorem g_astoreN_n (hX : gOK X K nL cc own Ts) {j : Fin 4} {i : Nat} {lv' : List (Nat × Value)} (hd : decode cc pc = .ok (.astore_n j, 1)) (hi : (j : Nat) = i) (hn : i < nL) (hl2 : (i, Value.null) :: lv.filter (fun q => !(q.1 == i) && !(q.1 + 1 == i && q.2.category == 2)) = lv') (kk : VG X l R K nL k n ws lv' stk (pc + 1)) : VG X l R K nL k n ws lv (.null :: stk) pc := by
  obtain ⟨p, e, s, m, args, below, meth, c, A, Q⟩ := X
  obtain ⟨hx, hb, hml, hown, hts0, hK, hA⟩ := hX
  intro H locs ls hP hD hS hl
  exact lv_astore_nN hx hb hd hi hl hn hl2 (fun ls hl => kk H locs ls hP hD hS hl)
theorem g_astoreN (hX : gOK X K nL cc own Ts) {i : Nat} {lv' : List (Nat × Value)} (hd : decode cc pc = .ok (.astore i, 2)) (hn : i < nL) (hl2 : (i, Value.null) :: lv.filter (fun q => !(q.1 == i) && !(q.1 + 1 == i && q.2.category == 2)) = lv') (kk : VG X l R K nL k n ws lv' stk (pc + 2)) : VG X l R K nL k n ws lv (.null :: stk) pc := by
  obtain ⟨p, e, s, m, args, below, meth, c, A, Q⟩ := X
  obtain ⟨hx, hb, hml, hown, hts0, hK, hA⟩ := hX
  intro H locs ls hP hD hS hl
  exact lv_astoreN hx hb hd hl hn hl2 (fun ls hl => kk H locs ls hP hD hS hl)
end GR2
abbrev tZ : Type := Int64 × Int64 × (Nat → Int32) × (Nat → Int32) × (Nat → Int32) × (Nat → Int32)
abbrev tV (K : gT) (h : Nat) (ad : Nat → Nat) (S : TS) (Z : tZ) : va_W := tW K h ad S.1.1 S.1.2.1 S.1.2.2 Z.1 Z.2.1 S.2.2.2.1 S.2.2.2.2.1 S.2.2.2.2.2 S.2.1.1 S.2.1.2.1 S.2.1.2.2.1 S.2.1.2.2.2 Z.2.2.1 Z.2.2.2.1 Z.2.2.2.2.1 Z.2.2.2.2.2
def tOk (S : TS) (Z : tZ) : Prop := bitsR Z.1 S.2.2.1.2 ∧ bitsR Z.2.1 S.2.2.1.1 ∧ rowR Z.2.2.1 S.2.1.1 ∧ rowR Z.2.2.2.1 S.2.1.2.1 ∧ rowR Z.2.2.2.2.1 S.2.1.2.2.1 ∧ rowR Z.2.2.2.2.2 S.2.1.2.2.2
abbrev cV (K : gT) (h hu : Nat) (au : Nat → Nat) (hl : Nat) (al : Nat → Nat) (C : CS) (Zu Zl : tZ) : va_W := (h, .inr (2, [.ref hu, .ref hl, .int C.2.2.1, .int C.2.2.2])) :: (tV K hu au C.1 Zu ++ tV K hl al C.2.1 Zl)
theorem setB_same {D : Nat → Bool} {p : Nat} {v : Bool} (h : D p = v) : setB D p v = D := by
  funext q
  unfold setB
  by_cases e : q = p
  · rw [if_pos e, e, h]
  · rw [if_neg e]
theorem tVic_eq (S : TS) (o : Option Nat) : tVic S o = (vD S.2.2.1.2 o, (S.1, S.2.1, (S.2.2.1.1, vC S.2.2.1.2 o), (S.2.2.2.1, S.2.2.2.2.1, if vD S.2.2.1.2 o = true then S.2.2.2.2.2 + 1 else S.2.2.2.2.2))) := by
  cases o with
  | none => rfl
  | some p =>
    show (if _ then _ else _ : Bool × TS) = (S.2.2.1.2 p, (S.1, S.2.1, (S.2.2.1.1, setB S.2.2.1.2 p false), (S.2.2.2.1, S.2.2.2.2.1, if S.2.2.1.2 p = true then S.2.2.2.2.2 + 1 else S.2.2.2.2.2)))
    cases q : S.2.2.1.2 p with
    | true => rw [if_pos rfl, if_pos rfl]
    | false => rw [if_neg (by decide), if_neg (by decide), setB_same q]
theorem tVic_f {S : TS} {o : Option Nat} (h : (tVic S o).1 = false) : (tVic S o).2 = S := by
  cases o with
  | none => rfl
  | some p =>
    cases q : S.2.2.1.2 p with
    | true =>
      have e : tVic S (some p) = (true, (S.1, S.2.1, (S.2.2.1.1, setB S.2.2.1.2 p false), (S.2.2.2.1, S.2.2.2.2.1, S.2.2.2.2.2 + 1))) := if_pos q
      rw [e] at h
      cases h
    | false =>
      have e : tVic S (some p) = (false, S) := if_neg (by rw [q]; decide)
      rw [e]
theorem tVic_t {S : TS} {o : Option Nat} (h : (tVic S o).1 = true) : ∃ p, o = some p := by
  cases o with
  | none => cases h
  | some p => exact ⟨p, rfl⟩
theorem tDirty_same {S : TS} {p : Nat} {v : Bool} (h : S.2.2.1.2 p = v) : tDirty S p v = S := by
  unfold tDirty
  rw [setB_same h]
theorem tNew_ok (p c : Nat) (f0 f1 f2 f3 : Nat → Int32) : tOk (tNew p c) (0, 0, f0, f1, f2, f3) := ⟨bits_0, bits_0, rowR.nil _, rowR.nil _, rowR.nil _, rowR.nil _⟩
