/-! THE LAYER. gX: all that stays fixed in a walk; gT: the tables' numbers; VG: 'from every heap that holds ws the machine at pc comes to its end'. -/
abbrev gX : Type := Program × Env × State × MethodId × Array Value × List Frame × Method × Code × (Nat → Prop) × (State → Prop)
abbrev gT : Type := va_G × ClassId × ClassId × ClassId
def gTy (K : gT) : List (ClassId × FieldType) := [(K.2.1, .int), (K.2.2.1, .boolean), (K.2.2.2, .object RX0)]
def gK (K : gT) (U : State) : Prop := va_K K.1 vwCl (gTy K) U ∧ va_AO RX0 U ∧ va_Nw (.methodLinkNest RX1 17 yX0_init "TwoTierCache") U
theorem gK.warm {K : gT} {u U : State} (hW : u.WarmedH U.vm) (h : gK K u) : gK K U := ⟨va_K.moved hW.alike h.1, va_AO.moved hW.alike h.2.1, va_Nw.warmM hW h.2.2⟩
theorem gK.same {K : gT} {u U : State} (hvm : u.vm = U.vm) (h : gK K u) : gK K U := ⟨va_K.moved (by rw [hvm]; exact Vm.Alike.refl _) h.1, va_AO.moved (by rw [hvm]; exact Vm.Alike.refl _) h.2.1, va_Nw.same rfl hvm h.2.2⟩
def VG (X : gX) (l : Launch) (R : Room) (K : gT) (nL : Nat) (k n : Nat) (ws : va_W) (lv : List (Nat × Value)) (stk : List Value) (pc : Nat) : Prop := match X with
  | (p, e, s, m, args, below, meth, c, A, Q) => ∀ (H : Heap) (locs : List Loc) (ls : Array Slot), va_P K.1 vwCl ws H → va_D A ws → va_S A s.heap H locs → lv_has ls nL lv → W p l e R s m args below meth c H locs k n Q (F0 m pc ls stk)
def gOK (X : gX) (K : gT) (nL : Nat) (cc : ByteArray) (own : String) (Ts : List Cond) : Prop := match X with
  | (p, e, s, m, args, below, meth, c, A, Q) => p.tables.exec = Jvm.exec ∧ c.code = cc ∧ c.maxLocals = nL ∧ s.vm.findClass own = some m.cls ∧ (∀ w ∈ Ts, ∃ a, a = args ∧ w.before a s = true) ∧ gK K s ∧ (∀ q : Nat, s.heap.size ≤ q → A q)
def gIn (X : gX) : Prop := match X with | (p, e, s, m, args, below, meth, c, A, Q) => meth.name = "<init>"
def gPre (K : gT) (As : List Value) (ws0 : va_W) (sz : Nat) : Array Value → State → Prop := va_Pc As (fun U => U.heap.size = sz ∧ va_P K.1 vwCl ws0 U.heap ∧ gK K U ∧ va_D (fun _ => True) ws0)
theorem gPre.blind (K : gT) (As : List Value) (ws0 : va_W) (sz : Nat) : FrameBlind (gPre K As ws0 sz) := fun a U g mk q => by
  obtain ⟨q0, q1, qP, qK, qD⟩ := q
  exact ⟨q0, q1, qP, gK.same (u := U) (U := U.calling g mk a) rfl qK, qD⟩
def gB {S : Type} (K : gT) (ws0 : va_W) (sz : Nat) (Wd : S → va_W) : S → State → Prop := fun u t => va_P K.1 vwCl (Wd u) t.heap ∧ gK K t ∧ va_D (va_A ws0 sz) (Wd u)
/-- contracts: a method that returns an int, a boolean ..; post: what is known of the answer and of the new state u; Wd u: the cells behind it -/
def Ci {S : Type} (l : Launch) (y : MethodName) (wsl : List Cond) (rm : Room) (K : gT) (As : List Value) (ws0 : va_W) (post : Int32 → S → Prop) (Wd : S → va_W) (mc ms : Nat) : Prop := ∀ sz : Nat, Met l y wsl rm (gPre K As ws0 sz) (va_Qi post (gB K ws0 sz Wd) (va_A ws0 sz)) mc ms (va_A ws0 sz)
def Cl {S : Type} (l : Launch) (y : MethodName) (wsl : List Cond) (rm : Room) (K : gT) (As : List Value) (ws0 : va_W) (post : Int64 → S → Prop) (Wd : S → va_W) (mc ms : Nat) : Prop := ∀ sz : Nat, Met l y wsl rm (gPre K As ws0 sz) (va_Ql post (gB K ws0 sz Wd) (va_A ws0 sz)) mc ms (va_A ws0 sz)
def Cv {S : Type} (l : Launch) (y : MethodName) (wsl : List Cond) (rm : Room) (K : gT) (As : List Value) (ws0 : va_W) (post : S → Prop) (Wd : S → va_W) (mc ms : Nat) : Prop := ∀ sz : Nat, Met l y wsl rm (gPre K As ws0 sz) (va_Qv post (gB K ws0 sz Wd) (va_A ws0 sz)) mc ms (va_A ws0 sz)
def Cq {S : Type} (l : Launch) (y : MethodName) (wsl : List Cond) (rm : Room) (K : gT) (As : List Value) (ws0 : va_W) (post : Option Nat → S → Prop) (Wd : S → va_W) (mc ms : Nat) : Prop := ∀ sz : Nat, Met l y wsl rm (gPre K As ws0 sz) (va_Qq post (gB K ws0 sz Wd) (va_A ws0 sz)) mc ms (va_A ws0 sz)
def bI (b : Bool) : Int32 := if b = true then 1 else 0
def pI (o : Option Nat) : Int32 := match o with | none => -1 | some p => nI p
section GR
variable {X : gX} {l : Launch} {R : Room} {K : gT} {nL k n : Nat} {ws : va_W} {lv : List (Nat × Value)} {stk : List Value} {pc : Nat} {cc : ByteArray} {own : String} {Ts : List Cond}

theorem g_iload_n (hX : gOK X K nL cc own Ts) {j : Fin 4} {i : Nat} {x : Int32} (hd : decode cc pc = .ok (.iload_n j, 1)) (hi : (j : Nat) = i) (z : Nat) (hk : lv[z]? = some (i, .int x)) (kk : VG X l R K nL k n ws lv (.int x :: stk) (pc + 1)) : VG X l R K nL k n ws lv stk pc := by
  obtain ⟨p, e, s, m, args, below, meth, c, A, Q⟩ := X
  obtain ⟨hx, hb, hml, hown, hts0, hK, hA⟩ := hX
  have hts : ∀ w ∈ Ts, w.before args s = true := fun w hw => by
    obtain ⟨a, ha, h⟩ := hts0 w hw
    rw [ha] at h
    exact h
  intro H locs ls hP hD hS hl
  exact lv_iload_n hx hb hd hi (lv_at hl z hk) (kk H locs ls hP hD hS hl)
theorem g_iload (hX : gOK X K nL cc own Ts) {i : Nat} {x : Int32} (hd : decode cc pc = .ok (.iload i, 2)) (z : Nat) (hk : lv[z]? = some (i, .int x)) (kk : VG X l R K nL k n ws lv (.int x :: stk) (pc + 2)) : VG X l R K nL k n ws lv stk pc := by
  obtain ⟨p, e, s, m, args, below, meth, c, A, Q⟩ := X
  obtain ⟨hx, hb, hml, hown, hts0, hK, hA⟩ := hX
  have hts : ∀ w ∈ Ts, w.before args s = true := fun w hw => by
    obtain ⟨a, ha, h⟩ := hts0 w hw
    rw [ha] at h
    exact h
  intro H locs ls hP hD hS hl
  exact lv_iload hx hb hd (lv_at hl z hk) (kk H locs ls hP hD hS hl)
theorem g_lload_n (hX : gOK X K nL cc own Ts) {j : Fin 4} {i : Nat} {x : Int64} (hd : decode cc pc = .ok (.lload_n j, 1)) (hi : (j : Nat) = i) (z : Nat) (hk : lv[z]? = some (i, .long x)) (kk : VG X l R K nL k n ws lv (.long x :: stk) (pc + 1)) : VG X l R K nL k n ws lv stk pc := by
  obtain ⟨p, e, s, m, args, below, meth, c, A, Q⟩ := X
  obtain ⟨hx, hb, hml, hown, hts0, hK, hA⟩ := hX
  have hts : ∀ w ∈ Ts, w.before args s = true := fun w hw => by
    obtain ⟨a, ha, h⟩ := hts0 w hw
    rw [ha] at h
    exact h
  intro H locs ls hP hD hS hl
  exact lv_lload_n hx hb hd hi (lv_at hl z hk) (kk H locs ls hP hD hS hl)
theorem g_aload_n (hX : gOK X K nL cc own Ts) {j : Fin 4} {i : Nat} {x : Nat} (hd : decode cc pc = .ok (.aload_n j, 1)) (hi : (j : Nat) = i) (z : Nat) (hk : lv[z]? = some (i, .ref x)) (kk : VG X l R K nL k n ws lv (.ref x :: stk) (pc + 1)) : VG X l R K nL k n ws lv stk pc := by
  obtain ⟨p, e, s, m, args, below, meth, c, A, Q⟩ := X
  obtain ⟨hx, hb, hml, hown, hts0, hK, hA⟩ := hX
  have hts : ∀ w ∈ Ts, w.before args s = true := fun w hw => by
    obtain ⟨a, ha, h⟩ := hts0 w hw
    rw [ha] at h
    exact h
  intro H locs ls hP hD hS hl
  exact lv_aload_n hx hb hd hi (lv_at hl z hk) (kk H locs ls hP hD hS hl)
theorem g_aload (hX : gOK X K nL cc own Ts) {i : Nat} {x : Nat} (hd : decode cc pc = .ok (.aload i, 2)) (z : Nat) (hk : lv[z]? = some (i, .ref x)) (kk : VG X l R K nL k n ws lv (.ref x :: stk) (pc + 2)) : VG X l R K nL k n ws lv stk pc := by
  obtain ⟨p, e, s, m, args, below, meth, c, A, Q⟩ := X
  obtain ⟨hx, hb, hml, hown, hts0, hK, hA⟩ := hX
  have hts : ∀ w ∈ Ts, w.before args s = true := fun w hw => by
    obtain ⟨a, ha, h⟩ := hts0 w hw
    rw [ha] at h
    exact h
  intro H locs ls hP hD hS hl
  exact lv_aload hx hb hd (lv_at hl z hk) (kk H locs ls hP hD hS hl)
theorem g_aloadN_n (hX : gOK X K nL cc own Ts) {j : Fin 4} {i : Nat} (hd : decode cc pc = .ok (.aload_n j, 1)) (hi : (j : Nat) = i) (z : Nat) (hk : lv[z]? = some (i, .null)) (kk : VG X l R K nL k n ws lv (.null :: stk) (pc + 1)) : VG X l R K nL k n ws lv stk pc := by
  obtain ⟨p, e, s, m, args, below, meth, c, A, Q⟩ := X
  obtain ⟨hx, hb, hml, hown, hts0, hK, hA⟩ := hX
  have hts : ∀ w ∈ Ts, w.before args s = true := fun w hw => by
    obtain ⟨a, ha, h⟩ := hts0 w hw
    rw [ha] at h
    exact h
  intro H locs ls hP hD hS hl
  exact lv_aload_nN hx hb hd hi (lv_at hl z hk) (kk H locs ls hP hD hS hl)
theorem g_aloadN (hX : gOK X K nL cc own Ts) {i : Nat} (hd : decode cc pc = .ok (.aload i, 2)) (z : Nat) (hk : lv[z]? = some (i, .null)) (kk : VG X l R K nL k n ws lv (.null :: stk) (pc + 2)) : VG X l R K nL k n ws lv stk pc := by
  obtain ⟨p, e, s, m, args, below, meth, c, A, Q⟩ := X
  obtain ⟨hx, hb, hml, hown, hts0, hK, hA⟩ := hX
  have hts : ∀ w ∈ Ts, w.before args s = true := fun w hw => by
    obtain ⟨a, ha, h⟩ := hts0 w hw
    rw [ha] at h
    exact h
  intro H locs ls hP hD hS hl
  exact lv_aloadN hx hb hd (lv_at hl z hk) (kk H locs ls hP hD hS hl)
theorem g_istore_n (hX : gOK X K nL cc own Ts) {j : Fin 4} {i : Nat} {x : Int32} {lv' : List (Nat × Value)} (hd : decode cc pc = .ok (.istore_n j, 1)) (hi : (j : Nat) = i) (hn : i < nL) (hl2 : (i, Value.int x) :: lv.filter (fun q => !(q.1 == i) && !(q.1 + 1 == i && q.2.category == 2)) = lv') (kk : VG X l R K nL k n ws lv' stk (pc + 1)) : VG X l R K nL k n ws lv (Value.int x :: stk) pc := by
  obtain ⟨p, e, s, m, args, below, meth, c, A, Q⟩ := X
  obtain ⟨hx, hb, hml, hown, hts0, hK, hA⟩ := hX
  have hts : ∀ w ∈ Ts, w.before args s = true := fun w hw => by
    obtain ⟨a, ha, h⟩ := hts0 w hw
    rw [ha] at h
    exact h
  intro H locs ls hP hD hS hl
  exact lv_istore_n hx hb hd hi hl hn hl2 (fun ls hl => kk H locs ls hP hD hS hl)
theorem g_istore (hX : gOK X K nL cc own Ts) {i : Nat} {x : Int32} {lv' : List (Nat × Value)} (hd : decode cc pc = .ok (.istore i, 2)) (hn : i < nL) (hl2 : (i, Value.int x) :: lv.filter (fun q => !(q.1 == i) && !(q.1 + 1 == i && q.2.category == 2)) = lv') (kk : VG X l R K nL k n ws lv' stk (pc + 2)) : VG X l R K nL k n ws lv (Value.int x :: stk) pc := by
  obtain ⟨p, e, s, m, args, below, meth, c, A, Q⟩ := X
  obtain ⟨hx, hb, hml, hown, hts0, hK, hA⟩ := hX
  have hts : ∀ w ∈ Ts, w.before args s = true := fun w hw => by
    obtain ⟨a, ha, h⟩ := hts0 w hw
    rw [ha] at h
    exact h
  intro H locs ls hP hD hS hl
  exact lv_istore hx hb hd hl hn hl2 (fun ls hl => kk H locs ls hP hD hS hl)
theorem g_astore_n (hX : gOK X K nL cc own Ts) {j : Fin 4} {i : Nat} {x : Nat} {lv' : List (Nat × Value)} (hd : decode cc pc = .ok (.astore_n j, 1)) (hi : (j : Nat) = i) (hn : i < nL) (hl2 : (i, Value.ref x) :: lv.filter (fun q => !(q.1 == i) && !(q.1 + 1 == i && q.2.category == 2)) = lv') (kk : VG X l R K nL k n ws lv' stk (pc + 1)) : VG X l R K nL k n ws lv (Value.ref x :: stk) pc := by
  obtain ⟨p, e, s, m, args, below, meth, c, A, Q⟩ := X
  obtain ⟨hx, hb, hml, hown, hts0, hK, hA⟩ := hX
  have hts : ∀ w ∈ Ts, w.before args s = true := fun w hw => by
    obtain ⟨a, ha, h⟩ := hts0 w hw
    rw [ha] at h
    exact h
  intro H locs ls hP hD hS hl
  exact lv_astore_n hx hb hd hi hl hn hl2 (fun ls hl => kk H locs ls hP hD hS hl)
theorem g_astore (hX : gOK X K nL cc own Ts) {i : Nat} {x : Nat} {lv' : List (Nat × Value)} (hd : decode cc pc = .ok (.astore i, 2)) (hn : i < nL) (hl2 : (i, Value.ref x) :: lv.filter (fun q => !(q.1 == i) && !(q.1 + 1 == i && q.2.category == 2)) = lv') (kk : VG X l R K nL k n ws lv' stk (pc + 2)) : VG X l R K nL k n ws lv (Value.ref x :: stk) pc := by
  obtain ⟨p, e, s, m, args, below, meth, c, A, Q⟩ := X
  obtain ⟨hx, hb, hml, hown, hts0, hK, hA⟩ := hX
  have hts : ∀ w ∈ Ts, w.before args s = true := fun w hw => by
    obtain ⟨a, ha, h⟩ := hts0 w hw
    rw [ha] at h
    exact h
  intro H locs ls hP hD hS hl
  exact lv_astore hx hb hd hl hn hl2 (fun ls hl => kk H locs ls hP hD hS hl)
theorem g_sub (z : List Nat) {lv' : List (Nat × Value)} (hz : lv_pick lv z = lv') (kk : VG X l R K nL k n ws lv' stk pc) : VG X l R K nL k n ws lv stk pc := by
  obtain ⟨p, e, s, m, args, below, meth, c, A, Q⟩ := X
  intro H locs ls hP hD hS hl
  exact kk H locs ls hP hD hS (lv_sub hl z hz)
theorem g_ws {ws' : va_W} (h : ws = ws') (kk : VG X l R K nL k n ws' lv stk pc) : VG X l R K nL k n ws lv stk pc := by subst h; exact kk
theorem g_perm (ps : List Nat) {ws' : va_W} (hn : va_nd ps = true) (h : ps.map (fun i => ws[i]?) = ws'.map some) (kk : VG X l R K nL k n ws' lv stk pc) : VG X l R K nL k n ws lv stk pc := by
  obtain ⟨p, e, s, m, args, below, meth, c, A, Q⟩ := X
  intro H locs ls hP hD hS hl
  refine kk H locs ls (hP.sub ps ?_) (hD.sub ps hn h) hS hl
  have h2 : ∀ (ps : List Nat) (ws' : va_W), ps.map (fun i => ws[i]?) = ws'.map some → ps.filterMap (fun i => ws[i]?) = ws' := by
    intro ps
    induction ps with
    | nil => intro ws' h; cases ws' with | nil => rfl | cons a b => simp at h
    | cons i is ih =>
      intro ws' h
      cases ws' with
      | nil => simp at h
      | cons a b =>
        simp only [List.map_cons, List.cons.injEq] at h
        rw [List.filterMap_cons, h.1]
        simp only [ih b h.2]
  exact h2 ps ws' h
theorem g_widen {k' n' : Nat} (h1 : k ≤ k') (h2 : n ≤ n') (kk : VG X l R K nL k' n' ws lv stk pc) : VG X l R K nL k n ws lv stk pc := by
  obtain ⟨p, e, s, m, args, below, meth, c, A, Q⟩ := X
  intro H locs ls hP hD hS hl
  exact W.widen h1 h2 (kk H locs ls hP hD hS hl)
theorem g_top {x y : Int32} (h : x = y) (kk : VG X l R K nL k n ws lv (.int y :: stk) pc) : VG X l R K nL k n ws lv (.int x :: stk) pc := by subst h; exact kk
theorem g_topl {x y : Int64} (h : x = y) (kk : VG X l R K nL k n ws lv (.long y :: stk) pc) : VG X l R K nL k n ws lv (.long x :: stk) pc := by subst h; exact kk
theorem g_lv {lv' : List (Nat × Value)} (h : lv = lv') (kk : VG X l R K nL k n ws lv' stk pc) : VG X l R K nL k n ws lv stk pc := by subst h; exact kk
theorem g_apart (kk : (∀ (i j : Nat) (p q : Nat × va_E), ws[i]? = some p → ws[j]? = some q → p.1 = q.1 → i = j) → VG X l R K nL k n ws lv stk pc) : VG X l R K nL k n ws lv stk pc := by
  obtain ⟨p, e, s, m, args, below, meth, c, A, Q⟩ := X
  intro H locs ls hP hD hS hl
  exact kk hD.1 H locs ls hP hD hS hl

theorem g_iconst (hX : gOK X K nL cc own Ts) {i : Int} {v : Int32} (hd : decode cc pc = .ok (.iconst i, 1)) (hv : Int32.ofInt i = v) (kk : VG X l R K nL k n ws lv (.int v :: stk) (pc + 1)) : VG X l R K nL k n ws lv stk pc := by
  obtain ⟨p, e, s, m, args, below, meth, c, A, Q⟩ := X
  obtain ⟨hx, hb, hml, hown, hts0, hK, hA⟩ := hX
  have hts : ∀ w ∈ Ts, w.before args s = true := fun w hw => by
    obtain ⟨a, ha, h⟩ := hts0 w hw
    rw [ha] at h
    exact h
  intro H locs ls hP hD hS hl
  exact lv_iconst hx hb hd hv (kk H locs ls hP hD hS hl)
theorem g_bipush (hX : gOK X K nL cc own Ts) {i : Int} {v : Int32} (hd : decode cc pc = .ok (.bipush i, 2)) (hv : (Int8.ofInt i).toInt32 = v) (kk : VG X l R K nL k n ws lv (.int v :: stk) (pc + 2)) : VG X l R K nL k n ws lv stk pc := by
  obtain ⟨p, e, s, m, args, below, meth, c, A, Q⟩ := X
  obtain ⟨hx, hb, hml, hown, hts0, hK, hA⟩ := hX
  have hts : ∀ w ∈ Ts, w.before args s = true := fun w hw => by
    obtain ⟨a, ha, h⟩ := hts0 w hw
    rw [ha] at h
    exact h
  intro H locs ls hP hD hS hl
  exact lv_bipush hx hb hd hv (kk H locs ls hP hD hS hl)
theorem g_sipush (hX : gOK X K nL cc own Ts) {i : Int} {v : Int32} (hd : decode cc pc = .ok (.sipush i, 3)) (hv : (Int16.ofInt i).toInt32 = v) (kk : VG X l R K nL k n ws lv (.int v :: stk) (pc + 3)) : VG X l R K nL k n ws lv stk pc := by
  obtain ⟨p, e, s, m, args, below, meth, c, A, Q⟩ := X
  obtain ⟨hx, hb, hml, hown, hts0, hK, hA⟩ := hX
  have hts : ∀ w ∈ Ts, w.before args s = true := fun w hw => by
    obtain ⟨a, ha, h⟩ := hts0 w hw
    rw [ha] at h
    exact h
  intro H locs ls hP hD hS hl
  exact lv_sipush hx hb hd hv (kk H locs ls hP hD hS hl)
theorem g_lconst (hX : gOK X K nL cc own Ts) {i : Fin 2} {v : Int64} (hd : decode cc pc = .ok (.lconst i, 1)) (hv : Int64.ofNat (i : Nat) = v) (kk : VG X l R K nL k n ws lv (.long v :: stk) (pc + 1)) : VG X l R K nL k n ws lv stk pc := by
  obtain ⟨p, e, s, m, args, below, meth, c, A, Q⟩ := X
  obtain ⟨hx, hb, hml, hown, hts0, hK, hA⟩ := hX
  have hts : ∀ w ∈ Ts, w.before args s = true := fun w hw => by
    obtain ⟨a, ha, h⟩ := hts0 w hw
    rw [ha] at h
    exact h
  intro H locs ls hP hD hS hl
  exact lv_lconst hx hb hd hv (kk H locs ls hP hD hS hl)
theorem g_ldc2 (hX : gOK X K nL cc own Ts) {i : Nat} {v : Int64} (hc : Cond.constantLong own i v ∈ Ts) (hd : decode cc pc = .ok (.ldc2_w i, 3)) (kk : VG X l R K nL k n ws lv (.long v :: stk) (pc + 3)) : VG X l R K nL k n ws lv stk pc := by
  obtain ⟨p, e, s, m, args, below, meth, c, A, Q⟩ := X
  obtain ⟨hx, hb, hml, hown, hts0, hK, hA⟩ := hX
  have hts : ∀ w ∈ Ts, w.before args s = true := fun w hw => by
    obtain ⟨a, ha, h⟩ := hts0 w hw
    rw [ha] at h
    exact h
  intro H locs ls hP hD hS hl
  exact lv_ldc2 hx hb hown (hts _ hc) hd (kk H locs ls hP hD hS hl)
theorem g_null (hX : gOK X K nL cc own Ts) (hd : decode cc pc = .ok (.aconst_null, 1)) (kk : VG X l R K nL k n ws lv (.null :: stk) (pc + 1)) : VG X l R K nL k n ws lv stk pc := by
  obtain ⟨p, e, s, m, args, below, meth, c, A, Q⟩ := X
  obtain ⟨hx, hb, hml, hown, hts0, hK, hA⟩ := hX
  have hts : ∀ w ∈ Ts, w.before args s = true := fun w hw => by
    obtain ⟨a, ha, h⟩ := hts0 w hw
    rw [ha] at h
    exact h
  intro H locs ls hP hD hS hl
  exact lv_null hx hb hd (kk H locs ls hP hD hS hl)
theorem g_iadd (hX : gOK X K nL cc own Ts) {x y z : Int32} (hd : decode cc pc = .ok (.iadd, 1)) (hz : x + y = z) (kk : VG X l R K nL k n ws lv (.int z :: stk) (pc + 1)) : VG X l R K nL k n ws lv (.int y :: .int x :: stk) pc := by
  obtain ⟨p, e, s, m, args, below, meth, c, A, Q⟩ := X
  obtain ⟨hx, hb, hml, hown, hts0, hK, hA⟩ := hX
  have hts : ∀ w ∈ Ts, w.before args s = true := fun w hw => by
    obtain ⟨a, ha, h⟩ := hts0 w hw
    rw [ha] at h
    exact h
  intro H locs ls hP hD hS hl
  subst hz
  exact lv_iadd hx hb hd (kk H locs ls hP hD hS hl)
theorem g_isub (hX : gOK X K nL cc own Ts) {x y z : Int32} (hd : decode cc pc = .ok (.isub, 1)) (hz : x - y = z) (kk : VG X l R K nL k n ws lv (.int z :: stk) (pc + 1)) : VG X l R K nL k n ws lv (.int y :: .int x :: stk) pc := by
  obtain ⟨p, e, s, m, args, below, meth, c, A, Q⟩ := X
  obtain ⟨hx, hb, hml, hown, hts0, hK, hA⟩ := hX
  have hts : ∀ w ∈ Ts, w.before args s = true := fun w hw => by
    obtain ⟨a, ha, h⟩ := hts0 w hw
    rw [ha] at h
    exact h
  intro H locs ls hP hD hS hl
  subst hz
  exact lv_isub hx hb hd (kk H locs ls hP hD hS hl)
theorem g_imul (hX : gOK X K nL cc own Ts) {x y z : Int32} (hd : decode cc pc = .ok (.imul, 1)) (hz : x * y = z) (kk : VG X l R K nL k n ws lv (.int z :: stk) (pc + 1)) : VG X l R K nL k n ws lv (.int y :: .int x :: stk) pc := by
  obtain ⟨p, e, s, m, args, below, meth, c, A, Q⟩ := X
  obtain ⟨hx, hb, hml, hown, hts0, hK, hA⟩ := hX
  have hts : ∀ w ∈ Ts, w.before args s = true := fun w hw => by
    obtain ⟨a, ha, h⟩ := hts0 w hw
    rw [ha] at h
    exact h
  intro H locs ls hP hD hS hl
  subst hz
  exact lv_imul hx hb hd (kk H locs ls hP hD hS hl)
theorem g_iand (hX : gOK X K nL cc own Ts) {x y z : Int32} (hd : decode cc pc = .ok (.iand, 1)) (hz : x &&& y = z) (kk : VG X l R K nL k n ws lv (.int z :: stk) (pc + 1)) : VG X l R K nL k n ws lv (.int y :: .int x :: stk) pc := by
  obtain ⟨p, e, s, m, args, below, meth, c, A, Q⟩ := X
  obtain ⟨hx, hb, hml, hown, hts0, hK, hA⟩ := hX
  have hts : ∀ w ∈ Ts, w.before args s = true := fun w hw => by
    obtain ⟨a, ha, h⟩ := hts0 w hw
    rw [ha] at h
    exact h
  intro H locs ls hP hD hS hl
  subst hz
  exact lv_iand hx hb hd (kk H locs ls hP hD hS hl)
theorem g_idiv (hX : gOK X K nL cc own Ts) {x y z : Int32} (hd : decode cc pc = .ok (.idiv, 1)) (hy : ¬ y = 0) (hz : x / y = z) (kk : VG X l R K nL k n ws lv (.int z :: stk) (pc + 1)) : VG X l R K nL k n ws lv (.int y :: .int x :: stk) pc := by
  obtain ⟨p, e, s, m, args, below, meth, c, A, Q⟩ := X
  obtain ⟨hx, hb, hml, hown, hts0, hK, hA⟩ := hX
  have hts : ∀ w ∈ Ts, w.before args s = true := fun w hw => by
    obtain ⟨a, ha, h⟩ := hts0 w hw
    rw [ha] at h
    exact h
  intro H locs ls hP hD hS hl
  subst hz
  exact lv_idiv hx hb hd hy (kk H locs ls hP hD hS hl)
theorem g_iaddN (hX : gOK X K nL cc own Ts) {a b r : Nat} (hd : decode cc pc = .ok (.iadd, 1)) (hr : a + b = r) (kk : VG X l R K nL k n ws lv (.int (nI r) :: stk) (pc + 1)) : VG X l R K nL k n ws lv (.int (nI b) :: .int (nI a) :: stk) pc := g_iadd hX hd (by rw [nI_add, hr]) kk
theorem g_isubN (hX : gOK X K nL cc own Ts) {a b r : Nat} (hd : decode cc pc = .ok (.isub, 1)) (hr : a = r + b) (kk : VG X l R K nL k n ws lv (.int (nI r) :: stk) (pc + 1)) : VG X l R K nL k n ws lv (.int (nI b) :: .int (nI a) :: stk) pc := g_isub hX hd (by rw [pk_sub (by omega), show a - b = r by omega]) kk
theorem g_imulN (hX : gOK X K nL cc own Ts) {a b r : Nat} (hd : decode cc pc = .ok (.imul, 1)) (hr : a * b = r) (kk : VG X l R K nL k n ws lv (.int (nI r) :: stk) (pc + 1)) : VG X l R K nL k n ws lv (.int (nI b) :: .int (nI a) :: stk) pc := g_imul hX hd (by rw [pk_mul, hr]) kk
theorem g_idivN (hX : gOK X K nL cc own Ts) {a b r : Nat} (hd : decode cc pc = .ok (.idiv, 1)) (ha : a < 2 ^ 31) (h0 : 0 < b) (hb2 : b < 2 ^ 31) (hr : a / b = r) (kk : VG X l R K nL k n ws lv (.int (nI r) :: stk) (pc + 1)) : VG X l R K nL k n ws lv (.int (nI b) :: .int (nI a) :: stk) pc := g_idiv hX hd (nI_ne0 h0 hb2) (by rw [pk_div ha h0 hb2, hr]) kk

theorem g_land (hX : gOK X K nL cc own Ts) {x y z : Int64} (hd : decode cc pc = .ok (.land, 1)) (hz : x &&& y = z) (kk : VG X l R K nL k n ws lv (.long z :: stk) (pc + 1)) : VG X l R K nL k n ws lv (.long y :: .long x :: stk) pc := by
  obtain ⟨p, e, s, m, args, below, meth, c, A, Q⟩ := X
  obtain ⟨hx, hb, hml, hown, hts0, hK, hA⟩ := hX
  have hts : ∀ w ∈ Ts, w.before args s = true := fun w hw => by
    obtain ⟨a, ha, h⟩ := hts0 w hw
    rw [ha] at h
    exact h
  intro H locs ls hP hD hS hl
  subst hz
  exact lv_land hx hb hd (kk H locs ls hP hD hS hl)
theorem g_lor (hX : gOK X K nL cc own Ts) {x y z : Int64} (hd : decode cc pc = .ok (.lor, 1)) (hz : x ||| y = z) (kk : VG X l R K nL k n ws lv (.long z :: stk) (pc + 1)) : VG X l R K nL k n ws lv (.long y :: .long x :: stk) pc := by
  obtain ⟨p, e, s, m, args, below, meth, c, A, Q⟩ := X
  obtain ⟨hx, hb, hml, hown, hts0, hK, hA⟩ := hX
  have hts : ∀ w ∈ Ts, w.before args s = true := fun w hw => by
    obtain ⟨a, ha, h⟩ := hts0 w hw
    rw [ha] at h
    exact h
  intro H locs ls hP hD hS hl
  subst hz
  exact lv_lor hx hb hd (kk H locs ls hP hD hS hl)
theorem g_lxor (hX : gOK X K nL cc own Ts) {x y z : Int64} (hd : decode cc pc = .ok (.lxor, 1)) (hz : x ^^^ y = z) (kk : VG X l R K nL k n ws lv (.long z :: stk) (pc + 1)) : VG X l R K nL k n ws lv (.long y :: .long x :: stk) pc := by
  obtain ⟨p, e, s, m, args, below, meth, c, A, Q⟩ := X
  obtain ⟨hx, hb, hml, hown, hts0, hK, hA⟩ := hX
  have hts : ∀ w ∈ Ts, w.before args s = true := fun w hw => by
    obtain ⟨a, ha, h⟩ := hts0 w hw
    rw [ha] at h
    exact h
  intro H locs ls hP hD hS hl
  subst hz
  exact lv_lxor hx hb hd (kk H locs ls hP hD hS hl)
theorem g_lshl (hX : gOK X K nL cc own Ts) {x v : Int64} {y : Int32} (hd : decode cc pc = .ok (.lshl, 1)) (hv : x <<< (y.toInt64 &&& 63) = v) (kk : VG X l R K nL k n ws lv (.long v :: stk) (pc + 1)) : VG X l R K nL k n ws lv (.int y :: .long x :: stk) pc := by
  obtain ⟨p, e, s, m, args, below, meth, c, A, Q⟩ := X
  obtain ⟨hx, hb, hml, hown, hts0, hK, hA⟩ := hX
  have hts : ∀ w ∈ Ts, w.before args s = true := fun w hw => by
    obtain ⟨a, ha, h⟩ := hts0 w hw
    rw [ha] at h
    exact h
  intro H locs ls hP hD hS hl
  exact lv_lshl hx hb hd hv (kk H locs ls hP hD hS hl)
theorem g_lcmp (hX : gOK X K nL cc own Ts) {x y : Int64} (hd : decode cc pc = .ok (.lcmp, 1)) (kk : VG X l R K nL k n ws lv (.int (lg_cmp x y) :: stk) (pc + 1)) : VG X l R K nL k n ws lv (.long y :: .long x :: stk) pc := by
  obtain ⟨p, e, s, m, args, below, meth, c, A, Q⟩ := X
  obtain ⟨hx, hb, hml, hown, hts0, hK, hA⟩ := hX
  have hts : ∀ w ∈ Ts, w.before args s = true := fun w hw => by
    obtain ⟨a, ha, h⟩ := hts0 w hw
    rw [ha] at h
    exact h
  intro H locs ls hP hD hS hl
  exact W.lcmp hx hb hd (kk H locs ls hP hD hS hl)
theorem g_dup (hX : gOK X K nL cc own Ts) {v : Value} (hd : decode cc pc = .ok (.dup, 1)) (hv : v.category = 1) (kk : VG X l R K nL k n ws lv (v :: v :: stk) (pc + 1)) : VG X l R K nL k n ws lv (v :: stk) pc := by
  obtain ⟨p, e, s, m, args, below, meth, c, A, Q⟩ := X
  obtain ⟨hx, hb, hml, hown, hts0, hK, hA⟩ := hX
  have hts : ∀ w ∈ Ts, w.before args s = true := fun w hw => by
    obtain ⟨a, ha, h⟩ := hts0 w hw
    rw [ha] at h
    exact h
  intro H locs ls hP hD hS hl
  exact lv_dup hx hb hd hv (kk H locs ls hP hD hS hl)
theorem g_pop (hX : gOK X K nL cc own Ts) {v : Value} (hd : decode cc pc = .ok (.pop, 1)) (hv : v.category = 1) (kk : VG X l R K nL k n ws lv stk (pc + 1)) : VG X l R K nL k n ws lv (v :: stk) pc := by
  obtain ⟨p, e, s, m, args, below, meth, c, A, Q⟩ := X
  obtain ⟨hx, hb, hml, hown, hts0, hK, hA⟩ := hX
  have hts : ∀ w ∈ Ts, w.before args s = true := fun w hw => by
    obtain ⟨a, ha, h⟩ := hts0 w hw
    rw [ha] at h
    exact h
  intro H locs ls hP hD hS hl
  exact lv_pop hx hb hd hv (kk H locs ls hP hD hS hl)
theorem g_goto (hX : gOK X K nL cc own Ts) {off : Int} {tgt : Nat} (hd : decode cc pc = .ok (.goto off, 3)) (ht : (pc : Int) + off = (tgt : Int)) (kk : VG X l R K nL k n ws lv stk tgt) : VG X l R K nL k n ws lv stk pc := by
  obtain ⟨p, e, s, m, args, below, meth, c, A, Q⟩ := X
  obtain ⟨hx, hb, hml, hown, hts0, hK, hA⟩ := hX
  have hts : ∀ w ∈ Ts, w.before args s = true := fun w hw => by
    obtain ⟨a, ha, h⟩ := hts0 w hw
    rw [ha] at h
    exact h
  intro H locs ls hP hD hS hl
  exact lv_goto hx hb hd ht (kk H locs ls hP hD hS hl)
theorem g_iinc (hX : gOK X K nL cc own Ts) {i z : Nat} {d : Int} {x v : Int32} {lv' : List (Nat × Value)} (hd : decode cc pc = .ok (.iinc i d, 3)) (hk : lv[z]? = some (i, .int x)) (hv : x + Int32.ofInt d = v) (hn : i < nL) (hl2 : (i, Value.int v) :: lv.filter (fun q => !(q.1 == i) && !(q.1 + 1 == i && q.2.category == 2)) = lv') (kk : VG X l R K nL k n ws lv' stk (pc + 3)) : VG X l R K nL k n ws lv stk pc := by
  obtain ⟨p, e, s, m, args, below, meth, c, A, Q⟩ := X
  obtain ⟨hx, hb, hml, hown, hts0, hK, hA⟩ := hX
  have hts : ∀ w ∈ Ts, w.before args s = true := fun w hw => by
    obtain ⟨a, ha, h⟩ := hts0 w hw
    rw [ha] at h
    exact h
  intro H locs ls hP hD hS hl
  exact lv_iinc hx hb hd hl hk hv hn hl2 (fun ls hl => kk H locs ls hP hD hS hl)
theorem g_if_eq (hX : gOK X K nL cc own Ts) {x : Int32} {off : Int} {tgt : Nat} (hd : decode cc pc = .ok (.ifCond .eq off, 3)) (ht : (pc : Int) + off = (tgt : Int)) (kt : x = 0 → VG X l R K nL k n ws lv stk tgt) (kf : ¬ x = 0 → VG X l R K nL k n ws lv stk (pc + 3)) : VG X l R K nL k n ws lv (.int x :: stk) pc := by
  obtain ⟨p, e, s, m, args, below, meth, c, A, Q⟩ := X
  obtain ⟨hx, hb, hml, hown, hts0, hK, hA⟩ := hX
  have hts : ∀ w ∈ Ts, w.before args s = true := fun w hw => by
    obtain ⟨a, ha, h⟩ := hts0 w hw
    rw [ha] at h
    exact h
  intro H locs ls hP hD hS hl
  exact lv_if_eq hx hb hd ht (fun h => kt h H locs ls hP hD hS hl) (fun h => kf h H locs ls hP hD hS hl)
theorem g_icmp_eq (hX : gOK X K nL cc own Ts) {x y : Int32} {off : Int} {tgt : Nat} (hd : decode cc pc = .ok (.if_icmp .eq off, 3)) (ht : (pc : Int) + off = (tgt : Int)) (kt : x = y → VG X l R K nL k n ws lv stk tgt) (kf : ¬ x = y → VG X l R K nL k n ws lv stk (pc + 3)) : VG X l R K nL k n ws lv (.int y :: .int x :: stk) pc := by
  obtain ⟨p, e, s, m, args, below, meth, c, A, Q⟩ := X
  obtain ⟨hx, hb, hml, hown, hts0, hK, hA⟩ := hX
  have hts : ∀ w ∈ Ts, w.before args s = true := fun w hw => by
    obtain ⟨a, ha, h⟩ := hts0 w hw
    rw [ha] at h
    exact h
  intro H locs ls hP hD hS hl
  exact lv_icmp_eq hx hb hd ht (fun h => kt h H locs ls hP hD hS hl) (fun h => kf h H locs ls hP hD hS hl)
theorem g_if_ne (hX : gOK X K nL cc own Ts) {x : Int32} {off : Int} {tgt : Nat} (hd : decode cc pc = .ok (.ifCond .ne off, 3)) (ht : (pc : Int) + off = (tgt : Int)) (kt : ¬ x = 0 → VG X l R K nL k n ws lv stk tgt) (kf : x = 0 → VG X l R K nL k n ws lv stk (pc + 3)) : VG X l R K nL k n ws lv (.int x :: stk) pc := by
  obtain ⟨p, e, s, m, args, below, meth, c, A, Q⟩ := X
  obtain ⟨hx, hb, hml, hown, hts0, hK, hA⟩ := hX
  have hts : ∀ w ∈ Ts, w.before args s = true := fun w hw => by
    obtain ⟨a, ha, h⟩ := hts0 w hw
    rw [ha] at h
    exact h
  intro H locs ls hP hD hS hl
  exact lv_if_ne hx hb hd ht (fun h => kt h H locs ls hP hD hS hl) (fun h => kf h H locs ls hP hD hS hl)
theorem g_icmp_ne (hX : gOK X K nL cc own Ts) {x y : Int32} {off : Int} {tgt : Nat} (hd : decode cc pc = .ok (.if_icmp .ne off, 3)) (ht : (pc : Int) + off = (tgt : Int)) (kt : ¬ x = y → VG X l R K nL k n ws lv stk tgt) (kf : x = y → VG X l R K nL k n ws lv stk (pc + 3)) : VG X l R K nL k n ws lv (.int y :: .int x :: stk) pc := by
  obtain ⟨p, e, s, m, args, below, meth, c, A, Q⟩ := X
  obtain ⟨hx, hb, hml, hown, hts0, hK, hA⟩ := hX
  have hts : ∀ w ∈ Ts, w.before args s = true := fun w hw => by
    obtain ⟨a, ha, h⟩ := hts0 w hw
    rw [ha] at h
    exact h
  intro H locs ls hP hD hS hl
  exact lv_icmp_ne hx hb hd ht (fun h => kt h H locs ls hP hD hS hl) (fun h => kf h H locs ls hP hD hS hl)
theorem g_if_lt (hX : gOK X K nL cc own Ts) {x : Int32} {off : Int} {tgt : Nat} (hd : decode cc pc = .ok (.ifCond .lt off, 3)) (ht : (pc : Int) + off = (tgt : Int)) (kt : x < 0 → VG X l R K nL k n ws lv stk tgt) (kf : ¬ x < 0 → VG X l R K nL k n ws lv stk (pc + 3)) : VG X l R K nL k n ws lv (.int x :: stk) pc := by
  obtain ⟨p, e, s, m, args, below, meth, c, A, Q⟩ := X
  obtain ⟨hx, hb, hml, hown, hts0, hK, hA⟩ := hX
  have hts : ∀ w ∈ Ts, w.before args s = true := fun w hw => by
    obtain ⟨a, ha, h⟩ := hts0 w hw
    rw [ha] at h
    exact h
  intro H locs ls hP hD hS hl
  exact lv_if_lt hx hb hd ht (fun h => kt h H locs ls hP hD hS hl) (fun h => kf h H locs ls hP hD hS hl)
theorem g_icmp_lt (hX : gOK X K nL cc own Ts) {x y : Int32} {off : Int} {tgt : Nat} (hd : decode cc pc = .ok (.if_icmp .lt off, 3)) (ht : (pc : Int) + off = (tgt : Int)) (kt : x < y → VG X l R K nL k n ws lv stk tgt) (kf : ¬ x < y → VG X l R K nL k n ws lv stk (pc + 3)) : VG X l R K nL k n ws lv (.int y :: .int x :: stk) pc := by
  obtain ⟨p, e, s, m, args, below, meth, c, A, Q⟩ := X
  obtain ⟨hx, hb, hml, hown, hts0, hK, hA⟩ := hX
  have hts : ∀ w ∈ Ts, w.before args s = true := fun w hw => by
    obtain ⟨a, ha, h⟩ := hts0 w hw
    rw [ha] at h
    exact h
  intro H locs ls hP hD hS hl
  exact lv_icmp_lt hx hb hd ht (fun h => kt h H locs ls hP hD hS hl) (fun h => kf h H locs ls hP hD hS hl)
theorem g_if_ge (hX : gOK X K nL cc own Ts) {x : Int32} {off : Int} {tgt : Nat} (hd : decode cc pc = .ok (.ifCond .ge off, 3)) (ht : (pc : Int) + off = (tgt : Int)) (kt : 0 ≤ x → VG X l R K nL k n ws lv stk tgt) (kf : ¬ 0 ≤ x → VG X l R K nL k n ws lv stk (pc + 3)) : VG X l R K nL k n ws lv (.int x :: stk) pc := by
  obtain ⟨p, e, s, m, args, below, meth, c, A, Q⟩ := X
  obtain ⟨hx, hb, hml, hown, hts0, hK, hA⟩ := hX
  have hts : ∀ w ∈ Ts, w.before args s = true := fun w hw => by
    obtain ⟨a, ha, h⟩ := hts0 w hw
    rw [ha] at h
    exact h
  intro H locs ls hP hD hS hl
  exact lv_if_ge hx hb hd ht (fun h => kt h H locs ls hP hD hS hl) (fun h => kf h H locs ls hP hD hS hl)
theorem g_icmp_ge (hX : gOK X K nL cc own Ts) {x y : Int32} {off : Int} {tgt : Nat} (hd : decode cc pc = .ok (.if_icmp .ge off, 3)) (ht : (pc : Int) + off = (tgt : Int)) (kt : y ≤ x → VG X l R K nL k n ws lv stk tgt) (kf : ¬ y ≤ x → VG X l R K nL k n ws lv stk (pc + 3)) : VG X l R K nL k n ws lv (.int y :: .int x :: stk) pc := by
  obtain ⟨p, e, s, m, args, below, meth, c, A, Q⟩ := X
  obtain ⟨hx, hb, hml, hown, hts0, hK, hA⟩ := hX
  have hts : ∀ w ∈ Ts, w.before args s = true := fun w hw => by
    obtain ⟨a, ha, h⟩ := hts0 w hw
    rw [ha] at h
    exact h
  intro H locs ls hP hD hS hl
  exact lv_icmp_ge hx hb hd ht (fun h => kt h H locs ls hP hD hS hl) (fun h => kf h H locs ls hP hD hS hl)
theorem g_if_gt (hX : gOK X K nL cc own Ts) {x : Int32} {off : Int} {tgt : Nat} (hd : decode cc pc = .ok (.ifCond .gt off, 3)) (ht : (pc : Int) + off = (tgt : Int)) (kt : 0 < x → VG X l R K nL k n ws lv stk tgt) (kf : ¬ 0 < x → VG X l R K nL k n ws lv stk (pc + 3)) : VG X l R K nL k n ws lv (.int x :: stk) pc := by
  obtain ⟨p, e, s, m, args, below, meth, c, A, Q⟩ := X
  obtain ⟨hx, hb, hml, hown, hts0, hK, hA⟩ := hX
  have hts : ∀ w ∈ Ts, w.before args s = true := fun w hw => by
    obtain ⟨a, ha, h⟩ := hts0 w hw
    rw [ha] at h
    exact h
  intro H locs ls hP hD hS hl
  exact lv_if_gt hx hb hd ht (fun h => kt h H locs ls hP hD hS hl) (fun h => kf h H locs ls hP hD hS hl)
theorem g_icmp_gt (hX : gOK X K nL cc own Ts) {x y : Int32} {off : Int} {tgt : Nat} (hd : decode cc pc = .ok (.if_icmp .gt off, 3)) (ht : (pc : Int) + off = (tgt : Int)) (kt : y < x → VG X l R K nL k n ws lv stk tgt) (kf : ¬ y < x → VG X l R K nL k n ws lv stk (pc + 3)) : VG X l R K nL k n ws lv (.int y :: .int x :: stk) pc := by
  obtain ⟨p, e, s, m, args, below, meth, c, A, Q⟩ := X
  obtain ⟨hx, hb, hml, hown, hts0, hK, hA⟩ := hX
  have hts : ∀ w ∈ Ts, w.before args s = true := fun w hw => by
    obtain ⟨a, ha, h⟩ := hts0 w hw
    rw [ha] at h
    exact h
  intro H locs ls hP hD hS hl
  exact lv_icmp_gt hx hb hd ht (fun h => kt h H locs ls hP hD hS hl) (fun h => kf h H locs ls hP hD hS hl)
theorem g_if_le (hX : gOK X K nL cc own Ts) {x : Int32} {off : Int} {tgt : Nat} (hd : decode cc pc = .ok (.ifCond .le off, 3)) (ht : (pc : Int) + off = (tgt : Int)) (kt : x ≤ 0 → VG X l R K nL k n ws lv stk tgt) (kf : ¬ x ≤ 0 → VG X l R K nL k n ws lv stk (pc + 3)) : VG X l R K nL k n ws lv (.int x :: stk) pc := by
  obtain ⟨p, e, s, m, args, below, meth, c, A, Q⟩ := X
  obtain ⟨hx, hb, hml, hown, hts0, hK, hA⟩ := hX
  have hts : ∀ w ∈ Ts, w.before args s = true := fun w hw => by
    obtain ⟨a, ha, h⟩ := hts0 w hw
    rw [ha] at h
    exact h
  intro H locs ls hP hD hS hl
  exact lv_if_le hx hb hd ht (fun h => kt h H locs ls hP hD hS hl) (fun h => kf h H locs ls hP hD hS hl)
theorem g_icmp_le (hX : gOK X K nL cc own Ts) {x y : Int32} {off : Int} {tgt : Nat} (hd : decode cc pc = .ok (.if_icmp .le off, 3)) (ht : (pc : Int) + off = (tgt : Int)) (kt : x ≤ y → VG X l R K nL k n ws lv stk tgt) (kf : ¬ x ≤ y → VG X l R K nL k n ws lv stk (pc + 3)) : VG X l R K nL k n ws lv (.int y :: .int x :: stk) pc := by
  obtain ⟨p, e, s, m, args, below, meth, c, A, Q⟩ := X
  obtain ⟨hx, hb, hml, hown, hts0, hK, hA⟩ := hX
  have hts : ∀ w ∈ Ts, w.before args s = true := fun w hw => by
    obtain ⟨a, ha, h⟩ := hts0 w hw
    rw [ha] at h
    exact h
  intro H locs ls hP hD hS hl
  exact lv_icmp_le hx hb hd ht (fun h => kt h H locs ls hP hD hS hl) (fun h => kf h H locs ls hP hD hS hl)
theorem gn_eq {a b : Nat} (ha : a < 2 ^ 31) (hb : b < 2 ^ 31) (h : nI a = nI b) : a = b := (nI_eq ha hb).mp h
theorem gn_ne {a b : Nat} (h : ¬ nI a = nI b) : a ≠ b := fun e => h (by rw [e])
theorem gn_lt {a b : Nat} (ha : a < 2 ^ 31) (hb : b < 2 ^ 31) (h : nI a < nI b) : a < b := (nI_ltI ha hb).mp h
theorem gn_nlt {a b : Nat} (ha : a < 2 ^ 31) (hb : b < 2 ^ 31) (h : ¬ nI a < nI b) : b ≤ a := Nat.not_lt.mp (fun q => h ((nI_ltI ha hb).mpr q))
theorem gn_le {a b : Nat} (ha : a < 2 ^ 31) (hb : b < 2 ^ 31) (h : nI a ≤ nI b) : a ≤ b := (nI_leI ha hb).mp h
theorem gn_nle {a b : Nat} (ha : a < 2 ^ 31) (hb : b < 2 ^ 31) (h : ¬ nI a ≤ nI b) : b < a := Nat.not_le.mp (fun q => h ((nI_leI ha hb).mpr q))

theorem g_icmpN_eq (hX : gOK X K nL cc own Ts) {a b : Nat} {off : Int} {tgt : Nat} (ha : a < 2 ^ 31) (hb2 : b < 2 ^ 31) (hd : decode cc pc = .ok (.if_icmp .eq off, 3)) (ht : (pc : Int) + off = (tgt : Int)) (kt : a = b → VG X l R K nL k n ws lv stk tgt) (kf : a ≠ b → VG X l R K nL k n ws lv stk (pc + 3)) : VG X l R K nL k n ws lv (.int (nI b) :: .int (nI a) :: stk) pc := g_icmp_eq hX hd ht (fun h => kt (gn_eq ha hb2 h)) (fun h => kf (gn_ne h))
theorem g_ifN_eq (hX : gOK X K nL cc own Ts) {a : Nat} {off : Int} {tgt : Nat} (ha : a < 2 ^ 31) (hd : decode cc pc = .ok (.ifCond .eq off, 3)) (ht : (pc : Int) + off = (tgt : Int)) (kt : a = 0 → VG X l R K nL k n ws lv stk tgt) (kf : a ≠ 0 → VG X l R K nL k n ws lv stk (pc + 3)) : VG X l R K nL k n ws lv (.int (nI a) :: stk) pc := g_if_eq hX hd ht (fun h => kt (have hb2 : (0 : Nat) < 2 ^ 31 := by omega
    gn_eq ha hb2 h)) (fun h => kf (have hb2 : (0 : Nat) < 2 ^ 31 := by omega
    gn_ne h))
theorem g_icmpN_ne (hX : gOK X K nL cc own Ts) {a b : Nat} {off : Int} {tgt : Nat} (ha : a < 2 ^ 31) (hb2 : b < 2 ^ 31) (hd : decode cc pc = .ok (.if_icmp .ne off, 3)) (ht : (pc : Int) + off = (tgt : Int)) (kt : a ≠ b → VG X l R K nL k n ws lv stk tgt) (kf : a = b → VG X l R K nL k n ws lv stk (pc + 3)) : VG X l R K nL k n ws lv (.int (nI b) :: .int (nI a) :: stk) pc := g_icmp_ne hX hd ht (fun h => kt (gn_ne h)) (fun h => kf (gn_eq ha hb2 h))
theorem g_ifN_ne (hX : gOK X K nL cc own Ts) {a : Nat} {off : Int} {tgt : Nat} (ha : a < 2 ^ 31) (hd : decode cc pc = .ok (.ifCond .ne off, 3)) (ht : (pc : Int) + off = (tgt : Int)) (kt : a ≠ 0 → VG X l R K nL k n ws lv stk tgt) (kf : a = 0 → VG X l R K nL k n ws lv stk (pc + 3)) : VG X l R K nL k n ws lv (.int (nI a) :: stk) pc := g_if_ne hX hd ht (fun h => kt (have hb2 : (0 : Nat) < 2 ^ 31 := by omega
    gn_ne h)) (fun h => kf (have hb2 : (0 : Nat) < 2 ^ 31 := by omega
    gn_eq ha hb2 h))
theorem g_icmpN_lt (hX : gOK X K nL cc own Ts) {a b : Nat} {off : Int} {tgt : Nat} (ha : a < 2 ^ 31) (hb2 : b < 2 ^ 31) (hd : decode cc pc = .ok (.if_icmp .lt off, 3)) (ht : (pc : Int) + off = (tgt : Int)) (kt : a < b → VG X l R K nL k n ws lv stk tgt) (kf : b ≤ a → VG X l R K nL k n ws lv stk (pc + 3)) : VG X l R K nL k n ws lv (.int (nI b) :: .int (nI a) :: stk) pc := g_icmp_lt hX hd ht (fun h => kt (gn_lt ha hb2 h)) (fun h => kf (gn_nlt ha hb2 h))
theorem g_ifN_lt (hX : gOK X K nL cc own Ts) {a : Nat} {off : Int} {tgt : Nat} (ha : a < 2 ^ 31) (hd : decode cc pc = .ok (.ifCond .lt off, 3)) (ht : (pc : Int) + off = (tgt : Int)) (kt : a < 0 → VG X l R K nL k n ws lv stk tgt) (kf : 0 ≤ a → VG X l R K nL k n ws lv stk (pc + 3)) : VG X l R K nL k n ws lv (.int (nI a) :: stk) pc := g_if_lt hX hd ht (fun h => kt (have hb2 : (0 : Nat) < 2 ^ 31 := by omega
    gn_lt ha hb2 h)) (fun h => kf (have hb2 : (0 : Nat) < 2 ^ 31 := by omega
    gn_nlt ha hb2 h))
theorem g_icmpN_ge (hX : gOK X K nL cc own Ts) {a b : Nat} {off : Int} {tgt : Nat} (ha : a < 2 ^ 31) (hb2 : b < 2 ^ 31) (hd : decode cc pc = .ok (.if_icmp .ge off, 3)) (ht : (pc : Int) + off = (tgt : Int)) (kt : b ≤ a → VG X l R K nL k n ws lv stk tgt) (kf : a < b → VG X l R K nL k n ws lv stk (pc + 3)) : VG X l R K nL k n ws lv (.int (nI b) :: .int (nI a) :: stk) pc := g_icmp_ge hX hd ht (fun h => kt (gn_le hb2 ha h)) (fun h => kf (gn_nle hb2 ha h))
theorem g_ifN_ge (hX : gOK X K nL cc own Ts) {a : Nat} {off : Int} {tgt : Nat} (ha : a < 2 ^ 31) (hd : decode cc pc = .ok (.ifCond .ge off, 3)) (ht : (pc : Int) + off = (tgt : Int)) (kt : 0 ≤ a → VG X l R K nL k n ws lv stk tgt) (kf : a < 0 → VG X l R K nL k n ws lv stk (pc + 3)) : VG X l R K nL k n ws lv (.int (nI a) :: stk) pc := g_if_ge hX hd ht (fun h => kt (have hb2 : (0 : Nat) < 2 ^ 31 := by omega
    gn_le hb2 ha h)) (fun h => kf (have hb2 : (0 : Nat) < 2 ^ 31 := by omega
    gn_nle hb2 ha h))
theorem g_icmpN_gt (hX : gOK X K nL cc own Ts) {a b : Nat} {off : Int} {tgt : Nat} (ha : a < 2 ^ 31) (hb2 : b < 2 ^ 31) (hd : decode cc pc = .ok (.if_icmp .gt off, 3)) (ht : (pc : Int) + off = (tgt : Int)) (kt : b < a → VG X l R K nL k n ws lv stk tgt) (kf : a ≤ b → VG X l R K nL k n ws lv stk (pc + 3)) : VG X l R K nL k n ws lv (.int (nI b) :: .int (nI a) :: stk) pc := g_icmp_gt hX hd ht (fun h => kt (gn_lt hb2 ha h)) (fun h => kf (gn_nlt hb2 ha h))
theorem g_ifN_gt (hX : gOK X K nL cc own Ts) {a : Nat} {off : Int} {tgt : Nat} (ha : a < 2 ^ 31) (hd : decode cc pc = .ok (.ifCond .gt off, 3)) (ht : (pc : Int) + off = (tgt : Int)) (kt : 0 < a → VG X l R K nL k n ws lv stk tgt) (kf : a ≤ 0 → VG X l R K nL k n ws lv stk (pc + 3)) : VG X l R K nL k n ws lv (.int (nI a) :: stk) pc := g_if_gt hX hd ht (fun h => kt (have hb2 : (0 : Nat) < 2 ^ 31 := by omega
    gn_lt hb2 ha h)) (fun h => kf (have hb2 : (0 : Nat) < 2 ^ 31 := by omega
    gn_nlt hb2 ha h))
theorem g_icmpN_le (hX : gOK X K nL cc own Ts) {a b : Nat} {off : Int} {tgt : Nat} (ha : a < 2 ^ 31) (hb2 : b < 2 ^ 31) (hd : decode cc pc = .ok (.if_icmp .le off, 3)) (ht : (pc : Int) + off = (tgt : Int)) (kt : a ≤ b → VG X l R K nL k n ws lv stk tgt) (kf : b < a → VG X l R K nL k n ws lv stk (pc + 3)) : VG X l R K nL k n ws lv (.int (nI b) :: .int (nI a) :: stk) pc := g_icmp_le hX hd ht (fun h => kt (gn_le ha hb2 h)) (fun h => kf (gn_nle ha hb2 h))
theorem g_ifN_le (hX : gOK X K nL cc own Ts) {a : Nat} {off : Int} {tgt : Nat} (ha : a < 2 ^ 31) (hd : decode cc pc = .ok (.ifCond .le off, 3)) (ht : (pc : Int) + off = (tgt : Int)) (kt : a ≤ 0 → VG X l R K nL k n ws lv stk tgt) (kf : 0 < a → VG X l R K nL k n ws lv stk (pc + 3)) : VG X l R K nL k n ws lv (.int (nI a) :: stk) pc := g_if_le hX hd ht (fun h => kt (have hb2 : (0 : Nat) < 2 ^ 31 := by omega
    gn_le ha hb2 h)) (fun h => kf (have hb2 : (0 : Nat) < 2 ^ 31 := by omega
    gn_nle ha hb2 h))
theorem g_ifB_eq (hX : gOK X K nL cc own Ts) {b : Bool} {off : Int} {tgt : Nat} (hd : decode cc pc = .ok (.ifCond .eq off, 3)) (ht : (pc : Int) + off = (tgt : Int)) (kt : b = false → VG X l R K nL k n ws lv stk tgt) (kf : b = true → VG X l R K nL k n ws lv stk (pc + 3)) : VG X l R K nL k n ws lv (.int (bI b) :: stk) pc := by
  cases b with
  | false => exact g_if_eq hX hd ht (fun _ => kt rfl) (fun h => absurd rfl h)
  | true => exact g_if_eq hX hd ht (fun h => absurd h (by decide)) (fun _ => kf rfl)
theorem g_ifB_ne (hX : gOK X K nL cc own Ts) {b : Bool} {off : Int} {tgt : Nat} (hd : decode cc pc = .ok (.ifCond .ne off, 3)) (ht : (pc : Int) + off = (tgt : Int)) (kt : b = true → VG X l R K nL k n ws lv stk tgt) (kf : b = false → VG X l R K nL k n ws lv stk (pc + 3)) : VG X l R K nL k n ws lv (.int (bI b) :: stk) pc := by
  cases b with
  | false => exact g_if_ne hX hd ht (fun h => absurd rfl h) (fun _ => kf rfl)
  | true => exact g_if_ne hX hd ht (fun _ => kt rfl) (fun h => absurd h (by decide))

theorem g_ifnull (hX : gOK X K nL cc own Ts) {x : Nat} {off : Int} (hd : decode cc pc = .ok (.ifnull off, 3)) (kk : VG X l R K nL k n ws lv stk (pc + 3)) : VG X l R K nL k n ws lv (.ref x :: stk) pc := by
  obtain ⟨p, e, s, m, args, below, meth, c, A, Q⟩ := X
  obtain ⟨hx, hb, hml, hown, hts0, hK, hA⟩ := hX
  have hts : ∀ w ∈ Ts, w.before args s = true := fun w hw => by
    obtain ⟨a, ha, h⟩ := hts0 w hw
    rw [ha] at h
    exact h
  intro H locs ls hP hD hS hl
  exact lv_ifnull hx hb hd (kk H locs ls hP hD hS hl)
theorem g_ifnonnull (hX : gOK X K nL cc own Ts) {x : Nat} {off : Int} {tgt : Nat} (hd : decode cc pc = .ok (.ifnonnull off, 3)) (ht : (pc : Int) + off = (tgt : Int)) (kk : VG X l R K nL k n ws lv stk tgt) : VG X l R K nL k n ws lv (.ref x :: stk) pc := by
  obtain ⟨p, e, s, m, args, below, meth, c, A, Q⟩ := X
  obtain ⟨hx, hb, hml, hown, hts0, hK, hA⟩ := hX
  have hts : ∀ w ∈ Ts, w.before args s = true := fun w hw => by
    obtain ⟨a, ha, h⟩ := hts0 w hw
    rw [ha] at h
    exact h
  intro H locs ls hP hD hS hl
  exact lv_ifnonnull hx hb hd ht (kk H locs ls hP hD hS hl)
theorem g_ifnullN (hX : gOK X K nL cc own Ts) {off : Int} {tgt : Nat} (hd : decode cc pc = .ok (.ifnull off, 3)) (ht : (pc : Int) + off = (tgt : Int)) (kk : VG X l R K nL k n ws lv stk tgt) : VG X l R K nL k n ws lv (.null :: stk) pc := by
  obtain ⟨p, e, s, m, args, below, meth, c, A, Q⟩ := X
  obtain ⟨hx, hb, hml, hown, hts0, hK, hA⟩ := hX
  have hts : ∀ w ∈ Ts, w.before args s = true := fun w hw => by
    obtain ⟨a, ha, h⟩ := hts0 w hw
    rw [ha] at h
    exact h
  intro H locs ls hP hD hS hl
  exact lv_ifnullN hx hb hd ht (kk H locs ls hP hD hS hl)
theorem g_ifnonnullN (hX : gOK X K nL cc own Ts) {off : Int} (hd : decode cc pc = .ok (.ifnonnull off, 3)) (kk : VG X l R K nL k n ws lv stk (pc + 3)) : VG X l R K nL k n ws lv (.null :: stk) pc := by
  obtain ⟨p, e, s, m, args, below, meth, c, A, Q⟩ := X
  obtain ⟨hx, hb, hml, hown, hts0, hK, hA⟩ := hX
  have hts : ∀ w ∈ Ts, w.before args s = true := fun w hw => by
    obtain ⟨a, ha, h⟩ := hts0 w hw
    rw [ha] at h
    exact h
  intro H locs ls hP hD hS hl
  exact lv_ifnonnullN hx hb hd (kk H locs ls hP hD hS hl)
theorem g_tableOut (hX : gOK X K nL cc own Ts) {dflt lo hi : Int} {offs : Array Int} {len : Nat} {x : Int32} {tgt : Nat} (hd : decode cc pc = .ok (.tableswitch dflt lo hi offs, len)) (h : x.toInt < lo ∨ hi < x.toInt) (ht : (pc : Int) + dflt = (tgt : Int)) (kk : VG X l R K nL k n ws lv stk tgt) : VG X l R K nL k n ws lv (.int x :: stk) pc := by
  obtain ⟨p, e, s, m, args, below, meth, c, A, Q⟩ := X
  obtain ⟨hx, hb, hml, hown, hts0, hK, hA⟩ := hX
  have hts : ∀ w ∈ Ts, w.before args s = true := fun w hw => by
    obtain ⟨a, ha, h⟩ := hts0 w hw
    rw [ha] at h
    exact h
  intro H locs ls hP hD hS hl
  exact lv_tableOut hx hb hd h ht (kk H locs ls hP hD hS hl)
theorem g_tableIn (hX : gOK X K nL cc own Ts) {dflt lo hi : Int} {offs : Array Int} {len : Nat} {x : Int32} {off : Int} {tgt : Nat} (hd : decode cc pc = .ok (.tableswitch dflt lo hi offs, len)) (h1 : ¬ x.toInt < lo) (h2 : ¬ hi < x.toInt) (ho : offs[(x.toInt - lo).toNat]? = some off) (ht : (pc : Int) + off = (tgt : Int)) (kk : VG X l R K nL k n ws lv stk tgt) : VG X l R K nL k n ws lv (.int x :: stk) pc := by
  obtain ⟨p, e, s, m, args, below, meth, c, A, Q⟩ := X
  obtain ⟨hx, hb, hml, hown, hts0, hK, hA⟩ := hX
  have hts : ∀ w ∈ Ts, w.before args s = true := fun w hw => by
    obtain ⟨a, ha, h⟩ := hts0 w hw
    rw [ha] at h
    exact h
  intro H locs ls hP hD hS hl
  exact lv_tableIn hx hb hd h1 h2 ho ht (kk H locs ls hP hD hS hl)
theorem g_get (hX : gOK X K nL cc own Ts) {ref C : String} {T : u_T} {N ci index a : Nat} (hin : ∀ w ∈ u_ws C T N, w ∈ Ts) (q0 : Nat) {fs : List Value} (he : ws[q0]? = some (a, .inr (ci, fs))) (hc : vwCl[ci]? = some (C, T, N)) (j : Nat) (hj : j < N) (hlink : Cond.fieldLink own index ref (T j).2.1 (T j).2.2.1 ∈ Ts) (href : (T j).1 = ref) {v : Value} (hv : fs[j]? = some v) (hd : decode cc pc = .ok (.getfield index, 3)) (kk : VG X l R K nL k n ws lv (v :: stk) (pc + 3)) : VG X l R K nL k n ws lv (.ref a :: stk) pc := by
  obtain ⟨p, e, s, m, args, below, meth, c, A, Q⟩ := X
  obtain ⟨hx, hb, hml, hown, hts0, hK, hA⟩ := hX
  have hts : ∀ w ∈ Ts, w.before args s = true := fun w hw => by
    obtain ⟨a, ha, h⟩ := hts0 w hw
    rw [ha] at h
    exact h
  intro H locs ls hP hD hS hl
  subst href
  exact va_get hx hb hts hin hown hK.1 hP q0 he hc j hj (hts _ hlink) (fun _ h => h) hv hd (kk H locs ls hP hD hS hl)
theorem g_put (hX : gOK X K nL cc own Ts) {ref C : String} {T : u_T} {N ci index a : Nat} (hin : ∀ w ∈ u_ws C T N, w ∈ Ts) (ty0 : Nat → FieldType) (hty : ∀ k, k < N → parseFieldDescriptor (T k).2.2.1 = some (ty0 k)) (hnm : ∀ a, a < N → ∀ b, b < N → a ≠ b → (T a).2.1 ≠ (T b).2.1) (q0 : Nat) {fs : List Value} (he : ws[q0]? = some (a, .inr (ci, fs))) (hc : vwCl[ci]? = some (C, T, N)) (j : Nat) (hj : j < N) (hlink : Cond.fieldLink own index ref (T j).2.1 (T j).2.2.1 ∈ Ts) (href : (T j).1 = ref) (hfin : (T j).2.2.2 = false) {v : Value} (hn : narrow (ty0 j) v = v) (hfit : fits (ty0 j) v = true) (hl9 : j < fs.length) {ws' : va_W} (hw : ws.set q0 (a, .inr (ci, fs.set j v)) = ws') (hd : decode cc pc = .ok (.putfield index, 3)) (kk : VG X l R K nL k n ws' lv stk (pc + 3)) : VG X l R K nL k n ws lv (v :: .ref a :: stk) pc := by
  obtain ⟨p, e, s, m, args, below, meth, c, A, Q⟩ := X
  obtain ⟨hx, hb, hml, hown, hts0, hK, hA⟩ := hX
  have hts : ∀ w ∈ Ts, w.before args s = true := fun w hw => by
    obtain ⟨a, ha, h⟩ := hts0 w hw
    rw [ha] at h
    exact h
  intro H locs ls hP hD hS hl
  subst href hw
  exact va_put hx hb hts hin ty0 hty hnm hown hK.1 hP hD hS q0 he hc j hj (hts _ hlink) (fun _ h => h) hfin (hty j hj) hn hfit hl9 hd (fun H locs hP hD hS => kk H locs ls hP hD hS hl)
theorem g_putF (hX : gOK X K nL cc own Ts) {ref C : String} {T : u_T} {N ci index a : Nat} (hin2 : gIn X) (hin : ∀ w ∈ u_ws C T N, w ∈ Ts) (ty0 : Nat → FieldType) (hty : ∀ k, k < N → parseFieldDescriptor (T k).2.2.1 = some (ty0 k)) (hnm : ∀ a, a < N → ∀ b, b < N → a ≠ b → (T a).2.1 ≠ (T b).2.1) (q0 : Nat) {fs : List Value} (he : ws[q0]? = some (a, .inr (ci, fs))) (hc : vwCl[ci]? = some (C, T, N)) (j : Nat) (hj : j < N) (hlink : Cond.fieldLink own index ref (T j).2.1 (T j).2.2.1 ∈ Ts) (href : (T j).1 = ref) (hfin : (T j).2.2.2 = true) (hdecl : (T j).1 = own) {v : Value} (hn : narrow (ty0 j) v = v) (hfit : fits (ty0 j) v = true) (hl9 : j < fs.length) {ws' : va_W} (hw : ws.set q0 (a, .inr (ci, fs.set j v)) = ws') (hd : decode cc pc = .ok (.putfield index, 3)) (kk : VG X l R K nL k n ws' lv stk (pc + 3)) : VG X l R K nL k n ws lv (v :: .ref a :: stk) pc := by
  obtain ⟨p, e, s, m, args, below, meth, c, A, Q⟩ := X
  obtain ⟨hx, hb, hml, hown, hts0, hK, hA⟩ := hX
  have hts : ∀ w ∈ Ts, w.before args s = true := fun w hw => by
    obtain ⟨a, ha, h⟩ := hts0 w hw
    rw [ha] at h
    exact h
  intro H locs ls hP hD hS hl
  subst href hw
  exact va_putF hx hb hts hin ty0 hty hnm hown hK.1 hP hD hS q0 he hc j hj (hts _ hlink) (fun _ h => h) hfin hin2 hdecl (hty j hj) hn hfit hl9 hd (fun H locs hP hD hS => kk H locs ls hP hD hS hl)
theorem g_iald (hX : gOK X K nL cc own Ts) {a N i : Nat} {f : Nat → Int32} {v : Int32} (q0 : Nat) (ha : ws[q0]? = some (a, .inl (K.2.1, N, .inl f))) (hi : i < N) (hN : N < 2 ^ 31) (hv : f i = v) (hd : decode cc pc = .ok (.iaload, 1)) (kk : VG X l R K nL k n ws lv (.int v :: stk) (pc + 1)) : VG X l R K nL k n ws lv (.int (nI i) :: .ref a :: stk) pc := by
  obtain ⟨p, e, s, m, args, below, meth, c, A, Q⟩ := X
  obtain ⟨hx, hb, hml, hown, hts0, hK, hA⟩ := hX
  have hts : ∀ w ∈ Ts, w.before args s = true := fun w hw => by
    obtain ⟨a, ha, h⟩ := hts0 w hw
    rw [ha] at h
    exact h
  intro H locs ls hP hD hS hl
  have e : (nI i).toNatClampNeg = i := nI_clamp (Nat.lt_trans hi hN)
  subst hv
  refine va_iald hx hb hK.1 hP q0 0 ha rfl (vp_in_nI hi hN) hd ?_
  rw [e]
  exact kk H locs ls hP hD hS hl
theorem g_zald (hX : gOK X K nL cc own Ts) {a N i : Nat} {f : Nat → Int32} {v : Int32} (q0 : Nat) (ha : ws[q0]? = some (a, .inl (K.2.2.1, N, .inl f))) (hi : i < N) (hN : N < 2 ^ 31) (hv : f i = v) (hd : decode cc pc = .ok (.baload, 1)) (kk : VG X l R K nL k n ws lv (.int v :: stk) (pc + 1)) : VG X l R K nL k n ws lv (.int (nI i) :: .ref a :: stk) pc := by
  obtain ⟨p, e, s, m, args, below, meth, c, A, Q⟩ := X
  obtain ⟨hx, hb, hml, hown, hts0, hK, hA⟩ := hX
  have hts : ∀ w ∈ Ts, w.before args s = true := fun w hw => by
    obtain ⟨a, ha, h⟩ := hts0 w hw
    rw [ha] at h
    exact h
  intro H locs ls hP hD hS hl
  have e : (nI i).toNatClampNeg = i := nI_clamp (Nat.lt_trans hi hN)
  subst hv
  refine va_zald hx hb hK.1 hP q0 1 ha rfl (vp_in_nI hi hN) hd ?_
  rw [e]
  exact kk H locs ls hP hD hS hl
theorem g_iast (hX : gOK X K nL cc own Ts) {a N i : Nat} {f : Nat → Int32} {x : Int32} (q0 : Nat) (ha : ws[q0]? = some (a, .inl (K.2.1, N, .inl f))) (hi : i < N) (hN : N < 2 ^ 31) {ws' : va_W} (hw : ws.set q0 (a, .inl (K.2.1, N, .inl (upd f i x))) = ws') (hd : decode cc pc = .ok (.iastore, 1)) (kk : VG X l R K nL k n ws' lv stk (pc + 1)) : VG X l R K nL k n ws lv (.int x :: .int (nI i) :: .ref a :: stk) pc := by
  obtain ⟨p, e, s, m, args, below, meth, c, A, Q⟩ := X
  obtain ⟨hx, hb, hml, hown, hts0, hK, hA⟩ := hX
  have hts : ∀ w ∈ Ts, w.before args s = true := fun w hw => by
    obtain ⟨a, ha, h⟩ := hts0 w hw
    rw [ha] at h
    exact h
  intro H locs ls hP hD hS hl
  have e : (nI i).toNatClampNeg = i := nI_clamp (Nat.lt_trans hi hN)
  subst hw
  refine va_iast hx hb hK.1 hP hD hS q0 0 ha rfl (vp_in_nI hi hN) hd (fun H locs hP hD hS => ?_)
  rw [e] at hP hD
  exact kk H locs ls hP hD hS hl
theorem g_zast (hX : gOK X K nL cc own Ts) {a N i : Nat} {f : Nat → Int32} {x : Int32} (q0 : Nat) (ha : ws[q0]? = some (a, .inl (K.2.2.1, N, .inl f))) (hi : i < N) (hN : N < 2 ^ 31) (hxv : vp_nar .boolean x = x) {ws' : va_W} (hw : ws.set q0 (a, .inl (K.2.2.1, N, .inl (upd f i x))) = ws') (hd : decode cc pc = .ok (.bastore, 1)) (kk : VG X l R K nL k n ws' lv stk (pc + 1)) : VG X l R K nL k n ws lv (.int x :: .int (nI i) :: .ref a :: stk) pc := by
  obtain ⟨p, e, s, m, args, below, meth, c, A, Q⟩ := X
  obtain ⟨hx, hb, hml, hown, hts0, hK, hA⟩ := hX
  have hts : ∀ w ∈ Ts, w.before args s = true := fun w hw => by
    obtain ⟨a, ha, h⟩ := hts0 w hw
    rw [ha] at h
    exact h
  intro H locs ls hP hD hS hl
  have e : (nI i).toNatClampNeg = i := nI_clamp (Nat.lt_trans hi hN)
  subst hw
  refine va_zast hx hb hK.1 hP hD hS q0 1 ha rfl (vp_in_nI hi hN) hd (fun H locs hP hD hS => ?_)
  rw [e, hxv] at hP hD
  exact kk H locs ls hP hD hS hl
theorem g_aldq (hX : gOK X K nL cc own Ts) {a N i : Nat} {f : Nat → Option Nat} {v : Value} (q0 : Nat) (ha : ws[q0]? = some (a, .inl (K.2.2.2, N, .inr (.inr (.inr (.inr f)))))) (hi : i < N) (hN : N < 2 ^ 31) (hv : va_rf (f i) = v) (hd : decode cc pc = .ok (.aaload, 1)) (kk : VG X l R K nL k n ws lv (v :: stk) (pc + 1)) : VG X l R K nL k n ws lv (.int (nI i) :: .ref a :: stk) pc := by
  obtain ⟨p, e, s, m, args, below, meth, c, A, Q⟩ := X
  obtain ⟨hx, hb, hml, hown, hts0, hK, hA⟩ := hX
  have hts : ∀ w ∈ Ts, w.before args s = true := fun w hw => by
    obtain ⟨a, ha, h⟩ := hts0 w hw
    rw [ha] at h
    exact h
  intro H locs ls hP hD hS hl
  have e : (nI i).toNatClampNeg = i := nI_clamp (Nat.lt_trans hi hN)
  subst hv
  refine va_aldq hx hb hK.1 hP q0 2 ha rfl (vp_in_nI hi hN) hd ?_
  rw [e]
  exact kk H locs ls hP hD hS hl
theorem g_astq (hX : gOK X K nL cc own Ts) {a N i v : Nat} {vs : List Value} {f : Nat → Option Nat} (q0 qk : Nat) (ha : ws[q0]? = some (a, .inl (K.2.2.2, N, .inr (.inr (.inr (.inr f)))))) (hv : ws[qk]? = some (v, .inr (0, vs))) (hi : i < N) (hN : N < 2 ^ 31) {ws' : va_W} (hw : ws.set q0 (a, .inl (K.2.2.2, N, .inr (.inr (.inr (.inr (va_up f i (some v))))))) = ws') (hd : decode cc pc = .ok (.aastore, 1)) (kk : VG X l R K nL k n ws' lv stk (pc + 1)) : VG X l R K nL k n ws lv (.ref v :: .int (nI i) :: .ref a :: stk) pc := by
  obtain ⟨p, e, s, m, args, below, meth, c, A, Q⟩ := X
  obtain ⟨hx, hb, hml, hown, hts0, hK, hA⟩ := hX
  have hts : ∀ w ∈ Ts, w.before args s = true := fun w hw => by
    obtain ⟨a, ha, h⟩ := hts0 w hw
    rw [ha] at h
    exact h
  intro H locs ls hP hD hS hl
  have e : (nI i).toNatClampNeg = i := nI_clamp (Nat.lt_trans hi hN)
  subst hw
  refine va_astq hx hb hK.1 hP hD hS q0 2 qk 0 (r := (RX0, TX0, 2)) ha rfl hv rfl (vp_in_nI hi hN) hd (fun H locs hP hD hS => ?_)
  rw [e] at hP hD
  exact kk H locs ls hP hD hS hl
theorem gK.arr {K : gT} {U : State} (h : gK K U) {cA : ClassId} (h2 : va_K K.1 vwCl (gTy K ++ [(cA, .int)]) U) : cA = K.2.1 := by
  have h3 := (h2.2 3 (cA, .int) rfl).2
  have h4 := (h2.2 0 (K.2.1, .int) rfl).2
  exact Option.some.inj (h3.symm.trans h4)
theorem gK.arrZ {K : gT} {U : State} (h : gK K U) {cA : ClassId} (h2 : va_K K.1 vwCl (gTy K ++ [(cA, .boolean)]) U) : cA = K.2.2.1 := by
  have h3 := (h2.2 3 (cA, .boolean) rfl).2
  have h4 := (h2.2 1 (K.2.2.1, .boolean) rfl).2
  exact Option.some.inj (h3.symm.trans h4)
theorem gK.arrQ {K : gT} {U : State} (h : gK K U) {cA : ClassId} (h2 : va_K K.1 vwCl (gTy K ++ [(cA, .object RX0)]) U) : cA = K.2.2.2 := by
  obtain ⟨-, -, -, -, -, h3⟩ := (h2.2 3 (cA, .object RX0) rfl).2
  obtain ⟨-, -, -, -, -, h4⟩ := (h2.2 2 (K.2.2.2, .object RX0) rfl).2
  exact Option.some.inj (h3.symm.trans h4)

theorem g_newI (hX : gOK X K nL cc own Ts) {N : Nat} (harr : Cond.arrayClass .int ∈ Ts) (hN : N < 2 ^ 31) (hbytes : N * 4 ≤ 536870912) (hcells : k + 1 ≤ R.cells) (hslots : n + N ≤ R.slots) (hd : decode cc pc = .ok (.newarray .int, 2)) (kk : ∀ q : Nat, VG X l R K nL (k + 1) (n + N) (ws ++ [(q, .inl (K.2.1, N, .inl (fun _ => 0)))]) lv (.ref q :: stk) (pc + 2)) : VG X l R K nL k n ws lv (.int (nI N) :: stk) pc := by
  obtain ⟨p, e, s, m, args, below, meth, c, A, Q⟩ := X
  obtain ⟨hx, hb, hml, hown, hts0, hK, hA⟩ := hX
  have hts : ∀ w ∈ Ts, w.before args s = true := fun w hw => by
    obtain ⟨a, ha, h⟩ := hts0 w hw
    rw [ha] at h
    exact h
  intro H locs ls hP hD hS hl
  refine va_newa (atype := .int) (ty := .int) (N' := N) (a0 := (N, .inl (fun _ => 0))) hx hb (hts _ harr) rfl hK.1 hP hD hS hA (fun cA => ?_) (nI_pos hN) (nI_clamp hN) ?_ hcells hslots hd (fun q cA H hK2 hP hD hS => ?_)
  · rw [vp_cell_i]
    rfl
  · refine Nat.le_trans (Nat.mul_le_mul_left N ?_) hbytes
    decide
  · have e := gK.arr hK hK2
    subst e
    exact kk q H locs ls hP hD hS hl
theorem g_newZ (hX : gOK X K nL cc own Ts) {N : Nat} (harr : Cond.arrayClass .boolean ∈ Ts) (hN : N < 2 ^ 31) (hbytes : N * 4 ≤ 536870912) (hcells : k + 1 ≤ R.cells) (hslots : n + N ≤ R.slots) (hd : decode cc pc = .ok (.newarray .boolean, 2)) (kk : ∀ q : Nat, VG X l R K nL (k + 1) (n + N) (ws ++ [(q, .inl (K.2.2.1, N, .inl (fun _ => 0)))]) lv (.ref q :: stk) (pc + 2)) : VG X l R K nL k n ws lv (.int (nI N) :: stk) pc := by
  obtain ⟨p, e, s, m, args, below, meth, c, A, Q⟩ := X
  obtain ⟨hx, hb, hml, hown, hts0, hK, hA⟩ := hX
  have hts : ∀ w ∈ Ts, w.before args s = true := fun w hw => by
    obtain ⟨a, ha, h⟩ := hts0 w hw
    rw [ha] at h
    exact h
  intro H locs ls hP hD hS hl
  refine va_newa (atype := .boolean) (ty := .boolean) (N' := N) (a0 := (N, .inl (fun _ => 0))) hx hb (hts _ harr) rfl hK.1 hP hD hS hA (fun cA => ?_) (nI_pos hN) (nI_clamp hN) ?_ hcells hslots hd (fun q cA H hK2 hP hD hS => ?_)
  · rw [vp_cell_i]
    rfl
  · refine Nat.le_trans (Nat.mul_le_mul_left N ?_) hbytes
    decide
  · have e := gK.arrZ hK hK2
    subst e
    exact kk q H locs ls hP hD hS hl
theorem g_newQ (hX : gOK X K nL cc own Ts) {N index : Nat} (hcl : Cond.classLink own index RX0 ∈ Ts) (hN : N < 2 ^ 31) (hbytes : N * 4 ≤ 536870912) (hcells : k + 1 ≤ R.cells) (hslots : n + N ≤ R.slots) (hd : decode cc pc = .ok (.anewarray index, 3)) (kk : ∀ q : Nat, VG X l R K nL (k + 1) (n + N) (ws ++ [(q, .inl (K.2.2.2, N, .inr (.inr (.inr (.inr (fun _ => none))))))]) lv (.ref q :: stk) (pc + 3)) : VG X l R K nL k n ws lv (.int (nI N) :: stk) pc := by
  obtain ⟨p, e, s, m, args, below, meth, c, A, Q⟩ := X
  obtain ⟨hx, hb, hml, hown, hts0, hK, hA⟩ := hX
  have hts : ∀ w ∈ Ts, w.before args s = true := fun w hw => by
    obtain ⟨a, ha, h⟩ := hts0 w hw
    rw [ha] at h
    exact h
  intro H locs ls hP hD hS hl
  refine va_newq (C := RX0) (N' := N) hx hb hown (hts _ hcl) hK.2.1 hK.1 hP hD hS hA (nI_pos hN) (nI_clamp hN) hbytes hcells hslots hd (fun q cA H hK2 hP hD hS => ?_)
  have e := gK.arrQ hK hK2
  subst e
  exact kk q H locs ls hP hD hS hl
theorem g_new (hX : gOK X K nL cc own Ts) {C : String} {T : u_T} {N ci index : Nat} (hin : ∀ w ∈ u_ws C T N, w ∈ Ts) (ty : Nat → FieldType) (hty : ∀ k, k < N → parseFieldDescriptor (T k).2.2.1 = some (ty k)) (hcl : Cond.classLink own index C ∈ Ts) (hinst : Cond.instantiable C N ∈ Ts) (hini : Cond.initialized C ∈ Ts) (hc : vwCl[ci]? = some (C, T, N)) {fs : List Value} (hfs : ∀ j, j < N → defaultValue (ty j) = vp_V fs j) (hcells : k + 1 ≤ R.cells) (hslots : n + N ≤ R.slots) (hd : decode cc pc = .ok (.new index, 3)) (kk : ∀ q : Nat, VG X l R K nL (k + 1) (n + N) (ws ++ [(q, .inr (ci, fs))]) lv (.ref q :: stk) (pc + 3)) : VG X l R K nL k n ws lv stk pc := by
  obtain ⟨p, e, s, m, args, below, meth, c, A, Q⟩ := X
  obtain ⟨hx, hb, hml, hown, hts0, hK, hA⟩ := hX
  have hts : ∀ w ∈ Ts, w.before args s = true := fun w hw => by
    obtain ⟨a, ha, h⟩ := hts0 w hw
    rw [ha] at h
    exact h
  intro H locs ls hP hD hS hl
  exact va_new hx hb hts hin ty hty hown (hts _ hcl) (hts _ hinst) (hts _ hini) hK.1 hP hD hS hA hc hfs hcells hslots hd (fun q H hP hD hS => kk q H locs ls hP hD hS hl)
theorem g_copy (hX : gOK X K nL cc own Ts) {index a N0 N1 sp dp z a0 : Nat} {f g : Nat → Int32} (hlink : Cond.methodLink own index arraycopyName ∈ Ts) (hnat : Cond.native arraycopyName ∈ Ts) (hstat : Cond.static arraycopyName ∈ Ts) (hini : Cond.initialized "java/lang/System" ∈ Ts) (q0 q1 : Nat) (ha0 : ws[q0]? = some (a0, .inl (K.2.1, N0, .inl f))) (ha1 : ws[q1]? = some (a, .inl (K.2.1, N1, .inl g))) (h4 : sp + z ≤ N0) (h5 : dp + z ≤ N1) (hN0 : N0 < 2 ^ 31) (hN1 : N1 < 2 ^ 31) (hframes : 1 ≤ R.frames) (hlocals : (stk.map fun v => v.category).sum + (nativeFrameWords "java/lang/System" "arraycopy" 5 + 11) ≤ R.locals) {ws' : va_W} (hw : ws.set q1 (a, .inl (K.2.1, N1, .inl (va_cpy f g sp dp z))) = ws') (hd : decode cc pc = .ok (.invokestatic index, 3)) (kk : VG X l R K nL k n ws' lv stk (pc + 3)) : VG X l R K nL k n ws lv (.int (nI z) :: .int (nI dp) :: .ref a :: .int (nI sp) :: .ref a0 :: stk) pc := by
  obtain ⟨p, e, s, m, args, below, meth, c, A, Q⟩ := X
  obtain ⟨hx, hb, hml, hown, hts0, hK, hA⟩ := hX
  have hts : ∀ w ∈ Ts, w.before args s = true := fun w hw => by
    obtain ⟨a, ha, h⟩ := hts0 w hw
    rw [ha] at h
    exact h
  intro H locs ls hP hD hS hl
  have e1 : (nI sp).toNatClampNeg = sp := nI_clamp (by omega)
  have e2 : (nI dp).toNatClampNeg = dp := nI_clamp (by omega)
  have e3 : (nI z).toNatClampNeg = z := nI_clamp (by omega)
  subst hw
  refine va_copyi hx hb (by rw [hml]; exact hl.1.symm) hown (hts _ hlink) (hts _ hnat) (hts _ hstat) (hts _ hini) hK.1 hP hD hS q0 q1 0 0 ha0 ha1 rfl rfl rfl (nI_pos (by omega)) (nI_pos (by omega)) (nI_pos (by omega)) (by rw [e1, e3]; exact h4) (by rw [e2, e3]; exact h5) (fun _ _ => rfl) hframes hlocals hd (fun H locs hP hD hS => ?_)
  rw [e1, e2, e3] at hP hD
  exact kk H locs ls hP hD hS hl
theorem g_mmax (hX : gOK X K nL cc own Ts) {index : Nat} {x y z : Int32} (hlink : Cond.methodLink own index Lib.Math.max.name ∈ Ts) (hstat : Cond.static Lib.Math.max.name ∈ Ts) (hini : Cond.initialized "java/lang/Math" ∈ Ts) (hcode : Cond.code Lib.Math.max.name Lib.Math.max.code 2 (some .int) ∈ Ts) (hframes : 1 ≤ R.frames) (hlocals : (stk.map fun v => v.category).sum + 13 ≤ R.locals) (hc : k ≤ R.cells) (hs : n ≤ R.slots) (hz : (if x < y then y else x) = z) (hd : decode cc pc = .ok (.invokestatic index, 3)) (kk : VG X l R K nL k n ws lv (.int z :: stk) (pc + 3)) : VG X l R K nL k n ws lv (.int y :: .int x :: stk) pc := by
  obtain ⟨p, e, s, m, args, below, meth, c, A, Q⟩ := X
  obtain ⟨hx, hb, hml, hown, hts0, hK, hA⟩ := hX
  have hts : ∀ w ∈ Ts, w.before args s = true := fun w hw => by
    obtain ⟨a, ha, h⟩ := hts0 w hw
    rw [ha] at h
    exact h
  intro H locs ls hP hD hS hl
  subst hz
  exact va_mmax hx hb (by rw [hml]; exact hl.1.symm) hown (hts _ hlink) (hts _ hstat) (hts _ hini) (hts _ hcode) hframes hlocals hc hs hd (kk H locs ls hP hD hS hl)
theorem g_mmin (hX : gOK X K nL cc own Ts) {index : Nat} {x y z : Int32} (hlink : Cond.methodLink own index Lib.Math.min.name ∈ Ts) (hstat : Cond.static Lib.Math.min.name ∈ Ts) (hini : Cond.initialized "java/lang/Math" ∈ Ts) (hcode : Cond.code Lib.Math.min.name Lib.Math.min.code 2 (some .int) ∈ Ts) (hframes : 1 ≤ R.frames) (hlocals : (stk.map fun v => v.category).sum + 13 ≤ R.locals) (hc : k ≤ R.cells) (hs : n ≤ R.slots) (hz : (if y < x then y else x) = z) (hd : decode cc pc = .ok (.invokestatic index, 3)) (kk : VG X l R K nL k n ws lv (.int z :: stk) (pc + 3)) : VG X l R K nL k n ws lv (.int y :: .int x :: stk) pc := by
  obtain ⟨p, e, s, m, args, below, meth, c, A, Q⟩ := X
  obtain ⟨hx, hb, hml, hown, hts0, hK, hA⟩ := hX
  have hts : ∀ w ∈ Ts, w.before args s = true := fun w hw => by
    obtain ⟨a, ha, h⟩ := hts0 w hw
    rw [ha] at h
    exact h
  intro H locs ls hP hD hS hl
  subst hz
  exact va_mmin hx hb (by rw [hml]; exact hl.1.symm) hown (hts _ hlink) (hts _ hstat) (hts _ hini) (hts _ hcode) hframes hlocals hc hs hd (kk H locs ls hP hD hS hl)
theorem g_objInit (hX : gOK X K nL cc own Ts) {index a : Nat} (hlink : Cond.methodLink own index objectInit ∈ Ts) (hinst : Cond.instanceMethod objectInit ∈ Ts) (hcode : Cond.code objectInit ⟨#[0xb1]⟩ 1 none ∈ Ts) (hframes : 1 ≤ R.frames) (hlocals : (stk.map fun v => v.category).sum + 12 ≤ R.locals) (hd : decode cc pc = .ok (.invokespecial index, 3)) (kk : VG X l R K nL k n ws lv stk (pc + 3)) : VG X l R K nL k n ws lv (.ref a :: stk) pc := by
  obtain ⟨p, e, s, m, args, below, meth, c, A, Q⟩ := X
  obtain ⟨hx, hb, hml, hown, hts0, hK, hA⟩ := hX
  have hts : ∀ w ∈ Ts, w.before args s = true := fun w hw => by
    obtain ⟨a, ha, h⟩ := hts0 w hw
    rw [ha] at h
    exact h
  intro H locs ls hP hD hS hl
  refine W.objInit hx hb hown (hts _ hlink) (hts _ hinst) (hts _ hcode) rfl (by rw [hml]; exact hl.1) rfl hd hframes (by show 2 * 0 + _ + 12 ≤ _; omega) ?_
  exact W.eq (g2 := F0 m (pc + 3) ls stk) rfl (kk H locs ls hP hD hS hl)
def gGo (X : gX) (l : Launch) (R : Room) (K : gT) (nL k n mc ms : Nat) (ws : va_W) (lv : List (Nat × Value)) (st stk : List Value) (pc : Nat) (Qf : Nat → Array Value → State → Outcome → State → Prop) (wc : va_W) : Prop := match X with
  | (p, e, s, m, args, below, meth, c, A, Q) => ∀ (H : Heap) (locs : List Loc) (ls : Array Slot), va_P K.1 vwCl ws H → va_D A ws → va_S A s.heap H locs → lv_has ls nL lv → ∃ a : Array Value, va_Run p l e R s m args below meth c H locs k n mc ms (F0 m pc ls st) stk (Qf H.size a) (va_A wc H.size)

theorem g_goV (hX : gOK X K nL cc own Ts) {index maxL mc ms : Nat} {y : MethodName} {bytes : ByteArray} {ret : Option FieldType} {wsl wsl' : List Cond} {rm : Room} {Qf : Nat → Array Value → State → Outcome → State → Prop} {As : List Value} {wc : va_W} {b : Nat} {st : List Value} (hM : ∀ sz : Nat, Met l y wsl rm (gPre K (.ref b :: As) wc sz) (Qf sz) mc ms (va_A wc sz)) (hw : wsl = .code y bytes maxL ret :: wsl') (hrc : rm.cells = mc) (hrs : rm.slots = ms) {C : String} {T : u_T} {N ci : Nat} {fs : List Value} (hT : GoodIn Ts (wsV own index C y wsl)) (hd2 : y.cls = C ∧ y.cls ≠ "java/lang/invoke/MethodHandle" ∧ y.cls ≠ "java/lang/invoke/VarHandle" ∧ (parseMethodDescriptor y.desc).map (fun d => d.parameters.length) = some As.length) (hc : vwCl[ci]? = some (C, T, N)) (z : Nat) (hz : wc[z]? = some (b, .inr (ci, fs))) (hR : rm.frames + 1 ≤ R.frames ∧ 8 + (maxL + 11) + rm.locals ≤ R.locals) (isC : List Nat) (hnC : va_nd isC = true) (hC : isC.map (fun i => ws[i]?) = wc.map some) (hst : st = As.reverse ++ .ref b :: stk) (hcat : (stk.map fun v => v.category).sum ≤ 8) (hd : decode cc pc = .ok (.invokevirtual index, 3)) (hf : k + mc ≤ R.cells ∧ n + ms ≤ R.slots) : gGo X l R K nL k n mc ms ws lv st stk pc Qf wc := by
  obtain ⟨p, e, s, m, args, below, meth, c, A, Q⟩ := X
  obtain ⟨hx, hb, hml, hown, hts0, hK, hA⟩ := hX
  have hts : ∀ w ∈ Ts, w.before args s = true := fun w hw => by
    obtain ⟨a, ha, h⟩ := hts0 w hw
    rw [ha] at h
    exact h
  intro H locs ls hP hD hS hl
  have hPc : va_P K.1 vwCl wc H := hP.sub isC (by
    have h2 : ∀ (ps : List Nat) (ws' : va_W), ps.map (fun i => ws[i]?) = ws'.map some → ps.filterMap (fun i => ws[i]?) = ws' := by
      intro ps
      induction ps with
      | nil => intro ws' h; cases ws' with | nil => rfl | cons a b => simp at h
      | cons i is ih =>
        intro ws' h
        cases ws' with
        | nil => simp at h
        | cons a b =>
          simp only [List.map_cons, List.cons.injEq] at h
          rw [List.filterMap_cons, h.1]
          simp only [ih b h.2]
    exact h2 isC wc hC)
  have hDc : va_D (fun _ => True) wc := (hD.sub isC hnC hC).weaken (fun _ _ _ _ => trivial)
  exact ⟨_, va_runV (As := As) (rest := stk) ⟨hx, hb, hml, hown, hts⟩ (hM H.size) (cwV As.length hts hT hw hrc hrs hd2 hR) ⟨gPre.blind _ _ _ _, va_recv hK.1 hPc hc hz, fun U hU hW => ⟨rfl, by rw [hU], by rw [hU]; exact hPc, gK.warm hW hK, hDc⟩⟩ rfl rfl hl.1 hst (lv_room hcat) hd hf⟩
theorem g_goS (hX : gOK X K nL cc own Ts) {index maxL mc ms : Nat} {y : MethodName} {bytes : ByteArray} {ret : Option FieldType} {wsl wsl' : List Cond} {rm : Room} {Qf : Nat → Array Value → State → Outcome → State → Prop} {As : List Value} {wc : va_W} {st : List Value} (hM : ∀ sz : Nat, Met l y wsl rm (gPre K (As) wc sz) (Qf sz) mc ms (va_A wc sz)) (hw : wsl = .code y bytes maxL ret :: wsl') (hrc : rm.cells = mc) (hrs : rm.slots = ms) (hT : GoodIn Ts (va_wsS own index y wsl)) (hd2 : y.cls ≠ "java/lang/invoke/MethodHandle" ∧ y.cls ≠ "java/lang/invoke/VarHandle" ∧ (parseMethodDescriptor y.desc).map (fun d => d.parameters.length) = some As.length) (hR : rm.frames + 1 ≤ R.frames ∧ 8 + (maxL + 11) + rm.locals ≤ R.locals) (isC : List Nat) (hnC : va_nd isC = true) (hC : isC.map (fun i => ws[i]?) = wc.map some) (hst : st = As.reverse ++ stk) (hcat : (stk.map fun v => v.category).sum ≤ 8) (hd : decode cc pc = .ok (.invokestatic index, 3)) (hf : k + mc ≤ R.cells ∧ n + ms ≤ R.slots) : gGo X l R K nL k n mc ms ws lv st stk pc Qf wc := by
  obtain ⟨p, e, s, m, args, below, meth, c, A, Q⟩ := X
  obtain ⟨hx, hb, hml, hown, hts0, hK, hA⟩ := hX
  have hts : ∀ w ∈ Ts, w.before args s = true := fun w hw => by
    obtain ⟨a, ha, h⟩ := hts0 w hw
    rw [ha] at h
    exact h
  intro H locs ls hP hD hS hl
  have hPc : va_P K.1 vwCl wc H := hP.sub isC (by
    have h2 : ∀ (ps : List Nat) (ws' : va_W), ps.map (fun i => ws[i]?) = ws'.map some → ps.filterMap (fun i => ws[i]?) = ws' := by
      intro ps
      induction ps with
      | nil => intro ws' h; cases ws' with | nil => rfl | cons a b => simp at h
      | cons i is ih =>
        intro ws' h
        cases ws' with
        | nil => simp at h
        | cons a b =>
          simp only [List.map_cons, List.cons.injEq] at h
          rw [List.filterMap_cons, h.1]
          simp only [ih b h.2]
    exact h2 isC wc hC)
  have hDc : va_D (fun _ => True) wc := (hD.sub isC hnC hC).weaken (fun _ _ _ _ => trivial)
  exact ⟨_, va_runS (As := As) (rest := stk) ⟨hx, hb, hml, hown, hts⟩ (hM H.size) (va_cwS As.length hts hT hw hrc hrs hd2 hR) ⟨gPre.blind _ _ _ _, fun U hU hW => ⟨rfl, by rw [hU], by rw [hU]; exact hPc, gK.warm hW hK, hDc⟩⟩ rfl rfl hl.1 hst (lv_room hcat) hd hf⟩
theorem g_goI (hX : gOK X K nL cc own Ts) {index maxL mc ms : Nat} {y : MethodName} {bytes : ByteArray} {wsl wsl' : List Cond} {rm : Room} {Qf : Nat → Array Value → State → Outcome → State → Prop} {As : List Value} {wc : va_W} {b : Nat} {st : List Value} (hM : ∀ sz : Nat, Met l y wsl rm (gPre K (.ref b :: As) wc sz) (Qf sz) mc ms (va_A wc sz)) (hw : wsl = .code y bytes maxL none :: wsl') (hrc : rm.cells = mc) (hrs : rm.slots = ms) (hT : GoodIn Ts wsl) (hini : Cond.initialized y.cls ∈ Ts) (hli : Cond.methodLink own index y ∈ Ts) (hinst : Cond.instanceMethod y ∈ Ts) (hy1 : y.name = "<init>") (hd2 : y.cls ≠ "java/lang/invoke/MethodHandle" ∧ y.cls ≠ "java/lang/invoke/VarHandle" ∧ (parseMethodDescriptor y.desc).map (fun d => d.parameters.length) = some As.length) (hR : rm.frames + 1 ≤ R.frames ∧ 8 + (maxL + 11) + rm.locals ≤ R.locals) (isC : List Nat) (hnC : va_nd isC = true) (hC : isC.map (fun i => ws[i]?) = wc.map some) (hst : st = As.reverse ++ .ref b :: stk) (hcat : (stk.map fun v => v.category).sum ≤ 8) (hd : decode cc pc = .ok (.invokespecial index, 3)) (hf : k + mc ≤ R.cells ∧ n + ms ≤ R.slots) : gGo X l R K nL k n mc ms ws lv st stk pc Qf wc := by
  obtain ⟨p, e, s, m, args, below, meth, c, A, Q⟩ := X
  obtain ⟨hx, hb, hml, hown, hts0, hK, hA⟩ := hX
  have hts : ∀ w ∈ Ts, w.before args s = true := fun w hw => by
    obtain ⟨a, ha, h⟩ := hts0 w hw
    rw [ha] at h
    exact h
  intro H locs ls hP hD hS hl
  have hPc : va_P K.1 vwCl wc H := hP.sub isC (by
    have h2 : ∀ (ps : List Nat) (ws' : va_W), ps.map (fun i => ws[i]?) = ws'.map some → ps.filterMap (fun i => ws[i]?) = ws' := by
      intro ps
      induction ps with
      | nil => intro ws' h; cases ws' with | nil => rfl | cons a b => simp at h
      | cons i is ih =>
        intro ws' h
        cases ws' with
        | nil => simp at h
        | cons a b =>
          simp only [List.map_cons, List.cons.injEq] at h
          rw [List.filterMap_cons, h.1]
          simp only [ih b h.2]
    exact h2 isC wc hC)
  have hDc : va_D (fun _ => True) wc := (hD.sub isC hnC hC).weaken (fun _ _ _ _ => trivial)
  exact ⟨_, va_runI (As := As) (rest := stk) ⟨hx, hb, hml, hown, hts⟩ (hM H.size) (cwI As.length hts hT hw hrc hrs (hts _ hini) (hts _ hli) (hts _ hinst) hy1 hd2 hR) ⟨gPre.blind _ _ _ _, fun U hU hW => ⟨rfl, by rw [hU], by rw [hU]; exact hPc, gK.warm hW hK, hDc⟩⟩ rfl rfl hl.1 hst (lv_room hcat) hd hf⟩
theorem g_goIN (hX : gOK X K nL cc own Ts) {index maxL mc ms : Nat} {y : MethodName} {bytes : ByteArray} {wsl wsl' : List Cond} {rm : Room} {Qf : Nat → Array Value → State → Outcome → State → Prop} {As : List Value} {wc : va_W} {b : Nat} {st : List Value} (hM : ∀ sz : Nat, Met l y wsl rm (gPre K (.ref b :: As) wc sz) (Qf sz) mc ms (va_A wc sz)) (hw : wsl = .code y bytes maxL none :: wsl') (hrc : rm.cells = mc) (hrs : rm.slots = ms) (hT : GoodIn Ts wsl) (hini : Cond.initialized y.cls ∈ Ts) (hidx : index = 17) (hye : y = yX0_init) (hoe : own = RX1) (hinst : Cond.instanceMethod y ∈ Ts) (hy1 : y.name = "<init>") (hd2 : y.cls ≠ "java/lang/invoke/MethodHandle" ∧ y.cls ≠ "java/lang/invoke/VarHandle" ∧ (parseMethodDescriptor y.desc).map (fun d => d.parameters.length) = some As.length) (hR : rm.frames + 1 ≤ R.frames ∧ 8 + (maxL + 11) + rm.locals ≤ R.locals) (isC : List Nat) (hnC : va_nd isC = true) (hC : isC.map (fun i => ws[i]?) = wc.map some) (hst : st = As.reverse ++ .ref b :: stk) (hcat : (stk.map fun v => v.category).sum ≤ 8) (hd : decode cc pc = .ok (.invokespecial index, 3)) (hf : k + mc ≤ R.cells ∧ n + ms ≤ R.slots) : gGo X l R K nL k n mc ms ws lv st stk pc Qf wc := by
  obtain ⟨p, e, s, m, args, below, meth, c, A, Q⟩ := X
  obtain ⟨hx, hb, hml, hown, hts0, hK, hA⟩ := hX
  have hts : ∀ w ∈ Ts, w.before args s = true := fun w hw => by
    obtain ⟨a, ha, h⟩ := hts0 w hw
    rw [ha] at h
    exact h
  intro H locs ls hP hD hS hl
  have hPc : va_P K.1 vwCl wc H := hP.sub isC (by
    have h2 : ∀ (ps : List Nat) (ws' : va_W), ps.map (fun i => ws[i]?) = ws'.map some → ps.filterMap (fun i => ws[i]?) = ws' := by
      intro ps
      induction ps with
      | nil => intro ws' h; cases ws' with | nil => rfl | cons a b => simp at h
      | cons i is ih =>
        intro ws' h
        cases ws' with
        | nil => simp at h
        | cons a b =>
          simp only [List.map_cons, List.cons.injEq] at h
          rw [List.filterMap_cons, h.1]
          simp only [ih b h.2]
    exact h2 isC wc hC)
  have hDc : va_D (fun _ => True) wc := (hD.sub isC hnC hC).weaken (fun _ _ _ _ => trivial)
  exact ⟨_, va_runIN (As := As) (rest := stk) (host := "TwoTierCache") ⟨hx, hb, hml, hown, hts⟩ (hM H.size) ⟨va_cnB As.length hts hT hw hrc hrs (by subst hidx hye hoe; exact hK.2.2) (hts _ hini) hd2 hR, hy1, hts _ hinst⟩ ⟨gPre.blind _ _ _ _, fun U hU hW => ⟨rfl, by rw [hU], by rw [hU]; exact hPc, gK.warm hW hK, hDc⟩⟩ rfl rfl hl.1 hst (lv_room hcat) hd hf⟩
theorem g_ci (hX : gOK X K nL cc own Ts) {S : Type} {mc ms : Nat} {wc wr : va_W} {post : Int32 → S → Prop} {Wd Wd' : S → va_W} {st : List Value} (hg : gGo X l R K nL k n mc ms ws lv st stk pc (fun sz => va_Qi post (gB K wc sz Wd) (va_A wc sz)) wc) (isC isR ps : List Nat) (hC : isC.map (fun i => ws[i]?) = wc.map some) (hR : isR.map (fun i => ws[i]?) = wr.map some) (hn : va_nd isR = true) (hdis : ∀ i ∈ isR, i ∉ isC) (hnp : va_nd ps = true) (hp : ∀ u, ps.map (fun i => (wr ++ Wd u)[i]?) = (Wd' u).map some) (kk : ∀ (r : Int32) (u : S), post r u → VG X l R K nL (k + mc) (n + ms) (Wd' u) lv (.int r :: stk) (pc + 3)) : VG X l R K nL k n ws lv st pc := by
  obtain ⟨p, e, s, m, args, below, meth, c, A, Q⟩ := X
  obtain ⟨hx, hb, hml, hown, hts0, hK, hA⟩ := hX
  have hts : ∀ w ∈ Ts, w.before args s = true := fun w hw => by
    obtain ⟨a, ha, h⟩ := hts0 w hw
    rw [ha] at h
    exact h
  intro H locs ls hP hD hS hl
  obtain ⟨a, hr⟩ := hg H locs ls hP hD hS hl
  have hFc := va_free (wc := wc) hD hS hA isC hC
  refine va_calli hr hS (fun q _ h => hFc q h) hFc (fun r u t H1 locs ht hvm hw hB hz1 hk1 hS => ?_)
  obtain ⟨hP1, hK1, hD1⟩ := hB
  rw [ht] at hP1
  obtain ⟨hP, hD⟩ := va_join (wr := wr) (w1 := Wd u) hP hD isC isR hC hR hn hdis hk1 hFc hP1 hD1
  exact (g_perm (X := (p, e, s, m, args, below, meth, c, A, Q)) ps hnp (hp u) (kk r u hw)) H1 locs ls hP hD hS hl
theorem g_cl (hX : gOK X K nL cc own Ts) {S : Type} {mc ms : Nat} {wc wr : va_W} {post : Int64 → S → Prop} {Wd Wd' : S → va_W} {st : List Value} (hg : gGo X l R K nL k n mc ms ws lv st stk pc (fun sz => va_Ql post (gB K wc sz Wd) (va_A wc sz)) wc) (isC isR ps : List Nat) (hC : isC.map (fun i => ws[i]?) = wc.map some) (hR : isR.map (fun i => ws[i]?) = wr.map some) (hn : va_nd isR = true) (hdis : ∀ i ∈ isR, i ∉ isC) (hnp : va_nd ps = true) (hp : ∀ u, ps.map (fun i => (wr ++ Wd u)[i]?) = (Wd' u).map some) (kk : ∀ (r : Int64) (u : S), post r u → VG X l R K nL (k + mc) (n + ms) (Wd' u) lv (.long r :: stk) (pc + 3)) : VG X l R K nL k n ws lv st pc := by
  obtain ⟨p, e, s, m, args, below, meth, c, A, Q⟩ := X
  obtain ⟨hx, hb, hml, hown, hts0, hK, hA⟩ := hX
  have hts : ∀ w ∈ Ts, w.before args s = true := fun w hw => by
    obtain ⟨a, ha, h⟩ := hts0 w hw
    rw [ha] at h
    exact h
  intro H locs ls hP hD hS hl
  obtain ⟨a, hr⟩ := hg H locs ls hP hD hS hl
  have hFc := va_free (wc := wc) hD hS hA isC hC
  refine va_calll hr hS (fun q _ h => hFc q h) hFc (fun r u t H1 locs ht hvm hw hB hz1 hk1 hS => ?_)
  obtain ⟨hP1, hK1, hD1⟩ := hB
  rw [ht] at hP1
  obtain ⟨hP, hD⟩ := va_join (wr := wr) (w1 := Wd u) hP hD isC isR hC hR hn hdis hk1 hFc hP1 hD1
  exact (g_perm (X := (p, e, s, m, args, below, meth, c, A, Q)) ps hnp (hp u) (kk r u hw)) H1 locs ls hP hD hS hl
theorem g_cv (hX : gOK X K nL cc own Ts) {S : Type} {mc ms : Nat} {wc wr : va_W} {post : S → Prop} {Wd Wd' : S → va_W} {st : List Value} (hg : gGo X l R K nL k n mc ms ws lv st stk pc (fun sz => va_Qv post (gB K wc sz Wd) (va_A wc sz)) wc) (isC isR ps : List Nat) (hC : isC.map (fun i => ws[i]?) = wc.map some) (hR : isR.map (fun i => ws[i]?) = wr.map some) (hn : va_nd isR = true) (hdis : ∀ i ∈ isR, i ∉ isC) (hnp : va_nd ps = true) (hp : ∀ u, ps.map (fun i => (wr ++ Wd u)[i]?) = (Wd' u).map some) (kk : ∀ (u : S), post u → VG X l R K nL (k + mc) (n + ms) (Wd' u) lv (stk) (pc + 3)) : VG X l R K nL k n ws lv st pc := by
  obtain ⟨p, e, s, m, args, below, meth, c, A, Q⟩ := X
  obtain ⟨hx, hb, hml, hown, hts0, hK, hA⟩ := hX
  have hts : ∀ w ∈ Ts, w.before args s = true := fun w hw => by
    obtain ⟨a, ha, h⟩ := hts0 w hw
    rw [ha] at h
    exact h
  intro H locs ls hP hD hS hl
  obtain ⟨a, hr⟩ := hg H locs ls hP hD hS hl
  have hFc := va_free (wc := wc) hD hS hA isC hC
  refine va_callv hr hS (fun q _ h => hFc q h) hFc (fun u t H1 locs ht hvm hw hB hz1 hk1 hS => ?_)
  obtain ⟨hP1, hK1, hD1⟩ := hB
  rw [ht] at hP1
  obtain ⟨hP, hD⟩ := va_join (wr := wr) (w1 := Wd u) hP hD isC isR hC hR hn hdis hk1 hFc hP1 hD1
  exact (g_perm (X := (p, e, s, m, args, below, meth, c, A, Q)) ps hnp (hp u) (kk u hw)) H1 locs ls hP hD hS hl
theorem g_cq (hX : gOK X K nL cc own Ts) {S : Type} {mc ms : Nat} {wc wr : va_W} {post : Option Nat → S → Prop} {Wd Wd' : S → va_W} {st : List Value} (hg : gGo X l R K nL k n mc ms ws lv st stk pc (fun sz => va_Qq post (gB K wc sz Wd) (va_A wc sz)) wc) (isC isR ps : List Nat) (hC : isC.map (fun i => ws[i]?) = wc.map some) (hR : isR.map (fun i => ws[i]?) = wr.map some) (hn : va_nd isR = true) (hdis : ∀ i ∈ isR, i ∉ isC) (hnp : va_nd ps = true) (hp : ∀ u, ps.map (fun i => (wr ++ Wd u)[i]?) = (Wd' u).map some) (kk : ∀ (r : Option Nat) (u : S), post r u → VG X l R K nL (k + mc) (n + ms) (Wd' u) lv (va_rf r :: stk) (pc + 3)) : VG X l R K nL k n ws lv st pc := by
  obtain ⟨p, e, s, m, args, below, meth, c, A, Q⟩ := X
  obtain ⟨hx, hb, hml, hown, hts0, hK, hA⟩ := hX
  have hts : ∀ w ∈ Ts, w.before args s = true := fun w hw => by
    obtain ⟨a, ha, h⟩ := hts0 w hw
    rw [ha] at h
    exact h
  intro H locs ls hP hD hS hl
  obtain ⟨a, hr⟩ := hg H locs ls hP hD hS hl
  have hFc := va_free (wc := wc) hD hS hA isC hC
  refine va_callq hr hS (fun q _ h => hFc q h) hFc (fun r u t H1 locs ht hvm hw hB hz1 hk1 hS => ?_)
  obtain ⟨hP1, hK1, hD1⟩ := hB
  rw [ht] at hP1
  obtain ⟨hP, hD⟩ := va_join (wr := wr) (w1 := Wd u) hP hD isC isR hC hR hn hdis hk1 hFc hP1 hD1
  exact (g_perm (X := (p, e, s, m, args, below, meth, c, A, Q)) ps hnp (hp u) (kk r u hw)) H1 locs ls hP hD hS hl
theorem m_i {S : Type} {y : MethodName} {wsl wsl' : List Cond} {rm : Room} {As : List Value} {ws0 : va_W} {post : Int32 → S → Prop} {Wd : S → va_W} {mc ms maxL : Nat} (hy : plainName y.cls = true) (hw : wsl = .code y cc maxL (some .int) :: wsl') (hcls : y.cls = own) (hlen : (lg_sl As).length ≤ maxL) {lv0 : List (Nat × Value)} (hlv : lv_args 0 As = lv0) (body : ∀ X : gX, gOK X K maxL cc own wsl → (y.name = "<init>" → gIn X) → (∀ {v : Int32} {u : S} {ws : va_W} {lv : List (Nat × Value)} {pc : Nat}, decode cc pc = .ok (.ireturn, 1) → post v u → ws = Wd u → VG X l rm K maxL mc ms ws lv [.int v] pc) → VG X l rm K maxL 0 0 ws0 lv0 [] 0) : Ci l y wsl rm K As ws0 post Wd mc ms := by
  intro sz
  refine Met.ofW hy hw ?_
  intro p e s m args below meth c s₁ B hml hv
  obtain ⟨rfl, hsz, hP, hK, hD0⟩ := hv
  subst hsz
  have hD := hD0.self (sz := s.heap.size)
  have hl := lv_entry As (n := maxL) hlen
  rw [hlv] at hl
  rw [lg_entry_eq]
  have hts := atoms_spec (ws := wsl) B.pre
  have hown : s.vm.findClass own = some m.cls := by rw [← hcls]; exact findClass_of_methodNamed B.named
  have hr := B.returns
  have hlocks := B.notSynchronized
  refine body (p, e, s, m, As.toArray, below, meth, c, va_A ws0 s.heap.size, _) ⟨B.exec, B.bytes, hml, hown, fun w hw => ⟨_, rfl, hts w hw⟩, hK, fun q h => Or.inr h⟩ (fun h => (name_of_methodNamed B.named B.method).1.trans h) ?_ s.heap [] _ hP hD va_S.rf hl
  intro v u ws lv pc hd hpost hw2 H locs ls hP hD hS hl
  subst hw2
  exact W.iret B.exec B.bytes hr (fun t ht hW => ⟨⟨v, u, rfl, hpost, by rw [ht]; exact hP, gK.warm hW hK, hD⟩, hS.F ht⟩) hS.2.2 hd
theorem m_z {S : Type} {y : MethodName} {wsl wsl' : List Cond} {rm : Room} {As : List Value} {ws0 : va_W} {post : Int32 → S → Prop} {Wd : S → va_W} {mc ms maxL : Nat} (hy : plainName y.cls = true) (hw : wsl = .code y cc maxL (some .boolean) :: wsl') (hcls : y.cls = own) (hlen : (lg_sl As).length ≤ maxL) {lv0 : List (Nat × Value)} (hlv : lv_args 0 As = lv0) (body : ∀ X : gX, gOK X K maxL cc own wsl → (y.name = "<init>" → gIn X) → (∀ {v : Bool} {u : S} {ws : va_W} {lv : List (Nat × Value)} {pc : Nat}, decode cc pc = .ok (.ireturn, 1) → post (bI v) u → ws = Wd u → VG X l rm K maxL mc ms ws lv [.int (bI v)] pc) → VG X l rm K maxL 0 0 ws0 lv0 [] 0) : Ci l y wsl rm K As ws0 post Wd mc ms := by
  intro sz
  refine Met.ofW hy hw ?_
  intro p e s m args below meth c s₁ B hml hv
  obtain ⟨rfl, hsz, hP, hK, hD0⟩ := hv
  subst hsz
  have hD := hD0.self (sz := s.heap.size)
  have hl := lv_entry As (n := maxL) hlen
  rw [hlv] at hl
  rw [lg_entry_eq]
  have hts := atoms_spec (ws := wsl) B.pre
  have hown : s.vm.findClass own = some m.cls := by rw [← hcls]; exact findClass_of_methodNamed B.named
  have hr := B.returns
  have hlocks := B.notSynchronized
  refine body (p, e, s, m, As.toArray, below, meth, c, va_A ws0 s.heap.size, _) ⟨B.exec, B.bytes, hml, hown, fun w hw => ⟨_, rfl, hts w hw⟩, hK, fun q h => Or.inr h⟩ (fun h => (name_of_methodNamed B.named B.method).1.trans h) ?_ s.heap [] _ hP hD va_S.rf hl
  intro v u ws lv pc hd hpost hw2 H locs ls hP hD hS hl
  subst hw2
  exact W.zret (ty := .boolean) B.exec B.bytes hr (by cases v <;> rfl) (fun t ht hW => ⟨⟨bI v, u, rfl, hpost, by rw [ht]; exact hP, gK.warm hW hK, hD⟩, hS.F ht⟩) hS.2.2 hd
theorem m_l {S : Type} {y : MethodName} {wsl wsl' : List Cond} {rm : Room} {As : List Value} {ws0 : va_W} {post : Int64 → S → Prop} {Wd : S → va_W} {mc ms maxL : Nat} (hy : plainName y.cls = true) (hw : wsl = .code y cc maxL (some .long) :: wsl') (hcls : y.cls = own) (hlen : (lg_sl As).length ≤ maxL) {lv0 : List (Nat × Value)} (hlv : lv_args 0 As = lv0) (body : ∀ X : gX, gOK X K maxL cc own wsl → (y.name = "<init>" → gIn X) → (∀ {v : Int64} {u : S} {ws : va_W} {lv : List (Nat × Value)} {pc : Nat}, decode cc pc = .ok (.lreturn, 1) → post v u → ws = Wd u → VG X l rm K maxL mc ms ws lv [.long v] pc) → VG X l rm K maxL 0 0 ws0 lv0 [] 0) : Cl l y wsl rm K As ws0 post Wd mc ms := by
  intro sz
  refine Met.ofW hy hw ?_
  intro p e s m args below meth c s₁ B hml hv
  obtain ⟨rfl, hsz, hP, hK, hD0⟩ := hv
  subst hsz
  have hD := hD0.self (sz := s.heap.size)
  have hl := lv_entry As (n := maxL) hlen
  rw [hlv] at hl
  rw [lg_entry_eq]
  have hts := atoms_spec (ws := wsl) B.pre
  have hown : s.vm.findClass own = some m.cls := by rw [← hcls]; exact findClass_of_methodNamed B.named
  have hr := B.returns
  have hlocks := B.notSynchronized
  refine body (p, e, s, m, As.toArray, below, meth, c, va_A ws0 s.heap.size, _) ⟨B.exec, B.bytes, hml, hown, fun w hw => ⟨_, rfl, hts w hw⟩, hK, fun q h => Or.inr h⟩ (fun h => (name_of_methodNamed B.named B.method).1.trans h) ?_ s.heap [] _ hP hD va_S.rf hl
  intro v u ws lv pc hd hpost hw2 H locs ls hP hD hS hl
  subst hw2
  exact W.lret B.exec B.bytes hr (fun t ht hW => ⟨⟨v, u, rfl, hpost, by rw [ht]; exact hP, gK.warm hW hK, hD⟩, hS.F ht⟩) hS.2.2 hd
theorem m_v {S : Type} {y : MethodName} {wsl wsl' : List Cond} {rm : Room} {As : List Value} {ws0 : va_W} {post : S → Prop} {Wd : S → va_W} {mc ms maxL : Nat} (hy : plainName y.cls = true) (hw : wsl = .code y cc maxL none :: wsl') (hcls : y.cls = own) (hlen : (lg_sl As).length ≤ maxL) {lv0 : List (Nat × Value)} (hlv : lv_args 0 As = lv0) (body : ∀ X : gX, gOK X K maxL cc own wsl → (y.name = "<init>" → gIn X) → (∀ {u : S} {ws : va_W} {lv : List (Nat × Value)} {pc : Nat}, decode cc pc = .ok (.return_, 1) → post u → ws = Wd u → VG X l rm K maxL mc ms ws lv [] pc) → VG X l rm K maxL 0 0 ws0 lv0 [] 0) : Cv l y wsl rm K As ws0 post Wd mc ms := by
  intro sz
  refine Met.ofW hy hw ?_
  intro p e s m args below meth c s₁ B hml hv
  obtain ⟨rfl, hsz, hP, hK, hD0⟩ := hv
  subst hsz
  have hD := hD0.self (sz := s.heap.size)
  have hl := lv_entry As (n := maxL) hlen
  rw [hlv] at hl
  rw [lg_entry_eq]
  have hts := atoms_spec (ws := wsl) B.pre
  have hown : s.vm.findClass own = some m.cls := by rw [← hcls]; exact findClass_of_methodNamed B.named
  have hr := B.returns
  have hlocks := B.notSynchronized
  refine body (p, e, s, m, As.toArray, below, meth, c, va_A ws0 s.heap.size, _) ⟨B.exec, B.bytes, hml, hown, fun w hw => ⟨_, rfl, hts w hw⟩, hK, fun q h => Or.inr h⟩ (fun h => (name_of_methodNamed B.named B.method).1.trans h) ?_ s.heap [] _ hP hD va_S.rf hl
  intro u ws lv pc hd hpost hw2 H locs ls hP hD hS hl
  subst hw2
  exact W.vret B.exec B.bytes hr (fun t ht hW => ⟨⟨u, rfl, hpost, by rw [ht]; exact hP, gK.warm hW hK, hD⟩, hS.F ht⟩) hS.2.2 hd
theorem m_q {S : Type} {y : MethodName} {wsl wsl' : List Cond} {rm : Room} {As : List Value} {ws0 : va_W} {post : Option Nat → S → Prop} {Wd : S → va_W} {mc ms maxL : Nat} {rt : String} (hy : plainName y.cls = true) (hw : wsl = .code y cc maxL (some (.object rt)) :: wsl') (hcls : y.cls = own) (hlen : (lg_sl As).length ≤ maxL) {lv0 : List (Nat × Value)} (hlv : lv_args 0 As = lv0) (body : ∀ X : gX, gOK X K maxL cc own wsl → (y.name = "<init>" → gIn X) → (∀ {v : (Option Nat)} {u : S} {ws : va_W} {lv : List (Nat × Value)} {pc : Nat}, decode cc pc = .ok (.areturn, 1) → post v u → ws = Wd u → VG X l rm K maxL mc ms ws lv [va_rf v] pc) → VG X l rm K maxL 0 0 ws0 lv0 [] 0) : Cq l y wsl rm K As ws0 post Wd mc ms := by
  intro sz
  refine Met.ofW hy hw ?_
  intro p e s m args below meth c s₁ B hml hv
  obtain ⟨rfl, hsz, hP, hK, hD0⟩ := hv
  subst hsz
  have hD := hD0.self (sz := s.heap.size)
  have hl := lv_entry As (n := maxL) hlen
  rw [hlv] at hl
  rw [lg_entry_eq]
  have hts := atoms_spec (ws := wsl) B.pre
  have hown : s.vm.findClass own = some m.cls := by rw [← hcls]; exact findClass_of_methodNamed B.named
  have hr := B.returns
  have hlocks := B.notSynchronized
  refine body (p, e, s, m, As.toArray, below, meth, c, va_A ws0 s.heap.size, _) ⟨B.exec, B.bytes, hml, hown, fun w hw => ⟨_, rfl, hts w hw⟩, hK, fun q h => Or.inr h⟩ (fun h => (name_of_methodNamed B.named B.method).1.trans h) ?_ s.heap [] _ hP hD va_S.rf hl
  intro v u ws lv pc hd hpost hw2 H locs ls hP hD hS hl
  subst hw2
  exact W.aret (rt := .object rt) B.exec B.bytes hr (Or.inl ⟨_, rfl⟩) (va_rf_or v) (fun t ht hW => ⟨⟨v, u, rfl, hpost, by rw [ht]; exact hP, gK.warm hW hK, hD⟩, hS.F ht⟩) hS.2.2 hd
end GR
theorem gz_b (b : Bool) : vp_nar .boolean (bI b) = bI b := by cases b <;> decide
